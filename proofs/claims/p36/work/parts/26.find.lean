-- printed by wip/p36/gen_m2.py
theorem q_enc35_2 {ad : Nat → Nat → Nat} {cy : Nat → ClassId} {f : Nat → Int32} {a : Nat} (ha : a < 4) : q_enc ad cy (upd f 2 (nI a)) 35 0 = .inr (3, [.ref (ad 27 4), .ref (ad 28 5), .ref (ad 0 a), q_rf ad (f 3), .int (f 4)]) := by
  show Sum.inr (3, [Value.ref (ad 27 4), Value.ref (ad 28 5), q_rf ad (nI a), q_rf ad (f 3), Value.int (f 4)]) = _
  rw [q_rfo rfl ha]
theorem q_enc35_3 {ad : Nat → Nat → Nat} {cy : Nat → ClassId} {f : Nat → Int32} {b : Nat} (hb : b < 4) : q_enc ad cy (upd f 3 (nI b)) 35 0 = .inr (3, [.ref (ad 27 4), .ref (ad 28 5), q_rf ad (f 2), .ref (ad 0 b), .int (f 4)]) := by
  show Sum.inr (3, [Value.ref (ad 27 4), Value.ref (ad 28 5), q_rf ad (f 2), q_rf ad (nI b), Value.int (f 4)]) = _
  rw [q_rfo rfl hb]
def z_set35 (a b : Nat) (S : qM) : qM := q_up S 35 0 (upd (upd (upd (S 35 0) 2 (nI a)) 3 (nI b)) 4 z_NF)
def z_fn : Nat → Int32 := fun j => if j = 0 then 0 else if j = 1 then -1 else if j = 2 then 0 else -1
theorem z_fn_own : z_ownf z_fn := ⟨Or.inl rfl, Or.inl rfl, Or.inl rfl⟩
def z_NoS (S : qM) (a b s : Nat) : Prop := ∀ u p m, u < 6 → p < 16 → z_cand S a b s u p m → z_no S a b (z_fx u p m)
def z_Fd1 (S : qM) (a b : Nat) (T : qM) : Prop := ∃ k t m o, z_E (z_put S z_fn) a (z_br S b z_fn) k t m o ∧ z_tells S a b z_fn (nI k) (z_c t) (z_c m) (z_c o) ∧ z_found T z_fn k t m o
def z_At (S : qM) (a b s : Nat) (T : qM) : Prop := (s = 1 ∧ z_Fd1 S a b T) ∨ (2 ≤ s ∧ z_Fd S a b s T ∧ z_no S a b z_fn ∧ ∀ s', 2 ≤ s' → s' < s → z_NoS S a b s')
def z_findP (S : qM) (a b : Nat) (r : Int32) (T : qM) : Prop := z_I S a b T ∧ ((r = 0 ∧ z_no S a b z_fn ∧ ∀ s', 2 ≤ s' → s' ≤ 6 → z_NoS S a b s') ∨ ∃ s, 1 ≤ s ∧ s ≤ 6 ∧ r = nI s ∧ z_At S a b s T)
theorem z_clr_o {T : qM} : (∀ k i, ¬ (k = 28 ∧ i = 5) → z_clr 5 T k i = T k i) ∧ ∀ p, p < 4 → z_clr 5 T 28 5 p = z_fn p := by
  refine ⟨fun k i h => by simp only [z_clr, q_up, if_neg h], fun p hp => ?_⟩
  have : p = 0 ∨ p = 1 ∨ p = 2 ∨ p = 3 := by omega
  rcases this with rfl | rfl | rfl | rfl <;> simp (config := {decide := true}) only [z_clr, q_up, upd, z_fn, and_self, if_true, if_false]
theorem z_loadF_no {S : qM} {i j : Nat} (h : S 28 j 0 = 0) : z_loadF i j S = 45 := by
  unfold z_loadF
  rw [show z_ld2 i j S 28 j = S 28 j from z_ld2_o.1 28 j (by omega), if_pos h]
theorem z_Fd_lt {S T : qM} {a b s : Nat} (h : z_Fd S a b s T) : T 35 0 4 < z_NF := by
  obtain ⟨u, p, m, k, t, m', o, -, -, -, -, -, hf⟩ := h
  exact hf.1
theorem z_At_lt {S T : qM} {a b s : Nat} (h : z_At S a b s T) : ¬ T 35 0 4 = z_NF := by
  intro e
  have : T 35 0 4 < z_NF := by
    rcases h with ⟨-, k, t, m, o, -, -, hf⟩ | ⟨-, h, -⟩
    · exact hf.1
    · exact z_Fd_lt h
  rw [e] at this
  exact absurd this (by decide)
abbrev rm_X4_find : Room := { frames := 4, cells := 0, slots := 0, locals := 123 }
set_option maxHeartbeats 4000000 in
set_option maxRecDepth 100000 in
theorem c_X4_find {L : qL} (hD : q_D L.2.2.2.1) : qCT L yX4_find cX4_find 4 (some .int) rm_X4_find (fun ad _ (x : Nat × Nat) => [.ref (ad 35 0), .ref (ad 0 x.1), .ref (ad 0 x.2)]) (fun x S => x.1 < 4 ∧ x.2 < 4 ∧ z_wf S x.1 ∧ z_wf S x.2) (qPi (fun x S r S' => z_findP (z_set35 x.1 x.2 S) x.1 x.2 r S')) := by
  refine q_met hD (by decide) (fun _ => Nat.le_of_ble_eq_true rfl) (fun Γ x S hΓ hpre hC => ?_)
  subst hΓ
  obtain ⟨a, b⟩ := x
  obtain ⟨ha, hb, hWa, hWb⟩ := hpre
  have ha : a < 4 := ha
  have hb : b < 4 := hb
  have hWa : z_wf S a := hWa
  have hWb : z_wf S b := hWb
  obtain ⟨T0, hT0⟩ : ∃ T0, T0 = z_set35 a b S := ⟨_, rfl⟩
  have ok : ∀ i k, k < 27 → T0 k i = S k i := fun i k hk => by rw [hT0]; simp (config := {decide := true}) only [z_set35, q_up]; rw [if_neg (by omega)]
  have w0a : z_wf T0 a := z_wf_out (ok a) hWa
  have w0b : z_wf T0 b := z_wf_out (ok b) hWb
  have e2 : T0 35 0 2 = nI a := by rw [hT0]; simp (config := {decide := true}) only [z_set35, q_up, upd, and_self, if_true, if_false]
  have e3 : T0 35 0 3 = nI b := by rw [hT0]; simp (config := {decide := true}) only [z_set35, q_up, upd, and_self, if_true, if_false]
  have e4 : T0 35 0 4 = z_NF := by rw [hT0]; simp (config := {decide := true}) only [z_set35, q_up, upd, and_self, if_true, if_false]
  obtain ⟨c1, c2⟩ := z_clr_o (T := T0)
  have hI1 : z_I T0 a b (z_clr 5 T0) := ⟨⟨z_bs_out fun k hk => c1 k a (by omega), z_bs_out fun k hk => c1 k b (by omega), fun k i _ _ h3 _ _ => c1 k i (by omega), fun p _ => by rw [c1 35 0 (by omega)]⟩, z_wf_out (fun k hk => c1 k a (by omega)) w0a, z_wf_out (fun k hk => c1 k b (by omega)) w0b, Or.inl (c2 0 (by omega))⟩
  have own1 : z_own (z_clr 5 T0) 5 := ⟨Or.inl (c2 0 (by omega)), Or.inl (c2 1 (by omega)), Or.inl (c2 3 (by omega))⟩
  have hI2 : z_I T0 a b (z_loadS a 5 (z_clr 5 T0)) := z_I_load (Or.inl rfl) hI1 own1
  have own2 : z_own (z_loadS a 5 (z_clr 5 T0)) 5 := by unfold z_own; rw [z_load_fr own1.2.1 28 5 (by omega)]; exact own1
  have hI3 : z_I T0 a b (z_loadS b 5 (z_loadS a 5 (z_clr 5 T0))) := z_I_load (Or.inr rfl) hI2 own2
  obtain ⟨o1, l1⟩ := z_I_old hI1 e2 e3
  obtain ⟨o2, l2⟩ := z_I_old hI2 e2 e3
  obtain ⟨o3, l3⟩ := z_I_old hI3 e2 e3
  have hFa : z_loadF a 5 (z_clr 5 T0) = 45 := z_loadF_no (c2 0 (by omega))
  have hFb : z_loadF b 5 (z_loadS a 5 (z_clr 5 T0)) = 45 := z_loadF_no (by rw [z_load_fr own1.2.1 28 5 (by omega)]; exact c2 0 (by omega))
  have L : ∀ (n s : Nat) (T : qM), s + n = 6 → 1 ≤ s → z_I T0 a b T → ((T 35 0 4 = z_NF ∧ z_no T0 a b z_fn ∧ ∀ s', 2 ≤ s' → s' ≤ s → z_NoS T0 a b s') ∨ z_At T0 a b s T) → qV Γ rm_X4_find 4 54 [(0, .ref (q_ad Γ 35 0)), (1, .ref (q_ad Γ 0 a)), (2, .ref (q_ad Γ 0 b)), (3, .int (nI s))] [] T (0, 0) := by
    intro n
    induction n with
    | zero =>
      intro s T hsn hs1 hI hD
      obtain rfl : s = 6 := by omega
      refine q_aload_n hC 0 dX4_find_54 rfl rfl ?_
      refine q_get_f hC f_X4_33 dX4_find_55 rfl rfl (Nat.le_of_ble_eq_true rfl) rfl ?_
      refine q_ldc hC dX4_find_58 cn_X4_32 rfl ?_
      refine q_icmp_ne hC dX4_find_60 (t := 80) (n := 63) (by decide) rfl (fun h60 => ?_) (fun h60 => ?_)
      · refine q_aload_n hC 0 dX4_find_80 rfl rfl ?_
        refine q_get_f hC f_X4_33 dX4_find_81 rfl rfl (Nat.le_of_ble_eq_true rfl) rfl ?_
        refine q_ldc hC dX4_find_84 cn_X4_32 rfl ?_
        refine q_icmp_ne hC dX4_find_86 (t := 93) (n := 89) (by decide) rfl (fun h86 => ?_) (fun h86 => ?_)
        · refine q_iload_n hC 3 dX4_find_93 rfl rfl ?_
          refine q_iret hC dX4_find_94 rfl ⟨by decide, by decide⟩ ⟨_, rfl, ?_⟩
          refine show z_findP (z_set35 a b S) a b _ T from ?_
          rw [← hT0]
          refine ⟨hI, ?_⟩
          rcases hD with ⟨h1, h2, h3⟩ | h1
          · first
              | exact Or.inl ⟨rfl, h2, fun s' ha hb => h3 s' ha (by omega)⟩
              | exact absurd h1 (by assumption)
              | (exfalso; first | exact h66 (by decide) | exact absurd h66 (by decide))
          · first
              | exact Or.inr ⟨s, by omega, by omega, rfl, h1⟩
              | exact Or.inr ⟨6, by omega, by omega, rfl, h1⟩
              | exact absurd (by assumption) (z_At_lt h1)
        · refine q_iconst hC dX4_find_89 (v := 0) (by decide) rfl ?_
          refine q_goto hC dX4_find_90 (n := 94) (by decide) ?_
          refine q_iret hC dX4_find_94 rfl ⟨by decide, by decide⟩ ⟨_, rfl, ?_⟩
          refine show z_findP (z_set35 a b S) a b _ T from ?_
          rw [← hT0]
          refine ⟨hI, ?_⟩
          rcases hD with ⟨h1, h2, h3⟩ | h1
          · first
              | exact Or.inl ⟨rfl, h2, fun s' ha hb => h3 s' ha (by omega)⟩
              | exact absurd h1 (by assumption)
              | (exfalso; first | exact h66 (by decide) | exact absurd h66 (by decide))
          · first
              | exact Or.inr ⟨s, by omega, by omega, rfl, h1⟩
              | exact Or.inr ⟨6, by omega, by omega, rfl, h1⟩
              | exact absurd (by assumption) (z_At_lt h1)
      · refine q_iload_n hC 3 dX4_find_63 rfl rfl ?_
        refine q_bipush hC dX4_find_64 (v := 6) (by decide) rfl ?_
        refine q_icmp_ge hC dX4_find_66 (t := 80) (n := 69) (by decide) rfl (fun h66 => ?_) (fun h66 => absurd (by decide) h66)
        refine q_aload_n hC 0 dX4_find_80 rfl rfl ?_
        refine q_get_f hC f_X4_33 dX4_find_81 rfl rfl (Nat.le_of_ble_eq_true rfl) rfl ?_
        refine q_ldc hC dX4_find_84 cn_X4_32 rfl ?_
        refine q_icmp_ne hC dX4_find_86 (t := 93) (n := 89) (by decide) rfl (fun h86 => ?_) (fun h86 => ?_)
        · refine q_iload_n hC 3 dX4_find_93 rfl rfl ?_
          refine q_iret hC dX4_find_94 rfl ⟨by decide, by decide⟩ ⟨_, rfl, ?_⟩
          refine show z_findP (z_set35 a b S) a b _ T from ?_
          rw [← hT0]
          refine ⟨hI, ?_⟩
          rcases hD with ⟨h1, h2, h3⟩ | h1
          · first
              | exact Or.inl ⟨rfl, h2, fun s' ha hb => h3 s' ha (by omega)⟩
              | exact absurd h1 (by assumption)
              | (exfalso; first | exact h66 (by decide) | exact absurd h66 (by decide))
          · first
              | exact Or.inr ⟨s, by omega, by omega, rfl, h1⟩
              | exact Or.inr ⟨6, by omega, by omega, rfl, h1⟩
              | exact absurd (by assumption) (z_At_lt h1)
        · refine q_iconst hC dX4_find_89 (v := 0) (by decide) rfl ?_
          refine q_goto hC dX4_find_90 (n := 94) (by decide) ?_
          refine q_iret hC dX4_find_94 rfl ⟨by decide, by decide⟩ ⟨_, rfl, ?_⟩
          refine show z_findP (z_set35 a b S) a b _ T from ?_
          rw [← hT0]
          refine ⟨hI, ?_⟩
          rcases hD with ⟨h1, h2, h3⟩ | h1
          · first
              | exact Or.inl ⟨rfl, h2, fun s' ha hb => h3 s' ha (by omega)⟩
              | exact absurd h1 (by assumption)
              | (exfalso; first | exact h66 (by decide) | exact absurd h66 (by decide))
          · first
              | exact Or.inr ⟨s, by omega, by omega, rfl, h1⟩
              | exact Or.inr ⟨6, by omega, by omega, rfl, h1⟩
              | exact absurd (by assumption) (z_At_lt h1)
    | succ n ih =>
      intro s T hsn hs1 hI hD
      obtain ⟨o0, l0⟩ := z_I_old hI e2 e3
      refine q_aload_n hC 0 dX4_find_54 rfl rfl ?_
      refine q_get_f hC f_X4_33 dX4_find_55 rfl rfl (Nat.le_of_ble_eq_true rfl) rfl ?_
      refine q_ldc hC dX4_find_58 cn_X4_32 rfl ?_
      refine q_icmp_ne hC dX4_find_60 (t := 80) (n := 63) (by decide) rfl (fun h60 => ?_) (fun h60 => ?_)
      · refine q_aload_n hC 0 dX4_find_80 rfl rfl ?_
        refine q_get_f hC f_X4_33 dX4_find_81 rfl rfl (Nat.le_of_ble_eq_true rfl) rfl ?_
        refine q_ldc hC dX4_find_84 cn_X4_32 rfl ?_
        refine q_icmp_ne hC dX4_find_86 (t := 93) (n := 89) (by decide) rfl (fun h86 => ?_) (fun h86 => ?_)
        · refine q_iload_n hC 3 dX4_find_93 rfl rfl ?_
          refine q_iret hC dX4_find_94 rfl ⟨by decide, by decide⟩ ⟨_, rfl, ?_⟩
          refine show z_findP (z_set35 a b S) a b _ T from ?_
          rw [← hT0]
          refine ⟨hI, ?_⟩
          rcases hD with ⟨h1, h2, h3⟩ | h1
          · first
              | exact Or.inl ⟨rfl, h2, fun s' ha hb => h3 s' ha (by omega)⟩
              | exact absurd h1 (by assumption)
              | (exfalso; first | exact h66 (by decide) | exact absurd h66 (by decide))
          · first
              | exact Or.inr ⟨s, by omega, by omega, rfl, h1⟩
              | exact Or.inr ⟨6, by omega, by omega, rfl, h1⟩
              | exact absurd (by assumption) (z_At_lt h1)
        · refine q_iconst hC dX4_find_89 (v := 0) (by decide) rfl ?_
          refine q_goto hC dX4_find_90 (n := 94) (by decide) ?_
          refine q_iret hC dX4_find_94 rfl ⟨by decide, by decide⟩ ⟨_, rfl, ?_⟩
          refine show z_findP (z_set35 a b S) a b _ T from ?_
          rw [← hT0]
          refine ⟨hI, ?_⟩
          rcases hD with ⟨h1, h2, h3⟩ | h1
          · first
              | exact Or.inl ⟨rfl, h2, fun s' ha hb => h3 s' ha (by omega)⟩
              | exact absurd h1 (by assumption)
              | (exfalso; first | exact h66 (by decide) | exact absurd h66 (by decide))
          · first
              | exact Or.inr ⟨s, by omega, by omega, rfl, h1⟩
              | exact Or.inr ⟨6, by omega, by omega, rfl, h1⟩
              | exact absurd (by assumption) (z_At_lt h1)
      · refine q_iload_n hC 3 dX4_find_63 rfl rfl ?_
        refine q_bipush hC dX4_find_64 (v := 6) (by decide) rfl ?_
        refine q_icmp_ge hC dX4_find_66 (t := 80) (n := 69) (by decide) rfl (fun h66 => absurd h66 (nI_ge (a := s) (b := 6) (by omega) (by decide))) (fun h66 => ?_)
        refine q_iinc hC 3 dX4_find_69 rfl (v := nI (s + 1)) (z_inc s) (by decide) (ls' := [(0, _), (1, _), (2, _), (3, _)]) rfl rfl ?_
        refine q_aload_n hC 0 dX4_find_72 rfl rfl ?_
        refine q_iload_n hC 3 dX4_find_73 rfl rfl ?_
        refine q_callV hC (c_X4_trySize (q_hD hC)) m_X4_trySize lk_X4_50 dX4_find_74 (T0, a, b, s + 1) rfl rfl rfl rfl rfl (Nat.le_of_ble_eq_true rfl) (Nat.le_of_ble_eq_true rfl) ⟨⟨by decide, by decide⟩, by decide, by decide⟩ rfl (k' := (0, 0)) rfl ⟨ha, hb, hI, e2, e3, h60⟩ (fun v S' hp => ?_)
        obtain ⟨rfl, hts⟩ := hp
        have hI' : z_I T0 a b S' := hts.1
        have hts2 : z_Dj T0 a b (s + 1) (z_NoS T0 a b (s + 1)) S' := hts.2
        show qV Γ _ _ 77 _ _ _ _
        refine q_goto hC dX4_find_77 (n := 54) (by decide) ?_
        refine ih (s + 1) S' (by omega) (by omega) hI' ?_
        have hN := hD.elim (fun z => z.2) (fun z => absurd h60 (z_At_lt z))
        rcases hts2 with ⟨h1, h2⟩ | h1
        · refine Or.inl ⟨h1, hN.1, fun s' ha hb => ?_⟩
          rcases Nat.lt_or_ge s s' with h | h
          · obtain rfl : s' = s + 1 := by omega
            exact h2
          · exact hN.2 s' ha h
        · exact Or.inr (Or.inr ⟨by omega, h1, hN.1, fun s' ha hb => hN.2 s' ha (by omega)⟩)
  show qV Γ _ _ 0 [(0, .ref (q_ad Γ 35 0)), (1, .ref (q_ad Γ 0 a)), (2, .ref (q_ad Γ 0 b))] [] S (0, 0)
  refine q_aload_n hC 0 dX4_find_0 rfl rfl ?_
  refine q_aload_n hC 1 dX4_find_1 rfl rfl ?_
  refine q_put_f hC (nI a) fp_X4_25 dX4_find_2 rfl (q_enc35_2 ha) (Nat.le_of_ble_eq_true rfl) rfl rfl (Nat.le_of_ble_eq_true rfl) rfl ?_
  refine q_aload_n hC 0 dX4_find_5 rfl rfl ?_
  refine q_aload_n hC 2 dX4_find_6 rfl rfl ?_
  refine q_put_f hC (nI b) fp_X4_29 dX4_find_7 rfl (q_enc35_3 hb) (Nat.le_of_ble_eq_true rfl) rfl rfl (Nat.le_of_ble_eq_true rfl) rfl ?_
  refine q_aload_n hC 0 dX4_find_10 rfl rfl ?_
  refine q_ldc hC dX4_find_11 cn_X4_32 rfl ?_
  refine q_put_i hC fp_X4_33 dX4_find_13 rfl rfl (Nat.le_of_ble_eq_true rfl) rfl rfl (Nat.le_of_ble_eq_true rfl) rfl ?_
  have eT0 : z_set35 a b S = _ := rfl
  refine (fun (hh : qV Γ rm_X4_find 4 16 [(0, .ref (q_ad Γ 35 0)), (1, .ref (q_ad Γ 0 a)), (2, .ref (q_ad Γ 0 b))] [] T0 (0, 0)) => ?_) ?_
  · rw [hT0] at hh
    unfold z_set35 z_NF at hh
    simp (config := {decide := true}) only [q_up_k, q_up_same, q_upup, ne_eq, not_false_eq_true] at hh ⊢
    exact hh
  refine q_aload_n hC 0 dX4_find_16 rfl rfl ?_
  refine q_get_f hC f_X4_21 dX4_find_17 rfl rfl (Nat.le_of_ble_eq_true rfl) rfl ?_
  refine q_callV hC (c_X7_clear (q_hD hC)) m_X7_clear lk_X4_37 dX4_find_20 5 rfl rfl rfl rfl rfl (Nat.le_of_ble_eq_true rfl) (Nat.le_of_ble_eq_true rfl) ⟨⟨by decide, by decide⟩, by decide, by decide⟩ rfl (k' := (0, 0)) rfl (show 5 < 6 by decide) (fun v S' hp => ?_)
  obtain ⟨rfl, rfl⟩ := hp
  show qV Γ _ _ 23 _ _ _ _
  refine q_aload_n hC 0 dX4_find_23 rfl rfl ?_
  refine q_get_f hC f_X4_25 dX4_find_24 rfl (q_rfs o1 ha) (Nat.le_of_ble_eq_true rfl) rfl ?_
  refine q_aload_n hC 0 dX4_find_27 rfl rfl ?_
  refine q_get_f hC f_X4_21 dX4_find_28 rfl rfl (Nat.le_of_ble_eq_true rfl) rfl ?_
  refine q_callV hC (c_X5_load (q_hD hC)) m_X5_load lk_X4_40 dX4_find_31 (a, 5) rfl rfl rfl rfl rfl ha (Nat.le_of_ble_eq_true rfl) ⟨⟨by decide, by decide⟩, by decide, by decide⟩ rfl (k' := (0, 0)) rfl ⟨ha, (show 5 < 6 by decide), own1, hI1.2.1.1, z_wf_s20 hI1.2.1⟩ (fun v S' hp => ?_)
  obtain ⟨r31_2, rfl, hr31_2, rfl⟩ := hp
  show qV Γ _ _ 34 _ (.int _ :: _) _ _
  refine q_pop hC dX4_find_34 rfl rfl ?_
  refine q_aload_n hC 0 dX4_find_35 rfl rfl ?_
  refine q_get_f hC f_X4_29 dX4_find_36 rfl (q_rfs l2 hb) (Nat.le_of_ble_eq_true rfl) rfl ?_
  refine q_aload_n hC 0 dX4_find_39 rfl rfl ?_
  refine q_get_f hC f_X4_21 dX4_find_40 rfl rfl (Nat.le_of_ble_eq_true rfl) rfl ?_
  refine q_callV hC (c_X5_load (q_hD hC)) m_X5_load lk_X4_40 dX4_find_43 (b, 5) rfl rfl rfl rfl rfl hb (Nat.le_of_ble_eq_true rfl) ⟨⟨by decide, by decide⟩, by decide, by decide⟩ rfl (k' := (0, 0)) rfl ⟨hb, (show 5 < 6 by decide), own2, hI2.2.2.1.1, z_wf_s20 hI2.2.2.1⟩ (fun v S' hp => ?_)
  obtain ⟨r43_3, rfl, hr43_3, rfl⟩ := hp
  show qV Γ _ _ 46 _ (.int _ :: _) _ _
  refine q_pop hC dX4_find_46 rfl rfl ?_
  refine q_aload_n hC 0 dX4_find_47 rfl rfl ?_
  refine q_iconst hC dX4_find_48 (v := 0) (by decide) rfl ?_
  refine q_callV hC (c_X4_tryActs (q_hD hC)) m_X4_tryActs lk_X4_46 dX4_find_49 (a, b, 0) rfl rfl rfl rfl rfl (Nat.le_of_ble_eq_true rfl) (Nat.le_of_ble_eq_true rfl) ⟨⟨by decide, by decide⟩, by decide, by decide⟩ rfl (k' := (0, 0)) rfl ⟨ha, hb, o3, l3, hI3.2.1, hI3.2.2.1, hI3.2.2.2⟩ (fun v S' hp => ?_)
  obtain ⟨rfl, hta⟩ := hp
  have hta' : z_taPost a b 0 (z_loadS b 5 (z_loadS a 5 (z_clr 5 T0))) S' := hta
  show qV Γ _ _ 52 _ _ _ _
  refine q_iconst hC dX4_find_52 (v := 1) (by decide) rfl ?_
  refine q_istore_n hC dX4_find_53 (by decide) (ls' := [(0, _), (1, _), (2, _), (3, _)]) rfl rfl ?_
  have z := z_turn ha hb hI1 c2 z_fn_own hFa (by rw [if_pos hFb]) hta'
  refine L 5 1 S' (by omega) (by omega) z.1 ?_
  have en : z_clr 5 T0 35 0 4 = z_NF := by rw [c1 35 0 (by omega)]; exact e4
  rcases z.2 with ⟨h1, h2, h3⟩ | ⟨k, t, m, o, h1, h2, h3⟩
  · exact Or.inl ⟨h1.trans en, h3 en, fun s' ha hb => absurd ha (by omega)⟩
  · exact Or.inr (Or.inl ⟨rfl, k, t, m, o, h1, h2, h3⟩)
