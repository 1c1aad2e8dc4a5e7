-- printed by wip/p36/gen_m2.py
def z_msk (f : Nat → Bool) : Nat → Nat
  | 0 => 0
  | b + 1 => z_msk f b + (if f b = true then 2 ^ b else 0)
theorem z_msk_lt (f : Nat → Bool) : ∀ b, z_msk f b < 2 ^ b
  | 0 => Nat.lt_succ_self 0
  | b + 1 => by
    have h := z_msk_lt f b
    unfold z_msk
    rw [Nat.pow_succ]
    split <;> omega
theorem z_or_bit : ∀ b, b < 5 → ∀ w, w < 2 ^ b → (nI w ||| ((1 : Int32) <<< (nI b &&& 31))) = nI (w + 2 ^ b) ∧ (nI w ||| 0) = nI w := by decide +kernel
theorem z_msk_has {f : Nat → Bool} {p : Nat} (hp : p < 5) : z_has (nI (z_msk f 5)) (nI p) = if f p = true then 1 else 0 := by
  have key : ∀ a0 a1 a2 a3 a4 : Bool, ∀ p, p < 5 → z_has (nI (0 + (if a0 = true then 2 ^ 0 else 0) + (if a1 = true then 2 ^ 1 else 0) + (if a2 = true then 2 ^ 2 else 0) + (if a3 = true then 2 ^ 3 else 0) + (if a4 = true then 2 ^ 4 else 0))) (nI p)
    = if (match p with | 0 => a0 | 1 => a1 | 2 => a2 | 3 => a3 | _ => a4) = true then 1 else 0 := by decide +kernel
  have h := key (f 0) (f 1) (f 2) (f 3) (f 4) p hp
  rcases (by omega : p = 0 ∨ p = 1 ∨ p = 2 ∨ p = 3 ∨ p = 4) with rfl | rfl | rfl | rfl | rfl <;> exact h
def z_fT (S : qM) (i : Nat) (p : Nat) : Bool := decide (¬ S 2 i p = 45)
def z_fC (S : qM) (i : Nat) (p : Nat) : Bool := decide (S 2 i p = 99)
def z_dm (S T : qM) (i b : Nat) : Prop := (∀ k' i', ¬ (k' = 17 ∧ i' = i) → T k' i' = S k' i') ∧ (∀ p, ¬ p = 0 → ¬ p = 1 → T 17 i p = S 17 i p) ∧ T 17 i 0 = nI (z_msk (z_fT S i) b) ∧ T 17 i 1 = nI (z_msk (z_fC S i) b)
theorem z_dm_s {S T : qM} {i b : Nat} {y z : Int32} (h : z_dm S T i b) (hb : b < 5) (hy : y = if S 2 i b = 45 then (0 : Int32) else (1 : Int32) <<< (nI b &&& 31)) (hz : z = if S 2 i b = 99 then (1 : Int32) <<< (nI b &&& 31) else (0 : Int32)) :
    z_dm S (q_up (q_up T 17 i (upd (T 17 i) 0 (T 17 i 0 ||| y))) 17 i (upd (q_up T 17 i (upd (T 17 i) 0 (T 17 i 0 ||| y)) 17 i) 1 (q_up T 17 i (upd (T 17 i) 0 (T 17 i 0 ||| y)) 17 i 1 ||| z))) i (b + 1) := by
  obtain ⟨h1, h2, h3, h4⟩ := h
  refine ⟨fun k' i' hk => ?_, fun p hp hp' => ?_, ?_, ?_⟩ <;> simp (config := {decide := true}) only [q_up, and_self, if_true, upd, if_false]
  · rw [if_neg hk, if_neg hk]; exact h1 k' i' hk
  · rw [if_neg hp', if_neg hp]; exact h2 p hp hp'
  · rw [h3, hy]
    rw [show z_msk (z_fT S i) (b + 1) = z_msk (z_fT S i) b + (if z_fT S i b = true then 2 ^ b else 0) from rfl]
    by_cases e : S 2 i b = 45
    · have ef : z_fT S i b = false := by simp [z_fT, e]
      rw [if_pos e, ef, if_neg (by decide)]; exact (z_or_bit b hb _ (z_msk_lt _ b)).2
    · have ef : z_fT S i b = true := by simp [z_fT, e]
      rw [if_neg e, ef, if_pos rfl]; exact (z_or_bit b hb _ (z_msk_lt _ b)).1
  · rw [h4, hz]
    rw [show z_msk (z_fC S i) (b + 1) = z_msk (z_fC S i) b + (if z_fC S i b = true then 2 ^ b else 0) from rfl]
    by_cases e : S 2 i b = 99
    · have ef : z_fC S i b = true := by simp [z_fC, e]
      rw [if_pos e, ef, if_pos rfl]; exact (z_or_bit b hb _ (z_msk_lt _ b)).1
    · have ef : z_fC S i b = false := by simp [z_fC, e]
      rw [if_neg e, ef, if_neg (by decide)]; exact (z_or_bit b hb _ (z_msk_lt _ b)).2
theorem z_dm_0 {S : qM} {i : Nat} : z_dm S (q_up (q_up S 17 i (upd (S 17 i) 0 0)) 17 i (upd (q_up S 17 i (upd (S 17 i) 0 0) 17 i) 1 0)) i 0 := by
  refine ⟨fun k' i' hk => ?_, fun p hp hp' => ?_, ?_, ?_⟩ <;> simp (config := {decide := true}) only [q_up, and_self, if_true, upd, if_false]
  · rw [if_neg hk, if_neg hk]
  · rw [if_neg hp', if_neg hp]
  · rfl
  · rfl
theorem z_dm_m5 {S T : qM} {i : Nat} (h : z_dm S T i 5) : z_m5 (T 17 i 0) ∧ z_m5 (T 17 i 1) := ⟨⟨_, z_msk_lt _ 5, h.2.2.1⟩, ⟨_, z_msk_lt _ 5, h.2.2.2⟩⟩
/-- what a row of the tables may hold -/
def z_rw (C T : qM) (i r : Nat) : Prop := ∀ q, q < 6 → (T 19 i (r * 6 + q) = -1 ∨ ∃ a, a < 5 ∧ T 19 i (r * 6 + q) = nI a ∧ ¬ C 10 i (a * 6 + q) = 45) ∧ z_v5 (T 20 i (r * 6 + q)) ∧
  (T 23 i (r * 6 + q) = -1 ∨ (z_lt (T 23 i (r * 6 + q)) 5 ∧ ∃ a, a < 5 ∧ (¬ C 10 i (a * 6 + q) = 45 ∨ ¬ C 11 i (a * 6 + q) = 45))) ∧ (T 24 i (r * 6 + q) = -65 ∨ T 24 i (r * 6 + q) = -73 ∨ z_v5 (T 24 i (r * 6 + q)))
def z_dr (C T : qM) (i b : Nat) : Prop := (∀ k' i', ¬ ((k' = 19 ∨ k' = 20 ∨ k' = 23 ∨ k' = 24) ∧ i' = i) → T k' i' = C k' i') ∧ (∀ p, p < 36 → z_v6 (T 20 i p)) ∧ (∀ r, r < b → z_rw C T i r) ∧ ∀ p, 30 ≤ p → T 23 i p = C 23 i p ∧ T 24 i p = C 24 i p
theorem z_near0 (ab : Nat → Int32) : z_near ab 0 = 0 := by
  unfold z_near
  rw [if_pos rfl]
theorem z_and0 (x : Int32) : (0 : Int32) &&& x = 0 := by simp
theorem z_res_ok {C T : qM} {i r q : Nat} (hC : T 21 i q = C 21 i q) (hm : C 21 i q = 0 ∨ ∃ t, t < 5 ∧ ¬ C 11 i (t * 6 + q) = 45) (hr : r < 5) (hq : q < 6)
    (h19 : T 19 i (r * 6 + q) = -1 ∨ ∃ a, a < 5 ∧ T 19 i (r * 6 + q) = nI a ∧ ¬ C 10 i (a * 6 + q) = 45) :
    z_rres T i (nI r) q = -1 ∨ (z_lt (z_rres T i (nI r) q) 5 ∧ ∃ a, a < 5 ∧ (¬ C 10 i (a * 6 + q) = 45 ∨ ¬ C 11 i (a * 6 + q) = 45)) := by
  unfold z_rres
  rw [z_t6 (by omega) hq]
  by_cases e : T 19 i (r * 6 + q) = -1
  · rw [if_pos e]
    rcases hm with h0 | ⟨t, ht, hk⟩
    · have hn : z_rnear T i (nI r) q = 0 := by
        unfold z_rnear
        rw [hC, h0, z_and0, z_near0]
      rw [hn, z_and0]
      exact Or.inl (by decide)
    · rcases z_lowest_r (if z_bc (z_rnear T i (nI r) q &&& T 22 i q) = 1 then z_rnear T i (nI r) q &&& T 22 i q else z_rnear T i (nI r) q) with h | h
      · exact Or.inl h
      · exact Or.inr ⟨h, t, ht, Or.inr hk⟩
  · rw [if_neg e]
    rcases h19 with h | ⟨a, ha, h, hk⟩
    · exact Or.inl h
    · exact Or.inr ⟨⟨a, ha, h⟩, a, ha, Or.inl hk⟩
theorem z_sel_ok {T : qM} {i r q : Nat} (hr : r < 5) (hq : q < 6) (h20 : z_v5 (T 20 i (r * 6 + q))) :
    z_rsel T i (nI r) q = -65 ∨ z_rsel T i (nI r) q = -73 ∨ z_v5 (z_rsel T i (nI r) q) := by
  unfold z_rsel
  rw [z_t6 (by omega) hq]
  repeat' split
  · exact Or.inr (Or.inr (z_lowest_r _))
  · exact Or.inl rfl
  · exact Or.inr (Or.inl rfl)
  · exact Or.inr (Or.inr h20)
  · exact Or.inl rfl
  · exact Or.inr (Or.inr h20)
theorem z_dr_s {C T T1 : qM} {i t : Nat} (h : z_dr C T i t) (ht : t < 5) (hm : ∀ q, q < 6 → C 21 i q = 0 ∨ ∃ a, a < 5 ∧ ¬ C 11 i (a * 6 + q) = 45) (g : z_wc T T1 i t) : z_dr C (z_dcIt i (nI t) 6 0 T1) i (t + 1) := by
  obtain ⟨d1, d2, d3⟩ := z_dcIt_spec (i := i) (t := t) (by omega) 6 0 T1 (by omega)
  have e10 : T 10 i = C 10 i := h.1 10 i (by omega)
  have e21 : T1 21 i = C 21 i := (g.1 21 i (by omega)).trans (h.1 21 i (by omega))
  have w6 : ∀ p, p < 36 → z_v6 (T1 20 i p) := by
    intro p hp
    by_cases e : p < t * 6 ∨ t * 6 + 6 ≤ p
    · rw [(g.2.1 p e).2]; exact h.2.1 p hp
    · obtain ⟨-, w⟩ := g.2.2 (p - t * 6) (by omega)
      rw [show t * 6 + (p - t * 6) = p by omega] at w
      exact z_v56 w
  refine ⟨fun k' i' hk => ?_, fun p hp => ?_, fun r hr q hq => ?_, fun p hp => ?_⟩
  · rw [d1 k' i' (by omega), g.1 k' i' (by omega)]
    exact h.1 k' i' hk
  · rw [d1 20 i (by omega)]; exact w6 p hp
  · rw [d1 19 i (by omega), d1 20 i (by omega)]
    by_cases e : r = t
    · subst e
      obtain ⟨a1, a2⟩ := g.2.2 q hq
      rw [e10] at a1
      obtain ⟨b1, b2⟩ := d3 q (by omega) (by omega)
      rw [b1, b2]
      exact ⟨a1, a2, z_res_ok (by rw [e21]) (hm q hq) ht hq a1, z_sel_ok ht hq a2⟩
    · obtain ⟨f1, f2⟩ := g.2.1 (r * 6 + q) (by omega)
      obtain ⟨f3, f4⟩ := d2 (r * 6 + q) (by omega)
      rw [f1, f2, f3, f4, g.1 23 i (by omega), g.1 24 i (by omega)]
      exact h.2.2.1 r (by omega) q hq
  · obtain ⟨f3, f4⟩ := d2 p (by omega)
    rw [f3, f4, g.1 23 i (by omega), g.1 24 i (by omega)]
    exact h.2.2.2 p hp
def z_dv (S X : qM) (i : Nat) : Prop := ∃ A B C, z_dm S A i 5 ∧ z_ab A B i 5 ∧ z_im B C i ∧ z_dr C X i 5
abbrev rm_X3_derive : Room := { frames := 2, cells := 0, slots := 0, locals := 52 }
set_option maxHeartbeats 4000000 in
set_option maxRecDepth 100000 in
theorem c_X3_derive {L : qL} (hD : q_D L.2.2.2.1) : qCT L yX3_derive cX3_derive 3 none rm_X3_derive (fun ad _ (x : Nat × Unit) => [.ref (ad 17 x.1), .ref (ad 1 x.1)]) (fun x S => x.1 < 4 ∧ z_sups S x.1 ∧ (∀ p, p < 5 → z_m5 (S 8 x.1 p)) ∧ ∀ p, p < 36 → z_v6 (S 20 x.1 p)) (qPv (fun x S S' => z_dv S S' x.1)) := by
  refine q_met hD (by decide) (fun _ => Nat.le_of_ble_eq_true rfl) (fun Γ x S hΓ hpre hC => ?_)
  subst hΓ
  obtain ⟨i, u⟩ := x
  obtain ⟨hi, hS, h8, h20⟩ := hpre
  have hi : i < 4 := hi
  have hS : z_sups S i := hS
  have h8 : ∀ p, p < 5 → z_m5 (S 8 i p) := h8
  have h20 : ∀ p, p < 36 → z_v6 (S 20 i p) := h20
  have FIN : ∀ A B C X : qM, z_dm S A i 5 → z_ab A B i 5 → z_im B C i → z_dr C X i 5 → z_dv S X i := fun A B C X h1 h2 h3 h4 => ⟨A, B, C, h1, h2, h3, h4⟩
  have L2 : ∀ (n t : Nat) (A B C T : qM), t + n = 5 → z_dm S A i 5 → z_ab A B i 5 → z_im B C i → z_sups C i → (∀ q, q < 6 → C 21 i q = 0 ∨ ∃ a, a < 5 ∧ ¬ C 11 i (a * 6 + q) = 45) → z_dr C T i t → qV Γ rm_X3_derive 3 92 [(0, .ref (q_ad Γ 17 i)), (1, .ref (q_ad Γ 1 i)), (2, .int (nI t))] [] T (0, 0) := by
    intro n
    induction n with
    | zero =>
      intro t A B C T hmn hA hB hIm hs hm hI
      obtain rfl : t = 5 := by omega
      refine q_iload_n hC 2 dX3_derive_92 rfl rfl ?_
      refine q_iconst hC dX3_derive_93 (v := 5) (by decide) rfl ?_
      refine q_icmp_ge hC dX3_derive_94 (t := 115) (n := 97) (by decide) rfl (fun h94 => ?_) (fun h94 => absurd (by decide) h94)
      refine q_vret hC dX3_derive_115 ⟨by decide, by decide⟩ ⟨rfl, ?_⟩
      exact FIN A B C T hA hB hIm hI
    | succ n ih =>
      intro t A B C T hmn hA hB hIm hs hm hI
      have ht : t < 5 := by omega
      refine q_iload_n hC 2 dX3_derive_92 rfl rfl ?_
      refine q_iconst hC dX3_derive_93 (v := 5) (by decide) rfl ?_
      refine q_icmp_ge hC dX3_derive_94 (t := 115) (n := 97) (by decide) rfl (fun h94 => absurd h94 (nI_ge ht (by decide))) (fun h94 => ?_)
      refine q_aload_n hC 0 dX3_derive_97 rfl rfl ?_
      refine q_aload_n hC 1 dX3_derive_98 rfl rfl ?_
      refine q_iload_n hC 2 dX3_derive_99 rfl rfl ?_
      refine q_callV hC (c_X3_walkChain (q_hD hC)) m_X3_walkChain lk_X3_67 dX3_derive_100 (i, t) rfl rfl rfl rfl rfl hi (Nat.le_of_ble_eq_true rfl) ⟨⟨by decide, by decide⟩, by decide, by decide⟩ rfl (k' := (0, 0)) rfl ⟨hi, ht, (by intro p hp; rw [hI.1 7 i (by omega)]; exact hs p hp)⟩ (fun v S' hp => ?_)
      obtain ⟨rfl, hwc⟩ := hp
      have hwc : z_wc T S' i t := hwc
      have hd := z_dr_s hI ht hm hwc
      have w20 : ∀ p, p < 36 → z_v6 (S' 20 i p) := by
        intro p hp
        by_cases e : p < t * 6 ∨ t * 6 + 6 ≤ p
        · rw [(hwc.2.1 p e).2]; exact hI.2.1 p hp
        · obtain ⟨-, w⟩ := hwc.2.2 (p - t * 6) (by omega)
          rw [show t * 6 + (p - t * 6) = p by omega] at w
          exact z_v56 w
      show qV Γ _ _ 103 _ _ _ _
      refine q_aload_n hC 0 dX3_derive_103 rfl rfl ?_
      refine q_aload_n hC 1 dX3_derive_104 rfl rfl ?_
      refine q_iload_n hC 2 dX3_derive_105 rfl rfl ?_
      refine q_callV hC (c_X3_deriveChoices (q_hD hC)) m_X3_deriveChoices lk_X3_71 dX3_derive_106 (i, nI t) rfl rfl rfl rfl rfl hi (Nat.le_of_ble_eq_true rfl) ⟨⟨by decide, by decide⟩, by decide, by decide⟩ rfl (k' := (0, 0)) rfl ⟨hi, ⟨t, Nat.lt_succ_of_lt ht, rfl⟩, w20⟩ (fun v S' hp => ?_)
      obtain ⟨rfl, rfl⟩ := hp
      show qV Γ _ _ 109 _ _ _ _
      refine q_iinc hC 2 dX3_derive_109 rfl (v := nI (t + 1)) (z_inc t) (by decide) (ls' := [(0, _), (1, _), (2, _)]) rfl rfl ?_
      refine q_goto hC dX3_derive_112 (n := 92) (by decide) ?_
      exact ih (t + 1) A B C _ (by omega) hA hB hIm hs hm hd
  have J77 : ∀ T : qM, z_dm S T i 5 → qV Γ rm_X3_derive 3 77 [(0, .ref (q_ad Γ 17 i)), (1, .ref (q_ad Γ 1 i)), (2, .int (nI 5))] [] T (0, 0) := by
    intro T hI
    have hsT : z_sups T i := by
      intro p hp; rw [hI.1 7 i (by omega)]; exact hS p hp
    refine q_aload_n hC 0 dX3_derive_77 rfl rfl ?_
    refine q_aload_n hC 1 dX3_derive_78 rfl rfl ?_
    refine q_callV hC (c_X3_deriveAbove (q_hD hC)) m_X3_deriveAbove lk_X3_55 dX3_derive_79 (i, ()) rfl rfl rfl rfl rfl hi (Nat.le_of_ble_eq_true rfl) ⟨⟨by decide, by decide⟩, by decide, by decide⟩ rfl (k' := (0, 0)) rfl ⟨hi, hsT, (by intro p hp; rw [hI.1 8 i (by omega)]; exact h8 p hp), (z_dm_m5 hI).1⟩ (fun v S' hp => ?_)
    obtain ⟨rfl, hab⟩ := hp
    have hab : z_ab T S' i 5 := hab
    have hs1 : z_sups S' i := by
      intro p hp; rw [hab.1 7 i (by omega)]; exact hsT p hp
    have v20 : ∀ p, p < 36 → z_v6 (S' 20 i p) := by
      intro p hp; rw [hab.1 20 i (by omega), hI.1 20 i (by omega)]; exact h20 p hp
    have e11 : S' 11 i = S' 11 i := rfl
    revert hab hs1 v20 e11
    generalize S' = B
    intro hab hs1 v20 e11
    show qV Γ _ _ 82 _ _ _ _
    refine q_aload_n hC 0 dX3_derive_82 rfl rfl ?_
    refine q_aload_n hC 1 dX3_derive_83 rfl rfl ?_
    refine q_get_f hC f_X3_59 dX3_derive_84 rfl rfl hi rfl ?_
    refine q_callV hC (c_X3_deriveInterfaceMethods (q_hD hC)) m_X3_deriveInterfaceMethods lk_X3_63 dX3_derive_87 (i, ()) rfl rfl rfl rfl rfl hi (Nat.le_of_ble_eq_true rfl) ⟨⟨by decide, by decide⟩, by decide, by decide⟩ rfl (k' := (0, 0)) rfl hi (fun v S' hp => ?_)
    obtain ⟨rfl, him⟩ := hp
    have him : z_im B S' i := him
    show qV Γ _ _ 90 _ _ _ _
    refine q_iconst hC dX3_derive_90 (v := 0) (by decide) rfl ?_
    refine q_istore_n hC dX3_derive_91 (by decide) (ls' := [(0, _), (1, _), (2, _)]) rfl rfl ?_
    refine L2 5 0 T B S' S' (by omega) hI hab him ?_ ?_ ⟨fun _ _ _ => rfl, ?_, fun r hr => absurd hr (by omega), fun _ _ => ⟨rfl, rfl⟩⟩
    · intro p hp; rw [him.1 7 i (by omega)]; exact hs1 p hp
    · intro q hq; rw [him.1 11 i (by omega)]; exact him.2 q hq
    · intro p hp; rw [him.1 20 i (by omega)]; exact v20 p hp
  have L1 : ∀ (n t : Nat) (T : qM), t + n = 5 → z_dm S T i t → qV Γ rm_X3_derive 3 12 [(0, .ref (q_ad Γ 17 i)), (1, .ref (q_ad Γ 1 i)), (2, .int (nI t))] [] T (0, 0) := by
    intro n
    induction n with
    | zero =>
      intro t T hmn hI
      obtain rfl : t = 5 := by omega
      refine q_iload_n hC 2 dX3_derive_12 rfl rfl ?_
      refine q_iconst hC dX3_derive_13 (v := 5) (by decide) rfl ?_
      refine q_icmp_ge hC dX3_derive_14 (t := 77) (n := 17) (by decide) rfl (fun h14 => ?_) (fun h14 => absurd (by decide) h14)
      exact J77 T hI
    | succ n ih =>
      intro t T hmn hI
      have ht : t < 5 := by omega
      have e2 : T 2 i (nI t).toNatClampNeg = S 2 i t := by rw [hI.1 2 i (by omega), nI_clamp (by omega)]
      refine q_iload_n hC 2 dX3_derive_12 rfl rfl ?_
      refine q_iconst hC dX3_derive_13 (v := 5) (by decide) rfl ?_
      refine q_icmp_ge hC dX3_derive_14 (t := 77) (n := 17) (by decide) rfl (fun h14 => absurd h14 (nI_ge ht (by decide))) (fun h14 => ?_)
      refine q_aload_n hC 0 dX3_derive_17 rfl rfl ?_
      refine q_dup hC dX3_derive_18 rfl rfl ?_
      refine q_get_f hC f_X3_43 dX3_derive_19 rfl rfl hi rfl ?_
      refine q_aload_n hC 1 dX3_derive_22 rfl rfl ?_
      refine q_get_f hC f_X3_50 dX3_derive_23 rfl rfl hi rfl ?_
      refine q_iload_n hC 2 dX3_derive_26 rfl rfl ?_
      refine q_cald hC dX3_derive_27 rfl hi (vp_in_nI ht (by decide)) rfl ?_
      refine q_bipush hC dX3_derive_28 (v := 45) (by decide) rfl ?_
      refine q_icmp_eq hC dX3_derive_30 (t := 39) (n := 33) (by decide) rfl (fun h30 => ?_) (fun h30 => ?_)
      · refine q_iconst hC dX3_derive_39 (v := 0) (by decide) rfl ?_
        refine q_ior hC dX3_derive_40 rfl ?_
        refine q_put_i hC fp_X3_43 dX3_derive_41 rfl rfl (Nat.le_of_ble_eq_true rfl) rfl rfl hi rfl ?_
        refine q_aload_n hC 0 dX3_derive_44 rfl rfl ?_
        refine q_dup hC dX3_derive_45 rfl rfl ?_
        refine q_get_f hC f_X3_47 dX3_derive_46 rfl rfl hi rfl ?_
        refine q_aload_n hC 1 dX3_derive_49 rfl rfl ?_
        refine q_get_f hC f_X3_50 dX3_derive_50 rfl rfl hi rfl ?_
        refine q_iload_n hC 2 dX3_derive_53 rfl rfl ?_
        refine q_cald hC dX3_derive_54 rfl hi (vp_in_nI ht (by decide)) rfl ?_
        refine q_bipush hC dX3_derive_55 (v := 99) (by decide) rfl ?_
        refine q_icmp_ne hC dX3_derive_57 (t := 66) (n := 60) (by decide) rfl (fun h57 => ?_) (fun h57 => ?_)
        · refine q_iconst hC dX3_derive_66 (v := 0) (by decide) rfl ?_
          refine q_ior hC dX3_derive_67 rfl ?_
          refine q_put_i hC fp_X3_47 dX3_derive_68 rfl rfl (Nat.le_of_ble_eq_true rfl) rfl rfl hi rfl ?_
          refine q_iinc hC 2 dX3_derive_71 rfl (v := nI (t + 1)) (z_inc t) (by decide) (ls' := [(0, _), (1, _), (2, _)]) rfl rfl ?_
          refine q_goto hC dX3_derive_74 (n := 12) (by decide) ?_
          exact ih (t + 1) _ (by omega) (z_dm_s hI ht (if_pos (e2.symm.trans h30)).symm (if_neg (fun e => h57 (e2.trans e))).symm)
        · refine q_iconst hC dX3_derive_60 (v := 1) (by decide) rfl ?_
          refine q_iload_n hC 2 dX3_derive_61 rfl rfl ?_
          refine q_ishl hC dX3_derive_62 rfl ?_
          refine q_goto hC dX3_derive_63 (n := 67) (by decide) ?_
          refine q_ior hC dX3_derive_67 rfl ?_
          refine q_put_i hC fp_X3_47 dX3_derive_68 rfl rfl (Nat.le_of_ble_eq_true rfl) rfl rfl hi rfl ?_
          refine q_iinc hC 2 dX3_derive_71 rfl (v := nI (t + 1)) (z_inc t) (by decide) (ls' := [(0, _), (1, _), (2, _)]) rfl rfl ?_
          refine q_goto hC dX3_derive_74 (n := 12) (by decide) ?_
          exact ih (t + 1) _ (by omega) (z_dm_s hI ht (if_pos (e2.symm.trans h30)).symm (if_pos (e2.symm.trans h57)).symm)
      · refine q_iconst hC dX3_derive_33 (v := 1) (by decide) rfl ?_
        refine q_iload_n hC 2 dX3_derive_34 rfl rfl ?_
        refine q_ishl hC dX3_derive_35 rfl ?_
        refine q_goto hC dX3_derive_36 (n := 40) (by decide) ?_
        refine q_ior hC dX3_derive_40 rfl ?_
        refine q_put_i hC fp_X3_43 dX3_derive_41 rfl rfl (Nat.le_of_ble_eq_true rfl) rfl rfl hi rfl ?_
        refine q_aload_n hC 0 dX3_derive_44 rfl rfl ?_
        refine q_dup hC dX3_derive_45 rfl rfl ?_
        refine q_get_f hC f_X3_47 dX3_derive_46 rfl rfl hi rfl ?_
        refine q_aload_n hC 1 dX3_derive_49 rfl rfl ?_
        refine q_get_f hC f_X3_50 dX3_derive_50 rfl rfl hi rfl ?_
        refine q_iload_n hC 2 dX3_derive_53 rfl rfl ?_
        refine q_cald hC dX3_derive_54 rfl hi (vp_in_nI ht (by decide)) rfl ?_
        refine q_bipush hC dX3_derive_55 (v := 99) (by decide) rfl ?_
        refine q_icmp_ne hC dX3_derive_57 (t := 66) (n := 60) (by decide) rfl (fun h57 => ?_) (fun h57 => ?_)
        · refine q_iconst hC dX3_derive_66 (v := 0) (by decide) rfl ?_
          refine q_ior hC dX3_derive_67 rfl ?_
          refine q_put_i hC fp_X3_47 dX3_derive_68 rfl rfl (Nat.le_of_ble_eq_true rfl) rfl rfl hi rfl ?_
          refine q_iinc hC 2 dX3_derive_71 rfl (v := nI (t + 1)) (z_inc t) (by decide) (ls' := [(0, _), (1, _), (2, _)]) rfl rfl ?_
          refine q_goto hC dX3_derive_74 (n := 12) (by decide) ?_
          exact ih (t + 1) _ (by omega) (z_dm_s hI ht (if_neg (fun e => h30 (e2.trans e))).symm (if_neg (fun e => h57 (e2.trans e))).symm)
        · refine q_iconst hC dX3_derive_60 (v := 1) (by decide) rfl ?_
          refine q_iload_n hC 2 dX3_derive_61 rfl rfl ?_
          refine q_ishl hC dX3_derive_62 rfl ?_
          refine q_goto hC dX3_derive_63 (n := 67) (by decide) ?_
          refine q_ior hC dX3_derive_67 rfl ?_
          refine q_put_i hC fp_X3_47 dX3_derive_68 rfl rfl (Nat.le_of_ble_eq_true rfl) rfl rfl hi rfl ?_
          refine q_iinc hC 2 dX3_derive_71 rfl (v := nI (t + 1)) (z_inc t) (by decide) (ls' := [(0, _), (1, _), (2, _)]) rfl rfl ?_
          refine q_goto hC dX3_derive_74 (n := 12) (by decide) ?_
          exact ih (t + 1) _ (by omega) (z_dm_s hI ht (if_neg (fun e => h30 (e2.trans e))).symm (if_pos (e2.symm.trans h57)).symm)
  show qV Γ _ _ 0 [(0, .ref (q_ad Γ 17 i)), (1, .ref (q_ad Γ 1 i))] [] S (0, 0)
  refine q_aload_n hC 0 dX3_derive_0 rfl rfl ?_
  refine q_iconst hC dX3_derive_1 (v := 0) (by decide) rfl ?_
  refine q_put_i hC fp_X3_43 dX3_derive_2 rfl rfl (Nat.le_of_ble_eq_true rfl) rfl rfl hi rfl ?_
  refine q_aload_n hC 0 dX3_derive_5 rfl rfl ?_
  refine q_iconst hC dX3_derive_6 (v := 0) (by decide) rfl ?_
  refine q_put_i hC fp_X3_47 dX3_derive_7 rfl rfl (Nat.le_of_ble_eq_true rfl) rfl rfl hi rfl ?_
  refine q_iconst hC dX3_derive_10 (v := 0) (by decide) rfl ?_
  refine q_istore_n hC dX3_derive_11 (by decide) (ls' := [(0, _), (1, _), (2, _)]) rfl rfl ?_
  exact L1 5 0 _ (by omega) z_dm_0
