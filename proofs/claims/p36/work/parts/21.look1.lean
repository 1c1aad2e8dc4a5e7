-- printed by wip/p36/gen_m2.py
def z_f0 (r c i : Nat) (S : qM) : qM := q_up (z_loadS i c (q_up S 33 r (upd (upd (S 33 r) 0 1) 1 0))) 33 r (upd (z_loadS i c (q_up S 33 r (upd (upd (S 33 r) 0 1) 1 0)) 33 r) 2 (z_loadF i c (q_up S 33 r (upd (upd (S 33 r) 0 1) 1 0))))
def z_act (T : qM) (i c m : Nat) : Int32 := z_pf T i (T 29 c m) (T 30 c m) (T 31 c m) (T 32 c m)
def z_folS (r c i m : Nat) (T : qM) : qM := if 0 ≤ z_act T i c m then q_up (q_up T 34 r (upd (T 34 r) m (z_act T i c m))) 33 r (upd (T 33 r) 1 (T 33 r 1 + 1))
  else q_up T 33 r (upd (T 33 r) 2 ((-(z_act T i c m)).toUInt32 % 65536).toInt32)
def z_folIt (r c i : Nat) : Nat → Nat → qM → qM
  | 0, _, T => T
  | n + 1, m, T => if T 33 r 2 = 45 then z_folIt r c i n (m + 1) (z_folS r c i m T) else T
def z_acts (T : qM) (c N : Nat) : Prop := T 27 c 1 = nI N ∧ ∀ m, m < N → z_actR (T 29 c m) (T 30 c m) (T 31 c m) (T 32 c m)
theorem z_wf_up {S : qM} {i k j : Nat} {f : Nat → Int32} (hk : 26 < k) (h : z_wf S i) : z_wf (q_up S k j f) i := by
  have e : ∀ k' i', k' < 27 → q_up S k j f k' i' = S k' i' := fun k' i' h => q_up_k (by omega)
  unfold z_wf z_sups z_tabs
  rw [e 7 i (by omega), e 19 i (by omega), e 20 i (by omega), e 23 i (by omega), e 24 i (by omega), e 25 i (by omega), e 0 i (by omega)]
  exact h
theorem z_acts_up {S : qM} {c N k j : Nat} {f : Nat → Int32} (hk : 32 < k) (h : z_acts S c N) : z_acts (q_up S k j f) c N := by
  have e : ∀ k' i', k' < 33 → q_up S k j f k' i' = S k' i' := fun k' i' h => q_up_k (by omega)
  unfold z_acts
  rw [e 27 c (by omega), e 29 c (by omega), e 30 c (by omega), e 31 c (by omega), e 32 c (by omega)]
  exact h
theorem z_folS_k {r c i m N : Nat} {T : qM} (hW : z_wf T i) (hA : z_acts T c N) : z_wf (z_folS r c i m T) i ∧ z_acts (z_folS r c i m T) c N := by
  unfold z_folS
  split
  · exact ⟨z_wf_up (by omega) (z_wf_up (by omega) hW), z_acts_up (by omega) (z_acts_up (by omega) hA)⟩
  · exact ⟨z_wf_up (by omega) hW, z_acts_up (by omega) hA⟩
abbrev rm_X8_follow : Room := { frames := 3, cells := 0, slots := 0, locals := 75 }
set_option maxHeartbeats 4000000 in
set_option maxRecDepth 100000 in
theorem c_X8_follow {L : qL} (hD : q_D L.2.2.2.1) : qCT L yX8_follow cX8_follow 5 none rm_X8_follow (fun ad _ (x : Nat × Nat × Nat × Nat) => [.ref (ad 33 x.1), .ref (ad 27 x.2.1), .ref (ad 0 x.2.2.1)]) (fun x S => x.1 < 2 ∧ x.2.1 < 5 ∧ x.2.2.1 < 4 ∧ z_wf S x.2.2.1 ∧ z_own S x.2.1 ∧ x.2.2.2 ≤ 8 ∧ z_acts S x.2.1 x.2.2.2) (qPv (fun x S S' => S' = z_folIt x.1 x.2.1 x.2.2.1 x.2.2.2 0 (z_f0 x.1 x.2.1 x.2.2.1 S))) := by
  refine q_met hD (by decide) (fun _ => Nat.le_of_ble_eq_true rfl) (fun Γ x S hΓ hpre hC => ?_)
  subst hΓ
  obtain ⟨r, c, i, N⟩ := x
  obtain ⟨hr, hc, hi, hW0, hO, hN, hA0⟩ := hpre
  have hr : r < 2 := hr
  have hc : c < 5 := hc
  have hi : i < 4 := hi
  have hN : N ≤ 8 := hN
  have hW : z_wf S i := hW0
  have hO : z_own S c := hO
  have hA0 : z_acts S c N := hA0
  have L : ∀ (n m : Nat) (T : qM), m + n = N → z_wf T i → z_acts T c N → z_folIt r c i n m T = z_folIt r c i N 0 (z_f0 r c i S) → qV Γ rm_X8_follow 5 24 [(0, .ref (q_ad Γ 33 r)), (1, .ref (q_ad Γ 27 c)), (2, .ref (q_ad Γ 0 i)), (3, .int (nI m))] [] T (0, 0) := by
    intro n
    induction n with
    | zero =>
      intro m T hmn hW hA hF
      obtain rfl : m = N := by omega
      refine q_iload_n hC 3 dX8_follow_24 rfl rfl ?_
      refine q_aload_n hC 1 dX8_follow_25 rfl rfl ?_
      refine q_get_f hC f_X8_39 dX8_follow_26 rfl rfl hc rfl ?_
      refine q_icmp_ge hC dX8_follow_29 (t := 111) (n := 32) (by decide) rfl (fun h29 => ?_) (fun h29 => absurd (by rw [hA.1]; exact Int32.le_refl _) h29)
      refine q_vret hC dX8_follow_111 ⟨by decide, by decide⟩ ⟨rfl, ?_⟩
      exact hF
    | succ n ih =>
      intro m T hmn hW hA hF
      have hm : m < N := by omega
      have em : (nI m).toNatClampNeg = m := nI_clamp (by omega)
      refine q_iload_n hC 3 dX8_follow_24 rfl rfl ?_
      refine q_aload_n hC 1 dX8_follow_25 rfl rfl ?_
      refine q_get_f hC f_X8_39 dX8_follow_26 rfl rfl hc rfl ?_
      refine q_icmp_ge hC dX8_follow_29 (t := 111) (n := 32) (by decide) rfl (fun h29 => absurd h29 (by rw [hA.1]; exact nI_ge hm (by omega))) (fun h29 => ?_)
      refine q_aload_n hC 0 dX8_follow_32 rfl rfl ?_
      refine q_get_f hC f_X8_19 dX8_follow_33 rfl rfl hr rfl ?_
      refine q_bipush hC dX8_follow_36 (v := 45) (by decide) rfl ?_
      refine q_icmp_ne hC dX8_follow_38 (t := 111) (n := 41) (by decide) rfl (fun h38 => ?_) (fun h38 => ?_)
      · refine q_vret hC dX8_follow_111 ⟨by decide, by decide⟩ ⟨rfl, ?_⟩
        exact (by rw [← hF]; simp only [z_folIt]; rw [if_neg (by assumption)] : T = z_folIt r c i N 0 (z_f0 r c i S))
      · refine q_aload_n hC 2 dX8_follow_41 rfl rfl ?_
        refine q_aload_n hC 1 dX8_follow_42 rfl rfl ?_
        refine q_get_f hC f_X8_42 dX8_follow_43 rfl rfl hc rfl ?_
        refine q_iload_n hC 3 dX8_follow_46 rfl rfl ?_
        refine q_iald hC dX8_follow_47 rfl hc (vp_in_nI (Nat.lt_of_lt_of_le hm hN) (by decide)) rfl ?_
        refine q_aload_n hC 1 dX8_follow_48 rfl rfl ?_
        refine q_get_f hC f_X8_45 dX8_follow_49 rfl rfl hc rfl ?_
        refine q_iload_n hC 3 dX8_follow_52 rfl rfl ?_
        refine q_iald hC dX8_follow_53 rfl hc (vp_in_nI (Nat.lt_of_lt_of_le hm hN) (by decide)) rfl ?_
        refine q_aload_n hC 1 dX8_follow_54 rfl rfl ?_
        refine q_get_f hC f_X8_48 dX8_follow_55 rfl rfl hc rfl ?_
        refine q_iload_n hC 3 dX8_follow_58 rfl rfl ?_
        refine q_iald hC dX8_follow_59 rfl hc (vp_in_nI (Nat.lt_of_lt_of_le hm hN) (by decide)) rfl ?_
        refine q_aload_n hC 1 dX8_follow_60 rfl rfl ?_
        refine q_get_f hC f_X8_51 dX8_follow_61 rfl rfl hc rfl ?_
        refine q_iload_n hC 3 dX8_follow_64 rfl rfl ?_
        refine q_iald hC dX8_follow_65 rfl hc (vp_in_nI (Nat.lt_of_lt_of_le hm hN) (by decide)) rfl ?_
        refine q_callV hC (c_X5_perform (q_hD hC)) m_X5_perform lk_X8_54 dX8_follow_66 (i, T 29 c (nI m).toNatClampNeg, T 30 c (nI m).toNatClampNeg, T 31 c (nI m).toNatClampNeg, T 32 c (nI m).toNatClampNeg) rfl rfl rfl rfl rfl hi (Nat.le_of_ble_eq_true rfl) ⟨⟨by decide, by decide⟩, by decide, by decide⟩ rfl (k' := (0, 0)) rfl ⟨hi, hW.2.2.2.2.2.1, hW.2.2.2.2.2.2, by rw [em]; exact hA.2 m hm⟩ (fun v S' hp => ?_)
        obtain ⟨r66_2, rfl, hr66_2, rfl⟩ := hp
        have hr66_2 : r66_2 = z_act T i c m := by rw [hr66_2, em]; rfl
        show qV Γ _ _ 69 _ (.int _ :: _) _ _
        refine q_istore hC dX8_follow_69 (by decide) (ls' := [(0, _), (1, _), (2, _), (3, _), (4, _)]) rfl rfl ?_
        refine q_iload hC 4 dX8_follow_71 rfl rfl ?_
        refine q_if_ge hC dX8_follow_73 (t := 87) (n := 76) (by decide) rfl (fun h73 => ?_) (fun h73 => ?_)
        · refine q_aload_n hC 0 dX8_follow_87 rfl rfl ?_
          refine q_get_f hC f_X8_23 dX8_follow_88 rfl rfl hr rfl ?_
          refine q_iload_n hC 3 dX8_follow_91 rfl rfl ?_
          refine q_iload hC 4 dX8_follow_92 rfl rfl ?_
          refine q_iast hC dX8_follow_94 (fun _ => rfl) hr (vp_in_nI (Nat.lt_of_lt_of_le hm hN) (by decide)) rfl ?_
          refine q_aload_n hC 0 dX8_follow_95 rfl rfl ?_
          refine q_dup hC dX8_follow_96 rfl rfl ?_
          refine q_get_f hC f_X8_15 dX8_follow_97 rfl rfl hr rfl ?_
          refine q_iconst hC dX8_follow_100 (v := 1) (by decide) rfl ?_
          refine q_iadd hC dX8_follow_101 rfl ?_
          refine q_put_i hC fp_X8_15 dX8_follow_102 rfl rfl (Nat.le_of_ble_eq_true rfl) rfl rfl hr rfl ?_
          refine q_iinc hC 3 dX8_follow_105 rfl (v := nI (m + 1)) (z_inc m) (by decide) (ls' := [(0, _), (1, _), (2, _), (3, _), (4, _)]) rfl rfl ?_
          refine q_goto hC dX8_follow_108 (n := 24) (by decide) ?_
          refine q_locp [0, 1, 2, 3] (ls' := [(0, _), (1, _), (2, _), (3, _)]) rfl ?_
          have hS' := z_folS_k (r := r) (m := m) hW hA
          have hI := ih (m + 1) (z_folS r c i m T) (by omega) hS'.1 hS'.2 (by rw [← hF]; simp only [z_folIt]; rw [if_pos h38])
          subst hr66_2
          simp only [z_folS, if_pos h38, if_pos h73] at hI
          try simp (config := {decide := true}) only [em, q_up_k, ne_eq, not_false_eq_true]
          exact hI
        · refine q_aload_n hC 0 dX8_follow_76 rfl rfl ?_
          refine q_iload hC 4 dX8_follow_77 rfl rfl ?_
          refine q_ineg hC dX8_follow_79 rfl ?_
          refine q_i2c hC dX8_follow_80 rfl ?_
          refine q_put_i hC fp_X8_19 dX8_follow_81 rfl rfl (Nat.le_of_ble_eq_true rfl) (pk_nc _) (pk_fc _) hr rfl ?_
          refine q_goto hC dX8_follow_84 (n := 105) (by decide) ?_
          refine q_iinc hC 3 dX8_follow_105 rfl (v := nI (m + 1)) (z_inc m) (by decide) (ls' := [(0, _), (1, _), (2, _), (3, _), (4, _)]) rfl rfl ?_
          refine q_goto hC dX8_follow_108 (n := 24) (by decide) ?_
          refine q_locp [0, 1, 2, 3] (ls' := [(0, _), (1, _), (2, _), (3, _)]) rfl ?_
          have hS' := z_folS_k (r := r) (m := m) hW hA
          have hI := ih (m + 1) (z_folS r c i m T) (by omega) hS'.1 hS'.2 (by rw [← hF]; simp only [z_folIt]; rw [if_pos h38])
          subst hr66_2
          simp only [z_folS, if_pos h38, if_neg h73] at hI
          try simp (config := {decide := true}) only [em, q_up_k, ne_eq, not_false_eq_true]
          exact hI
  show qV Γ _ _ 0 [(0, .ref (q_ad Γ 33 r)), (1, .ref (q_ad Γ 27 c)), (2, .ref (q_ad Γ 0 i))] [] S (0, 0)
  refine q_aload_n hC 0 dX8_follow_0 rfl rfl ?_
  refine q_iconst hC dX8_follow_1 (v := 1) (by decide) rfl ?_
  refine q_put_i hC fp_X8_9 dX8_follow_2 rfl rfl (Nat.le_of_ble_eq_true rfl) rfl rfl hr rfl ?_
  refine q_aload_n hC 0 dX8_follow_5 rfl rfl ?_
  refine q_iconst hC dX8_follow_6 (v := 0) (by decide) rfl ?_
  refine q_put_i hC fp_X8_15 dX8_follow_7 rfl rfl (Nat.le_of_ble_eq_true rfl) rfl rfl hr rfl ?_
  refine q_aload_n hC 0 dX8_follow_10 rfl rfl ?_
  refine q_aload_n hC 2 dX8_follow_11 rfl rfl ?_
  refine q_aload_n hC 1 dX8_follow_12 rfl rfl ?_
  refine q_get_f hC f_X8_27 dX8_follow_13 rfl rfl hc rfl ?_
  refine q_callV hC (c_X5_load (q_hD hC)) m_X5_load lk_X8_33 dX8_follow_16 (i, c) rfl rfl rfl rfl rfl hi (Nat.le_of_ble_eq_true rfl) ⟨⟨by decide, by decide⟩, by decide, by decide⟩ rfl (k' := (0, 0)) rfl ⟨hi, Nat.lt_trans hc (by decide), by simpa [z_own, q_up] using hO, by simpa [z_sups, q_up] using hW.1, by simpa [q_up] using z_wf_s20 hW⟩ (fun v S' hp => ?_)
  obtain ⟨r16_1, rfl, hr16_1, rfl⟩ := hp
  show qV Γ _ _ 19 _ (.int _ :: _) _ _
  refine q_put_i hC fp_X8_19 dX8_follow_19 rfl rfl (Nat.le_of_ble_eq_true rfl) (by rw [hr16_1]; exact z_loadF_nar.1) (by rw [hr16_1]; exact z_loadF_nar.2) hr rfl ?_
  refine q_iconst hC dX8_follow_22 (v := 0) (by decide) rfl ?_
  refine q_istore_n hC dX8_follow_23 (by decide) (ls' := [(0, _), (1, _), (2, _), (3, _)]) rfl rfl ?_
  have e : z_f0 r c i S = _ := rfl
  refine (fun (hh : qV Γ rm_X8_follow 5 24 [(0, .ref (q_ad Γ 33 r)), (1, .ref (q_ad Γ 27 c)), (2, .ref (q_ad Γ 0 i)), (3, .int (nI 0))] [] (z_f0 r c i S) (0, 0)) => ?_) (L N 0 (z_f0 r c i S) (by omega) ?_ ?_ rfl)
  · subst hr16_1
    unfold z_f0 at hh
    simp (config := {decide := true}) only [q_up_k, q_up_same, q_upup, ne_eq, not_false_eq_true] at hh ⊢
    exact hh
  · unfold z_f0
    exact z_wf_up (by omega) (z_load_wf (z_wf_up (by omega) hW) (by simpa [z_own, q_up] using hO))
  · unfold z_f0
    refine z_acts_up (by omega) ?_
    have fr := z_load_fr (i := i) (j := c) (S := q_up S 33 r (upd (upd (S 33 r) 0 1) 1 0)) (by simpa [q_up] using hO.2.1)
    unfold z_acts
    rw [fr 27 c (by omega), fr 29 c (by omega), fr 30 c (by omega), fr 31 c (by omega), fr 32 c (by omega)]
    exact z_acts_up (by omega) hA0
theorem q_rfo {ad : Nat → Nat → Nat} {x : Int32} {a : Nat} (h : x = nI a) (ha : a < 4) : q_rf ad x = .ref (ad 0 a) := by
  subst h
  unfold q_rf
  rw [if_neg (nI_pos (by omega)), nI_clamp (by omega)]
theorem q_rfs {ad : Nat → Nat → Nat} {x : Int32} {a : Nat} (h : x = nI a) (ha : a < 4) : some (q_rf ad x) = some (.ref (ad 0 a)) := congrArg some (q_rfo h ha)
def z_wt (S : qM) (a : Nat) (kind br : Int32) : Int32 :=
  if kind = 4 then (if S 28 5 0 = 0 then 0 else if S 28 5 3 = -1 then S 26 a kind.toNatClampNeg else if br = 0 then (if kind = 2 then 1 <<< (S 28 5 3 &&& 31) else if kind = 3 then 1 <<< (S 28 5 3 &&& 31) else 0) else S 26 a kind.toNatClampNeg)
  else if S 28 5 3 = -1 then S 26 a kind.toNatClampNeg else if br = 0 then (if kind = 2 then 1 <<< (S 28 5 3 &&& 31) else if kind = 3 then 1 <<< (S 28 5 3 &&& 31) else 0) else S 26 a kind.toNatClampNeg
def z_keep (code k t m o : Int32) (S : qM) : qM := z_add 4 k t m o (z_obec 4 5 (q_up (q_up S 35 0 (upd (S 35 0) 4 code)) 27 4 (upd (S 27 4) 1 0)))
abbrev rm_X4_worthTrying : Room := { frames := 0, cells := 0, slots := 0, locals := 0 }
set_option maxHeartbeats 4000000 in
set_option maxRecDepth 100000 in
theorem c_X4_worthTrying {L : qL} (hD : q_D L.2.2.2.1) : qCT L yX4_worthTrying cX4_worthTrying 4 (some .int) rm_X4_worthTrying (fun ad _ (x : Nat × Int32 × Int32) => [.ref (ad 35 0), .int x.2.1, .int x.2.2]) (fun x S => x.1 < 4 ∧ S 35 0 2 = nI x.1 ∧ z_lt x.2.1 9) (qPi (fun x S r S' => r = z_wt S x.1 x.2.1 x.2.2 ∧ S = S')) := by
  refine q_met hD (by decide) (fun _ => Nat.le_of_ble_eq_true rfl) (fun Γ x S hΓ hpre hC => ?_)
  subst hΓ
  obtain ⟨a, kind, br⟩ := x
  obtain ⟨ha, hoa, hk⟩ := hpre
  have ha : a < 4 := ha
  have hoa : S 35 0 2 = nI a := hoa
  have hk : z_lt kind 9 := hk
  show qV Γ _ _ 0 [(0, .ref (q_ad Γ 35 0)), (1, .int kind), (2, .int br)] [] S (0, 0)
  refine q_aload_n hC 0 dX4_worthTrying_0 rfl rfl ?_
  refine q_get_f hC f_X4_25 dX4_worthTrying_1 rfl (q_rfs hoa ha) (Nat.le_of_ble_eq_true rfl) rfl ?_
  refine q_get_f hC f_X4_54 dX4_worthTrying_4 rfl rfl ha rfl ?_
  refine q_get_f hC f_X4_114 dX4_worthTrying_7 rfl rfl ha rfl ?_
  refine q_iload_n hC 1 dX4_worthTrying_10 rfl rfl ?_
  refine q_iald hC dX4_worthTrying_11 rfl ha (z_in hk (by decide)) rfl ?_
  refine q_istore_n hC dX4_worthTrying_12 (by decide) (ls' := [(0, _), (1, _), (2, _), (3, _)]) rfl rfl ?_
  refine q_iload_n hC 1 dX4_worthTrying_13 rfl rfl ?_
  refine q_iconst hC dX4_worthTrying_14 (v := 4) (by decide) rfl ?_
  refine q_icmp_ne hC dX4_worthTrying_15 (t := 30) (n := 18) (by decide) rfl (fun h15 => ?_) (fun h15 => ?_)
  · refine q_aload_n hC 0 dX4_worthTrying_30 rfl rfl ?_
    refine q_get_f hC f_X4_21 dX4_worthTrying_31 rfl rfl (Nat.le_of_ble_eq_true rfl) rfl ?_
    refine q_get_f hC f_X4_117 dX4_worthTrying_34 rfl rfl (Nat.le_of_ble_eq_true rfl) rfl ?_
    refine q_iconst hC dX4_worthTrying_37 (v := (-1)) (by decide) rfl ?_
    refine q_icmp_eq hC dX4_worthTrying_38 (t := 45) (n := 41) (by decide) rfl (fun h38 => ?_) (fun h38 => ?_)
    · refine q_iload_n hC 3 dX4_worthTrying_45 rfl rfl ?_
      refine q_iret hC dX4_worthTrying_46 rfl ⟨by decide, by decide⟩ ⟨_, rfl, ?_⟩
      exact ⟨by simp only [z_wt, if_neg h15, if_pos h38], rfl⟩
    · refine q_iload_n hC 2 dX4_worthTrying_41 rfl rfl ?_
      refine q_if_eq hC dX4_worthTrying_42 (t := 47) (n := 45) (by decide) rfl (fun h42 => ?_) (fun h42 => ?_)
      · refine q_iload_n hC 1 dX4_worthTrying_47 rfl rfl ?_
        refine q_iconst hC dX4_worthTrying_48 (v := 2) (by decide) rfl ?_
        refine q_icmp_eq hC dX4_worthTrying_49 (t := 57) (n := 52) (by decide) rfl (fun h49 => ?_) (fun h49 => ?_)
        · refine q_iconst hC dX4_worthTrying_57 (v := 1) (by decide) rfl ?_
          refine q_aload_n hC 0 dX4_worthTrying_58 rfl rfl ?_
          refine q_get_f hC f_X4_21 dX4_worthTrying_59 rfl rfl (Nat.le_of_ble_eq_true rfl) rfl ?_
          refine q_get_f hC f_X4_117 dX4_worthTrying_62 rfl rfl (Nat.le_of_ble_eq_true rfl) rfl ?_
          refine q_ishl hC dX4_worthTrying_65 rfl ?_
          refine q_goto hC dX4_worthTrying_66 (n := 70) (by decide) ?_
          refine q_iret hC dX4_worthTrying_70 rfl ⟨by decide, by decide⟩ ⟨_, rfl, ?_⟩
          exact ⟨by simp only [z_wt, if_neg h15, if_neg h38, if_pos h42, if_pos h49], rfl⟩
        · refine q_iload_n hC 1 dX4_worthTrying_52 rfl rfl ?_
          refine q_iconst hC dX4_worthTrying_53 (v := 3) (by decide) rfl ?_
          refine q_icmp_ne hC dX4_worthTrying_54 (t := 69) (n := 57) (by decide) rfl (fun h54 => ?_) (fun h54 => ?_)
          · refine q_iconst hC dX4_worthTrying_69 (v := 0) (by decide) rfl ?_
            refine q_iret hC dX4_worthTrying_70 rfl ⟨by decide, by decide⟩ ⟨_, rfl, ?_⟩
            exact ⟨by simp only [z_wt, if_neg h15, if_neg h38, if_pos h42, if_neg h49, if_neg h54], rfl⟩
          · refine q_iconst hC dX4_worthTrying_57 (v := 1) (by decide) rfl ?_
            refine q_aload_n hC 0 dX4_worthTrying_58 rfl rfl ?_
            refine q_get_f hC f_X4_21 dX4_worthTrying_59 rfl rfl (Nat.le_of_ble_eq_true rfl) rfl ?_
            refine q_get_f hC f_X4_117 dX4_worthTrying_62 rfl rfl (Nat.le_of_ble_eq_true rfl) rfl ?_
            refine q_ishl hC dX4_worthTrying_65 rfl ?_
            refine q_goto hC dX4_worthTrying_66 (n := 70) (by decide) ?_
            refine q_iret hC dX4_worthTrying_70 rfl ⟨by decide, by decide⟩ ⟨_, rfl, ?_⟩
            exact ⟨by simp only [z_wt, if_neg h15, if_neg h38, if_pos h42, if_neg h49, if_pos h54], rfl⟩
      · refine q_iload_n hC 3 dX4_worthTrying_45 rfl rfl ?_
        refine q_iret hC dX4_worthTrying_46 rfl ⟨by decide, by decide⟩ ⟨_, rfl, ?_⟩
        exact ⟨by simp only [z_wt, if_neg h15, if_neg h38, if_neg h42], rfl⟩
  · refine q_aload_n hC 0 dX4_worthTrying_18 rfl rfl ?_
    refine q_get_f hC f_X4_21 dX4_worthTrying_19 rfl rfl (Nat.le_of_ble_eq_true rfl) rfl ?_
    refine q_get_f hC f_X4_84 dX4_worthTrying_22 rfl rfl (Nat.le_of_ble_eq_true rfl) rfl ?_
    refine q_if_ne hC dX4_worthTrying_25 (t := 30) (n := 28) (by decide) rfl (fun h25 => ?_) (fun h25 => ?_)
    · refine q_aload_n hC 0 dX4_worthTrying_30 rfl rfl ?_
      refine q_get_f hC f_X4_21 dX4_worthTrying_31 rfl rfl (Nat.le_of_ble_eq_true rfl) rfl ?_
      refine q_get_f hC f_X4_117 dX4_worthTrying_34 rfl rfl (Nat.le_of_ble_eq_true rfl) rfl ?_
      refine q_iconst hC dX4_worthTrying_37 (v := (-1)) (by decide) rfl ?_
      refine q_icmp_eq hC dX4_worthTrying_38 (t := 45) (n := 41) (by decide) rfl (fun h38 => ?_) (fun h38 => ?_)
      · refine q_iload_n hC 3 dX4_worthTrying_45 rfl rfl ?_
        refine q_iret hC dX4_worthTrying_46 rfl ⟨by decide, by decide⟩ ⟨_, rfl, ?_⟩
        exact ⟨by simp only [z_wt, if_pos h15, if_neg h25, if_pos h38], rfl⟩
      · refine q_iload_n hC 2 dX4_worthTrying_41 rfl rfl ?_
        refine q_if_eq hC dX4_worthTrying_42 (t := 47) (n := 45) (by decide) rfl (fun h42 => ?_) (fun h42 => ?_)
        · refine q_iload_n hC 1 dX4_worthTrying_47 rfl rfl ?_
          refine q_iconst hC dX4_worthTrying_48 (v := 2) (by decide) rfl ?_
          refine q_icmp_eq hC dX4_worthTrying_49 (t := 57) (n := 52) (by decide) rfl (fun h49 => ?_) (fun h49 => ?_)
          · refine q_iconst hC dX4_worthTrying_57 (v := 1) (by decide) rfl ?_
            refine q_aload_n hC 0 dX4_worthTrying_58 rfl rfl ?_
            refine q_get_f hC f_X4_21 dX4_worthTrying_59 rfl rfl (Nat.le_of_ble_eq_true rfl) rfl ?_
            refine q_get_f hC f_X4_117 dX4_worthTrying_62 rfl rfl (Nat.le_of_ble_eq_true rfl) rfl ?_
            refine q_ishl hC dX4_worthTrying_65 rfl ?_
            refine q_goto hC dX4_worthTrying_66 (n := 70) (by decide) ?_
            refine q_iret hC dX4_worthTrying_70 rfl ⟨by decide, by decide⟩ ⟨_, rfl, ?_⟩
            exact ⟨by simp only [z_wt, if_pos h15, if_neg h25, if_neg h38, if_pos h42, if_pos h49], rfl⟩
          · refine q_iload_n hC 1 dX4_worthTrying_52 rfl rfl ?_
            refine q_iconst hC dX4_worthTrying_53 (v := 3) (by decide) rfl ?_
            refine q_icmp_ne hC dX4_worthTrying_54 (t := 69) (n := 57) (by decide) rfl (fun h54 => ?_) (fun h54 => ?_)
            · refine q_iconst hC dX4_worthTrying_69 (v := 0) (by decide) rfl ?_
              refine q_iret hC dX4_worthTrying_70 rfl ⟨by decide, by decide⟩ ⟨_, rfl, ?_⟩
              exact ⟨by simp only [z_wt, if_pos h15, if_neg h25, if_neg h38, if_pos h42, if_neg h49, if_neg h54], rfl⟩
            · refine q_iconst hC dX4_worthTrying_57 (v := 1) (by decide) rfl ?_
              refine q_aload_n hC 0 dX4_worthTrying_58 rfl rfl ?_
              refine q_get_f hC f_X4_21 dX4_worthTrying_59 rfl rfl (Nat.le_of_ble_eq_true rfl) rfl ?_
              refine q_get_f hC f_X4_117 dX4_worthTrying_62 rfl rfl (Nat.le_of_ble_eq_true rfl) rfl ?_
              refine q_ishl hC dX4_worthTrying_65 rfl ?_
              refine q_goto hC dX4_worthTrying_66 (n := 70) (by decide) ?_
              refine q_iret hC dX4_worthTrying_70 rfl ⟨by decide, by decide⟩ ⟨_, rfl, ?_⟩
              exact ⟨by simp only [z_wt, if_pos h15, if_neg h25, if_neg h38, if_pos h42, if_neg h49, if_pos h54], rfl⟩
        · refine q_iload_n hC 3 dX4_worthTrying_45 rfl rfl ?_
          refine q_iret hC dX4_worthTrying_46 rfl ⟨by decide, by decide⟩ ⟨_, rfl, ?_⟩
          exact ⟨by simp only [z_wt, if_pos h15, if_neg h25, if_neg h38, if_neg h42], rfl⟩
    · refine q_iconst hC dX4_worthTrying_28 (v := 0) (by decide) rfl ?_
      refine q_iret hC dX4_worthTrying_29 rfl ⟨by decide, by decide⟩ ⟨_, rfl, ?_⟩
      exact ⟨by simp only [z_wt, if_pos h15, if_pos h25], rfl⟩
abbrev rm_X4_keep : Room := { frames := 1, cells := 0, slots := 0, locals := 24 }
set_option maxHeartbeats 4000000 in
set_option maxRecDepth 100000 in
theorem c_X4_keep {L : qL} (hD : q_D L.2.2.2.1) : qCT L yX4_keep cX4_keep 6 none rm_X4_keep (fun ad _ (x : Int32 × Int32 × Int32 × Int32 × Int32) => [.ref (ad 35 0), .int x.1, .int x.2.1, .int x.2.2.1, .int x.2.2.2.1, .int x.2.2.2.2]) (fun x S => z_bool (S 28 5 0)) (qPv (fun x S S' => S' = z_keep x.1 x.2.1 x.2.2.1 x.2.2.2.1 x.2.2.2.2 S)) := by
  refine q_met hD (by decide) (fun _ => Nat.le_of_ble_eq_true rfl) (fun Γ x S hΓ hpre hC => ?_)
  subst hΓ
  obtain ⟨code, k, t, m, o⟩ := x
  have hb : z_bool (S 28 5 0) := hpre
  show qV Γ _ _ 0 [(0, .ref (q_ad Γ 35 0)), (1, .int code), (2, .int k), (3, .int t), (4, .int m), (5, .int o)] [] S (0, 0)
  refine q_aload_n hC 0 dX4_keep_0 rfl rfl ?_
  refine q_iload_n hC 1 dX4_keep_1 rfl rfl ?_
  refine q_put_i hC fp_X4_33 dX4_keep_2 rfl rfl (Nat.le_of_ble_eq_true rfl) rfl rfl (Nat.le_of_ble_eq_true rfl) rfl ?_
  refine q_aload_n hC 0 dX4_keep_5 rfl rfl ?_
  refine q_get_f hC f_X4_12 dX4_keep_6 rfl rfl (Nat.le_of_ble_eq_true rfl) rfl ?_
  refine q_iconst hC dX4_keep_9 (v := 0) (by decide) rfl ?_
  refine q_put_i hC fp_X4_120 dX4_keep_10 rfl rfl (Nat.le_of_ble_eq_true rfl) rfl rfl (Nat.le_of_ble_eq_true rfl) rfl ?_
  refine q_aload_n hC 0 dX4_keep_13 rfl rfl ?_
  refine q_get_f hC f_X4_12 dX4_keep_14 rfl rfl (Nat.le_of_ble_eq_true rfl) rfl ?_
  refine q_get_f hC f_X4_123 dX4_keep_17 rfl rfl (Nat.le_of_ble_eq_true rfl) rfl ?_
  refine q_aload_n hC 0 dX4_keep_20 rfl rfl ?_
  refine q_get_f hC f_X4_21 dX4_keep_21 rfl rfl (Nat.le_of_ble_eq_true rfl) rfl ?_
  refine q_callV hC (c_X7_become (q_hD hC)) m_X7_become lk_X4_126 dX4_keep_24 (4, 5) rfl rfl rfl rfl rfl (Nat.le_of_ble_eq_true rfl) (Nat.le_of_ble_eq_true rfl) ⟨⟨by decide, by decide⟩, by decide, by decide⟩ rfl (k' := (0, 0)) rfl ⟨by decide, by decide, by decide, by simpa [q_up] using hb⟩ (fun v S' hp => ?_)
  obtain ⟨rfl, rfl⟩ := hp
  show qV Γ _ _ 27 _ _ _ _
  refine q_aload_n hC 0 dX4_keep_27 rfl rfl ?_
  refine q_get_f hC f_X4_12 dX4_keep_28 rfl rfl (Nat.le_of_ble_eq_true rfl) rfl ?_
  refine q_iload_n hC 2 dX4_keep_31 rfl rfl ?_
  refine q_iload_n hC 3 dX4_keep_32 rfl rfl ?_
  refine q_iload hC 4 dX4_keep_33 rfl rfl ?_
  refine q_iload hC 5 dX4_keep_35 rfl rfl ?_
  refine q_callV hC (c_X0_add (q_hD hC)) m_X0_add lk_X4_130 dX4_keep_37 (4, k, t, m, o) rfl rfl rfl rfl rfl (Nat.le_of_ble_eq_true rfl) (Nat.le_of_ble_eq_true rfl) ⟨⟨by decide, by decide⟩, by decide, by decide⟩ rfl (k' := (0, 0)) rfl ⟨(show 4 < 5 by decide), ⟨0, by decide, by simp [z_obec, q_up, upd, nI_0]⟩⟩ (fun v S' hp => ?_)
  obtain ⟨rfl, rfl⟩ := hp
  show qV Γ _ _ 40 _ _ _ _
  refine q_vret hC dX4_keep_40 ⟨by decide, by decide⟩ ⟨rfl, ?_⟩
  rfl
