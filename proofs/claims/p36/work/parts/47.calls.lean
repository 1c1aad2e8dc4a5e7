-- printed by wip/p36/gen_m2.py
/-- a library that calls change: in its ranges, its machine's tables in theirs -/
def z_J (S : qM) (i : Nat) : Prop := z_raw S i ∧ z_wf S i ∧ z_s36 S i
/-- what such a call leaves alone -/
def z_mu (S T : qM) (i : Nat) : Prop := (∀ k' i', ¬ (k' < 27 ∧ i' = i) → T k' i' = S k' i') ∧ z_J T i ∧ T 0 i 2 = 0
theorem z_J_of {S T : qM} {i : Nat} (h : ∀ k, 17 ≤ k → k < 27 → T k i = S k i) (h5 : T 0 i 5 = S 0 i 5) (hr : z_raw T i) (hJ : z_J S i) : z_J T i := by
  obtain ⟨-, w, s6⟩ := hJ
  refine ⟨hr, ?_, ?_⟩
  · obtain ⟨w1, w2, w3, w4, w5, w6, w7⟩ := w
    unfold z_wf z_tabs
    rw [h 19 (by omega) (by omega), h 20 (by omega) (by omega), h 23 (by omega) (by omega), h 24 (by omega) (by omega), h 25 (by omega) (by omega), h5]
    exact ⟨hr.2.2.2.1, w2, w3, w4, w5, w6, w7⟩
  · unfold z_s36
    rw [h 20 (by omega) (by omega)]; exact s6
theorem z_mu_ch {S T : qM} {i : Nat} (h : ∀ k' i', ¬ ((1 < k' ∧ k' < 17) ∧ i' = i) → T k' i' = S k' i') (hr : z_raw T i) (hJ : z_J S i) : z_mu S (q_up T 0 i (upd (T 0 i) 2 0)) i := by
  have e0 : ∀ k i', ¬ k = 0 → q_up T 0 i (upd (T 0 i) 2 0) k i' = T k i' := fun k i' hk => by simp only [q_up, hk, false_and, if_false]
  refine ⟨fun k' i' hk => ?_, z_J_of (S := S) (fun k h1 h2 => ?_) ?_ (z_raw_congr (fun k h1 h2 => e0 k i (by omega)) hr) hJ, ?_⟩
  · by_cases e : k' = 0
    · subst e
      have hi : ¬ i' = i := fun e => hk ⟨by omega, e⟩
      simp only [q_up, hi, and_false, if_false]
      exact h 0 i' (by omega)
    · rw [e0 k' i' e]; exact h k' i' (by omega)
  · rw [e0 k i (by omega)]; exact h k i (by omega)
  · simp (config := {decide := true}) only [q_up, and_self, if_true, upd, if_false]
    rw [h 0 i (by omega)]
  · simp only [q_up, and_self, if_true, upd]
theorem z_ch_mu {S T : qM} {i : Nat} (h : ∀ k' i', ¬ ((1 < k' ∧ k' < 17) ∧ i' = i) → T k' i' = q_up S 0 i (upd (S 0 i) 2 0) k' i') (hr : z_raw T i) (hJ : z_J S i) : z_mu S T i := by
  have e0 : ∀ k i', ¬ k = 0 → q_up S 0 i (upd (S 0 i) 2 0) k i' = S k i' := fun k i' hk => by simp only [q_up, hk, false_and, if_false]
  refine ⟨fun k' i' hk => ?_, z_J_of (S := S) (fun k h1 h2 => ?_) ?_ hr hJ, ?_⟩
  · rw [h k' i' (by omega)]
    by_cases e : k' = 0
    · subst e
      have hi : ¬ i' = i := fun e => hk ⟨by omega, e⟩
      simp only [q_up, hi, and_false, if_false]
    · exact e0 k' i' e
  · rw [h k i (by omega), e0 k i (by omega)]
  · rw [h 0 i (by omega)]
    simp (config := {decide := true}) only [q_up, and_self, if_true, upd, if_false]
  · rw [h 0 i (by omega)]
    simp only [q_up, and_self, if_true, upd]
theorem z_1n0 : ¬ (1 : Int32) = 0 := by decide
theorem z_hv {ot : Int32} (hot : ot = 45 ∨ ∃ u, u < 5 ∧ ot = nI (65 + u)) : z_v5 (if ot = 45 then -1 else ot - 65) := by
  rcases hot with rfl | ⟨u, hu, rfl⟩
  · exact Or.inl rfl
  · split
    · exact Or.inl rfl
    · rw [z_m65 u hu]; exact Or.inr ⟨u, hu, rfl⟩
theorem z_raw_1 {S T : qM} {i t : Nat} (k : Nat) (hk : k = 3 ∨ k = 4 ∨ k = 5 ∨ k = 6 ∨ k = 7 ∨ k = 8) {x : Int32} (hT : T = q_up S k i (upd (S k i) t x)) (hx : (k < 6 → z_bool x) ∧ (k = 6 → z_sg4 x) ∧ (k = 7 → z_v5 x) ∧ (k = 8 → z_m5 x)) (hr : z_raw S i) : z_raw T i := by
  obtain ⟨r1, r2, r3, r4, r5, r6, r7, r8⟩ := hr
  obtain ⟨x1, x2, x3, x4⟩ := hx
  have e : ∀ k', ¬ k' = k → T k' i = S k' i := fun k' h => by rw [hT]; simp only [q_up, h, false_and, if_false]
  have f : ∀ q, T k i q = if q = t then x else S k i q := fun q => by rw [hT]; simp only [q_up, and_self, if_true, upd]
  refine ⟨fun q hq => ?_, fun q hq => ?_, fun q hq => ?_, fun q hq => ?_, fun q hq => ?_, fun p hp => ?_, fun p hp => ?_, fun p hp => ?_⟩
  · rw [e 2 (by omega)]; exact r1 q hq
  · have g := r2 q hq
    rcases hk with rfl | rfl | rfl | rfl | rfl | rfl
    · rw [f q, e 4 (by omega), e 5 (by omega)]
      split
      · exact ⟨x1 (by omega), g.2⟩
      · exact g
    · rw [f q, e 3 (by omega), e 5 (by omega)]
      split
      · exact ⟨g.1, x1 (by omega), g.2.2⟩
      · exact g
    · rw [f q, e 3 (by omega), e 4 (by omega)]
      split
      · exact ⟨g.1, g.2.1, x1 (by omega)⟩
      · exact g
    · rw [e 3 (by omega), e 4 (by omega), e 5 (by omega)]; exact g
    · rw [e 3 (by omega), e 4 (by omega), e 5 (by omega)]; exact g
    · rw [e 3 (by omega), e 4 (by omega), e 5 (by omega)]; exact g
  · by_cases h : k = 6
    · subst h
      rw [f q]
      split
      · exact Or.inr (x2 rfl)
      · exact r3 q hq
    · rw [e 6 (by omega)]; exact r3 q hq
  · by_cases h : k = 7
    · subst h
      rw [f q]
      split
      · exact x3 rfl
      · exact r4 q hq
    · rw [e 7 (by omega)]; exact r4 q hq
  · by_cases h : k = 8
    · subst h
      rw [f q]
      split
      · exact x4 rfl
      · exact r5 q hq
    · rw [e 8 (by omega)]; exact r5 q hq
  · rw [e 10 (by omega), e 11 (by omega)]; exact r6 p hp
  · rw [e 14 (by omega), e 15 (by omega)]; exact r7 p hp
  · rw [e 12 (by omega), e 16 (by omega)]; exact r8 p hp
theorem z_raw_m {S T : qM} {i p t : Nat} {sg kd : Int32} (ht : (t = 9 ∧ (z_sg4 sg → z_mk4 kd)) ∨ (t = 13 ∧ (z_sg4 sg → z_fk4 kd))) (hs : sg = 45 ∨ z_sg4 sg) (hT : z_mp S T t i p sg kd) (hr : z_raw S i) : z_raw T i := by
  obtain ⟨r1, r2, r3, r4, r5, r6, r7, r8⟩ := hr
  obtain ⟨m1, m2, m3, m4, m5⟩ := hT
  have n45 : z_sg4 sg → ¬ sg = 45 := by
    rintro (rfl | rfl | rfl | rfl) <;> decide
  have lo : ∀ k, k < 9 → T k i = S k i := fun k hk => m1 k i (by omega)
  refine ⟨fun q hq => ?_, fun q hq => ?_, fun q hq => ?_, fun q hq => ?_, fun q hq => ?_, fun q hq => ?_, fun q hq => ?_, fun q hq => ?_⟩
  · rw [lo 2 (by omega)]; exact r1 q hq
  · rw [lo 3 (by omega), lo 4 (by omega), lo 5 (by omega)]; exact r2 q hq
  · rw [lo 6 (by omega)]; exact r3 q hq
  · rw [lo 7 (by omega)]; exact r4 q hq
  · rw [lo 8 (by omega)]; exact r5 q hq
  · rcases ht with ⟨rfl, hk⟩ | ⟨rfl, hk⟩
    · by_cases e : q = p
      · subst e
        have a : T 10 i q = sg := m3
        have b : T 11 i q = if sg = 45 then 45 else kd := m4
        rw [a, b]
        rcases hs with h | h
        · rw [if_pos h]; exact Or.inl ⟨h, rfl⟩
        · rw [if_neg (n45 h)]; exact Or.inr ⟨h, hk h⟩
      · have a : T 10 i q = S 10 i q := (m2 q e).1
        have b : T 11 i q = S 11 i q := (m2 q e).2
        rw [a, b]; exact r6 q hq
    · rw [m1 10 i (by omega), m1 11 i (by omega)]; exact r6 q hq
  · rcases ht with ⟨rfl, hk⟩ | ⟨rfl, hk⟩
    · rw [m1 14 i (by omega), m1 15 i (by omega)]; exact r7 q hq
    · by_cases e : q = p
      · subst e
        have a : T 14 i q = sg := m3
        have b : T 15 i q = if sg = 45 then 45 else kd := m4
        rw [a, b]
        rcases hs with h | h
        · rw [if_pos h]; exact Or.inl ⟨h, rfl⟩
        · rw [if_neg (n45 h)]; exact Or.inr ⟨h, hk h⟩
      · have a : T 14 i q = S 14 i q := (m2 q e).1
        have b : T 15 i q = S 15 i q := (m2 q e).2
        rw [a, b]; exact r7 q hq
  · rcases ht with ⟨rfl, hk⟩ | ⟨rfl, hk⟩
    · refine ⟨?_, by rw [m1 16 i (by omega)]; exact (r8 q hq).2⟩
      rcases m5 q with e | e
      · rw [show T 12 i q = S 12 i q from e]; exact (r8 q hq).1
      · exact e
    · refine ⟨by rw [m1 12 i (by omega)]; exact (r8 q hq).1, ?_⟩
      rcases m5 q with e | e
      · rw [show T 16 i q = S 16 i q from e]; exact (r8 q hq).2
      · exact e
abbrev rm_X9_type : Room := { frames := 3, cells := 0, slots := 0, locals := 70 }
set_option maxHeartbeats 4000000 in
set_option maxRecDepth 100000 in
theorem c_X9_type {L : qL} (hD : q_D L.2.2.2.1) : qCT L yX9_type cX9_type 6 (some .char) rm_X9_type (fun ad _ (x : Nat × Nat × Int32) => [.ref (ad 36 0), .int (nI x.1), .int (nI (65 + x.2.1)), .int x.2.2]) (fun x S => x.1 < 4 ∧ x.2.1 < 5 ∧ (x.2.2 = 45 ∨ x.2.2 = 99 ∨ x.2.2 = 105) ∧ z_J S x.1) (qPi (fun x S r S' => z_mu S S' x.1 ∧ S' 2 x.1 x.2.1 = x.2.2 ∧ ∀ q, ¬ q = x.2.1 → S' 2 x.1 q = S 2 x.1 q)) := by
  refine q_met hD (by decide) (fun _ => Nat.le_of_ble_eq_true rfl) (fun Γ x S hΓ hpre hC => ?_)
  subst hΓ
  obtain ⟨i, t, kd⟩ := x
  obtain ⟨hi, ht, hkd, hJ⟩ := hpre
  have hi : i < 4 := hi
  have ht : t < 5 := ht
  have hkd : kd = 45 ∨ kd = 99 ∨ kd = 105 := hkd
  have hJ : z_J S i := hJ
  have e65 := z_m65 t ht
  have ec : (nI t).toNatClampNeg = t := nI_clamp (by omega)
  have vi : vp_in (nI t) 5 := vp_in_nI ht (by decide)
  have J30 : qV Γ rm_X9_type 6 30 [(0, .ref (q_ad Γ 36 0)), (1, .int (nI i)), (2, .int (nI (65 + t))), (3, .int kd)] [] S (0, 0) := by
    refine q_iconst hC dX9_type_30 (v := 1) (by decide) rfl ?_
    refine q_goto hC dX9_type_31 (n := 35) (by decide) ?_
    refine q_callS hC (c_X9_needRange (q_hD hC)) m_X9_needRange lk_X9_62 dX9_type_35 1 rfl rfl (Nat.le_of_ble_eq_true rfl) ⟨⟨by decide, by decide⟩, by decide, by decide⟩ rfl (k' := (0, 0)) rfl z_1n0 (fun v S' hp => ?_)
    obtain ⟨rfl, rfl⟩ := hp
    show qV Γ _ _ 38 _ _ _ _
    refine q_aload_n hC 0 dX9_type_38 rfl rfl ?_
    refine q_get_f hC f_X9_11 dX9_type_39 rfl rfl (Nat.le_of_ble_eq_true rfl) rfl ?_
    refine q_iload_n hC 1 dX9_type_42 rfl rfl ?_
    refine q_lib hC i dX9_type_43 rfl hi rfl ?_
    refine q_astore hC dX9_type_44 (by decide) (ls' := [(0, _), (1, _), (2, _), (3, _), (4, _)]) rfl rfl ?_
    refine q_aload hC 4 dX9_type_46 rfl rfl ?_
    refine q_get_f hC f_X9_66 dX9_type_48 rfl rfl hi rfl ?_
    refine q_get_f hC f_X9_70 dX9_type_51 rfl rfl hi rfl ?_
    refine q_iload_n hC 2 dX9_type_54 rfl rfl ?_
    refine q_bipush hC dX9_type_55 (v := 65) (by decide) rfl ?_
    refine q_isub hC dX9_type_57 rfl ?_
    rw [e65]
    refine q_cald hC dX9_type_58 rfl hi vi rfl ?_
    refine q_istore hC dX9_type_59 (by decide) (ls' := [(0, _), (1, _), (2, _), (3, _), (4, _), (5, _)]) rfl rfl ?_
    refine q_aload hC 4 dX9_type_61 rfl rfl ?_
    refine q_get_f hC f_X9_66 dX9_type_63 rfl rfl hi rfl ?_
    refine q_iload_n hC 2 dX9_type_66 rfl rfl ?_
    refine q_bipush hC dX9_type_67 (v := 65) (by decide) rfl ?_
    refine q_isub hC dX9_type_69 rfl ?_
    rw [e65]
    refine q_iload_n hC 3 dX9_type_70 rfl rfl ?_
    refine q_callV hC (c_X2_renew (q_hD hC)) m_X2_renew lk_X9_76 dX9_type_71 (i, t, kd) rfl rfl rfl rfl rfl hi (Nat.le_of_ble_eq_true rfl) ⟨⟨by decide, by decide⟩, by decide, by decide⟩ rfl (k' := (0, 0)) rfl ⟨hi, ht, hkd, hJ.1⟩ (fun v S' hp => ?_)
    obtain ⟨rfl, hrn⟩ := hp
    have hrn : z_rn S S' i t kd := hrn
    show qV Γ _ _ 74 _ _ _ _
    refine q_aload hC 4 dX9_type_74 rfl rfl ?_
    refine q_callV hC (c_X5_changed (q_hD hC)) m_X5_changed lk_X9_80 dX9_type_76 (i, ()) rfl rfl rfl rfl rfl hi (Nat.le_of_ble_eq_true rfl) ⟨⟨by decide, by decide⟩, by decide, by decide⟩ rfl (k' := (0, 0)) rfl hi (fun v S' hp => ?_)
    obtain ⟨rfl, rfl⟩ := hp
    show qV Γ _ _ 79 _ _ _ _
    refine q_iload hC 5 dX9_type_79 rfl rfl ?_
    refine q_iret hC dX9_type_81 (by rw [ec]; exact z_chr_n (z_kc (hJ.1.1 t ht))) ⟨by decide, by decide⟩ ⟨_, rfl, ?_⟩
    exact ⟨z_mu_ch hrn.1 hrn.2.2.2 hJ, by simp (config := {decide := true}) only [q_up, false_and, if_false]; exact hrn.2.1, fun q hq => by simp (config := {decide := true}) only [q_up, false_and, if_false]; exact hrn.2.2.1 q hq⟩
  show qV Γ _ _ 0 [(0, .ref (q_ad Γ 36 0)), (1, .int (nI i)), (2, .int (nI (65 + t))), (3, .int kd)] [] S (0, 0)
  refine q_iload_n hC 1 dX9_type_0 rfl rfl ?_
  refine q_iconst hC dX9_type_1 (v := 4) (by decide) rfl ?_
  refine q_callS hC (c_X9_needPlace (q_hD hC)) m_X9_needPlace lk_X9_54 dX9_type_2 (i, 4) rfl rfl (Nat.le_of_ble_eq_true rfl) ⟨⟨by decide, by decide⟩, by decide, by decide⟩ rfl (k' := (0, 0)) rfl ⟨hi, (show (4 : Nat) < 2 ^ 31 by decide)⟩ (fun v S' hp => ?_)
  obtain ⟨rfl, rfl⟩ := hp
  show qV Γ _ _ 5 _ _ _ _
  refine q_iload_n hC 2 dX9_type_5 rfl rfl ?_
  refine q_callS hC (c_X9_isType (q_hD hC)) m_X9_isType lk_X9_58 dX9_type_6 (nI (65 + t)) rfl rfl (Nat.le_of_ble_eq_true rfl) ⟨⟨by decide, by decide⟩, by decide, by decide⟩ rfl (k' := (0, 0)) rfl trivial (fun v S' hp => ?_)
  obtain ⟨r6_2, rfl, rfl, rfl⟩ := hp
  show qV Γ _ _ 9 _ (.int _ :: _) _ _
  refine q_if_eq hC dX9_type_9 (t := 34) (n := 12) (by decide) rfl (fun h9 => absurd h9 (by rw [z_isT t ht]; exact z_1n0)) (fun h9 => ?_)
  refine q_iload_n hC 3 dX9_type_12 rfl rfl ?_
  refine q_bipush hC dX9_type_13 (v := 99) (by decide) rfl ?_
  refine q_icmp_eq hC dX9_type_15 (t := 30) (n := 18) (by decide) rfl (fun h15 => ?_) (fun h15 => ?_)
  · exact J30
  · refine q_iload_n hC 3 dX9_type_18 rfl rfl ?_
    refine q_bipush hC dX9_type_19 (v := 105) (by decide) rfl ?_
    refine q_icmp_eq hC dX9_type_21 (t := 30) (n := 24) (by decide) rfl (fun h21 => ?_) (fun h21 => ?_)
    · exact J30
    · refine q_iload_n hC 3 dX9_type_24 rfl rfl ?_
      refine q_bipush hC dX9_type_25 (v := 45) (by decide) rfl ?_
      refine q_icmp_ne hC dX9_type_27 (t := 34) (n := 30) (by decide) rfl (fun h27 => ?_) (fun h27 => ?_)
      · exact (Or.elim hkd (fun h => h27 h) (fun z => Or.elim z (fun h => h15 h) (fun h => h21 h))).elim
      · exact J30
abbrev rm_X9_above : Room := { frames := 2, cells := 0, slots := 0, locals := 41 }
set_option maxHeartbeats 4000000 in
set_option maxRecDepth 100000 in
theorem c_X9_above {L : qL} (hD : q_D L.2.2.2.1) : qCT L yX9_above cX9_above 6 (some .char) rm_X9_above (fun ad _ (x : Nat × Nat × Int32) => [.ref (ad 36 0), .int (nI x.1), .int (nI (65 + x.2.1)), .int x.2.2]) (fun x S => x.1 < 4 ∧ x.2.1 < 5 ∧ (x.2.2 = 45 ∨ ∃ u, u < 5 ∧ x.2.2 = nI (65 + u)) ∧ z_J S x.1 ∧ ¬ S 2 x.1 x.2.1 = 45) (qPi (fun x S r S' => z_mu S S' x.1)) := by
  refine q_met hD (by decide) (fun _ => Nat.le_of_ble_eq_true rfl) (fun Γ x S hΓ hpre hC => ?_)
  subst hΓ
  obtain ⟨i, t, ot⟩ := x
  obtain ⟨hi, ht, hot, hJ, hk⟩ := hpre
  have hi : i < 4 := hi
  have ht : t < 5 := ht
  have hot : ot = 45 ∨ ∃ u, u < 5 ∧ ot = nI (65 + u) := hot
  have hJ : z_J S i := hJ
  have e65 := z_m65 t ht
  have ec : (nI t).toNatClampNeg = t := nI_clamp (by omega)
  have vi : vp_in (nI t) 5 := vp_in_nI ht (by decide)
  have hv := z_hv hot
  have hsp : z_v5 (S 7 i (nI t).toNatClampNeg) := z_sups_at hJ.1.2.2.2.1 ⟨t, ht, rfl⟩
  have hk : ¬ S 2 i t = 45 := hk
  have J25 : qV Γ rm_X9_above 6 25 [(0, .ref (q_ad Γ 36 0)), (1, .int (nI i)), (2, .int (nI (65 + t))), (3, .int ot)] [] S (0, 0) := by
    refine q_iconst hC dX9_above_25 (v := 1) (by decide) rfl ?_
    refine q_goto hC dX9_above_26 (n := 30) (by decide) ?_
    refine q_callS hC (c_X9_needRange (q_hD hC)) m_X9_needRange lk_X9_62 dX9_above_30 1 rfl rfl (Nat.le_of_ble_eq_true rfl) ⟨⟨by decide, by decide⟩, by decide, by decide⟩ rfl (k' := (0, 0)) rfl z_1n0 (fun v S' hp => ?_)
    obtain ⟨rfl, rfl⟩ := hp
    show qV Γ _ _ 33 _ _ _ _
    refine q_aload_n hC 0 dX9_above_33 rfl rfl ?_
    refine q_get_f hC f_X9_11 dX9_above_34 rfl rfl (Nat.le_of_ble_eq_true rfl) rfl ?_
    refine q_iload_n hC 1 dX9_above_37 rfl rfl ?_
    refine q_lib hC i dX9_above_38 rfl hi rfl ?_
    refine q_astore hC dX9_above_39 (by decide) (ls' := [(0, _), (1, _), (2, _), (3, _), (4, _)]) rfl rfl ?_
    refine q_aload hC 4 dX9_above_41 rfl rfl ?_
    refine q_iload_n hC 2 dX9_above_43 rfl rfl ?_
    refine q_callS hC (c_X9_needThere (q_hD hC)) m_X9_needThere lk_X9_83 dX9_above_44 (i, t) rfl rfl (Nat.le_of_ble_eq_true rfl) ⟨⟨by decide, by decide⟩, by decide, by decide⟩ rfl (k' := (0, 0)) rfl ⟨hi, ht, hk⟩ (fun v S' hp => ?_)
    obtain ⟨rfl, rfl⟩ := hp
    show qV Γ _ _ 47 _ _ _ _
    refine q_aload hC 4 dX9_above_47 rfl rfl ?_
    refine q_get_f hC f_X9_66 dX9_above_49 rfl rfl hi rfl ?_
    refine q_get_f hC f_X9_91 dX9_above_52 rfl rfl hi rfl ?_
    refine q_iload_n hC 2 dX9_above_55 rfl rfl ?_
    refine q_bipush hC dX9_above_56 (v := 65) (by decide) rfl ?_
    refine q_isub hC dX9_above_58 rfl ?_
    rw [e65]
    refine q_iald hC dX9_above_59 rfl hi vi rfl ?_
    refine q_istore hC dX9_above_60 (by decide) (ls' := [(0, _), (1, _), (2, _), (3, _), (4, _), (5, _)]) rfl rfl ?_
    refine q_aload hC 4 dX9_above_62 rfl rfl ?_
    refine q_get_f hC f_X9_66 dX9_above_64 rfl rfl hi rfl ?_
    refine q_get_f hC f_X9_91 dX9_above_67 rfl rfl hi rfl ?_
    refine q_iload_n hC 2 dX9_above_70 rfl rfl ?_
    refine q_bipush hC dX9_above_71 (v := 65) (by decide) rfl ?_
    refine q_isub hC dX9_above_73 rfl ?_
    rw [e65]
    refine q_iload_n hC 3 dX9_above_74 rfl rfl ?_
    refine q_bipush hC dX9_above_75 (v := 45) (by decide) rfl ?_
    refine q_icmp_ne hC dX9_above_77 (t := 84) (n := 80) (by decide) rfl (fun h77 => ?_) (fun h77 => ?_)
    · refine q_iload_n hC 3 dX9_above_84 rfl rfl ?_
      refine q_bipush hC dX9_above_85 (v := 65) (by decide) rfl ?_
      refine q_isub hC dX9_above_87 rfl ?_
      refine q_iast hC dX9_above_88 (fun _ => rfl) hi vi rfl ?_
      refine q_aload hC 4 dX9_above_89 rfl rfl ?_
      refine q_callV hC (c_X5_changed (q_hD hC)) m_X5_changed lk_X9_80 dX9_above_91 (i, ()) rfl rfl rfl rfl rfl hi (Nat.le_of_ble_eq_true rfl) ⟨⟨by decide, by decide⟩, by decide, by decide⟩ rfl (k' := (0, 0)) rfl hi (fun v S' hp => ?_)
      obtain ⟨rfl, rfl⟩ := hp
      show qV Γ _ _ 94 _ _ _ _
      refine q_iload hC 5 dX9_above_94 rfl rfl ?_
      refine q_callS hC (c_X9_letter (q_hD hC)) m_X9_letter lk_X9_94 dX9_above_96 _ rfl rfl (Nat.le_of_ble_eq_true rfl) ⟨⟨by decide, by decide⟩, by decide, by decide⟩ rfl (k' := (0, 0)) rfl hsp (fun v S' hp => ?_)
      obtain ⟨r96_5, rfl, hn96_5, rfl⟩ := hp
      show qV Γ _ _ 99 _ (.int _ :: _) _ _
      refine q_iret hC dX9_above_99 (by assumption) ⟨by decide, by decide⟩ ⟨_, rfl, ?_⟩
      first
        | exact z_mu_ch (S := S) (fun k' i' hk' => by simp only [q_up]; rw [if_neg (by omega)]) (z_raw_1 7 (by decide) (by rw [ec]) ⟨fun h => absurd h (by decide), fun h => absurd h (by decide), fun _ => (by rw [if_pos h77] at hv; exact hv), fun h => absurd h (by decide)⟩ hJ.1) hJ
        | exact z_mu_ch (S := S) (fun k' i' hk' => by simp only [q_up]; rw [if_neg (by omega)]) (z_raw_1 7 (by decide) (by rw [ec]) ⟨fun h => absurd h (by decide), fun h => absurd h (by decide), fun _ => (by rw [if_neg h77] at hv; exact hv), fun h => absurd h (by decide)⟩ hJ.1) hJ
    · refine q_iconst hC dX9_above_80 (v := (-1)) (by decide) rfl ?_
      refine q_goto hC dX9_above_81 (n := 88) (by decide) ?_
      refine q_iast hC dX9_above_88 (fun _ => rfl) hi vi rfl ?_
      refine q_aload hC 4 dX9_above_89 rfl rfl ?_
      refine q_callV hC (c_X5_changed (q_hD hC)) m_X5_changed lk_X9_80 dX9_above_91 (i, ()) rfl rfl rfl rfl rfl hi (Nat.le_of_ble_eq_true rfl) ⟨⟨by decide, by decide⟩, by decide, by decide⟩ rfl (k' := (0, 0)) rfl hi (fun v S' hp => ?_)
      obtain ⟨rfl, rfl⟩ := hp
      show qV Γ _ _ 94 _ _ _ _
      refine q_iload hC 5 dX9_above_94 rfl rfl ?_
      refine q_callS hC (c_X9_letter (q_hD hC)) m_X9_letter lk_X9_94 dX9_above_96 _ rfl rfl (Nat.le_of_ble_eq_true rfl) ⟨⟨by decide, by decide⟩, by decide, by decide⟩ rfl (k' := (0, 0)) rfl hsp (fun v S' hp => ?_)
      obtain ⟨r96_7, rfl, hn96_7, rfl⟩ := hp
      show qV Γ _ _ 99 _ (.int _ :: _) _ _
      refine q_iret hC dX9_above_99 (by assumption) ⟨by decide, by decide⟩ ⟨_, rfl, ?_⟩
      first
        | exact z_mu_ch (S := S) (fun k' i' hk' => by simp only [q_up]; rw [if_neg (by omega)]) (z_raw_1 7 (by decide) (by rw [ec]) ⟨fun h => absurd h (by decide), fun h => absurd h (by decide), fun _ => (by rw [if_pos h77] at hv; exact hv), fun h => absurd h (by decide)⟩ hJ.1) hJ
        | exact z_mu_ch (S := S) (fun k' i' hk' => by simp only [q_up]; rw [if_neg (by omega)]) (z_raw_1 7 (by decide) (by rw [ec]) ⟨fun h => absurd h (by decide), fun h => absurd h (by decide), fun _ => (by rw [if_neg h77] at hv; exact hv), fun h => absurd h (by decide)⟩ hJ.1) hJ
  show qV Γ _ _ 0 [(0, .ref (q_ad Γ 36 0)), (1, .int (nI i)), (2, .int (nI (65 + t))), (3, .int ot)] [] S (0, 0)
  refine q_iload_n hC 1 dX9_above_0 rfl rfl ?_
  refine q_iconst hC dX9_above_1 (v := 4) (by decide) rfl ?_
  refine q_callS hC (c_X9_needPlace (q_hD hC)) m_X9_needPlace lk_X9_54 dX9_above_2 (i, 4) rfl rfl (Nat.le_of_ble_eq_true rfl) ⟨⟨by decide, by decide⟩, by decide, by decide⟩ rfl (k' := (0, 0)) rfl ⟨hi, (show (4 : Nat) < 2 ^ 31 by decide)⟩ (fun v S' hp => ?_)
  obtain ⟨rfl, rfl⟩ := hp
  show qV Γ _ _ 5 _ _ _ _
  refine q_iload_n hC 2 dX9_above_5 rfl rfl ?_
  refine q_callS hC (c_X9_isType (q_hD hC)) m_X9_isType lk_X9_58 dX9_above_6 (nI (65 + t)) rfl rfl (Nat.le_of_ble_eq_true rfl) ⟨⟨by decide, by decide⟩, by decide, by decide⟩ rfl (k' := (0, 0)) rfl trivial (fun v S' hp => ?_)
  obtain ⟨r6_2, rfl, rfl, rfl⟩ := hp
  show qV Γ _ _ 9 _ (.int _ :: _) _ _
  refine q_if_eq hC dX9_above_9 (t := 29) (n := 12) (by decide) rfl (fun h9 => absurd h9 (by rw [z_isT t ht]; exact z_1n0)) (fun h9 => ?_)
  refine q_iload_n hC 3 dX9_above_12 rfl rfl ?_
  refine q_callS hC (c_X9_isType (q_hD hC)) m_X9_isType lk_X9_58 dX9_above_13 ot rfl rfl (Nat.le_of_ble_eq_true rfl) ⟨⟨by decide, by decide⟩, by decide, by decide⟩ rfl (k' := (0, 0)) rfl trivial (fun v S' hp => ?_)
  obtain ⟨r13_3, rfl, rfl, rfl⟩ := hp
  show qV Γ _ _ 16 _ (.int _ :: _) _ _
  refine q_if_ne hC dX9_above_16 (t := 25) (n := 19) (by decide) rfl (fun h16 => ?_) (fun h16 => ?_)
  · exact J25
  · refine q_iload_n hC 3 dX9_above_19 rfl rfl ?_
    refine q_bipush hC dX9_above_20 (v := 45) (by decide) rfl ?_
    refine q_icmp_ne hC dX9_above_22 (t := 29) (n := 25) (by decide) rfl (fun h22 => ?_) (fun h22 => ?_)
    · exact (Or.elim hot (fun h => h22 h) (fun ⟨u, hu, h⟩ => z_1n0 (by rw [← z_isT u hu, ← h]; exact h16))).elim
    · exact J25
abbrev rmx_X9_above : Room := { frames := 8, cells := 1, slots := 6, locals := 131 }
set_option maxHeartbeats 4000000 in
set_option maxRecDepth 100000 in
theorem x_X9_above {L : qL} (hD : q_D L.2.2.2.1) (hl : L.1.stackTraces = false) : qCX L yX9_above cX9_above 6 (some .char) rmx_X9_above (fun ad _ (x : Nat × Nat × Int32) => [.ref (ad 36 0), .int (nI x.1), .int (nI (65 + x.2.1)), .int x.2.2]) (fun x S => x.1 < 4 ∧ x.2.1 < 5 ∧ (x.2.2 = 45 ∨ ∃ u, u < 5 ∧ x.2.2 = nI (65 + u)) ∧ z_J S x.1 ∧ S 2 x.1 x.2.1 = 45) q_nsee (fun _ S S' => S' = S) := by
  refine q_metX hD (by decide) (fun _ => Nat.le_of_ble_eq_true rfl) (fun Γ x S hΓ hpre hC hX => ?_)
  subst hΓ
  obtain ⟨i, t, ot⟩ := x
  obtain ⟨hi, ht, hot, hJ, hk⟩ := hpre
  have hi : i < 4 := hi
  have ht : t < 5 := ht
  have hot : ot = 45 ∨ ∃ u, u < 5 ∧ ot = nI (65 + u) := hot
  have hJ : z_J S i := hJ
  have e65 := z_m65 t ht
  have ec : (nI t).toNatClampNeg = t := nI_clamp (by omega)
  have vi : vp_in (nI t) 5 := vp_in_nI ht (by decide)
  have hv := z_hv hot
  have hsp : z_v5 (S 7 i (nI t).toNatClampNeg) := z_sups_at hJ.1.2.2.2.1 ⟨t, ht, rfl⟩
  have hk : S 2 i t = 45 := hk
  have J25 : qV Γ rmx_X9_above 6 25 [(0, .ref (q_ad Γ 36 0)), (1, .int (nI i)), (2, .int (nI (65 + t))), (3, .int ot)] [] S (0, 0) := by
    refine q_iconst hC dX9_above_25 (v := 1) (by decide) rfl ?_
    refine q_goto hC dX9_above_26 (n := 30) (by decide) ?_
    refine q_callS hC (c_X9_needRange (q_hD hC)) m_X9_needRange lk_X9_62 dX9_above_30 1 rfl rfl (Nat.le_of_ble_eq_true rfl) ⟨⟨by decide, by decide⟩, by decide, by decide⟩ rfl (k' := (0, 0)) rfl z_1n0 (fun v S' hp => ?_)
    obtain ⟨rfl, rfl⟩ := hp
    show qV Γ _ _ 33 _ _ _ _
    refine q_aload_n hC 0 dX9_above_33 rfl rfl ?_
    refine q_get_f hC f_X9_11 dX9_above_34 rfl rfl (Nat.le_of_ble_eq_true rfl) rfl ?_
    refine q_iload_n hC 1 dX9_above_37 rfl rfl ?_
    refine q_lib hC i dX9_above_38 rfl hi rfl ?_
    refine q_astore hC dX9_above_39 (by decide) (ls' := [(0, _), (1, _), (2, _), (3, _), (4, _)]) rfl rfl ?_
    refine q_aload hC 4 dX9_above_41 rfl rfl ?_
    refine q_iload_n hC 2 dX9_above_43 rfl rfl ?_
    exact q_xS hC hX (x_X9_needThere (q_hD hC) hl) m_X9_needThere lk_X9_83 dX9_above_44 (i, t) rfl rfl (Nat.le_of_ble_eq_true rfl) ⟨⟨by decide, by decide⟩, by decide, by decide⟩ ⟨hi, ht, hk⟩ (fun _ h => h)
  show qV Γ _ _ 0 [(0, .ref (q_ad Γ 36 0)), (1, .int (nI i)), (2, .int (nI (65 + t))), (3, .int ot)] [] S (0, 0)
  refine q_iload_n hC 1 dX9_above_0 rfl rfl ?_
  refine q_iconst hC dX9_above_1 (v := 4) (by decide) rfl ?_
  refine q_callS hC (c_X9_needPlace (q_hD hC)) m_X9_needPlace lk_X9_54 dX9_above_2 (i, 4) rfl rfl (Nat.le_of_ble_eq_true rfl) ⟨⟨by decide, by decide⟩, by decide, by decide⟩ rfl (k' := (0, 0)) rfl ⟨hi, (show (4 : Nat) < 2 ^ 31 by decide)⟩ (fun v S' hp => ?_)
  obtain ⟨rfl, rfl⟩ := hp
  show qV Γ _ _ 5 _ _ _ _
  refine q_iload_n hC 2 dX9_above_5 rfl rfl ?_
  refine q_callS hC (c_X9_isType (q_hD hC)) m_X9_isType lk_X9_58 dX9_above_6 (nI (65 + t)) rfl rfl (Nat.le_of_ble_eq_true rfl) ⟨⟨by decide, by decide⟩, by decide, by decide⟩ rfl (k' := (0, 0)) rfl trivial (fun v S' hp => ?_)
  obtain ⟨r6_2, rfl, rfl, rfl⟩ := hp
  show qV Γ _ _ 9 _ (.int _ :: _) _ _
  refine q_if_eq hC dX9_above_9 (t := 29) (n := 12) (by decide) rfl (fun h9 => absurd h9 (by rw [z_isT t ht]; exact z_1n0)) (fun h9 => ?_)
  refine q_iload_n hC 3 dX9_above_12 rfl rfl ?_
  refine q_callS hC (c_X9_isType (q_hD hC)) m_X9_isType lk_X9_58 dX9_above_13 ot rfl rfl (Nat.le_of_ble_eq_true rfl) ⟨⟨by decide, by decide⟩, by decide, by decide⟩ rfl (k' := (0, 0)) rfl trivial (fun v S' hp => ?_)
  obtain ⟨r13_3, rfl, rfl, rfl⟩ := hp
  show qV Γ _ _ 16 _ (.int _ :: _) _ _
  refine q_if_ne hC dX9_above_16 (t := 25) (n := 19) (by decide) rfl (fun h16 => ?_) (fun h16 => ?_)
  · exact J25
  · refine q_iload_n hC 3 dX9_above_19 rfl rfl ?_
    refine q_bipush hC dX9_above_20 (v := 45) (by decide) rfl ?_
    refine q_icmp_ne hC dX9_above_22 (t := 29) (n := 25) (by decide) rfl (fun h22 => ?_) (fun h22 => ?_)
    · exact (Or.elim hot (fun h => h22 h) (fun ⟨u, hu, h⟩ => z_1n0 (by rw [← z_isT u hu, ← h]; exact h16))).elim
    · exact J25
