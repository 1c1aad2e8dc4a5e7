-- printed by wip/p36/gen_m2.py
/-- what a library's law leaves: the tables in their ranges, lawful where it says so -/
def z_lawP (S T : qM) (i : Nat) : Prop := (∀ k' i', ¬ ((k' = 0 ∨ (17 ≤ k' ∧ k' < 27)) ∧ i' = i) → T k' i' = S k' i') ∧ (∀ p, ¬ p = 2 → ¬ p = 3 → T 0 i p = S 0 i p) ∧ T 0 i 2 = 1 ∧ z_wf T i ∧ z_s36 T i ∧ (T 0 i 3 = -1 → z_tb T i) ∧ z_cd S i (T 0 i 3) ∧ z_n24 T i
def z_lawQ (S T : qM) (i : Nat) : Prop := (¬ S 0 i 2 = 0 ∧ T = S) ∨ (S 0 i 2 = 0 ∧ z_lawP S T i)
theorem z_lawP_no {S D : qM} {i : Nat} {r : Int32} (hw : z_wf S i) (hD : z_dv S D i) (hc : z_cd D i r) (hr : ¬ r = -1) :
    z_lawP S (q_up (q_up D 0 i (upd (D 0 i) 3 r)) 0 i (upd (q_up D 0 i (upd (D 0 i) 3 r) 0 i) 2 1)) i := by
  have fr := z_dv_fr hD
  obtain ⟨dw, d36⟩ := z_dv_wf hw hD
  have e0 : ∀ k i', ¬ k = 0 → q_up (q_up D 0 i (upd (D 0 i) 3 r)) 0 i (upd (q_up D 0 i (upd (D 0 i) 3 r) 0 i) 2 1) k i' = D k i' := by
    intro k i' hk
    simp only [q_up, hk, false_and, if_false]
  have e1 : ∀ p, ¬ p = 2 → ¬ p = 3 → q_up (q_up D 0 i (upd (D 0 i) 3 r)) 0 i (upd (q_up D 0 i (upd (D 0 i) 3 r) 0 i) 2 1) 0 i p = D 0 i p := by
    intro p h2 h3
    simp only [q_up, and_self, if_true, upd, if_neg h2, if_neg h3]
  have e3 : q_up (q_up D 0 i (upd (D 0 i) 3 r)) 0 i (upd (q_up D 0 i (upd (D 0 i) 3 r) 0 i) 2 1) 0 i 3 = r := by
    simp (config := {decide := true}) only [q_up, and_self, if_true, upd, if_false]
  refine ⟨fun k' i' hk => ?_, fun p h2 h3 => ?_, ?_, ?_, ?_, fun h => absurd (e3.symm.trans h) hr, ?_, ?_⟩
  · by_cases e : k' = 0
    · subst e
      have hi : ¬ i' = i := fun e => hk ⟨Or.inl rfl, e⟩
      simp only [q_up, hi, and_false, if_false]
      exact fr 0 i' (by omega)
    · rw [e0 k' i' e]; exact fr k' i' (by omega)
  · rw [e1 p h2 h3, fr 0 i (by omega)]
  · simp (config := {decide := true}) only [q_up, and_self, if_true, upd]
  · exact z_wf_congr (fun k h1 h2 => e0 k i (by omega)) (e1 5 (by omega) (by omega)) dw
  · intro p hp; rw [e0 20 i (by omega)]; exact d36 p hp
  · rw [e3]
    unfold z_cd at *
    rw [fr 2 i (by omega)] at hc
    exact hc
  · unfold z_n24; rw [e0 24 i (by omega)]; exact z_dv_24 hD
theorem z_lawP_ok {S D X : qM} {i : Nat} {r : Int32} (hraw : z_raw S i) (hw : z_wf S i) (hD : z_dv S D i) (hr : r = -1) (hX : z_dl (q_up D 0 i (upd (D 0 i) 3 r)) X i) :
    z_lawP S (q_up X 0 i (upd (X 0 i) 2 1)) i := by
  have fr := z_dv_fr hD
  have fx := z_dl_fr hX
  have d0 : ∀ k i', ¬ k = 0 → q_up D 0 i (upd (D 0 i) 3 r) k i' = D k i' := fun k i' hk => by simp only [q_up, hk, false_and, if_false]
  have d1 : ∀ p, ¬ p = 3 → q_up D 0 i (upd (D 0 i) 3 r) 0 i p = D 0 i p := fun p h3 => by simp only [q_up, and_self, if_true, upd, if_neg h3]
  have d3 : q_up D 0 i (upd (D 0 i) 3 r) 0 i 3 = r := by simp only [q_up, and_self, if_true, upd]
  obtain ⟨tb, s36⟩ := z_law_tb hraw hw hD (fun k h1 _ => d0 k i (by omega)) (d1 5 (by omega)) hX
  have e0 : ∀ k i', ¬ k = 0 → q_up X 0 i (upd (X 0 i) 2 1) k i' = X k i' := fun k i' hk => by simp only [q_up, hk, false_and, if_false]
  have e1 : ∀ p, ¬ p = 2 → q_up X 0 i (upd (X 0 i) 2 1) 0 i p = X 0 i p := fun p h2 => by simp only [q_up, and_self, if_true, upd, if_neg h2]
  have x3 : q_up X 0 i (upd (X 0 i) 2 1) 0 i 3 = r := by rw [e1 3 (by omega), fx 0 i (by omega), d3]
  refine ⟨fun k' i' hk => ?_, fun p h2 h3 => ?_, ?_, ?_, ?_, fun _ => ?_, ?_, ?_⟩
  · by_cases e : k' = 0
    · subst e
      have hi : ¬ i' = i := fun e => hk ⟨Or.inl rfl, e⟩
      have e9 : q_up X 0 i (upd (X 0 i) 2 1) 0 i' = X 0 i' := by simp only [q_up, hi, and_false, if_false]
      have e8 : q_up D 0 i (upd (D 0 i) 3 r) 0 i' = D 0 i' := by simp only [q_up, hi, and_false, if_false]
      rw [e9, fx 0 i' (by omega), e8]
      exact fr 0 i' (by omega)
    · rw [e0 k' i' e, fx k' i' (by omega), d0 k' i' e]; exact fr k' i' (by omega)
  · rw [e1 p h2, fx 0 i (by omega), d1 p h3, fr 0 i (by omega)]
  · simp (config := {decide := true}) only [q_up, and_self, if_true, upd]
  · exact z_wf_congr (fun k h1 h2 => e0 k i (by omega)) (e1 5 (by omega)) tb.1
  · intro p hp; rw [e0 20 i (by omega)]; exact s36 p hp
  · exact z_tb_congr (fun k h1 h2 => e0 k i (by omega)) (e1 5 (by omega)) tb
  · rw [x3]; exact Or.inl hr
  · unfold z_n24; rw [e0 24 i (by omega), fx 24 i (by omega), d0 24 i (by omega)]; exact z_dv_24 hD
abbrev rm_X5_law : Room := { frames := 5, cells := 0, slots := 0, locals := 113 }
set_option maxHeartbeats 4000000 in
set_option maxRecDepth 100000 in
theorem c_X5_law {L : qL} (hD : q_D L.2.2.2.1) : qCT L yX5_law cX5_law 1 (some .int) rm_X5_law (fun ad _ (x : Nat × Unit) => [.ref (ad 0 x.1)]) (fun x S => x.1 < 4 ∧ (S 0 x.1 2 = 0 → z_raw S x.1 ∧ z_wf S x.1 ∧ z_s36 S x.1)) (qPi (fun x S r S' => r = S' 0 x.1 3 ∧ z_lawQ S S' x.1)) := by
  refine q_met hD (by decide) (fun _ => Nat.le_of_ble_eq_true rfl) (fun Γ x S hΓ hpre hC => ?_)
  subst hΓ
  obtain ⟨i, u⟩ := x
  obtain ⟨hi, hR⟩ := hpre
  have hi : i < 4 := hi
  have hR : S 0 i 2 = 0 → z_raw S i ∧ z_wf S i ∧ z_s36 S i := hR
  have J57 : ∀ T : qM, z_lawQ S T i → qV Γ rm_X5_law 1 57 [(0, .ref (q_ad Γ 0 i))] [] T (0, 0) := by
    intro T hT
    refine q_aload_n hC 0 dX5_law_57 rfl rfl ?_
    refine q_get_f hC f_X5_29 dX5_law_58 rfl rfl hi rfl ?_
    refine q_iret hC dX5_law_61 rfl ⟨by decide, by decide⟩ ⟨_, rfl, ?_⟩
    exact ⟨rfl, hT⟩
  show qV Γ _ _ 0 [(0, .ref (q_ad Γ 0 i))] [] S (0, 0)
  refine q_aload_n hC 0 dX5_law_0 rfl rfl ?_
  refine q_get_f hC f_X5_25 dX5_law_1 rfl rfl hi rfl ?_
  refine q_if_ne hC dX5_law_4 (t := 57) (n := 7) (by decide) rfl (fun h4 => ?_) (fun h4 => ?_)
  · exact J57 S (Or.inl ⟨h4, rfl⟩)
  · obtain ⟨hraw, hwf, h36⟩ := hR h4
    refine q_aload_n hC 0 dX5_law_7 rfl rfl ?_
    refine q_get_f hC f_X5_21 dX5_law_8 rfl rfl hi rfl ?_
    refine q_aload_n hC 0 dX5_law_11 rfl rfl ?_
    refine q_get_f hC f_X5_12 dX5_law_12 rfl rfl hi rfl ?_
    refine q_callV hC (c_X3_derive (q_hD hC)) m_X3_derive lk_X5_43 dX5_law_15 (i, ()) rfl rfl rfl rfl rfl hi (Nat.le_of_ble_eq_true rfl) ⟨⟨by decide, by decide⟩, by decide, by decide⟩ rfl (k' := (0, 0)) rfl ⟨hi, hraw.2.2.2.1, hraw.2.2.2.2.1, h36⟩ (fun v S' hp => ?_)
    obtain ⟨rfl, hdv⟩ := hp
    have hdv : z_dv S S' i := hdv
    revert hdv
    generalize S' = D
    intro hdv
    have fD := z_dv_fr hdv
    have sD : z_sups D i := by
      intro t ht; rw [fD 7 i (by omega)]; exact hraw.2.2.2.1 t ht
    show qV Γ _ _ 18 _ _ _ _
    refine q_aload_n hC 0 dX5_law_18 rfl rfl ?_
    refine q_aload_n hC 0 dX5_law_19 rfl rfl ?_
    refine q_get_f hC f_X5_12 dX5_law_20 rfl rfl hi rfl ?_
    refine q_aload_n hC 0 dX5_law_23 rfl rfl ?_
    refine q_get_f hC f_X5_21 dX5_law_24 rfl rfl hi rfl ?_
    refine q_callS hC (c_X1_firstBroken (q_hD hC)) m_X1_firstBroken lk_X5_46 dX5_law_27 (i, ()) rfl rfl (Nat.le_of_ble_eq_true rfl) ⟨⟨by decide, by decide⟩, by decide, by decide⟩ rfl (k' := (0, 0)) rfl ⟨hi, sD⟩ (fun v S' hp => ?_)
    obtain ⟨rr, rfl, hcd, rfl⟩ := hp
    have hcd : z_cd D i rr := hcd
    show qV Γ _ _ 30 _ (.int _ :: _) _ _
    refine q_put_i hC fp_X5_29 dX5_law_30 rfl rfl (Nat.le_of_ble_eq_true rfl) rfl rfl hi rfl ?_
    refine q_aload_n hC 0 dX5_law_33 rfl rfl ?_
    refine q_get_f hC f_X5_29 dX5_law_34 rfl rfl hi rfl ?_
    refine q_iconst hC dX5_law_37 (v := (-1)) (by decide) rfl ?_
    refine q_icmp_ne hC dX5_law_38 (t := 52) (n := 41) (by decide) rfl (fun h38 => ?_) (fun h38 => ?_)
    · refine q_aload_n hC 0 dX5_law_52 rfl rfl ?_
      refine q_iconst hC dX5_law_53 (v := 1) (by decide) rfl ?_
      refine q_put_i hC fp_X5_25 dX5_law_54 rfl rfl (Nat.le_of_ble_eq_true rfl) rfl rfl hi rfl ?_
      exact J57 _ (Or.inr ⟨h4, z_lawP_no hwf hdv hcd (fun e => h38 (by simp (config := {decide := true}) only [q_up, and_self, if_true, upd]; exact e))⟩)
    · refine q_aload_n hC 0 dX5_law_41 rfl rfl ?_
      refine q_get_f hC f_X5_21 dX5_law_42 rfl rfl hi rfl ?_
      refine q_aload_n hC 0 dX5_law_45 rfl rfl ?_
      refine q_get_f hC f_X5_12 dX5_law_46 rfl rfl hi rfl ?_
      refine q_callV hC (c_X3_deriveLawful (q_hD hC)) m_X3_deriveLawful lk_X5_52 dX5_law_49 (i, ()) rfl rfl rfl rfl rfl hi (Nat.le_of_ble_eq_true rfl) ⟨⟨by decide, by decide⟩, by decide, by decide⟩ rfl (k' := (0, 0)) rfl ⟨hi, (by intro t ht; simp (config := {decide := true}) only [q_up, false_and, if_false]; exact sD t ht), (by intro p hp; simp (config := {decide := true}) only [q_up, false_and, if_false]; rw [fD 25 i (by omega)]; exact hwf.2.2.2.2.2.1.2.2 p hp)⟩ (fun v S' hp => ?_)
      obtain ⟨rfl, hdl⟩ := hp
      have hdl : z_dl (q_up D 0 i (upd (D 0 i) 3 rr)) S' i := hdl
      show qV Γ _ _ 52 _ _ _ _
      refine q_aload_n hC 0 dX5_law_52 rfl rfl ?_
      refine q_iconst hC dX5_law_53 (v := 1) (by decide) rfl ?_
      refine q_put_i hC fp_X5_25 dX5_law_54 rfl rfl (Nat.le_of_ble_eq_true rfl) rfl rfl hi rfl ?_
      exact J57 _ (Or.inr ⟨h4, z_lawP_ok hraw hwf hdv (by simpa (config := {decide := true}) only [q_up, and_self, if_true, upd] using h38) hdl⟩)
abbrev rm_X5_changed : Room := { frames := 0, cells := 0, slots := 0, locals := 0 }
set_option maxHeartbeats 4000000 in
set_option maxRecDepth 100000 in
theorem c_X5_changed {L : qL} (hD : q_D L.2.2.2.1) : qCT L yX5_changed cX5_changed 1 none rm_X5_changed (fun ad _ (x : Nat × Unit) => [.ref (ad 0 x.1)]) (fun x _ => x.1 < 4) (qPv (fun x S S' => S' = q_up S 0 x.1 (upd (S 0 x.1) 2 0))) := by
  refine q_met hD (by decide) (fun _ => Nat.le_of_ble_eq_true rfl) (fun Γ x S hΓ hpre hC => ?_)
  subst hΓ
  obtain ⟨i, u⟩ := x
  have hi : i < 4 := hpre
  show qV Γ _ _ 0 [(0, .ref (q_ad Γ 0 i))] [] S (0, 0)
  refine q_aload_n hC 0 dX5_changed_0 rfl rfl ?_
  refine q_iconst hC dX5_changed_1 (v := 0) (by decide) rfl ?_
  refine q_put_i hC fp_X5_25 dX5_changed_2 rfl rfl (Nat.le_of_ble_eq_true rfl) rfl rfl hi rfl ?_
  refine q_vret hC dX5_changed_5 ⟨by decide, by decide⟩ ⟨rfl, ?_⟩
  rfl
