-- printed by wip/p36/gen_m2.py
abbrev rm_L_flag : Room := { frames := 9, cells := 1, slots := 6, locals := 158 }
set_option maxHeartbeats 4000000 in
set_option maxRecDepth 100000 in
theorem cw_L_flag {L : qL} (hD : q_D L.2.2.2.1) (hl : L.1.stackTraces = false) : qCW L yL_flag cL_flag 6 (some .long) hh_L_flag rm_L_flag (fun ad _ (x : Nat × Nat × Int32 × Int32) => [.ref (ad 36 0), .int (nI x.1), .int (nI (65 + x.2.1)), .int x.2.2.1, .int x.2.2.2]) (fun x S => x.1 < 4 ∧ x.2.1 < 5 ∧ (x.2.2.1 = 111 ∨ x.2.2.1 = 97 ∨ x.2.2.1 = 102) ∧ z_bool x.2.2.2 ∧ z_Q S x.1) (qPl (fun x S r S' => z_mw S S' x.1)) := by
  refine q_metW hD (by decide) (fun _ => Nat.le_of_ble_eq_true rfl) (fun Γ x S hΓ hpre hC hTb => ?_)
  subst hΓ
  obtain ⟨i, t, w, b⟩ := x
  obtain ⟨hi, ht, hw, hb, hQ⟩ := hpre
  have hQ : z_Q S i := hQ
  by_cases hk : S 2 i t = 45
  · show qV Γ _ _ 0 [(0, .ref (q_ad Γ 36 0)), (1, .int (nI i)), (2, .int (nI (65 + t))), (3, .int w), (4, .int b)] [] S (0, 0)
    refine q_aload_n hC 0 dL_flag_0 rfl rfl ?_
    refine q_iload_n hC 1 dL_flag_1 rfl rfl ?_
    refine q_iload_n hC 2 dL_flag_2 rfl rfl ?_
    refine q_iload_n hC 3 dL_flag_3 rfl rfl ?_
    refine q_iload hC 4 dL_flag_4 rfl rfl ?_
    refine q_xcV hC hTb (x_X9_flag (q_hD hC) hl) m_X9_flag lk_L_27 dL_flag_6 (i, t, w, b) rfl rfl rfl rfl rfl (Nat.le_of_ble_eq_true rfl) (Nat.le_of_ble_eq_true rfl) ⟨⟨by decide, by decide⟩, by decide, by decide⟩ ⟨hi, ht, hw, hb, hQ.1, hk⟩ [(0, 17, 18, 17), (0, 17, 24, 23)] [] 0 17 (hp := 30) (ct := 31) rfl hp_n3 rfl (by decide) cl_nsee ins_nsee (k' := (1, 6)) rfl (fun q S' hp => ?_)
    have hp : S' = S := hp
    subst hp
    refine q_astore hC dL_flag_30 (by decide) (ls' := [(0, _), (1, _), (2, _), (3, _), (4, _), (5, _)]) rfl rfl ?_
    refine q_ldc2 hC dL_flag_32 cl_L_33 rfl ?_
    refine q_lret hC dL_flag_35 ⟨by decide, by decide⟩ ⟨_, rfl, ?_⟩
    exact z_mw_rf hQ
  · show qV Γ _ _ 0 [(0, .ref (q_ad Γ 36 0)), (1, .int (nI i)), (2, .int (nI (65 + t))), (3, .int w), (4, .int b)] [] S (0, 0)
    refine q_aload_n hC 0 dL_flag_0 rfl rfl ?_
    refine q_iload_n hC 1 dL_flag_1 rfl rfl ?_
    refine q_iload_n hC 2 dL_flag_2 rfl rfl ?_
    refine q_iload_n hC 3 dL_flag_3 rfl rfl ?_
    refine q_iload hC 4 dL_flag_4 rfl rfl ?_
    refine q_callV hC (c_X9_flag (q_hD hC)) m_X9_flag lk_L_27 dL_flag_6 (i, t, w, b) rfl rfl rfl rfl rfl (Nat.le_of_ble_eq_true rfl) (Nat.le_of_ble_eq_true rfl) ⟨⟨by decide, by decide⟩, by decide, by decide⟩ rfl (k' := (0, 0)) rfl ⟨hi, ht, hw, hb, hQ.1, hk⟩ (fun v S' hp => ?_)
    obtain ⟨r9, rfl, h1⟩ := hp
    show qV Γ _ _ 9 _ (.int _ :: _) _ _
    refine q_if_eq hC dL_flag_9 (t := 16) (n := 12) (by decide) rfl (fun h9 => ?_) (fun h9 => ?_)
    · refine q_lconst hC dL_flag_16 (v := 0) (by decide) rfl ?_
      refine q_lret hC dL_flag_17 ⟨by decide, by decide⟩ ⟨_, rfl, ?_⟩
      exact z_mw_of h1
    · refine q_lconst hC dL_flag_12 (v := 1) (by decide) rfl ?_
      refine q_goto hC dL_flag_13 (n := 17) (by decide) ?_
      refine q_lret hC dL_flag_17 ⟨by decide, by decide⟩ ⟨_, rfl, ?_⟩
      exact z_mw_of h1
abbrev rm_L_above : Room := { frames := 9, cells := 1, slots := 6, locals := 156 }
set_option maxHeartbeats 4000000 in
set_option maxRecDepth 100000 in
theorem cw_L_above {L : qL} (hD : q_D L.2.2.2.1) (hl : L.1.stackTraces = false) : qCW L yL_above cL_above 5 (some .long) hh_L_above rm_L_above (fun ad _ (x : Nat × Nat × Int32) => [.ref (ad 36 0), .int (nI x.1), .int (nI (65 + x.2.1)), .int x.2.2]) (fun x S => x.1 < 4 ∧ x.2.1 < 5 ∧ (x.2.2 = 45 ∨ ∃ u, u < 5 ∧ x.2.2 = nI (65 + u)) ∧ z_Q S x.1) (qPl (fun x S r S' => z_mw S S' x.1)) := by
  refine q_metW hD (by decide) (fun _ => Nat.le_of_ble_eq_true rfl) (fun Γ x S hΓ hpre hC hTb => ?_)
  subst hΓ
  obtain ⟨i, t, ot⟩ := x
  obtain ⟨hi, ht, hot, hQ⟩ := hpre
  have hQ : z_Q S i := hQ
  by_cases hk : S 2 i t = 45
  · show qV Γ _ _ 0 [(0, .ref (q_ad Γ 36 0)), (1, .int (nI i)), (2, .int (nI (65 + t))), (3, .int ot)] [] S (0, 0)
    refine q_aload_n hC 0 dL_above_0 rfl rfl ?_
    refine q_iload_n hC 1 dL_above_1 rfl rfl ?_
    refine q_iload_n hC 2 dL_above_2 rfl rfl ?_
    refine q_iload_n hC 3 dL_above_3 rfl rfl ?_
    refine q_xcV hC hTb (x_X9_above (q_hD hC) hl) m_X9_above lk_L_35 dL_above_4 (i, t, ot) rfl rfl rfl rfl rfl (Nat.le_of_ble_eq_true rfl) (Nat.le_of_ble_eq_true rfl) ⟨⟨by decide, by decide⟩, by decide, by decide⟩ ⟨hi, ht, hot, hQ.1, hk⟩ [(0, 8, 9, 17), (0, 8, 15, 23)] [] 0 8 (hp := 21) (ct := 31) rfl hp_n3 rfl (by decide) cl_nsee ins_nsee (k' := (1, 6)) rfl (fun q S' hp => ?_)
    have hp : S' = S := hp
    subst hp
    refine q_astore hC dL_above_21 (by decide) (ls' := [(0, _), (1, _), (2, _), (3, _), (4, _)]) rfl rfl ?_
    refine q_ldc2 hC dL_above_23 cl_L_33 rfl ?_
    refine q_lret hC dL_above_26 ⟨by decide, by decide⟩ ⟨_, rfl, ?_⟩
    exact z_mw_rf hQ
  · show qV Γ _ _ 0 [(0, .ref (q_ad Γ 36 0)), (1, .int (nI i)), (2, .int (nI (65 + t))), (3, .int ot)] [] S (0, 0)
    refine q_aload_n hC 0 dL_above_0 rfl rfl ?_
    refine q_iload_n hC 1 dL_above_1 rfl rfl ?_
    refine q_iload_n hC 2 dL_above_2 rfl rfl ?_
    refine q_iload_n hC 3 dL_above_3 rfl rfl ?_
    refine q_callV hC (c_X9_above (q_hD hC)) m_X9_above lk_L_35 dL_above_4 (i, t, ot) rfl rfl rfl rfl rfl (Nat.le_of_ble_eq_true rfl) (Nat.le_of_ble_eq_true rfl) ⟨⟨by decide, by decide⟩, by decide, by decide⟩ rfl (k' := (0, 0)) rfl ⟨hi, ht, hot, hQ.1, hk⟩ (fun v S' hp => ?_)
    obtain ⟨r9, rfl, h1⟩ := hp
    show qV Γ _ _ 7 _ (.int _ :: _) _ _
    refine q_i2l hC dL_above_7 rfl ?_
    refine q_lret hC dL_above_8 ⟨by decide, by decide⟩ ⟨_, rfl, ?_⟩
    exact z_mw_of h1
abbrev rm_L_maker : Room := { frames := 9, cells := 1, slots := 6, locals := 156 }
set_option maxHeartbeats 4000000 in
set_option maxRecDepth 100000 in
theorem cw_L_maker {L : qL} (hD : q_D L.2.2.2.1) (hl : L.1.stackTraces = false) : qCW L yL_maker cL_maker 5 (some .long) hh_L_maker rm_L_maker (fun ad _ (x : Nat × Nat × Int32) => [.ref (ad 36 0), .int (nI x.1), .int (nI (65 + x.2.1)), .int x.2.2]) (fun x S => x.1 < 4 ∧ x.2.1 < 5 ∧ z_sg4 x.2.2 ∧ z_Q S x.1) (qPl (fun x S r S' => z_mw S S' x.1)) := by
  refine q_metW hD (by decide) (fun _ => Nat.le_of_ble_eq_true rfl) (fun Γ x S hΓ hpre hC hTb => ?_)
  subst hΓ
  obtain ⟨i, t, sg⟩ := x
  obtain ⟨hi, ht, hsg, hQ⟩ := hpre
  have hQ : z_Q S i := hQ
  by_cases hk : S 2 i t = 45
  · show qV Γ _ _ 0 [(0, .ref (q_ad Γ 36 0)), (1, .int (nI i)), (2, .int (nI (65 + t))), (3, .int sg)] [] S (0, 0)
    refine q_aload_n hC 0 dL_maker_0 rfl rfl ?_
    refine q_iload_n hC 1 dL_maker_1 rfl rfl ?_
    refine q_iload_n hC 2 dL_maker_2 rfl rfl ?_
    refine q_iload_n hC 3 dL_maker_3 rfl rfl ?_
    refine q_xcV hC hTb (x_X9_maker (q_hD hC) hl) m_X9_maker lk_L_38 dL_maker_4 (i, t, sg) rfl rfl rfl rfl rfl (Nat.le_of_ble_eq_true rfl) (Nat.le_of_ble_eq_true rfl) ⟨⟨by decide, by decide⟩, by decide, by decide⟩ ⟨hi, ht, hsg, hQ.1, hk⟩ [(0, 8, 9, 17), (0, 8, 15, 23)] [] 0 8 (hp := 21) (ct := 31) rfl hp_n3 rfl (by decide) cl_nsee ins_nsee (k' := (1, 6)) rfl (fun q S' hp => ?_)
    have hp : S' = S := hp
    subst hp
    refine q_astore hC dL_maker_21 (by decide) (ls' := [(0, _), (1, _), (2, _), (3, _), (4, _)]) rfl rfl ?_
    refine q_ldc2 hC dL_maker_23 cl_L_33 rfl ?_
    refine q_lret hC dL_maker_26 ⟨by decide, by decide⟩ ⟨_, rfl, ?_⟩
    exact z_mw_rf hQ
  · show qV Γ _ _ 0 [(0, .ref (q_ad Γ 36 0)), (1, .int (nI i)), (2, .int (nI (65 + t))), (3, .int sg)] [] S (0, 0)
    refine q_aload_n hC 0 dL_maker_0 rfl rfl ?_
    refine q_iload_n hC 1 dL_maker_1 rfl rfl ?_
    refine q_iload_n hC 2 dL_maker_2 rfl rfl ?_
    refine q_iload_n hC 3 dL_maker_3 rfl rfl ?_
    refine q_callV hC (c_X9_maker (q_hD hC)) m_X9_maker lk_L_38 dL_maker_4 (i, t, sg) rfl rfl rfl rfl rfl (Nat.le_of_ble_eq_true rfl) (Nat.le_of_ble_eq_true rfl) ⟨⟨by decide, by decide⟩, by decide, by decide⟩ rfl (k' := (0, 0)) rfl ⟨hi, ht, hsg, hQ.1, hk⟩ (fun v S' hp => ?_)
    obtain ⟨r9, rfl, h1⟩ := hp
    show qV Γ _ _ 7 _ (.int _ :: _) _ _
    refine q_i2l hC dL_maker_7 rfl ?_
    refine q_lret hC dL_maker_8 ⟨by decide, by decide⟩ ⟨_, rfl, ?_⟩
    exact z_mw_of h1
abbrev rm_L_under : Room := { frames := 9, cells := 1, slots := 6, locals := 157 }
set_option maxHeartbeats 4000000 in
set_option maxRecDepth 100000 in
theorem cw_L_under {L : qL} (hD : q_D L.2.2.2.1) (hl : L.1.stackTraces = false) : qCW L yL_under cL_under 6 (some .long) hh_L_under rm_L_under (fun ad _ (x : Nat × Nat × Nat × Int32) => [.ref (ad 36 0), .int (nI x.1), .int (nI (65 + x.2.1)), .int (nI (65 + x.2.2.1)), .int x.2.2.2]) (fun x S => x.1 < 4 ∧ x.2.1 < 5 ∧ x.2.2.1 < 5 ∧ z_bool x.2.2.2 ∧ z_Q S x.1) (qPl (fun x S r S' => z_mw S S' x.1)) := by
  refine q_metW hD (by decide) (fun _ => Nat.le_of_ble_eq_true rfl) (fun Γ x S hΓ hpre hC hTb => ?_)
  subst hΓ
  obtain ⟨i, t, u, b⟩ := x
  obtain ⟨hi, ht, hu, hb, hQ⟩ := hpre
  have hQ : z_Q S i := hQ
  by_cases hk : S 2 i t = 45
  · show qV Γ _ _ 0 [(0, .ref (q_ad Γ 36 0)), (1, .int (nI i)), (2, .int (nI (65 + t))), (3, .int (nI (65 + u))), (4, .int b)] [] S (0, 0)
    refine q_aload_n hC 0 dL_under_0 rfl rfl ?_
    refine q_iload_n hC 1 dL_under_1 rfl rfl ?_
    refine q_iload_n hC 2 dL_under_2 rfl rfl ?_
    refine q_iload_n hC 3 dL_under_3 rfl rfl ?_
    refine q_iload hC 4 dL_under_4 rfl rfl ?_
    refine q_xcV hC hTb (x_X9_under (q_hD hC) hl) m_X9_under lk_L_41 dL_under_6 (i, t, u, b) rfl rfl rfl rfl rfl (Nat.le_of_ble_eq_true rfl) (Nat.le_of_ble_eq_true rfl) ⟨⟨by decide, by decide⟩, by decide, by decide⟩ ⟨hi, ht, hu, hb, hQ.1, hk⟩ [(0, 17, 18, 17), (0, 17, 24, 23)] [] 0 17 (hp := 30) (ct := 31) rfl hp_n3 rfl (by decide) cl_nsee ins_nsee (k' := (1, 6)) rfl (fun q S' hp => ?_)
    have hp : S' = S := hp
    subst hp
    refine q_astore hC dL_under_30 (by decide) (ls' := [(0, _), (1, _), (2, _), (3, _), (4, _), (5, _)]) rfl rfl ?_
    refine q_ldc2 hC dL_under_32 cl_L_33 rfl ?_
    refine q_lret hC dL_under_35 ⟨by decide, by decide⟩ ⟨_, rfl, ?_⟩
    exact z_mw_rf hQ
  · show qV Γ _ _ 0 [(0, .ref (q_ad Γ 36 0)), (1, .int (nI i)), (2, .int (nI (65 + t))), (3, .int (nI (65 + u))), (4, .int b)] [] S (0, 0)
    refine q_aload_n hC 0 dL_under_0 rfl rfl ?_
    refine q_iload_n hC 1 dL_under_1 rfl rfl ?_
    refine q_iload_n hC 2 dL_under_2 rfl rfl ?_
    refine q_iload_n hC 3 dL_under_3 rfl rfl ?_
    refine q_iload hC 4 dL_under_4 rfl rfl ?_
    refine q_callV hC (c_X9_under (q_hD hC)) m_X9_under lk_L_41 dL_under_6 (i, t, u, b) rfl rfl rfl rfl rfl (Nat.le_of_ble_eq_true rfl) (Nat.le_of_ble_eq_true rfl) ⟨⟨by decide, by decide⟩, by decide, by decide⟩ rfl (k' := (0, 0)) rfl ⟨hi, ht, hu, hb, hQ.1, hk⟩ (fun v S' hp => ?_)
    obtain ⟨r9, rfl, h1⟩ := hp
    show qV Γ _ _ 9 _ (.int _ :: _) _ _
    refine q_if_eq hC dL_under_9 (t := 16) (n := 12) (by decide) rfl (fun h9 => ?_) (fun h9 => ?_)
    · refine q_lconst hC dL_under_16 (v := 0) (by decide) rfl ?_
      refine q_lret hC dL_under_17 ⟨by decide, by decide⟩ ⟨_, rfl, ?_⟩
      exact z_mw_of h1
    · refine q_lconst hC dL_under_12 (v := 1) (by decide) rfl ?_
      refine q_goto hC dL_under_13 (n := 17) (by decide) ?_
      refine q_lret hC dL_under_17 ⟨by decide, by decide⟩ ⟨_, rfl, ?_⟩
      exact z_mw_of h1
abbrev rm_L_method : Room := { frames := 9, cells := 1, slots := 6, locals := 159 }
set_option maxHeartbeats 4000000 in
set_option maxRecDepth 100000 in
theorem cw_L_method {L : qL} (hD : q_D L.2.2.2.1) (hl : L.1.stackTraces = false) : qCW L yL_method cL_method 9 (some .long) hh_L_method rm_L_method (fun ad _ (x : Nat × Nat × Nat × Nat × Int32 × Int32 × Nat) => [.ref (ad 36 0), .int (nI x.1), .int (nI (65 + x.2.1)), .int (nI (97 + x.2.2.1)), .int (nI x.2.2.2.1), .int x.2.2.2.2.1, .int x.2.2.2.2.2.1, .int (nI x.2.2.2.2.2.2)]) (fun x S => x.1 < 4 ∧ x.2.1 < 5 ∧ x.2.2.1 < 3 ∧ x.2.2.2.1 < 2 ∧ (x.2.2.2.2.1 = 45 ∨ z_sg4 x.2.2.2.2.1) ∧ z_mk4 x.2.2.2.2.2.1 ∧ x.2.2.2.2.2.2 < 100 ∧ z_Q S x.1) (qPl (fun x S r S' => z_mw S S' x.1)) := by
  refine q_metW hD (by decide) (fun _ => Nat.le_of_ble_eq_true rfl) (fun Γ x S hΓ hpre hC hTb => ?_)
  subst hΓ
  obtain ⟨i, t, a, b, sg, kd, n⟩ := x
  obtain ⟨hi, ht, ha, hb, hsg, hkd, hn, hQ⟩ := hpre
  have hQ : z_Q S i := hQ
  by_cases hk : S 2 i t = 45
  · show qV Γ _ _ 0 [(0, .ref (q_ad Γ 36 0)), (1, .int (nI i)), (2, .int (nI (65 + t))), (3, .int (nI (97 + a))), (4, .int (nI b)), (5, .int sg), (6, .int kd), (7, .int (nI n))] [] S (0, 0)
    refine q_aload_n hC 0 dL_method_0 rfl rfl ?_
    refine q_iload_n hC 1 dL_method_1 rfl rfl ?_
    refine q_iload_n hC 2 dL_method_2 rfl rfl ?_
    refine q_iload_n hC 3 dL_method_3 rfl rfl ?_
    refine q_iload hC 4 dL_method_4 rfl rfl ?_
    refine q_iload hC 5 dL_method_6 rfl rfl ?_
    refine q_iload hC 6 dL_method_8 rfl rfl ?_
    refine q_iload hC 7 dL_method_10 rfl rfl ?_
    refine q_xcV hC hTb (x_X9_method (q_hD hC) hl) m_X9_method lk_L_44 dL_method_12 (i, t, a, b, sg, kd, n) rfl rfl rfl rfl rfl (Nat.le_of_ble_eq_true rfl) (Nat.le_of_ble_eq_true rfl) ⟨⟨by decide, by decide⟩, by decide, by decide⟩ ⟨hi, ht, ha, hb, hsg, hkd, hn, hQ.1, hk⟩ [(0, 16, 17, 17), (0, 16, 23, 23)] [] 0 16 (hp := 29) (ct := 31) rfl hp_n3 rfl (by decide) cl_nsee ins_nsee (k' := (1, 6)) rfl (fun q S' hp => ?_)
    have hp : S' = S := hp
    subst hp
    refine q_astore hC dL_method_29 (by decide) (ls' := [(0, _), (1, _), (2, _), (3, _), (4, _), (5, _), (6, _), (7, _), (8, _)]) rfl rfl ?_
    refine q_ldc2 hC dL_method_31 cl_L_33 rfl ?_
    refine q_lret hC dL_method_34 ⟨by decide, by decide⟩ ⟨_, rfl, ?_⟩
    exact z_mw_rf hQ
  · show qV Γ _ _ 0 [(0, .ref (q_ad Γ 36 0)), (1, .int (nI i)), (2, .int (nI (65 + t))), (3, .int (nI (97 + a))), (4, .int (nI b)), (5, .int sg), (6, .int kd), (7, .int (nI n))] [] S (0, 0)
    refine q_aload_n hC 0 dL_method_0 rfl rfl ?_
    refine q_iload_n hC 1 dL_method_1 rfl rfl ?_
    refine q_iload_n hC 2 dL_method_2 rfl rfl ?_
    refine q_iload_n hC 3 dL_method_3 rfl rfl ?_
    refine q_iload hC 4 dL_method_4 rfl rfl ?_
    refine q_iload hC 5 dL_method_6 rfl rfl ?_
    refine q_iload hC 6 dL_method_8 rfl rfl ?_
    refine q_iload hC 7 dL_method_10 rfl rfl ?_
    refine q_callV hC (c_X9_method (q_hD hC)) m_X9_method lk_L_44 dL_method_12 (i, t, a, b, sg, kd, n) rfl rfl rfl rfl rfl (Nat.le_of_ble_eq_true rfl) (Nat.le_of_ble_eq_true rfl) ⟨⟨by decide, by decide⟩, by decide, by decide⟩ rfl (k' := (0, 0)) rfl ⟨hi, ht, ha, hb, hsg, hkd, hn, hQ.1, hk⟩ (fun v S' hp => ?_)
    obtain ⟨r9, rfl, h1⟩ := hp
    show qV Γ _ _ 15 _ (.int _ :: _) _ _
    refine q_i2l hC dL_method_15 rfl ?_
    refine q_lret hC dL_method_16 ⟨by decide, by decide⟩ ⟨_, rfl, ?_⟩
    exact z_mw_of h1
abbrev rm_L_field : Room := { frames := 9, cells := 1, slots := 6, locals := 159 }
set_option maxHeartbeats 4000000 in
set_option maxRecDepth 100000 in
theorem cw_L_field {L : qL} (hD : q_D L.2.2.2.1) (hl : L.1.stackTraces = false) : qCW L yL_field cL_field 9 (some .long) hh_L_field rm_L_field (fun ad _ (x : Nat × Nat × Nat × Nat × Int32 × Int32 × Nat) => [.ref (ad 36 0), .int (nI x.1), .int (nI (65 + x.2.1)), .int (nI (97 + x.2.2.1)), .int (nI x.2.2.2.1), .int x.2.2.2.2.1, .int x.2.2.2.2.2.1, .int (nI x.2.2.2.2.2.2)]) (fun x S => x.1 < 4 ∧ x.2.1 < 5 ∧ x.2.2.1 < 3 ∧ x.2.2.2.1 < 2 ∧ (x.2.2.2.2.1 = 45 ∨ z_sg4 x.2.2.2.2.1) ∧ z_fk4 x.2.2.2.2.2.1 ∧ x.2.2.2.2.2.2 < 100 ∧ z_Q S x.1) (qPl (fun x S r S' => z_mw S S' x.1)) := by
  refine q_metW hD (by decide) (fun _ => Nat.le_of_ble_eq_true rfl) (fun Γ x S hΓ hpre hC hTb => ?_)
  subst hΓ
  obtain ⟨i, t, a, b, sg, kd, n⟩ := x
  obtain ⟨hi, ht, ha, hb, hsg, hkd, hn, hQ⟩ := hpre
  have hQ : z_Q S i := hQ
  by_cases hk : S 2 i t = 45
  · show qV Γ _ _ 0 [(0, .ref (q_ad Γ 36 0)), (1, .int (nI i)), (2, .int (nI (65 + t))), (3, .int (nI (97 + a))), (4, .int (nI b)), (5, .int sg), (6, .int kd), (7, .int (nI n))] [] S (0, 0)
    refine q_aload_n hC 0 dL_field_0 rfl rfl ?_
    refine q_iload_n hC 1 dL_field_1 rfl rfl ?_
    refine q_iload_n hC 2 dL_field_2 rfl rfl ?_
    refine q_iload_n hC 3 dL_field_3 rfl rfl ?_
    refine q_iload hC 4 dL_field_4 rfl rfl ?_
    refine q_iload hC 5 dL_field_6 rfl rfl ?_
    refine q_iload hC 6 dL_field_8 rfl rfl ?_
    refine q_iload hC 7 dL_field_10 rfl rfl ?_
    refine q_xcV hC hTb (x_X9_field (q_hD hC) hl) m_X9_field lk_L_48 dL_field_12 (i, t, a, b, sg, kd, n) rfl rfl rfl rfl rfl (Nat.le_of_ble_eq_true rfl) (Nat.le_of_ble_eq_true rfl) ⟨⟨by decide, by decide⟩, by decide, by decide⟩ ⟨hi, ht, ha, hb, hsg, hkd, hn, hQ.1, hk⟩ [(0, 16, 17, 17), (0, 16, 23, 23)] [] 0 16 (hp := 29) (ct := 31) rfl hp_n3 rfl (by decide) cl_nsee ins_nsee (k' := (1, 6)) rfl (fun q S' hp => ?_)
    have hp : S' = S := hp
    subst hp
    refine q_astore hC dL_field_29 (by decide) (ls' := [(0, _), (1, _), (2, _), (3, _), (4, _), (5, _), (6, _), (7, _), (8, _)]) rfl rfl ?_
    refine q_ldc2 hC dL_field_31 cl_L_33 rfl ?_
    refine q_lret hC dL_field_34 ⟨by decide, by decide⟩ ⟨_, rfl, ?_⟩
    exact z_mw_rf hQ
  · show qV Γ _ _ 0 [(0, .ref (q_ad Γ 36 0)), (1, .int (nI i)), (2, .int (nI (65 + t))), (3, .int (nI (97 + a))), (4, .int (nI b)), (5, .int sg), (6, .int kd), (7, .int (nI n))] [] S (0, 0)
    refine q_aload_n hC 0 dL_field_0 rfl rfl ?_
    refine q_iload_n hC 1 dL_field_1 rfl rfl ?_
    refine q_iload_n hC 2 dL_field_2 rfl rfl ?_
    refine q_iload_n hC 3 dL_field_3 rfl rfl ?_
    refine q_iload hC 4 dL_field_4 rfl rfl ?_
    refine q_iload hC 5 dL_field_6 rfl rfl ?_
    refine q_iload hC 6 dL_field_8 rfl rfl ?_
    refine q_iload hC 7 dL_field_10 rfl rfl ?_
    refine q_callV hC (c_X9_field (q_hD hC)) m_X9_field lk_L_48 dL_field_12 (i, t, a, b, sg, kd, n) rfl rfl rfl rfl rfl (Nat.le_of_ble_eq_true rfl) (Nat.le_of_ble_eq_true rfl) ⟨⟨by decide, by decide⟩, by decide, by decide⟩ rfl (k' := (0, 0)) rfl ⟨hi, ht, ha, hb, hsg, hkd, hn, hQ.1, hk⟩ (fun v S' hp => ?_)
    obtain ⟨r9, rfl, h1⟩ := hp
    show qV Γ _ _ 15 _ (.int _ :: _) _ _
    refine q_i2l hC dL_field_15 rfl ?_
    refine q_lret hC dL_field_16 ⟨by decide, by decide⟩ ⟨_, rfl, ?_⟩
    exact z_mw_of h1
abbrev rm_L_act : Room := { frames := 8, cells := 1, slots := 6, locals := 142 }
set_option maxHeartbeats 4000000 in
set_option maxRecDepth 100000 in
theorem cw_L_act {L : qL} (hD : q_D L.2.2.2.1) (hl : L.1.stackTraces = false) : qCW L yL_act cL_act 8 (some .long) hh_L_act rm_L_act (fun ad _ (x : Nat × Int32 × Int32 × Nat × Nat × Int32 × Nat) => [.ref (ad 36 0), .int (nI x.1), .int x.2.1, .int x.2.2.1, .int (nI (97 + x.2.2.2.1)), .int (nI x.2.2.2.2.1), .int x.2.2.2.2.2.1]) (fun x S => x.1 < 4 ∧ z_tc x.2.2.1 ∧ x.2.2.2.1 < 3 ∧ x.2.2.2.2.1 < 2 ∧ z_tc x.2.2.2.2.2.1 ∧ x.2.2.2.2.2.2 < 8 ∧ S 27 x.1 1 = nI x.2.2.2.2.2.2 ∧ z_bool (S 28 x.1 0)) (qPl (fun x S r S' => (∃ k t m o, z_V (if S 28 x.1 0 = 0 then 5 else 6) k t m o ∧ S' = z_add x.1 (nI k) (z_c t) (z_c m) (z_c o) S) ∨ S' = S)) := by
  refine q_metW hD (by decide) (fun _ => Nat.le_of_ble_eq_true rfl) (fun Γ x S hΓ hpre hC hTb => ?_)
  subst hΓ
  obtain ⟨c, kc, tc, a, b, oc, N⟩ := x
  show qV Γ _ _ 0 [(0, .ref (q_ad Γ 36 0)), (1, .int (nI c)), (2, .int kc), (3, .int tc), (4, .int (nI (97 + a))), (5, .int (nI b)), (6, .int oc)] [] S (0, 0)
  refine q_aload_n hC 0 dL_act_0 rfl rfl ?_
  refine q_iload_n hC 1 dL_act_1 rfl rfl ?_
  refine q_iload_n hC 2 dL_act_2 rfl rfl ?_
  refine q_iload_n hC 3 dL_act_3 rfl rfl ?_
  refine q_iload hC 4 dL_act_4 rfl rfl ?_
  refine q_iload hC 5 dL_act_6 rfl rfl ?_
  refine q_iload hC 6 dL_act_8 rfl rfl ?_
  refine q_xbV hC hTb (b_X9_act (q_hD hC) hl) m_X9_act lk_L_84 dL_act_10 (c, kc, tc, a, b, oc, N) rfl rfl rfl rfl rfl (Nat.le_of_ble_eq_true rfl) (Nat.le_of_ble_eq_true rfl) ⟨⟨by decide, by decide⟩, by decide, by decide⟩ hpre [(0, 14, 15, 17)] [(0, 14, 27, 76)] 0 14 (hp := 21) (ct := 23) rfl hp_a2 rfl (by decide) cl_iae ins_iae (k' := (1, 6)) rfl (fun q S' hp => ?_) rfl (fun v S' hp => ?_)
  · have hp : S' = S := hp
    subst hp
    refine q_astore hC dL_act_21 (by decide) (ls' := [(0, _), (1, _), (2, _), (3, _), (4, _), (5, _), (6, _), (7, _)]) rfl rfl ?_
    refine q_ldc2 hC dL_act_23 cl_L_25 rfl ?_
    refine q_lret hC dL_act_26 ⟨by decide, by decide⟩ ⟨_, rfl, ?_⟩
    exact Or.inr rfl
  · obtain ⟨r9, rfl, h1⟩ := hp
    show qV Γ _ _ 13 _ (.int _ :: _) _ _
    refine q_i2l hC dL_act_13 rfl ?_
    refine q_lret hC dL_act_14 ⟨by decide, by decide⟩ ⟨_, rfl, ?_⟩
    exact Or.inl h1
abbrev rm_L_witness : Room := { frames := 8, cells := 1, slots := 6, locals := 170 }
set_option maxHeartbeats 4000000 in
set_option maxRecDepth 100000 in
theorem cw_L_witness {L : qL} (hD : q_D L.2.2.2.1) (hl : L.1.stackTraces = false) : qCW L yL_witness cL_witness 5 (some .long) hh_L_witness rm_L_witness (fun ad _ (x : Nat × Nat × Nat) => [.ref (ad 36 0), .int (nI x.1), .int (nI x.2.1), .int (nI x.2.2)]) (fun x S => x.1 < 4 ∧ x.2.1 < 4 ∧ z_rdy S x.1 ∧ z_rdy S x.2.1 ∧ z_wf S x.1 ∧ z_wf S x.2.1 ∧ x.2.2 < 4) (qPl (fun x S r S' => (∃ T r9, z_findP (z_set35 x.1 x.2.1 S) x.1 x.2.1 r9 T ∧ ¬ r9 = 0 ∧ r = r9.toInt64 ∧ S' = z_cbIt x.2.2 4 1 0 (z_cb0 x.2.2 4 T)) ∨ (z_findP (z_set35 x.1 x.2.1 S) x.1 x.2.1 0 S' ∧ r = -4000000000000000003))) := by
  refine q_metW hD (by decide) (fun _ => Nat.le_of_ble_eq_true rfl) (fun Γ x S hΓ hpre hC hTb => ?_)
  subst hΓ
  obtain ⟨a, b, c⟩ := x
  show qV Γ _ _ 0 [(0, .ref (q_ad Γ 36 0)), (1, .int (nI a)), (2, .int (nI b)), (3, .int (nI c))] [] S (0, 0)
  refine q_aload_n hC 0 dL_witness_0 rfl rfl ?_
  refine q_iload_n hC 1 dL_witness_1 rfl rfl ?_
  refine q_iload_n hC 2 dL_witness_2 rfl rfl ?_
  refine q_iload_n hC 3 dL_witness_3 rfl rfl ?_
  refine q_xbV hC hTb (b_X9_witness (q_hD hC) hl) m_X9_witness lk_L_99 dL_witness_4 (a, b, c) rfl rfl rfl rfl rfl (Nat.le_of_ble_eq_true rfl) (Nat.le_of_ble_eq_true rfl) ⟨⟨by decide, by decide⟩, by decide, by decide⟩ hpre [(0, 8, 9, 17), (0, 8, 15, 66)] [] 0 8 (hp := 21) (ct := 31) rfl hp_w3 rfl (by decide) cl_nsee ins_nsee (k' := (1, 6)) rfl (fun q S' hp => ?_) rfl (fun v S' hp => ?_)
  · have hp : z_findP (z_set35 a b S) a b 0 S' := hp
    refine q_astore hC dL_witness_21 (by decide) (ls' := [(0, _), (1, _), (2, _), (3, _), (4, _)]) rfl rfl ?_
    refine q_ldc2 hC dL_witness_23 cl_L_33 rfl ?_
    refine q_lret hC dL_witness_26 ⟨by decide, by decide⟩ ⟨_, rfl, ?_⟩
    exact Or.inr ⟨hp, rfl⟩
  · obtain ⟨r9, rfl, T, h1, h2, h3⟩ := hp
    show qV Γ _ _ 7 _ (.int _ :: _) _ _
    refine q_i2l hC dL_witness_7 rfl ?_
    refine q_lret hC dL_witness_8 ⟨by decide, by decide⟩ ⟨_, rfl, ?_⟩
    exact Or.inl ⟨T, r9, h1, h2, rfl, h3⟩
