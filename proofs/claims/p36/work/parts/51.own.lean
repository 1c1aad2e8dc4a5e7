-- printed by wip/p36/gen_m2.py
theorem z_n45 : ∀ u, u < 5 → ¬ nI (65 + u) = (45 : Int32) := by decide +kernel
theorem z_n45m : ∀ u, u < 3 → ¬ nI (97 + u) = (45 : Int32) := by decide +kernel
abbrev rm_X9_wipe : Room := { frames := 2, cells := 0, slots := 0, locals := 40 }
set_option maxHeartbeats 4000000 in
set_option maxRecDepth 100000 in
theorem c_X9_wipe {L : qL} (hD : q_D L.2.2.2.1) : qCT L yX9_wipe cX9_wipe 3 (some .int) rm_X9_wipe (fun ad _ (x : Nat × Unit) => [.ref (ad 36 0), .int (nI x.1)]) (fun x _ => x.1 < 4) (qPi (fun x S r S' => S' = z_cclr x.1 S)) := by
  refine q_met hD (by decide) (fun _ => Nat.le_of_ble_eq_true rfl) (fun Γ x S hΓ hpre hC => ?_)
  subst hΓ
  obtain ⟨c, u⟩ := x
  have hc4 : c < 4 := hpre
  have hc : c < 5 := by omega
  show qV Γ _ _ 0 [(0, .ref (q_ad Γ 36 0)), (1, .int (nI c))] [] S (0, 0)
  refine q_iload_n hC 1 dX9_wipe_0 rfl rfl ?_
  refine q_iconst hC dX9_wipe_1 (v := 4) (by decide) rfl ?_
  refine q_callS hC (c_X9_needPlace (q_hD hC)) m_X9_needPlace lk_X9_54 dX9_wipe_2 (c, 4) rfl rfl (Nat.le_of_ble_eq_true rfl) ⟨⟨by decide, by decide⟩, by decide, by decide⟩ rfl (k' := (0, 0)) rfl ⟨hc4, (show (4 : Nat) < 2 ^ 31 by decide)⟩ (fun v S' hp => ?_)
  obtain ⟨rfl, rfl⟩ := hp
  show qV Γ _ _ 5 _ _ _ _
  refine q_aload_n hC 0 dX9_wipe_5 rfl rfl ?_
  refine q_get_f hC f_X9_17 dX9_wipe_6 rfl rfl (Nat.le_of_ble_eq_true rfl) rfl ?_
  refine q_iload_n hC 1 dX9_wipe_9 rfl rfl ?_
  refine q_cli hC c dX9_wipe_10 rfl hc4 rfl ?_
  refine q_get_f hC f_X9_166 dX9_wipe_11 rfl rfl hc rfl ?_
  refine q_istore_n hC dX9_wipe_14 (by decide) (ls' := [(0, _), (1, _), (2, _)]) rfl rfl ?_
  refine q_aload_n hC 0 dX9_wipe_15 rfl rfl ?_
  refine q_get_f hC f_X9_17 dX9_wipe_16 rfl rfl (Nat.le_of_ble_eq_true rfl) rfl ?_
  refine q_iload_n hC 1 dX9_wipe_19 rfl rfl ?_
  refine q_cli hC c dX9_wipe_20 rfl hc4 rfl ?_
  refine q_callV hC (c_X0_clear (q_hD hC)) m_X0_clear lk_X9_169 dX9_wipe_21 c rfl rfl rfl rfl rfl hc (Nat.le_of_ble_eq_true rfl) ⟨⟨by decide, by decide⟩, by decide, by decide⟩ rfl (k' := (0, 0)) rfl hc (fun v S' hp => ?_)
  obtain ⟨rfl, rfl⟩ := hp
  show qV Γ _ _ 24 _ _ _ _
  refine q_iload_n hC 2 dX9_wipe_24 rfl rfl ?_
  refine q_iret hC dX9_wipe_25 rfl ⟨by decide, by decide⟩ ⟨_, rfl, ?_⟩
  exact rfl
abbrev rm_X9_own : Room := { frames := 1, cells := 0, slots := 0, locals := 21 }
set_option maxHeartbeats 4000000 in
set_option maxRecDepth 100000 in
theorem c_X9_own {L : qL} (hD : q_D L.2.2.2.1) : qCT L yX9_own cX9_own 5 (some .boolean) rm_X9_own (fun ad _ (x : Nat × Unit) => [.ref (ad 36 0), .int (nI x.1), .int 1]) (fun x S => x.1 < 4 ∧ S 27 x.1 1 = 0 ∧ S 28 x.1 0 = 0) (qPi (fun x S r S' => S' = q_up (z_clr x.1 S) 28 x.1 (upd (z_clr x.1 S 28 x.1) 0 1))) := by
  refine q_met hD (by decide) (fun _ => Nat.le_of_ble_eq_true rfl) (fun Γ x S hΓ hpre hC => ?_)
  subst hΓ
  obtain ⟨c, u⟩ := x
  obtain ⟨hc4, h0, h1⟩ := hpre
  have hc4 : c < 4 := hc4
  have hc : c < 5 := by omega
  have hd : c < 6 := by omega
  have h0 : S 27 c 1 = 0 := h0
  have h1 : S 28 c 0 = 0 := h1
  show qV Γ _ _ 0 [(0, .ref (q_ad Γ 36 0)), (1, .int (nI c)), (2, .int 1)] [] S (0, 0)
  refine q_iload_n hC 1 dX9_own_0 rfl rfl ?_
  refine q_iconst hC dX9_own_1 (v := 4) (by decide) rfl ?_
  refine q_callS hC (c_X9_needPlace (q_hD hC)) m_X9_needPlace lk_X9_54 dX9_own_2 (c, 4) rfl rfl (Nat.le_of_ble_eq_true rfl) ⟨⟨by decide, by decide⟩, by decide, by decide⟩ rfl (k' := (0, 0)) rfl ⟨hc4, (show (4 : Nat) < 2 ^ 31 by decide)⟩ (fun v S' hp => ?_)
  obtain ⟨rfl, rfl⟩ := hp
  show qV Γ _ _ 5 _ _ _ _
  refine q_aload_n hC 0 dX9_own_5 rfl rfl ?_
  refine q_get_f hC f_X9_17 dX9_own_6 rfl rfl (Nat.le_of_ble_eq_true rfl) rfl ?_
  refine q_iload_n hC 1 dX9_own_9 rfl rfl ?_
  refine q_cli hC c dX9_own_10 rfl hc4 rfl ?_
  refine q_astore_n hC dX9_own_11 (by decide) (ls' := [(0, _), (1, _), (2, _), (3, _)]) rfl rfl ?_
  refine q_aload_n hC 3 dX9_own_12 rfl rfl ?_
  refine q_get_f hC f_X9_172 dX9_own_13 rfl rfl hc rfl ?_
  refine q_get_f hC f_X9_176 dX9_own_16 rfl rfl (Nat.lt_trans hc (by decide)) rfl ?_
  refine q_istore hC dX9_own_19 (by decide) (ls' := [(0, _), (1, _), (2, _), (3, _), (4, _)]) rfl rfl ?_
  refine q_aload_n hC 3 dX9_own_21 rfl rfl ?_
  refine q_get_f hC f_X9_166 dX9_own_22 rfl rfl hc rfl ?_
  refine q_if_eq hC dX9_own_25 (t := 34) (n := 28) (by decide) rfl (fun h25 => ?_) (fun h25 => absurd h0 h25)
  refine q_iconst hC dX9_own_34 (v := 1) (by decide) rfl ?_
  refine q_goto hC dX9_own_35 (n := 39) (by decide) ?_
  refine q_callS hC (c_X9_needSupport (q_hD hC)) m_X9_needSupport lk_X9_151 dX9_own_39 1 rfl rfl (Nat.le_of_ble_eq_true rfl) ⟨⟨by decide, by decide⟩, by decide, by decide⟩ rfl (k' := (0, 0)) rfl z_1n0 (fun v S' hp => ?_)
  obtain ⟨rfl, rfl⟩ := hp
  show qV Γ _ _ 42 _ _ _ _
  refine q_iload hC 4 dX9_own_42 rfl rfl ?_
  refine q_iload_n hC 2 dX9_own_44 rfl rfl ?_
  refine q_icmp_eq hC dX9_own_45 (t := 63) (n := 48) (by decide) rfl (fun h45 => absurd (h1.symm.trans h45) (by decide)) (fun h45 => ?_)
  refine q_aload_n hC 3 dX9_own_48 rfl rfl ?_
  refine q_get_f hC f_X9_172 dX9_own_49 rfl rfl hc rfl ?_
  refine q_callV hC (c_X7_clear (q_hD hC)) m_X7_clear lk_X9_182 dX9_own_52 c rfl rfl rfl rfl rfl (Nat.lt_trans hc (by decide)) (Nat.le_of_ble_eq_true rfl) ⟨⟨by decide, by decide⟩, by decide, by decide⟩ rfl (k' := (0, 0)) rfl hd (fun v S' hp => ?_)
  obtain ⟨rfl, rfl⟩ := hp
  show qV Γ _ _ 55 _ _ _ _
  refine q_aload_n hC 3 dX9_own_55 rfl rfl ?_
  refine q_get_f hC f_X9_172 dX9_own_56 rfl rfl hc rfl ?_
  refine q_iload_n hC 2 dX9_own_59 rfl rfl ?_
  refine q_put_i hC fp_X9_176 dX9_own_60 rfl rfl (Nat.le_of_ble_eq_true rfl) rfl rfl (Nat.lt_trans hc (by decide)) rfl ?_
  refine q_iload hC 4 dX9_own_63 rfl rfl ?_
  refine q_iret hC dX9_own_65 (by rw [h1]; rfl) ⟨by decide, by decide⟩ ⟨_, rfl, ?_⟩
  exact rfl
abbrev rm_X9_ownAbove : Room := { frames := 1, cells := 0, slots := 0, locals := 21 }
set_option maxHeartbeats 4000000 in
set_option maxRecDepth 100000 in
theorem c_X9_ownAbove {L : qL} (hD : q_D L.2.2.2.1) : qCT L yX9_ownAbove cX9_ownAbove 5 (some .char) rm_X9_ownAbove (fun ad _ (x : Nat × Nat) => [.ref (ad 36 0), .int (nI x.1), .int (nI (65 + x.2))]) (fun x S => x.1 < 4 ∧ x.2 < 5 ∧ ¬ S 28 x.1 0 = 0 ∧ z_v5 (S 28 x.1 1)) (qPi (fun x S r S' => S' = q_up S 28 x.1 (upd (S 28 x.1) 1 (nI x.2)))) := by
  refine q_met hD (by decide) (fun _ => Nat.le_of_ble_eq_true rfl) (fun Γ x S hΓ hpre hC => ?_)
  subst hΓ
  obtain ⟨c, u⟩ := x
  obtain ⟨hc4, hu, h1, h2⟩ := hpre
  have hc4 : c < 4 := hc4
  have hc : c < 5 := by omega
  have hu : u < 5 := hu
  have h1 : ¬ S 28 c 0 = 0 := h1
  have h2 : z_v5 (S 28 c 1) := h2
  have e65 := z_m65 u hu
  have n45 := z_n45 u hu
  show qV Γ _ _ 0 [(0, .ref (q_ad Γ 36 0)), (1, .int (nI c)), (2, .int (nI (65 + u)))] [] S (0, 0)
  refine q_iload_n hC 1 dX9_ownAbove_0 rfl rfl ?_
  refine q_iconst hC dX9_ownAbove_1 (v := 4) (by decide) rfl ?_
  refine q_callS hC (c_X9_needPlace (q_hD hC)) m_X9_needPlace lk_X9_54 dX9_ownAbove_2 (c, 4) rfl rfl (Nat.le_of_ble_eq_true rfl) ⟨⟨by decide, by decide⟩, by decide, by decide⟩ rfl (k' := (0, 0)) rfl ⟨hc4, (show (4 : Nat) < 2 ^ 31 by decide)⟩ (fun v S' hp => ?_)
  obtain ⟨rfl, rfl⟩ := hp
  show qV Γ _ _ 5 _ _ _ _
  refine q_iload_n hC 2 dX9_ownAbove_5 rfl rfl ?_
  refine q_callS hC (c_X9_isType (q_hD hC)) m_X9_isType lk_X9_58 dX9_ownAbove_6 (nI (65 + u)) rfl rfl (Nat.le_of_ble_eq_true rfl) ⟨⟨by decide, by decide⟩, by decide, by decide⟩ rfl (k' := (0, 0)) rfl trivial (fun v S' hp => ?_)
  obtain ⟨r6_2, rfl, rfl, rfl⟩ := hp
  show qV Γ _ _ 9 _ (.int _ :: _) _ _
  refine q_if_ne hC dX9_ownAbove_9 (t := 18) (n := 12) (by decide) rfl (fun h9 => ?_) (fun h9 => absurd h9 (by rw [z_isT u hu]; exact z_1n0))
  refine q_iconst hC dX9_ownAbove_18 (v := 1) (by decide) rfl ?_
  refine q_goto hC dX9_ownAbove_19 (n := 23) (by decide) ?_
  refine q_callS hC (c_X9_needRange (q_hD hC)) m_X9_needRange lk_X9_62 dX9_ownAbove_23 1 rfl rfl (Nat.le_of_ble_eq_true rfl) ⟨⟨by decide, by decide⟩, by decide, by decide⟩ rfl (k' := (0, 0)) rfl z_1n0 (fun v S' hp => ?_)
  obtain ⟨rfl, rfl⟩ := hp
  show qV Γ _ _ 26 _ _ _ _
  refine q_aload_n hC 0 dX9_ownAbove_26 rfl rfl ?_
  refine q_get_f hC f_X9_17 dX9_ownAbove_27 rfl rfl (Nat.le_of_ble_eq_true rfl) rfl ?_
  refine q_iload_n hC 1 dX9_ownAbove_30 rfl rfl ?_
  refine q_cli hC c dX9_ownAbove_31 rfl hc4 rfl ?_
  refine q_get_f hC f_X9_172 dX9_ownAbove_32 rfl rfl hc rfl ?_
  refine q_astore_n hC dX9_ownAbove_35 (by decide) (ls' := [(0, _), (1, _), (2, _), (3, _)]) rfl rfl ?_
  refine q_aload_n hC 3 dX9_ownAbove_36 rfl rfl ?_
  refine q_get_f hC f_X9_176 dX9_ownAbove_37 rfl rfl (Nat.lt_trans hc (by decide)) rfl ?_
  refine q_callS hC (c_X9_needSupport (q_hD hC)) m_X9_needSupport lk_X9_151 dX9_ownAbove_40 _ rfl rfl (Nat.le_of_ble_eq_true rfl) ⟨⟨by decide, by decide⟩, by decide, by decide⟩ rfl (k' := (0, 0)) rfl h1 (fun v S' hp => ?_)
  obtain ⟨rfl, rfl⟩ := hp
  show qV Γ _ _ 43 _ _ _ _
  refine q_aload_n hC 3 dX9_ownAbove_43 rfl rfl ?_
  refine q_get_f hC f_X9_183 dX9_ownAbove_44 rfl rfl (Nat.lt_trans hc (by decide)) rfl ?_
  refine q_istore hC dX9_ownAbove_47 (by decide) (ls' := [(0, _), (1, _), (2, _), (3, _), (4, _)]) rfl rfl ?_
  refine q_aload_n hC 3 dX9_ownAbove_49 rfl rfl ?_
  refine q_iload_n hC 2 dX9_ownAbove_50 rfl rfl ?_
  refine q_bipush hC dX9_ownAbove_51 (v := 45) (by decide) rfl ?_
  refine q_icmp_ne hC dX9_ownAbove_53 (t := 60) (n := 56) (by decide) rfl (fun h53 => ?_) (fun h53 => absurd h53 n45)
  refine q_iload_n hC 2 dX9_ownAbove_60 rfl rfl ?_
  refine q_bipush hC dX9_ownAbove_61 (v := 65) (by decide) rfl ?_
  refine q_isub hC dX9_ownAbove_63 rfl ?_
  rw [e65]
  refine q_put_i hC fp_X9_183 dX9_ownAbove_64 rfl rfl (Nat.le_of_ble_eq_true rfl) rfl rfl (Nat.lt_trans hc (by decide)) rfl ?_
  refine q_iload hC 4 dX9_ownAbove_67 rfl rfl ?_
  refine q_callS hC (c_X9_letter (q_hD hC)) m_X9_letter lk_X9_94 dX9_ownAbove_69 _ rfl rfl (Nat.le_of_ble_eq_true rfl) ⟨⟨by decide, by decide⟩, by decide, by decide⟩ rfl (k' := (0, 0)) rfl h2 (fun v S' hp => ?_)
  obtain ⟨r69_5, rfl, hn69_5, rfl⟩ := hp
  show qV Γ _ _ 72 _ (.int _ :: _) _ _
  refine q_iret hC dX9_ownAbove_72 (by assumption) ⟨by decide, by decide⟩ ⟨_, rfl, ?_⟩
  exact rfl
theorem z_one_all : ∀ u, u < 5 → z_with 0 (nI u) 1 = nI (2 ^ u) ∧ ¬ (2 : Int32) < z_bc (nI (2 ^ u)) := by decide +kernel
abbrev rm_X9_ownUnder : Room := { frames := 1, cells := 0, slots := 0, locals := 22 }
set_option maxHeartbeats 4000000 in
set_option maxRecDepth 100000 in
theorem c_X9_ownUnder {L : qL} (hD : q_D L.2.2.2.1) : qCT L yX9_ownUnder cX9_ownUnder 7 (some .boolean) rm_X9_ownUnder (fun ad _ (x : Nat × Nat) => [.ref (ad 36 0), .int (nI x.1), .int (nI (65 + x.2)), .int 1]) (fun x S => x.1 < 4 ∧ x.2 < 5 ∧ ¬ S 28 x.1 0 = 0 ∧ S 28 x.1 2 = 0) (qPi (fun x S r S' => S' = q_up S 28 x.1 (upd (S 28 x.1) 2 (nI (2 ^ x.2))))) := by
  refine q_met hD (by decide) (fun _ => Nat.le_of_ble_eq_true rfl) (fun Γ x S hΓ hpre hC => ?_)
  subst hΓ
  obtain ⟨c, u⟩ := x
  obtain ⟨hc4, hu, h1, h2⟩ := hpre
  have hc4 : c < 4 := hc4
  have hc : c < 5 := by omega
  have hu : u < 5 := hu
  have h1 : ¬ S 28 c 0 = 0 := h1
  have h2 : S 28 c 2 = 0 := h2
  have e65 := z_m65 u hu
  obtain ⟨ew, eb⟩ := z_one_all u hu
  show qV Γ _ _ 0 [(0, .ref (q_ad Γ 36 0)), (1, .int (nI c)), (2, .int (nI (65 + u))), (3, .int 1)] [] S (0, 0)
  refine q_iload_n hC 1 dX9_ownUnder_0 rfl rfl ?_
  refine q_iconst hC dX9_ownUnder_1 (v := 4) (by decide) rfl ?_
  refine q_callS hC (c_X9_needPlace (q_hD hC)) m_X9_needPlace lk_X9_54 dX9_ownUnder_2 (c, 4) rfl rfl (Nat.le_of_ble_eq_true rfl) ⟨⟨by decide, by decide⟩, by decide, by decide⟩ rfl (k' := (0, 0)) rfl ⟨hc4, (show (4 : Nat) < 2 ^ 31 by decide)⟩ (fun v S' hp => ?_)
  obtain ⟨rfl, rfl⟩ := hp
  show qV Γ _ _ 5 _ _ _ _
  refine q_iload_n hC 2 dX9_ownUnder_5 rfl rfl ?_
  refine q_callS hC (c_X9_isType (q_hD hC)) m_X9_isType lk_X9_58 dX9_ownUnder_6 (nI (65 + u)) rfl rfl (Nat.le_of_ble_eq_true rfl) ⟨⟨by decide, by decide⟩, by decide, by decide⟩ rfl (k' := (0, 0)) rfl trivial (fun v S' hp => ?_)
  obtain ⟨r6_2, rfl, rfl, rfl⟩ := hp
  show qV Γ _ _ 9 _ (.int _ :: _) _ _
  refine q_callS hC (c_X9_needRange (q_hD hC)) m_X9_needRange lk_X9_62 dX9_ownUnder_9 _ rfl rfl (Nat.le_of_ble_eq_true rfl) ⟨⟨by decide, by decide⟩, by decide, by decide⟩ rfl (k' := (0, 0)) rfl (by show ¬ z_isType (nI (65 + u)) = 0; rw [z_isT u hu]; exact z_1n0) (fun v S' hp => ?_)
  obtain ⟨rfl, rfl⟩ := hp
  show qV Γ _ _ 12 _ _ _ _
  refine q_aload_n hC 0 dX9_ownUnder_12 rfl rfl ?_
  refine q_get_f hC f_X9_17 dX9_ownUnder_13 rfl rfl (Nat.le_of_ble_eq_true rfl) rfl ?_
  refine q_iload_n hC 1 dX9_ownUnder_16 rfl rfl ?_
  refine q_cli hC c dX9_ownUnder_17 rfl hc4 rfl ?_
  refine q_get_f hC f_X9_172 dX9_ownUnder_18 rfl rfl hc rfl ?_
  refine q_astore hC dX9_ownUnder_21 (by decide) (ls' := [(0, _), (1, _), (2, _), (3, _), (4, _)]) rfl rfl ?_
  refine q_aload hC 4 dX9_ownUnder_23 rfl rfl ?_
  refine q_get_f hC f_X9_176 dX9_ownUnder_25 rfl rfl (Nat.lt_trans hc (by decide)) rfl ?_
  refine q_callS hC (c_X9_needSupport (q_hD hC)) m_X9_needSupport lk_X9_151 dX9_ownUnder_28 _ rfl rfl (Nat.le_of_ble_eq_true rfl) ⟨⟨by decide, by decide⟩, by decide, by decide⟩ rfl (k' := (0, 0)) rfl h1 (fun v S' hp => ?_)
  obtain ⟨rfl, rfl⟩ := hp
  show qV Γ _ _ 31 _ _ _ _
  refine q_aload hC 4 dX9_ownUnder_31 rfl rfl ?_
  refine q_get_f hC f_X9_185 dX9_ownUnder_33 rfl rfl (Nat.lt_trans hc (by decide)) rfl ?_
  refine q_istore hC dX9_ownUnder_36 (by decide) (ls' := [(0, _), (1, _), (2, _), (3, _), (4, _), (5, _)]) rfl rfl ?_
  refine q_iload hC 5 dX9_ownUnder_38 rfl rfl ?_
  refine q_iload_n hC 2 dX9_ownUnder_40 rfl rfl ?_
  refine q_bipush hC dX9_ownUnder_41 (v := 65) (by decide) rfl ?_
  refine q_isub hC dX9_ownUnder_43 rfl ?_
  rw [e65, h2]
  refine q_iload_n hC 3 dX9_ownUnder_44 rfl rfl ?_
  refine q_callS hC (c_X9_with (q_hD hC)) m_X9_with lk_X9_107 dX9_ownUnder_45 (0, nI u, 1) rfl rfl (Nat.le_of_ble_eq_true rfl) ⟨⟨by decide, by decide⟩, by decide, by decide⟩ rfl (k' := (0, 0)) rfl trivial (fun v S' hp => ?_)
  obtain ⟨r45_5, rfl, rfl, rfl⟩ := hp
  show qV Γ _ _ 48 _ (.int _ :: _) _ _
  rw [show z_with ((0, nI u, 1) : Int32 × Int32 × Int32).1 ((0, nI u, 1) : Int32 × Int32 × Int32).2.1 ((0, nI u, 1) : Int32 × Int32 × Int32).2.2 = nI (2 ^ u) from ew]
  refine q_istore hC dX9_ownUnder_48 (by decide) (ls' := [(0, _), (1, _), (2, _), (3, _), (4, _), (5, _), (6, _)]) rfl rfl ?_
  refine q_iload hC 6 dX9_ownUnder_50 rfl rfl ?_
  refine q_callS hC (c_J6_bitCount_0f7a4 (q_hD hC)) m_J6_bitCount_0f7a4 lk_X9_187 dX9_ownUnder_52 (nI (2 ^ u)) rfl rfl (Nat.le_of_ble_eq_true rfl) ⟨⟨by decide, by decide⟩, by decide, by decide⟩ rfl (k' := (0, 0)) rfl trivial (fun v S' hp => ?_)
  obtain ⟨r52_6, rfl, rfl, rfl⟩ := hp
  show qV Γ _ _ 55 _ (.int _ :: _) _ _
  refine q_iconst hC dX9_ownUnder_55 (v := 2) (by decide) rfl ?_
  refine q_icmp_gt hC dX9_ownUnder_56 (t := 63) (n := 59) (by decide) rfl (fun h56 => absurd h56 eb) (fun h56 => ?_)
  refine q_iconst hC dX9_ownUnder_59 (v := 1) (by decide) rfl ?_
  refine q_goto hC dX9_ownUnder_60 (n := 64) (by decide) ?_
  refine q_callS hC (c_X9_needState (q_hD hC)) m_X9_needState lk_X9_193 dX9_ownUnder_64 1 rfl rfl (Nat.le_of_ble_eq_true rfl) ⟨⟨by decide, by decide⟩, by decide, by decide⟩ rfl (k' := (0, 0)) rfl z_1n0 (fun v S' hp => ?_)
  obtain ⟨rfl, rfl⟩ := hp
  show qV Γ _ _ 67 _ _ _ _
  refine q_aload hC 4 dX9_ownUnder_67 rfl rfl ?_
  refine q_iload hC 6 dX9_ownUnder_69 rfl rfl ?_
  refine q_put_i hC fp_X9_185 dX9_ownUnder_71 rfl rfl (Nat.le_of_ble_eq_true rfl) rfl rfl (Nat.lt_trans hc (by decide)) rfl ?_
  refine q_iload hC 5 dX9_ownUnder_74 rfl rfl ?_
  refine q_iload_n hC 2 dX9_ownUnder_76 rfl rfl ?_
  refine q_bipush hC dX9_ownUnder_77 (v := 65) (by decide) rfl ?_
  refine q_isub hC dX9_ownUnder_79 rfl ?_
  rw [e65]
  refine q_callS hC (c_X9_has (q_hD hC)) m_X9_has lk_X9_111 dX9_ownUnder_80 (0, nI u) rfl rfl (Nat.le_of_ble_eq_true rfl) ⟨⟨by decide, by decide⟩, by decide, by decide⟩ rfl (k' := (0, 0)) rfl trivial (fun v S' hp => ?_)
  obtain ⟨r80_8, rfl, rfl, rfl⟩ := hp
  show qV Γ _ _ 83 _ (.int _ :: _) _ _
  refine q_iret hC dX9_ownUnder_83 (z_bool_f z_has_b).2.1 ⟨by decide, by decide⟩ ⟨_, rfl, ?_⟩
  exact rfl
abbrev rm_X9_ownMethod : Room := { frames := 1, cells := 0, slots := 0, locals := 21 }
set_option maxHeartbeats 4000000 in
set_option maxRecDepth 100000 in
theorem c_X9_ownMethod {L : qL} (hD : q_D L.2.2.2.1) : qCT L yX9_ownMethod cX9_ownMethod 6 (some .char) rm_X9_ownMethod (fun ad _ (x : Nat × Nat) => [.ref (ad 36 0), .int (nI x.1), .int (nI (97 + x.2)), .int 0]) (fun x S => x.1 < 4 ∧ x.2 < 3 ∧ ¬ S 28 x.1 0 = 0 ∧ z_v6 (S 28 x.1 3)) (qPi (fun x S r S' => S' = q_up S 28 x.1 (upd (S 28 x.1) 3 (nI (x.2 * 2 + 0))))) := by
  refine q_met hD (by decide) (fun _ => Nat.le_of_ble_eq_true rfl) (fun Γ x S hΓ hpre hC => ?_)
  subst hΓ
  obtain ⟨c, a⟩ := x
  obtain ⟨hc4, ha, h1, h2⟩ := hpre
  have hc4 : c < 4 := hc4
  have hc : c < 5 := by omega
  have ha : a < 3 := ha
  have h1 : ¬ S 28 c 0 = 0 := h1
  have h2 : z_v6 (S 28 c 3) := h2
  have n45 := z_n45m a ha
  show qV Γ _ _ 0 [(0, .ref (q_ad Γ 36 0)), (1, .int (nI c)), (2, .int (nI (97 + a))), (3, .int 0)] [] S (0, 0)
  refine q_iload_n hC 1 dX9_ownMethod_0 rfl rfl ?_
  refine q_iconst hC dX9_ownMethod_1 (v := 4) (by decide) rfl ?_
  refine q_callS hC (c_X9_needPlace (q_hD hC)) m_X9_needPlace lk_X9_54 dX9_ownMethod_2 (c, 4) rfl rfl (Nat.le_of_ble_eq_true rfl) ⟨⟨by decide, by decide⟩, by decide, by decide⟩ rfl (k' := (0, 0)) rfl ⟨hc4, (show (4 : Nat) < 2 ^ 31 by decide)⟩ (fun v S' hp => ?_)
  obtain ⟨rfl, rfl⟩ := hp
  show qV Γ _ _ 5 _ _ _ _
  refine q_iload_n hC 2 dX9_ownMethod_5 rfl rfl ?_
  refine q_iload_n hC 3 dX9_ownMethod_6 rfl rfl ?_
  refine q_callS hC (c_X9_isMember (q_hD hC)) m_X9_isMember lk_X9_115 dX9_ownMethod_7 (nI (97 + a), 0) rfl rfl (Nat.le_of_ble_eq_true rfl) ⟨⟨by decide, by decide⟩, by decide, by decide⟩ rfl (k' := (0, 0)) rfl trivial (fun v S' hp => ?_)
  obtain ⟨r7_2, rfl, rfl, rfl⟩ := hp
  show qV Γ _ _ 10 _ (.int _ :: _) _ _
  refine q_if_ne hC dX9_ownMethod_10 (t := 28) (n := 13) (by decide) rfl (fun h10 => ?_) (fun h10 => absurd h10 (by show ¬ z_isMember (nI (97 + a)) (nI 0) = 0; rw [z_isM a ha 0 (by decide)]; exact z_1n0))
  refine q_iconst hC dX9_ownMethod_28 (v := 1) (by decide) rfl ?_
  refine q_goto hC dX9_ownMethod_29 (n := 33) (by decide) ?_
  refine q_callS hC (c_X9_needRange (q_hD hC)) m_X9_needRange lk_X9_62 dX9_ownMethod_33 1 rfl rfl (Nat.le_of_ble_eq_true rfl) ⟨⟨by decide, by decide⟩, by decide, by decide⟩ rfl (k' := (0, 0)) rfl z_1n0 (fun v S' hp => ?_)
  obtain ⟨rfl, rfl⟩ := hp
  show qV Γ _ _ 36 _ _ _ _
  refine q_aload_n hC 0 dX9_ownMethod_36 rfl rfl ?_
  refine q_get_f hC f_X9_17 dX9_ownMethod_37 rfl rfl (Nat.le_of_ble_eq_true rfl) rfl ?_
  refine q_iload_n hC 1 dX9_ownMethod_40 rfl rfl ?_
  refine q_cli hC c dX9_ownMethod_41 rfl hc4 rfl ?_
  refine q_get_f hC f_X9_172 dX9_ownMethod_42 rfl rfl hc rfl ?_
  refine q_astore hC dX9_ownMethod_45 (by decide) (ls' := [(0, _), (1, _), (2, _), (3, _), (4, _)]) rfl rfl ?_
  refine q_aload hC 4 dX9_ownMethod_47 rfl rfl ?_
  refine q_get_f hC f_X9_176 dX9_ownMethod_49 rfl rfl (Nat.lt_trans hc (by decide)) rfl ?_
  refine q_callS hC (c_X9_needSupport (q_hD hC)) m_X9_needSupport lk_X9_151 dX9_ownMethod_52 _ rfl rfl (Nat.le_of_ble_eq_true rfl) ⟨⟨by decide, by decide⟩, by decide, by decide⟩ rfl (k' := (0, 0)) rfl h1 (fun v S' hp => ?_)
  obtain ⟨rfl, rfl⟩ := hp
  show qV Γ _ _ 55 _ _ _ _
  refine q_aload hC 4 dX9_ownMethod_55 rfl rfl ?_
  refine q_get_f hC f_X9_196 dX9_ownMethod_57 rfl rfl (Nat.lt_trans hc (by decide)) rfl ?_
  refine q_istore hC dX9_ownMethod_60 (by decide) (ls' := [(0, _), (1, _), (2, _), (3, _), (4, _), (5, _)]) rfl rfl ?_
  refine q_aload hC 4 dX9_ownMethod_62 rfl rfl ?_
  refine q_iload_n hC 2 dX9_ownMethod_64 rfl rfl ?_
  refine q_bipush hC dX9_ownMethod_65 (v := 45) (by decide) rfl ?_
  refine q_icmp_ne hC dX9_ownMethod_67 (t := 74) (n := 70) (by decide) rfl (fun h67 => ?_) (fun h67 => absurd h67 n45)
  refine q_iload_n hC 2 dX9_ownMethod_74 rfl rfl ?_
  refine q_iload_n hC 3 dX9_ownMethod_75 rfl rfl ?_
  refine q_callS hC (c_X9_memberIndex (q_hD hC)) m_X9_memberIndex lk_X9_199 dX9_ownMethod_76 (nI (97 + a), 0) rfl rfl (Nat.le_of_ble_eq_true rfl) ⟨⟨by decide, by decide⟩, by decide, by decide⟩ rfl (k' := (0, 0)) rfl trivial (fun v S' hp => ?_)
  obtain ⟨r76_5, rfl, rfl, rfl⟩ := hp
  show qV Γ _ _ 79 _ (.int _ :: _) _ _
  refine q_put_i hC fp_X9_196 dX9_ownMethod_79 rfl rfl (Nat.le_of_ble_eq_true rfl) rfl rfl (Nat.lt_trans hc (by decide)) rfl ?_
  refine q_iload hC 5 dX9_ownMethod_82 rfl rfl ?_
  refine q_callS hC (c_X9_nameOf (q_hD hC)) m_X9_nameOf lk_X9_203 dX9_ownMethod_84 _ rfl rfl (Nat.le_of_ble_eq_true rfl) ⟨⟨by decide, by decide⟩, by decide, by decide⟩ rfl (k' := (0, 0)) rfl h2 (fun v S' hp => ?_)
  obtain ⟨r84_6, rfl, hn84_6, rfl⟩ := hp
  show qV Γ _ _ 87 _ (.int _ :: _) _ _
  refine q_iret hC dX9_ownMethod_87 (by assumption) ⟨by decide, by decide⟩ ⟨_, rfl, ?_⟩
  refine congrArg (fun z => q_up S 28 c (upd (S 28 c) 3 z)) ?_
  show z_mi (nI (97 + a)) (nI 0) = _
  rw [z_miv a ha 0 (by decide)]
