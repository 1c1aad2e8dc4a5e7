-- printed by wip/p36/gen_m2.py
abbrev rm_X9_copy : Room := { frames := 4, cells := 0, slots := 0, locals := 81 }
set_option maxHeartbeats 4000000 in
set_option maxRecDepth 100000 in
theorem c_X9_copy {L : qL} (hD : q_D L.2.2.2.1) : qCT L yX9_copy cX9_copy 3 (some .int) rm_X9_copy (fun ad _ (x : Nat × Nat) => [.ref (ad 36 0), .int (nI x.1), .int (nI x.2)]) (fun x S => x.1 < 4 ∧ x.2 < 4 ∧ ¬ x.1 = x.2 ∧ z_raw S x.1 ∧ z_J S x.2) (qPi (fun x S r S' => z_mu S S' x.2)) := by
  refine q_met hD (by decide) (fun _ => Nat.le_of_ble_eq_true rfl) (fun Γ x S hΓ hpre hC => ?_)
  subst hΓ
  obtain ⟨s, d⟩ := x
  obtain ⟨hs, hd, hne, hraw, hJ⟩ := hpre
  have hs : s < 4 := hs
  have hd : d < 4 := hd
  have hraw : z_raw S s := hraw
  have hJ : z_J S d := hJ
  show qV Γ _ _ 0 [(0, .ref (q_ad Γ 36 0)), (1, .int (nI s)), (2, .int (nI d))] [] S (0, 0)
  refine q_iload_n hC 1 dX9_copy_0 rfl rfl ?_
  refine q_iconst hC dX9_copy_1 (v := 4) (by decide) rfl ?_
  refine q_callS hC (c_X9_needPlace (q_hD hC)) m_X9_needPlace lk_X9_54 dX9_copy_2 (s, 4) rfl rfl (Nat.le_of_ble_eq_true rfl) ⟨⟨by decide, by decide⟩, by decide, by decide⟩ rfl (k' := (0, 0)) rfl ⟨hs, (show (4 : Nat) < 2 ^ 31 by decide)⟩ (fun v S' hp => ?_)
  obtain ⟨rfl, rfl⟩ := hp
  show qV Γ _ _ 5 _ _ _ _
  refine q_iload_n hC 2 dX9_copy_5 rfl rfl ?_
  refine q_iconst hC dX9_copy_6 (v := 4) (by decide) rfl ?_
  refine q_callS hC (c_X9_needPlace (q_hD hC)) m_X9_needPlace lk_X9_54 dX9_copy_7 (d, 4) rfl rfl (Nat.le_of_ble_eq_true rfl) ⟨⟨by decide, by decide⟩, by decide, by decide⟩ rfl (k' := (0, 0)) rfl ⟨hd, (show (4 : Nat) < 2 ^ 31 by decide)⟩ (fun v S' hp => ?_)
  obtain ⟨rfl, rfl⟩ := hp
  show qV Γ _ _ 10 _ _ _ _
  refine q_aload_n hC 0 dX9_copy_10 rfl rfl ?_
  refine q_get_f hC f_X9_11 dX9_copy_11 rfl rfl (Nat.le_of_ble_eq_true rfl) rfl ?_
  refine q_iload_n hC 2 dX9_copy_14 rfl rfl ?_
  refine q_lib hC d dX9_copy_15 rfl hd rfl ?_
  refine q_aload_n hC 0 dX9_copy_16 rfl rfl ?_
  refine q_get_f hC f_X9_11 dX9_copy_17 rfl rfl (Nat.le_of_ble_eq_true rfl) rfl ?_
  refine q_iload_n hC 1 dX9_copy_20 rfl rfl ?_
  refine q_lib hC s dX9_copy_21 rfl hs rfl ?_
  refine q_callV hC (c_X5_become (q_hD hC)) m_X5_become lk_X9_140 dX9_copy_22 (d, s) rfl rfl rfl rfl rfl hd (Nat.le_of_ble_eq_true rfl) ⟨⟨by decide, by decide⟩, by decide, by decide⟩ rfl (k' := (0, 0)) rfl ⟨hd, hs, hne, hraw⟩ (fun v S' hp => ?_)
  obtain ⟨rfl, T, hlb, rfl⟩ := hp
  have hlb : z_lb S T d s := hlb
  show qV Γ _ _ 25 _ _ _ _
  refine q_aload_n hC 0 dX9_copy_25 rfl rfl ?_
  refine q_get_f hC f_X9_11 dX9_copy_26 rfl rfl (Nat.le_of_ble_eq_true rfl) rfl ?_
  refine q_iload_n hC 2 dX9_copy_29 rfl rfl ?_
  refine q_lib hC d dX9_copy_30 rfl hd rfl ?_
  refine q_get_f hC f_X9_66 dX9_copy_31 rfl rfl hd rfl ?_
  refine q_callV hC (c_X2_typeCount (q_hD hC)) m_X2_typeCount lk_X9_144 dX9_copy_34 (d, ()) rfl rfl rfl rfl rfl hd (Nat.le_of_ble_eq_true rfl) ⟨⟨by decide, by decide⟩, by decide, by decide⟩ rfl (k' := (0, 0)) rfl hd (fun v S' hp => ?_)
  obtain ⟨r34_4, rfl, rfl⟩ := hp
  show qV Γ _ _ 37 _ (.int _ :: _) _ _
  refine q_iret hC dX9_copy_37 rfl ⟨by decide, by decide⟩ ⟨_, rfl, ?_⟩
  exact z_mu_ch hlb.1 (z_lb_raw hlb hraw) hJ
abbrev rm_X9_check : Room := { frames := 6, cells := 0, slots := 0, locals := 133 }
set_option maxHeartbeats 4000000 in
set_option maxRecDepth 100000 in
theorem c_X9_check {L : qL} (hD : q_D L.2.2.2.1) : qCT L yX9_check cX9_check 2 (some .int) rm_X9_check (fun ad _ (x : Nat × Unit) => [.ref (ad 36 0), .int (nI x.1)]) (fun x S => x.1 < 4 ∧ (S 0 x.1 2 = 0 → z_raw S x.1 ∧ z_wf S x.1 ∧ z_s36 S x.1)) (qPi (fun x S r S' => r = S' 0 x.1 3 ∧ z_lawQ S S' x.1)) := by
  refine q_met hD (by decide) (fun _ => Nat.le_of_ble_eq_true rfl) (fun Γ x S hΓ hpre hC => ?_)
  subst hΓ
  obtain ⟨i, u⟩ := x
  obtain ⟨hi, hR⟩ := hpre
  have hi : i < 4 := hi
  show qV Γ _ _ 0 [(0, .ref (q_ad Γ 36 0)), (1, .int (nI i))] [] S (0, 0)
  refine q_iload_n hC 1 dX9_check_0 rfl rfl ?_
  refine q_iconst hC dX9_check_1 (v := 4) (by decide) rfl ?_
  refine q_callS hC (c_X9_needPlace (q_hD hC)) m_X9_needPlace lk_X9_54 dX9_check_2 (i, 4) rfl rfl (Nat.le_of_ble_eq_true rfl) ⟨⟨by decide, by decide⟩, by decide, by decide⟩ rfl (k' := (0, 0)) rfl ⟨hi, (show (4 : Nat) < 2 ^ 31 by decide)⟩ (fun v S' hp => ?_)
  obtain ⟨rfl, rfl⟩ := hp
  show qV Γ _ _ 5 _ _ _ _
  refine q_aload_n hC 0 dX9_check_5 rfl rfl ?_
  refine q_get_f hC f_X9_11 dX9_check_6 rfl rfl (Nat.le_of_ble_eq_true rfl) rfl ?_
  refine q_iload_n hC 1 dX9_check_9 rfl rfl ?_
  refine q_lib hC i dX9_check_10 rfl hi rfl ?_
  refine q_callV hC (c_X5_law (q_hD hC)) m_X5_law lk_X9_148 dX9_check_11 (i, ()) rfl rfl rfl rfl rfl hi (Nat.le_of_ble_eq_true rfl) ⟨⟨by decide, by decide⟩, by decide, by decide⟩ rfl (k' := (0, 0)) rfl ⟨hi, hR⟩ (fun v S' hp => ?_)
  obtain ⟨r11_2, rfl, hr9, hq9⟩ := hp
  show qV Γ _ _ 14 _ (.int _ :: _) _ _
  refine q_iret hC dX9_check_14 rfl ⟨by decide, by decide⟩ ⟨_, rfl, ?_⟩
  exact ⟨hr9, hq9⟩
