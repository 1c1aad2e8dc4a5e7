-- printed by wip/p36/gen_m2.py
theorem z_has_b {a b : Int32} : z_bool (z_has a b) := by
  unfold z_has
  split
  · exact Or.inr rfl
  · exact Or.inl rfl
theorem z_with_all : ∀ w, w < 32 → ∀ u, u < 5 → z_m5 (z_with (nI w) (nI u) 0) ∧ z_m5 (z_with (nI w) (nI u) 1) := by
  have key : ∀ w, w < 32 → ∀ u, u < 5 → (z_with (nI w) (nI u) 0 = nI (w &&& (31 - 2 ^ u)) ∧ (w &&& (31 - 2 ^ u)) < 32) ∧ (z_with (nI w) (nI u) 1 = nI (w ||| 2 ^ u) ∧ (w ||| 2 ^ u) < 32) := by decide +kernel
  intro w hw u hu
  obtain ⟨⟨a, b⟩, c, d⟩ := key w hw u hu
  exact ⟨⟨_, b, a⟩, ⟨_, d, c⟩⟩
theorem z_with_m5 {x b : Int32} {u : Nat} (hx : z_m5 x) (hu : u < 5) (hb : z_bool b) : z_m5 (z_with x (nI u) b) := by
  obtain ⟨w, hw, rfl⟩ := hx
  rcases hb with rfl | rfl
  · exact (z_with_all w hw u hu).1
  · exact (z_with_all w hw u hu).2
theorem z_99 : ∀ n, n < 100 → ¬ (99 : Int32) < nI n := by decide +kernel
abbrev rm_X9_maker : Room := { frames := 2, cells := 0, slots := 0, locals := 41 }
set_option maxHeartbeats 4000000 in
set_option maxRecDepth 100000 in
theorem c_X9_maker {L : qL} (hD : q_D L.2.2.2.1) : qCT L yX9_maker cX9_maker 6 (some .char) rm_X9_maker (fun ad _ (x : Nat × Nat × Int32) => [.ref (ad 36 0), .int (nI x.1), .int (nI (65 + x.2.1)), .int x.2.2]) (fun x S => x.1 < 4 ∧ x.2.1 < 5 ∧ z_sg4 x.2.2 ∧ z_J S x.1 ∧ ¬ S 2 x.1 x.2.1 = 45) (qPi (fun x S r S' => z_mu S S' x.1)) := by
  refine q_met hD (by decide) (fun _ => Nat.le_of_ble_eq_true rfl) (fun Γ x S hΓ hpre hC => ?_)
  subst hΓ
  obtain ⟨i, t, sg⟩ := x
  obtain ⟨hi, ht, hsg, hJ, hk⟩ := hpre
  have hi : i < 4 := hi
  have ht : t < 5 := ht
  have hsg : z_sg4 sg := hsg
  have hJ : z_J S i := hJ
  have e65 := z_m65 t ht
  have ec : (nI t).toNatClampNeg = t := nI_clamp (by omega)
  have vi : vp_in (nI t) 5 := vp_in_nI ht (by decide)
  have hk : ¬ S 2 i t = 45 := hk
  show qV Γ _ _ 0 [(0, .ref (q_ad Γ 36 0)), (1, .int (nI i)), (2, .int (nI (65 + t))), (3, .int sg)] [] S (0, 0)
  refine q_iload_n hC 1 dX9_maker_0 rfl rfl ?_
  refine q_iconst hC dX9_maker_1 (v := 4) (by decide) rfl ?_
  refine q_callS hC (c_X9_needPlace (q_hD hC)) m_X9_needPlace lk_X9_54 dX9_maker_2 (i, 4) rfl rfl (Nat.le_of_ble_eq_true rfl) ⟨⟨by decide, by decide⟩, by decide, by decide⟩ rfl (k' := (0, 0)) rfl ⟨hi, (show (4 : Nat) < 2 ^ 31 by decide)⟩ (fun v S' hp => ?_)
  obtain ⟨rfl, rfl⟩ := hp
  show qV Γ _ _ 5 _ _ _ _
  refine q_iload_n hC 2 dX9_maker_5 rfl rfl ?_
  refine q_callS hC (c_X9_isType (q_hD hC)) m_X9_isType lk_X9_58 dX9_maker_6 (nI (65 + t)) rfl rfl (Nat.le_of_ble_eq_true rfl) ⟨⟨by decide, by decide⟩, by decide, by decide⟩ rfl (k' := (0, 0)) rfl trivial (fun v S' hp => ?_)
  obtain ⟨r6_2, rfl, rfl, rfl⟩ := hp
  show qV Γ _ _ 9 _ (.int _ :: _) _ _
  refine q_if_eq hC dX9_maker_9 (t := 23) (n := 12) (by decide) rfl (fun h9 => absurd h9 (by rw [z_isT t ht]; exact z_1n0)) (fun h9 => ?_)
  refine q_iload_n hC 3 dX9_maker_12 rfl rfl ?_
  refine q_callS hC (c_X9_isSight (q_hD hC)) m_X9_isSight lk_X9_98 dX9_maker_13 sg rfl rfl (Nat.le_of_ble_eq_true rfl) ⟨⟨by decide, by decide⟩, by decide, by decide⟩ rfl (k' := (0, 0)) rfl trivial (fun v S' hp => ?_)
  obtain ⟨r13_3, rfl, rfl, rfl⟩ := hp
  show qV Γ _ _ 16 _ (.int _ :: _) _ _
  refine q_if_eq hC dX9_maker_16 (t := 23) (n := 19) (by decide) rfl (fun h16 => absurd h16 (by rw [z_isS hsg]; exact z_1n0)) (fun h16 => ?_)
  refine q_iconst hC dX9_maker_19 (v := 1) (by decide) rfl ?_
  refine q_goto hC dX9_maker_20 (n := 24) (by decide) ?_
  refine q_callS hC (c_X9_needRange (q_hD hC)) m_X9_needRange lk_X9_62 dX9_maker_24 1 rfl rfl (Nat.le_of_ble_eq_true rfl) ⟨⟨by decide, by decide⟩, by decide, by decide⟩ rfl (k' := (0, 0)) rfl z_1n0 (fun v S' hp => ?_)
  obtain ⟨rfl, rfl⟩ := hp
  show qV Γ _ _ 27 _ _ _ _
  refine q_aload_n hC 0 dX9_maker_27 rfl rfl ?_
  refine q_get_f hC f_X9_11 dX9_maker_28 rfl rfl (Nat.le_of_ble_eq_true rfl) rfl ?_
  refine q_iload_n hC 1 dX9_maker_31 rfl rfl ?_
  refine q_lib hC i dX9_maker_32 rfl hi rfl ?_
  refine q_astore hC dX9_maker_33 (by decide) (ls' := [(0, _), (1, _), (2, _), (3, _), (4, _)]) rfl rfl ?_
  refine q_aload hC 4 dX9_maker_35 rfl rfl ?_
  refine q_iload_n hC 2 dX9_maker_37 rfl rfl ?_
  refine q_callS hC (c_X9_needThere (q_hD hC)) m_X9_needThere lk_X9_83 dX9_maker_38 (i, t) rfl rfl (Nat.le_of_ble_eq_true rfl) ⟨⟨by decide, by decide⟩, by decide, by decide⟩ rfl (k' := (0, 0)) rfl ⟨hi, ht, hk⟩ (fun v S' hp => ?_)
  obtain ⟨rfl, rfl⟩ := hp
  show qV Γ _ _ 41 _ _ _ _
  refine q_aload hC 4 dX9_maker_41 rfl rfl ?_
  refine q_get_f hC f_X9_66 dX9_maker_43 rfl rfl hi rfl ?_
  refine q_get_f hC f_X9_101 dX9_maker_46 rfl rfl hi rfl ?_
  refine q_iload_n hC 2 dX9_maker_49 rfl rfl ?_
  refine q_bipush hC dX9_maker_50 (v := 65) (by decide) rfl ?_
  refine q_isub hC dX9_maker_52 rfl ?_
  rw [e65]
  refine q_cald hC dX9_maker_53 rfl hi vi rfl ?_
  refine q_istore hC dX9_maker_54 (by decide) (ls' := [(0, _), (1, _), (2, _), (3, _), (4, _), (5, _)]) rfl rfl ?_
  refine q_aload hC 4 dX9_maker_56 rfl rfl ?_
  refine q_get_f hC f_X9_66 dX9_maker_58 rfl rfl hi rfl ?_
  refine q_get_f hC f_X9_101 dX9_maker_61 rfl rfl hi rfl ?_
  refine q_iload_n hC 2 dX9_maker_64 rfl rfl ?_
  refine q_bipush hC dX9_maker_65 (v := 65) (by decide) rfl ?_
  refine q_isub hC dX9_maker_67 rfl ?_
  rw [e65]
  refine q_iload_n hC 3 dX9_maker_68 rfl rfl ?_
  refine q_cast hC dX9_maker_69 (fun _ => rfl) hi vi rfl ?_
  refine q_aload hC 4 dX9_maker_70 rfl rfl ?_
  refine q_callV hC (c_X5_changed (q_hD hC)) m_X5_changed lk_X9_80 dX9_maker_72 (i, ()) rfl rfl rfl rfl rfl hi (Nat.le_of_ble_eq_true rfl) ⟨⟨by decide, by decide⟩, by decide, by decide⟩ rfl (k' := (0, 0)) rfl hi (fun v S' hp => ?_)
  obtain ⟨rfl, rfl⟩ := hp
  show qV Γ _ _ 75 _ _ _ _
  refine q_iload hC 5 dX9_maker_75 rfl rfl ?_
  refine q_iret hC dX9_maker_77 (by rw [ec]; exact z_chr_n (z_pc (hJ.1.2.2.1 t ht))) ⟨by decide, by decide⟩ ⟨_, rfl, ?_⟩
  exact z_mu_ch (S := S) (fun k' i' hk' => by simp only [q_up]; rw [if_neg (by omega)]) (z_raw_1 6 (by decide) (by rw [ec]) ⟨fun h => absurd h (by decide), fun _ => (by rw [z_chr_v (z_sg4_c hsg)]; exact hsg), fun h => absurd h (by decide), fun h => absurd h (by decide)⟩ hJ.1) hJ
abbrev rmx_X9_maker : Room := { frames := 8, cells := 1, slots := 6, locals := 131 }
set_option maxHeartbeats 4000000 in
set_option maxRecDepth 100000 in
theorem x_X9_maker {L : qL} (hD : q_D L.2.2.2.1) (hl : L.1.stackTraces = false) : qCX L yX9_maker cX9_maker 6 (some .char) rmx_X9_maker (fun ad _ (x : Nat × Nat × Int32) => [.ref (ad 36 0), .int (nI x.1), .int (nI (65 + x.2.1)), .int x.2.2]) (fun x S => x.1 < 4 ∧ x.2.1 < 5 ∧ z_sg4 x.2.2 ∧ z_J S x.1 ∧ S 2 x.1 x.2.1 = 45) q_nsee (fun _ S S' => S' = S) := by
  refine q_metX hD (by decide) (fun _ => Nat.le_of_ble_eq_true rfl) (fun Γ x S hΓ hpre hC hX => ?_)
  subst hΓ
  obtain ⟨i, t, sg⟩ := x
  obtain ⟨hi, ht, hsg, hJ, hk⟩ := hpre
  have hi : i < 4 := hi
  have ht : t < 5 := ht
  have hsg : z_sg4 sg := hsg
  have hJ : z_J S i := hJ
  have e65 := z_m65 t ht
  have ec : (nI t).toNatClampNeg = t := nI_clamp (by omega)
  have vi : vp_in (nI t) 5 := vp_in_nI ht (by decide)
  have hk : S 2 i t = 45 := hk
  show qV Γ _ _ 0 [(0, .ref (q_ad Γ 36 0)), (1, .int (nI i)), (2, .int (nI (65 + t))), (3, .int sg)] [] S (0, 0)
  refine q_iload_n hC 1 dX9_maker_0 rfl rfl ?_
  refine q_iconst hC dX9_maker_1 (v := 4) (by decide) rfl ?_
  refine q_callS hC (c_X9_needPlace (q_hD hC)) m_X9_needPlace lk_X9_54 dX9_maker_2 (i, 4) rfl rfl (Nat.le_of_ble_eq_true rfl) ⟨⟨by decide, by decide⟩, by decide, by decide⟩ rfl (k' := (0, 0)) rfl ⟨hi, (show (4 : Nat) < 2 ^ 31 by decide)⟩ (fun v S' hp => ?_)
  obtain ⟨rfl, rfl⟩ := hp
  show qV Γ _ _ 5 _ _ _ _
  refine q_iload_n hC 2 dX9_maker_5 rfl rfl ?_
  refine q_callS hC (c_X9_isType (q_hD hC)) m_X9_isType lk_X9_58 dX9_maker_6 (nI (65 + t)) rfl rfl (Nat.le_of_ble_eq_true rfl) ⟨⟨by decide, by decide⟩, by decide, by decide⟩ rfl (k' := (0, 0)) rfl trivial (fun v S' hp => ?_)
  obtain ⟨r6_2, rfl, rfl, rfl⟩ := hp
  show qV Γ _ _ 9 _ (.int _ :: _) _ _
  refine q_if_eq hC dX9_maker_9 (t := 23) (n := 12) (by decide) rfl (fun h9 => absurd h9 (by rw [z_isT t ht]; exact z_1n0)) (fun h9 => ?_)
  refine q_iload_n hC 3 dX9_maker_12 rfl rfl ?_
  refine q_callS hC (c_X9_isSight (q_hD hC)) m_X9_isSight lk_X9_98 dX9_maker_13 sg rfl rfl (Nat.le_of_ble_eq_true rfl) ⟨⟨by decide, by decide⟩, by decide, by decide⟩ rfl (k' := (0, 0)) rfl trivial (fun v S' hp => ?_)
  obtain ⟨r13_3, rfl, rfl, rfl⟩ := hp
  show qV Γ _ _ 16 _ (.int _ :: _) _ _
  refine q_if_eq hC dX9_maker_16 (t := 23) (n := 19) (by decide) rfl (fun h16 => absurd h16 (by rw [z_isS hsg]; exact z_1n0)) (fun h16 => ?_)
  refine q_iconst hC dX9_maker_19 (v := 1) (by decide) rfl ?_
  refine q_goto hC dX9_maker_20 (n := 24) (by decide) ?_
  refine q_callS hC (c_X9_needRange (q_hD hC)) m_X9_needRange lk_X9_62 dX9_maker_24 1 rfl rfl (Nat.le_of_ble_eq_true rfl) ⟨⟨by decide, by decide⟩, by decide, by decide⟩ rfl (k' := (0, 0)) rfl z_1n0 (fun v S' hp => ?_)
  obtain ⟨rfl, rfl⟩ := hp
  show qV Γ _ _ 27 _ _ _ _
  refine q_aload_n hC 0 dX9_maker_27 rfl rfl ?_
  refine q_get_f hC f_X9_11 dX9_maker_28 rfl rfl (Nat.le_of_ble_eq_true rfl) rfl ?_
  refine q_iload_n hC 1 dX9_maker_31 rfl rfl ?_
  refine q_lib hC i dX9_maker_32 rfl hi rfl ?_
  refine q_astore hC dX9_maker_33 (by decide) (ls' := [(0, _), (1, _), (2, _), (3, _), (4, _)]) rfl rfl ?_
  refine q_aload hC 4 dX9_maker_35 rfl rfl ?_
  refine q_iload_n hC 2 dX9_maker_37 rfl rfl ?_
  exact q_xS hC hX (x_X9_needThere (q_hD hC) hl) m_X9_needThere lk_X9_83 dX9_maker_38 (i, t) rfl rfl (Nat.le_of_ble_eq_true rfl) ⟨⟨by decide, by decide⟩, by decide, by decide⟩ ⟨hi, ht, hk⟩ (fun _ h => h)
abbrev rm_X9_under : Room := { frames := 2, cells := 0, slots := 0, locals := 41 }
set_option maxHeartbeats 4000000 in
set_option maxRecDepth 100000 in
theorem c_X9_under {L : qL} (hD : q_D L.2.2.2.1) : qCT L yX9_under cX9_under 7 (some .boolean) rm_X9_under (fun ad _ (x : Nat × Nat × Nat × Int32) => [.ref (ad 36 0), .int (nI x.1), .int (nI (65 + x.2.1)), .int (nI (65 + x.2.2.1)), .int x.2.2.2]) (fun x S => x.1 < 4 ∧ x.2.1 < 5 ∧ x.2.2.1 < 5 ∧ z_bool x.2.2.2 ∧ z_J S x.1 ∧ ¬ S 2 x.1 x.2.1 = 45) (qPi (fun x S r S' => z_mu S S' x.1)) := by
  refine q_met hD (by decide) (fun _ => Nat.le_of_ble_eq_true rfl) (fun Γ x S hΓ hpre hC => ?_)
  subst hΓ
  obtain ⟨i, t, u, b⟩ := x
  obtain ⟨hi, ht, hu, hb, hJ, hk⟩ := hpre
  have hi : i < 4 := hi
  have ht : t < 5 := ht
  have hu : u < 5 := hu
  have hb : z_bool b := hb
  have hJ : z_J S i := hJ
  have e65 := z_m65 t ht
  have ec : (nI t).toNatClampNeg = t := nI_clamp (by omega)
  have vi : vp_in (nI t) 5 := vp_in_nI ht (by decide)
  have e65u := z_m65 u hu
  have hk : ¬ S 2 i t = 45 := hk
  show qV Γ _ _ 0 [(0, .ref (q_ad Γ 36 0)), (1, .int (nI i)), (2, .int (nI (65 + t))), (3, .int (nI (65 + u))), (4, .int b)] [] S (0, 0)
  refine q_iload_n hC 1 dX9_under_0 rfl rfl ?_
  refine q_iconst hC dX9_under_1 (v := 4) (by decide) rfl ?_
  refine q_callS hC (c_X9_needPlace (q_hD hC)) m_X9_needPlace lk_X9_54 dX9_under_2 (i, 4) rfl rfl (Nat.le_of_ble_eq_true rfl) ⟨⟨by decide, by decide⟩, by decide, by decide⟩ rfl (k' := (0, 0)) rfl ⟨hi, (show (4 : Nat) < 2 ^ 31 by decide)⟩ (fun v S' hp => ?_)
  obtain ⟨rfl, rfl⟩ := hp
  show qV Γ _ _ 5 _ _ _ _
  refine q_iload_n hC 2 dX9_under_5 rfl rfl ?_
  refine q_callS hC (c_X9_isType (q_hD hC)) m_X9_isType lk_X9_58 dX9_under_6 (nI (65 + t)) rfl rfl (Nat.le_of_ble_eq_true rfl) ⟨⟨by decide, by decide⟩, by decide, by decide⟩ rfl (k' := (0, 0)) rfl trivial (fun v S' hp => ?_)
  obtain ⟨r6_2, rfl, rfl, rfl⟩ := hp
  show qV Γ _ _ 9 _ (.int _ :: _) _ _
  refine q_if_eq hC dX9_under_9 (t := 23) (n := 12) (by decide) rfl (fun h9 => absurd h9 (by rw [z_isT t ht]; exact z_1n0)) (fun h9 => ?_)
  refine q_iload_n hC 3 dX9_under_12 rfl rfl ?_
  refine q_callS hC (c_X9_isType (q_hD hC)) m_X9_isType lk_X9_58 dX9_under_13 (nI (65 + u)) rfl rfl (Nat.le_of_ble_eq_true rfl) ⟨⟨by decide, by decide⟩, by decide, by decide⟩ rfl (k' := (0, 0)) rfl trivial (fun v S' hp => ?_)
  obtain ⟨r13_3, rfl, rfl, rfl⟩ := hp
  show qV Γ _ _ 16 _ (.int _ :: _) _ _
  refine q_if_eq hC dX9_under_16 (t := 23) (n := 19) (by decide) rfl (fun h16 => absurd h16 (by rw [z_isT u hu]; exact z_1n0)) (fun h16 => ?_)
  refine q_iconst hC dX9_under_19 (v := 1) (by decide) rfl ?_
  refine q_goto hC dX9_under_20 (n := 24) (by decide) ?_
  refine q_callS hC (c_X9_needRange (q_hD hC)) m_X9_needRange lk_X9_62 dX9_under_24 1 rfl rfl (Nat.le_of_ble_eq_true rfl) ⟨⟨by decide, by decide⟩, by decide, by decide⟩ rfl (k' := (0, 0)) rfl z_1n0 (fun v S' hp => ?_)
  obtain ⟨rfl, rfl⟩ := hp
  show qV Γ _ _ 27 _ _ _ _
  refine q_aload_n hC 0 dX9_under_27 rfl rfl ?_
  refine q_get_f hC f_X9_11 dX9_under_28 rfl rfl (Nat.le_of_ble_eq_true rfl) rfl ?_
  refine q_iload_n hC 1 dX9_under_31 rfl rfl ?_
  refine q_lib hC i dX9_under_32 rfl hi rfl ?_
  refine q_astore hC dX9_under_33 (by decide) (ls' := [(0, _), (1, _), (2, _), (3, _), (4, _), (5, _)]) rfl rfl ?_
  refine q_aload hC 5 dX9_under_35 rfl rfl ?_
  refine q_iload_n hC 2 dX9_under_37 rfl rfl ?_
  refine q_callS hC (c_X9_needThere (q_hD hC)) m_X9_needThere lk_X9_83 dX9_under_38 (i, t) rfl rfl (Nat.le_of_ble_eq_true rfl) ⟨⟨by decide, by decide⟩, by decide, by decide⟩ rfl (k' := (0, 0)) rfl ⟨hi, ht, hk⟩ (fun v S' hp => ?_)
  obtain ⟨rfl, rfl⟩ := hp
  show qV Γ _ _ 41 _ _ _ _
  refine q_aload hC 5 dX9_under_41 rfl rfl ?_
  refine q_get_f hC f_X9_66 dX9_under_43 rfl rfl hi rfl ?_
  refine q_get_f hC f_X9_104 dX9_under_46 rfl rfl hi rfl ?_
  refine q_iload_n hC 2 dX9_under_49 rfl rfl ?_
  refine q_bipush hC dX9_under_50 (v := 65) (by decide) rfl ?_
  refine q_isub hC dX9_under_52 rfl ?_
  rw [e65]
  refine q_iald hC dX9_under_53 rfl hi vi rfl ?_
  refine q_istore hC dX9_under_54 (by decide) (ls' := [(0, _), (1, _), (2, _), (3, _), (4, _), (5, _), (6, _)]) rfl rfl ?_
  refine q_aload hC 5 dX9_under_56 rfl rfl ?_
  refine q_get_f hC f_X9_66 dX9_under_58 rfl rfl hi rfl ?_
  refine q_get_f hC f_X9_104 dX9_under_61 rfl rfl hi rfl ?_
  refine q_iload_n hC 2 dX9_under_64 rfl rfl ?_
  refine q_bipush hC dX9_under_65 (v := 65) (by decide) rfl ?_
  refine q_isub hC dX9_under_67 rfl ?_
  rw [e65]
  refine q_iload hC 6 dX9_under_68 rfl rfl ?_
  refine q_iload_n hC 3 dX9_under_70 rfl rfl ?_
  refine q_bipush hC dX9_under_71 (v := 65) (by decide) rfl ?_
  refine q_isub hC dX9_under_73 rfl ?_
  rw [e65u]
  refine q_iload hC 4 dX9_under_74 rfl rfl ?_
  refine q_callS hC (c_X9_with (q_hD hC)) m_X9_with lk_X9_107 dX9_under_76 (S 8 i (nI t).toNatClampNeg, nI u, b) rfl rfl (Nat.le_of_ble_eq_true rfl) ⟨⟨by decide, by decide⟩, by decide, by decide⟩ rfl (k' := (0, 0)) rfl trivial (fun v S' hp => ?_)
  obtain ⟨r76_6, rfl, rfl, rfl⟩ := hp
  show qV Γ _ _ 79 _ (.int _ :: _) _ _
  refine q_iast hC dX9_under_79 (fun _ => rfl) hi vi rfl ?_
  refine q_aload hC 5 dX9_under_80 rfl rfl ?_
  refine q_callV hC (c_X5_changed (q_hD hC)) m_X5_changed lk_X9_80 dX9_under_82 (i, ()) rfl rfl rfl rfl rfl hi (Nat.le_of_ble_eq_true rfl) ⟨⟨by decide, by decide⟩, by decide, by decide⟩ rfl (k' := (0, 0)) rfl hi (fun v S' hp => ?_)
  obtain ⟨rfl, rfl⟩ := hp
  show qV Γ _ _ 85 _ _ _ _
  refine q_iload hC 6 dX9_under_85 rfl rfl ?_
  refine q_iload_n hC 3 dX9_under_87 rfl rfl ?_
  refine q_bipush hC dX9_under_88 (v := 65) (by decide) rfl ?_
  refine q_isub hC dX9_under_90 rfl ?_
  rw [e65u]
  refine q_callS hC (c_X9_has (q_hD hC)) m_X9_has lk_X9_111 dX9_under_91 (S 8 i (nI t).toNatClampNeg, nI u) rfl rfl (Nat.le_of_ble_eq_true rfl) ⟨⟨by decide, by decide⟩, by decide, by decide⟩ rfl (k' := (0, 0)) rfl trivial (fun v S' hp => ?_)
  obtain ⟨r91_8, rfl, rfl, rfl⟩ := hp
  show qV Γ _ _ 94 _ (.int _ :: _) _ _
  refine q_iret hC dX9_under_94 (z_bool_f z_has_b).2.1 ⟨by decide, by decide⟩ ⟨_, rfl, ?_⟩
  exact z_mu_ch (S := S) (fun k' i' hk' => by simp only [q_up]; rw [if_neg (by omega)]) (z_raw_1 8 (by decide) (by rw [ec]) ⟨fun h => absurd h (by decide), fun h => absurd h (by decide), fun h => absurd h (by decide), fun _ => z_with_m5 (show z_m5 (S 8 i t) from hJ.1.2.2.2.2.1 t ht) hu hb⟩ hJ.1) hJ
abbrev rmx_X9_under : Room := { frames := 8, cells := 1, slots := 6, locals := 131 }
set_option maxHeartbeats 4000000 in
set_option maxRecDepth 100000 in
theorem x_X9_under {L : qL} (hD : q_D L.2.2.2.1) (hl : L.1.stackTraces = false) : qCX L yX9_under cX9_under 7 (some .boolean) rmx_X9_under (fun ad _ (x : Nat × Nat × Nat × Int32) => [.ref (ad 36 0), .int (nI x.1), .int (nI (65 + x.2.1)), .int (nI (65 + x.2.2.1)), .int x.2.2.2]) (fun x S => x.1 < 4 ∧ x.2.1 < 5 ∧ x.2.2.1 < 5 ∧ z_bool x.2.2.2 ∧ z_J S x.1 ∧ S 2 x.1 x.2.1 = 45) q_nsee (fun _ S S' => S' = S) := by
  refine q_metX hD (by decide) (fun _ => Nat.le_of_ble_eq_true rfl) (fun Γ x S hΓ hpre hC hX => ?_)
  subst hΓ
  obtain ⟨i, t, u, b⟩ := x
  obtain ⟨hi, ht, hu, hb, hJ, hk⟩ := hpre
  have hi : i < 4 := hi
  have ht : t < 5 := ht
  have hu : u < 5 := hu
  have hb : z_bool b := hb
  have hJ : z_J S i := hJ
  have e65 := z_m65 t ht
  have ec : (nI t).toNatClampNeg = t := nI_clamp (by omega)
  have vi : vp_in (nI t) 5 := vp_in_nI ht (by decide)
  have e65u := z_m65 u hu
  have hk : S 2 i t = 45 := hk
  show qV Γ _ _ 0 [(0, .ref (q_ad Γ 36 0)), (1, .int (nI i)), (2, .int (nI (65 + t))), (3, .int (nI (65 + u))), (4, .int b)] [] S (0, 0)
  refine q_iload_n hC 1 dX9_under_0 rfl rfl ?_
  refine q_iconst hC dX9_under_1 (v := 4) (by decide) rfl ?_
  refine q_callS hC (c_X9_needPlace (q_hD hC)) m_X9_needPlace lk_X9_54 dX9_under_2 (i, 4) rfl rfl (Nat.le_of_ble_eq_true rfl) ⟨⟨by decide, by decide⟩, by decide, by decide⟩ rfl (k' := (0, 0)) rfl ⟨hi, (show (4 : Nat) < 2 ^ 31 by decide)⟩ (fun v S' hp => ?_)
  obtain ⟨rfl, rfl⟩ := hp
  show qV Γ _ _ 5 _ _ _ _
  refine q_iload_n hC 2 dX9_under_5 rfl rfl ?_
  refine q_callS hC (c_X9_isType (q_hD hC)) m_X9_isType lk_X9_58 dX9_under_6 (nI (65 + t)) rfl rfl (Nat.le_of_ble_eq_true rfl) ⟨⟨by decide, by decide⟩, by decide, by decide⟩ rfl (k' := (0, 0)) rfl trivial (fun v S' hp => ?_)
  obtain ⟨r6_2, rfl, rfl, rfl⟩ := hp
  show qV Γ _ _ 9 _ (.int _ :: _) _ _
  refine q_if_eq hC dX9_under_9 (t := 23) (n := 12) (by decide) rfl (fun h9 => absurd h9 (by rw [z_isT t ht]; exact z_1n0)) (fun h9 => ?_)
  refine q_iload_n hC 3 dX9_under_12 rfl rfl ?_
  refine q_callS hC (c_X9_isType (q_hD hC)) m_X9_isType lk_X9_58 dX9_under_13 (nI (65 + u)) rfl rfl (Nat.le_of_ble_eq_true rfl) ⟨⟨by decide, by decide⟩, by decide, by decide⟩ rfl (k' := (0, 0)) rfl trivial (fun v S' hp => ?_)
  obtain ⟨r13_3, rfl, rfl, rfl⟩ := hp
  show qV Γ _ _ 16 _ (.int _ :: _) _ _
  refine q_if_eq hC dX9_under_16 (t := 23) (n := 19) (by decide) rfl (fun h16 => absurd h16 (by rw [z_isT u hu]; exact z_1n0)) (fun h16 => ?_)
  refine q_iconst hC dX9_under_19 (v := 1) (by decide) rfl ?_
  refine q_goto hC dX9_under_20 (n := 24) (by decide) ?_
  refine q_callS hC (c_X9_needRange (q_hD hC)) m_X9_needRange lk_X9_62 dX9_under_24 1 rfl rfl (Nat.le_of_ble_eq_true rfl) ⟨⟨by decide, by decide⟩, by decide, by decide⟩ rfl (k' := (0, 0)) rfl z_1n0 (fun v S' hp => ?_)
  obtain ⟨rfl, rfl⟩ := hp
  show qV Γ _ _ 27 _ _ _ _
  refine q_aload_n hC 0 dX9_under_27 rfl rfl ?_
  refine q_get_f hC f_X9_11 dX9_under_28 rfl rfl (Nat.le_of_ble_eq_true rfl) rfl ?_
  refine q_iload_n hC 1 dX9_under_31 rfl rfl ?_
  refine q_lib hC i dX9_under_32 rfl hi rfl ?_
  refine q_astore hC dX9_under_33 (by decide) (ls' := [(0, _), (1, _), (2, _), (3, _), (4, _), (5, _)]) rfl rfl ?_
  refine q_aload hC 5 dX9_under_35 rfl rfl ?_
  refine q_iload_n hC 2 dX9_under_37 rfl rfl ?_
  exact q_xS hC hX (x_X9_needThere (q_hD hC) hl) m_X9_needThere lk_X9_83 dX9_under_38 (i, t) rfl rfl (Nat.le_of_ble_eq_true rfl) ⟨⟨by decide, by decide⟩, by decide, by decide⟩ ⟨hi, ht, hk⟩ (fun _ h => h)
abbrev rm_X9_flag : Room := { frames := 2, cells := 0, slots := 0, locals := 41 }
set_option maxHeartbeats 4000000 in
set_option maxRecDepth 100000 in
theorem c_X9_flag {L : qL} (hD : q_D L.2.2.2.1) : qCT L yX9_flag cX9_flag 8 (some .boolean) rm_X9_flag (fun ad _ (x : Nat × Nat × Int32 × Int32) => [.ref (ad 36 0), .int (nI x.1), .int (nI (65 + x.2.1)), .int x.2.2.1, .int x.2.2.2]) (fun x S => x.1 < 4 ∧ x.2.1 < 5 ∧ (x.2.2.1 = 111 ∨ x.2.2.1 = 97 ∨ x.2.2.1 = 102) ∧ z_bool x.2.2.2 ∧ z_J S x.1 ∧ ¬ S 2 x.1 x.2.1 = 45) (qPi (fun x S r S' => z_mu S S' x.1)) := by
  refine q_met hD (by decide) (fun _ => Nat.le_of_ble_eq_true rfl) (fun Γ x S hΓ hpre hC => ?_)
  subst hΓ
  obtain ⟨i, t, w, b⟩ := x
  obtain ⟨hi, ht, hw, hb, hJ, hk⟩ := hpre
  have hi : i < 4 := hi
  have ht : t < 5 := ht
  have hw : w = 111 ∨ w = 97 ∨ w = 102 := hw
  have hb : z_bool b := hb
  have hJ : z_J S i := hJ
  have e65 := z_m65 t ht
  have ec : (nI t).toNatClampNeg = t := nI_clamp (by omega)
  have vi : vp_in (nI t) 5 := vp_in_nI ht (by decide)
  have hk : ¬ S 2 i t = 45 := hk
  rcases hw with rfl | rfl | rfl
  · show qV Γ _ _ 0 [(0, .ref (q_ad Γ 36 0)), (1, .int (nI i)), (2, .int (nI (65 + t))), (3, .int 111), (4, .int b)] [] S (0, 0)
    refine q_iload_n hC 1 dX9_flag_0 rfl rfl ?_
    refine q_iconst hC dX9_flag_1 (v := 4) (by decide) rfl ?_
    refine q_callS hC (c_X9_needPlace (q_hD hC)) m_X9_needPlace lk_X9_54 dX9_flag_2 (i, 4) rfl rfl (Nat.le_of_ble_eq_true rfl) ⟨⟨by decide, by decide⟩, by decide, by decide⟩ rfl (k' := (0, 0)) rfl ⟨hi, (show (4 : Nat) < 2 ^ 31 by decide)⟩ (fun v S' hp => ?_)
    obtain ⟨rfl, rfl⟩ := hp
    show qV Γ _ _ 5 _ _ _ _
    refine q_iload_n hC 2 dX9_flag_5 rfl rfl ?_
    refine q_callS hC (c_X9_isType (q_hD hC)) m_X9_isType lk_X9_58 dX9_flag_6 (nI (65 + t)) rfl rfl (Nat.le_of_ble_eq_true rfl) ⟨⟨by decide, by decide⟩, by decide, by decide⟩ rfl (k' := (0, 0)) rfl trivial (fun v S' hp => ?_)
    obtain ⟨r6_2, rfl, rfl, rfl⟩ := hp
    show qV Γ _ _ 9 _ (.int _ :: _) _ _
    refine q_if_eq hC dX9_flag_9 (t := 34) (n := 12) (by decide) rfl (fun h9 => absurd h9 (by rw [z_isT t ht]; exact z_1n0)) (fun h9 => ?_)
    refine q_iload_n hC 3 dX9_flag_12 rfl rfl ?_
    refine q_bipush hC dX9_flag_13 (v := 111) (by decide) rfl ?_
    refine q_icmp_eq hC dX9_flag_15 (t := 30) (n := 18) (by decide) rfl (fun _ => ?_) (fun h => absurd (by decide) h)
    refine q_iconst hC dX9_flag_30 (v := 1) (by decide) rfl ?_
    refine q_goto hC dX9_flag_31 (n := 35) (by decide) ?_
    refine q_callS hC (c_X9_needRange (q_hD hC)) m_X9_needRange lk_X9_62 dX9_flag_35 1 rfl rfl (Nat.le_of_ble_eq_true rfl) ⟨⟨by decide, by decide⟩, by decide, by decide⟩ rfl (k' := (0, 0)) rfl z_1n0 (fun v S' hp => ?_)
    obtain ⟨rfl, rfl⟩ := hp
    show qV Γ _ _ 38 _ _ _ _
    refine q_aload_n hC 0 dX9_flag_38 rfl rfl ?_
    refine q_get_f hC f_X9_11 dX9_flag_39 rfl rfl (Nat.le_of_ble_eq_true rfl) rfl ?_
    refine q_iload_n hC 1 dX9_flag_42 rfl rfl ?_
    refine q_lib hC i dX9_flag_43 rfl hi rfl ?_
    refine q_astore hC dX9_flag_44 (by decide) (ls' := [(0, _), (1, _), (2, _), (3, _), (4, _), (5, _)]) rfl rfl ?_
    refine q_aload hC 5 dX9_flag_46 rfl rfl ?_
    refine q_iload_n hC 2 dX9_flag_48 rfl rfl ?_
    refine q_callS hC (c_X9_needThere (q_hD hC)) m_X9_needThere lk_X9_83 dX9_flag_49 (i, t) rfl rfl (Nat.le_of_ble_eq_true rfl) ⟨⟨by decide, by decide⟩, by decide, by decide⟩ rfl (k' := (0, 0)) rfl ⟨hi, ht, hk⟩ (fun v S' hp => ?_)
    obtain ⟨rfl, rfl⟩ := hp
    show qV Γ _ _ 52 _ _ _ _
    refine q_aload hC 5 dX9_flag_52 rfl rfl ?_
    refine q_get_f hC f_X9_66 dX9_flag_54 rfl rfl hi rfl ?_
    refine q_iload_n hC 3 dX9_flag_57 rfl rfl ?_
    refine q_callV hC (c_X2_flagsOf (q_hD hC)) m_X2_flagsOf lk_X9_87 dX9_flag_58 (i, 111, 3) rfl rfl rfl rfl rfl hi (Nat.le_of_ble_eq_true rfl) ⟨⟨by decide, by decide⟩, by decide, by decide⟩ rfl (k' := (0, 0)) rfl ⟨hi, Or.inl ⟨rfl, rfl⟩⟩ (fun v S' hp => ?_)
    obtain ⟨rfl, rfl⟩ := hp
    show qV Γ _ _ 61 _ (.ref _ :: _) _ _
    refine q_astore hC dX9_flag_61 (by decide) (ls' := [(0, _), (1, _), (2, _), (3, _), (4, _), (5, _), (6, _)]) rfl rfl ?_
    refine q_aload hC 6 dX9_flag_63 rfl rfl ?_
    refine q_iload_n hC 2 dX9_flag_65 rfl rfl ?_
    refine q_bipush hC dX9_flag_66 (v := 65) (by decide) rfl ?_
    refine q_isub hC dX9_flag_68 rfl ?_
    rw [e65]
    refine q_zald hC dX9_flag_69 rfl hi vi rfl ?_
    refine q_istore hC dX9_flag_70 (by decide) (ls' := [(0, _), (1, _), (2, _), (3, _), (4, _), (5, _), (6, _), (7, _)]) rfl rfl ?_
    refine q_aload hC 6 dX9_flag_72 rfl rfl ?_
    refine q_iload_n hC 2 dX9_flag_74 rfl rfl ?_
    refine q_bipush hC dX9_flag_75 (v := 65) (by decide) rfl ?_
    refine q_isub hC dX9_flag_77 rfl ?_
    rw [e65]
    refine q_iload hC 4 dX9_flag_78 rfl rfl ?_
    refine q_zast hC dX9_flag_80 (fun _ => rfl) hi vi rfl ?_
    refine q_aload hC 5 dX9_flag_81 rfl rfl ?_
    refine q_callV hC (c_X5_changed (q_hD hC)) m_X5_changed lk_X9_80 dX9_flag_83 (i, ()) rfl rfl rfl rfl rfl hi (Nat.le_of_ble_eq_true rfl) ⟨⟨by decide, by decide⟩, by decide, by decide⟩ rfl (k' := (0, 0)) rfl hi (fun v S' hp => ?_)
    obtain ⟨rfl, rfl⟩ := hp
    show qV Γ _ _ 86 _ _ _ _
    refine q_iload hC 7 dX9_flag_86 rfl rfl ?_
    refine q_iret hC dX9_flag_88 (by rw [ec]; exact (z_bool_f (hJ.1.2.1 t ht).1).2.1) ⟨by decide, by decide⟩ ⟨_, rfl, ?_⟩
    exact z_mu_ch (S := S) (fun k' i' hk' => by simp only [q_up]; rw [if_neg (by omega)]) (z_raw_1 3 (by decide) (by rw [ec]) ⟨fun _ => (by rw [(z_bool_f hb).2.2]; exact hb), fun h => absurd h (by decide), fun h => absurd h (by decide), fun h => absurd h (by decide)⟩ hJ.1) hJ
  · show qV Γ _ _ 0 [(0, .ref (q_ad Γ 36 0)), (1, .int (nI i)), (2, .int (nI (65 + t))), (3, .int 97), (4, .int b)] [] S (0, 0)
    refine q_iload_n hC 1 dX9_flag_0 rfl rfl ?_
    refine q_iconst hC dX9_flag_1 (v := 4) (by decide) rfl ?_
    refine q_callS hC (c_X9_needPlace (q_hD hC)) m_X9_needPlace lk_X9_54 dX9_flag_2 (i, 4) rfl rfl (Nat.le_of_ble_eq_true rfl) ⟨⟨by decide, by decide⟩, by decide, by decide⟩ rfl (k' := (0, 0)) rfl ⟨hi, (show (4 : Nat) < 2 ^ 31 by decide)⟩ (fun v S' hp => ?_)
    obtain ⟨rfl, rfl⟩ := hp
    show qV Γ _ _ 5 _ _ _ _
    refine q_iload_n hC 2 dX9_flag_5 rfl rfl ?_
    refine q_callS hC (c_X9_isType (q_hD hC)) m_X9_isType lk_X9_58 dX9_flag_6 (nI (65 + t)) rfl rfl (Nat.le_of_ble_eq_true rfl) ⟨⟨by decide, by decide⟩, by decide, by decide⟩ rfl (k' := (0, 0)) rfl trivial (fun v S' hp => ?_)
    obtain ⟨r6_2, rfl, rfl, rfl⟩ := hp
    show qV Γ _ _ 9 _ (.int _ :: _) _ _
    refine q_if_eq hC dX9_flag_9 (t := 34) (n := 12) (by decide) rfl (fun h9 => absurd h9 (by rw [z_isT t ht]; exact z_1n0)) (fun h9 => ?_)
    refine q_iload_n hC 3 dX9_flag_12 rfl rfl ?_
    refine q_bipush hC dX9_flag_13 (v := 111) (by decide) rfl ?_
    refine q_icmp_eq hC dX9_flag_15 (t := 30) (n := 18) (by decide) rfl (fun h => absurd h (by decide)) (fun _ => ?_)
    refine q_iload_n hC 3 dX9_flag_18 rfl rfl ?_
    refine q_bipush hC dX9_flag_19 (v := 97) (by decide) rfl ?_
    refine q_icmp_eq hC dX9_flag_21 (t := 30) (n := 24) (by decide) rfl (fun _ => ?_) (fun h => absurd (by decide) h)
    refine q_iconst hC dX9_flag_30 (v := 1) (by decide) rfl ?_
    refine q_goto hC dX9_flag_31 (n := 35) (by decide) ?_
    refine q_callS hC (c_X9_needRange (q_hD hC)) m_X9_needRange lk_X9_62 dX9_flag_35 1 rfl rfl (Nat.le_of_ble_eq_true rfl) ⟨⟨by decide, by decide⟩, by decide, by decide⟩ rfl (k' := (0, 0)) rfl z_1n0 (fun v S' hp => ?_)
    obtain ⟨rfl, rfl⟩ := hp
    show qV Γ _ _ 38 _ _ _ _
    refine q_aload_n hC 0 dX9_flag_38 rfl rfl ?_
    refine q_get_f hC f_X9_11 dX9_flag_39 rfl rfl (Nat.le_of_ble_eq_true rfl) rfl ?_
    refine q_iload_n hC 1 dX9_flag_42 rfl rfl ?_
    refine q_lib hC i dX9_flag_43 rfl hi rfl ?_
    refine q_astore hC dX9_flag_44 (by decide) (ls' := [(0, _), (1, _), (2, _), (3, _), (4, _), (5, _)]) rfl rfl ?_
    refine q_aload hC 5 dX9_flag_46 rfl rfl ?_
    refine q_iload_n hC 2 dX9_flag_48 rfl rfl ?_
    refine q_callS hC (c_X9_needThere (q_hD hC)) m_X9_needThere lk_X9_83 dX9_flag_49 (i, t) rfl rfl (Nat.le_of_ble_eq_true rfl) ⟨⟨by decide, by decide⟩, by decide, by decide⟩ rfl (k' := (0, 0)) rfl ⟨hi, ht, hk⟩ (fun v S' hp => ?_)
    obtain ⟨rfl, rfl⟩ := hp
    show qV Γ _ _ 52 _ _ _ _
    refine q_aload hC 5 dX9_flag_52 rfl rfl ?_
    refine q_get_f hC f_X9_66 dX9_flag_54 rfl rfl hi rfl ?_
    refine q_iload_n hC 3 dX9_flag_57 rfl rfl ?_
    refine q_callV hC (c_X2_flagsOf (q_hD hC)) m_X2_flagsOf lk_X9_87 dX9_flag_58 (i, 97, 4) rfl rfl rfl rfl rfl hi (Nat.le_of_ble_eq_true rfl) ⟨⟨by decide, by decide⟩, by decide, by decide⟩ rfl (k' := (0, 0)) rfl ⟨hi, Or.inr (Or.inl ⟨rfl, rfl⟩)⟩ (fun v S' hp => ?_)
    obtain ⟨rfl, rfl⟩ := hp
    show qV Γ _ _ 61 _ (.ref _ :: _) _ _
    refine q_astore hC dX9_flag_61 (by decide) (ls' := [(0, _), (1, _), (2, _), (3, _), (4, _), (5, _), (6, _)]) rfl rfl ?_
    refine q_aload hC 6 dX9_flag_63 rfl rfl ?_
    refine q_iload_n hC 2 dX9_flag_65 rfl rfl ?_
    refine q_bipush hC dX9_flag_66 (v := 65) (by decide) rfl ?_
    refine q_isub hC dX9_flag_68 rfl ?_
    rw [e65]
    refine q_zald hC dX9_flag_69 rfl hi vi rfl ?_
    refine q_istore hC dX9_flag_70 (by decide) (ls' := [(0, _), (1, _), (2, _), (3, _), (4, _), (5, _), (6, _), (7, _)]) rfl rfl ?_
    refine q_aload hC 6 dX9_flag_72 rfl rfl ?_
    refine q_iload_n hC 2 dX9_flag_74 rfl rfl ?_
    refine q_bipush hC dX9_flag_75 (v := 65) (by decide) rfl ?_
    refine q_isub hC dX9_flag_77 rfl ?_
    rw [e65]
    refine q_iload hC 4 dX9_flag_78 rfl rfl ?_
    refine q_zast hC dX9_flag_80 (fun _ => rfl) hi vi rfl ?_
    refine q_aload hC 5 dX9_flag_81 rfl rfl ?_
    refine q_callV hC (c_X5_changed (q_hD hC)) m_X5_changed lk_X9_80 dX9_flag_83 (i, ()) rfl rfl rfl rfl rfl hi (Nat.le_of_ble_eq_true rfl) ⟨⟨by decide, by decide⟩, by decide, by decide⟩ rfl (k' := (0, 0)) rfl hi (fun v S' hp => ?_)
    obtain ⟨rfl, rfl⟩ := hp
    show qV Γ _ _ 86 _ _ _ _
    refine q_iload hC 7 dX9_flag_86 rfl rfl ?_
    refine q_iret hC dX9_flag_88 (by rw [ec]; exact (z_bool_f (hJ.1.2.1 t ht).2.1).2.1) ⟨by decide, by decide⟩ ⟨_, rfl, ?_⟩
    exact z_mu_ch (S := S) (fun k' i' hk' => by simp only [q_up]; rw [if_neg (by omega)]) (z_raw_1 4 (by decide) (by rw [ec]) ⟨fun _ => (by rw [(z_bool_f hb).2.2]; exact hb), fun h => absurd h (by decide), fun h => absurd h (by decide), fun h => absurd h (by decide)⟩ hJ.1) hJ
  · show qV Γ _ _ 0 [(0, .ref (q_ad Γ 36 0)), (1, .int (nI i)), (2, .int (nI (65 + t))), (3, .int 102), (4, .int b)] [] S (0, 0)
    refine q_iload_n hC 1 dX9_flag_0 rfl rfl ?_
    refine q_iconst hC dX9_flag_1 (v := 4) (by decide) rfl ?_
    refine q_callS hC (c_X9_needPlace (q_hD hC)) m_X9_needPlace lk_X9_54 dX9_flag_2 (i, 4) rfl rfl (Nat.le_of_ble_eq_true rfl) ⟨⟨by decide, by decide⟩, by decide, by decide⟩ rfl (k' := (0, 0)) rfl ⟨hi, (show (4 : Nat) < 2 ^ 31 by decide)⟩ (fun v S' hp => ?_)
    obtain ⟨rfl, rfl⟩ := hp
    show qV Γ _ _ 5 _ _ _ _
    refine q_iload_n hC 2 dX9_flag_5 rfl rfl ?_
    refine q_callS hC (c_X9_isType (q_hD hC)) m_X9_isType lk_X9_58 dX9_flag_6 (nI (65 + t)) rfl rfl (Nat.le_of_ble_eq_true rfl) ⟨⟨by decide, by decide⟩, by decide, by decide⟩ rfl (k' := (0, 0)) rfl trivial (fun v S' hp => ?_)
    obtain ⟨r6_2, rfl, rfl, rfl⟩ := hp
    show qV Γ _ _ 9 _ (.int _ :: _) _ _
    refine q_if_eq hC dX9_flag_9 (t := 34) (n := 12) (by decide) rfl (fun h9 => absurd h9 (by rw [z_isT t ht]; exact z_1n0)) (fun h9 => ?_)
    refine q_iload_n hC 3 dX9_flag_12 rfl rfl ?_
    refine q_bipush hC dX9_flag_13 (v := 111) (by decide) rfl ?_
    refine q_icmp_eq hC dX9_flag_15 (t := 30) (n := 18) (by decide) rfl (fun h => absurd h (by decide)) (fun _ => ?_)
    refine q_iload_n hC 3 dX9_flag_18 rfl rfl ?_
    refine q_bipush hC dX9_flag_19 (v := 97) (by decide) rfl ?_
    refine q_icmp_eq hC dX9_flag_21 (t := 30) (n := 24) (by decide) rfl (fun h => absurd h (by decide)) (fun _ => ?_)
    refine q_iload_n hC 3 dX9_flag_24 rfl rfl ?_
    refine q_bipush hC dX9_flag_25 (v := 102) (by decide) rfl ?_
    refine q_icmp_ne hC dX9_flag_27 (t := 34) (n := 30) (by decide) rfl (fun h => absurd h (by decide)) (fun _ => ?_)
    refine q_iconst hC dX9_flag_30 (v := 1) (by decide) rfl ?_
    refine q_goto hC dX9_flag_31 (n := 35) (by decide) ?_
    refine q_callS hC (c_X9_needRange (q_hD hC)) m_X9_needRange lk_X9_62 dX9_flag_35 1 rfl rfl (Nat.le_of_ble_eq_true rfl) ⟨⟨by decide, by decide⟩, by decide, by decide⟩ rfl (k' := (0, 0)) rfl z_1n0 (fun v S' hp => ?_)
    obtain ⟨rfl, rfl⟩ := hp
    show qV Γ _ _ 38 _ _ _ _
    refine q_aload_n hC 0 dX9_flag_38 rfl rfl ?_
    refine q_get_f hC f_X9_11 dX9_flag_39 rfl rfl (Nat.le_of_ble_eq_true rfl) rfl ?_
    refine q_iload_n hC 1 dX9_flag_42 rfl rfl ?_
    refine q_lib hC i dX9_flag_43 rfl hi rfl ?_
    refine q_astore hC dX9_flag_44 (by decide) (ls' := [(0, _), (1, _), (2, _), (3, _), (4, _), (5, _)]) rfl rfl ?_
    refine q_aload hC 5 dX9_flag_46 rfl rfl ?_
    refine q_iload_n hC 2 dX9_flag_48 rfl rfl ?_
    refine q_callS hC (c_X9_needThere (q_hD hC)) m_X9_needThere lk_X9_83 dX9_flag_49 (i, t) rfl rfl (Nat.le_of_ble_eq_true rfl) ⟨⟨by decide, by decide⟩, by decide, by decide⟩ rfl (k' := (0, 0)) rfl ⟨hi, ht, hk⟩ (fun v S' hp => ?_)
    obtain ⟨rfl, rfl⟩ := hp
    show qV Γ _ _ 52 _ _ _ _
    refine q_aload hC 5 dX9_flag_52 rfl rfl ?_
    refine q_get_f hC f_X9_66 dX9_flag_54 rfl rfl hi rfl ?_
    refine q_iload_n hC 3 dX9_flag_57 rfl rfl ?_
    refine q_callV hC (c_X2_flagsOf (q_hD hC)) m_X2_flagsOf lk_X9_87 dX9_flag_58 (i, 102, 5) rfl rfl rfl rfl rfl hi (Nat.le_of_ble_eq_true rfl) ⟨⟨by decide, by decide⟩, by decide, by decide⟩ rfl (k' := (0, 0)) rfl ⟨hi, Or.inr (Or.inr ⟨rfl, rfl⟩)⟩ (fun v S' hp => ?_)
    obtain ⟨rfl, rfl⟩ := hp
    show qV Γ _ _ 61 _ (.ref _ :: _) _ _
    refine q_astore hC dX9_flag_61 (by decide) (ls' := [(0, _), (1, _), (2, _), (3, _), (4, _), (5, _), (6, _)]) rfl rfl ?_
    refine q_aload hC 6 dX9_flag_63 rfl rfl ?_
    refine q_iload_n hC 2 dX9_flag_65 rfl rfl ?_
    refine q_bipush hC dX9_flag_66 (v := 65) (by decide) rfl ?_
    refine q_isub hC dX9_flag_68 rfl ?_
    rw [e65]
    refine q_zald hC dX9_flag_69 rfl hi vi rfl ?_
    refine q_istore hC dX9_flag_70 (by decide) (ls' := [(0, _), (1, _), (2, _), (3, _), (4, _), (5, _), (6, _), (7, _)]) rfl rfl ?_
    refine q_aload hC 6 dX9_flag_72 rfl rfl ?_
    refine q_iload_n hC 2 dX9_flag_74 rfl rfl ?_
    refine q_bipush hC dX9_flag_75 (v := 65) (by decide) rfl ?_
    refine q_isub hC dX9_flag_77 rfl ?_
    rw [e65]
    refine q_iload hC 4 dX9_flag_78 rfl rfl ?_
    refine q_zast hC dX9_flag_80 (fun _ => rfl) hi vi rfl ?_
    refine q_aload hC 5 dX9_flag_81 rfl rfl ?_
    refine q_callV hC (c_X5_changed (q_hD hC)) m_X5_changed lk_X9_80 dX9_flag_83 (i, ()) rfl rfl rfl rfl rfl hi (Nat.le_of_ble_eq_true rfl) ⟨⟨by decide, by decide⟩, by decide, by decide⟩ rfl (k' := (0, 0)) rfl hi (fun v S' hp => ?_)
    obtain ⟨rfl, rfl⟩ := hp
    show qV Γ _ _ 86 _ _ _ _
    refine q_iload hC 7 dX9_flag_86 rfl rfl ?_
    refine q_iret hC dX9_flag_88 (by rw [ec]; exact (z_bool_f (hJ.1.2.1 t ht).2.2).2.1) ⟨by decide, by decide⟩ ⟨_, rfl, ?_⟩
    exact z_mu_ch (S := S) (fun k' i' hk' => by simp only [q_up]; rw [if_neg (by omega)]) (z_raw_1 5 (by decide) (by rw [ec]) ⟨fun _ => (by rw [(z_bool_f hb).2.2]; exact hb), fun h => absurd h (by decide), fun h => absurd h (by decide), fun h => absurd h (by decide)⟩ hJ.1) hJ
abbrev rmx_X9_flag : Room := { frames := 8, cells := 1, slots := 6, locals := 131 }
set_option maxHeartbeats 4000000 in
set_option maxRecDepth 100000 in
theorem x_X9_flag {L : qL} (hD : q_D L.2.2.2.1) (hl : L.1.stackTraces = false) : qCX L yX9_flag cX9_flag 8 (some .boolean) rmx_X9_flag (fun ad _ (x : Nat × Nat × Int32 × Int32) => [.ref (ad 36 0), .int (nI x.1), .int (nI (65 + x.2.1)), .int x.2.2.1, .int x.2.2.2]) (fun x S => x.1 < 4 ∧ x.2.1 < 5 ∧ (x.2.2.1 = 111 ∨ x.2.2.1 = 97 ∨ x.2.2.1 = 102) ∧ z_bool x.2.2.2 ∧ z_J S x.1 ∧ S 2 x.1 x.2.1 = 45) q_nsee (fun _ S S' => S' = S) := by
  refine q_metX hD (by decide) (fun _ => Nat.le_of_ble_eq_true rfl) (fun Γ x S hΓ hpre hC hX => ?_)
  subst hΓ
  obtain ⟨i, t, w, b⟩ := x
  obtain ⟨hi, ht, hw, hb, hJ, hk⟩ := hpre
  have hi : i < 4 := hi
  have ht : t < 5 := ht
  have hw : w = 111 ∨ w = 97 ∨ w = 102 := hw
  have hb : z_bool b := hb
  have hJ : z_J S i := hJ
  have e65 := z_m65 t ht
  have ec : (nI t).toNatClampNeg = t := nI_clamp (by omega)
  have vi : vp_in (nI t) 5 := vp_in_nI ht (by decide)
  have hk : S 2 i t = 45 := hk
  rcases hw with rfl | rfl | rfl
  · show qV Γ _ _ 0 [(0, .ref (q_ad Γ 36 0)), (1, .int (nI i)), (2, .int (nI (65 + t))), (3, .int 111), (4, .int b)] [] S (0, 0)
    refine q_iload_n hC 1 dX9_flag_0 rfl rfl ?_
    refine q_iconst hC dX9_flag_1 (v := 4) (by decide) rfl ?_
    refine q_callS hC (c_X9_needPlace (q_hD hC)) m_X9_needPlace lk_X9_54 dX9_flag_2 (i, 4) rfl rfl (Nat.le_of_ble_eq_true rfl) ⟨⟨by decide, by decide⟩, by decide, by decide⟩ rfl (k' := (0, 0)) rfl ⟨hi, (show (4 : Nat) < 2 ^ 31 by decide)⟩ (fun v S' hp => ?_)
    obtain ⟨rfl, rfl⟩ := hp
    show qV Γ _ _ 5 _ _ _ _
    refine q_iload_n hC 2 dX9_flag_5 rfl rfl ?_
    refine q_callS hC (c_X9_isType (q_hD hC)) m_X9_isType lk_X9_58 dX9_flag_6 (nI (65 + t)) rfl rfl (Nat.le_of_ble_eq_true rfl) ⟨⟨by decide, by decide⟩, by decide, by decide⟩ rfl (k' := (0, 0)) rfl trivial (fun v S' hp => ?_)
    obtain ⟨r6_2, rfl, rfl, rfl⟩ := hp
    show qV Γ _ _ 9 _ (.int _ :: _) _ _
    refine q_if_eq hC dX9_flag_9 (t := 34) (n := 12) (by decide) rfl (fun h9 => absurd h9 (by rw [z_isT t ht]; exact z_1n0)) (fun h9 => ?_)
    refine q_iload_n hC 3 dX9_flag_12 rfl rfl ?_
    refine q_bipush hC dX9_flag_13 (v := 111) (by decide) rfl ?_
    refine q_icmp_eq hC dX9_flag_15 (t := 30) (n := 18) (by decide) rfl (fun _ => ?_) (fun h => absurd (by decide) h)
    refine q_iconst hC dX9_flag_30 (v := 1) (by decide) rfl ?_
    refine q_goto hC dX9_flag_31 (n := 35) (by decide) ?_
    refine q_callS hC (c_X9_needRange (q_hD hC)) m_X9_needRange lk_X9_62 dX9_flag_35 1 rfl rfl (Nat.le_of_ble_eq_true rfl) ⟨⟨by decide, by decide⟩, by decide, by decide⟩ rfl (k' := (0, 0)) rfl z_1n0 (fun v S' hp => ?_)
    obtain ⟨rfl, rfl⟩ := hp
    show qV Γ _ _ 38 _ _ _ _
    refine q_aload_n hC 0 dX9_flag_38 rfl rfl ?_
    refine q_get_f hC f_X9_11 dX9_flag_39 rfl rfl (Nat.le_of_ble_eq_true rfl) rfl ?_
    refine q_iload_n hC 1 dX9_flag_42 rfl rfl ?_
    refine q_lib hC i dX9_flag_43 rfl hi rfl ?_
    refine q_astore hC dX9_flag_44 (by decide) (ls' := [(0, _), (1, _), (2, _), (3, _), (4, _), (5, _)]) rfl rfl ?_
    refine q_aload hC 5 dX9_flag_46 rfl rfl ?_
    refine q_iload_n hC 2 dX9_flag_48 rfl rfl ?_
    exact q_xS hC hX (x_X9_needThere (q_hD hC) hl) m_X9_needThere lk_X9_83 dX9_flag_49 (i, t) rfl rfl (Nat.le_of_ble_eq_true rfl) ⟨⟨by decide, by decide⟩, by decide, by decide⟩ ⟨hi, ht, hk⟩ (fun _ h => h)
  · show qV Γ _ _ 0 [(0, .ref (q_ad Γ 36 0)), (1, .int (nI i)), (2, .int (nI (65 + t))), (3, .int 97), (4, .int b)] [] S (0, 0)
    refine q_iload_n hC 1 dX9_flag_0 rfl rfl ?_
    refine q_iconst hC dX9_flag_1 (v := 4) (by decide) rfl ?_
    refine q_callS hC (c_X9_needPlace (q_hD hC)) m_X9_needPlace lk_X9_54 dX9_flag_2 (i, 4) rfl rfl (Nat.le_of_ble_eq_true rfl) ⟨⟨by decide, by decide⟩, by decide, by decide⟩ rfl (k' := (0, 0)) rfl ⟨hi, (show (4 : Nat) < 2 ^ 31 by decide)⟩ (fun v S' hp => ?_)
    obtain ⟨rfl, rfl⟩ := hp
    show qV Γ _ _ 5 _ _ _ _
    refine q_iload_n hC 2 dX9_flag_5 rfl rfl ?_
    refine q_callS hC (c_X9_isType (q_hD hC)) m_X9_isType lk_X9_58 dX9_flag_6 (nI (65 + t)) rfl rfl (Nat.le_of_ble_eq_true rfl) ⟨⟨by decide, by decide⟩, by decide, by decide⟩ rfl (k' := (0, 0)) rfl trivial (fun v S' hp => ?_)
    obtain ⟨r6_2, rfl, rfl, rfl⟩ := hp
    show qV Γ _ _ 9 _ (.int _ :: _) _ _
    refine q_if_eq hC dX9_flag_9 (t := 34) (n := 12) (by decide) rfl (fun h9 => absurd h9 (by rw [z_isT t ht]; exact z_1n0)) (fun h9 => ?_)
    refine q_iload_n hC 3 dX9_flag_12 rfl rfl ?_
    refine q_bipush hC dX9_flag_13 (v := 111) (by decide) rfl ?_
    refine q_icmp_eq hC dX9_flag_15 (t := 30) (n := 18) (by decide) rfl (fun h => absurd h (by decide)) (fun _ => ?_)
    refine q_iload_n hC 3 dX9_flag_18 rfl rfl ?_
    refine q_bipush hC dX9_flag_19 (v := 97) (by decide) rfl ?_
    refine q_icmp_eq hC dX9_flag_21 (t := 30) (n := 24) (by decide) rfl (fun _ => ?_) (fun h => absurd (by decide) h)
    refine q_iconst hC dX9_flag_30 (v := 1) (by decide) rfl ?_
    refine q_goto hC dX9_flag_31 (n := 35) (by decide) ?_
    refine q_callS hC (c_X9_needRange (q_hD hC)) m_X9_needRange lk_X9_62 dX9_flag_35 1 rfl rfl (Nat.le_of_ble_eq_true rfl) ⟨⟨by decide, by decide⟩, by decide, by decide⟩ rfl (k' := (0, 0)) rfl z_1n0 (fun v S' hp => ?_)
    obtain ⟨rfl, rfl⟩ := hp
    show qV Γ _ _ 38 _ _ _ _
    refine q_aload_n hC 0 dX9_flag_38 rfl rfl ?_
    refine q_get_f hC f_X9_11 dX9_flag_39 rfl rfl (Nat.le_of_ble_eq_true rfl) rfl ?_
    refine q_iload_n hC 1 dX9_flag_42 rfl rfl ?_
    refine q_lib hC i dX9_flag_43 rfl hi rfl ?_
    refine q_astore hC dX9_flag_44 (by decide) (ls' := [(0, _), (1, _), (2, _), (3, _), (4, _), (5, _)]) rfl rfl ?_
    refine q_aload hC 5 dX9_flag_46 rfl rfl ?_
    refine q_iload_n hC 2 dX9_flag_48 rfl rfl ?_
    exact q_xS hC hX (x_X9_needThere (q_hD hC) hl) m_X9_needThere lk_X9_83 dX9_flag_49 (i, t) rfl rfl (Nat.le_of_ble_eq_true rfl) ⟨⟨by decide, by decide⟩, by decide, by decide⟩ ⟨hi, ht, hk⟩ (fun _ h => h)
  · show qV Γ _ _ 0 [(0, .ref (q_ad Γ 36 0)), (1, .int (nI i)), (2, .int (nI (65 + t))), (3, .int 102), (4, .int b)] [] S (0, 0)
    refine q_iload_n hC 1 dX9_flag_0 rfl rfl ?_
    refine q_iconst hC dX9_flag_1 (v := 4) (by decide) rfl ?_
    refine q_callS hC (c_X9_needPlace (q_hD hC)) m_X9_needPlace lk_X9_54 dX9_flag_2 (i, 4) rfl rfl (Nat.le_of_ble_eq_true rfl) ⟨⟨by decide, by decide⟩, by decide, by decide⟩ rfl (k' := (0, 0)) rfl ⟨hi, (show (4 : Nat) < 2 ^ 31 by decide)⟩ (fun v S' hp => ?_)
    obtain ⟨rfl, rfl⟩ := hp
    show qV Γ _ _ 5 _ _ _ _
    refine q_iload_n hC 2 dX9_flag_5 rfl rfl ?_
    refine q_callS hC (c_X9_isType (q_hD hC)) m_X9_isType lk_X9_58 dX9_flag_6 (nI (65 + t)) rfl rfl (Nat.le_of_ble_eq_true rfl) ⟨⟨by decide, by decide⟩, by decide, by decide⟩ rfl (k' := (0, 0)) rfl trivial (fun v S' hp => ?_)
    obtain ⟨r6_2, rfl, rfl, rfl⟩ := hp
    show qV Γ _ _ 9 _ (.int _ :: _) _ _
    refine q_if_eq hC dX9_flag_9 (t := 34) (n := 12) (by decide) rfl (fun h9 => absurd h9 (by rw [z_isT t ht]; exact z_1n0)) (fun h9 => ?_)
    refine q_iload_n hC 3 dX9_flag_12 rfl rfl ?_
    refine q_bipush hC dX9_flag_13 (v := 111) (by decide) rfl ?_
    refine q_icmp_eq hC dX9_flag_15 (t := 30) (n := 18) (by decide) rfl (fun h => absurd h (by decide)) (fun _ => ?_)
    refine q_iload_n hC 3 dX9_flag_18 rfl rfl ?_
    refine q_bipush hC dX9_flag_19 (v := 97) (by decide) rfl ?_
    refine q_icmp_eq hC dX9_flag_21 (t := 30) (n := 24) (by decide) rfl (fun h => absurd h (by decide)) (fun _ => ?_)
    refine q_iload_n hC 3 dX9_flag_24 rfl rfl ?_
    refine q_bipush hC dX9_flag_25 (v := 102) (by decide) rfl ?_
    refine q_icmp_ne hC dX9_flag_27 (t := 34) (n := 30) (by decide) rfl (fun h => absurd h (by decide)) (fun _ => ?_)
    refine q_iconst hC dX9_flag_30 (v := 1) (by decide) rfl ?_
    refine q_goto hC dX9_flag_31 (n := 35) (by decide) ?_
    refine q_callS hC (c_X9_needRange (q_hD hC)) m_X9_needRange lk_X9_62 dX9_flag_35 1 rfl rfl (Nat.le_of_ble_eq_true rfl) ⟨⟨by decide, by decide⟩, by decide, by decide⟩ rfl (k' := (0, 0)) rfl z_1n0 (fun v S' hp => ?_)
    obtain ⟨rfl, rfl⟩ := hp
    show qV Γ _ _ 38 _ _ _ _
    refine q_aload_n hC 0 dX9_flag_38 rfl rfl ?_
    refine q_get_f hC f_X9_11 dX9_flag_39 rfl rfl (Nat.le_of_ble_eq_true rfl) rfl ?_
    refine q_iload_n hC 1 dX9_flag_42 rfl rfl ?_
    refine q_lib hC i dX9_flag_43 rfl hi rfl ?_
    refine q_astore hC dX9_flag_44 (by decide) (ls' := [(0, _), (1, _), (2, _), (3, _), (4, _), (5, _)]) rfl rfl ?_
    refine q_aload hC 5 dX9_flag_46 rfl rfl ?_
    refine q_iload_n hC 2 dX9_flag_48 rfl rfl ?_
    exact q_xS hC hX (x_X9_needThere (q_hD hC) hl) m_X9_needThere lk_X9_83 dX9_flag_49 (i, t) rfl rfl (Nat.le_of_ble_eq_true rfl) ⟨⟨by decide, by decide⟩, by decide, by decide⟩ ⟨hi, ht, hk⟩ (fun _ h => h)
