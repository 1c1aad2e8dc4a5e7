-- printed by wip/p36/gen_n2.py
abbrev rm_X2_init : Room := { frames := 2, cells := 15, slots := 221, locals := 41 }
def po_X2 (cy : Nat → ClassId) (h : Nat) (ws : va_W) : Prop := ∃ (q6 q13 q20 q27 q34 q41 q48 q54 q65 : Nat) (w1 w2 : va_W) (f g : Nat → Int32), po_X6 cy q54 w1 ∧ po_X6 cy q65 w2 ∧ (∀ j, j < 5 → f j = 45) ∧ (∀ j, j < 5 → g j = -1) ∧ ws = [(h, .inr (1, [.ref q6, .ref q13, .ref q20, .ref q27, .ref q34, .ref q41, .ref q48, .ref q54, .ref q65])), (q6, .inl (cy 1, 5, .inl f)), (q13, .inl (cy 2, 5, .inl (fun _ => 0))), (q20, .inl (cy 2, 5, .inl (fun _ => 0))), (q27, .inl (cy 2, 5, .inl (fun _ => 0))), (q34, .inl (cy 1, 5, .inl (fun _ => 0))), (q41, .inl (cy 0, 5, .inl g)), (q48, .inl (cy 0, 5, .inl (fun _ => 0)))] ++ w1 ++ w2
set_option maxHeartbeats 4000000 in
set_option maxRecDepth 100000 in
theorem c_X2_init (L : qL) : nCT L yX2_init cX2_init 2 rm_X2_init (.inr (1, [.null, .null, .null, .null, .null, .null, .null, .null, .null])) (po_X2 L.2.2.1) := by
  refine n_met (by decide) rfl (by decide) (fun Γ A h hΓ hC => ?_)
  subst hΓ
  have L1 : ∀ (q6 q13 q20 q27 q34 q41 q48 q54 q65 : Nat) (w1 w2 : va_W), po_X6 Γ.1.2.2.1 q54 w1 → po_X6 Γ.1.2.2.1 q65 w2 → ∀ (n m : Nat) (f g : Nat → Int32), m + n = 5 → (∀ j, j < m → f j = 45) → (∀ j, j < m → g j = -1) → nV Γ A rm_X2_init 2 77 [(0, .ref h), (1, .int (nI m))] [] ([(h, .inr (1, [.ref q6, .ref q13, .ref q20, .ref q27, .ref q34, .ref q41, .ref q48, .ref q54, .ref q65])), (q6, .inl (Γ.1.2.2.1 1, 5, .inl f)), (q13, .inl (Γ.1.2.2.1 2, 5, .inl (fun _ => 0))), (q20, .inl (Γ.1.2.2.1 2, 5, .inl (fun _ => 0))), (q27, .inl (Γ.1.2.2.1 2, 5, .inl (fun _ => 0))), (q34, .inl (Γ.1.2.2.1 1, 5, .inl (fun _ => 0))), (q41, .inl (Γ.1.2.2.1 0, 5, .inl g)), (q48, .inl (Γ.1.2.2.1 0, 5, .inl (fun _ => 0)))] ++ w1 ++ w2) (15, 221) := by
    intro q6 q13 q20 q27 q34 q41 q48 q54 q65 w1 w2 hw1 hw2 n
    induction n with
    | zero =>
      intro m f g hmn hf hg
      obtain rfl : m = 5 := by omega
      refine n_iload_n hC 1 dX2_init_77 rfl rfl ?_
      refine n_iconst hC dX2_init_78 (v := 5) (by decide) rfl ?_
      refine n_icmp_ge hC dX2_init_79 (t := 103) (n := 82) (by decide) rfl (fun _ => ?_) (fun h79 => absurd (Int32.le_refl _) h79)
      refine n_vret hC dX2_init_103 ⟨by decide, by decide⟩ ?_
      exact ⟨q6, q13, q20, q27, q34, q41, q48, q54, q65, w1, w2, f, g, hw1, hw2, hf, hg, rfl⟩
    | succ n ih =>
      intro m f g hmn hf hg
      have hm : m < 5 := by omega
      refine n_iload_n hC 1 dX2_init_77 rfl rfl ?_
      refine n_iconst hC dX2_init_78 (v := 5) (by decide) rfl ?_
      refine n_icmp_ge hC dX2_init_79 (t := 103) (n := 82) (by decide) rfl (fun h79 => absurd h79 (nI_ge hm (by decide))) (fun _ => ?_)
      refine n_aload_n hC 0 dX2_init_82 rfl rfl ?_
      refine n_get hC 0 f_X2_9 dX2_init_83 rfl rfl rfl ?_
      refine n_iload_n hC 1 dX2_init_86 rfl rfl ?_
      refine n_bipush hC dX2_init_87 (v := 45) (by decide) rfl ?_
      refine n_cast hC 1 dX2_init_89 rfl (vp_in_nI hm (by decide)) (ws' := [(h, .inr (1, [.ref q6, .ref q13, .ref q20, .ref q27, .ref q34, .ref q41, .ref q48, .ref q54, .ref q65])), (q6, .inl (Γ.1.2.2.1 1, 5, .inl (upd f (nI m).toNatClampNeg (vp_nar .char 45)))), (q13, .inl (Γ.1.2.2.1 2, 5, .inl (fun _ => 0))), (q20, .inl (Γ.1.2.2.1 2, 5, .inl (fun _ => 0))), (q27, .inl (Γ.1.2.2.1 2, 5, .inl (fun _ => 0))), (q34, .inl (Γ.1.2.2.1 1, 5, .inl (fun _ => 0))), (q41, .inl (Γ.1.2.2.1 0, 5, .inl g)), (q48, .inl (Γ.1.2.2.1 0, 5, .inl (fun _ => 0)))] ++ w1 ++ w2) rfl rfl ?_
      refine n_aload_n hC 0 dX2_init_90 rfl rfl ?_
      refine n_get hC 0 f_X2_28 dX2_init_91 rfl rfl rfl ?_
      refine n_iload_n hC 1 dX2_init_94 rfl rfl ?_
      refine n_iconst hC dX2_init_95 (v := (-1)) (by decide) rfl ?_
      refine n_iast hC 6 dX2_init_96 rfl (vp_in_nI hm (by decide)) (ws' := [(h, .inr (1, [.ref q6, .ref q13, .ref q20, .ref q27, .ref q34, .ref q41, .ref q48, .ref q54, .ref q65])), (q6, .inl (Γ.1.2.2.1 1, 5, .inl (upd f (nI m).toNatClampNeg (vp_nar .char 45)))), (q13, .inl (Γ.1.2.2.1 2, 5, .inl (fun _ => 0))), (q20, .inl (Γ.1.2.2.1 2, 5, .inl (fun _ => 0))), (q27, .inl (Γ.1.2.2.1 2, 5, .inl (fun _ => 0))), (q34, .inl (Γ.1.2.2.1 1, 5, .inl (fun _ => 0))), (q41, .inl (Γ.1.2.2.1 0, 5, .inl (upd g (nI m).toNatClampNeg (-1)))), (q48, .inl (Γ.1.2.2.1 0, 5, .inl (fun _ => 0)))] ++ w1 ++ w2) rfl rfl ?_
      refine n_iinc hC 1 dX2_init_97 rfl (v := nI (m + 1)) (z_inc m) (by decide) (ls' := [(0, _), (1, _)]) rfl rfl ?_
      refine n_goto hC dX2_init_100 (n := 77) (by decide) ?_
      exact ih (m + 1) _ _ (by omega) (n_fill hf rfl (by omega)) (n_fill hg rfl (by omega))
  refine n_aload_n hC 0 dX2_init_0 rfl rfl ?_
  refine n_obj hC dX2_init_1 ol_X2 oi_i oi_c (Nat.le_of_ble_eq_true rfl) ⟨by decide, by decide⟩ rfl ?_
  refine n_aload_n hC 0 dX2_init_4 rfl rfl ?_
  refine n_iconst hC dX2_init_5 (v := 5) (by decide) rfl ?_
  refine n_newC (N := 5) hC dX2_init_6 ac_char (by decide) (by decide) (by decide) ⟨by decide, by decide⟩ (k' := (1, 5)) rfl rfl (fun q6 => ?_)
  refine n_putF hC 0 np_X2_9 dX2_init_8 rfl (Nat.le_of_ble_eq_true rfl) rfl rfl (ws' := [(h, .inr (1, [.ref q6, .null, .null, .null, .null, .null, .null, .null, .null])), (q6, .inl (Γ.1.2.2.1 1, 5, .inl (fun _ => 0)))]) rfl rfl ?_
  refine n_aload_n hC 0 dX2_init_11 rfl rfl ?_
  refine n_iconst hC dX2_init_12 (v := 5) (by decide) rfl ?_
  refine n_newZ (N := 5) hC dX2_init_13 ac_boolean (by decide) (by decide) (by decide) ⟨by decide, by decide⟩ (k' := (2, 10)) rfl rfl (fun q13 => ?_)
  refine n_putF hC 0 np_X2_15 dX2_init_15 rfl (Nat.le_of_ble_eq_true rfl) rfl rfl (ws' := [(h, .inr (1, [.ref q6, .ref q13, .null, .null, .null, .null, .null, .null, .null])), (q6, .inl (Γ.1.2.2.1 1, 5, .inl (fun _ => 0))), (q13, .inl (Γ.1.2.2.1 2, 5, .inl (fun _ => 0)))]) rfl rfl ?_
  refine n_aload_n hC 0 dX2_init_18 rfl rfl ?_
  refine n_iconst hC dX2_init_19 (v := 5) (by decide) rfl ?_
  refine n_newZ (N := 5) hC dX2_init_20 ac_boolean (by decide) (by decide) (by decide) ⟨by decide, by decide⟩ (k' := (3, 15)) rfl rfl (fun q20 => ?_)
  refine n_putF hC 0 np_X2_19 dX2_init_22 rfl (Nat.le_of_ble_eq_true rfl) rfl rfl (ws' := [(h, .inr (1, [.ref q6, .ref q13, .ref q20, .null, .null, .null, .null, .null, .null])), (q6, .inl (Γ.1.2.2.1 1, 5, .inl (fun _ => 0))), (q13, .inl (Γ.1.2.2.1 2, 5, .inl (fun _ => 0))), (q20, .inl (Γ.1.2.2.1 2, 5, .inl (fun _ => 0)))]) rfl rfl ?_
  refine n_aload_n hC 0 dX2_init_25 rfl rfl ?_
  refine n_iconst hC dX2_init_26 (v := 5) (by decide) rfl ?_
  refine n_newZ (N := 5) hC dX2_init_27 ac_boolean (by decide) (by decide) (by decide) ⟨by decide, by decide⟩ (k' := (4, 20)) rfl rfl (fun q27 => ?_)
  refine n_putF hC 0 np_X2_22 dX2_init_29 rfl (Nat.le_of_ble_eq_true rfl) rfl rfl (ws' := [(h, .inr (1, [.ref q6, .ref q13, .ref q20, .ref q27, .null, .null, .null, .null, .null])), (q6, .inl (Γ.1.2.2.1 1, 5, .inl (fun _ => 0))), (q13, .inl (Γ.1.2.2.1 2, 5, .inl (fun _ => 0))), (q20, .inl (Γ.1.2.2.1 2, 5, .inl (fun _ => 0))), (q27, .inl (Γ.1.2.2.1 2, 5, .inl (fun _ => 0)))]) rfl rfl ?_
  refine n_aload_n hC 0 dX2_init_32 rfl rfl ?_
  refine n_iconst hC dX2_init_33 (v := 5) (by decide) rfl ?_
  refine n_newC (N := 5) hC dX2_init_34 ac_char (by decide) (by decide) (by decide) ⟨by decide, by decide⟩ (k' := (5, 25)) rfl rfl (fun q34 => ?_)
  refine n_putF hC 0 np_X2_25 dX2_init_36 rfl (Nat.le_of_ble_eq_true rfl) rfl rfl (ws' := [(h, .inr (1, [.ref q6, .ref q13, .ref q20, .ref q27, .ref q34, .null, .null, .null, .null])), (q6, .inl (Γ.1.2.2.1 1, 5, .inl (fun _ => 0))), (q13, .inl (Γ.1.2.2.1 2, 5, .inl (fun _ => 0))), (q20, .inl (Γ.1.2.2.1 2, 5, .inl (fun _ => 0))), (q27, .inl (Γ.1.2.2.1 2, 5, .inl (fun _ => 0))), (q34, .inl (Γ.1.2.2.1 1, 5, .inl (fun _ => 0)))]) rfl rfl ?_
  refine n_aload_n hC 0 dX2_init_39 rfl rfl ?_
  refine n_iconst hC dX2_init_40 (v := 5) (by decide) rfl ?_
  refine n_newI (N := 5) hC dX2_init_41 ac_int (by decide) (by decide) (by decide) ⟨by decide, by decide⟩ (k' := (6, 30)) rfl rfl (fun q41 => ?_)
  refine n_putF hC 0 np_X2_28 dX2_init_43 rfl (Nat.le_of_ble_eq_true rfl) rfl rfl (ws' := [(h, .inr (1, [.ref q6, .ref q13, .ref q20, .ref q27, .ref q34, .ref q41, .null, .null, .null])), (q6, .inl (Γ.1.2.2.1 1, 5, .inl (fun _ => 0))), (q13, .inl (Γ.1.2.2.1 2, 5, .inl (fun _ => 0))), (q20, .inl (Γ.1.2.2.1 2, 5, .inl (fun _ => 0))), (q27, .inl (Γ.1.2.2.1 2, 5, .inl (fun _ => 0))), (q34, .inl (Γ.1.2.2.1 1, 5, .inl (fun _ => 0))), (q41, .inl (Γ.1.2.2.1 0, 5, .inl (fun _ => 0)))]) rfl rfl ?_
  refine n_aload_n hC 0 dX2_init_46 rfl rfl ?_
  refine n_iconst hC dX2_init_47 (v := 5) (by decide) rfl ?_
  refine n_newI (N := 5) hC dX2_init_48 ac_int (by decide) (by decide) (by decide) ⟨by decide, by decide⟩ (k' := (7, 35)) rfl rfl (fun q48 => ?_)
  refine n_putF hC 0 np_X2_32 dX2_init_50 rfl (Nat.le_of_ble_eq_true rfl) rfl rfl (ws' := [(h, .inr (1, [.ref q6, .ref q13, .ref q20, .ref q27, .ref q34, .ref q41, .ref q48, .null, .null])), (q6, .inl (Γ.1.2.2.1 1, 5, .inl (fun _ => 0))), (q13, .inl (Γ.1.2.2.1 2, 5, .inl (fun _ => 0))), (q20, .inl (Γ.1.2.2.1 2, 5, .inl (fun _ => 0))), (q27, .inl (Γ.1.2.2.1 2, 5, .inl (fun _ => 0))), (q34, .inl (Γ.1.2.2.1 1, 5, .inl (fun _ => 0))), (q41, .inl (Γ.1.2.2.1 0, 5, .inl (fun _ => 0))), (q48, .inl (Γ.1.2.2.1 0, 5, .inl (fun _ => 0)))]) rfl rfl ?_
  refine n_aload_n hC 0 dX2_init_53 rfl rfl ?_
  refine n_new (ci := 5) (N := 3) (C := RX6) (T := TX6) (fs := [.null, .null, .null]) hC dX2_init_54 rfl in_X6 tyX6 tyX6_ok cw_X2_35 ins_X6 ini_X6 nfs_X6 ⟨by decide, by decide⟩ (k' := (8, 38)) rfl rfl (fun q54 => ?_)
  refine n_dup hC dX2_init_57 rfl rfl ?_
  refine n_call hC (c_X6_init Γ.1) mi_X6_init lk_X2_37 dX2_init_58 (Nat.le_of_ble_eq_true rfl) ⟨⟨by decide, by decide⟩, by decide, by decide⟩ rfl (k' := (11, 128)) rfl (fun w1 hw1 => ?_)
  refine n_putF hC 0 np_X2_38 dX2_init_61 rfl (Nat.le_of_ble_eq_true rfl) rfl rfl (ws' := [(h, .inr (1, [.ref q6, .ref q13, .ref q20, .ref q27, .ref q34, .ref q41, .ref q48, .ref q54, .null])), (q6, .inl (Γ.1.2.2.1 1, 5, .inl (fun _ => 0))), (q13, .inl (Γ.1.2.2.1 2, 5, .inl (fun _ => 0))), (q20, .inl (Γ.1.2.2.1 2, 5, .inl (fun _ => 0))), (q27, .inl (Γ.1.2.2.1 2, 5, .inl (fun _ => 0))), (q34, .inl (Γ.1.2.2.1 1, 5, .inl (fun _ => 0))), (q41, .inl (Γ.1.2.2.1 0, 5, .inl (fun _ => 0))), (q48, .inl (Γ.1.2.2.1 0, 5, .inl (fun _ => 0)))] ++ w1) rfl rfl ?_
  refine n_aload_n hC 0 dX2_init_64 rfl rfl ?_
  refine n_new (ci := 5) (N := 3) (C := RX6) (T := TX6) (fs := [.null, .null, .null]) hC dX2_init_65 rfl in_X6 tyX6 tyX6_ok cw_X2_35 ins_X6 ini_X6 nfs_X6 ⟨by decide, by decide⟩ (k' := (12, 131)) rfl rfl (fun q65 => ?_)
  refine n_dup hC dX2_init_68 rfl rfl ?_
  refine n_call hC (c_X6_init Γ.1) mi_X6_init lk_X2_37 dX2_init_69 (Nat.le_of_ble_eq_true rfl) ⟨⟨by decide, by decide⟩, by decide, by decide⟩ rfl (k' := (15, 221)) rfl (fun w2 hw2 => ?_)
  refine n_putF hC 0 np_X2_42 dX2_init_72 rfl (Nat.le_of_ble_eq_true rfl) rfl rfl (ws' := [(h, .inr (1, [.ref q6, .ref q13, .ref q20, .ref q27, .ref q34, .ref q41, .ref q48, .ref q54, .ref q65])), (q6, .inl (Γ.1.2.2.1 1, 5, .inl (fun _ => 0))), (q13, .inl (Γ.1.2.2.1 2, 5, .inl (fun _ => 0))), (q20, .inl (Γ.1.2.2.1 2, 5, .inl (fun _ => 0))), (q27, .inl (Γ.1.2.2.1 2, 5, .inl (fun _ => 0))), (q34, .inl (Γ.1.2.2.1 1, 5, .inl (fun _ => 0))), (q41, .inl (Γ.1.2.2.1 0, 5, .inl (fun _ => 0))), (q48, .inl (Γ.1.2.2.1 0, 5, .inl (fun _ => 0)))] ++ w1 ++ w2) rfl rfl ?_
  refine n_iconst hC dX2_init_75 (v := 0) (by decide) rfl ?_
  refine n_istore_n hC dX2_init_76 (by decide) (ls' := [(0, _), (1, _)]) rfl rfl ?_
  exact L1 q6 q13 q20 q27 q34 q41 q48 q54 q65 w1 w2 hw1 hw2 5 0 _ _ rfl (fun j hj => absurd hj (Nat.not_lt_zero _)) (fun j hj => absurd hj (Nat.not_lt_zero _))
abbrev rm_X0_init : Room := { frames := 2, cells := 5, slots := 36, locals := 40 }
def po_X0 (cy : Nat → ClassId) (h : Nat) (ws : va_W) : Prop := ∃ (q5 q23 q31 q39 q47 : Nat) (w1 : va_W), po_X7 cy q5 w1 ∧ ws = [(h, .inr (0, [.ref q5, .int 0, .ref q23, .ref q31, .ref q39, .ref q47]))] ++ w1 ++ [(q23, .inl (cy 0, 8, .inl (fun _ => 0)))] ++ [(q31, .inl (cy 0, 8, .inl (fun _ => 0)))] ++ [(q39, .inl (cy 0, 8, .inl (fun _ => 0)))] ++ [(q47, .inl (cy 0, 8, .inl (fun _ => 0)))]
set_option maxHeartbeats 4000000 in
set_option maxRecDepth 100000 in
theorem c_X0_init (L : qL) : nCT L yX0_init cX0_init 1 rm_X0_init (.inr (0, [.null, .int 0, .null, .null, .null, .null])) (po_X0 L.2.2.1) := by
  refine n_met (by decide) rfl (by decide) (fun Γ A h hΓ hC => ?_)
  subst hΓ
  refine n_aload_n hC 0 dX0_init_0 rfl rfl ?_
  refine n_obj hC dX0_init_1 ol_X0 oi_i oi_c (Nat.le_of_ble_eq_true rfl) ⟨by decide, by decide⟩ rfl ?_
  refine n_aload_n hC 0 dX0_init_4 rfl rfl ?_
  refine n_new (ci := 6) (N := 4) (C := RX7) (T := TX7) (fs := [.int 0, .int 0, .int 0, .int 0]) hC dX0_init_5 rfl in_X7 tyX7 tyX7_ok cw_X0_9 ins_X7 ini_X7 nfs_X7 ⟨by decide, by decide⟩ (k' := (1, 4)) rfl rfl (fun q5 => ?_)
  refine n_dup hC dX0_init_8 rfl rfl ?_
  refine n_callN hC (c_X7_init Γ.1) mi_X7_init ln_X0_11 dX0_init_9 (Nat.le_of_ble_eq_true rfl) ⟨⟨by decide, by decide⟩, by decide, by decide⟩ rfl (k' := (1, 4)) rfl (fun w1 hw1 => ?_)
  refine n_putF hC 0 np_X0_12 dX0_init_12 rfl (Nat.le_of_ble_eq_true rfl) rfl rfl (ws' := [(h, .inr (0, [.ref q5, .int 0, .null, .null, .null, .null]))] ++ w1) rfl rfl ?_
  refine n_aload_n hC 0 dX0_init_15 rfl rfl ?_
  refine n_iconst hC dX0_init_16 (v := 0) (by decide) rfl ?_
  refine n_putN hC 0 np_X0_18 dX0_init_17 rfl (Nat.le_of_ble_eq_true rfl) rfl rfl (ws' := [(h, .inr (0, [.ref q5, .int 0, .null, .null, .null, .null]))] ++ w1) rfl rfl ?_
  refine n_aload_n hC 0 dX0_init_20 rfl rfl ?_
  refine n_bipush hC dX0_init_21 (v := 8) (by decide) rfl ?_
  refine n_newI (N := 8) hC dX0_init_23 ac_int (by decide) (by decide) (by decide) ⟨by decide, by decide⟩ (k' := (2, 12)) rfl rfl (fun q23 => ?_)
  refine n_putF hC 0 np_X0_22 dX0_init_25 rfl (Nat.le_of_ble_eq_true rfl) rfl rfl (ws' := [(h, .inr (0, [.ref q5, .int 0, .ref q23, .null, .null, .null]))] ++ w1 ++ [(q23, .inl (Γ.1.2.2.1 0, 8, .inl (fun _ => 0)))]) rfl rfl ?_
  refine n_aload_n hC 0 dX0_init_28 rfl rfl ?_
  refine n_bipush hC dX0_init_29 (v := 8) (by decide) rfl ?_
  refine n_newI (N := 8) hC dX0_init_31 ac_int (by decide) (by decide) (by decide) ⟨by decide, by decide⟩ (k' := (3, 20)) rfl rfl (fun q31 => ?_)
  refine n_putF hC 0 np_X0_26 dX0_init_33 rfl (Nat.le_of_ble_eq_true rfl) rfl rfl (ws' := [(h, .inr (0, [.ref q5, .int 0, .ref q23, .ref q31, .null, .null]))] ++ w1 ++ [(q23, .inl (Γ.1.2.2.1 0, 8, .inl (fun _ => 0)))] ++ [(q31, .inl (Γ.1.2.2.1 0, 8, .inl (fun _ => 0)))]) rfl rfl ?_
  refine n_aload_n hC 0 dX0_init_36 rfl rfl ?_
  refine n_bipush hC dX0_init_37 (v := 8) (by decide) rfl ?_
  refine n_newI (N := 8) hC dX0_init_39 ac_int (by decide) (by decide) (by decide) ⟨by decide, by decide⟩ (k' := (4, 28)) rfl rfl (fun q39 => ?_)
  refine n_putF hC 0 np_X0_29 dX0_init_41 rfl (Nat.le_of_ble_eq_true rfl) rfl rfl (ws' := [(h, .inr (0, [.ref q5, .int 0, .ref q23, .ref q31, .ref q39, .null]))] ++ w1 ++ [(q23, .inl (Γ.1.2.2.1 0, 8, .inl (fun _ => 0)))] ++ [(q31, .inl (Γ.1.2.2.1 0, 8, .inl (fun _ => 0)))] ++ [(q39, .inl (Γ.1.2.2.1 0, 8, .inl (fun _ => 0)))]) rfl rfl ?_
  refine n_aload_n hC 0 dX0_init_44 rfl rfl ?_
  refine n_bipush hC dX0_init_45 (v := 8) (by decide) rfl ?_
  refine n_newI (N := 8) hC dX0_init_47 ac_int (by decide) (by decide) (by decide) ⟨by decide, by decide⟩ (k' := (5, 36)) rfl rfl (fun q47 => ?_)
  refine n_putF hC 0 np_X0_32 dX0_init_49 rfl (Nat.le_of_ble_eq_true rfl) rfl rfl (ws' := [(h, .inr (0, [.ref q5, .int 0, .ref q23, .ref q31, .ref q39, .ref q47]))] ++ w1 ++ [(q23, .inl (Γ.1.2.2.1 0, 8, .inl (fun _ => 0)))] ++ [(q31, .inl (Γ.1.2.2.1 0, 8, .inl (fun _ => 0)))] ++ [(q39, .inl (Γ.1.2.2.1 0, 8, .inl (fun _ => 0)))] ++ [(q47, .inl (Γ.1.2.2.1 0, 8, .inl (fun _ => 0)))]) rfl rfl ?_
  refine n_vret hC dX0_init_52 ⟨by decide, by decide⟩ ?_
  exact ⟨q5, q23, q31, q39, q47, w1, hw1, rfl⟩
abbrev rm_X5_init : Room := { frames := 3, cells := 26, slots := 451, locals := 62 }
def po_X5 (cy : Nat → ClassId) (h : Nat) (ws : va_W) : Prop := ∃ (q5 q16 : Nat) (w1 w2 : va_W), po_X2 cy q5 w1 ∧ po_X3 cy q16 w2 ∧ ws = [(h, .inr (4, [.ref q5, .ref q16, .int 0, .int (-1), .int 0, .int (-1)]))] ++ w1 ++ w2
set_option maxHeartbeats 4000000 in
set_option maxRecDepth 100000 in
theorem c_X5_init (L : qL) : nCT L yX5_init cX5_init 1 rm_X5_init (.inr (4, [.null, .null, .int 0, .int 0, .int 0, .int 0])) (po_X5 L.2.2.1) := by
  refine n_met (by decide) rfl (by decide) (fun Γ A h hΓ hC => ?_)
  subst hΓ
  refine n_aload_n hC 0 dX5_init_0 rfl rfl ?_
  refine n_obj hC dX5_init_1 ol_X5 oi_i oi_c (Nat.le_of_ble_eq_true rfl) ⟨by decide, by decide⟩ rfl ?_
  refine n_aload_n hC 0 dX5_init_4 rfl rfl ?_
  refine n_new (ci := 1) (N := 9) (C := RX2) (T := TX2) (fs := [.null, .null, .null, .null, .null, .null, .null, .null, .null]) hC dX5_init_5 rfl in_X2 tyX2 tyX2_ok cw_X5_9 ins_X2 ini_X2 nfs_X2 ⟨by decide, by decide⟩ (k' := (1, 9)) rfl rfl (fun q5 => ?_)
  refine n_dup hC dX5_init_8 rfl rfl ?_
  refine n_call hC (c_X2_init Γ.1) mi_X2_init lk_X5_11 dX5_init_9 (Nat.le_of_ble_eq_true rfl) ⟨⟨by decide, by decide⟩, by decide, by decide⟩ rfl (k' := (16, 230)) rfl (fun w1 hw1 => ?_)
  refine n_putF hC 0 np_X5_12 dX5_init_12 rfl (Nat.le_of_ble_eq_true rfl) rfl rfl (ws' := [(h, .inr (4, [.ref q5, .null, .int 0, .int 0, .int 0, .int 0]))] ++ w1) rfl rfl ?_
  refine n_aload_n hC 0 dX5_init_15 rfl rfl ?_
  refine n_new (ci := 2) (N := 14) (C := RX3) (T := TX3) (fs := [.int 0, .int 0, .null, .null, .null, .null, .null, .null, .null, .null, .int 0, .int 0, .int 0, .null]) hC dX5_init_16 rfl in_X3 tyX3 tyX3_ok cw_X5_18 ins_X3 ini_X3 nfs_X3 ⟨by decide, by decide⟩ (k' := (17, 244)) rfl rfl (fun q16 => ?_)
  refine n_dup hC dX5_init_19 rfl rfl ?_
  refine n_callN hC (c_X3_init Γ.1) mi_X3_init ln_X5_20 dX5_init_20 (Nat.le_of_ble_eq_true rfl) ⟨⟨by decide, by decide⟩, by decide, by decide⟩ rfl (k' := (26, 451)) rfl (fun w2 hw2 => ?_)
  refine n_putF hC 0 np_X5_21 dX5_init_23 rfl (Nat.le_of_ble_eq_true rfl) rfl rfl (ws' := [(h, .inr (4, [.ref q5, .ref q16, .int 0, .int 0, .int 0, .int 0]))] ++ w1 ++ w2) rfl rfl ?_
  refine n_aload_n hC 0 dX5_init_26 rfl rfl ?_
  refine n_iconst hC dX5_init_27 (v := 0) (by decide) rfl ?_
  refine n_putN hC 0 np_X5_25 dX5_init_28 rfl (Nat.le_of_ble_eq_true rfl) rfl rfl (ws' := [(h, .inr (4, [.ref q5, .ref q16, .int 0, .int 0, .int 0, .int 0]))] ++ w1 ++ w2) rfl rfl ?_
  refine n_aload_n hC 0 dX5_init_31 rfl rfl ?_
  refine n_iconst hC dX5_init_32 (v := (-1)) (by decide) rfl ?_
  refine n_putN hC 0 np_X5_29 dX5_init_33 rfl (Nat.le_of_ble_eq_true rfl) rfl rfl (ws' := [(h, .inr (4, [.ref q5, .ref q16, .int 0, .int (-1), .int 0, .int 0]))] ++ w1 ++ w2) rfl rfl ?_
  refine n_aload_n hC 0 dX5_init_36 rfl rfl ?_
  refine n_iconst hC dX5_init_37 (v := 0) (by decide) rfl ?_
  refine n_putN hC 0 np_X5_33 dX5_init_38 rfl (Nat.le_of_ble_eq_true rfl) rfl rfl (ws' := [(h, .inr (4, [.ref q5, .ref q16, .int 0, .int (-1), .int 0, .int 0]))] ++ w1 ++ w2) rfl rfl ?_
  refine n_aload_n hC 0 dX5_init_41 rfl rfl ?_
  refine n_iconst hC dX5_init_42 (v := (-1)) (by decide) rfl ?_
  refine n_putN hC 0 np_X5_36 dX5_init_43 rfl (Nat.le_of_ble_eq_true rfl) rfl rfl (ws' := [(h, .inr (4, [.ref q5, .ref q16, .int 0, .int (-1), .int 0, .int (-1)]))] ++ w1 ++ w2) rfl rfl ?_
  refine n_vret hC dX5_init_46 ⟨by decide, by decide⟩ ?_
  exact ⟨q5, q16, w1, w2, hw1, hw2, rfl⟩
abbrev rm_X4_init : Room := { frames := 3, cells := 7, slots := 46, locals := 60 }
def po_X4 (cy : Nat → ClassId) (h : Nat) (ws : va_W) : Prop := ∃ (q5 q16 : Nat) (w1 w2 : va_W), po_X0 cy q5 w1 ∧ po_X7 cy q16 w2 ∧ ws = [(h, .inr (3, [.ref q5, .ref q16, .null, .null, .int 1048576]))] ++ w1 ++ w2
set_option maxHeartbeats 4000000 in
set_option maxRecDepth 100000 in
theorem c_X4_init (L : qL) : nCT L yX4_init cX4_init 1 rm_X4_init (.inr (3, [.null, .null, .null, .null, .int 0])) (po_X4 L.2.2.1) := by
  refine n_met (by decide) rfl (by decide) (fun Γ A h hΓ hC => ?_)
  subst hΓ
  refine n_aload_n hC 0 dX4_init_0 rfl rfl ?_
  refine n_obj hC dX4_init_1 ol_X4 oi_i oi_c (Nat.le_of_ble_eq_true rfl) ⟨by decide, by decide⟩ rfl ?_
  refine n_aload_n hC 0 dX4_init_4 rfl rfl ?_
  refine n_new (ci := 0) (N := 6) (C := RX0) (T := TX0) (fs := [.null, .int 0, .null, .null, .null, .null]) hC dX4_init_5 rfl in_X0 tyX0 tyX0_ok cw_X4_9 ins_X0 ini_X0 nfs_X0 ⟨by decide, by decide⟩ (k' := (1, 6)) rfl rfl (fun q5 => ?_)
  refine n_dup hC dX4_init_8 rfl rfl ?_
  refine n_callN hC (c_X0_init Γ.1) mi_X0_init ln_X4_11 dX4_init_9 (Nat.le_of_ble_eq_true rfl) ⟨⟨by decide, by decide⟩, by decide, by decide⟩ rfl (k' := (6, 42)) rfl (fun w1 hw1 => ?_)
  refine n_putF hC 0 np_X4_12 dX4_init_12 rfl (Nat.le_of_ble_eq_true rfl) rfl rfl (ws' := [(h, .inr (3, [.ref q5, .null, .null, .null, .int 0]))] ++ w1) rfl rfl ?_
  refine n_aload_n hC 0 dX4_init_15 rfl rfl ?_
  refine n_new (ci := 6) (N := 4) (C := RX7) (T := TX7) (fs := [.int 0, .int 0, .int 0, .int 0]) hC dX4_init_16 rfl in_X7 tyX7 tyX7_ok cw_X4_18 ins_X7 ini_X7 nfs_X7 ⟨by decide, by decide⟩ (k' := (7, 46)) rfl rfl (fun q16 => ?_)
  refine n_dup hC dX4_init_19 rfl rfl ?_
  refine n_callN hC (c_X7_init Γ.1) mi_X7_init ln_X4_20 dX4_init_20 (Nat.le_of_ble_eq_true rfl) ⟨⟨by decide, by decide⟩, by decide, by decide⟩ rfl (k' := (7, 46)) rfl (fun w2 hw2 => ?_)
  refine n_putF hC 0 np_X4_21 dX4_init_23 rfl (Nat.le_of_ble_eq_true rfl) rfl rfl (ws' := [(h, .inr (3, [.ref q5, .ref q16, .null, .null, .int 0]))] ++ w1 ++ w2) rfl rfl ?_
  refine n_aload_n hC 0 dX4_init_26 rfl rfl ?_
  refine n_anull hC dX4_init_27 rfl ?_
  refine n_putN hC 0 np_X4_25 dX4_init_28 rfl (Nat.le_of_ble_eq_true rfl) rfl rfl (ws' := [(h, .inr (3, [.ref q5, .ref q16, .null, .null, .int 0]))] ++ w1 ++ w2) rfl rfl ?_
  refine n_aload_n hC 0 dX4_init_31 rfl rfl ?_
  refine n_anull hC dX4_init_32 rfl ?_
  refine n_putN hC 0 np_X4_29 dX4_init_33 rfl (Nat.le_of_ble_eq_true rfl) rfl rfl (ws' := [(h, .inr (3, [.ref q5, .ref q16, .null, .null, .int 0]))] ++ w1 ++ w2) rfl rfl ?_
  refine n_aload_n hC 0 dX4_init_36 rfl rfl ?_
  refine n_ldc hC dX4_init_37 cn_X4_32 rfl ?_
  refine n_putN hC 0 np_X4_33 dX4_init_39 rfl (Nat.le_of_ble_eq_true rfl) rfl rfl (ws' := [(h, .inr (3, [.ref q5, .ref q16, .null, .null, .int 1048576]))] ++ w1 ++ w2) rfl rfl ?_
  refine n_vret hC dX4_init_42 ⟨by decide, by decide⟩ ?_
  exact ⟨q5, q16, w1, w2, hw1, hw2, rfl⟩
