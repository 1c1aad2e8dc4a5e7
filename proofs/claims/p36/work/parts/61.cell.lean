-- printed by wip/p36/gen_m2.py
abbrev rm_L_cell : Room := { frames := 0, cells := 0, slots := 0, locals := 0 }
set_option maxHeartbeats 4000000 in
set_option maxRecDepth 100000 in
theorem c_L_cell {L : qL} (hD : q_D L.2.2.2.1) (hs : L.2.2.2.2.1.2.1 ≤ 260) : qCT L yL_cell cL_cell 7 (some .int) rm_L_cell (fun _ o (x : Nat × Unit) => [.ref o.1.1, .int (nI x.1)]) (fun x _ => x.1 < 2 ^ 31) (qPi (fun x S r S' => S = S')) := by
  refine q_met hD (by decide) (fun _ => Nat.le_of_ble_eq_true rfl) (fun Γ x S hΓ hpre hC => ?_)
  subst hΓ
  obtain ⟨k, u⟩ := x
  have hk : k < 2 ^ 31 := hpre
  have hs : (q_o Γ).1.2.1 ≤ 260 := hs
  have L1 : ∀ (n m : Nat) (w : Int32), m + n = (q_o Γ).1.2.1 → qV Γ rm_L_cell 7 19 [(0, .ref (q_o Γ).1.1), (1, .int (nI k)), (2, .int w), (3, .ref (q_o Γ).1.1), (4, .int (nI (q_o Γ).1.2.1)), (5, .int (nI m))] [] S (0, 0) := by
    intro n
    induction n with
    | zero =>
      intro m w hmn
      obtain rfl : m = (q_o Γ).1.2.1 := by omega
      refine q_iload hC 5 dL_cell_19 rfl rfl ?_
      refine q_iload hC 4 dL_cell_21 rfl rfl ?_
      refine q_icmp_ge hC dL_cell_23 (t := 49) (n := 26) (by decide) rfl (fun h23 => ?_) (fun h23 => absurd (Int32.le_refl _) h23)
      refine q_iload_n hC 2 dL_cell_49 rfl rfl ?_
      refine q_bipush hC dL_cell_50 (v := 7) (by decide) rfl ?_
      refine q_iushr hC dL_cell_52 rfl ?_
      refine q_iconst hC dL_cell_53 (v := 3) (by decide) rfl ?_
      refine q_iand hC dL_cell_54 rfl ?_
      refine q_if_ne hC dL_cell_55 (t := 79) (n := 58) (by decide) rfl (fun h55 => ?_) (fun h55 => ?_)
      · refine q_iload_n hC 2 dL_cell_79 rfl rfl ?_
        refine q_ldc hC dL_cell_80 cn_L_8 rfl ?_
        refine q_iload_n hC 1 dL_cell_82 rfl rfl ?_
        refine q_sipush hC dL_cell_83 (v := 1009) (by decide) rfl ?_
        refine q_iadd hC dL_cell_86 rfl ?_
        refine q_imul hC dL_cell_87 rfl ?_
        refine q_ixor hC dL_cell_88 rfl ?_
        refine q_istore_n hC dL_cell_89 (by decide) (ls' := [(0, _), (1, _), (2, _), (3, _), (4, _), (5, _)]) rfl rfl ?_
        refine q_iload_n hC 3 dL_cell_90 rfl rfl ?_
        refine q_iload_n hC 3 dL_cell_91 rfl rfl ?_
        refine q_bipush hC dL_cell_92 (v := 13) (by decide) rfl ?_
        refine q_iushr hC dL_cell_94 rfl ?_
        refine q_ixor hC dL_cell_95 rfl ?_
        refine q_ldc hC dL_cell_96 cn_L_9 rfl ?_
        refine q_imul hC dL_cell_98 rfl ?_
        refine q_istore_n hC dL_cell_99 (by decide) (ls' := [(0, _), (1, _), (2, _), (3, _), (4, _), (5, _)]) rfl rfl ?_
        refine q_iload_n hC 3 dL_cell_100 rfl rfl ?_
        refine q_iload_n hC 3 dL_cell_101 rfl rfl ?_
        refine q_bipush hC dL_cell_102 (v := 16) (by decide) rfl ?_
        refine q_iushr hC dL_cell_104 rfl ?_
        refine q_ixor hC dL_cell_105 rfl ?_
        refine q_iret hC dL_cell_106 rfl ⟨by decide, by decide⟩ ⟨_, rfl, ?_⟩
        exact rfl
      · refine q_iload_n hC 1 dL_cell_58 rfl rfl ?_
        refine q_aload_n hC 0 dL_cell_59 rfl rfl ?_
        refine q_slen hC dL_cell_60 rfl ?_
        refine q_icmp_ge hC dL_cell_61 (t := 70) (n := 64) (by decide) rfl (fun h61 => ?_) (fun h61 => ?_)
        · refine q_sipush hC dL_cell_70 (v := 7919) (by decide) rfl ?_
          refine q_iload_n hC 1 dL_cell_73 rfl rfl ?_
          refine q_imul hC dL_cell_74 rfl ?_
          refine q_bipush hC dL_cell_75 (v := 12) (by decide) rfl ?_
          refine q_iadd hC dL_cell_77 rfl ?_
          refine q_iret hC dL_cell_78 rfl ⟨by decide, by decide⟩ ⟨_, rfl, ?_⟩
          exact rfl
        · have hlt : k < (q_o Γ).1.2.1 := by
            rcases Nat.lt_or_ge k (q_o Γ).1.2.1 with e | e
            · exact e
            · exact absurd (nI_le e hk) h61
          refine q_aload_n hC 0 dL_cell_64 rfl rfl ?_
          refine q_iload_n hC 1 dL_cell_65 rfl rfl ?_
          refine q_sald hC dL_cell_66 (vp_in_nI hlt (by omega)) rfl ?_
          refine q_goto hC dL_cell_67 (n := 78) (by decide) ?_
          refine q_iret hC dL_cell_78 rfl ⟨by decide, by decide⟩ ⟨_, rfl, ?_⟩
          exact rfl
    | succ n ih =>
      intro m w hmn
      have hm : m < (q_o Γ).1.2.1 := by omega
      refine q_iload hC 5 dL_cell_19 rfl rfl ?_
      refine q_iload hC 4 dL_cell_21 rfl rfl ?_
      refine q_icmp_ge hC dL_cell_23 (t := 49) (n := 26) (by decide) rfl (fun h23 => absurd h23 (nI_ge hm (by omega))) (fun h23 => ?_)
      refine q_aload_n hC 3 dL_cell_26 rfl rfl ?_
      refine q_iload hC 5 dL_cell_27 rfl rfl ?_
      refine q_sald hC dL_cell_29 (vp_in_nI hm (by omega)) rfl ?_
      refine q_istore hC dL_cell_30 (by decide) (ls' := [(0, _), (1, _), (2, _), (3, _), (4, _), (5, _), (6, _)]) rfl rfl ?_
      refine q_iload_n hC 2 dL_cell_32 rfl rfl ?_
      refine q_iload hC 6 dL_cell_33 rfl rfl ?_
      refine q_ixor hC dL_cell_35 rfl ?_
      refine q_ldc hC dL_cell_36 cn_L_7 rfl ?_
      refine q_imul hC dL_cell_38 rfl ?_
      refine q_bipush hC dL_cell_39 (v := 7) (by decide) rfl ?_
      refine q_iadd hC dL_cell_41 rfl ?_
      refine q_istore_n hC dL_cell_42 (by decide) (ls' := [(0, _), (1, _), (2, _), (3, _), (4, _), (5, _), (6, _)]) rfl rfl ?_
      refine q_iinc hC 5 dL_cell_43 rfl (v := nI (m + 1)) (z_inc m) (by decide) (ls' := [(0, _), (1, _), (2, _), (3, _), (4, _), (5, _), (6, _)]) rfl rfl ?_
      refine q_goto hC dL_cell_46 (n := 19) (by decide) ?_
      refine q_locp [0, 1, 2, 3, 4, 5] (ls' := [(0, _), (1, _), (2, _), (3, _), (4, _), (5, _)]) rfl ?_
      exact ih (m + 1) _ (by omega)
  show qV Γ _ _ 0 [(0, .ref (q_o Γ).1.1), (1, .int (nI k))] [] S (0, 0)
  refine q_sipush hC dL_cell_0 (v := 12345) (by decide) rfl ?_
  refine q_bipush hC dL_cell_3 (v := 31) (by decide) rfl ?_
  refine q_aload_n hC 0 dL_cell_5 rfl rfl ?_
  refine q_slen hC dL_cell_6 rfl ?_
  refine q_imul hC dL_cell_7 rfl ?_
  refine q_iadd hC dL_cell_8 rfl ?_
  refine q_istore_n hC dL_cell_9 (by decide) (ls' := [(0, _), (1, _), (2, _)]) rfl rfl ?_
  refine q_aload_n hC 0 dL_cell_10 rfl rfl ?_
  refine q_astore_n hC dL_cell_11 (by decide) (ls' := [(0, _), (1, _), (2, _), (3, _)]) rfl rfl ?_
  refine q_aload_n hC 3 dL_cell_12 rfl rfl ?_
  refine q_slen hC dL_cell_13 rfl ?_
  refine q_istore hC dL_cell_14 (by decide) (ls' := [(0, _), (1, _), (2, _), (3, _), (4, _)]) rfl rfl ?_
  refine q_iconst hC dL_cell_16 (v := 0) (by decide) rfl ?_
  refine q_istore hC dL_cell_17 (by decide) (ls' := [(0, _), (1, _), (2, _), (3, _), (4, _), (5, _)]) rfl rfl ?_
  exact L1 (q_o Γ).1.2.1 0 _ (by omega)
theorem z_chosen {v : Int32} {n : Nat} (h1 : 1 ≤ n) (hn : n < 2 ^ 31) : ∃ j, j < n ∧ (v &&& 2147483647) - (v &&& 2147483647) / nI n * nI n = nI j := by
  obtain ⟨j, hj, e⟩ := pk_andE v (m := 2147483647) 31 (by decide)
  rw [e]
  exact ⟨j % n, Nat.mod_lt _ (by omega), pk_rem hj (by omega) hn⟩
abbrev rm_L_chosen : Room := { frames := 0, cells := 0, slots := 0, locals := 0 }
set_option maxHeartbeats 4000000 in
set_option maxRecDepth 100000 in
theorem c_L_chosen {L : qL} (hD : q_D L.2.2.2.1) : qCT L yL_chosen cL_chosen 2 (some .int) rm_L_chosen (fun _ _ (x : Int32 × Nat) => [.int x.1, .int (nI x.2)]) (fun x _ => 1 ≤ x.2 ∧ x.2 < 2 ^ 31) (qPi (fun x S r S' => z_lt r x.2 ∧ S = S')) := by
  refine q_met hD (by decide) (fun _ => Nat.le_of_ble_eq_true rfl) (fun Γ x S hΓ hpre hC => ?_)
  subst hΓ
  obtain ⟨v, n⟩ := x
  obtain ⟨h1, hn⟩ := hpre
  have h1 : 1 ≤ n := h1
  have hn : n < 2 ^ 31 := hn
  have hn0 : ¬ nI n = (0 : Int32) := by
    intro e
    have h9 := congrArg Int32.toNatClampNeg e
    rw [nI_clamp hn] at h9
    have : (0 : Int32).toNatClampNeg = 0 := rfl
    omega
  show qV Γ _ _ 0 [(0, .int v), (1, .int (nI n))] [] S (0, 0)
  refine q_iload_n hC 0 dL_chosen_0 rfl rfl ?_
  refine q_ldc hC dL_chosen_1 cn_L_10 rfl ?_
  refine q_iand hC dL_chosen_3 rfl ?_
  refine q_iload_n hC 1 dL_chosen_4 rfl rfl ?_
  refine q_irem hC dL_chosen_5 hn0 rfl ?_
  refine q_iret hC dL_chosen_6 rfl ⟨by decide, by decide⟩ ⟨_, rfl, ?_⟩
  obtain ⟨j, hj, e⟩ := z_chosen (v := v) h1 hn
  exact ⟨⟨j, hj, e⟩, rfl⟩
