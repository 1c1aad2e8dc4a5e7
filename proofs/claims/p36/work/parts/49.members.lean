-- printed by wip/p36/gen_m2.py
abbrev rm_X9_method : Room := { frames := 2, cells := 0, slots := 0, locals := 43 }
set_option maxHeartbeats 4000000 in
set_option maxRecDepth 100000 in
theorem c_X9_method {L : qL} (hD : q_D L.2.2.2.1) : qCT L yX9_method cX9_method 9 (some .char) rm_X9_method (fun ad _ (x : Nat × Nat × Nat × Nat × Int32 × Int32 × Nat) => [.ref (ad 36 0), .int (nI x.1), .int (nI (65 + x.2.1)), .int (nI (97 + x.2.2.1)), .int (nI x.2.2.2.1), .int x.2.2.2.2.1, .int x.2.2.2.2.2.1, .int (nI x.2.2.2.2.2.2)]) (fun x S => x.1 < 4 ∧ x.2.1 < 5 ∧ x.2.2.1 < 3 ∧ x.2.2.2.1 < 2 ∧ (x.2.2.2.2.1 = 45 ∨ z_sg4 x.2.2.2.2.1) ∧ z_mk4 x.2.2.2.2.2.1 ∧ x.2.2.2.2.2.2 < 100 ∧ z_J S x.1 ∧ ¬ S 2 x.1 x.2.1 = 45) (qPi (fun x S r S' => z_mu S S' x.1)) := by
  refine q_met hD (by decide) (fun _ => Nat.le_of_ble_eq_true rfl) (fun Γ x S hΓ hpre hC => ?_)
  subst hΓ
  obtain ⟨i, t, a, b, sg, kd, n⟩ := x
  obtain ⟨hi, ht, ha, hb, hsg, hkd, hn, hJ, hk⟩ := hpre
  have hi : i < 4 := hi
  have ht : t < 5 := ht
  have ha : a < 3 := ha
  have hb : b < 2 := hb
  have hsg : sg = 45 ∨ z_sg4 sg := hsg
  have hkd : z_mk4 kd := hkd
  have hn : n < 100 := hn
  have hJ : z_J S i := hJ
  have e65 := z_m65 t ht
  have ec : (nI t).toNatClampNeg = t := nI_clamp (by omega)
  have vi : vp_in (nI t) 5 := vp_in_nI ht (by decide)
  have hsc : z_chr sg := hsg.elim (fun e => by rw [e]; exact z_c45) z_sg4_c
  have hkc : z_chr kd := z_mk4_c hkd
  have hp30 : t * 6 + a * 2 + b < 30 := by omega
  have hk : ¬ S 2 i t = 45 := hk
  have J72 : qV Γ rm_X9_method 9 72 [(0, .ref (q_ad Γ 36 0)), (1, .int (nI i)), (2, .int (nI (65 + t))), (3, .int (nI (97 + a))), (4, .int (nI b)), (5, .int sg), (6, .int kd), (7, .int (nI n))] [] S (0, 0) := by
    refine q_iload hC 7 dX9_method_72 rfl rfl ?_
    refine q_if_lt hC dX9_method_74 (t := 88) (n := 77) (by decide) rfl (fun h74 => absurd h74 (nI_pos (by omega))) (fun h74 => ?_)
    refine q_iload hC 7 dX9_method_77 rfl rfl ?_
    refine q_bipush hC dX9_method_79 (v := 99) (by decide) rfl ?_
    refine q_icmp_gt hC dX9_method_81 (t := 88) (n := 84) (by decide) rfl (fun h81 => absurd h81 (z_99 n hn)) (fun h81 => ?_)
    refine q_iconst hC dX9_method_84 (v := 1) (by decide) rfl ?_
    refine q_goto hC dX9_method_85 (n := 89) (by decide) ?_
    refine q_callS hC (c_X9_needRange (q_hD hC)) m_X9_needRange lk_X9_62 dX9_method_89 1 rfl rfl (Nat.le_of_ble_eq_true rfl) ⟨⟨by decide, by decide⟩, by decide, by decide⟩ rfl (k' := (0, 0)) rfl z_1n0 (fun v S' hp => ?_)
    obtain ⟨rfl, rfl⟩ := hp
    show qV Γ _ _ 92 _ _ _ _
    refine q_aload_n hC 0 dX9_method_92 rfl rfl ?_
    refine q_get_f hC f_X9_11 dX9_method_93 rfl rfl (Nat.le_of_ble_eq_true rfl) rfl ?_
    refine q_iload_n hC 1 dX9_method_96 rfl rfl ?_
    refine q_lib hC i dX9_method_97 rfl hi rfl ?_
    refine q_astore hC dX9_method_98 (by decide) (ls' := [(0, _), (1, _), (2, _), (3, _), (4, _), (5, _), (6, _), (7, _), (8, _)]) rfl rfl ?_
    refine q_aload hC 8 dX9_method_100 rfl rfl ?_
    refine q_iload_n hC 2 dX9_method_102 rfl rfl ?_
    refine q_callS hC (c_X9_needThere (q_hD hC)) m_X9_needThere lk_X9_83 dX9_method_103 (i, t) rfl rfl (Nat.le_of_ble_eq_true rfl) ⟨⟨by decide, by decide⟩, by decide, by decide⟩ rfl (k' := (0, 0)) rfl ⟨hi, ht, hk⟩ (fun v S' hp => ?_)
    obtain ⟨rfl, rfl⟩ := hp
    show qV Γ _ _ 106 _ _ _ _
    refine q_aload hC 8 dX9_method_106 rfl rfl ?_
    refine q_callV hC (c_X5_changed (q_hD hC)) m_X5_changed lk_X9_80 dX9_method_108 (i, ()) rfl rfl rfl rfl rfl hi (Nat.le_of_ble_eq_true rfl) ⟨⟨by decide, by decide⟩, by decide, by decide⟩ rfl (k' := (0, 0)) rfl hi (fun v S' hp => ?_)
    obtain ⟨rfl, rfl⟩ := hp
    show qV Γ _ _ 111 _ _ _ _
    refine q_aload hC 8 dX9_method_111 rfl rfl ?_
    refine q_get_f hC f_X9_66 dX9_method_113 rfl rfl hi rfl ?_
    refine q_get_f hC f_X9_119 dX9_method_116 rfl rfl hi rfl ?_
    refine q_iload_n hC 2 dX9_method_119 rfl rfl ?_
    refine q_iload_n hC 3 dX9_method_120 rfl rfl ?_
    refine q_iload hC 4 dX9_method_121 rfl rfl ?_
    refine q_callS hC (c_X9_memberPlace (q_hD hC)) m_X9_memberPlace lk_X9_123 dX9_method_123 (t, a, b) rfl rfl (Nat.le_of_ble_eq_true rfl) ⟨⟨by decide, by decide⟩, by decide, by decide⟩ rfl (k' := (0, 0)) rfl ⟨ht, ha, hb⟩ (fun v S' hp => ?_)
    obtain ⟨r123_4, rfl, rfl, rfl⟩ := hp
    show qV Γ _ _ 126 _ (.int _ :: _) _ _
    refine q_iload hC 5 dX9_method_126 rfl rfl ?_
    refine q_iload hC 6 dX9_method_128 rfl rfl ?_
    refine q_iload hC 7 dX9_method_130 rfl rfl ?_
    refine q_callV hC (c_X6_put (q_hD hC)) m_X6_put lk_X9_127 dX9_method_132 (9, i, t * 6 + a * 2 + b, sg, kd, nI n) rfl rfl rfl rfl rfl hi (Nat.le_of_ble_eq_true rfl) ⟨⟨by decide, by decide⟩, by decide, by decide⟩ rfl (k' := (0, 0)) rfl ⟨Or.inl rfl, hi, hp30, hsc, hkc, (show ¬ nI n < 0 from nI_pos (by omega)), (by show z_chr (q_up S 0 i (upd (S 0 i) 2 0) 10 i (t * 6 + a * 2 + b)); simp (config := {decide := true}) only [q_up, false_and, if_false]; exact (z_rM_c hJ.1.2.2.2.2.2.1 _ hp30).1)⟩ (fun v S' hp => ?_)
    obtain ⟨rr, rfl, hrr, hmp⟩ := hp
    show qV Γ _ _ 135 _ (.int _ :: _) _ _
    refine q_iret hC dX9_method_135 (by rw [show rr = q_up S 0 i (upd (S 0 i) 2 0) 10 i (t * 6 + a * 2 + b) from hrr]; simp (config := {decide := true}) only [q_up, false_and, if_false]; exact z_chr_n (z_rM_c hJ.1.2.2.2.2.2.1 _ hp30).1) ⟨by decide, by decide⟩ ⟨_, rfl, ?_⟩
    exact z_ch_mu (S := S) (fun k' i' hk' => hmp.1 k' i' (show ¬ ((k' = 9 + 1 ∨ k' = 9 + 2 ∨ k' = 9 + 3) ∧ i' = i) by omega)) (z_raw_m (t := 9) (Or.inl ⟨rfl, fun _ => hkd⟩) hsg hmp (z_raw_congr (fun k h1 h2 => by simp only [q_up]; rw [if_neg (by omega)]) hJ.1)) hJ
  have J36 : qV Γ rm_X9_method 9 36 [(0, .ref (q_ad Γ 36 0)), (1, .int (nI i)), (2, .int (nI (65 + t))), (3, .int (nI (97 + a))), (4, .int (nI b)), (5, .int sg), (6, .int kd), (7, .int (nI n))] [] S (0, 0) := by
    refine q_iconst hC dX9_method_36 (v := 1) (by decide) rfl ?_
    refine q_goto hC dX9_method_37 (n := 41) (by decide) ?_
    refine q_callS hC (c_X9_needRange (q_hD hC)) m_X9_needRange lk_X9_62 dX9_method_41 1 rfl rfl (Nat.le_of_ble_eq_true rfl) ⟨⟨by decide, by decide⟩, by decide, by decide⟩ rfl (k' := (0, 0)) rfl z_1n0 (fun v S' hp => ?_)
    obtain ⟨rfl, rfl⟩ := hp
    show qV Γ _ _ 44 _ _ _ _
    refine q_iload hC 6 dX9_method_44 rfl rfl ?_
    refine q_bipush hC dX9_method_46 (v := 110) (by decide) rfl ?_
    refine q_icmp_eq hC dX9_method_48 (t := 72) (n := 51) (by decide) rfl (fun h48 => ?_) (fun h48 => ?_)
    · exact J72
    · refine q_iload hC 6 dX9_method_51 rfl rfl ?_
      refine q_bipush hC dX9_method_53 (v := 115) (by decide) rfl ?_
      refine q_icmp_eq hC dX9_method_55 (t := 72) (n := 58) (by decide) rfl (fun h55 => ?_) (fun h55 => ?_)
      · exact J72
      · refine q_iload hC 6 dX9_method_58 rfl rfl ?_
        refine q_bipush hC dX9_method_60 (v := 97) (by decide) rfl ?_
        refine q_icmp_eq hC dX9_method_62 (t := 72) (n := 65) (by decide) rfl (fun h62 => ?_) (fun h62 => ?_)
        · exact J72
        · refine q_iload hC 6 dX9_method_65 rfl rfl ?_
          refine q_bipush hC dX9_method_67 (v := 102) (by decide) rfl ?_
          refine q_icmp_ne hC dX9_method_69 (t := 88) (n := 72) (by decide) rfl (fun h69 => ?_) (fun h69 => ?_)
          · exact (Or.elim hkd (fun h => h48 h) (fun z => Or.elim z (fun h => h55 h) (fun z => Or.elim z (fun h => h62 h) (fun h => h69 h)))).elim
          · exact J72
  show qV Γ _ _ 0 [(0, .ref (q_ad Γ 36 0)), (1, .int (nI i)), (2, .int (nI (65 + t))), (3, .int (nI (97 + a))), (4, .int (nI b)), (5, .int sg), (6, .int kd), (7, .int (nI n))] [] S (0, 0)
  refine q_iload_n hC 1 dX9_method_0 rfl rfl ?_
  refine q_iconst hC dX9_method_1 (v := 4) (by decide) rfl ?_
  refine q_callS hC (c_X9_needPlace (q_hD hC)) m_X9_needPlace lk_X9_54 dX9_method_2 (i, 4) rfl rfl (Nat.le_of_ble_eq_true rfl) ⟨⟨by decide, by decide⟩, by decide, by decide⟩ rfl (k' := (0, 0)) rfl ⟨hi, (show (4 : Nat) < 2 ^ 31 by decide)⟩ (fun v S' hp => ?_)
  obtain ⟨rfl, rfl⟩ := hp
  show qV Γ _ _ 5 _ _ _ _
  refine q_iload_n hC 2 dX9_method_5 rfl rfl ?_
  refine q_callS hC (c_X9_isType (q_hD hC)) m_X9_isType lk_X9_58 dX9_method_6 (nI (65 + t)) rfl rfl (Nat.le_of_ble_eq_true rfl) ⟨⟨by decide, by decide⟩, by decide, by decide⟩ rfl (k' := (0, 0)) rfl trivial (fun v S' hp => ?_)
  obtain ⟨r6_2, rfl, rfl, rfl⟩ := hp
  show qV Γ _ _ 9 _ (.int _ :: _) _ _
  refine q_if_eq hC dX9_method_9 (t := 40) (n := 12) (by decide) rfl (fun h9 => absurd h9 (by rw [z_isT t ht]; exact z_1n0)) (fun h9 => ?_)
  refine q_iload_n hC 3 dX9_method_12 rfl rfl ?_
  refine q_iload hC 4 dX9_method_13 rfl rfl ?_
  refine q_callS hC (c_X9_isMember (q_hD hC)) m_X9_isMember lk_X9_115 dX9_method_15 (nI (97 + a), nI b) rfl rfl (Nat.le_of_ble_eq_true rfl) ⟨⟨by decide, by decide⟩, by decide, by decide⟩ rfl (k' := (0, 0)) rfl trivial (fun v S' hp => ?_)
  obtain ⟨r15_3, rfl, rfl, rfl⟩ := hp
  show qV Γ _ _ 18 _ (.int _ :: _) _ _
  refine q_if_eq hC dX9_method_18 (t := 40) (n := 21) (by decide) rfl (fun h18 => absurd h18 (by rw [z_isM a ha b hb]; exact z_1n0)) (fun h18 => ?_)
  refine q_iload hC 5 dX9_method_21 rfl rfl ?_
  refine q_callS hC (c_X9_isSight (q_hD hC)) m_X9_isSight lk_X9_98 dX9_method_23 sg rfl rfl (Nat.le_of_ble_eq_true rfl) ⟨⟨by decide, by decide⟩, by decide, by decide⟩ rfl (k' := (0, 0)) rfl trivial (fun v S' hp => ?_)
  obtain ⟨r23_4, rfl, rfl, rfl⟩ := hp
  show qV Γ _ _ 26 _ (.int _ :: _) _ _
  refine q_if_ne hC dX9_method_26 (t := 36) (n := 29) (by decide) rfl (fun h26 => ?_) (fun h26 => ?_)
  · exact J36
  · refine q_iload hC 5 dX9_method_29 rfl rfl ?_
    refine q_bipush hC dX9_method_31 (v := 45) (by decide) rfl ?_
    refine q_icmp_ne hC dX9_method_33 (t := 40) (n := 36) (by decide) rfl (fun h33 => ?_) (fun h33 => ?_)
    · exact (Or.elim hsg (fun h => h33 h) (fun h => z_1n0 (by rw [← z_isS h]; exact h26))).elim
    · exact J36
abbrev rmx_X9_method : Room := { frames := 8, cells := 1, slots := 6, locals := 131 }
set_option maxHeartbeats 4000000 in
set_option maxRecDepth 100000 in
theorem x_X9_method {L : qL} (hD : q_D L.2.2.2.1) (hl : L.1.stackTraces = false) : qCX L yX9_method cX9_method 9 (some .char) rmx_X9_method (fun ad _ (x : Nat × Nat × Nat × Nat × Int32 × Int32 × Nat) => [.ref (ad 36 0), .int (nI x.1), .int (nI (65 + x.2.1)), .int (nI (97 + x.2.2.1)), .int (nI x.2.2.2.1), .int x.2.2.2.2.1, .int x.2.2.2.2.2.1, .int (nI x.2.2.2.2.2.2)]) (fun x S => x.1 < 4 ∧ x.2.1 < 5 ∧ x.2.2.1 < 3 ∧ x.2.2.2.1 < 2 ∧ (x.2.2.2.2.1 = 45 ∨ z_sg4 x.2.2.2.2.1) ∧ z_mk4 x.2.2.2.2.2.1 ∧ x.2.2.2.2.2.2 < 100 ∧ z_J S x.1 ∧ S 2 x.1 x.2.1 = 45) q_nsee (fun _ S S' => S' = S) := by
  refine q_metX hD (by decide) (fun _ => Nat.le_of_ble_eq_true rfl) (fun Γ x S hΓ hpre hC hX => ?_)
  subst hΓ
  obtain ⟨i, t, a, b, sg, kd, n⟩ := x
  obtain ⟨hi, ht, ha, hb, hsg, hkd, hn, hJ, hk⟩ := hpre
  have hi : i < 4 := hi
  have ht : t < 5 := ht
  have ha : a < 3 := ha
  have hb : b < 2 := hb
  have hsg : sg = 45 ∨ z_sg4 sg := hsg
  have hkd : z_mk4 kd := hkd
  have hn : n < 100 := hn
  have hJ : z_J S i := hJ
  have e65 := z_m65 t ht
  have ec : (nI t).toNatClampNeg = t := nI_clamp (by omega)
  have vi : vp_in (nI t) 5 := vp_in_nI ht (by decide)
  have hsc : z_chr sg := hsg.elim (fun e => by rw [e]; exact z_c45) z_sg4_c
  have hkc : z_chr kd := z_mk4_c hkd
  have hp30 : t * 6 + a * 2 + b < 30 := by omega
  have hk : S 2 i t = 45 := hk
  have J72 : qV Γ rmx_X9_method 9 72 [(0, .ref (q_ad Γ 36 0)), (1, .int (nI i)), (2, .int (nI (65 + t))), (3, .int (nI (97 + a))), (4, .int (nI b)), (5, .int sg), (6, .int kd), (7, .int (nI n))] [] S (0, 0) := by
    refine q_iload hC 7 dX9_method_72 rfl rfl ?_
    refine q_if_lt hC dX9_method_74 (t := 88) (n := 77) (by decide) rfl (fun h74 => absurd h74 (nI_pos (by omega))) (fun h74 => ?_)
    refine q_iload hC 7 dX9_method_77 rfl rfl ?_
    refine q_bipush hC dX9_method_79 (v := 99) (by decide) rfl ?_
    refine q_icmp_gt hC dX9_method_81 (t := 88) (n := 84) (by decide) rfl (fun h81 => absurd h81 (z_99 n hn)) (fun h81 => ?_)
    refine q_iconst hC dX9_method_84 (v := 1) (by decide) rfl ?_
    refine q_goto hC dX9_method_85 (n := 89) (by decide) ?_
    refine q_callS hC (c_X9_needRange (q_hD hC)) m_X9_needRange lk_X9_62 dX9_method_89 1 rfl rfl (Nat.le_of_ble_eq_true rfl) ⟨⟨by decide, by decide⟩, by decide, by decide⟩ rfl (k' := (0, 0)) rfl z_1n0 (fun v S' hp => ?_)
    obtain ⟨rfl, rfl⟩ := hp
    show qV Γ _ _ 92 _ _ _ _
    refine q_aload_n hC 0 dX9_method_92 rfl rfl ?_
    refine q_get_f hC f_X9_11 dX9_method_93 rfl rfl (Nat.le_of_ble_eq_true rfl) rfl ?_
    refine q_iload_n hC 1 dX9_method_96 rfl rfl ?_
    refine q_lib hC i dX9_method_97 rfl hi rfl ?_
    refine q_astore hC dX9_method_98 (by decide) (ls' := [(0, _), (1, _), (2, _), (3, _), (4, _), (5, _), (6, _), (7, _), (8, _)]) rfl rfl ?_
    refine q_aload hC 8 dX9_method_100 rfl rfl ?_
    refine q_iload_n hC 2 dX9_method_102 rfl rfl ?_
    exact q_xS hC hX (x_X9_needThere (q_hD hC) hl) m_X9_needThere lk_X9_83 dX9_method_103 (i, t) rfl rfl (Nat.le_of_ble_eq_true rfl) ⟨⟨by decide, by decide⟩, by decide, by decide⟩ ⟨hi, ht, hk⟩ (fun _ h => h)
  have J36 : qV Γ rmx_X9_method 9 36 [(0, .ref (q_ad Γ 36 0)), (1, .int (nI i)), (2, .int (nI (65 + t))), (3, .int (nI (97 + a))), (4, .int (nI b)), (5, .int sg), (6, .int kd), (7, .int (nI n))] [] S (0, 0) := by
    refine q_iconst hC dX9_method_36 (v := 1) (by decide) rfl ?_
    refine q_goto hC dX9_method_37 (n := 41) (by decide) ?_
    refine q_callS hC (c_X9_needRange (q_hD hC)) m_X9_needRange lk_X9_62 dX9_method_41 1 rfl rfl (Nat.le_of_ble_eq_true rfl) ⟨⟨by decide, by decide⟩, by decide, by decide⟩ rfl (k' := (0, 0)) rfl z_1n0 (fun v S' hp => ?_)
    obtain ⟨rfl, rfl⟩ := hp
    show qV Γ _ _ 44 _ _ _ _
    refine q_iload hC 6 dX9_method_44 rfl rfl ?_
    refine q_bipush hC dX9_method_46 (v := 110) (by decide) rfl ?_
    refine q_icmp_eq hC dX9_method_48 (t := 72) (n := 51) (by decide) rfl (fun h48 => ?_) (fun h48 => ?_)
    · exact J72
    · refine q_iload hC 6 dX9_method_51 rfl rfl ?_
      refine q_bipush hC dX9_method_53 (v := 115) (by decide) rfl ?_
      refine q_icmp_eq hC dX9_method_55 (t := 72) (n := 58) (by decide) rfl (fun h55 => ?_) (fun h55 => ?_)
      · exact J72
      · refine q_iload hC 6 dX9_method_58 rfl rfl ?_
        refine q_bipush hC dX9_method_60 (v := 97) (by decide) rfl ?_
        refine q_icmp_eq hC dX9_method_62 (t := 72) (n := 65) (by decide) rfl (fun h62 => ?_) (fun h62 => ?_)
        · exact J72
        · refine q_iload hC 6 dX9_method_65 rfl rfl ?_
          refine q_bipush hC dX9_method_67 (v := 102) (by decide) rfl ?_
          refine q_icmp_ne hC dX9_method_69 (t := 88) (n := 72) (by decide) rfl (fun h69 => ?_) (fun h69 => ?_)
          · exact (Or.elim hkd (fun h => h48 h) (fun z => Or.elim z (fun h => h55 h) (fun z => Or.elim z (fun h => h62 h) (fun h => h69 h)))).elim
          · exact J72
  show qV Γ _ _ 0 [(0, .ref (q_ad Γ 36 0)), (1, .int (nI i)), (2, .int (nI (65 + t))), (3, .int (nI (97 + a))), (4, .int (nI b)), (5, .int sg), (6, .int kd), (7, .int (nI n))] [] S (0, 0)
  refine q_iload_n hC 1 dX9_method_0 rfl rfl ?_
  refine q_iconst hC dX9_method_1 (v := 4) (by decide) rfl ?_
  refine q_callS hC (c_X9_needPlace (q_hD hC)) m_X9_needPlace lk_X9_54 dX9_method_2 (i, 4) rfl rfl (Nat.le_of_ble_eq_true rfl) ⟨⟨by decide, by decide⟩, by decide, by decide⟩ rfl (k' := (0, 0)) rfl ⟨hi, (show (4 : Nat) < 2 ^ 31 by decide)⟩ (fun v S' hp => ?_)
  obtain ⟨rfl, rfl⟩ := hp
  show qV Γ _ _ 5 _ _ _ _
  refine q_iload_n hC 2 dX9_method_5 rfl rfl ?_
  refine q_callS hC (c_X9_isType (q_hD hC)) m_X9_isType lk_X9_58 dX9_method_6 (nI (65 + t)) rfl rfl (Nat.le_of_ble_eq_true rfl) ⟨⟨by decide, by decide⟩, by decide, by decide⟩ rfl (k' := (0, 0)) rfl trivial (fun v S' hp => ?_)
  obtain ⟨r6_2, rfl, rfl, rfl⟩ := hp
  show qV Γ _ _ 9 _ (.int _ :: _) _ _
  refine q_if_eq hC dX9_method_9 (t := 40) (n := 12) (by decide) rfl (fun h9 => absurd h9 (by rw [z_isT t ht]; exact z_1n0)) (fun h9 => ?_)
  refine q_iload_n hC 3 dX9_method_12 rfl rfl ?_
  refine q_iload hC 4 dX9_method_13 rfl rfl ?_
  refine q_callS hC (c_X9_isMember (q_hD hC)) m_X9_isMember lk_X9_115 dX9_method_15 (nI (97 + a), nI b) rfl rfl (Nat.le_of_ble_eq_true rfl) ⟨⟨by decide, by decide⟩, by decide, by decide⟩ rfl (k' := (0, 0)) rfl trivial (fun v S' hp => ?_)
  obtain ⟨r15_3, rfl, rfl, rfl⟩ := hp
  show qV Γ _ _ 18 _ (.int _ :: _) _ _
  refine q_if_eq hC dX9_method_18 (t := 40) (n := 21) (by decide) rfl (fun h18 => absurd h18 (by rw [z_isM a ha b hb]; exact z_1n0)) (fun h18 => ?_)
  refine q_iload hC 5 dX9_method_21 rfl rfl ?_
  refine q_callS hC (c_X9_isSight (q_hD hC)) m_X9_isSight lk_X9_98 dX9_method_23 sg rfl rfl (Nat.le_of_ble_eq_true rfl) ⟨⟨by decide, by decide⟩, by decide, by decide⟩ rfl (k' := (0, 0)) rfl trivial (fun v S' hp => ?_)
  obtain ⟨r23_4, rfl, rfl, rfl⟩ := hp
  show qV Γ _ _ 26 _ (.int _ :: _) _ _
  refine q_if_ne hC dX9_method_26 (t := 36) (n := 29) (by decide) rfl (fun h26 => ?_) (fun h26 => ?_)
  · exact J36
  · refine q_iload hC 5 dX9_method_29 rfl rfl ?_
    refine q_bipush hC dX9_method_31 (v := 45) (by decide) rfl ?_
    refine q_icmp_ne hC dX9_method_33 (t := 40) (n := 36) (by decide) rfl (fun h33 => ?_) (fun h33 => ?_)
    · exact (Or.elim hsg (fun h => h33 h) (fun h => z_1n0 (by rw [← z_isS h]; exact h26))).elim
    · exact J36
abbrev rm_X9_field : Room := { frames := 2, cells := 0, slots := 0, locals := 43 }
set_option maxHeartbeats 4000000 in
set_option maxRecDepth 100000 in
theorem c_X9_field {L : qL} (hD : q_D L.2.2.2.1) : qCT L yX9_field cX9_field 9 (some .char) rm_X9_field (fun ad _ (x : Nat × Nat × Nat × Nat × Int32 × Int32 × Nat) => [.ref (ad 36 0), .int (nI x.1), .int (nI (65 + x.2.1)), .int (nI (97 + x.2.2.1)), .int (nI x.2.2.2.1), .int x.2.2.2.2.1, .int x.2.2.2.2.2.1, .int (nI x.2.2.2.2.2.2)]) (fun x S => x.1 < 4 ∧ x.2.1 < 5 ∧ x.2.2.1 < 3 ∧ x.2.2.2.1 < 2 ∧ (x.2.2.2.2.1 = 45 ∨ z_sg4 x.2.2.2.2.1) ∧ z_fk4 x.2.2.2.2.2.1 ∧ x.2.2.2.2.2.2 < 100 ∧ z_J S x.1 ∧ ¬ S 2 x.1 x.2.1 = 45) (qPi (fun x S r S' => z_mu S S' x.1)) := by
  refine q_met hD (by decide) (fun _ => Nat.le_of_ble_eq_true rfl) (fun Γ x S hΓ hpre hC => ?_)
  subst hΓ
  obtain ⟨i, t, a, b, sg, kd, n⟩ := x
  obtain ⟨hi, ht, ha, hb, hsg, hkd, hn, hJ, hk⟩ := hpre
  have hi : i < 4 := hi
  have ht : t < 5 := ht
  have ha : a < 3 := ha
  have hb : b < 2 := hb
  have hsg : sg = 45 ∨ z_sg4 sg := hsg
  have hkd : z_fk4 kd := hkd
  have hn : n < 100 := hn
  have hJ : z_J S i := hJ
  have e65 := z_m65 t ht
  have ec : (nI t).toNatClampNeg = t := nI_clamp (by omega)
  have vi : vp_in (nI t) 5 := vp_in_nI ht (by decide)
  have hsc : z_chr sg := hsg.elim (fun e => by rw [e]; exact z_c45) z_sg4_c
  have hkc : z_chr kd := z_fk4_c hkd
  have hp30 : t * 6 + a * 2 + b < 30 := by omega
  have hk : ¬ S 2 i t = 45 := hk
  have J72 : qV Γ rm_X9_field 9 72 [(0, .ref (q_ad Γ 36 0)), (1, .int (nI i)), (2, .int (nI (65 + t))), (3, .int (nI (97 + a))), (4, .int (nI b)), (5, .int sg), (6, .int kd), (7, .int (nI n))] [] S (0, 0) := by
    refine q_iload hC 7 dX9_field_72 rfl rfl ?_
    refine q_if_lt hC dX9_field_74 (t := 88) (n := 77) (by decide) rfl (fun h74 => absurd h74 (nI_pos (by omega))) (fun h74 => ?_)
    refine q_iload hC 7 dX9_field_77 rfl rfl ?_
    refine q_bipush hC dX9_field_79 (v := 99) (by decide) rfl ?_
    refine q_icmp_gt hC dX9_field_81 (t := 88) (n := 84) (by decide) rfl (fun h81 => absurd h81 (z_99 n hn)) (fun h81 => ?_)
    refine q_iconst hC dX9_field_84 (v := 1) (by decide) rfl ?_
    refine q_goto hC dX9_field_85 (n := 89) (by decide) ?_
    refine q_callS hC (c_X9_needRange (q_hD hC)) m_X9_needRange lk_X9_62 dX9_field_89 1 rfl rfl (Nat.le_of_ble_eq_true rfl) ⟨⟨by decide, by decide⟩, by decide, by decide⟩ rfl (k' := (0, 0)) rfl z_1n0 (fun v S' hp => ?_)
    obtain ⟨rfl, rfl⟩ := hp
    show qV Γ _ _ 92 _ _ _ _
    refine q_aload_n hC 0 dX9_field_92 rfl rfl ?_
    refine q_get_f hC f_X9_11 dX9_field_93 rfl rfl (Nat.le_of_ble_eq_true rfl) rfl ?_
    refine q_iload_n hC 1 dX9_field_96 rfl rfl ?_
    refine q_lib hC i dX9_field_97 rfl hi rfl ?_
    refine q_astore hC dX9_field_98 (by decide) (ls' := [(0, _), (1, _), (2, _), (3, _), (4, _), (5, _), (6, _), (7, _), (8, _)]) rfl rfl ?_
    refine q_aload hC 8 dX9_field_100 rfl rfl ?_
    refine q_iload_n hC 2 dX9_field_102 rfl rfl ?_
    refine q_callS hC (c_X9_needThere (q_hD hC)) m_X9_needThere lk_X9_83 dX9_field_103 (i, t) rfl rfl (Nat.le_of_ble_eq_true rfl) ⟨⟨by decide, by decide⟩, by decide, by decide⟩ rfl (k' := (0, 0)) rfl ⟨hi, ht, hk⟩ (fun v S' hp => ?_)
    obtain ⟨rfl, rfl⟩ := hp
    show qV Γ _ _ 106 _ _ _ _
    refine q_aload hC 8 dX9_field_106 rfl rfl ?_
    refine q_callV hC (c_X5_changed (q_hD hC)) m_X5_changed lk_X9_80 dX9_field_108 (i, ()) rfl rfl rfl rfl rfl hi (Nat.le_of_ble_eq_true rfl) ⟨⟨by decide, by decide⟩, by decide, by decide⟩ rfl (k' := (0, 0)) rfl hi (fun v S' hp => ?_)
    obtain ⟨rfl, rfl⟩ := hp
    show qV Γ _ _ 111 _ _ _ _
    refine q_aload hC 8 dX9_field_111 rfl rfl ?_
    refine q_get_f hC f_X9_66 dX9_field_113 rfl rfl hi rfl ?_
    refine q_get_f hC f_X9_133 dX9_field_116 rfl rfl hi rfl ?_
    refine q_iload_n hC 2 dX9_field_119 rfl rfl ?_
    refine q_iload_n hC 3 dX9_field_120 rfl rfl ?_
    refine q_iload hC 4 dX9_field_121 rfl rfl ?_
    refine q_callS hC (c_X9_memberPlace (q_hD hC)) m_X9_memberPlace lk_X9_123 dX9_field_123 (t, a, b) rfl rfl (Nat.le_of_ble_eq_true rfl) ⟨⟨by decide, by decide⟩, by decide, by decide⟩ rfl (k' := (0, 0)) rfl ⟨ht, ha, hb⟩ (fun v S' hp => ?_)
    obtain ⟨r123_4, rfl, rfl, rfl⟩ := hp
    show qV Γ _ _ 126 _ (.int _ :: _) _ _
    refine q_iload hC 5 dX9_field_126 rfl rfl ?_
    refine q_iload hC 6 dX9_field_128 rfl rfl ?_
    refine q_iload hC 7 dX9_field_130 rfl rfl ?_
    refine q_callV hC (c_X6_put (q_hD hC)) m_X6_put lk_X9_127 dX9_field_132 (13, i, t * 6 + a * 2 + b, sg, kd, nI n) rfl rfl rfl rfl rfl hi (Nat.le_of_ble_eq_true rfl) ⟨⟨by decide, by decide⟩, by decide, by decide⟩ rfl (k' := (0, 0)) rfl ⟨Or.inr rfl, hi, hp30, hsc, hkc, (show ¬ nI n < 0 from nI_pos (by omega)), (by show z_chr (q_up S 0 i (upd (S 0 i) 2 0) 14 i (t * 6 + a * 2 + b)); simp (config := {decide := true}) only [q_up, false_and, if_false]; exact (z_rF_c hJ.1.2.2.2.2.2.2.1 _ hp30).1)⟩ (fun v S' hp => ?_)
    obtain ⟨rr, rfl, hrr, hmp⟩ := hp
    show qV Γ _ _ 135 _ (.int _ :: _) _ _
    refine q_iret hC dX9_field_135 (by rw [show rr = q_up S 0 i (upd (S 0 i) 2 0) 14 i (t * 6 + a * 2 + b) from hrr]; simp (config := {decide := true}) only [q_up, false_and, if_false]; exact z_chr_n (z_rF_c hJ.1.2.2.2.2.2.2.1 _ hp30).1) ⟨by decide, by decide⟩ ⟨_, rfl, ?_⟩
    exact z_ch_mu (S := S) (fun k' i' hk' => hmp.1 k' i' (show ¬ ((k' = 13 + 1 ∨ k' = 13 + 2 ∨ k' = 13 + 3) ∧ i' = i) by omega)) (z_raw_m (t := 13) (Or.inr ⟨rfl, fun _ => hkd⟩) hsg hmp (z_raw_congr (fun k h1 h2 => by simp only [q_up]; rw [if_neg (by omega)]) hJ.1)) hJ
  have J36 : qV Γ rm_X9_field 9 36 [(0, .ref (q_ad Γ 36 0)), (1, .int (nI i)), (2, .int (nI (65 + t))), (3, .int (nI (97 + a))), (4, .int (nI b)), (5, .int sg), (6, .int kd), (7, .int (nI n))] [] S (0, 0) := by
    refine q_iconst hC dX9_field_36 (v := 1) (by decide) rfl ?_
    refine q_goto hC dX9_field_37 (n := 41) (by decide) ?_
    refine q_callS hC (c_X9_needRange (q_hD hC)) m_X9_needRange lk_X9_62 dX9_field_41 1 rfl rfl (Nat.le_of_ble_eq_true rfl) ⟨⟨by decide, by decide⟩, by decide, by decide⟩ rfl (k' := (0, 0)) rfl z_1n0 (fun v S' hp => ?_)
    obtain ⟨rfl, rfl⟩ := hp
    show qV Γ _ _ 44 _ _ _ _
    refine q_iload hC 6 dX9_field_44 rfl rfl ?_
    refine q_bipush hC dX9_field_46 (v := 110) (by decide) rfl ?_
    refine q_icmp_eq hC dX9_field_48 (t := 72) (n := 51) (by decide) rfl (fun h48 => ?_) (fun h48 => ?_)
    · exact J72
    · refine q_iload hC 6 dX9_field_51 rfl rfl ?_
      refine q_bipush hC dX9_field_53 (v := 115) (by decide) rfl ?_
      refine q_icmp_eq hC dX9_field_55 (t := 72) (n := 58) (by decide) rfl (fun h55 => ?_) (fun h55 => ?_)
      · exact J72
      · refine q_iload hC 6 dX9_field_58 rfl rfl ?_
        refine q_bipush hC dX9_field_60 (v := 102) (by decide) rfl ?_
        refine q_icmp_eq hC dX9_field_62 (t := 72) (n := 65) (by decide) rfl (fun h62 => ?_) (fun h62 => ?_)
        · exact J72
        · refine q_iload hC 6 dX9_field_65 rfl rfl ?_
          refine q_bipush hC dX9_field_67 (v := 70) (by decide) rfl ?_
          refine q_icmp_ne hC dX9_field_69 (t := 88) (n := 72) (by decide) rfl (fun h69 => ?_) (fun h69 => ?_)
          · exact (Or.elim hkd (fun h => h48 h) (fun z => Or.elim z (fun h => h55 h) (fun z => Or.elim z (fun h => h62 h) (fun h => h69 h)))).elim
          · exact J72
  show qV Γ _ _ 0 [(0, .ref (q_ad Γ 36 0)), (1, .int (nI i)), (2, .int (nI (65 + t))), (3, .int (nI (97 + a))), (4, .int (nI b)), (5, .int sg), (6, .int kd), (7, .int (nI n))] [] S (0, 0)
  refine q_iload_n hC 1 dX9_field_0 rfl rfl ?_
  refine q_iconst hC dX9_field_1 (v := 4) (by decide) rfl ?_
  refine q_callS hC (c_X9_needPlace (q_hD hC)) m_X9_needPlace lk_X9_54 dX9_field_2 (i, 4) rfl rfl (Nat.le_of_ble_eq_true rfl) ⟨⟨by decide, by decide⟩, by decide, by decide⟩ rfl (k' := (0, 0)) rfl ⟨hi, (show (4 : Nat) < 2 ^ 31 by decide)⟩ (fun v S' hp => ?_)
  obtain ⟨rfl, rfl⟩ := hp
  show qV Γ _ _ 5 _ _ _ _
  refine q_iload_n hC 2 dX9_field_5 rfl rfl ?_
  refine q_callS hC (c_X9_isType (q_hD hC)) m_X9_isType lk_X9_58 dX9_field_6 (nI (65 + t)) rfl rfl (Nat.le_of_ble_eq_true rfl) ⟨⟨by decide, by decide⟩, by decide, by decide⟩ rfl (k' := (0, 0)) rfl trivial (fun v S' hp => ?_)
  obtain ⟨r6_2, rfl, rfl, rfl⟩ := hp
  show qV Γ _ _ 9 _ (.int _ :: _) _ _
  refine q_if_eq hC dX9_field_9 (t := 40) (n := 12) (by decide) rfl (fun h9 => absurd h9 (by rw [z_isT t ht]; exact z_1n0)) (fun h9 => ?_)
  refine q_iload_n hC 3 dX9_field_12 rfl rfl ?_
  refine q_iload hC 4 dX9_field_13 rfl rfl ?_
  refine q_callS hC (c_X9_isMember (q_hD hC)) m_X9_isMember lk_X9_115 dX9_field_15 (nI (97 + a), nI b) rfl rfl (Nat.le_of_ble_eq_true rfl) ⟨⟨by decide, by decide⟩, by decide, by decide⟩ rfl (k' := (0, 0)) rfl trivial (fun v S' hp => ?_)
  obtain ⟨r15_3, rfl, rfl, rfl⟩ := hp
  show qV Γ _ _ 18 _ (.int _ :: _) _ _
  refine q_if_eq hC dX9_field_18 (t := 40) (n := 21) (by decide) rfl (fun h18 => absurd h18 (by rw [z_isM a ha b hb]; exact z_1n0)) (fun h18 => ?_)
  refine q_iload hC 5 dX9_field_21 rfl rfl ?_
  refine q_callS hC (c_X9_isSight (q_hD hC)) m_X9_isSight lk_X9_98 dX9_field_23 sg rfl rfl (Nat.le_of_ble_eq_true rfl) ⟨⟨by decide, by decide⟩, by decide, by decide⟩ rfl (k' := (0, 0)) rfl trivial (fun v S' hp => ?_)
  obtain ⟨r23_4, rfl, rfl, rfl⟩ := hp
  show qV Γ _ _ 26 _ (.int _ :: _) _ _
  refine q_if_ne hC dX9_field_26 (t := 36) (n := 29) (by decide) rfl (fun h26 => ?_) (fun h26 => ?_)
  · exact J36
  · refine q_iload hC 5 dX9_field_29 rfl rfl ?_
    refine q_bipush hC dX9_field_31 (v := 45) (by decide) rfl ?_
    refine q_icmp_ne hC dX9_field_33 (t := 40) (n := 36) (by decide) rfl (fun h33 => ?_) (fun h33 => ?_)
    · exact (Or.elim hsg (fun h => h33 h) (fun h => z_1n0 (by rw [← z_isS h]; exact h26))).elim
    · exact J36
abbrev rmx_X9_field : Room := { frames := 8, cells := 1, slots := 6, locals := 131 }
set_option maxHeartbeats 4000000 in
set_option maxRecDepth 100000 in
theorem x_X9_field {L : qL} (hD : q_D L.2.2.2.1) (hl : L.1.stackTraces = false) : qCX L yX9_field cX9_field 9 (some .char) rmx_X9_field (fun ad _ (x : Nat × Nat × Nat × Nat × Int32 × Int32 × Nat) => [.ref (ad 36 0), .int (nI x.1), .int (nI (65 + x.2.1)), .int (nI (97 + x.2.2.1)), .int (nI x.2.2.2.1), .int x.2.2.2.2.1, .int x.2.2.2.2.2.1, .int (nI x.2.2.2.2.2.2)]) (fun x S => x.1 < 4 ∧ x.2.1 < 5 ∧ x.2.2.1 < 3 ∧ x.2.2.2.1 < 2 ∧ (x.2.2.2.2.1 = 45 ∨ z_sg4 x.2.2.2.2.1) ∧ z_fk4 x.2.2.2.2.2.1 ∧ x.2.2.2.2.2.2 < 100 ∧ z_J S x.1 ∧ S 2 x.1 x.2.1 = 45) q_nsee (fun _ S S' => S' = S) := by
  refine q_metX hD (by decide) (fun _ => Nat.le_of_ble_eq_true rfl) (fun Γ x S hΓ hpre hC hX => ?_)
  subst hΓ
  obtain ⟨i, t, a, b, sg, kd, n⟩ := x
  obtain ⟨hi, ht, ha, hb, hsg, hkd, hn, hJ, hk⟩ := hpre
  have hi : i < 4 := hi
  have ht : t < 5 := ht
  have ha : a < 3 := ha
  have hb : b < 2 := hb
  have hsg : sg = 45 ∨ z_sg4 sg := hsg
  have hkd : z_fk4 kd := hkd
  have hn : n < 100 := hn
  have hJ : z_J S i := hJ
  have e65 := z_m65 t ht
  have ec : (nI t).toNatClampNeg = t := nI_clamp (by omega)
  have vi : vp_in (nI t) 5 := vp_in_nI ht (by decide)
  have hsc : z_chr sg := hsg.elim (fun e => by rw [e]; exact z_c45) z_sg4_c
  have hkc : z_chr kd := z_fk4_c hkd
  have hp30 : t * 6 + a * 2 + b < 30 := by omega
  have hk : S 2 i t = 45 := hk
  have J72 : qV Γ rmx_X9_field 9 72 [(0, .ref (q_ad Γ 36 0)), (1, .int (nI i)), (2, .int (nI (65 + t))), (3, .int (nI (97 + a))), (4, .int (nI b)), (5, .int sg), (6, .int kd), (7, .int (nI n))] [] S (0, 0) := by
    refine q_iload hC 7 dX9_field_72 rfl rfl ?_
    refine q_if_lt hC dX9_field_74 (t := 88) (n := 77) (by decide) rfl (fun h74 => absurd h74 (nI_pos (by omega))) (fun h74 => ?_)
    refine q_iload hC 7 dX9_field_77 rfl rfl ?_
    refine q_bipush hC dX9_field_79 (v := 99) (by decide) rfl ?_
    refine q_icmp_gt hC dX9_field_81 (t := 88) (n := 84) (by decide) rfl (fun h81 => absurd h81 (z_99 n hn)) (fun h81 => ?_)
    refine q_iconst hC dX9_field_84 (v := 1) (by decide) rfl ?_
    refine q_goto hC dX9_field_85 (n := 89) (by decide) ?_
    refine q_callS hC (c_X9_needRange (q_hD hC)) m_X9_needRange lk_X9_62 dX9_field_89 1 rfl rfl (Nat.le_of_ble_eq_true rfl) ⟨⟨by decide, by decide⟩, by decide, by decide⟩ rfl (k' := (0, 0)) rfl z_1n0 (fun v S' hp => ?_)
    obtain ⟨rfl, rfl⟩ := hp
    show qV Γ _ _ 92 _ _ _ _
    refine q_aload_n hC 0 dX9_field_92 rfl rfl ?_
    refine q_get_f hC f_X9_11 dX9_field_93 rfl rfl (Nat.le_of_ble_eq_true rfl) rfl ?_
    refine q_iload_n hC 1 dX9_field_96 rfl rfl ?_
    refine q_lib hC i dX9_field_97 rfl hi rfl ?_
    refine q_astore hC dX9_field_98 (by decide) (ls' := [(0, _), (1, _), (2, _), (3, _), (4, _), (5, _), (6, _), (7, _), (8, _)]) rfl rfl ?_
    refine q_aload hC 8 dX9_field_100 rfl rfl ?_
    refine q_iload_n hC 2 dX9_field_102 rfl rfl ?_
    exact q_xS hC hX (x_X9_needThere (q_hD hC) hl) m_X9_needThere lk_X9_83 dX9_field_103 (i, t) rfl rfl (Nat.le_of_ble_eq_true rfl) ⟨⟨by decide, by decide⟩, by decide, by decide⟩ ⟨hi, ht, hk⟩ (fun _ h => h)
  have J36 : qV Γ rmx_X9_field 9 36 [(0, .ref (q_ad Γ 36 0)), (1, .int (nI i)), (2, .int (nI (65 + t))), (3, .int (nI (97 + a))), (4, .int (nI b)), (5, .int sg), (6, .int kd), (7, .int (nI n))] [] S (0, 0) := by
    refine q_iconst hC dX9_field_36 (v := 1) (by decide) rfl ?_
    refine q_goto hC dX9_field_37 (n := 41) (by decide) ?_
    refine q_callS hC (c_X9_needRange (q_hD hC)) m_X9_needRange lk_X9_62 dX9_field_41 1 rfl rfl (Nat.le_of_ble_eq_true rfl) ⟨⟨by decide, by decide⟩, by decide, by decide⟩ rfl (k' := (0, 0)) rfl z_1n0 (fun v S' hp => ?_)
    obtain ⟨rfl, rfl⟩ := hp
    show qV Γ _ _ 44 _ _ _ _
    refine q_iload hC 6 dX9_field_44 rfl rfl ?_
    refine q_bipush hC dX9_field_46 (v := 110) (by decide) rfl ?_
    refine q_icmp_eq hC dX9_field_48 (t := 72) (n := 51) (by decide) rfl (fun h48 => ?_) (fun h48 => ?_)
    · exact J72
    · refine q_iload hC 6 dX9_field_51 rfl rfl ?_
      refine q_bipush hC dX9_field_53 (v := 115) (by decide) rfl ?_
      refine q_icmp_eq hC dX9_field_55 (t := 72) (n := 58) (by decide) rfl (fun h55 => ?_) (fun h55 => ?_)
      · exact J72
      · refine q_iload hC 6 dX9_field_58 rfl rfl ?_
        refine q_bipush hC dX9_field_60 (v := 102) (by decide) rfl ?_
        refine q_icmp_eq hC dX9_field_62 (t := 72) (n := 65) (by decide) rfl (fun h62 => ?_) (fun h62 => ?_)
        · exact J72
        · refine q_iload hC 6 dX9_field_65 rfl rfl ?_
          refine q_bipush hC dX9_field_67 (v := 70) (by decide) rfl ?_
          refine q_icmp_ne hC dX9_field_69 (t := 88) (n := 72) (by decide) rfl (fun h69 => ?_) (fun h69 => ?_)
          · exact (Or.elim hkd (fun h => h48 h) (fun z => Or.elim z (fun h => h55 h) (fun z => Or.elim z (fun h => h62 h) (fun h => h69 h)))).elim
          · exact J72
  show qV Γ _ _ 0 [(0, .ref (q_ad Γ 36 0)), (1, .int (nI i)), (2, .int (nI (65 + t))), (3, .int (nI (97 + a))), (4, .int (nI b)), (5, .int sg), (6, .int kd), (7, .int (nI n))] [] S (0, 0)
  refine q_iload_n hC 1 dX9_field_0 rfl rfl ?_
  refine q_iconst hC dX9_field_1 (v := 4) (by decide) rfl ?_
  refine q_callS hC (c_X9_needPlace (q_hD hC)) m_X9_needPlace lk_X9_54 dX9_field_2 (i, 4) rfl rfl (Nat.le_of_ble_eq_true rfl) ⟨⟨by decide, by decide⟩, by decide, by decide⟩ rfl (k' := (0, 0)) rfl ⟨hi, (show (4 : Nat) < 2 ^ 31 by decide)⟩ (fun v S' hp => ?_)
  obtain ⟨rfl, rfl⟩ := hp
  show qV Γ _ _ 5 _ _ _ _
  refine q_iload_n hC 2 dX9_field_5 rfl rfl ?_
  refine q_callS hC (c_X9_isType (q_hD hC)) m_X9_isType lk_X9_58 dX9_field_6 (nI (65 + t)) rfl rfl (Nat.le_of_ble_eq_true rfl) ⟨⟨by decide, by decide⟩, by decide, by decide⟩ rfl (k' := (0, 0)) rfl trivial (fun v S' hp => ?_)
  obtain ⟨r6_2, rfl, rfl, rfl⟩ := hp
  show qV Γ _ _ 9 _ (.int _ :: _) _ _
  refine q_if_eq hC dX9_field_9 (t := 40) (n := 12) (by decide) rfl (fun h9 => absurd h9 (by rw [z_isT t ht]; exact z_1n0)) (fun h9 => ?_)
  refine q_iload_n hC 3 dX9_field_12 rfl rfl ?_
  refine q_iload hC 4 dX9_field_13 rfl rfl ?_
  refine q_callS hC (c_X9_isMember (q_hD hC)) m_X9_isMember lk_X9_115 dX9_field_15 (nI (97 + a), nI b) rfl rfl (Nat.le_of_ble_eq_true rfl) ⟨⟨by decide, by decide⟩, by decide, by decide⟩ rfl (k' := (0, 0)) rfl trivial (fun v S' hp => ?_)
  obtain ⟨r15_3, rfl, rfl, rfl⟩ := hp
  show qV Γ _ _ 18 _ (.int _ :: _) _ _
  refine q_if_eq hC dX9_field_18 (t := 40) (n := 21) (by decide) rfl (fun h18 => absurd h18 (by rw [z_isM a ha b hb]; exact z_1n0)) (fun h18 => ?_)
  refine q_iload hC 5 dX9_field_21 rfl rfl ?_
  refine q_callS hC (c_X9_isSight (q_hD hC)) m_X9_isSight lk_X9_98 dX9_field_23 sg rfl rfl (Nat.le_of_ble_eq_true rfl) ⟨⟨by decide, by decide⟩, by decide, by decide⟩ rfl (k' := (0, 0)) rfl trivial (fun v S' hp => ?_)
  obtain ⟨r23_4, rfl, rfl, rfl⟩ := hp
  show qV Γ _ _ 26 _ (.int _ :: _) _ _
  refine q_if_ne hC dX9_field_26 (t := 36) (n := 29) (by decide) rfl (fun h26 => ?_) (fun h26 => ?_)
  · exact J36
  · refine q_iload hC 5 dX9_field_29 rfl rfl ?_
    refine q_bipush hC dX9_field_31 (v := 45) (by decide) rfl ?_
    refine q_icmp_ne hC dX9_field_33 (t := 40) (n := 36) (by decide) rfl (fun h33 => ?_) (fun h33 => ?_)
    · exact (Or.elim hsg (fun h => h33 h) (fun h => z_1n0 (by rw [← z_isS h]; exact h26))).elim
    · exact J36
