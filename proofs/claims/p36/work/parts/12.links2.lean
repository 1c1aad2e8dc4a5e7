-- printed by wip/p36/gen_m2.py
def z_dcStep (i : Nat) (row : Int32) (m : Nat) (T : qM) : qM :=
  let near := z_near (T 18 i) (T 21 i (nI m).toNatClampNeg &&& T 18 i row.toNatClampNeg)
  let bod := near &&& T 22 i (nI m).toNatClampNeg
  let pl := (row * 6 + nI m).toNatClampNeg
  q_up (q_up T 23 i (upd (T 23 i) pl (if T 19 i pl = -1 then z_lowest (if z_bc bod = 1 then bod else near) else T 19 i pl))) 24 i
    (upd (T 24 i) pl (if T 20 i pl = -1 then (if z_bc bod = 1 then z_lowest bod else if z_bc bod = 0 then -65 else -73)
      else if T 20 i pl = 5 then T 20 i pl else if T 11 i (T 20 i pl * 6 + nI m).toNatClampNeg = 97 then -65 else T 20 i pl))
def z_dcIt (i : Nat) (row : Int32) : Nat → Nat → qM → qM
  | 0, _, T => T
  | n + 1, m, T => z_dcIt i row n (m + 1) (z_dcStep i row m T)
theorem z_v6_5 {x : Int32} (h : z_v6 x) (h1 : ¬ x = -1) (h2 : ¬ x = 5) : z_lt x 5 := by
  rcases h with h | ⟨j, hj, rfl⟩
  · exact absurd h h1
  · refine ⟨j, ?_, rfl⟩
    rcases Nat.lt_or_ge j 5 with q | q
    · exact q
    · obtain rfl : j = 5 := by omega
      exact absurd rfl h2
theorem z_plt {row : Int32} {m : Nat} (hrow : z_lt row 6) (hm : m < 6) : (row * 6 + nI m).toNatClampNeg < 36 := by
  obtain ⟨j, hj, rfl⟩ := hrow
  have h := (z_pl_all j hj m hm).2
  unfold z_pl at h
  omega
abbrev rm_X3_deriveChoices : Room := { frames := 1, cells := 0, slots := 0, locals := 24 }
set_option maxHeartbeats 4000000 in
set_option maxRecDepth 100000 in
theorem c_X3_deriveChoices {L : qL} (hD : q_D L.2.2.2.1) : qCT L yX3_deriveChoices cX3_deriveChoices 9 none rm_X3_deriveChoices (fun ad _ (x : Nat × Int32) => [.ref (ad 17 x.1), .ref (ad 1 x.1), .int x.2]) (fun x S => x.1 < 4 ∧ z_lt x.2 6 ∧ ∀ p, p < 36 → z_v6 (S 20 x.1 p)) (qPv (fun x S S' => S' = z_dcIt x.1 x.2 6 0 S)) := by
  refine q_met hD (by decide) (fun _ => Nat.le_of_ble_eq_true rfl) (fun Γ x S hΓ hpre hC => ?_)
  subst hΓ
  obtain ⟨i, row⟩ := x
  obtain ⟨hi, hrow, hJ0⟩ := hpre
  have hi : i < 4 := hi
  have hrow : z_lt row 6 := hrow
  have L : ∀ (n m : Nat) (T : qM), m + n = 6 → (∀ p, p < 36 → z_v6 (T 20 i p)) → z_dcIt i row n m T = z_dcIt i row 6 0 S → qV Γ rm_X3_deriveChoices 9 2 [(0, .ref (q_ad Γ 17 i)), (1, .ref (q_ad Γ 1 i)), (2, .int row), (3, .int (nI m))] [] T (0, 0) := by
    intro n
    induction n with
    | zero =>
      intro m T hmn hJ hF
      obtain rfl : m = 6 := by omega
      refine q_iload_n hC 3 dX3_deriveChoices_2 rfl rfl ?_
      refine q_bipush hC dX3_deriveChoices_3 (v := 6) (by decide) rfl ?_
      refine q_icmp_ge hC dX3_deriveChoices_5 (t := 215) (n := 8) (by decide) rfl (fun h5 => ?_) (fun h5 => absurd (by decide) h5)
      refine q_vret hC dX3_deriveChoices_215 ⟨by decide, by decide⟩ ⟨rfl, ?_⟩
      exact hF
    | succ n ih =>
      intro m T hmn hJ hF
      have hm : m < 6 := by omega
      refine q_iload_n hC 3 dX3_deriveChoices_2 rfl rfl ?_
      refine q_bipush hC dX3_deriveChoices_3 (v := 6) (by decide) rfl ?_
      refine q_icmp_ge hC dX3_deriveChoices_5 (t := 215) (n := 8) (by decide) rfl (fun h5 => absurd h5 (nI_ge hm (by decide))) (fun h5 => ?_)
      refine q_iload_n hC 2 dX3_deriveChoices_8 rfl rfl ?_
      refine q_bipush hC dX3_deriveChoices_9 (v := 6) (by decide) rfl ?_
      refine q_imul hC dX3_deriveChoices_11 rfl ?_
      refine q_iload_n hC 3 dX3_deriveChoices_12 rfl rfl ?_
      refine q_iadd hC dX3_deriveChoices_13 rfl ?_
      refine q_istore hC dX3_deriveChoices_14 (by decide) (ls' := [(0, _), (1, _), (2, _), (3, _), (4, _)]) rfl rfl ?_
      refine q_aload_n hC 0 dX3_deriveChoices_16 rfl rfl ?_
      refine q_aload_n hC 0 dX3_deriveChoices_17 rfl rfl ?_
      refine q_get_f hC f_X3_21 dX3_deriveChoices_18 rfl rfl hi rfl ?_
      refine q_iload_n hC 3 dX3_deriveChoices_21 rfl rfl ?_
      refine q_iald hC dX3_deriveChoices_22 rfl hi (vp_in_nI hm (by decide)) rfl ?_
      refine q_aload_n hC 0 dX3_deriveChoices_23 rfl rfl ?_
      refine q_get_f hC f_X3_9 dX3_deriveChoices_24 rfl rfl hi rfl ?_
      refine q_iload_n hC 2 dX3_deriveChoices_27 rfl rfl ?_
      refine q_iald hC dX3_deriveChoices_28 rfl hi (z_in hrow (by decide)) rfl ?_
      refine q_iand hC dX3_deriveChoices_29 rfl ?_
      refine q_callV hC (c_X3_nearest (q_hD hC)) m_X3_nearest lk_X3_100 dX3_deriveChoices_30 (i, _) rfl rfl rfl rfl rfl hi (Nat.le_of_ble_eq_true rfl) ⟨⟨by decide, by decide⟩, by decide, by decide⟩ rfl (k' := (0, 0)) rfl hi (fun v S' hp => ?_)
      obtain ⟨r30_1, rfl, hr30_1, rfl⟩ := hp
      show qV Γ _ _ 33 _ (.int _ :: _) _ _
      refine q_istore hC dX3_deriveChoices_33 (by decide) (ls' := [(0, _), (1, _), (2, _), (3, _), (4, _), (5, _)]) rfl rfl ?_
      refine q_iload hC 5 dX3_deriveChoices_35 rfl rfl ?_
      refine q_aload_n hC 0 dX3_deriveChoices_37 rfl rfl ?_
      refine q_get_f hC f_X3_24 dX3_deriveChoices_38 rfl rfl hi rfl ?_
      refine q_iload_n hC 3 dX3_deriveChoices_41 rfl rfl ?_
      refine q_iald hC dX3_deriveChoices_42 rfl hi (vp_in_nI hm (by decide)) rfl ?_
      refine q_iand hC dX3_deriveChoices_43 rfl ?_
      refine q_istore hC dX3_deriveChoices_44 (by decide) (ls' := [(0, _), (1, _), (2, _), (3, _), (4, _), (5, _), (6, _)]) rfl rfl ?_
      refine q_aload_n hC 0 dX3_deriveChoices_46 rfl rfl ?_
      refine q_get_f hC f_X3_27 dX3_deriveChoices_47 rfl rfl hi rfl ?_
      refine q_iload hC 4 dX3_deriveChoices_50 rfl rfl ?_
      refine q_aload_n hC 0 dX3_deriveChoices_52 rfl rfl ?_
      refine q_get_f hC f_X3_15 dX3_deriveChoices_53 rfl rfl hi rfl ?_
      refine q_iload hC 4 dX3_deriveChoices_56 rfl rfl ?_
      refine q_iald hC dX3_deriveChoices_58 rfl hi (z_in36 hrow (z_ltn hm)) rfl ?_
      refine q_iast hC dX3_deriveChoices_59 (fun _ => rfl) hi (z_in36 hrow (z_ltn hm)) rfl ?_
      refine q_aload_n hC 0 dX3_deriveChoices_60 rfl rfl ?_
      refine q_get_f hC f_X3_15 dX3_deriveChoices_61 rfl rfl hi rfl ?_
      refine q_iload hC 4 dX3_deriveChoices_64 rfl rfl ?_
      refine q_iald hC dX3_deriveChoices_66 rfl hi (z_in36 hrow (z_ltn hm)) rfl ?_
      refine q_iconst hC dX3_deriveChoices_67 (v := (-1)) (by decide) rfl ?_
      refine q_icmp_ne hC dX3_deriveChoices_68 (t := 98) (n := 71) (by decide) rfl (fun h68_2 => ?_) (fun h68_2 => ?_)
      · refine q_aload_n hC 0 dX3_deriveChoices_98 rfl rfl ?_
        refine q_get_f hC f_X3_18 dX3_deriveChoices_99 rfl rfl hi rfl ?_
        refine q_iload hC 4 dX3_deriveChoices_102 rfl rfl ?_
        refine q_iald hC dX3_deriveChoices_104 rfl hi (z_in36 hrow (z_ltn hm)) rfl ?_
        refine q_istore hC dX3_deriveChoices_105 (by decide) (ls' := [(0, _), (1, _), (2, _), (3, _), (4, _), (5, _), (6, _), (7, _)]) rfl rfl ?_
        refine q_iload hC 7 dX3_deriveChoices_107 rfl rfl ?_
        refine q_iconst hC dX3_deriveChoices_109 (v := (-1)) (by decide) rfl ?_
        refine q_icmp_eq hC dX3_deriveChoices_110 (t := 168) (n := 113) (by decide) rfl (fun h110_3 => ?_) (fun h110_3 => ?_)
        · refine q_iload hC 6 dX3_deriveChoices_168 rfl rfl ?_
          refine q_callS hC (c_J6_bitCount_0f7a4 (q_hD hC)) m_J6_bitCount_0f7a4 lk_X3_104 dX3_deriveChoices_170 _ rfl rfl (Nat.le_of_ble_eq_true rfl) ⟨⟨by decide, by decide⟩, by decide, by decide⟩ rfl (k' := (0, 0)) rfl trivial (fun v S' hp => ?_)
          obtain ⟨r170_4, rfl, hr170_4, rfl⟩ := hp
          show qV Γ _ _ 173 _ (.int _ :: _) _ _
          refine q_istore hC dX3_deriveChoices_173 (by decide) (ls' := [(0, _), (1, _), (2, _), (3, _), (4, _), (5, _), (6, _), (7, _), (8, _)]) rfl rfl ?_
          refine q_aload_n hC 0 dX3_deriveChoices_175 rfl rfl ?_
          refine q_get_f hC f_X3_30 dX3_deriveChoices_176 rfl rfl hi rfl ?_
          refine q_iload hC 4 dX3_deriveChoices_179 rfl rfl ?_
          refine q_iload hC 8 dX3_deriveChoices_181 rfl rfl ?_
          refine q_iconst hC dX3_deriveChoices_183 (v := 1) (by decide) rfl ?_
          refine q_icmp_ne hC dX3_deriveChoices_184 (t := 196) (n := 187) (by decide) rfl (fun h184_5 => ?_) (fun h184_5 => ?_)
          · refine q_iload hC 8 dX3_deriveChoices_196 rfl rfl ?_
            refine q_if_ne hC dX3_deriveChoices_198 (t := 206) (n := 201) (by decide) rfl (fun h198_6 => ?_) (fun h198_6 => ?_)
            · refine q_bipush hC dX3_deriveChoices_206 (v := (-73)) (by decide) rfl ?_
              refine q_iast hC dX3_deriveChoices_208 (fun _ => rfl) hi (z_in36 hrow (z_ltn hm)) rfl ?_
              refine q_iinc hC 3 dX3_deriveChoices_209 rfl (v := nI (m + 1)) (z_inc m) (by decide) (ls' := [(0, _), (1, _), (2, _), (3, _), (4, _), (5, _), (6, _), (7, _), (8, _)]) rfl rfl ?_
              refine q_goto hC dX3_deriveChoices_212 (n := 2) (by decide) ?_
              refine q_locp [0, 1, 2, 3] (ls' := [(0, _), (1, _), (2, _), (3, _)]) rfl ?_
              refine ih (m + 1) _ (by omega) (fun p hp => by simpa [q_up] using hJ p hp) ?_
              rw [← hF]
              show _ = z_dcIt i row n (m + 1) (z_dcStep i row m T)
              clear hF ih hJ hJ0 hC
              subst hr30_1 hr170_4
              congr 1
              first
                | contradiction
                | (simp (config := {decide := true}) only [q_up_k, q_up_same, q_upup, z_updupd, ne_eq, not_false_eq_true] at *; first | contradiction | (simp only [z_dcStep, if_neg h68_2, if_pos h110_3, if_neg h184_5, if_neg h198_6]; done))
            · refine q_bipush hC dX3_deriveChoices_201 (v := (-65)) (by decide) rfl ?_
              refine q_goto hC dX3_deriveChoices_203 (n := 208) (by decide) ?_
              refine q_iast hC dX3_deriveChoices_208 (fun _ => rfl) hi (z_in36 hrow (z_ltn hm)) rfl ?_
              refine q_iinc hC 3 dX3_deriveChoices_209 rfl (v := nI (m + 1)) (z_inc m) (by decide) (ls' := [(0, _), (1, _), (2, _), (3, _), (4, _), (5, _), (6, _), (7, _), (8, _)]) rfl rfl ?_
              refine q_goto hC dX3_deriveChoices_212 (n := 2) (by decide) ?_
              refine q_locp [0, 1, 2, 3] (ls' := [(0, _), (1, _), (2, _), (3, _)]) rfl ?_
              refine ih (m + 1) _ (by omega) (fun p hp => by simpa [q_up] using hJ p hp) ?_
              rw [← hF]
              show _ = z_dcIt i row n (m + 1) (z_dcStep i row m T)
              clear hF ih hJ hJ0 hC
              subst hr30_1 hr170_4
              congr 1
              first
                | contradiction
                | (simp (config := {decide := true}) only [q_up_k, q_up_same, q_upup, z_updupd, ne_eq, not_false_eq_true] at *; first | contradiction | (simp only [z_dcStep, if_neg h68_2, if_pos h110_3, if_neg h184_5, if_pos h198_6]; done))
          · refine q_aload_n hC 0 dX3_deriveChoices_187 rfl rfl ?_
            refine q_iload hC 6 dX3_deriveChoices_188 rfl rfl ?_
            refine q_callV hC (c_X3_lowest (q_hD hC)) m_X3_lowest lk_X3_109 dX3_deriveChoices_190 (i, _) rfl rfl rfl rfl rfl hi (Nat.le_of_ble_eq_true rfl) ⟨⟨by decide, by decide⟩, by decide, by decide⟩ rfl (k' := (0, 0)) rfl hi (fun v S' hp => ?_)
            obtain ⟨r190_7, rfl, hr190_7, rfl⟩ := hp
            show qV Γ _ _ 193 _ (.int _ :: _) _ _
            refine q_goto hC dX3_deriveChoices_193 (n := 208) (by decide) ?_
            refine q_iast hC dX3_deriveChoices_208 (fun _ => rfl) hi (z_in36 hrow (z_ltn hm)) rfl ?_
            refine q_iinc hC 3 dX3_deriveChoices_209 rfl (v := nI (m + 1)) (z_inc m) (by decide) (ls' := [(0, _), (1, _), (2, _), (3, _), (4, _), (5, _), (6, _), (7, _), (8, _)]) rfl rfl ?_
            refine q_goto hC dX3_deriveChoices_212 (n := 2) (by decide) ?_
            refine q_locp [0, 1, 2, 3] (ls' := [(0, _), (1, _), (2, _), (3, _)]) rfl ?_
            refine ih (m + 1) _ (by omega) (fun p hp => by simpa [q_up] using hJ p hp) ?_
            rw [← hF]
            show _ = z_dcIt i row n (m + 1) (z_dcStep i row m T)
            clear hF ih hJ hJ0 hC
            subst hr30_1 hr170_4 hr190_7
            congr 1
            first
              | contradiction
              | (simp (config := {decide := true}) only [q_up_k, q_up_same, q_upup, z_updupd, ne_eq, not_false_eq_true] at *; first | contradiction | (simp only [z_dcStep, if_neg h68_2, if_pos h110_3, if_pos h184_5]; done))
        · refine q_iload hC 7 dX3_deriveChoices_113 rfl rfl ?_
          refine q_iconst hC dX3_deriveChoices_115 (v := 5) (by decide) rfl ?_
          refine q_icmp_eq hC dX3_deriveChoices_116 (t := 143) (n := 119) (by decide) rfl (fun h116_8 => ?_) (fun h116_8 => ?_)
          · refine q_iconst hC dX3_deriveChoices_143 (v := 0) (by decide) rfl ?_
            refine q_istore hC dX3_deriveChoices_144 (by decide) (ls' := [(0, _), (1, _), (2, _), (3, _), (4, _), (5, _), (6, _), (7, _), (8, _)]) rfl rfl ?_
            refine q_aload_n hC 0 dX3_deriveChoices_146 rfl rfl ?_
            refine q_get_f hC f_X3_30 dX3_deriveChoices_147 rfl rfl hi rfl ?_
            refine q_iload hC 4 dX3_deriveChoices_150 rfl rfl ?_
            refine q_iload hC 8 dX3_deriveChoices_152 rfl rfl ?_
            refine q_if_eq hC dX3_deriveChoices_154 (t := 162) (n := 157) (by decide) rfl (fun _ => ?_) (fun h => absurd (by decide) h)
            refine q_iload hC 7 dX3_deriveChoices_162 rfl rfl ?_
            refine q_iast hC dX3_deriveChoices_164 (fun _ => rfl) hi (z_in36 hrow (z_ltn hm)) rfl ?_
            refine q_goto hC dX3_deriveChoices_165 (n := 209) (by decide) ?_
            refine q_iinc hC 3 dX3_deriveChoices_209 rfl (v := nI (m + 1)) (z_inc m) (by decide) (ls' := [(0, _), (1, _), (2, _), (3, _), (4, _), (5, _), (6, _), (7, _), (8, _)]) rfl rfl ?_
            refine q_goto hC dX3_deriveChoices_212 (n := 2) (by decide) ?_
            refine q_locp [0, 1, 2, 3] (ls' := [(0, _), (1, _), (2, _), (3, _)]) rfl ?_
            refine ih (m + 1) _ (by omega) (fun p hp => by simpa [q_up] using hJ p hp) ?_
            rw [← hF]
            show _ = z_dcIt i row n (m + 1) (z_dcStep i row m T)
            clear hF ih hJ hJ0 hC
            subst hr30_1
            congr 1
            first
              | contradiction
              | (simp (config := {decide := true}) only [q_up_k, q_up_same, q_upup, z_updupd, ne_eq, not_false_eq_true] at *; first | contradiction | (simp only [z_dcStep, if_neg h68_2, if_neg h110_3, if_pos h116_8]; done))
          · refine q_aload_n hC 1 dX3_deriveChoices_119 rfl rfl ?_
            refine q_get_f hC f_X3_59 dX3_deriveChoices_120 rfl rfl hi rfl ?_
            refine q_get_f hC f_X3_90 dX3_deriveChoices_123 rfl rfl hi rfl ?_
            refine q_iload hC 7 dX3_deriveChoices_126 rfl rfl ?_
            refine q_bipush hC dX3_deriveChoices_128 (v := 6) (by decide) rfl ?_
            refine q_imul hC dX3_deriveChoices_130 rfl ?_
            refine q_iload_n hC 3 dX3_deriveChoices_131 rfl rfl ?_
            refine q_iadd hC dX3_deriveChoices_132 rfl ?_
            refine q_cald hC dX3_deriveChoices_133 rfl hi (z_in30 (z_v6_5 (hJ _ (z_plt hrow hm)) (by assumption) (by assumption)) (z_ltn hm)) rfl ?_
            refine q_bipush hC dX3_deriveChoices_134 (v := 97) (by decide) rfl ?_
            refine q_icmp_ne hC dX3_deriveChoices_136 (t := 143) (n := 139) (by decide) rfl (fun h136_9 => ?_) (fun h136_9 => ?_)
            · refine q_iconst hC dX3_deriveChoices_143 (v := 0) (by decide) rfl ?_
              refine q_istore hC dX3_deriveChoices_144 (by decide) (ls' := [(0, _), (1, _), (2, _), (3, _), (4, _), (5, _), (6, _), (7, _), (8, _)]) rfl rfl ?_
              refine q_aload_n hC 0 dX3_deriveChoices_146 rfl rfl ?_
              refine q_get_f hC f_X3_30 dX3_deriveChoices_147 rfl rfl hi rfl ?_
              refine q_iload hC 4 dX3_deriveChoices_150 rfl rfl ?_
              refine q_iload hC 8 dX3_deriveChoices_152 rfl rfl ?_
              refine q_if_eq hC dX3_deriveChoices_154 (t := 162) (n := 157) (by decide) rfl (fun _ => ?_) (fun h => absurd (by decide) h)
              refine q_iload hC 7 dX3_deriveChoices_162 rfl rfl ?_
              refine q_iast hC dX3_deriveChoices_164 (fun _ => rfl) hi (z_in36 hrow (z_ltn hm)) rfl ?_
              refine q_goto hC dX3_deriveChoices_165 (n := 209) (by decide) ?_
              refine q_iinc hC 3 dX3_deriveChoices_209 rfl (v := nI (m + 1)) (z_inc m) (by decide) (ls' := [(0, _), (1, _), (2, _), (3, _), (4, _), (5, _), (6, _), (7, _), (8, _)]) rfl rfl ?_
              refine q_goto hC dX3_deriveChoices_212 (n := 2) (by decide) ?_
              refine q_locp [0, 1, 2, 3] (ls' := [(0, _), (1, _), (2, _), (3, _)]) rfl ?_
              refine ih (m + 1) _ (by omega) (fun p hp => by simpa [q_up] using hJ p hp) ?_
              rw [← hF]
              show _ = z_dcIt i row n (m + 1) (z_dcStep i row m T)
              clear hF ih hJ hJ0 hC
              subst hr30_1
              congr 1
              first
                | contradiction
                | (simp (config := {decide := true}) only [q_up_k, q_up_same, q_upup, z_updupd, ne_eq, not_false_eq_true] at *; first | contradiction | (simp only [z_dcStep, if_neg h68_2, if_neg h110_3, if_neg h116_8, if_neg h136_9]; done))
            · refine q_iconst hC dX3_deriveChoices_139 (v := 1) (by decide) rfl ?_
              refine q_goto hC dX3_deriveChoices_140 (n := 144) (by decide) ?_
              refine q_istore hC dX3_deriveChoices_144 (by decide) (ls' := [(0, _), (1, _), (2, _), (3, _), (4, _), (5, _), (6, _), (7, _), (8, _)]) rfl rfl ?_
              refine q_aload_n hC 0 dX3_deriveChoices_146 rfl rfl ?_
              refine q_get_f hC f_X3_30 dX3_deriveChoices_147 rfl rfl hi rfl ?_
              refine q_iload hC 4 dX3_deriveChoices_150 rfl rfl ?_
              refine q_iload hC 8 dX3_deriveChoices_152 rfl rfl ?_
              refine q_if_eq hC dX3_deriveChoices_154 (t := 162) (n := 157) (by decide) rfl (fun h => absurd h (by decide)) (fun _ => ?_)
              refine q_bipush hC dX3_deriveChoices_157 (v := (-65)) (by decide) rfl ?_
              refine q_goto hC dX3_deriveChoices_159 (n := 164) (by decide) ?_
              refine q_iast hC dX3_deriveChoices_164 (fun _ => rfl) hi (z_in36 hrow (z_ltn hm)) rfl ?_
              refine q_goto hC dX3_deriveChoices_165 (n := 209) (by decide) ?_
              refine q_iinc hC 3 dX3_deriveChoices_209 rfl (v := nI (m + 1)) (z_inc m) (by decide) (ls' := [(0, _), (1, _), (2, _), (3, _), (4, _), (5, _), (6, _), (7, _), (8, _)]) rfl rfl ?_
              refine q_goto hC dX3_deriveChoices_212 (n := 2) (by decide) ?_
              refine q_locp [0, 1, 2, 3] (ls' := [(0, _), (1, _), (2, _), (3, _)]) rfl ?_
              refine ih (m + 1) _ (by omega) (fun p hp => by simpa [q_up] using hJ p hp) ?_
              rw [← hF]
              show _ = z_dcIt i row n (m + 1) (z_dcStep i row m T)
              clear hF ih hJ hJ0 hC
              subst hr30_1
              congr 1
              first
                | contradiction
                | (simp (config := {decide := true}) only [q_up_k, q_up_same, q_upup, z_updupd, ne_eq, not_false_eq_true] at *; first | contradiction | (simp only [z_dcStep, if_neg h68_2, if_neg h110_3, if_neg h116_8, if_pos h136_9]; done))
      · refine q_aload_n hC 0 dX3_deriveChoices_71 rfl rfl ?_
        refine q_get_f hC f_X3_27 dX3_deriveChoices_72 rfl rfl hi rfl ?_
        refine q_iload hC 4 dX3_deriveChoices_75 rfl rfl ?_
        refine q_aload_n hC 0 dX3_deriveChoices_77 rfl rfl ?_
        refine q_iload hC 6 dX3_deriveChoices_78 rfl rfl ?_
        refine q_callS hC (c_J6_bitCount_0f7a4 (q_hD hC)) m_J6_bitCount_0f7a4 lk_X3_104 dX3_deriveChoices_80 _ rfl rfl (Nat.le_of_ble_eq_true rfl) ⟨⟨by decide, by decide⟩, by decide, by decide⟩ rfl (k' := (0, 0)) rfl trivial (fun v S' hp => ?_)
        obtain ⟨r80_10, rfl, hr80_10, rfl⟩ := hp
        show qV Γ _ _ 83 _ (.int _ :: _) _ _
        refine q_iconst hC dX3_deriveChoices_83 (v := 1) (by decide) rfl ?_
        refine q_icmp_ne hC dX3_deriveChoices_84 (t := 92) (n := 87) (by decide) rfl (fun h84_11 => ?_) (fun h84_11 => ?_)
        · refine q_iload hC 5 dX3_deriveChoices_92 rfl rfl ?_
          refine q_callV hC (c_X3_lowest (q_hD hC)) m_X3_lowest lk_X3_109 dX3_deriveChoices_94 (i, _) rfl rfl rfl rfl rfl hi (Nat.le_of_ble_eq_true rfl) ⟨⟨by decide, by decide⟩, by decide, by decide⟩ rfl (k' := (0, 0)) rfl hi (fun v S' hp => ?_)
          obtain ⟨r94_12, rfl, hr94_12, rfl⟩ := hp
          show qV Γ _ _ 97 _ (.int _ :: _) _ _
          refine q_iast hC dX3_deriveChoices_97 (fun _ => rfl) hi (z_in36 hrow (z_ltn hm)) rfl ?_
          refine q_aload_n hC 0 dX3_deriveChoices_98 rfl rfl ?_
          refine q_get_f hC f_X3_18 dX3_deriveChoices_99 rfl rfl hi rfl ?_
          refine q_iload hC 4 dX3_deriveChoices_102 rfl rfl ?_
          refine q_iald hC dX3_deriveChoices_104 rfl hi (z_in36 hrow (z_ltn hm)) rfl ?_
          refine q_istore hC dX3_deriveChoices_105 (by decide) (ls' := [(0, _), (1, _), (2, _), (3, _), (4, _), (5, _), (6, _), (7, _)]) rfl rfl ?_
          refine q_iload hC 7 dX3_deriveChoices_107 rfl rfl ?_
          refine q_iconst hC dX3_deriveChoices_109 (v := (-1)) (by decide) rfl ?_
          refine q_icmp_eq hC dX3_deriveChoices_110 (t := 168) (n := 113) (by decide) rfl (fun h110_13 => ?_) (fun h110_13 => ?_)
          · refine q_iload hC 6 dX3_deriveChoices_168 rfl rfl ?_
            refine q_callS hC (c_J6_bitCount_0f7a4 (q_hD hC)) m_J6_bitCount_0f7a4 lk_X3_104 dX3_deriveChoices_170 _ rfl rfl (Nat.le_of_ble_eq_true rfl) ⟨⟨by decide, by decide⟩, by decide, by decide⟩ rfl (k' := (0, 0)) rfl trivial (fun v S' hp => ?_)
            obtain ⟨r170_14, rfl, hr170_14, rfl⟩ := hp
            show qV Γ _ _ 173 _ (.int _ :: _) _ _
            refine q_istore hC dX3_deriveChoices_173 (by decide) (ls' := [(0, _), (1, _), (2, _), (3, _), (4, _), (5, _), (6, _), (7, _), (8, _)]) rfl rfl ?_
            refine q_aload_n hC 0 dX3_deriveChoices_175 rfl rfl ?_
            refine q_get_f hC f_X3_30 dX3_deriveChoices_176 rfl rfl hi rfl ?_
            refine q_iload hC 4 dX3_deriveChoices_179 rfl rfl ?_
            refine q_iload hC 8 dX3_deriveChoices_181 rfl rfl ?_
            refine q_iconst hC dX3_deriveChoices_183 (v := 1) (by decide) rfl ?_
            refine q_icmp_ne hC dX3_deriveChoices_184 (t := 196) (n := 187) (by decide) rfl (fun h184_15 => ?_) (fun h184_15 => ?_)
            · refine q_iload hC 8 dX3_deriveChoices_196 rfl rfl ?_
              refine q_if_ne hC dX3_deriveChoices_198 (t := 206) (n := 201) (by decide) rfl (fun h198_16 => ?_) (fun h198_16 => ?_)
              · refine q_bipush hC dX3_deriveChoices_206 (v := (-73)) (by decide) rfl ?_
                refine q_iast hC dX3_deriveChoices_208 (fun _ => rfl) hi (z_in36 hrow (z_ltn hm)) rfl ?_
                refine q_iinc hC 3 dX3_deriveChoices_209 rfl (v := nI (m + 1)) (z_inc m) (by decide) (ls' := [(0, _), (1, _), (2, _), (3, _), (4, _), (5, _), (6, _), (7, _), (8, _)]) rfl rfl ?_
                refine q_goto hC dX3_deriveChoices_212 (n := 2) (by decide) ?_
                refine q_locp [0, 1, 2, 3] (ls' := [(0, _), (1, _), (2, _), (3, _)]) rfl ?_
                refine ih (m + 1) _ (by omega) (fun p hp => by simpa [q_up] using hJ p hp) ?_
                rw [← hF]
                show _ = z_dcIt i row n (m + 1) (z_dcStep i row m T)
                clear hF ih hJ hJ0 hC
                subst hr30_1 hr80_10 hr94_12 hr170_14
                congr 1
                first
                  | contradiction
                  | (simp (config := {decide := true}) only [q_up_k, q_up_same, q_upup, z_updupd, ne_eq, not_false_eq_true] at *; first | contradiction | (simp only [z_dcStep, if_pos h68_2, if_neg h84_11, if_pos h110_13, if_neg h184_15, if_neg h198_16]; done))
              · refine q_bipush hC dX3_deriveChoices_201 (v := (-65)) (by decide) rfl ?_
                refine q_goto hC dX3_deriveChoices_203 (n := 208) (by decide) ?_
                refine q_iast hC dX3_deriveChoices_208 (fun _ => rfl) hi (z_in36 hrow (z_ltn hm)) rfl ?_
                refine q_iinc hC 3 dX3_deriveChoices_209 rfl (v := nI (m + 1)) (z_inc m) (by decide) (ls' := [(0, _), (1, _), (2, _), (3, _), (4, _), (5, _), (6, _), (7, _), (8, _)]) rfl rfl ?_
                refine q_goto hC dX3_deriveChoices_212 (n := 2) (by decide) ?_
                refine q_locp [0, 1, 2, 3] (ls' := [(0, _), (1, _), (2, _), (3, _)]) rfl ?_
                refine ih (m + 1) _ (by omega) (fun p hp => by simpa [q_up] using hJ p hp) ?_
                rw [← hF]
                show _ = z_dcIt i row n (m + 1) (z_dcStep i row m T)
                clear hF ih hJ hJ0 hC
                subst hr30_1 hr80_10 hr94_12 hr170_14
                congr 1
                first
                  | contradiction
                  | (simp (config := {decide := true}) only [q_up_k, q_up_same, q_upup, z_updupd, ne_eq, not_false_eq_true] at *; first | contradiction | (simp only [z_dcStep, if_pos h68_2, if_neg h84_11, if_pos h110_13, if_neg h184_15, if_pos h198_16]; done))
            · refine q_aload_n hC 0 dX3_deriveChoices_187 rfl rfl ?_
              refine q_iload hC 6 dX3_deriveChoices_188 rfl rfl ?_
              refine q_callV hC (c_X3_lowest (q_hD hC)) m_X3_lowest lk_X3_109 dX3_deriveChoices_190 (i, _) rfl rfl rfl rfl rfl hi (Nat.le_of_ble_eq_true rfl) ⟨⟨by decide, by decide⟩, by decide, by decide⟩ rfl (k' := (0, 0)) rfl hi (fun v S' hp => ?_)
              obtain ⟨r190_17, rfl, hr190_17, rfl⟩ := hp
              show qV Γ _ _ 193 _ (.int _ :: _) _ _
              refine q_goto hC dX3_deriveChoices_193 (n := 208) (by decide) ?_
              refine q_iast hC dX3_deriveChoices_208 (fun _ => rfl) hi (z_in36 hrow (z_ltn hm)) rfl ?_
              refine q_iinc hC 3 dX3_deriveChoices_209 rfl (v := nI (m + 1)) (z_inc m) (by decide) (ls' := [(0, _), (1, _), (2, _), (3, _), (4, _), (5, _), (6, _), (7, _), (8, _)]) rfl rfl ?_
              refine q_goto hC dX3_deriveChoices_212 (n := 2) (by decide) ?_
              refine q_locp [0, 1, 2, 3] (ls' := [(0, _), (1, _), (2, _), (3, _)]) rfl ?_
              refine ih (m + 1) _ (by omega) (fun p hp => by simpa [q_up] using hJ p hp) ?_
              rw [← hF]
              show _ = z_dcIt i row n (m + 1) (z_dcStep i row m T)
              clear hF ih hJ hJ0 hC
              subst hr30_1 hr80_10 hr94_12 hr170_14 hr190_17
              congr 1
              first
                | contradiction
                | (simp (config := {decide := true}) only [q_up_k, q_up_same, q_upup, z_updupd, ne_eq, not_false_eq_true] at *; first | contradiction | (simp only [z_dcStep, if_pos h68_2, if_neg h84_11, if_pos h110_13, if_pos h184_15]; done))
          · refine q_iload hC 7 dX3_deriveChoices_113 rfl rfl ?_
            refine q_iconst hC dX3_deriveChoices_115 (v := 5) (by decide) rfl ?_
            refine q_icmp_eq hC dX3_deriveChoices_116 (t := 143) (n := 119) (by decide) rfl (fun h116_18 => ?_) (fun h116_18 => ?_)
            · refine q_iconst hC dX3_deriveChoices_143 (v := 0) (by decide) rfl ?_
              refine q_istore hC dX3_deriveChoices_144 (by decide) (ls' := [(0, _), (1, _), (2, _), (3, _), (4, _), (5, _), (6, _), (7, _), (8, _)]) rfl rfl ?_
              refine q_aload_n hC 0 dX3_deriveChoices_146 rfl rfl ?_
              refine q_get_f hC f_X3_30 dX3_deriveChoices_147 rfl rfl hi rfl ?_
              refine q_iload hC 4 dX3_deriveChoices_150 rfl rfl ?_
              refine q_iload hC 8 dX3_deriveChoices_152 rfl rfl ?_
              refine q_if_eq hC dX3_deriveChoices_154 (t := 162) (n := 157) (by decide) rfl (fun _ => ?_) (fun h => absurd (by decide) h)
              refine q_iload hC 7 dX3_deriveChoices_162 rfl rfl ?_
              refine q_iast hC dX3_deriveChoices_164 (fun _ => rfl) hi (z_in36 hrow (z_ltn hm)) rfl ?_
              refine q_goto hC dX3_deriveChoices_165 (n := 209) (by decide) ?_
              refine q_iinc hC 3 dX3_deriveChoices_209 rfl (v := nI (m + 1)) (z_inc m) (by decide) (ls' := [(0, _), (1, _), (2, _), (3, _), (4, _), (5, _), (6, _), (7, _), (8, _)]) rfl rfl ?_
              refine q_goto hC dX3_deriveChoices_212 (n := 2) (by decide) ?_
              refine q_locp [0, 1, 2, 3] (ls' := [(0, _), (1, _), (2, _), (3, _)]) rfl ?_
              refine ih (m + 1) _ (by omega) (fun p hp => by simpa [q_up] using hJ p hp) ?_
              rw [← hF]
              show _ = z_dcIt i row n (m + 1) (z_dcStep i row m T)
              clear hF ih hJ hJ0 hC
              subst hr30_1 hr80_10 hr94_12
              congr 1
              first
                | contradiction
                | (simp (config := {decide := true}) only [q_up_k, q_up_same, q_upup, z_updupd, ne_eq, not_false_eq_true] at *; first | contradiction | (simp only [z_dcStep, if_pos h68_2, if_neg h84_11, if_neg h110_13, if_pos h116_18]; done))
            · refine q_aload_n hC 1 dX3_deriveChoices_119 rfl rfl ?_
              refine q_get_f hC f_X3_59 dX3_deriveChoices_120 rfl rfl hi rfl ?_
              refine q_get_f hC f_X3_90 dX3_deriveChoices_123 rfl rfl hi rfl ?_
              refine q_iload hC 7 dX3_deriveChoices_126 rfl rfl ?_
              refine q_bipush hC dX3_deriveChoices_128 (v := 6) (by decide) rfl ?_
              refine q_imul hC dX3_deriveChoices_130 rfl ?_
              refine q_iload_n hC 3 dX3_deriveChoices_131 rfl rfl ?_
              refine q_iadd hC dX3_deriveChoices_132 rfl ?_
              refine q_cald hC dX3_deriveChoices_133 rfl hi (z_in30 (z_v6_5 (hJ _ (z_plt hrow hm)) (by assumption) (by assumption)) (z_ltn hm)) rfl ?_
              refine q_bipush hC dX3_deriveChoices_134 (v := 97) (by decide) rfl ?_
              refine q_icmp_ne hC dX3_deriveChoices_136 (t := 143) (n := 139) (by decide) rfl (fun h136_19 => ?_) (fun h136_19 => ?_)
              · refine q_iconst hC dX3_deriveChoices_143 (v := 0) (by decide) rfl ?_
                refine q_istore hC dX3_deriveChoices_144 (by decide) (ls' := [(0, _), (1, _), (2, _), (3, _), (4, _), (5, _), (6, _), (7, _), (8, _)]) rfl rfl ?_
                refine q_aload_n hC 0 dX3_deriveChoices_146 rfl rfl ?_
                refine q_get_f hC f_X3_30 dX3_deriveChoices_147 rfl rfl hi rfl ?_
                refine q_iload hC 4 dX3_deriveChoices_150 rfl rfl ?_
                refine q_iload hC 8 dX3_deriveChoices_152 rfl rfl ?_
                refine q_if_eq hC dX3_deriveChoices_154 (t := 162) (n := 157) (by decide) rfl (fun _ => ?_) (fun h => absurd (by decide) h)
                refine q_iload hC 7 dX3_deriveChoices_162 rfl rfl ?_
                refine q_iast hC dX3_deriveChoices_164 (fun _ => rfl) hi (z_in36 hrow (z_ltn hm)) rfl ?_
                refine q_goto hC dX3_deriveChoices_165 (n := 209) (by decide) ?_
                refine q_iinc hC 3 dX3_deriveChoices_209 rfl (v := nI (m + 1)) (z_inc m) (by decide) (ls' := [(0, _), (1, _), (2, _), (3, _), (4, _), (5, _), (6, _), (7, _), (8, _)]) rfl rfl ?_
                refine q_goto hC dX3_deriveChoices_212 (n := 2) (by decide) ?_
                refine q_locp [0, 1, 2, 3] (ls' := [(0, _), (1, _), (2, _), (3, _)]) rfl ?_
                refine ih (m + 1) _ (by omega) (fun p hp => by simpa [q_up] using hJ p hp) ?_
                rw [← hF]
                show _ = z_dcIt i row n (m + 1) (z_dcStep i row m T)
                clear hF ih hJ hJ0 hC
                subst hr30_1 hr80_10 hr94_12
                congr 1
                first
                  | contradiction
                  | (simp (config := {decide := true}) only [q_up_k, q_up_same, q_upup, z_updupd, ne_eq, not_false_eq_true] at *; first | contradiction | (simp only [z_dcStep, if_pos h68_2, if_neg h84_11, if_neg h110_13, if_neg h116_18, if_neg h136_19]; done))
              · refine q_iconst hC dX3_deriveChoices_139 (v := 1) (by decide) rfl ?_
                refine q_goto hC dX3_deriveChoices_140 (n := 144) (by decide) ?_
                refine q_istore hC dX3_deriveChoices_144 (by decide) (ls' := [(0, _), (1, _), (2, _), (3, _), (4, _), (5, _), (6, _), (7, _), (8, _)]) rfl rfl ?_
                refine q_aload_n hC 0 dX3_deriveChoices_146 rfl rfl ?_
                refine q_get_f hC f_X3_30 dX3_deriveChoices_147 rfl rfl hi rfl ?_
                refine q_iload hC 4 dX3_deriveChoices_150 rfl rfl ?_
                refine q_iload hC 8 dX3_deriveChoices_152 rfl rfl ?_
                refine q_if_eq hC dX3_deriveChoices_154 (t := 162) (n := 157) (by decide) rfl (fun h => absurd h (by decide)) (fun _ => ?_)
                refine q_bipush hC dX3_deriveChoices_157 (v := (-65)) (by decide) rfl ?_
                refine q_goto hC dX3_deriveChoices_159 (n := 164) (by decide) ?_
                refine q_iast hC dX3_deriveChoices_164 (fun _ => rfl) hi (z_in36 hrow (z_ltn hm)) rfl ?_
                refine q_goto hC dX3_deriveChoices_165 (n := 209) (by decide) ?_
                refine q_iinc hC 3 dX3_deriveChoices_209 rfl (v := nI (m + 1)) (z_inc m) (by decide) (ls' := [(0, _), (1, _), (2, _), (3, _), (4, _), (5, _), (6, _), (7, _), (8, _)]) rfl rfl ?_
                refine q_goto hC dX3_deriveChoices_212 (n := 2) (by decide) ?_
                refine q_locp [0, 1, 2, 3] (ls' := [(0, _), (1, _), (2, _), (3, _)]) rfl ?_
                refine ih (m + 1) _ (by omega) (fun p hp => by simpa [q_up] using hJ p hp) ?_
                rw [← hF]
                show _ = z_dcIt i row n (m + 1) (z_dcStep i row m T)
                clear hF ih hJ hJ0 hC
                subst hr30_1 hr80_10 hr94_12
                congr 1
                first
                  | contradiction
                  | (simp (config := {decide := true}) only [q_up_k, q_up_same, q_upup, z_updupd, ne_eq, not_false_eq_true] at *; first | contradiction | (simp only [z_dcStep, if_pos h68_2, if_neg h84_11, if_neg h110_13, if_neg h116_18, if_pos h136_19]; done))
        · refine q_iload hC 6 dX3_deriveChoices_87 rfl rfl ?_
          refine q_goto hC dX3_deriveChoices_89 (n := 94) (by decide) ?_
          refine q_callV hC (c_X3_lowest (q_hD hC)) m_X3_lowest lk_X3_109 dX3_deriveChoices_94 (i, _) rfl rfl rfl rfl rfl hi (Nat.le_of_ble_eq_true rfl) ⟨⟨by decide, by decide⟩, by decide, by decide⟩ rfl (k' := (0, 0)) rfl hi (fun v S' hp => ?_)
          obtain ⟨r94_20, rfl, hr94_20, rfl⟩ := hp
          show qV Γ _ _ 97 _ (.int _ :: _) _ _
          refine q_iast hC dX3_deriveChoices_97 (fun _ => rfl) hi (z_in36 hrow (z_ltn hm)) rfl ?_
          refine q_aload_n hC 0 dX3_deriveChoices_98 rfl rfl ?_
          refine q_get_f hC f_X3_18 dX3_deriveChoices_99 rfl rfl hi rfl ?_
          refine q_iload hC 4 dX3_deriveChoices_102 rfl rfl ?_
          refine q_iald hC dX3_deriveChoices_104 rfl hi (z_in36 hrow (z_ltn hm)) rfl ?_
          refine q_istore hC dX3_deriveChoices_105 (by decide) (ls' := [(0, _), (1, _), (2, _), (3, _), (4, _), (5, _), (6, _), (7, _)]) rfl rfl ?_
          refine q_iload hC 7 dX3_deriveChoices_107 rfl rfl ?_
          refine q_iconst hC dX3_deriveChoices_109 (v := (-1)) (by decide) rfl ?_
          refine q_icmp_eq hC dX3_deriveChoices_110 (t := 168) (n := 113) (by decide) rfl (fun h110_21 => ?_) (fun h110_21 => ?_)
          · refine q_iload hC 6 dX3_deriveChoices_168 rfl rfl ?_
            refine q_callS hC (c_J6_bitCount_0f7a4 (q_hD hC)) m_J6_bitCount_0f7a4 lk_X3_104 dX3_deriveChoices_170 _ rfl rfl (Nat.le_of_ble_eq_true rfl) ⟨⟨by decide, by decide⟩, by decide, by decide⟩ rfl (k' := (0, 0)) rfl trivial (fun v S' hp => ?_)
            obtain ⟨r170_22, rfl, hr170_22, rfl⟩ := hp
            show qV Γ _ _ 173 _ (.int _ :: _) _ _
            refine q_istore hC dX3_deriveChoices_173 (by decide) (ls' := [(0, _), (1, _), (2, _), (3, _), (4, _), (5, _), (6, _), (7, _), (8, _)]) rfl rfl ?_
            refine q_aload_n hC 0 dX3_deriveChoices_175 rfl rfl ?_
            refine q_get_f hC f_X3_30 dX3_deriveChoices_176 rfl rfl hi rfl ?_
            refine q_iload hC 4 dX3_deriveChoices_179 rfl rfl ?_
            refine q_iload hC 8 dX3_deriveChoices_181 rfl rfl ?_
            refine q_iconst hC dX3_deriveChoices_183 (v := 1) (by decide) rfl ?_
            refine q_icmp_ne hC dX3_deriveChoices_184 (t := 196) (n := 187) (by decide) rfl (fun h184_23 => ?_) (fun h184_23 => ?_)
            · refine q_iload hC 8 dX3_deriveChoices_196 rfl rfl ?_
              refine q_if_ne hC dX3_deriveChoices_198 (t := 206) (n := 201) (by decide) rfl (fun h198_24 => ?_) (fun h198_24 => ?_)
              · refine q_bipush hC dX3_deriveChoices_206 (v := (-73)) (by decide) rfl ?_
                refine q_iast hC dX3_deriveChoices_208 (fun _ => rfl) hi (z_in36 hrow (z_ltn hm)) rfl ?_
                refine q_iinc hC 3 dX3_deriveChoices_209 rfl (v := nI (m + 1)) (z_inc m) (by decide) (ls' := [(0, _), (1, _), (2, _), (3, _), (4, _), (5, _), (6, _), (7, _), (8, _)]) rfl rfl ?_
                refine q_goto hC dX3_deriveChoices_212 (n := 2) (by decide) ?_
                refine q_locp [0, 1, 2, 3] (ls' := [(0, _), (1, _), (2, _), (3, _)]) rfl ?_
                refine ih (m + 1) _ (by omega) (fun p hp => by simpa [q_up] using hJ p hp) ?_
                rw [← hF]
                show _ = z_dcIt i row n (m + 1) (z_dcStep i row m T)
                clear hF ih hJ hJ0 hC
                subst hr30_1 hr80_10 hr94_20 hr170_22
                congr 1
                first
                  | contradiction
                  | (simp (config := {decide := true}) only [q_up_k, q_up_same, q_upup, z_updupd, ne_eq, not_false_eq_true] at *; first | contradiction | (simp only [z_dcStep, if_pos h68_2, if_pos h84_11, if_pos h110_21, if_neg h184_23, if_neg h198_24]; done))
              · refine q_bipush hC dX3_deriveChoices_201 (v := (-65)) (by decide) rfl ?_
                refine q_goto hC dX3_deriveChoices_203 (n := 208) (by decide) ?_
                refine q_iast hC dX3_deriveChoices_208 (fun _ => rfl) hi (z_in36 hrow (z_ltn hm)) rfl ?_
                refine q_iinc hC 3 dX3_deriveChoices_209 rfl (v := nI (m + 1)) (z_inc m) (by decide) (ls' := [(0, _), (1, _), (2, _), (3, _), (4, _), (5, _), (6, _), (7, _), (8, _)]) rfl rfl ?_
                refine q_goto hC dX3_deriveChoices_212 (n := 2) (by decide) ?_
                refine q_locp [0, 1, 2, 3] (ls' := [(0, _), (1, _), (2, _), (3, _)]) rfl ?_
                refine ih (m + 1) _ (by omega) (fun p hp => by simpa [q_up] using hJ p hp) ?_
                rw [← hF]
                show _ = z_dcIt i row n (m + 1) (z_dcStep i row m T)
                clear hF ih hJ hJ0 hC
                subst hr30_1 hr80_10 hr94_20 hr170_22
                congr 1
                first
                  | contradiction
                  | (simp (config := {decide := true}) only [q_up_k, q_up_same, q_upup, z_updupd, ne_eq, not_false_eq_true] at *; first | contradiction | (simp only [z_dcStep, if_pos h68_2, if_pos h84_11, if_pos h110_21, if_neg h184_23, if_pos h198_24]; done))
            · refine q_aload_n hC 0 dX3_deriveChoices_187 rfl rfl ?_
              refine q_iload hC 6 dX3_deriveChoices_188 rfl rfl ?_
              refine q_callV hC (c_X3_lowest (q_hD hC)) m_X3_lowest lk_X3_109 dX3_deriveChoices_190 (i, _) rfl rfl rfl rfl rfl hi (Nat.le_of_ble_eq_true rfl) ⟨⟨by decide, by decide⟩, by decide, by decide⟩ rfl (k' := (0, 0)) rfl hi (fun v S' hp => ?_)
              obtain ⟨r190_25, rfl, hr190_25, rfl⟩ := hp
              show qV Γ _ _ 193 _ (.int _ :: _) _ _
              refine q_goto hC dX3_deriveChoices_193 (n := 208) (by decide) ?_
              refine q_iast hC dX3_deriveChoices_208 (fun _ => rfl) hi (z_in36 hrow (z_ltn hm)) rfl ?_
              refine q_iinc hC 3 dX3_deriveChoices_209 rfl (v := nI (m + 1)) (z_inc m) (by decide) (ls' := [(0, _), (1, _), (2, _), (3, _), (4, _), (5, _), (6, _), (7, _), (8, _)]) rfl rfl ?_
              refine q_goto hC dX3_deriveChoices_212 (n := 2) (by decide) ?_
              refine q_locp [0, 1, 2, 3] (ls' := [(0, _), (1, _), (2, _), (3, _)]) rfl ?_
              refine ih (m + 1) _ (by omega) (fun p hp => by simpa [q_up] using hJ p hp) ?_
              rw [← hF]
              show _ = z_dcIt i row n (m + 1) (z_dcStep i row m T)
              clear hF ih hJ hJ0 hC
              subst hr30_1 hr80_10 hr94_20 hr170_22 hr190_25
              congr 1
              first
                | contradiction
                | (simp (config := {decide := true}) only [q_up_k, q_up_same, q_upup, z_updupd, ne_eq, not_false_eq_true] at *; first | contradiction | (simp only [z_dcStep, if_pos h68_2, if_pos h84_11, if_pos h110_21, if_pos h184_23]; done))
          · refine q_iload hC 7 dX3_deriveChoices_113 rfl rfl ?_
            refine q_iconst hC dX3_deriveChoices_115 (v := 5) (by decide) rfl ?_
            refine q_icmp_eq hC dX3_deriveChoices_116 (t := 143) (n := 119) (by decide) rfl (fun h116_26 => ?_) (fun h116_26 => ?_)
            · refine q_iconst hC dX3_deriveChoices_143 (v := 0) (by decide) rfl ?_
              refine q_istore hC dX3_deriveChoices_144 (by decide) (ls' := [(0, _), (1, _), (2, _), (3, _), (4, _), (5, _), (6, _), (7, _), (8, _)]) rfl rfl ?_
              refine q_aload_n hC 0 dX3_deriveChoices_146 rfl rfl ?_
              refine q_get_f hC f_X3_30 dX3_deriveChoices_147 rfl rfl hi rfl ?_
              refine q_iload hC 4 dX3_deriveChoices_150 rfl rfl ?_
              refine q_iload hC 8 dX3_deriveChoices_152 rfl rfl ?_
              refine q_if_eq hC dX3_deriveChoices_154 (t := 162) (n := 157) (by decide) rfl (fun _ => ?_) (fun h => absurd (by decide) h)
              refine q_iload hC 7 dX3_deriveChoices_162 rfl rfl ?_
              refine q_iast hC dX3_deriveChoices_164 (fun _ => rfl) hi (z_in36 hrow (z_ltn hm)) rfl ?_
              refine q_goto hC dX3_deriveChoices_165 (n := 209) (by decide) ?_
              refine q_iinc hC 3 dX3_deriveChoices_209 rfl (v := nI (m + 1)) (z_inc m) (by decide) (ls' := [(0, _), (1, _), (2, _), (3, _), (4, _), (5, _), (6, _), (7, _), (8, _)]) rfl rfl ?_
              refine q_goto hC dX3_deriveChoices_212 (n := 2) (by decide) ?_
              refine q_locp [0, 1, 2, 3] (ls' := [(0, _), (1, _), (2, _), (3, _)]) rfl ?_
              refine ih (m + 1) _ (by omega) (fun p hp => by simpa [q_up] using hJ p hp) ?_
              rw [← hF]
              show _ = z_dcIt i row n (m + 1) (z_dcStep i row m T)
              clear hF ih hJ hJ0 hC
              subst hr30_1 hr80_10 hr94_20
              congr 1
              first
                | contradiction
                | (simp (config := {decide := true}) only [q_up_k, q_up_same, q_upup, z_updupd, ne_eq, not_false_eq_true] at *; first | contradiction | (simp only [z_dcStep, if_pos h68_2, if_pos h84_11, if_neg h110_21, if_pos h116_26]; done))
            · refine q_aload_n hC 1 dX3_deriveChoices_119 rfl rfl ?_
              refine q_get_f hC f_X3_59 dX3_deriveChoices_120 rfl rfl hi rfl ?_
              refine q_get_f hC f_X3_90 dX3_deriveChoices_123 rfl rfl hi rfl ?_
              refine q_iload hC 7 dX3_deriveChoices_126 rfl rfl ?_
              refine q_bipush hC dX3_deriveChoices_128 (v := 6) (by decide) rfl ?_
              refine q_imul hC dX3_deriveChoices_130 rfl ?_
              refine q_iload_n hC 3 dX3_deriveChoices_131 rfl rfl ?_
              refine q_iadd hC dX3_deriveChoices_132 rfl ?_
              refine q_cald hC dX3_deriveChoices_133 rfl hi (z_in30 (z_v6_5 (hJ _ (z_plt hrow hm)) (by assumption) (by assumption)) (z_ltn hm)) rfl ?_
              refine q_bipush hC dX3_deriveChoices_134 (v := 97) (by decide) rfl ?_
              refine q_icmp_ne hC dX3_deriveChoices_136 (t := 143) (n := 139) (by decide) rfl (fun h136_27 => ?_) (fun h136_27 => ?_)
              · refine q_iconst hC dX3_deriveChoices_143 (v := 0) (by decide) rfl ?_
                refine q_istore hC dX3_deriveChoices_144 (by decide) (ls' := [(0, _), (1, _), (2, _), (3, _), (4, _), (5, _), (6, _), (7, _), (8, _)]) rfl rfl ?_
                refine q_aload_n hC 0 dX3_deriveChoices_146 rfl rfl ?_
                refine q_get_f hC f_X3_30 dX3_deriveChoices_147 rfl rfl hi rfl ?_
                refine q_iload hC 4 dX3_deriveChoices_150 rfl rfl ?_
                refine q_iload hC 8 dX3_deriveChoices_152 rfl rfl ?_
                refine q_if_eq hC dX3_deriveChoices_154 (t := 162) (n := 157) (by decide) rfl (fun _ => ?_) (fun h => absurd (by decide) h)
                refine q_iload hC 7 dX3_deriveChoices_162 rfl rfl ?_
                refine q_iast hC dX3_deriveChoices_164 (fun _ => rfl) hi (z_in36 hrow (z_ltn hm)) rfl ?_
                refine q_goto hC dX3_deriveChoices_165 (n := 209) (by decide) ?_
                refine q_iinc hC 3 dX3_deriveChoices_209 rfl (v := nI (m + 1)) (z_inc m) (by decide) (ls' := [(0, _), (1, _), (2, _), (3, _), (4, _), (5, _), (6, _), (7, _), (8, _)]) rfl rfl ?_
                refine q_goto hC dX3_deriveChoices_212 (n := 2) (by decide) ?_
                refine q_locp [0, 1, 2, 3] (ls' := [(0, _), (1, _), (2, _), (3, _)]) rfl ?_
                refine ih (m + 1) _ (by omega) (fun p hp => by simpa [q_up] using hJ p hp) ?_
                rw [← hF]
                show _ = z_dcIt i row n (m + 1) (z_dcStep i row m T)
                clear hF ih hJ hJ0 hC
                subst hr30_1 hr80_10 hr94_20
                congr 1
                first
                  | contradiction
                  | (simp (config := {decide := true}) only [q_up_k, q_up_same, q_upup, z_updupd, ne_eq, not_false_eq_true] at *; first | contradiction | (simp only [z_dcStep, if_pos h68_2, if_pos h84_11, if_neg h110_21, if_neg h116_26, if_neg h136_27]; done))
              · refine q_iconst hC dX3_deriveChoices_139 (v := 1) (by decide) rfl ?_
                refine q_goto hC dX3_deriveChoices_140 (n := 144) (by decide) ?_
                refine q_istore hC dX3_deriveChoices_144 (by decide) (ls' := [(0, _), (1, _), (2, _), (3, _), (4, _), (5, _), (6, _), (7, _), (8, _)]) rfl rfl ?_
                refine q_aload_n hC 0 dX3_deriveChoices_146 rfl rfl ?_
                refine q_get_f hC f_X3_30 dX3_deriveChoices_147 rfl rfl hi rfl ?_
                refine q_iload hC 4 dX3_deriveChoices_150 rfl rfl ?_
                refine q_iload hC 8 dX3_deriveChoices_152 rfl rfl ?_
                refine q_if_eq hC dX3_deriveChoices_154 (t := 162) (n := 157) (by decide) rfl (fun h => absurd h (by decide)) (fun _ => ?_)
                refine q_bipush hC dX3_deriveChoices_157 (v := (-65)) (by decide) rfl ?_
                refine q_goto hC dX3_deriveChoices_159 (n := 164) (by decide) ?_
                refine q_iast hC dX3_deriveChoices_164 (fun _ => rfl) hi (z_in36 hrow (z_ltn hm)) rfl ?_
                refine q_goto hC dX3_deriveChoices_165 (n := 209) (by decide) ?_
                refine q_iinc hC 3 dX3_deriveChoices_209 rfl (v := nI (m + 1)) (z_inc m) (by decide) (ls' := [(0, _), (1, _), (2, _), (3, _), (4, _), (5, _), (6, _), (7, _), (8, _)]) rfl rfl ?_
                refine q_goto hC dX3_deriveChoices_212 (n := 2) (by decide) ?_
                refine q_locp [0, 1, 2, 3] (ls' := [(0, _), (1, _), (2, _), (3, _)]) rfl ?_
                refine ih (m + 1) _ (by omega) (fun p hp => by simpa [q_up] using hJ p hp) ?_
                rw [← hF]
                show _ = z_dcIt i row n (m + 1) (z_dcStep i row m T)
                clear hF ih hJ hJ0 hC
                subst hr30_1 hr80_10 hr94_20
                congr 1
                first
                  | contradiction
                  | (simp (config := {decide := true}) only [q_up_k, q_up_same, q_upup, z_updupd, ne_eq, not_false_eq_true] at *; first | contradiction | (simp only [z_dcStep, if_pos h68_2, if_pos h84_11, if_neg h110_21, if_neg h116_26, if_pos h136_27]; done))
  show qV Γ _ _ 0 [(0, .ref (q_ad Γ 17 i)), (1, .ref (q_ad Γ 1 i)), (2, .int row)] [] S (0, 0)
  refine q_iconst hC dX3_deriveChoices_0 (v := 0) (by decide) rfl ?_
  refine q_istore_n hC dX3_deriveChoices_1 (by decide) (ls' := [(0, _), (1, _), (2, _), (3, _)]) rfl rfl ?_
  exact L 6 0 S (by omega) hJ0 rfl
