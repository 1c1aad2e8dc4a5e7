-- printed by wip/p36/gen_m2.py
theorem z_e10 : ((1 : Int32) = 0) = False := by decide
theorem z_e01 : ((0 : Int32) = 1) = False := by decide
theorem z_v5n {x : Int32} (h : z_v5 x) (h1 : ¬ x = -1) : z_lt x 5 := h.elim (fun z => absurd z h1) id
theorem z_v6n {x : Int32} (h : z_v6 x) (h1 : ¬ x = -1) : z_lt x 6 := h.elim (fun z => absurd z h1) id
theorem z_ltw {x : Int32} {a b : Nat} (h : z_lt x a) (hab : a ≤ b) : z_lt x b := h.elim fun j hj => ⟨j, Nat.lt_of_lt_of_le hj.1 hab, hj.2⟩
theorem z_lt5 {x : Int32} (h : z_lt x 6) (h2 : ¬ x = 5) : z_lt x 5 := by
  obtain ⟨j, hj, rfl⟩ := h
  refine ⟨j, ?_, rfl⟩
  rcases Nat.lt_or_ge j 5 with q | q
  · exact q
  · obtain rfl : j = 5 := by omega
    exact absurd rfl h2
theorem z_fur {a : Int32} {m : Nat} (ha : z_lt a 5) (hm : m < 6) : ¬ a * 6 + nI m = -1 := by
  obtain ⟨j, hj, rfl⟩ := ha
  have e : nI j * 6 + nI m = nI (j * 6 + m) := by
    show nI j * nI 6 + nI m = _
    rw [pk_mul, nI_add]
  rw [e]
  intro h
  have := nI_pos' (n := j * 6 + m) (by omega)
  rw [h] at this
  exact absurd this (by decide)
theorem z_in30m {m : Nat} (hm : m < 6) : vp_in (30 + nI m) 36 := by
  have e : 30 + nI m = nI (30 + m) := by
    show nI 30 + nI m = _
    rw [nI_add]
  rw [e]
  exact vp_in_nI (by omega) (by decide)
theorem z_narZ {x : Int32} (h : x = 0 ∨ x = 1) : narrow .boolean (.int x) = .int x ∧ fits .boolean (.int x) = true := by
  rcases h with rfl | rfl <;> exact ⟨rfl, rfl⟩
def z_s1Step (i j : Nat) (m : Nat) (T : qM) : qM := if z_has (T 28 j 2) (nI m) = 0 then T else q_up T 18 i (upd (T 18 i) (5 : Int32).toNatClampNeg (T 18 i (5 : Int32).toNatClampNeg ||| T 18 i (nI m).toNatClampNeg))
def z_s1It (i j : Nat) : Nat → Nat → qM → qM
  | 0, _, T => T
  | n + 1, m, T => z_s1It i j n (m + 1) (z_s1Step i j m T)
def z_sup (i j : Nat) (T : qM) : qM := if T 28 j 1 = -1 then T else q_up T 18 i (upd (T 18 i) (5 : Int32).toNatClampNeg (T 18 i (5 : Int32).toNatClampNeg ||| ((1 <<< (T 28 j 1 &&& 31)) ||| T 18 i (T 28 j 1).toNatClampNeg)))
def z_s2Step (i j : Nat) (m : Nat) (T : qM) : qM :=
  let pl := (30 + nI m).toNatClampNeg
  q_up (q_up (q_up T 19 i (upd (T 19 i) pl (if T 28 j 3 = nI m then 5 else if T 28 j 1 = -1 then -1 else T 19 i (T 28 j 1 * 6 + nI m).toNatClampNeg))) 20 i
    (upd (T 20 i) pl (if T 28 j 3 = nI m then 5 else if T 28 j 1 = -1 then -1 else T 20 i (T 28 j 1 * 6 + nI m).toNatClampNeg))) 25 i (upd (T 25 i) pl (z_inh (T 25 i) (T 28 j 2) (T 28 j 1) (nI m)))
def z_s2It (i j : Nat) : Nat → Nat → qM → qM
  | 0, _, T => T
  | n + 1, m, T => z_s2It i j n (m + 1) (z_s2Step i j m T)
def z_seat (i j : Nat) (S : qM) : qM := z_s2It i j 6 0 (z_sup i j (z_s1It i j 5 0 (q_up S 18 i (upd (S 18 i) (5 : Int32).toNatClampNeg (S 28 j 2)))))
abbrev rm_X3_seat : Room := { frames := 1, cells := 0, slots := 0, locals := 24 }
set_option maxHeartbeats 4000000 in
set_option maxRecDepth 100000 in
theorem c_X3_seat {L : qL} (hD : q_D L.2.2.2.1) : qCT L yX3_seat cX3_seat 5 none rm_X3_seat (fun ad _ (x : Nat × Nat) => [.ref (ad 17 x.1), .ref (ad 28 x.2)]) (fun x S => x.1 < 4 ∧ x.2 < 6 ∧ z_v5 (S 28 x.2 1)) (qPv (fun x S S' => S' = z_seat x.1 x.2 S)) := by
  refine q_met hD (by decide) (fun _ => Nat.le_of_ble_eq_true rfl) (fun Γ x S hΓ hpre hC => ?_)
  subst hΓ
  obtain ⟨i, j⟩ := x
  obtain ⟨hi, hj, hJ0⟩ := hpre
  have hi : i < 4 := hi
  have hj : j < 6 := hj
  have hJ0 : z_v5 (S 28 j 1) := hJ0
  have L2 : ∀ (n m : Nat) (T : qM), m + n = 6 → z_v5 (T 28 j 1) → z_s2It i j n m T = z_seat i j S → qV Γ rm_X3_seat 5 84 [(0, .ref (q_ad Γ 17 i)), (1, .ref (q_ad Γ 28 j)), (2, .int (nI m))] [] T (0, 0) := by
    intro n
    induction n with
    | zero =>
      intro m T hmn hJ hF
      obtain rfl : m = 6 := by omega
      refine q_iload_n hC 2 dX3_seat_84 rfl rfl ?_
      refine q_bipush hC dX3_seat_85 (v := 6) (by decide) rfl ?_
      refine q_icmp_ge hC dX3_seat_87 (t := 213) (n := 90) (by decide) rfl (fun h87 => ?_) (fun h87 => absurd (by decide) h87)
      refine q_vret hC dX3_seat_213 ⟨by decide, by decide⟩ ⟨rfl, ?_⟩
      exact hF
    | succ n ih =>
      intro m T hmn hJ hF
      have hm : m < 6 := by omega
      refine q_iload_n hC 2 dX3_seat_84 rfl rfl ?_
      refine q_bipush hC dX3_seat_85 (v := 6) (by decide) rfl ?_
      refine q_icmp_ge hC dX3_seat_87 (t := 213) (n := 90) (by decide) rfl (fun h87 => absurd h87 (nI_ge hm (by decide))) (fun h87 => ?_)
      refine q_bipush hC dX3_seat_90 (v := 30) (by decide) rfl ?_
      refine q_iload_n hC 2 dX3_seat_92 rfl rfl ?_
      refine q_iadd hC dX3_seat_93 rfl ?_
      refine q_istore_n hC dX3_seat_94 (by decide) (ls' := [(0, _), (1, _), (2, _), (3, _)]) rfl rfl ?_
      refine q_aload_n hC 1 dX3_seat_95 rfl rfl ?_
      refine q_get_f hC f_X3_149 dX3_seat_96 rfl rfl hj rfl ?_
      refine q_iconst hC dX3_seat_99 (v := (-1)) (by decide) rfl ?_
      refine q_icmp_ne hC dX3_seat_100 (t := 107) (n := 103) (by decide) rfl (fun h100 => ?_) (fun h100 => ?_)
      · refine q_aload_n hC 1 dX3_seat_107 rfl rfl ?_
        refine q_get_f hC f_X3_149 dX3_seat_108 rfl rfl hj rfl ?_
        refine q_bipush hC dX3_seat_111 (v := 6) (by decide) rfl ?_
        refine q_imul hC dX3_seat_113 rfl ?_
        refine q_iload_n hC 2 dX3_seat_114 rfl rfl ?_
        refine q_iadd hC dX3_seat_115 rfl ?_
        refine q_istore hC dX3_seat_116 (by decide) (ls' := [(0, _), (1, _), (2, _), (3, _), (4, _)]) rfl rfl ?_
        refine q_aload_n hC 0 dX3_seat_118 rfl rfl ?_
        refine q_get_f hC f_X3_15 dX3_seat_119 rfl rfl hi rfl ?_
        refine q_iload_n hC 3 dX3_seat_122 rfl rfl ?_
        refine q_aload_n hC 1 dX3_seat_123 rfl rfl ?_
        refine q_get_f hC f_X3_151 dX3_seat_124 rfl rfl hj rfl ?_
        refine q_iload_n hC 2 dX3_seat_127 rfl rfl ?_
        refine q_icmp_ne hC dX3_seat_128 (t := 135) (n := 131) (by decide) rfl (fun h128 => ?_) (fun h128 => ?_)
        · refine q_iload hC 4 dX3_seat_135 rfl rfl ?_
          refine q_iconst hC dX3_seat_137 (v := (-1)) (by decide) rfl ?_
          refine q_icmp_ne hC dX3_seat_138 (t := 145) (n := 141) (by decide) rfl (fun h138 => ?_) (fun h138 => absurd h138 (z_fur (z_v5n hJ h100) hm))
          refine q_aload_n hC 0 dX3_seat_145 rfl rfl ?_
          refine q_get_f hC f_X3_15 dX3_seat_146 rfl rfl hi rfl ?_
          refine q_iload hC 4 dX3_seat_149 rfl rfl ?_
          refine q_iald hC dX3_seat_151 rfl hi (z_in36 (z_ltw (z_v5n hJ h100) (by decide)) (z_ltn hm)) rfl ?_
          refine q_iast hC dX3_seat_152 (fun _ => rfl) hi (z_in30m hm) rfl ?_
          refine q_aload_n hC 0 dX3_seat_153 rfl rfl ?_
          refine q_get_f hC f_X3_18 dX3_seat_154 rfl rfl hi rfl ?_
          refine q_iload_n hC 3 dX3_seat_157 rfl rfl ?_
          refine q_aload_n hC 1 dX3_seat_158 rfl rfl ?_
          refine q_get_f hC f_X3_151 dX3_seat_159 rfl rfl hj rfl ?_
          refine q_iload_n hC 2 dX3_seat_162 rfl rfl ?_
          refine q_icmp_ne hC dX3_seat_163 (t := 170) (n := 166) (by decide) rfl (fun h163 => ?_) (fun h163 => ?_)
          · refine q_iload hC 4 dX3_seat_170 rfl rfl ?_
            refine q_iconst hC dX3_seat_172 (v := (-1)) (by decide) rfl ?_
            refine q_icmp_ne hC dX3_seat_173 (t := 180) (n := 176) (by decide) rfl (fun h173 => ?_) (fun h173 => absurd h173 (z_fur (z_v5n hJ h100) hm))
            refine q_aload_n hC 0 dX3_seat_180 rfl rfl ?_
            refine q_get_f hC f_X3_18 dX3_seat_181 rfl rfl hi rfl ?_
            refine q_iload hC 4 dX3_seat_184 rfl rfl ?_
            refine q_iald hC dX3_seat_186 rfl hi (z_in36 (z_ltw (z_v5n hJ h100) (by decide)) (z_ltn hm)) rfl ?_
            refine q_iast hC dX3_seat_187 (fun _ => rfl) hi (z_in30m hm) rfl ?_
            refine q_aload_n hC 0 dX3_seat_188 rfl rfl ?_
            refine q_get_f hC f_X3_33 dX3_seat_189 rfl rfl hi rfl ?_
            refine q_iload_n hC 3 dX3_seat_192 rfl rfl ?_
            refine q_aload_n hC 0 dX3_seat_193 rfl rfl ?_
            refine q_aload_n hC 1 dX3_seat_194 rfl rfl ?_
            refine q_get_f hC f_X3_145 dX3_seat_195 rfl rfl hj rfl ?_
            refine q_aload_n hC 1 dX3_seat_198 rfl rfl ?_
            refine q_get_f hC f_X3_149 dX3_seat_199 rfl rfl hj rfl ?_
            refine q_iload_n hC 2 dX3_seat_202 rfl rfl ?_
            refine q_callV hC (c_X3_inheritedField (q_hD hC)) m_X3_inheritedField lk_X3_134 dX3_seat_203 (i, _, _, _) rfl rfl rfl rfl rfl hi (Nat.le_of_ble_eq_true rfl) ⟨⟨by decide, by decide⟩, by decide, by decide⟩ rfl (k' := (0, 0)) rfl ⟨hi, by simpa [q_up] using hJ, z_ltn hm⟩ (fun v S' hp => ?_)
            obtain ⟨r203_4, rfl, hr203_4, rfl⟩ := hp
            show qV Γ _ _ 206 _ (.int _ :: _) _ _
            refine q_iast hC dX3_seat_206 (fun _ => rfl) hi (z_in30m hm) rfl ?_
            refine q_iinc hC 2 dX3_seat_207 rfl (v := nI (m + 1)) (z_inc m) (by decide) (ls' := [(0, _), (1, _), (2, _), (3, _), (4, _)]) rfl rfl ?_
            refine q_goto hC dX3_seat_210 (n := 84) (by decide) ?_
            refine q_locp [0, 1, 2] (ls' := [(0, _), (1, _), (2, _)]) rfl ?_
            refine ih (m + 1) _ (by omega) (by first | exact hJ | simpa [q_up] using hJ) ?_
            rw [← hF]
            show _ = z_s2It i j n (m + 1) (z_s2Step i j m T)
            clear hF ih hC
            subst hr203_4
            congr 1
            first
              | contradiction
              | (simp only [z_s2Step, if_neg h100, if_neg h128, if_neg h163]; done)
              | (simp (config := {decide := true}) only [q_up_k, q_up_same, q_upup, z_updupd, ne_eq, not_false_eq_true] at *; first | contradiction | (simp only [z_s2Step, if_neg h100, if_neg h128, if_neg h163]; done) | (simp only [z_s2Step, if_neg h100, if_neg h128, if_neg h163]; rfl))
          · refine q_iconst hC dX3_seat_166 (v := 5) (by decide) rfl ?_
            refine q_goto hC dX3_seat_167 (n := 187) (by decide) ?_
            refine q_iast hC dX3_seat_187 (fun _ => rfl) hi (z_in30m hm) rfl ?_
            refine q_aload_n hC 0 dX3_seat_188 rfl rfl ?_
            refine q_get_f hC f_X3_33 dX3_seat_189 rfl rfl hi rfl ?_
            refine q_iload_n hC 3 dX3_seat_192 rfl rfl ?_
            refine q_aload_n hC 0 dX3_seat_193 rfl rfl ?_
            refine q_aload_n hC 1 dX3_seat_194 rfl rfl ?_
            refine q_get_f hC f_X3_145 dX3_seat_195 rfl rfl hj rfl ?_
            refine q_aload_n hC 1 dX3_seat_198 rfl rfl ?_
            refine q_get_f hC f_X3_149 dX3_seat_199 rfl rfl hj rfl ?_
            refine q_iload_n hC 2 dX3_seat_202 rfl rfl ?_
            refine q_callV hC (c_X3_inheritedField (q_hD hC)) m_X3_inheritedField lk_X3_134 dX3_seat_203 (i, _, _, _) rfl rfl rfl rfl rfl hi (Nat.le_of_ble_eq_true rfl) ⟨⟨by decide, by decide⟩, by decide, by decide⟩ rfl (k' := (0, 0)) rfl ⟨hi, by simpa [q_up] using hJ, z_ltn hm⟩ (fun v S' hp => ?_)
            obtain ⟨r203_5, rfl, hr203_5, rfl⟩ := hp
            show qV Γ _ _ 206 _ (.int _ :: _) _ _
            refine q_iast hC dX3_seat_206 (fun _ => rfl) hi (z_in30m hm) rfl ?_
            refine q_iinc hC 2 dX3_seat_207 rfl (v := nI (m + 1)) (z_inc m) (by decide) (ls' := [(0, _), (1, _), (2, _), (3, _), (4, _)]) rfl rfl ?_
            refine q_goto hC dX3_seat_210 (n := 84) (by decide) ?_
            refine q_locp [0, 1, 2] (ls' := [(0, _), (1, _), (2, _)]) rfl ?_
            refine ih (m + 1) _ (by omega) (by first | exact hJ | simpa [q_up] using hJ) ?_
            rw [← hF]
            show _ = z_s2It i j n (m + 1) (z_s2Step i j m T)
            clear hF ih hC
            subst hr203_5
            congr 1
            first
              | contradiction
              | (simp only [z_s2Step, if_neg h100, if_neg h128, if_pos h163]; done)
              | (simp (config := {decide := true}) only [q_up_k, q_up_same, q_upup, z_updupd, ne_eq, not_false_eq_true] at *; first | contradiction | (simp only [z_s2Step, if_neg h100, if_neg h128, if_pos h163]; done) | (simp only [z_s2Step, if_neg h100, if_neg h128, if_pos h163]; rfl))
        · refine q_iconst hC dX3_seat_131 (v := 5) (by decide) rfl ?_
          refine q_goto hC dX3_seat_132 (n := 152) (by decide) ?_
          refine q_iast hC dX3_seat_152 (fun _ => rfl) hi (z_in30m hm) rfl ?_
          refine q_aload_n hC 0 dX3_seat_153 rfl rfl ?_
          refine q_get_f hC f_X3_18 dX3_seat_154 rfl rfl hi rfl ?_
          refine q_iload_n hC 3 dX3_seat_157 rfl rfl ?_
          refine q_aload_n hC 1 dX3_seat_158 rfl rfl ?_
          refine q_get_f hC f_X3_151 dX3_seat_159 rfl rfl hj rfl ?_
          refine q_iload_n hC 2 dX3_seat_162 rfl rfl ?_
          refine q_icmp_ne hC dX3_seat_163 (t := 170) (n := 166) (by decide) rfl (fun h163 => ?_) (fun h163 => ?_)
          · refine q_iload hC 4 dX3_seat_170 rfl rfl ?_
            refine q_iconst hC dX3_seat_172 (v := (-1)) (by decide) rfl ?_
            refine q_icmp_ne hC dX3_seat_173 (t := 180) (n := 176) (by decide) rfl (fun h173 => ?_) (fun h173 => absurd h173 (z_fur (z_v5n hJ h100) hm))
            refine q_aload_n hC 0 dX3_seat_180 rfl rfl ?_
            refine q_get_f hC f_X3_18 dX3_seat_181 rfl rfl hi rfl ?_
            refine q_iload hC 4 dX3_seat_184 rfl rfl ?_
            refine q_iald hC dX3_seat_186 rfl hi (z_in36 (z_ltw (z_v5n hJ h100) (by decide)) (z_ltn hm)) rfl ?_
            refine q_iast hC dX3_seat_187 (fun _ => rfl) hi (z_in30m hm) rfl ?_
            refine q_aload_n hC 0 dX3_seat_188 rfl rfl ?_
            refine q_get_f hC f_X3_33 dX3_seat_189 rfl rfl hi rfl ?_
            refine q_iload_n hC 3 dX3_seat_192 rfl rfl ?_
            refine q_aload_n hC 0 dX3_seat_193 rfl rfl ?_
            refine q_aload_n hC 1 dX3_seat_194 rfl rfl ?_
            refine q_get_f hC f_X3_145 dX3_seat_195 rfl rfl hj rfl ?_
            refine q_aload_n hC 1 dX3_seat_198 rfl rfl ?_
            refine q_get_f hC f_X3_149 dX3_seat_199 rfl rfl hj rfl ?_
            refine q_iload_n hC 2 dX3_seat_202 rfl rfl ?_
            refine q_callV hC (c_X3_inheritedField (q_hD hC)) m_X3_inheritedField lk_X3_134 dX3_seat_203 (i, _, _, _) rfl rfl rfl rfl rfl hi (Nat.le_of_ble_eq_true rfl) ⟨⟨by decide, by decide⟩, by decide, by decide⟩ rfl (k' := (0, 0)) rfl ⟨hi, by simpa [q_up] using hJ, z_ltn hm⟩ (fun v S' hp => ?_)
            obtain ⟨r203_7, rfl, hr203_7, rfl⟩ := hp
            show qV Γ _ _ 206 _ (.int _ :: _) _ _
            refine q_iast hC dX3_seat_206 (fun _ => rfl) hi (z_in30m hm) rfl ?_
            refine q_iinc hC 2 dX3_seat_207 rfl (v := nI (m + 1)) (z_inc m) (by decide) (ls' := [(0, _), (1, _), (2, _), (3, _), (4, _)]) rfl rfl ?_
            refine q_goto hC dX3_seat_210 (n := 84) (by decide) ?_
            refine q_locp [0, 1, 2] (ls' := [(0, _), (1, _), (2, _)]) rfl ?_
            refine ih (m + 1) _ (by omega) (by first | exact hJ | simpa [q_up] using hJ) ?_
            rw [← hF]
            show _ = z_s2It i j n (m + 1) (z_s2Step i j m T)
            clear hF ih hC
            subst hr203_7
            congr 1
            first
              | contradiction
              | (simp only [z_s2Step, if_neg h100, if_pos h128, if_neg h163]; done)
              | (simp (config := {decide := true}) only [q_up_k, q_up_same, q_upup, z_updupd, ne_eq, not_false_eq_true] at *; first | contradiction | (simp only [z_s2Step, if_neg h100, if_pos h128, if_neg h163]; done) | (simp only [z_s2Step, if_neg h100, if_pos h128, if_neg h163]; rfl))
          · refine q_iconst hC dX3_seat_166 (v := 5) (by decide) rfl ?_
            refine q_goto hC dX3_seat_167 (n := 187) (by decide) ?_
            refine q_iast hC dX3_seat_187 (fun _ => rfl) hi (z_in30m hm) rfl ?_
            refine q_aload_n hC 0 dX3_seat_188 rfl rfl ?_
            refine q_get_f hC f_X3_33 dX3_seat_189 rfl rfl hi rfl ?_
            refine q_iload_n hC 3 dX3_seat_192 rfl rfl ?_
            refine q_aload_n hC 0 dX3_seat_193 rfl rfl ?_
            refine q_aload_n hC 1 dX3_seat_194 rfl rfl ?_
            refine q_get_f hC f_X3_145 dX3_seat_195 rfl rfl hj rfl ?_
            refine q_aload_n hC 1 dX3_seat_198 rfl rfl ?_
            refine q_get_f hC f_X3_149 dX3_seat_199 rfl rfl hj rfl ?_
            refine q_iload_n hC 2 dX3_seat_202 rfl rfl ?_
            refine q_callV hC (c_X3_inheritedField (q_hD hC)) m_X3_inheritedField lk_X3_134 dX3_seat_203 (i, _, _, _) rfl rfl rfl rfl rfl hi (Nat.le_of_ble_eq_true rfl) ⟨⟨by decide, by decide⟩, by decide, by decide⟩ rfl (k' := (0, 0)) rfl ⟨hi, by simpa [q_up] using hJ, z_ltn hm⟩ (fun v S' hp => ?_)
            obtain ⟨r203_8, rfl, hr203_8, rfl⟩ := hp
            show qV Γ _ _ 206 _ (.int _ :: _) _ _
            refine q_iast hC dX3_seat_206 (fun _ => rfl) hi (z_in30m hm) rfl ?_
            refine q_iinc hC 2 dX3_seat_207 rfl (v := nI (m + 1)) (z_inc m) (by decide) (ls' := [(0, _), (1, _), (2, _), (3, _), (4, _)]) rfl rfl ?_
            refine q_goto hC dX3_seat_210 (n := 84) (by decide) ?_
            refine q_locp [0, 1, 2] (ls' := [(0, _), (1, _), (2, _)]) rfl ?_
            refine ih (m + 1) _ (by omega) (by first | exact hJ | simpa [q_up] using hJ) ?_
            rw [← hF]
            show _ = z_s2It i j n (m + 1) (z_s2Step i j m T)
            clear hF ih hC
            subst hr203_8
            congr 1
            first
              | contradiction
              | (simp only [z_s2Step, if_neg h100, if_pos h128, if_pos h163]; done)
              | (simp (config := {decide := true}) only [q_up_k, q_up_same, q_upup, z_updupd, ne_eq, not_false_eq_true] at *; first | contradiction | (simp only [z_s2Step, if_neg h100, if_pos h128, if_pos h163]; done) | (simp only [z_s2Step, if_neg h100, if_pos h128, if_pos h163]; rfl))
      · refine q_iconst hC dX3_seat_103 (v := (-1)) (by decide) rfl ?_
        refine q_goto hC dX3_seat_104 (n := 116) (by decide) ?_
        refine q_istore hC dX3_seat_116 (by decide) (ls' := [(0, _), (1, _), (2, _), (3, _), (4, _)]) rfl rfl ?_
        refine q_aload_n hC 0 dX3_seat_118 rfl rfl ?_
        refine q_get_f hC f_X3_15 dX3_seat_119 rfl rfl hi rfl ?_
        refine q_iload_n hC 3 dX3_seat_122 rfl rfl ?_
        refine q_aload_n hC 1 dX3_seat_123 rfl rfl ?_
        refine q_get_f hC f_X3_151 dX3_seat_124 rfl rfl hj rfl ?_
        refine q_iload_n hC 2 dX3_seat_127 rfl rfl ?_
        refine q_icmp_ne hC dX3_seat_128 (t := 135) (n := 131) (by decide) rfl (fun h128 => ?_) (fun h128 => ?_)
        · refine q_iload hC 4 dX3_seat_135 rfl rfl ?_
          refine q_iconst hC dX3_seat_137 (v := (-1)) (by decide) rfl ?_
          refine q_icmp_ne hC dX3_seat_138 (t := 145) (n := 141) (by decide) rfl (fun h => absurd h (by decide)) (fun _ => ?_)
          refine q_iconst hC dX3_seat_141 (v := (-1)) (by decide) rfl ?_
          refine q_goto hC dX3_seat_142 (n := 152) (by decide) ?_
          refine q_iast hC dX3_seat_152 (fun _ => rfl) hi (z_in30m hm) rfl ?_
          refine q_aload_n hC 0 dX3_seat_153 rfl rfl ?_
          refine q_get_f hC f_X3_18 dX3_seat_154 rfl rfl hi rfl ?_
          refine q_iload_n hC 3 dX3_seat_157 rfl rfl ?_
          refine q_aload_n hC 1 dX3_seat_158 rfl rfl ?_
          refine q_get_f hC f_X3_151 dX3_seat_159 rfl rfl hj rfl ?_
          refine q_iload_n hC 2 dX3_seat_162 rfl rfl ?_
          refine q_icmp_ne hC dX3_seat_163 (t := 170) (n := 166) (by decide) rfl (fun h163 => ?_) (fun h163 => ?_)
          · refine q_iload hC 4 dX3_seat_170 rfl rfl ?_
            refine q_iconst hC dX3_seat_172 (v := (-1)) (by decide) rfl ?_
            refine q_icmp_ne hC dX3_seat_173 (t := 180) (n := 176) (by decide) rfl (fun h => absurd h (by decide)) (fun _ => ?_)
            refine q_iconst hC dX3_seat_176 (v := (-1)) (by decide) rfl ?_
            refine q_goto hC dX3_seat_177 (n := 187) (by decide) ?_
            refine q_iast hC dX3_seat_187 (fun _ => rfl) hi (z_in30m hm) rfl ?_
            refine q_aload_n hC 0 dX3_seat_188 rfl rfl ?_
            refine q_get_f hC f_X3_33 dX3_seat_189 rfl rfl hi rfl ?_
            refine q_iload_n hC 3 dX3_seat_192 rfl rfl ?_
            refine q_aload_n hC 0 dX3_seat_193 rfl rfl ?_
            refine q_aload_n hC 1 dX3_seat_194 rfl rfl ?_
            refine q_get_f hC f_X3_145 dX3_seat_195 rfl rfl hj rfl ?_
            refine q_aload_n hC 1 dX3_seat_198 rfl rfl ?_
            refine q_get_f hC f_X3_149 dX3_seat_199 rfl rfl hj rfl ?_
            refine q_iload_n hC 2 dX3_seat_202 rfl rfl ?_
            refine q_callV hC (c_X3_inheritedField (q_hD hC)) m_X3_inheritedField lk_X3_134 dX3_seat_203 (i, _, _, _) rfl rfl rfl rfl rfl hi (Nat.le_of_ble_eq_true rfl) ⟨⟨by decide, by decide⟩, by decide, by decide⟩ rfl (k' := (0, 0)) rfl ⟨hi, by simpa [q_up] using hJ, z_ltn hm⟩ (fun v S' hp => ?_)
            obtain ⟨r203_11, rfl, hr203_11, rfl⟩ := hp
            show qV Γ _ _ 206 _ (.int _ :: _) _ _
            refine q_iast hC dX3_seat_206 (fun _ => rfl) hi (z_in30m hm) rfl ?_
            refine q_iinc hC 2 dX3_seat_207 rfl (v := nI (m + 1)) (z_inc m) (by decide) (ls' := [(0, _), (1, _), (2, _), (3, _), (4, _)]) rfl rfl ?_
            refine q_goto hC dX3_seat_210 (n := 84) (by decide) ?_
            refine q_locp [0, 1, 2] (ls' := [(0, _), (1, _), (2, _)]) rfl ?_
            refine ih (m + 1) _ (by omega) (by first | exact hJ | simpa [q_up] using hJ) ?_
            rw [← hF]
            show _ = z_s2It i j n (m + 1) (z_s2Step i j m T)
            clear hF ih hC
            subst hr203_11
            congr 1
            first
              | contradiction
              | (simp only [z_s2Step, if_pos h100, if_neg h128, if_neg h163]; done)
              | (simp (config := {decide := true}) only [q_up_k, q_up_same, q_upup, z_updupd, ne_eq, not_false_eq_true] at *; first | contradiction | (simp only [z_s2Step, if_pos h100, if_neg h128, if_neg h163]; done) | (simp only [z_s2Step, if_pos h100, if_neg h128, if_neg h163]; rfl))
          · refine q_iconst hC dX3_seat_166 (v := 5) (by decide) rfl ?_
            refine q_goto hC dX3_seat_167 (n := 187) (by decide) ?_
            refine q_iast hC dX3_seat_187 (fun _ => rfl) hi (z_in30m hm) rfl ?_
            refine q_aload_n hC 0 dX3_seat_188 rfl rfl ?_
            refine q_get_f hC f_X3_33 dX3_seat_189 rfl rfl hi rfl ?_
            refine q_iload_n hC 3 dX3_seat_192 rfl rfl ?_
            refine q_aload_n hC 0 dX3_seat_193 rfl rfl ?_
            refine q_aload_n hC 1 dX3_seat_194 rfl rfl ?_
            refine q_get_f hC f_X3_145 dX3_seat_195 rfl rfl hj rfl ?_
            refine q_aload_n hC 1 dX3_seat_198 rfl rfl ?_
            refine q_get_f hC f_X3_149 dX3_seat_199 rfl rfl hj rfl ?_
            refine q_iload_n hC 2 dX3_seat_202 rfl rfl ?_
            refine q_callV hC (c_X3_inheritedField (q_hD hC)) m_X3_inheritedField lk_X3_134 dX3_seat_203 (i, _, _, _) rfl rfl rfl rfl rfl hi (Nat.le_of_ble_eq_true rfl) ⟨⟨by decide, by decide⟩, by decide, by decide⟩ rfl (k' := (0, 0)) rfl ⟨hi, by simpa [q_up] using hJ, z_ltn hm⟩ (fun v S' hp => ?_)
            obtain ⟨r203_12, rfl, hr203_12, rfl⟩ := hp
            show qV Γ _ _ 206 _ (.int _ :: _) _ _
            refine q_iast hC dX3_seat_206 (fun _ => rfl) hi (z_in30m hm) rfl ?_
            refine q_iinc hC 2 dX3_seat_207 rfl (v := nI (m + 1)) (z_inc m) (by decide) (ls' := [(0, _), (1, _), (2, _), (3, _), (4, _)]) rfl rfl ?_
            refine q_goto hC dX3_seat_210 (n := 84) (by decide) ?_
            refine q_locp [0, 1, 2] (ls' := [(0, _), (1, _), (2, _)]) rfl ?_
            refine ih (m + 1) _ (by omega) (by first | exact hJ | simpa [q_up] using hJ) ?_
            rw [← hF]
            show _ = z_s2It i j n (m + 1) (z_s2Step i j m T)
            clear hF ih hC
            subst hr203_12
            congr 1
            first
              | contradiction
              | (simp only [z_s2Step, if_pos h100, if_neg h128, if_pos h163]; done)
              | (simp (config := {decide := true}) only [q_up_k, q_up_same, q_upup, z_updupd, ne_eq, not_false_eq_true] at *; first | contradiction | (simp only [z_s2Step, if_pos h100, if_neg h128, if_pos h163]; done) | (simp only [z_s2Step, if_pos h100, if_neg h128, if_pos h163]; rfl))
        · refine q_iconst hC dX3_seat_131 (v := 5) (by decide) rfl ?_
          refine q_goto hC dX3_seat_132 (n := 152) (by decide) ?_
          refine q_iast hC dX3_seat_152 (fun _ => rfl) hi (z_in30m hm) rfl ?_
          refine q_aload_n hC 0 dX3_seat_153 rfl rfl ?_
          refine q_get_f hC f_X3_18 dX3_seat_154 rfl rfl hi rfl ?_
          refine q_iload_n hC 3 dX3_seat_157 rfl rfl ?_
          refine q_aload_n hC 1 dX3_seat_158 rfl rfl ?_
          refine q_get_f hC f_X3_151 dX3_seat_159 rfl rfl hj rfl ?_
          refine q_iload_n hC 2 dX3_seat_162 rfl rfl ?_
          refine q_icmp_ne hC dX3_seat_163 (t := 170) (n := 166) (by decide) rfl (fun h163 => ?_) (fun h163 => ?_)
          · refine q_iload hC 4 dX3_seat_170 rfl rfl ?_
            refine q_iconst hC dX3_seat_172 (v := (-1)) (by decide) rfl ?_
            refine q_icmp_ne hC dX3_seat_173 (t := 180) (n := 176) (by decide) rfl (fun h => absurd h (by decide)) (fun _ => ?_)
            refine q_iconst hC dX3_seat_176 (v := (-1)) (by decide) rfl ?_
            refine q_goto hC dX3_seat_177 (n := 187) (by decide) ?_
            refine q_iast hC dX3_seat_187 (fun _ => rfl) hi (z_in30m hm) rfl ?_
            refine q_aload_n hC 0 dX3_seat_188 rfl rfl ?_
            refine q_get_f hC f_X3_33 dX3_seat_189 rfl rfl hi rfl ?_
            refine q_iload_n hC 3 dX3_seat_192 rfl rfl ?_
            refine q_aload_n hC 0 dX3_seat_193 rfl rfl ?_
            refine q_aload_n hC 1 dX3_seat_194 rfl rfl ?_
            refine q_get_f hC f_X3_145 dX3_seat_195 rfl rfl hj rfl ?_
            refine q_aload_n hC 1 dX3_seat_198 rfl rfl ?_
            refine q_get_f hC f_X3_149 dX3_seat_199 rfl rfl hj rfl ?_
            refine q_iload_n hC 2 dX3_seat_202 rfl rfl ?_
            refine q_callV hC (c_X3_inheritedField (q_hD hC)) m_X3_inheritedField lk_X3_134 dX3_seat_203 (i, _, _, _) rfl rfl rfl rfl rfl hi (Nat.le_of_ble_eq_true rfl) ⟨⟨by decide, by decide⟩, by decide, by decide⟩ rfl (k' := (0, 0)) rfl ⟨hi, by simpa [q_up] using hJ, z_ltn hm⟩ (fun v S' hp => ?_)
            obtain ⟨r203_14, rfl, hr203_14, rfl⟩ := hp
            show qV Γ _ _ 206 _ (.int _ :: _) _ _
            refine q_iast hC dX3_seat_206 (fun _ => rfl) hi (z_in30m hm) rfl ?_
            refine q_iinc hC 2 dX3_seat_207 rfl (v := nI (m + 1)) (z_inc m) (by decide) (ls' := [(0, _), (1, _), (2, _), (3, _), (4, _)]) rfl rfl ?_
            refine q_goto hC dX3_seat_210 (n := 84) (by decide) ?_
            refine q_locp [0, 1, 2] (ls' := [(0, _), (1, _), (2, _)]) rfl ?_
            refine ih (m + 1) _ (by omega) (by first | exact hJ | simpa [q_up] using hJ) ?_
            rw [← hF]
            show _ = z_s2It i j n (m + 1) (z_s2Step i j m T)
            clear hF ih hC
            subst hr203_14
            congr 1
            first
              | contradiction
              | (simp only [z_s2Step, if_pos h100, if_pos h128, if_neg h163]; done)
              | (simp (config := {decide := true}) only [q_up_k, q_up_same, q_upup, z_updupd, ne_eq, not_false_eq_true] at *; first | contradiction | (simp only [z_s2Step, if_pos h100, if_pos h128, if_neg h163]; done) | (simp only [z_s2Step, if_pos h100, if_pos h128, if_neg h163]; rfl))
          · refine q_iconst hC dX3_seat_166 (v := 5) (by decide) rfl ?_
            refine q_goto hC dX3_seat_167 (n := 187) (by decide) ?_
            refine q_iast hC dX3_seat_187 (fun _ => rfl) hi (z_in30m hm) rfl ?_
            refine q_aload_n hC 0 dX3_seat_188 rfl rfl ?_
            refine q_get_f hC f_X3_33 dX3_seat_189 rfl rfl hi rfl ?_
            refine q_iload_n hC 3 dX3_seat_192 rfl rfl ?_
            refine q_aload_n hC 0 dX3_seat_193 rfl rfl ?_
            refine q_aload_n hC 1 dX3_seat_194 rfl rfl ?_
            refine q_get_f hC f_X3_145 dX3_seat_195 rfl rfl hj rfl ?_
            refine q_aload_n hC 1 dX3_seat_198 rfl rfl ?_
            refine q_get_f hC f_X3_149 dX3_seat_199 rfl rfl hj rfl ?_
            refine q_iload_n hC 2 dX3_seat_202 rfl rfl ?_
            refine q_callV hC (c_X3_inheritedField (q_hD hC)) m_X3_inheritedField lk_X3_134 dX3_seat_203 (i, _, _, _) rfl rfl rfl rfl rfl hi (Nat.le_of_ble_eq_true rfl) ⟨⟨by decide, by decide⟩, by decide, by decide⟩ rfl (k' := (0, 0)) rfl ⟨hi, by simpa [q_up] using hJ, z_ltn hm⟩ (fun v S' hp => ?_)
            obtain ⟨r203_15, rfl, hr203_15, rfl⟩ := hp
            show qV Γ _ _ 206 _ (.int _ :: _) _ _
            refine q_iast hC dX3_seat_206 (fun _ => rfl) hi (z_in30m hm) rfl ?_
            refine q_iinc hC 2 dX3_seat_207 rfl (v := nI (m + 1)) (z_inc m) (by decide) (ls' := [(0, _), (1, _), (2, _), (3, _), (4, _)]) rfl rfl ?_
            refine q_goto hC dX3_seat_210 (n := 84) (by decide) ?_
            refine q_locp [0, 1, 2] (ls' := [(0, _), (1, _), (2, _)]) rfl ?_
            refine ih (m + 1) _ (by omega) (by first | exact hJ | simpa [q_up] using hJ) ?_
            rw [← hF]
            show _ = z_s2It i j n (m + 1) (z_s2Step i j m T)
            clear hF ih hC
            subst hr203_15
            congr 1
            first
              | contradiction
              | (simp only [z_s2Step, if_pos h100, if_pos h128, if_pos h163]; done)
              | (simp (config := {decide := true}) only [q_up_k, q_up_same, q_upup, z_updupd, ne_eq, not_false_eq_true] at *; first | contradiction | (simp only [z_s2Step, if_pos h100, if_pos h128, if_pos h163]; done) | (simp only [z_s2Step, if_pos h100, if_pos h128, if_pos h163]; rfl))
  have L1 : ∀ (n m : Nat) (T : qM), m + n = 5 → z_v5 (T 28 j 1) → z_s2It i j 6 0 (z_sup i j (z_s1It i j n m T)) = z_seat i j S → qV Γ rm_X3_seat 5 12 [(0, .ref (q_ad Γ 17 i)), (1, .ref (q_ad Γ 28 j)), (2, .int (nI m))] [] T (0, 0) := by
    intro n
    induction n with
    | zero =>
      intro m T hmn hJ hF
      obtain rfl : m = 5 := by omega
      refine q_iload_n hC 2 dX3_seat_12 rfl rfl ?_
      refine q_iconst hC dX3_seat_13 (v := 5) (by decide) rfl ?_
      refine q_icmp_ge hC dX3_seat_14 (t := 49) (n := 17) (by decide) rfl (fun h14 => ?_) (fun h14 => absurd (by decide) h14)
      refine q_aload_n hC 1 dX3_seat_49 rfl rfl ?_
      refine q_get_f hC f_X3_149 dX3_seat_50 rfl rfl hj rfl ?_
      refine q_iconst hC dX3_seat_53 (v := (-1)) (by decide) rfl ?_
      refine q_icmp_eq hC dX3_seat_54 (t := 82) (n := 57) (by decide) rfl (fun h54 => ?_) (fun h54 => ?_)
      · refine q_iconst hC dX3_seat_82 (v := 0) (by decide) rfl ?_
        refine q_istore_n hC dX3_seat_83 (by decide) (ls' := [(0, _), (1, _), (2, _)]) rfl rfl ?_
        exact L2 6 0 _ (by omega) (by first | exact hJ | simpa [q_up] using hJ) (by rw [← hF]; show _ = z_s2It i j 6 0 (z_sup i j T); congr 1; simp only [z_sup, if_pos h54])
      · refine q_aload_n hC 0 dX3_seat_57 rfl rfl ?_
        refine q_get_f hC f_X3_9 dX3_seat_58 rfl rfl hi rfl ?_
        refine q_iconst hC dX3_seat_61 (v := 5) (by decide) rfl ?_
        refine q_dup2 hC dX3_seat_62 rfl rfl rfl ?_
        refine q_iald hC dX3_seat_63 rfl hi (q_inl (by decide)) rfl ?_
        refine q_iconst hC dX3_seat_64 (v := 1) (by decide) rfl ?_
        refine q_aload_n hC 1 dX3_seat_65 rfl rfl ?_
        refine q_get_f hC f_X3_149 dX3_seat_66 rfl rfl hj rfl ?_
        refine q_ishl hC dX3_seat_69 rfl ?_
        refine q_aload_n hC 0 dX3_seat_70 rfl rfl ?_
        refine q_get_f hC f_X3_9 dX3_seat_71 rfl rfl hi rfl ?_
        refine q_aload_n hC 1 dX3_seat_74 rfl rfl ?_
        refine q_get_f hC f_X3_149 dX3_seat_75 rfl rfl hj rfl ?_
        refine q_iald hC dX3_seat_78 rfl hi (z_in (z_ltw (z_v5n hJ h54) (by decide)) (by decide)) rfl ?_
        refine q_ior hC dX3_seat_79 rfl ?_
        refine q_ior hC dX3_seat_80 rfl ?_
        refine q_iast hC dX3_seat_81 (fun _ => rfl) hi (q_inl (by decide)) rfl ?_
        refine q_iconst hC dX3_seat_82 (v := 0) (by decide) rfl ?_
        refine q_istore_n hC dX3_seat_83 (by decide) (ls' := [(0, _), (1, _), (2, _)]) rfl rfl ?_
        exact L2 6 0 _ (by omega) (by first | exact hJ | simpa [q_up] using hJ) (by rw [← hF]; show _ = z_s2It i j 6 0 (z_sup i j T); congr 1; simp only [z_sup, if_neg h54])
    | succ n ih =>
      intro m T hmn hJ hF
      have hm : m < 5 := by omega
      refine q_iload_n hC 2 dX3_seat_12 rfl rfl ?_
      refine q_iconst hC dX3_seat_13 (v := 5) (by decide) rfl ?_
      refine q_icmp_ge hC dX3_seat_14 (t := 49) (n := 17) (by decide) rfl (fun h14 => absurd h14 (nI_ge hm (by decide))) (fun h14 => ?_)
      refine q_aload_n hC 1 dX3_seat_17 rfl rfl ?_
      refine q_get_f hC f_X3_145 dX3_seat_18 rfl rfl hj rfl ?_
      refine q_iload_n hC 2 dX3_seat_21 rfl rfl ?_
      refine q_callSN hC (c_X9_has (q_hD hC)) m_X9_has ln_X3_80 dX3_seat_22 (T 28 j 2, nI m) rfl rfl (Nat.le_of_ble_eq_true rfl) ⟨⟨by decide, by decide⟩, by decide, by decide⟩ rfl (k' := (0, 0)) rfl trivial (fun v S' hp => ?_)
      obtain ⟨r22_1, rfl, hr22_1, rfl⟩ := hp
      have hr22_1 : r22_1 = z_has (T 28 j 2) (nI m) := hr22_1
      show qV Γ _ _ 25 _ (.int _ :: _) _ _
      refine q_if_eq hC dX3_seat_25 (t := 43) (n := 28) (by decide) rfl (fun h25 => ?_) (fun h25 => ?_)
      · refine q_iinc hC 2 dX3_seat_43 rfl (v := nI (m + 1)) (z_inc m) (by decide) (ls' := [(0, _), (1, _), (2, _)]) rfl rfl ?_
        refine q_goto hC dX3_seat_46 (n := 12) (by decide) ?_
        refine ih (m + 1) _ (by omega) (by first | exact hJ | simpa [q_up] using hJ) ?_
        rw [← hF]
        show _ = z_s2It i j 6 0 (z_sup i j (z_s1It i j n (m + 1) (z_s1Step i j m T)))
        subst hr22_1
        congr 3
        simp only [z_s1Step, if_pos h25]
      · refine q_aload_n hC 0 dX3_seat_28 rfl rfl ?_
        refine q_get_f hC f_X3_9 dX3_seat_29 rfl rfl hi rfl ?_
        refine q_iconst hC dX3_seat_32 (v := 5) (by decide) rfl ?_
        refine q_dup2 hC dX3_seat_33 rfl rfl rfl ?_
        refine q_iald hC dX3_seat_34 rfl hi (q_inl (by decide)) rfl ?_
        refine q_aload_n hC 0 dX3_seat_35 rfl rfl ?_
        refine q_get_f hC f_X3_9 dX3_seat_36 rfl rfl hi rfl ?_
        refine q_iload_n hC 2 dX3_seat_39 rfl rfl ?_
        refine q_iald hC dX3_seat_40 rfl hi (vp_in_nI (Nat.lt_trans hm (by decide)) (by decide)) rfl ?_
        refine q_ior hC dX3_seat_41 rfl ?_
        refine q_iast hC dX3_seat_42 (fun _ => rfl) hi (q_inl (by decide)) rfl ?_
        refine q_iinc hC 2 dX3_seat_43 rfl (v := nI (m + 1)) (z_inc m) (by decide) (ls' := [(0, _), (1, _), (2, _)]) rfl rfl ?_
        refine q_goto hC dX3_seat_46 (n := 12) (by decide) ?_
        refine ih (m + 1) _ (by omega) (by first | exact hJ | simpa [q_up] using hJ) ?_
        rw [← hF]
        show _ = z_s2It i j 6 0 (z_sup i j (z_s1It i j n (m + 1) (z_s1Step i j m T)))
        subst hr22_1
        congr 3
        simp only [z_s1Step, if_neg h25]
  show qV Γ _ _ 0 [(0, .ref (q_ad Γ 17 i)), (1, .ref (q_ad Γ 28 j))] [] S (0, 0)
  refine q_aload_n hC 0 dX3_seat_0 rfl rfl ?_
  refine q_get_f hC f_X3_9 dX3_seat_1 rfl rfl hi rfl ?_
  refine q_iconst hC dX3_seat_4 (v := 5) (by decide) rfl ?_
  refine q_aload_n hC 1 dX3_seat_5 rfl rfl ?_
  refine q_get_f hC f_X3_145 dX3_seat_6 rfl rfl hj rfl ?_
  refine q_iast hC dX3_seat_9 (fun _ => rfl) hi (q_inl (by decide)) rfl ?_
  refine q_iconst hC dX3_seat_10 (v := 0) (by decide) rfl ?_
  refine q_istore_n hC dX3_seat_11 (by decide) (ls' := [(0, _), (1, _), (2, _)]) rfl rfl ?_
  exact L1 5 0 _ (by omega) (by simpa [q_up] using hJ0) rfl
