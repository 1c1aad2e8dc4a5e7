-- printed by wip/p36/gen_m2.py
theorem z_mw_tr {S T U : qM} {i : Nat} (h : z_mw S T i) (k : z_mw T U i) : z_mw S U i :=
  ⟨fun k' i' hn => by rw [k.1 k' i' hn, h.1 k' i' hn], k.2⟩
theorem z_chk_mw {S T : qM} {i : Nat} (h : z_chk S T i) : z_mw S T i :=
  ⟨fun k' i' hn => h.1 k' i' (fun e => hn ⟨by omega, e.2⟩), h.2.2.2⟩
/-- how many types a library has -/
def z_cnt (f : Nat → Int32) : Nat := (if f 0 = 45 then 0 else 1) + (if f 1 = 45 then 0 else 1) + (if f 2 = 45 then 0 else 1) + (if f 3 = 45 then 0 else 1) + (if f 4 = 45 then 0 else 1)
theorem z_cnt_le (f : Nat → Int32) : z_cnt f < 6 := by
  unfold z_cnt
  split <;> split <;> split <;> split <;> split <;> decide
theorem z_cnt_lt {f g : Nat → Int32} {t : Nat} (ht : t < 5) (hf : ¬ f t = 45) (hg : g t = 45) (h : ∀ q, ¬ q = t → g q = f q) : z_cnt g < z_cnt f := by
  unfold z_cnt
  rcases (by omega : t = 0 ∨ t = 1 ∨ t = 2 ∨ t = 3 ∨ t = 4) with rfl | rfl | rfl | rfl | rfl
  · rw [if_pos hg, if_neg hf, h 1 (by decide), h 2 (by decide), h 3 (by decide), h 4 (by decide)]; omega
  · rw [if_pos hg, if_neg hf, h 0 (by decide), h 2 (by decide), h 3 (by decide), h 4 (by decide)]; omega
  · rw [if_pos hg, if_neg hf, h 0 (by decide), h 1 (by decide), h 3 (by decide), h 4 (by decide)]; omega
  · rw [if_pos hg, if_neg hf, h 0 (by decide), h 1 (by decide), h 2 (by decide), h 4 (by decide)]; omega
  · rw [if_pos hg, if_neg hf, h 0 (by decide), h 1 (by decide), h 2 (by decide), h 3 (by decide)]; omega
theorem z_cdN0 : ∀ t, t < 5 → ∀ b, b < 11 → ¬ lg_cmp (nI (100 * t + b)).toInt64 0 < 0 := by decide +kernel
theorem z_cdNt : ∀ t, t < 5 → ∀ b, b < 11 → ((((65 : Int64) + (nI (100 * t + b)).toInt64 / 100).toInt32.toUInt32 % 65536).toInt32) = nI (65 + t) := by decide +kernel
theorem z_cdM0 : lg_cmp ((-1 : Int32).toInt64) 0 < 0 := by decide +kernel
theorem z_cdM1 : lg_cmp ((-1 : Int32).toInt64) (-1) = 0 := by decide +kernel
abbrev rm_L_makes : Room := { frames := 11, cells := 18, slots := 108, locals := 215 }
set_option maxHeartbeats 4000000 in
set_option maxRecDepth 100000 in
theorem c_L_makes {L : qL} (hD : q_D L.2.2.2.1) (hs : L.2.2.2.2.1.2.1 ≤ 260) (hl : L.1.stackTraces = false) : qCT L yL_makes cL_makes 6 none rm_L_makes (fun ad o (x : Nat × Nat) => [.ref (ad 36 0), .int (nI x.1), .ref o.1.1, .int (nI x.2)]) (fun x S => x.1 < 4 ∧ x.2 < 1000 ∧ z_Q S x.1) (qPv (fun x S S' => z_mw S S' x.1)) := by
  refine q_met hD (by decide) (fun _ => Nat.le_of_ble_eq_true rfl) (fun Γ x S hΓ hpre hC => ?_)
  subst hΓ
  obtain ⟨i, f⟩ := x
  obtain ⟨hi, hf, hQ⟩ := hpre
  have hi : i < 4 := hi
  have hf : f < 1000 := hf
  have hQ : z_Q S i := hQ
  have M : ∀ (a d : Nat), a < 2 ^ 31 → 0 < d → d < 2 ^ 31 → (nI a : Int32) - nI a / nI d * nI d = nI (a % d) := fun a d h1 h2 h3 => pk_rem h1 h2 h3
  have L2 : ∀ (n m : Nat) (T : qM), m + n = 18 → z_mw S T i → qV Γ rm_L_makes 6 75 [(0, .ref (q_ad Γ 36 0)), (1, .int (nI i)), (2, .ref (q_o Γ).1.1), (3, .int (nI f)), (4, .int (nI m))] [] T (m * 1, m * 6) := by
    intro n
    induction n with
    | zero =>
      intro m T hmn hT
      obtain rfl : m = 18 := by omega
      refine q_iload hC 4 dL_makes_75 rfl rfl ?_
      refine q_bipush hC dL_makes_77 (v := 18) (by decide) rfl ?_
      refine q_icmp_ge hC dL_makes_79 (t := 115) (n := 82) (by decide) rfl (fun h79 => ?_) (fun h79 => absurd (Int32.le_refl _) h79)
      refine q_vret hC dL_makes_115 ⟨by decide, by decide⟩ ⟨rfl, ?_⟩
      exact hT
    | succ n ih =>
      intro m T hmn hT
      have hm : m < 18 := by omega
      refine q_iload hC 4 dL_makes_75 rfl rfl ?_
      refine q_bipush hC dL_makes_77 (v := 18) (by decide) rfl ?_
      refine q_icmp_ge hC dL_makes_79 (t := 115) (n := 82) (by decide) rfl (fun h79 => absurd h79 (nI_ge hm (by decide))) (fun h79 => ?_)
      refine q_aload_n hC 0 dL_makes_82 rfl rfl ?_
      refine q_iload_n hC 1 dL_makes_83 rfl rfl ?_
      refine q_aload_n hC 2 dL_makes_84 rfl rfl ?_
      refine q_iload_n hC 3 dL_makes_85 rfl rfl ?_
      refine q_iconst hC dL_makes_86 (v := 5) (by decide) rfl ?_
      refine q_iadd hC dL_makes_87 rfl ?_
      refine q_iload hC 4 dL_makes_88 rfl rfl ?_
      refine q_iadd hC dL_makes_90 rfl ?_
      rw [show (nI f + 5 + nI m : Int32) = nI (f + 5 + m) from by rw [show (nI f + 5 : Int32) = nI (f + 5) from nI_add f 5, nI_add]]
      refine q_callS hC (c_L_cell (q_hD hC) hs) m_L_cell lk_L_113 dL_makes_91 (f + 5 + m, ()) rfl rfl (Nat.le_of_ble_eq_true rfl) ⟨⟨by decide, by decide⟩, (show m * 1 + 0 ≤ 18 by omega), (show m * 6 + 0 ≤ 108 by omega)⟩ rfl (k' := (m * 1, m * 6)) rfl (show f + 5 + m < 2 ^ 31 by omega) (fun v S' hp => ?_)
      obtain ⟨rc, rfl, rfl⟩ := hp
      show qV Γ _ _ 94 _ (.int _ :: _) _ _
      refine q_sipush hC dL_makes_94 (v := 7919) (by decide) rfl ?_
      refine q_iload hC 4 dL_makes_97 rfl rfl ?_
      refine q_imul hC dL_makes_99 rfl ?_
      refine q_iadd hC dL_makes_100 rfl ?_
      refine q_ldc hC dL_makes_101 cn_L_123 rfl ?_
      refine q_callS hC (c_L_chosen (q_hD hC)) m_L_chosen lk_L_117 dL_makes_103 (rc + 7919 * nI m, 1000000) rfl rfl (Nat.le_of_ble_eq_true rfl) ⟨⟨by decide, by decide⟩, (show m * 1 + 0 ≤ 18 by omega), (show m * 6 + 0 ≤ 108 by omega)⟩ rfl (k' := (m * 1, m * 6)) rfl ⟨(show 1 ≤ 1000000 by decide), (show 1000000 < 2 ^ 31 by decide)⟩ (fun v S' hp => ?_)
      obtain ⟨r9, rfl, ⟨v, hv, rfl⟩, rfl⟩ := hp
      have hv : v < 1000000 := hv
      show qV Γ _ _ 106 _ (.int _ :: _) _ _
      refine q_callS hC (c_L_changes (q_hD hC) hs hl) m_L_changes lk_L_124 dL_makes_106 (i, v) rfl rfl (Nat.le_of_ble_eq_true rfl) ⟨⟨by decide, by decide⟩, (show m * 1 + 1 ≤ 18 by omega), (show m * 6 + 6 ≤ 108 by omega)⟩ rfl (k' := ((m + 1) * 1, (m + 1) * 6)) (Prod.ext (show m * 1 + 1 = (m + 1) * 1 by omega) (show m * 6 + 6 = (m + 1) * 6 by omega)) ⟨hi, hv, hT.2⟩ (fun v S' hp => ?_)
      obtain ⟨rfl, hw9⟩ := hp
      have hw9 : z_mw T S' i := hw9
      show qV Γ _ _ 109 _ _ _ _
      refine q_iinc hC 4 dL_makes_109 rfl (v := nI (m + 1)) (z_inc m) (by decide) (ls' := [(0, _), (1, _), (2, _), (3, _), (4, _)]) rfl rfl ?_
      refine q_goto hC dL_makes_112 (n := 75) (by decide) ?_
      exact ih (m + 1) _ (by omega) (z_mw_tr hT hw9)
  have L1 : ∀ (n m : Nat) (T : qM), m + n = 5 → z_mw S T i → qV Γ rm_L_makes 6 3 [(0, .ref (q_ad Γ 36 0)), (1, .int (nI i)), (2, .ref (q_o Γ).1.1), (3, .int (nI f)), (4, .int (nI m))] [] T (0, 0) := by
    intro n
    induction n with
    | zero =>
      intro m T hmn hT
      obtain rfl : m = 5 := by omega
      refine q_iload hC 4 dL_makes_3 rfl rfl ?_
      refine q_iconst hC dL_makes_5 (v := 5) (by decide) rfl ?_
      refine q_icmp_ge hC dL_makes_6 (t := 72) (n := 9) (by decide) rfl (fun h6 => ?_) (fun h6 => absurd (Int32.le_refl _) h6)
      refine q_iconst hC dL_makes_72 (v := 0) (by decide) rfl ?_
      refine q_istore hC dL_makes_73 (by decide) (ls' := [(0, _), (1, _), (2, _), (3, _), (4, _)]) rfl rfl ?_
      exact L2 18 0 _ rfl hT
    | succ n ih =>
      intro m T hmn hT
      have hm : m < 5 := by omega
      refine q_iload hC 4 dL_makes_3 rfl rfl ?_
      refine q_iconst hC dL_makes_5 (v := 5) (by decide) rfl ?_
      refine q_icmp_ge hC dL_makes_6 (t := 72) (n := 9) (by decide) rfl (fun h6 => absurd h6 (nI_ge hm (by decide))) (fun h6 => ?_)
      refine q_aload_n hC 2 dL_makes_9 rfl rfl ?_
      refine q_iload_n hC 3 dL_makes_10 rfl rfl ?_
      refine q_iload hC 4 dL_makes_11 rfl rfl ?_
      refine q_iadd hC dL_makes_13 rfl ?_
      rw [nI_add f m]
      refine q_callS hC (c_L_cell (q_hD hC) hs) m_L_cell lk_L_113 dL_makes_14 (f + m, ()) rfl rfl (Nat.le_of_ble_eq_true rfl) ⟨⟨by decide, by decide⟩, by decide, by decide⟩ rfl (k' := (0, 0)) rfl (show f + m < 2 ^ 31 by omega) (fun v S' hp => ?_)
      obtain ⟨rc, rfl, rfl⟩ := hp
      show qV Γ _ _ 17 _ (.int _ :: _) _ _
      refine q_sipush hC dL_makes_17 (v := 1000) (by decide) rfl ?_
      refine q_callS hC (c_L_chosen (q_hD hC)) m_L_chosen lk_L_117 dL_makes_20 (rc, 1000) rfl rfl (Nat.le_of_ble_eq_true rfl) ⟨⟨by decide, by decide⟩, by decide, by decide⟩ rfl (k' := (0, 0)) rfl ⟨(show 1 ≤ 1000 by decide), (show 1000 < 2 ^ 31 by decide)⟩ (fun v S' hp => ?_)
      obtain ⟨r9, rfl, ⟨v, hv, rfl⟩, rfl⟩ := hp
      have hv : v < 1000 := hv
      show qV Γ _ _ 23 _ (.int _ :: _) _ _
      refine q_istore hC dL_makes_23 (by decide) (ls' := [(0, _), (1, _), (2, _), (3, _), (4, _), (5, _)]) rfl rfl ?_
      refine q_aload_n hC 0 dL_makes_25 rfl rfl ?_
      refine q_iload_n hC 1 dL_makes_26 rfl rfl ?_
      refine q_bipush hC dL_makes_27 (v := 65) (by decide) rfl ?_
      refine q_iload hC 4 dL_makes_29 rfl rfl ?_
      refine q_iadd hC dL_makes_31 rfl ?_
      refine q_i2c hC dL_makes_32 rfl ?_
      rw [z_a65 m hm]
      refine q_iload hC 5 dL_makes_33 rfl rfl ?_
      refine q_bipush hC dL_makes_35 (v := 8) (by decide) rfl ?_
      refine q_irem hC dL_makes_37 (by decide) rfl ?_
      rw [show (nI v : Int32) - nI v / 8 * 8 = nI (v % 8) from M v 8 (by omega) (by decide) (by decide)]
      refine q_if_ne hC dL_makes_38 (t := 46) (n := 41) (by decide) rfl (fun h38 => ?_) (fun h38 => ?_)
      · refine q_iload hC 5 dL_makes_46 rfl rfl ?_
        refine q_bipush hC dL_makes_48 (v := 8) (by decide) rfl ?_
        refine q_irem hC dL_makes_50 (by decide) rfl ?_
        refine q_iconst hC dL_makes_51 (v := 4) (by decide) rfl ?_
        refine q_icmp_ge hC dL_makes_52 (t := 60) (n := 55) (by decide) rfl (fun h52 => ?_) (fun h52 => ?_)
        · refine q_bipush hC dL_makes_60 (v := 99) (by decide) rfl ?_
          refine q_callSW hC (cw_L_type (q_hD hC)) mw_L_type lk_L_120 dL_makes_62 (i, m, 99) rfl rfl (Nat.le_of_ble_eq_true rfl) ⟨⟨by decide, by decide⟩, by decide, by decide⟩ rfl (k' := (0, 0)) rfl ⟨hi, hm, (Or.inr (Or.inl rfl)), hT.2.1⟩ (fun v S' hp => ?_)
          obtain ⟨r9, rfl, hw9, -⟩ := hp
          have hw9 : z_mw T S' i := hw9
          show qV Γ _ _ 65 _ (.long _ :: _) _ _
          refine q_pop2 hC dL_makes_65 rfl rfl ?_
          refine q_iinc hC 4 dL_makes_66 rfl (v := nI (m + 1)) (z_inc m) (by decide) (ls' := [(0, _), (1, _), (2, _), (3, _), (4, _), (5, _)]) rfl rfl ?_
          refine q_goto hC dL_makes_69 (n := 3) (by decide) ?_
          refine q_locp [0, 1, 2, 3, 4] (ls' := [(0, _), (1, _), (2, _), (3, _), (4, _)]) rfl ?_
          exact ih (m + 1) _ (by omega) (z_mw_tr hT hw9)
        · refine q_bipush hC dL_makes_55 (v := 105) (by decide) rfl ?_
          refine q_goto hC dL_makes_57 (n := 62) (by decide) ?_
          refine q_callSW hC (cw_L_type (q_hD hC)) mw_L_type lk_L_120 dL_makes_62 (i, m, 105) rfl rfl (Nat.le_of_ble_eq_true rfl) ⟨⟨by decide, by decide⟩, by decide, by decide⟩ rfl (k' := (0, 0)) rfl ⟨hi, hm, (Or.inr (Or.inr rfl)), hT.2.1⟩ (fun v S' hp => ?_)
          obtain ⟨r9, rfl, hw9, -⟩ := hp
          have hw9 : z_mw T S' i := hw9
          show qV Γ _ _ 65 _ (.long _ :: _) _ _
          refine q_pop2 hC dL_makes_65 rfl rfl ?_
          refine q_iinc hC 4 dL_makes_66 rfl (v := nI (m + 1)) (z_inc m) (by decide) (ls' := [(0, _), (1, _), (2, _), (3, _), (4, _), (5, _)]) rfl rfl ?_
          refine q_goto hC dL_makes_69 (n := 3) (by decide) ?_
          refine q_locp [0, 1, 2, 3, 4] (ls' := [(0, _), (1, _), (2, _), (3, _), (4, _)]) rfl ?_
          exact ih (m + 1) _ (by omega) (z_mw_tr hT hw9)
      · refine q_bipush hC dL_makes_41 (v := 45) (by decide) rfl ?_
        refine q_goto hC dL_makes_43 (n := 62) (by decide) ?_
        refine q_callSW hC (cw_L_type (q_hD hC)) mw_L_type lk_L_120 dL_makes_62 (i, m, 45) rfl rfl (Nat.le_of_ble_eq_true rfl) ⟨⟨by decide, by decide⟩, by decide, by decide⟩ rfl (k' := (0, 0)) rfl ⟨hi, hm, (Or.inl rfl), hT.2.1⟩ (fun v S' hp => ?_)
        obtain ⟨r9, rfl, hw9, -⟩ := hp
        have hw9 : z_mw T S' i := hw9
        show qV Γ _ _ 65 _ (.long _ :: _) _ _
        refine q_pop2 hC dL_makes_65 rfl rfl ?_
        refine q_iinc hC 4 dL_makes_66 rfl (v := nI (m + 1)) (z_inc m) (by decide) (ls' := [(0, _), (1, _), (2, _), (3, _), (4, _), (5, _)]) rfl rfl ?_
        refine q_goto hC dL_makes_69 (n := 3) (by decide) ?_
        refine q_locp [0, 1, 2, 3, 4] (ls' := [(0, _), (1, _), (2, _), (3, _), (4, _)]) rfl ?_
        exact ih (m + 1) _ (by omega) (z_mw_tr hT hw9)
  show qV Γ _ _ 0 [(0, .ref (q_ad Γ 36 0)), (1, .int (nI i)), (2, .ref (q_o Γ).1.1), (3, .int (nI f))] [] S (0, 0)
  refine q_iconst hC dL_makes_0 (v := 0) (by decide) rfl ?_
  refine q_istore hC dL_makes_1 (by decide) (ls' := [(0, _), (1, _), (2, _), (3, _), (4, _)]) rfl rfl ?_
  exact L1 5 0 _ rfl (z_mw_rf hQ)
abbrev rm_L_isMended : Room := { frames := 8, cells := 0, slots := 0, locals := 176 }
set_option maxHeartbeats 4000000 in
set_option maxRecDepth 100000 in
theorem c_L_isMended {L : qL} (hD : q_D L.2.2.2.1) : qCT L yL_isMended cL_isMended 3 (some .boolean) rm_L_isMended (fun ad _ (x : Nat × Unit) => [.ref (ad 36 0), .int (nI x.1)]) (fun x S => x.1 < 4 ∧ z_Q S x.1) (qPi (fun x S r S' => r = 1 ∧ z_mw S S' x.1 ∧ z_rdy S' x.1)) := by
  refine q_met hD (by decide) (fun _ => Nat.le_of_ble_eq_true rfl) (fun Γ x S hΓ hpre hC => ?_)
  subst hΓ
  obtain ⟨i, u⟩ := x
  obtain ⟨hi, hQ⟩ := hpre
  have hi : i < 4 := hi
  have hQ : z_Q S i := hQ
  have L1 : ∀ (n m : Nat) (T : qM), z_cnt (T 2 i) < n → m + n = 6 → z_mw S T i → qV Γ rm_L_isMended 3 2 [(0, .ref (q_ad Γ 36 0)), (1, .int (nI i)), (2, .int (nI m))] [] T (0, 0) := by
    intro n
    induction n with
    | zero => exact fun m T h => absurd h (Nat.not_lt_zero _)
    | succ n ih =>
      intro m T hc hmn hT
      have hm : m < 6 := by omega
      refine q_iload_n hC 2 dL_isMended_2 rfl rfl ?_
      refine q_bipush hC dL_isMended_3 (v := 6) (by decide) rfl ?_
      refine q_icmp_ge hC dL_isMended_5 (t := 47) (n := 8) (by decide) rfl (fun h5 => absurd h5 (nI_ge hm (by decide))) (fun h5 => ?_)
      refine q_aload_n hC 0 dL_isMended_8 rfl rfl ?_
      refine q_iload_n hC 1 dL_isMended_9 rfl rfl ?_
      refine q_callSW hC (cw_L_check (q_hD hC)) mw_L_check lk_L_158 dL_isMended_10 (i, ()) rfl rfl (Nat.le_of_ble_eq_true rfl) ⟨⟨by decide, by decide⟩, by decide, by decide⟩ rfl (k' := (0, 0)) rfl ⟨hi, hT.2⟩ (fun v S' hp => ?_)
      obtain ⟨U, hU⟩ : ∃ U, U = S' := ⟨_, rfl⟩
      subst hU
      obtain ⟨r9, rfl, h19, h29, hk9⟩ := hp
      have hk9 : z_chk T U i := hk9
      obtain rfl : r9 = (U 0 i 3).toInt64 := h19
      show qV Γ _ _ 13 _ (.long _ :: _) _ _
      have hn2 : ¬ U 0 i 2 = 0 := hk9.2.2.1
      have hcd : z_cd U i (U 0 i 3) := (hk9.2.2.2.2 hn2).2.1
      rcases hcd with e3 | ⟨t, b, ht, hb1, hb, e3, h45⟩
      · rw [e3]
        refine q_lconst hC dL_isMended_13 (v := 0) (by decide) rfl ?_
        refine q_lcmp hC dL_isMended_14 rfl ?_
        refine q_if_lt hC dL_isMended_15 (t := 47) (n := 18) (by decide) rfl (fun h15 => ?_) (fun h15 => absurd z_cdM0 h15)
        refine q_aload_n hC 0 dL_isMended_47 rfl rfl ?_
        refine q_iload_n hC 1 dL_isMended_48 rfl rfl ?_
        refine q_callSW hC (cw_L_check (q_hD hC)) mw_L_check lk_L_158 dL_isMended_49 (i, ()) rfl rfl (Nat.le_of_ble_eq_true rfl) ⟨⟨by decide, by decide⟩, by decide, by decide⟩ rfl (k' := (0, 0)) rfl ⟨hi, hk9.2.2.2⟩ (fun v S' hp => ?_)
        obtain ⟨r8, rfl, h18, h28, h38⟩ := hp
        obtain rfl : U = S' := (z_law_rdy ⟨hn2, e3⟩ h28).symm
        rw [show r8 = (U 0 i 3).toInt64 from h18, e3]
        show qV Γ _ _ 52 _ (.long _ :: _) _ _
        refine q_ldc2 hC dL_isMended_52 cl_L_165 rfl ?_
        refine q_lcmp hC dL_isMended_55 rfl ?_
        refine q_if_ne hC dL_isMended_56 (t := 63) (n := 59) (by decide) rfl (fun h56 => absurd z_cdM1 h56) (fun h56 => ?_)
        refine q_iconst hC dL_isMended_59 (v := 1) (by decide) rfl ?_
        refine q_goto hC dL_isMended_60 (n := 64) (by decide) ?_
        refine q_iret hC dL_isMended_64 rfl ⟨by decide, by decide⟩ ⟨_, rfl, ?_⟩
        exact ⟨rfl, z_mw_tr hT (z_chk_mw hk9), hn2, e3⟩
      · rw [e3]
        refine q_lconst hC dL_isMended_13 (v := 0) (by decide) rfl ?_
        refine q_lcmp hC dL_isMended_14 rfl ?_
        refine q_if_lt hC dL_isMended_15 (t := 47) (n := 18) (by decide) rfl (fun h15 => absurd h15 (z_cdN0 t ht b (by omega))) (fun h15 => ?_)
        refine q_aload_n hC 0 dL_isMended_18 rfl rfl ?_
        refine q_iload_n hC 1 dL_isMended_19 rfl rfl ?_
        refine q_ldc2 hC dL_isMended_20 cl_L_161 rfl ?_
        refine q_aload_n hC 0 dL_isMended_23 rfl rfl ?_
        refine q_iload_n hC 1 dL_isMended_24 rfl rfl ?_
        refine q_callSW hC (cw_L_check (q_hD hC)) mw_L_check lk_L_158 dL_isMended_25 (i, ()) rfl rfl (Nat.le_of_ble_eq_true rfl) ⟨⟨by decide, by decide⟩, by decide, by decide⟩ rfl (k' := (0, 0)) rfl ⟨hi, hk9.2.2.2⟩ (fun v S' hp => ?_)
        obtain ⟨r8, rfl, h18, h28, h38⟩ := hp
        obtain rfl : U = S' := by
          rcases h28 with ⟨-, e⟩ | ⟨e, -⟩
          · exact e.symm
          · exact absurd e hn2
        rw [show r8 = (U 0 i 3).toInt64 from h18, e3]
        show qV Γ _ _ 28 _ (.long _ :: _) _ _
        refine q_ldc2 hC dL_isMended_28 cl_L_163 rfl ?_
        refine q_ldiv hC dL_isMended_31 (by decide) rfl ?_
        refine q_ladd hC dL_isMended_32 rfl ?_
        refine q_l2i hC dL_isMended_33 rfl ?_
        refine q_i2c hC dL_isMended_34 rfl ?_
        rw [z_cdNt t ht b (by omega)]
        refine q_bipush hC dL_isMended_35 (v := 45) (by decide) rfl ?_
        refine q_callSW hC (cw_L_type (q_hD hC)) mw_L_type lk_L_120 dL_isMended_37 (i, t, 45) rfl rfl (Nat.le_of_ble_eq_true rfl) ⟨⟨by decide, by decide⟩, by decide, by decide⟩ rfl (k' := (0, 0)) rfl ⟨hi, ht, Or.inl rfl, hk9.2.2.2.1⟩ (fun v S' hp => ?_)
        obtain ⟨r7, rfl, hw7, ht45, hto, -⟩ := hp
        have hw7 : z_mw U S' i := hw7
        show qV Γ _ _ 40 _ (.long _ :: _) _ _
        refine q_pop2 hC dL_isMended_40 rfl rfl ?_
        refine q_iinc hC 2 dL_isMended_41 rfl (v := nI (m + 1)) (z_inc m) (by decide) (ls' := [(0, _), (1, _), (2, _)]) rfl rfl ?_
        refine q_goto hC dL_isMended_44 (n := 2) (by decide) ?_
        exact ih (m + 1) _ (by
          have hlt : z_cnt (S' 2 i) < z_cnt (U 2 i) := z_cnt_lt ht h45 ht45 hto
          have h2 : U 2 i = T 2 i := hk9.1 2 i (by omega)
          rw [h2] at hlt
          omega) (by omega) (z_mw_tr hT (z_mw_tr (z_chk_mw hk9) hw7))
  show qV Γ _ _ 0 [(0, .ref (q_ad Γ 36 0)), (1, .int (nI i))] [] S (0, 0)
  refine q_iconst hC dL_isMended_0 (v := 0) (by decide) rfl ?_
  refine q_istore_n hC dL_isMended_1 (by decide) (ls' := [(0, _), (1, _), (2, _)]) rfl rfl ?_
  exact L1 6 0 _ (z_cnt_le _) rfl (z_mw_rf hQ)
