-- printed by wip/p36/gen_m2.py
/-- a row of the first methods, walked anew -/
def z_wc (S T : qM) (i r : Nat) : Prop := (∀ k' i', ¬ ((k' = 19 ∨ k' = 20) ∧ i' = i) → T k' i' = S k' i') ∧ (∀ p, (p < r * 6 ∨ r * 6 + 6 ≤ p) → T 19 i p = S 19 i p ∧ T 20 i p = S 20 i p) ∧
  (∀ q, q < 6 → (T 19 i (r * 6 + q) = -1 ∨ ∃ a, a < 5 ∧ T 19 i (r * 6 + q) = nI a ∧ ¬ S 10 i (a * 6 + q) = 45) ∧ z_v5 (T 20 i (r * 6 + q)))
theorem z_wc_nt {S T U : qM} {i r a : Nat} (h : z_wc S T i r) (ha : a < 5) (g : z_nt T U i r a) : z_wc S U i r := by
  refine ⟨fun k' i' hk => (g.1 k' i' hk).trans (h.1 k' i' hk), fun p hp => ?_, fun q hq => ⟨?_, ?_⟩⟩
  · obtain ⟨h1, h2⟩ := h.2.1 p hp
    constructor
    · rcases g.2.1 p with e | ⟨q, hq, e, -⟩
      · exact e.trans h1
      · omega
    · rcases g.2.2 p with e | ⟨q, hq, e, -⟩
      · exact e.trans h2
      · omega
  · rcases g.2.1 (r * 6 + q) with e | ⟨q', hq', e, e1, e2⟩
    · rw [e]; exact (h.2.2 q hq).1
    · obtain rfl : q' = q := by omega
      rw [h.1 10 i (by omega)] at e2
      exact Or.inr ⟨a, ha, e1, e2⟩
  · rcases g.2.2 (r * 6 + q) with e | ⟨q', hq', e, e1⟩
    · rw [e]; exact (h.2.2 q hq).2
    · rw [e1]; exact Or.inr ⟨a, ha, rfl⟩
def z_wc0 (S T : qM) (i r m : Nat) : Prop := (∀ k' i', ¬ ((k' = 19 ∨ k' = 20) ∧ i' = i) → T k' i' = S k' i') ∧ (∀ p, (p < r * 6 ∨ r * 6 + m ≤ p) → T 19 i p = S 19 i p ∧ T 20 i p = S 20 i p) ∧ (∀ q, q < m → T 19 i (r * 6 + q) = -1 ∧ T 20 i (r * 6 + q) = -1)
theorem z_wc0_s {S T : qM} {i r m : Nat} (h : z_wc0 S T i r m) : z_wc0 S (q_up (q_up T 19 i (upd (T 19 i) (r * 6 + m) (-1))) 20 i (upd (T 20 i) (r * 6 + m) (-1))) i r (m + 1) := by
  refine ⟨fun k' i' hk => ?_, fun p hp => ?_, fun q hq => ?_⟩
  · simp only [q_up]
    rw [if_neg (by omega), if_neg (by omega)]
    exact h.1 k' i' hk
  · simp (config := {decide := true}) only [q_up, and_self, if_true, upd, false_and, if_false]
    rw [if_neg (by omega), if_neg (by omega)]
    exact h.2.1 p (by omega)
  · simp (config := {decide := true}) only [q_up, and_self, if_true, upd, false_and, if_false]
    by_cases e : q = m
    · rw [if_pos (by omega), if_pos (by omega)]; exact ⟨rfl, rfl⟩
    · rw [if_neg (by omega), if_neg (by omega)]
      exact h.2.2 q (by omega)
theorem z_r6 (r : Nat) : nI r * 6 = nI (r * 6) := by
  show nI r * nI 6 = _
  rw [pk_mul]
theorem z_r66 (r : Nat) : nI r * 6 + 6 = nI (r * 6 + 6) := by
  rw [z_r6]
  show nI (r * 6) + nI 6 = _
  rw [nI_add]
abbrev rm_X3_walkChain : Room := { frames := 1, cells := 0, slots := 0, locals := 27 }
set_option maxHeartbeats 4000000 in
set_option maxRecDepth 100000 in
theorem c_X3_walkChain {L : qL} (hD : q_D L.2.2.2.1) : qCT L yX3_walkChain cX3_walkChain 5 none rm_X3_walkChain (fun ad _ (x : Nat × Nat) => [.ref (ad 17 x.1), .ref (ad 1 x.1), .int (nI x.2)]) (fun x S => x.1 < 4 ∧ x.2 < 5 ∧ z_sups S x.1) (qPv (fun x S S' => z_wc S S' x.1 x.2)) := by
  refine q_met hD (by decide) (fun _ => Nat.le_of_ble_eq_true rfl) (fun Γ x S hΓ hpre hC => ?_)
  subst hΓ
  obtain ⟨i, r⟩ := x
  obtain ⟨hi, hr, hS⟩ := hpre
  have hi : i < 4 := hi
  have hr : r < 5 := hr
  have hS : z_sups S i := hS
  have L2 : ∀ (n m : Nat) (T : qM) (y : Int32), m + n = 5 → z_v5 y → z_wc S T i r → qV Γ rm_X3_walkChain 5 82 [(0, .ref (q_ad Γ 17 i)), (1, .ref (q_ad Γ 1 i)), (2, .int (nI r)), (3, .int y), (4, .int (nI m))] [] T (0, 0) := by
    intro n
    induction n with
    | zero =>
      intro m T y hmn hy hI
      obtain rfl : m = 5 := by omega
      refine q_iload hC 4 dX3_walkChain_82 rfl rfl ?_
      refine q_iconst hC dX3_walkChain_84 (v := 5) (by decide) rfl ?_
      refine q_icmp_ge hC dX3_walkChain_85 (t := 127) (n := 88) (by decide) rfl (fun h85 => ?_) (fun h85 => absurd (by decide) h85)
      refine q_vret hC dX3_walkChain_127 ⟨by decide, by decide⟩ ⟨rfl, ?_⟩
      exact hI
    | succ n ih =>
      intro m T y hmn hy hI
      have hm : m < 5 := by omega
      refine q_iload hC 4 dX3_walkChain_82 rfl rfl ?_
      refine q_iconst hC dX3_walkChain_84 (v := 5) (by decide) rfl ?_
      refine q_icmp_ge hC dX3_walkChain_85 (t := 127) (n := 88) (by decide) rfl (fun h85 => absurd h85 (nI_ge hm (by decide))) (fun h85 => ?_)
      refine q_iload_n hC 3 dX3_walkChain_88 rfl rfl ?_
      refine q_iconst hC dX3_walkChain_89 (v := (-1)) (by decide) rfl ?_
      refine q_icmp_eq hC dX3_walkChain_90 (t := 127) (n := 93) (by decide) rfl (fun h90 => ?_) (fun h90 => ?_)
      · refine q_vret hC dX3_walkChain_127 ⟨by decide, by decide⟩ ⟨rfl, ?_⟩
        exact hI
      · refine q_aload_n hC 0 dX3_walkChain_93 rfl rfl ?_
        refine q_get_f hC f_X3_47 dX3_walkChain_94 rfl rfl hi rfl ?_
        refine q_iload_n hC 3 dX3_walkChain_97 rfl rfl ?_
        refine q_callSN hC (c_X9_has (q_hD hC)) m_X9_has ln_X3_80 dX3_walkChain_98 (T 17 i 1, y) rfl rfl (Nat.le_of_ble_eq_true rfl) ⟨⟨by decide, by decide⟩, by decide, by decide⟩ rfl (k' := (0, 0)) rfl trivial (fun v S' hp => ?_)
        obtain ⟨r98_2, rfl, hr98_2, rfl⟩ := hp
        show qV Γ _ _ 101 _ (.int _ :: _) _ _
        refine q_if_eq hC dX3_walkChain_101 (t := 127) (n := 104) (by decide) rfl (fun h101 => ?_) (fun h101 => ?_)
        · refine q_vret hC dX3_walkChain_127 ⟨by decide, by decide⟩ ⟨rfl, ?_⟩
          exact hI
        · obtain ⟨ya, hya, rfl⟩ := z_v5n hy h90
          refine q_aload_n hC 0 dX3_walkChain_104 rfl rfl ?_
          refine q_aload_n hC 1 dX3_walkChain_105 rfl rfl ?_
          refine q_get_f hC f_X3_59 dX3_walkChain_106 rfl rfl hi rfl ?_
          refine q_iload_n hC 2 dX3_walkChain_109 rfl rfl ?_
          refine q_iload_n hC 3 dX3_walkChain_110 rfl rfl ?_
          refine q_callV hC (c_X3_noteMethods (q_hD hC)) m_X3_noteMethods lk_X3_93 dX3_walkChain_111 (i, r, ya) rfl rfl rfl rfl rfl hi (Nat.le_of_ble_eq_true rfl) ⟨⟨by decide, by decide⟩, by decide, by decide⟩ rfl (k' := (0, 0)) rfl ⟨hi, hr, hya⟩ (fun v S' hp => ?_)
          obtain ⟨rfl, hnt⟩ := hp
          have hnt : z_nt T S' i r ya := hnt
          show qV Γ _ _ 114 _ _ _ _
          refine q_aload_n hC 1 dX3_walkChain_114 rfl rfl ?_
          refine q_get_f hC f_X3_77 dX3_walkChain_115 rfl rfl hi rfl ?_
          refine q_iload_n hC 3 dX3_walkChain_118 rfl rfl ?_
          refine q_iald hC dX3_walkChain_119 rfl hi (z_in ⟨ya, hya, rfl⟩ (by decide)) rfl ?_
          refine q_istore_n hC dX3_walkChain_120 (by decide) (ls' := [(0, _), (1, _), (2, _), (3, _), (4, _)]) rfl rfl ?_
          refine q_iinc hC 4 dX3_walkChain_121 rfl (v := nI (m + 1)) (z_inc m) (by decide) (ls' := [(0, _), (1, _), (2, _), (3, _), (4, _)]) rfl rfl ?_
          refine q_goto hC dX3_walkChain_124 (n := 82) (by decide) ?_
          exact ih (m + 1) _ _ (by omega) (by
            have h7 : S' 7 i = S 7 i := (hnt.1 7 i (by omega)).trans (hI.1 7 i (by omega))
            rw [h7]
            exact z_sups_at hS ⟨ya, hya, rfl⟩) (z_wc_nt hI hya hnt)
  have J57 : ∀ (T : qM) (x : Int32), z_wc S T i r → qV Γ rm_X3_walkChain 5 57 [(0, .ref (q_ad Γ 17 i)), (1, .ref (q_ad Γ 1 i)), (2, .int (nI r)), (3, .int x)] [] T (0, 0) := by
    intro T x hI
    refine q_aload_n hC 0 dX3_walkChain_57 rfl rfl ?_
    refine q_get_f hC f_X3_47 dX3_walkChain_58 rfl rfl hi rfl ?_
    refine q_iload_n hC 2 dX3_walkChain_61 rfl rfl ?_
    refine q_callSN hC (c_X9_has (q_hD hC)) m_X9_has ln_X3_80 dX3_walkChain_62 (T 17 i 1, nI r) rfl rfl (Nat.le_of_ble_eq_true rfl) ⟨⟨by decide, by decide⟩, by decide, by decide⟩ rfl (k' := (0, 0)) rfl trivial (fun v S' hp => ?_)
    obtain ⟨r62_1, rfl, hr62_1, rfl⟩ := hp
    show qV Γ _ _ 65 _ (.int _ :: _) _ _
    refine q_if_eq hC dX3_walkChain_65 (t := 77) (n := 68) (by decide) rfl (fun h65 => ?_) (fun h65 => ?_)
    · refine q_iconst hC dX3_walkChain_77 (v := (-1)) (by decide) rfl ?_
      refine q_istore_n hC dX3_walkChain_78 (by decide) (ls' := [(0, _), (1, _), (2, _), (3, _)]) rfl rfl ?_
      refine q_iconst hC dX3_walkChain_79 (v := 1) (by decide) rfl ?_
      refine q_istore hC dX3_walkChain_80 (by decide) (ls' := [(0, _), (1, _), (2, _), (3, _), (4, _)]) rfl rfl ?_
      exact L2 4 1 T _ (by omega) (by first | exact Or.inl rfl | (rw [hI.1 7 i (by omega)]; exact z_sups_at hS ⟨r, hr, rfl⟩)) hI
    · refine q_aload_n hC 1 dX3_walkChain_68 rfl rfl ?_
      refine q_get_f hC f_X3_77 dX3_walkChain_69 rfl rfl hi rfl ?_
      refine q_iload_n hC 2 dX3_walkChain_72 rfl rfl ?_
      refine q_iald hC dX3_walkChain_73 rfl hi (vp_in_nI hr (by decide)) rfl ?_
      refine q_goto hC dX3_walkChain_74 (n := 78) (by decide) ?_
      refine q_istore_n hC dX3_walkChain_78 (by decide) (ls' := [(0, _), (1, _), (2, _), (3, _)]) rfl rfl ?_
      refine q_iconst hC dX3_walkChain_79 (v := 1) (by decide) rfl ?_
      refine q_istore hC dX3_walkChain_80 (by decide) (ls' := [(0, _), (1, _), (2, _), (3, _), (4, _)]) rfl rfl ?_
      exact L2 4 1 T _ (by omega) (by first | exact Or.inl rfl | (rw [hI.1 7 i (by omega)]; exact z_sups_at hS ⟨r, hr, rfl⟩)) hI
  have L1 : ∀ (n m : Nat) (T : qM) (x : Int32), m + n = 6 → x = nI (r * 6 + m) → z_wc0 S T i r m → qV Γ rm_X3_walkChain 5 5 [(0, .ref (q_ad Γ 17 i)), (1, .ref (q_ad Γ 1 i)), (2, .int (nI r)), (3, .int x)] [] T (0, 0) := by
    intro n
    induction n with
    | zero =>
      intro m T x hmn hx hI
      obtain rfl : m = 6 := by omega
      have hW : z_wc S T i r := ⟨hI.1, hI.2.1, fun q hq => ⟨Or.inl (hI.2.2 q hq).1, Or.inl (hI.2.2 q hq).2⟩⟩
      refine q_iload_n hC 3 dX3_walkChain_5 rfl rfl ?_
      refine q_iload_n hC 2 dX3_walkChain_6 rfl rfl ?_
      refine q_bipush hC dX3_walkChain_7 (v := 6) (by decide) rfl ?_
      refine q_imul hC dX3_walkChain_9 rfl ?_
      refine q_bipush hC dX3_walkChain_10 (v := 6) (by decide) rfl ?_
      refine q_iadd hC dX3_walkChain_12 rfl ?_
      refine q_icmp_ge hC dX3_walkChain_13 (t := 36) (n := 16) (by decide) rfl (fun h13 => ?_) (fun h13 => absurd (by rw [hx, z_r66]; exact Int32.le_refl _) h13)
      refine q_aload_n hC 0 dX3_walkChain_36 rfl rfl ?_
      refine q_get_f hC f_X3_43 dX3_walkChain_37 rfl rfl hi rfl ?_
      refine q_iload_n hC 2 dX3_walkChain_40 rfl rfl ?_
      refine q_callSN hC (c_X9_has (q_hD hC)) m_X9_has ln_X3_80 dX3_walkChain_41 (T 17 i 0, nI r) rfl rfl (Nat.le_of_ble_eq_true rfl) ⟨⟨by decide, by decide⟩, by decide, by decide⟩ rfl (k' := (0, 0)) rfl trivial (fun v S' hp => ?_)
      obtain ⟨r41_1, rfl, hr41_1, rfl⟩ := hp
      show qV Γ _ _ 44 _ (.int _ :: _) _ _
      refine q_if_eq hC dX3_walkChain_44 (t := 57) (n := 47) (by decide) rfl (fun h44 => ?_) (fun h44 => ?_)
      · first
          | exact J57 _ _ hW
          | exact J57 _ _ (z_wc_nt hW hr hnt)
      · refine q_aload_n hC 0 dX3_walkChain_47 rfl rfl ?_
        refine q_aload_n hC 1 dX3_walkChain_48 rfl rfl ?_
        refine q_get_f hC f_X3_59 dX3_walkChain_49 rfl rfl hi rfl ?_
        refine q_iload_n hC 2 dX3_walkChain_52 rfl rfl ?_
        refine q_iload_n hC 2 dX3_walkChain_53 rfl rfl ?_
        refine q_callV hC (c_X3_noteMethods (q_hD hC)) m_X3_noteMethods lk_X3_93 dX3_walkChain_54 (i, r, r) rfl rfl rfl rfl rfl hi (Nat.le_of_ble_eq_true rfl) ⟨⟨by decide, by decide⟩, by decide, by decide⟩ rfl (k' := (0, 0)) rfl ⟨hi, hr, hr⟩ (fun v S' hp => ?_)
        obtain ⟨rfl, hnt⟩ := hp
        have hnt : z_nt T S' i r r := hnt
        show qV Γ _ _ 57 _ _ _ _
        first
          | exact J57 _ _ hW
          | exact J57 _ _ (z_wc_nt hW hr hnt)
    | succ n ih =>
      intro m T x hmn hx hI
      have hv : vp_in x 36 := by rw [hx]; exact vp_in_nI (by omega) (by decide)
      have ec : x.toNatClampNeg = r * 6 + m := by rw [hx]; exact nI_clamp (by omega)
      refine q_iload_n hC 3 dX3_walkChain_5 rfl rfl ?_
      refine q_iload_n hC 2 dX3_walkChain_6 rfl rfl ?_
      refine q_bipush hC dX3_walkChain_7 (v := 6) (by decide) rfl ?_
      refine q_imul hC dX3_walkChain_9 rfl ?_
      refine q_bipush hC dX3_walkChain_10 (v := 6) (by decide) rfl ?_
      refine q_iadd hC dX3_walkChain_12 rfl ?_
      refine q_icmp_ge hC dX3_walkChain_13 (t := 36) (n := 16) (by decide) rfl (fun h13 => absurd h13 (by rw [hx, z_r66]; exact nI_ge (by omega) (by omega))) (fun h13 => ?_)
      refine q_aload_n hC 0 dX3_walkChain_16 rfl rfl ?_
      refine q_get_f hC f_X3_15 dX3_walkChain_17 rfl rfl hi rfl ?_
      refine q_iload_n hC 3 dX3_walkChain_20 rfl rfl ?_
      refine q_iconst hC dX3_walkChain_21 (v := (-1)) (by decide) rfl ?_
      refine q_iast hC dX3_walkChain_22 (fun _ => rfl) hi hv rfl ?_
      refine q_aload_n hC 0 dX3_walkChain_23 rfl rfl ?_
      refine q_get_f hC f_X3_18 dX3_walkChain_24 rfl rfl hi rfl ?_
      refine q_iload_n hC 3 dX3_walkChain_27 rfl rfl ?_
      refine q_iconst hC dX3_walkChain_28 (v := (-1)) (by decide) rfl ?_
      refine q_iast hC dX3_walkChain_29 (fun _ => rfl) hi hv rfl ?_
      refine q_iinc hC 3 dX3_walkChain_30 rfl (v := nI (r * 6 + (m + 1))) (by rw [hx]; exact z_inc _) (by decide) (ls' := [(0, _), (1, _), (2, _), (3, _)]) rfl rfl ?_
      refine q_goto hC dX3_walkChain_33 (n := 5) (by decide) ?_
      refine ih (m + 1) _ _ (by omega) rfl ?_
      rw [ec]
      exact z_wc0_s hI
  show qV Γ _ _ 0 [(0, .ref (q_ad Γ 17 i)), (1, .ref (q_ad Γ 1 i)), (2, .int (nI r))] [] S (0, 0)
  refine q_iload_n hC 2 dX3_walkChain_0 rfl rfl ?_
  refine q_bipush hC dX3_walkChain_1 (v := 6) (by decide) rfl ?_
  refine q_imul hC dX3_walkChain_3 rfl ?_
  refine q_istore_n hC dX3_walkChain_4 (by decide) (ls' := [(0, _), (1, _), (2, _), (3, _)]) rfl rfl ?_
  exact L1 6 0 S _ (by omega) (z_r6 r) ⟨fun _ _ _ => rfl, fun _ _ => ⟨rfl, rfl⟩, fun q hq => absurd hq (by omega)⟩
def z_df (S T : qM) (i : Nat) : Prop := (∀ k' i', ¬ (k' = 25 ∧ i' = i) → T k' i' = S k' i') ∧ ∀ p, p < 36 → z_v5 (T 25 i p)
theorem z_df_s {S T : qM} {i j : Nat} {x : Int32} (h : z_df S T i) (hx : z_v5 x) : z_df S (q_up T 25 i (upd (T 25 i) j x)) i := by
  refine ⟨fun k' i' hk => ?_, fun p hp => ?_⟩
  · simp only [q_up, if_neg hk]
    exact h.1 k' i' hk
  · simp only [q_up, and_self, if_true, upd]
    split
    · exact hx
    · exact h.2 p hp
abbrev rm_X3_deriveFields : Room := { frames := 1, cells := 0, slots := 0, locals := 24 }
set_option maxHeartbeats 4000000 in
set_option maxRecDepth 100000 in
theorem c_X3_deriveFields {L : qL} (hD : q_D L.2.2.2.1) : qCT L yX3_deriveFields cX3_deriveFields 5 none rm_X3_deriveFields (fun ad _ (x : Nat × Nat) => [.ref (ad 17 x.1), .ref (ad 1 x.1), .int (nI x.2)]) (fun x S => x.1 < 4 ∧ x.2 < 5 ∧ z_sups S x.1 ∧ ∀ p, p < 36 → z_v5 (S 25 x.1 p)) (qPv (fun x S S' => z_df S S' x.1)) := by
  refine q_met hD (by decide) (fun _ => Nat.le_of_ble_eq_true rfl) (fun Γ x S hΓ hpre hC => ?_)
  subst hΓ
  obtain ⟨i, r⟩ := x
  obtain ⟨hi, hr, hS, h25⟩ := hpre
  have hi : i < 4 := hi
  have hr : r < 5 := hr
  have hr6 : r < 6 := by omega
  have hS : z_sups S i := hS
  have h25 : ∀ p, p < 36 → z_v5 (S 25 i p) := h25
  have L : ∀ (n m : Nat) (T : qM), m + n = 6 → z_df S T i → qV Γ rm_X3_deriveFields 5 2 [(0, .ref (q_ad Γ 17 i)), (1, .ref (q_ad Γ 1 i)), (2, .int (nI r)), (3, .int (nI m))] [] T (0, 0) := by
    intro n
    induction n with
    | zero =>
      intro m T hmn hI
      obtain rfl : m = 6 := by omega
      refine q_iload_n hC 3 dX3_deriveFields_2 rfl rfl ?_
      refine q_bipush hC dX3_deriveFields_3 (v := 6) (by decide) rfl ?_
      refine q_icmp_ge hC dX3_deriveFields_5 (t := 65) (n := 8) (by decide) rfl (fun h5 => ?_) (fun h5 => absurd (by decide) h5)
      refine q_vret hC dX3_deriveFields_65 ⟨by decide, by decide⟩ ⟨rfl, ?_⟩
      exact hI
    | succ n ih =>
      intro m T hmn hI
      have hm : m < 6 := by omega
      refine q_iload_n hC 3 dX3_deriveFields_2 rfl rfl ?_
      refine q_bipush hC dX3_deriveFields_3 (v := 6) (by decide) rfl ?_
      refine q_icmp_ge hC dX3_deriveFields_5 (t := 65) (n := 8) (by decide) rfl (fun h5 => absurd h5 (nI_ge hm (by decide))) (fun h5 => ?_)
      refine q_iload_n hC 2 dX3_deriveFields_8 rfl rfl ?_
      refine q_bipush hC dX3_deriveFields_9 (v := 6) (by decide) rfl ?_
      refine q_imul hC dX3_deriveFields_11 rfl ?_
      refine q_iload_n hC 3 dX3_deriveFields_12 rfl rfl ?_
      refine q_iadd hC dX3_deriveFields_13 rfl ?_
      refine q_istore hC dX3_deriveFields_14 (by decide) (ls' := [(0, _), (1, _), (2, _), (3, _), (4, _)]) rfl rfl ?_
      refine q_aload_n hC 0 dX3_deriveFields_16 rfl rfl ?_
      refine q_get_f hC f_X3_33 dX3_deriveFields_17 rfl rfl hi rfl ?_
      refine q_iload hC 4 dX3_deriveFields_20 rfl rfl ?_
      refine q_aload_n hC 1 dX3_deriveFields_22 rfl rfl ?_
      refine q_get_f hC f_X3_131 dX3_deriveFields_23 rfl rfl hi rfl ?_
      refine q_get_f hC f_X3_97 dX3_deriveFields_26 rfl rfl hi rfl ?_
      refine q_iload hC 4 dX3_deriveFields_29 rfl rfl ?_
      refine q_cald hC dX3_deriveFields_31 rfl hi (z_in30 (z_ltn hr) (z_ltn hm)) rfl ?_
      refine q_bipush hC dX3_deriveFields_32 (v := 45) (by decide) rfl ?_
      refine q_icmp_eq hC dX3_deriveFields_34 (t := 41) (n := 37) (by decide) rfl (fun h34 => ?_) (fun h34 => ?_)
      · refine q_aload_n hC 0 dX3_deriveFields_41 rfl rfl ?_
        refine q_aload_n hC 1 dX3_deriveFields_42 rfl rfl ?_
        refine q_get_f hC f_X3_74 dX3_deriveFields_43 rfl rfl hi rfl ?_
        refine q_iload_n hC 2 dX3_deriveFields_46 rfl rfl ?_
        refine q_iald hC dX3_deriveFields_47 rfl hi (vp_in_nI hr (by decide)) rfl ?_
        refine q_aload_n hC 1 dX3_deriveFields_48 rfl rfl ?_
        refine q_get_f hC f_X3_77 dX3_deriveFields_49 rfl rfl hi rfl ?_
        refine q_iload_n hC 2 dX3_deriveFields_52 rfl rfl ?_
        refine q_iald hC dX3_deriveFields_53 rfl hi (vp_in_nI hr (by decide)) rfl ?_
        refine q_iload_n hC 3 dX3_deriveFields_54 rfl rfl ?_
        refine q_callV hC (c_X3_inheritedField (q_hD hC)) m_X3_inheritedField lk_X3_134 dX3_deriveFields_55 (i, T 8 i (nI r).toNatClampNeg, T 7 i (nI r).toNatClampNeg, nI m) rfl rfl rfl rfl rfl hi (Nat.le_of_ble_eq_true rfl) ⟨⟨by decide, by decide⟩, by decide, by decide⟩ rfl (k' := (0, 0)) rfl ⟨hi, by rw [hI.1 7 i (by omega)]; exact z_sups_at hS ⟨r, hr, rfl⟩, z_ltn hm⟩ (fun v S' hp => ?_)
        obtain ⟨r55_2, rfl, hr55_2, rfl⟩ := hp
        show qV Γ _ _ 58 _ (.int _ :: _) _ _
        refine q_iast hC dX3_deriveFields_58 (fun _ => rfl) hi (z_in36 (z_ltn hr6) (z_ltn hm)) rfl ?_
        refine q_iinc hC 3 dX3_deriveFields_59 rfl (v := nI (m + 1)) (z_inc m) (by decide) (ls' := [(0, _), (1, _), (2, _), (3, _), (4, _)]) rfl rfl ?_
        refine q_goto hC dX3_deriveFields_62 (n := 2) (by decide) ?_
        refine q_locp [0, 1, 2, 3] (ls' := [(0, _), (1, _), (2, _), (3, _)]) rfl ?_
        refine ih (m + 1) _ (by omega) (z_df_s hI ?_)
        first
          | exact Or.inr ⟨r, hr, rfl⟩
          | (subst hr55_2; exact z_inh_r hm (by rw [hI.1 7 i (by omega)]; exact z_sups_at hS ⟨r, hr, rfl⟩) (fun p hp => hI.2 p (by omega)))
      · refine q_iload_n hC 2 dX3_deriveFields_37 rfl rfl ?_
        refine q_goto hC dX3_deriveFields_38 (n := 58) (by decide) ?_
        refine q_iast hC dX3_deriveFields_58 (fun _ => rfl) hi (z_in36 (z_ltn hr6) (z_ltn hm)) rfl ?_
        refine q_iinc hC 3 dX3_deriveFields_59 rfl (v := nI (m + 1)) (z_inc m) (by decide) (ls' := [(0, _), (1, _), (2, _), (3, _), (4, _)]) rfl rfl ?_
        refine q_goto hC dX3_deriveFields_62 (n := 2) (by decide) ?_
        refine q_locp [0, 1, 2, 3] (ls' := [(0, _), (1, _), (2, _), (3, _)]) rfl ?_
        refine ih (m + 1) _ (by omega) (z_df_s hI ?_)
        first
          | exact Or.inr ⟨r, hr, rfl⟩
          | (skip; exact z_inh_r hm (by rw [hI.1 7 i (by omega)]; exact z_sups_at hS ⟨r, hr, rfl⟩) (fun p hp => hI.2 p (by omega)))
  show qV Γ _ _ 0 [(0, .ref (q_ad Γ 17 i)), (1, .ref (q_ad Γ 1 i)), (2, .int (nI r))] [] S (0, 0)
  refine q_iconst hC dX3_deriveFields_0 (v := 0) (by decide) rfl ?_
  refine q_istore_n hC dX3_deriveFields_1 (by decide) (ls' := [(0, _), (1, _), (2, _), (3, _)]) rfl rfl ?_
  exact L 6 0 S (by omega) ⟨fun _ _ _ => rfl, h25⟩
