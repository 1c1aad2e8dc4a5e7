-- printed by wip/p36/gen_m2.py
theorem z_m5_has {x y : Int32} {q : Nat} (hx : z_m5 x) (hy : z_m5 y) (hq : q < 5) (h : ¬ z_has x (nI q) = 0) : ¬ z_has (x ||| y) (nI q) = 0 := by
  obtain ⟨w, hw, rfl⟩ := hx
  obtain ⟨v, hv, rfl⟩ := hy
  have dec : ∀ q, q < 5 → ∀ w, w < 32 → ∀ v, v < 32 → ¬ z_has (nI w) (nI q) = 0 → ¬ z_has (nI w ||| nI v) (nI q) = 0 := by decide +kernel
  exact dec q hq w hw v hv h
theorem z_m5_set {x : Int32} {b : Nat} (hx : z_m5 x) (hb : b < 5) : ¬ z_has (x ||| (1 <<< (nI b &&& 31))) (nI b) = 0 := by
  obtain ⟨w, hw, rfl⟩ := hx
  have dec : ∀ b, b < 5 → ∀ w, w < 32 → ¬ z_has (nI w ||| (1 <<< (nI b &&& 31))) (nI b) = 0 := by decide +kernel
  exact dec b hb w hw
theorem z_q11 {T : qM} {i : Nat} {x : Int32} : q_up T 17 i (upd (T 17 i) 11 x) 17 i 1 = T 17 i 1 := by
  simp [q_up, upd]
def z_xe (S : qM) (i p : Nat) : Prop := ¬ z_has (S 17 i 0) (nI p) = 0 ∧ ¬ S 3 i p = 0 ∧ ¬ z_has (S 17 i 1) (nI p) = 0 ∧ S 5 i p = 0
def z_xi (S : qM) (i p : Nat) : Prop := ¬ z_has (S 17 i 0) (nI p) = 0 ∧ ¬ S 3 i p = 0 ∧ z_has (S 17 i 1) (nI p) = 0
def z_xl (S T : qM) (i b : Nat) : Prop := (∀ k' i', ¬ (k' = 17 ∧ i' = i) → T k' i' = S k' i') ∧ (∀ p, ¬ p = 11 → ¬ p = 12 → T 17 i p = S 17 i p) ∧ z_m5 (T 17 i 11) ∧ z_m5 (T 17 i 12) ∧
  ∀ p, p < b → (z_xe S i p → ¬ z_has (T 17 i 11) (nI p) = 0) ∧ (z_xi S i p → ¬ z_has (T 17 i 12) (nI p) = 0)
theorem z_xl_s {S T : qM} {i b : Nat} {y z : Int32} (h : z_xl S T i b) (hb : b < 5) (hy : y = 0 ∧ ¬ z_xe S i b ∨ y = 1 <<< (nI b &&& 31)) (hz : z = 0 ∧ ¬ z_xi S i b ∨ z = 1 <<< (nI b &&& 31)) :
    z_xl S (q_up (q_up T 17 i (upd (T 17 i) 11 (T 17 i 11 ||| y))) 17 i (upd (q_up T 17 i (upd (T 17 i) 11 (T 17 i 11 ||| y)) 17 i) 12 (q_up T 17 i (upd (T 17 i) 11 (T 17 i 11 ||| y)) 17 i 12 ||| z))) i (b + 1) := by
  have my : z_m5 y := by
    rcases hy with ⟨e, -⟩ | e
    · subst e; exact z_m5_0
    · subst e; exact z_m5_bit ⟨b, hb, rfl⟩
  have mz : z_m5 z := by
    rcases hz with ⟨e, -⟩ | e
    · subst e; exact z_m5_0
    · subst e; exact z_m5_bit ⟨b, hb, rfl⟩
  obtain ⟨h1, h2, h3, h4, h5⟩ := h
  refine ⟨fun k' i' hk => ?_, fun p hp hp' => ?_, ?_, ?_, fun p hp => ⟨fun he => ?_, fun he => ?_⟩⟩ <;> simp (config := {decide := true}) only [q_up, and_self, if_true, upd, if_false]
  · rw [if_neg hk, if_neg hk]; exact h1 k' i' hk
  · rw [if_neg hp', if_neg hp]; exact h2 p hp hp'
  · exact z_m5_or h3 my
  · exact z_m5_or h4 mz
  · by_cases e : p = b
    · subst e
      rcases hy with ⟨-, e⟩ | e
      · exact absurd he e
      · subst e; exact z_m5_set h3 hb
    · exact z_m5_has h3 my (by omega) ((h5 p (by omega)).1 he)
  · by_cases e : p = b
    · subst e
      rcases hz with ⟨-, e⟩ | e
      · exact absurd he e
      · subst e; exact z_m5_set h4 hb
    · exact z_m5_has h4 mz (by omega) ((h5 p (by omega)).2 he)
theorem z_xl_0 {S : qM} {i : Nat} : z_xl S (q_up (q_up S 17 i (upd (S 17 i) 11 0)) 17 i (upd (q_up S 17 i (upd (S 17 i) 11 0) 17 i) 12 0)) i 0 := by
  refine ⟨fun k' i' hk => ?_, fun p hp hp' => ?_, ?_, ?_, fun p hp => absurd hp (by omega)⟩ <;> simp (config := {decide := true}) only [q_up, and_self, if_true, upd, if_false]
  · rw [if_neg hk, if_neg hk]
  · rw [if_neg hp', if_neg hp]
  · exact z_m5_0
  · exact z_m5_0
def z_fi (S T : qM) (i : Nat) : Prop := (∀ k' i', ¬ (k' = 25 ∧ i' = i) → T k' i' = S k' i') ∧ ∀ p, p < 36 → z_v5 (T 25 i p)
theorem z_fi_t {S T U : qM} {i : Nat} (h : z_fi S T i) (g : z_df T U i) : z_fi S U i := ⟨fun k' i' hk => (g.1 k' i' hk).trans (h.1 k' i' hk), g.2⟩
def z_dl (S X : qM) (i : Nat) : Prop := ∃ U W, z_fi S U i ∧ z_xl U W i 5 ∧ z_du W X i
abbrev rm_X3_deriveLawful : Room := { frames := 2, cells := 0, slots := 0, locals := 48 }
set_option maxHeartbeats 4000000 in
set_option maxRecDepth 100000 in
theorem c_X3_deriveLawful {L : qL} (hD : q_D L.2.2.2.1) : qCT L yX3_deriveLawful cX3_deriveLawful 4 none rm_X3_deriveLawful (fun ad _ (x : Nat × Unit) => [.ref (ad 17 x.1), .ref (ad 1 x.1)]) (fun x S => x.1 < 4 ∧ z_sups S x.1 ∧ ∀ p, p < 36 → z_v5 (S 25 x.1 p)) (qPv (fun x S S' => z_dl S S' x.1)) := by
  refine q_met hD (by decide) (fun _ => Nat.le_of_ble_eq_true rfl) (fun Γ x S hΓ hpre hC => ?_)
  subst hΓ
  obtain ⟨i, u⟩ := x
  obtain ⟨hi, hS, h25⟩ := hpre
  have hi : i < 4 := hi
  have hS : z_sups S i := hS
  have h25 : ∀ p, p < 36 → z_v5 (S 25 i p) := h25
  have FIN : ∀ U W : qM, z_fi S U i → z_xl U W i 5 → ∀ X : qM, z_du W X i → z_dl S X i := fun U W h1 h2 X h3 => ⟨U, W, h1, h2, h3⟩
  have L4 : ∀ (n t : Nat) (U T : qM), t + n = 5 → z_fi S U i → z_xl U T i t → qV Γ rm_X3_deriveLawful 4 57 [(0, .ref (q_ad Γ 17 i)), (1, .ref (q_ad Γ 1 i)), (2, .int (nI t))] [] T (0, 0) := by
    intro n
    induction n with
    | zero =>
      intro t U T hmn hU hI
      obtain rfl : t = 5 := by omega
      refine q_iload_n hC 2 dX3_deriveLawful_57 rfl rfl ?_
      refine q_iconst hC dX3_deriveLawful_58 (v := 5) (by decide) rfl ?_
      refine q_icmp_ge hC dX3_deriveLawful_59 (t := 165) (n := 62) (by decide) rfl (fun h59 => ?_) (fun h59 => absurd (by decide) h59)
      refine q_aload_n hC 0 dX3_deriveLawful_165 rfl rfl ?_
      refine q_aload_n hC 1 dX3_deriveLawful_166 rfl rfl ?_
      refine q_callV hC (c_X3_deriveUsable (q_hD hC)) m_X3_deriveUsable lk_X3_128 dX3_deriveLawful_167 (i, ()) rfl rfl rfl rfl rfl hi (Nat.le_of_ble_eq_true rfl) ⟨⟨by decide, by decide⟩, by decide, by decide⟩ rfl (k' := (0, 0)) rfl hi (fun v S' hp => ?_)
      obtain ⟨rfl, hdu⟩ := hp
      show qV Γ _ _ 170 _ _ _ _
      refine q_vret hC dX3_deriveLawful_170 ⟨by decide, by decide⟩ ⟨rfl, ?_⟩
      exact FIN U T hU hI S' hdu
    | succ n ih =>
      intro t U T hmn hU hI
      have ht : t < 5 := by omega
      have ec : (nI t).toNatClampNeg = t := nI_clamp (by omega)
      have e0 : T 17 i 0 = U 17 i 0 := hI.2.1 0 (by decide) (by decide)
      have e1 : T 17 i 1 = U 17 i 1 := hI.2.1 1 (by decide) (by decide)
      have e3 : T 3 i (nI t).toNatClampNeg = U 3 i t := by rw [hI.1 3 i (by omega), ec]
      have e5 : T 5 i (nI t).toNatClampNeg = U 5 i t := by rw [hI.1 5 i (by omega), ec]
      refine q_iload_n hC 2 dX3_deriveLawful_57 rfl rfl ?_
      refine q_iconst hC dX3_deriveLawful_58 (v := 5) (by decide) rfl ?_
      refine q_icmp_ge hC dX3_deriveLawful_59 (t := 165) (n := 62) (by decide) rfl (fun h59 => absurd h59 (nI_ge ht (by decide))) (fun h59 => ?_)
      refine q_aload_n hC 0 dX3_deriveLawful_62 rfl rfl ?_
      refine q_get_f hC f_X3_43 dX3_deriveLawful_63 rfl rfl hi rfl ?_
      refine q_iload_n hC 2 dX3_deriveLawful_66 rfl rfl ?_
      refine q_callSN hC (c_X9_has (q_hD hC)) m_X9_has ln_X3_80 dX3_deriveLawful_67 (_, _) rfl rfl (Nat.le_of_ble_eq_true rfl) ⟨⟨by decide, by decide⟩, by decide, by decide⟩ rfl (k' := (0, 0)) rfl trivial (fun v S' hp => ?_)
      obtain ⟨r67, rfl, hr67, rfl⟩ := hp
      show qV Γ _ _ 70 _ (.int _ :: _) _ _
      refine q_if_eq hC dX3_deriveLawful_70 (t := 86) (n := 73) (by decide) rfl (fun h70 => ?_) (fun h70 => ?_)
      · refine q_iconst hC dX3_deriveLawful_86 (v := 0) (by decide) rfl ?_
        refine q_istore_n hC dX3_deriveLawful_87 (by decide) (ls' := [(0, _), (1, _), (2, _), (3, _)]) rfl rfl ?_
        refine q_aload_n hC 0 dX3_deriveLawful_88 rfl rfl ?_
        refine q_dup hC dX3_deriveLawful_89 rfl rfl ?_
        refine q_get_f hC f_X3_115 dX3_deriveLawful_90 rfl rfl hi rfl ?_
        refine q_iload_n hC 3 dX3_deriveLawful_93 rfl rfl ?_
        refine q_if_eq hC dX3_deriveLawful_94 (t := 123) (n := 97) (by decide) rfl (fun _ => ?_) (fun h => absurd (by decide) h)
        refine q_iconst hC dX3_deriveLawful_123 (v := 0) (by decide) rfl ?_
        refine q_ior hC dX3_deriveLawful_124 rfl ?_
        refine q_put_i hC fp_X3_115 dX3_deriveLawful_125 rfl rfl (Nat.le_of_ble_eq_true rfl) rfl rfl hi rfl ?_
        refine q_aload_n hC 0 dX3_deriveLawful_128 rfl rfl ?_
        refine q_dup hC dX3_deriveLawful_129 rfl rfl ?_
        refine q_get_f hC f_X3_118 dX3_deriveLawful_130 rfl rfl hi rfl ?_
        refine q_iload_n hC 3 dX3_deriveLawful_133 rfl rfl ?_
        refine q_if_eq hC dX3_deriveLawful_134 (t := 154) (n := 137) (by decide) rfl (fun _ => ?_) (fun h => absurd (by decide) h)
        refine q_iconst hC dX3_deriveLawful_154 (v := 0) (by decide) rfl ?_
        refine q_ior hC dX3_deriveLawful_155 rfl ?_
        refine q_put_i hC fp_X3_118 dX3_deriveLawful_156 rfl rfl (Nat.le_of_ble_eq_true rfl) rfl rfl hi rfl ?_
        refine q_iinc hC 2 dX3_deriveLawful_159 rfl (v := nI (t + 1)) (z_inc t) (by decide) (ls' := [(0, _), (1, _), (2, _), (3, _)]) rfl rfl ?_
        refine q_goto hC dX3_deriveLawful_162 (n := 57) (by decide) ?_
        refine q_locp [0, 1, 2] (ls' := [(0, _), (1, _), (2, _)]) rfl ?_
        refine ih (t + 1) _ _ (by omega) hU (z_xl_s hI ht ?_ ?_)
        · exact Or.inl ⟨rfl, fun h => absurd (by rw [← e0]; exact hr67.symm.trans h70) h.1⟩
        · exact Or.inl ⟨rfl, fun h => absurd (by rw [← e0]; exact hr67.symm.trans h70) h.1⟩
      · refine q_aload_n hC 1 dX3_deriveLawful_73 rfl rfl ?_
        refine q_get_f hC f_X3_121 dX3_deriveLawful_74 rfl rfl hi rfl ?_
        refine q_iload_n hC 2 dX3_deriveLawful_77 rfl rfl ?_
        refine q_zald hC dX3_deriveLawful_78 rfl hi (vp_in_nI ht (by decide)) rfl ?_
        refine q_if_eq hC dX3_deriveLawful_79 (t := 86) (n := 82) (by decide) rfl (fun h79 => ?_) (fun h79 => ?_)
        · refine q_iconst hC dX3_deriveLawful_86 (v := 0) (by decide) rfl ?_
          refine q_istore_n hC dX3_deriveLawful_87 (by decide) (ls' := [(0, _), (1, _), (2, _), (3, _)]) rfl rfl ?_
          refine q_aload_n hC 0 dX3_deriveLawful_88 rfl rfl ?_
          refine q_dup hC dX3_deriveLawful_89 rfl rfl ?_
          refine q_get_f hC f_X3_115 dX3_deriveLawful_90 rfl rfl hi rfl ?_
          refine q_iload_n hC 3 dX3_deriveLawful_93 rfl rfl ?_
          refine q_if_eq hC dX3_deriveLawful_94 (t := 123) (n := 97) (by decide) rfl (fun _ => ?_) (fun h => absurd (by decide) h)
          refine q_iconst hC dX3_deriveLawful_123 (v := 0) (by decide) rfl ?_
          refine q_ior hC dX3_deriveLawful_124 rfl ?_
          refine q_put_i hC fp_X3_115 dX3_deriveLawful_125 rfl rfl (Nat.le_of_ble_eq_true rfl) rfl rfl hi rfl ?_
          refine q_aload_n hC 0 dX3_deriveLawful_128 rfl rfl ?_
          refine q_dup hC dX3_deriveLawful_129 rfl rfl ?_
          refine q_get_f hC f_X3_118 dX3_deriveLawful_130 rfl rfl hi rfl ?_
          refine q_iload_n hC 3 dX3_deriveLawful_133 rfl rfl ?_
          refine q_if_eq hC dX3_deriveLawful_134 (t := 154) (n := 137) (by decide) rfl (fun _ => ?_) (fun h => absurd (by decide) h)
          refine q_iconst hC dX3_deriveLawful_154 (v := 0) (by decide) rfl ?_
          refine q_ior hC dX3_deriveLawful_155 rfl ?_
          refine q_put_i hC fp_X3_118 dX3_deriveLawful_156 rfl rfl (Nat.le_of_ble_eq_true rfl) rfl rfl hi rfl ?_
          refine q_iinc hC 2 dX3_deriveLawful_159 rfl (v := nI (t + 1)) (z_inc t) (by decide) (ls' := [(0, _), (1, _), (2, _), (3, _)]) rfl rfl ?_
          refine q_goto hC dX3_deriveLawful_162 (n := 57) (by decide) ?_
          refine q_locp [0, 1, 2] (ls' := [(0, _), (1, _), (2, _)]) rfl ?_
          refine ih (t + 1) _ _ (by omega) hU (z_xl_s hI ht ?_ ?_)
          · exact Or.inl ⟨rfl, fun h => absurd (by rw [← e3]; exact h79) h.2.1⟩
          · exact Or.inl ⟨rfl, fun h => absurd (by rw [← e3]; exact h79) h.2.1⟩
        · refine q_iconst hC dX3_deriveLawful_82 (v := 1) (by decide) rfl ?_
          refine q_goto hC dX3_deriveLawful_83 (n := 87) (by decide) ?_
          refine q_istore_n hC dX3_deriveLawful_87 (by decide) (ls' := [(0, _), (1, _), (2, _), (3, _)]) rfl rfl ?_
          refine q_aload_n hC 0 dX3_deriveLawful_88 rfl rfl ?_
          refine q_dup hC dX3_deriveLawful_89 rfl rfl ?_
          refine q_get_f hC f_X3_115 dX3_deriveLawful_90 rfl rfl hi rfl ?_
          refine q_iload_n hC 3 dX3_deriveLawful_93 rfl rfl ?_
          refine q_if_eq hC dX3_deriveLawful_94 (t := 123) (n := 97) (by decide) rfl (fun h => absurd h (by decide)) (fun _ => ?_)
          refine q_aload_n hC 0 dX3_deriveLawful_97 rfl rfl ?_
          refine q_get_f hC f_X3_47 dX3_deriveLawful_98 rfl rfl hi rfl ?_
          refine q_iload_n hC 2 dX3_deriveLawful_101 rfl rfl ?_
          refine q_callSN hC (c_X9_has (q_hD hC)) m_X9_has ln_X3_80 dX3_deriveLawful_102 (_, _) rfl rfl (Nat.le_of_ble_eq_true rfl) ⟨⟨by decide, by decide⟩, by decide, by decide⟩ rfl (k' := (0, 0)) rfl trivial (fun v S' hp => ?_)
          obtain ⟨r102, rfl, hr102, rfl⟩ := hp
          show qV Γ _ _ 105 _ (.int _ :: _) _ _
          refine q_if_eq hC dX3_deriveLawful_105 (t := 123) (n := 108) (by decide) rfl (fun h105 => ?_) (fun h105 => ?_)
          · refine q_iconst hC dX3_deriveLawful_123 (v := 0) (by decide) rfl ?_
            refine q_ior hC dX3_deriveLawful_124 rfl ?_
            refine q_put_i hC fp_X3_115 dX3_deriveLawful_125 rfl rfl (Nat.le_of_ble_eq_true rfl) rfl rfl hi rfl ?_
            refine q_aload_n hC 0 dX3_deriveLawful_128 rfl rfl ?_
            refine q_dup hC dX3_deriveLawful_129 rfl rfl ?_
            refine q_get_f hC f_X3_118 dX3_deriveLawful_130 rfl rfl hi rfl ?_
            refine q_iload_n hC 3 dX3_deriveLawful_133 rfl rfl ?_
            refine q_if_eq hC dX3_deriveLawful_134 (t := 154) (n := 137) (by decide) rfl (fun h => absurd h (by decide)) (fun _ => ?_)
            refine q_aload_n hC 0 dX3_deriveLawful_137 rfl rfl ?_
            refine q_get_f hC f_X3_47 dX3_deriveLawful_138 rfl rfl hi rfl ?_
            refine q_iload_n hC 2 dX3_deriveLawful_141 rfl rfl ?_
            refine q_callSN hC (c_X9_has (q_hD hC)) m_X9_has ln_X3_80 dX3_deriveLawful_142 (_, _) rfl rfl (Nat.le_of_ble_eq_true rfl) ⟨⟨by decide, by decide⟩, by decide, by decide⟩ rfl (k' := (0, 0)) rfl trivial (fun v S' hp => ?_)
            obtain ⟨r142, rfl, hr142, rfl⟩ := hp
            show qV Γ _ _ 145 _ (.int _ :: _) _ _
            refine q_if_ne hC dX3_deriveLawful_145 (t := 154) (n := 148) (by decide) rfl (fun h145 => ?_) (fun h145 => ?_)
            · refine q_iconst hC dX3_deriveLawful_154 (v := 0) (by decide) rfl ?_
              refine q_ior hC dX3_deriveLawful_155 rfl ?_
              refine q_put_i hC fp_X3_118 dX3_deriveLawful_156 rfl rfl (Nat.le_of_ble_eq_true rfl) rfl rfl hi rfl ?_
              refine q_iinc hC 2 dX3_deriveLawful_159 rfl (v := nI (t + 1)) (z_inc t) (by decide) (ls' := [(0, _), (1, _), (2, _), (3, _)]) rfl rfl ?_
              refine q_goto hC dX3_deriveLawful_162 (n := 57) (by decide) ?_
              refine q_locp [0, 1, 2] (ls' := [(0, _), (1, _), (2, _)]) rfl ?_
              refine ih (t + 1) _ _ (by omega) hU (z_xl_s hI ht ?_ ?_)
              · exact Or.inl ⟨rfl, fun h => absurd (by rw [← e1]; exact hr102.symm.trans h105) h.2.2.1⟩
              · exact Or.inl ⟨rfl, fun h => absurd (hr142.trans ((congrArg (fun z => z_has z (nI t)) (z_q11.trans e1)).trans h.2.2)) h145⟩
            · refine q_iconst hC dX3_deriveLawful_148 (v := 1) (by decide) rfl ?_
              refine q_iload_n hC 2 dX3_deriveLawful_149 rfl rfl ?_
              refine q_ishl hC dX3_deriveLawful_150 rfl ?_
              refine q_goto hC dX3_deriveLawful_151 (n := 155) (by decide) ?_
              refine q_ior hC dX3_deriveLawful_155 rfl ?_
              refine q_put_i hC fp_X3_118 dX3_deriveLawful_156 rfl rfl (Nat.le_of_ble_eq_true rfl) rfl rfl hi rfl ?_
              refine q_iinc hC 2 dX3_deriveLawful_159 rfl (v := nI (t + 1)) (z_inc t) (by decide) (ls' := [(0, _), (1, _), (2, _), (3, _)]) rfl rfl ?_
              refine q_goto hC dX3_deriveLawful_162 (n := 57) (by decide) ?_
              refine q_locp [0, 1, 2] (ls' := [(0, _), (1, _), (2, _)]) rfl ?_
              refine ih (t + 1) _ _ (by omega) hU (z_xl_s hI ht ?_ ?_)
              · exact Or.inl ⟨rfl, fun h => absurd (by rw [← e1]; exact hr102.symm.trans h105) h.2.2.1⟩
              · exact Or.inr rfl
          · refine q_aload_n hC 1 dX3_deriveLawful_108 rfl rfl ?_
            refine q_get_f hC f_X3_125 dX3_deriveLawful_109 rfl rfl hi rfl ?_
            refine q_iload_n hC 2 dX3_deriveLawful_112 rfl rfl ?_
            refine q_zald hC dX3_deriveLawful_113 rfl hi (vp_in_nI ht (by decide)) rfl ?_
            refine q_if_ne hC dX3_deriveLawful_114 (t := 123) (n := 117) (by decide) rfl (fun h114 => ?_) (fun h114 => ?_)
            · refine q_iconst hC dX3_deriveLawful_123 (v := 0) (by decide) rfl ?_
              refine q_ior hC dX3_deriveLawful_124 rfl ?_
              refine q_put_i hC fp_X3_115 dX3_deriveLawful_125 rfl rfl (Nat.le_of_ble_eq_true rfl) rfl rfl hi rfl ?_
              refine q_aload_n hC 0 dX3_deriveLawful_128 rfl rfl ?_
              refine q_dup hC dX3_deriveLawful_129 rfl rfl ?_
              refine q_get_f hC f_X3_118 dX3_deriveLawful_130 rfl rfl hi rfl ?_
              refine q_iload_n hC 3 dX3_deriveLawful_133 rfl rfl ?_
              refine q_if_eq hC dX3_deriveLawful_134 (t := 154) (n := 137) (by decide) rfl (fun h => absurd h (by decide)) (fun _ => ?_)
              refine q_aload_n hC 0 dX3_deriveLawful_137 rfl rfl ?_
              refine q_get_f hC f_X3_47 dX3_deriveLawful_138 rfl rfl hi rfl ?_
              refine q_iload_n hC 2 dX3_deriveLawful_141 rfl rfl ?_
              refine q_callSN hC (c_X9_has (q_hD hC)) m_X9_has ln_X3_80 dX3_deriveLawful_142 (_, _) rfl rfl (Nat.le_of_ble_eq_true rfl) ⟨⟨by decide, by decide⟩, by decide, by decide⟩ rfl (k' := (0, 0)) rfl trivial (fun v S' hp => ?_)
              obtain ⟨r142, rfl, hr142, rfl⟩ := hp
              show qV Γ _ _ 145 _ (.int _ :: _) _ _
              refine q_if_ne hC dX3_deriveLawful_145 (t := 154) (n := 148) (by decide) rfl (fun h145 => ?_) (fun h145 => ?_)
              · refine q_iconst hC dX3_deriveLawful_154 (v := 0) (by decide) rfl ?_
                refine q_ior hC dX3_deriveLawful_155 rfl ?_
                refine q_put_i hC fp_X3_118 dX3_deriveLawful_156 rfl rfl (Nat.le_of_ble_eq_true rfl) rfl rfl hi rfl ?_
                refine q_iinc hC 2 dX3_deriveLawful_159 rfl (v := nI (t + 1)) (z_inc t) (by decide) (ls' := [(0, _), (1, _), (2, _), (3, _)]) rfl rfl ?_
                refine q_goto hC dX3_deriveLawful_162 (n := 57) (by decide) ?_
                refine q_locp [0, 1, 2] (ls' := [(0, _), (1, _), (2, _)]) rfl ?_
                refine ih (t + 1) _ _ (by omega) hU (z_xl_s hI ht ?_ ?_)
                · exact Or.inl ⟨rfl, fun h => absurd (e5.trans h.2.2.2) h114⟩
                · exact Or.inl ⟨rfl, fun h => absurd (hr142.trans ((congrArg (fun z => z_has z (nI t)) (z_q11.trans e1)).trans h.2.2)) h145⟩
              · refine q_iconst hC dX3_deriveLawful_148 (v := 1) (by decide) rfl ?_
                refine q_iload_n hC 2 dX3_deriveLawful_149 rfl rfl ?_
                refine q_ishl hC dX3_deriveLawful_150 rfl ?_
                refine q_goto hC dX3_deriveLawful_151 (n := 155) (by decide) ?_
                refine q_ior hC dX3_deriveLawful_155 rfl ?_
                refine q_put_i hC fp_X3_118 dX3_deriveLawful_156 rfl rfl (Nat.le_of_ble_eq_true rfl) rfl rfl hi rfl ?_
                refine q_iinc hC 2 dX3_deriveLawful_159 rfl (v := nI (t + 1)) (z_inc t) (by decide) (ls' := [(0, _), (1, _), (2, _), (3, _)]) rfl rfl ?_
                refine q_goto hC dX3_deriveLawful_162 (n := 57) (by decide) ?_
                refine q_locp [0, 1, 2] (ls' := [(0, _), (1, _), (2, _)]) rfl ?_
                refine ih (t + 1) _ _ (by omega) hU (z_xl_s hI ht ?_ ?_)
                · exact Or.inl ⟨rfl, fun h => absurd (e5.trans h.2.2.2) h114⟩
                · exact Or.inr rfl
            · refine q_iconst hC dX3_deriveLawful_117 (v := 1) (by decide) rfl ?_
              refine q_iload_n hC 2 dX3_deriveLawful_118 rfl rfl ?_
              refine q_ishl hC dX3_deriveLawful_119 rfl ?_
              refine q_goto hC dX3_deriveLawful_120 (n := 124) (by decide) ?_
              refine q_ior hC dX3_deriveLawful_124 rfl ?_
              refine q_put_i hC fp_X3_115 dX3_deriveLawful_125 rfl rfl (Nat.le_of_ble_eq_true rfl) rfl rfl hi rfl ?_
              refine q_aload_n hC 0 dX3_deriveLawful_128 rfl rfl ?_
              refine q_dup hC dX3_deriveLawful_129 rfl rfl ?_
              refine q_get_f hC f_X3_118 dX3_deriveLawful_130 rfl rfl hi rfl ?_
              refine q_iload_n hC 3 dX3_deriveLawful_133 rfl rfl ?_
              refine q_if_eq hC dX3_deriveLawful_134 (t := 154) (n := 137) (by decide) rfl (fun h => absurd h (by decide)) (fun _ => ?_)
              refine q_aload_n hC 0 dX3_deriveLawful_137 rfl rfl ?_
              refine q_get_f hC f_X3_47 dX3_deriveLawful_138 rfl rfl hi rfl ?_
              refine q_iload_n hC 2 dX3_deriveLawful_141 rfl rfl ?_
              refine q_callSN hC (c_X9_has (q_hD hC)) m_X9_has ln_X3_80 dX3_deriveLawful_142 (_, _) rfl rfl (Nat.le_of_ble_eq_true rfl) ⟨⟨by decide, by decide⟩, by decide, by decide⟩ rfl (k' := (0, 0)) rfl trivial (fun v S' hp => ?_)
              obtain ⟨r142, rfl, hr142, rfl⟩ := hp
              show qV Γ _ _ 145 _ (.int _ :: _) _ _
              refine q_if_ne hC dX3_deriveLawful_145 (t := 154) (n := 148) (by decide) rfl (fun h145 => ?_) (fun h145 => ?_)
              · refine q_iconst hC dX3_deriveLawful_154 (v := 0) (by decide) rfl ?_
                refine q_ior hC dX3_deriveLawful_155 rfl ?_
                refine q_put_i hC fp_X3_118 dX3_deriveLawful_156 rfl rfl (Nat.le_of_ble_eq_true rfl) rfl rfl hi rfl ?_
                refine q_iinc hC 2 dX3_deriveLawful_159 rfl (v := nI (t + 1)) (z_inc t) (by decide) (ls' := [(0, _), (1, _), (2, _), (3, _)]) rfl rfl ?_
                refine q_goto hC dX3_deriveLawful_162 (n := 57) (by decide) ?_
                refine q_locp [0, 1, 2] (ls' := [(0, _), (1, _), (2, _)]) rfl ?_
                refine ih (t + 1) _ _ (by omega) hU (z_xl_s hI ht ?_ ?_)
                · exact Or.inr rfl
                · exact Or.inl ⟨rfl, fun h => absurd (hr142.trans ((congrArg (fun z => z_has z (nI t)) (z_q11.trans e1)).trans h.2.2)) h145⟩
              · refine q_iconst hC dX3_deriveLawful_148 (v := 1) (by decide) rfl ?_
                refine q_iload_n hC 2 dX3_deriveLawful_149 rfl rfl ?_
                refine q_ishl hC dX3_deriveLawful_150 rfl ?_
                refine q_goto hC dX3_deriveLawful_151 (n := 155) (by decide) ?_
                refine q_ior hC dX3_deriveLawful_155 rfl ?_
                refine q_put_i hC fp_X3_118 dX3_deriveLawful_156 rfl rfl (Nat.le_of_ble_eq_true rfl) rfl rfl hi rfl ?_
                refine q_iinc hC 2 dX3_deriveLawful_159 rfl (v := nI (t + 1)) (z_inc t) (by decide) (ls' := [(0, _), (1, _), (2, _), (3, _)]) rfl rfl ?_
                refine q_goto hC dX3_deriveLawful_162 (n := 57) (by decide) ?_
                refine q_locp [0, 1, 2] (ls' := [(0, _), (1, _), (2, _)]) rfl ?_
                refine ih (t + 1) _ _ (by omega) hU (z_xl_s hI ht ?_ ?_)
                · exact Or.inr rfl
                · exact Or.inr rfl
  have J45 : ∀ T : qM, z_fi S T i → qV Γ rm_X3_deriveLawful 4 45 [(0, .ref (q_ad Γ 17 i)), (1, .ref (q_ad Γ 1 i)), (2, .int (nI 5))] [] T (0, 0) := by
    intro T hI
    refine q_aload_n hC 0 dX3_deriveLawful_45 rfl rfl ?_
    refine q_iconst hC dX3_deriveLawful_46 (v := 0) (by decide) rfl ?_
    refine q_put_i hC fp_X3_115 dX3_deriveLawful_47 rfl rfl (Nat.le_of_ble_eq_true rfl) rfl rfl hi rfl ?_
    refine q_aload_n hC 0 dX3_deriveLawful_50 rfl rfl ?_
    refine q_iconst hC dX3_deriveLawful_51 (v := 0) (by decide) rfl ?_
    refine q_put_i hC fp_X3_118 dX3_deriveLawful_52 rfl rfl (Nat.le_of_ble_eq_true rfl) rfl rfl hi rfl ?_
    refine q_iconst hC dX3_deriveLawful_55 (v := 0) (by decide) rfl ?_
    refine q_istore_n hC dX3_deriveLawful_56 (by decide) (ls' := [(0, _), (1, _), (2, _)]) rfl rfl ?_
    exact L4 5 0 T _ (by omega) hI z_xl_0
  have L3 : ∀ (n m t : Nat) (T : qM), m + n = 5 → t < 5 → z_fi S T i → (∀ U, z_fi S U i → qV Γ rm_X3_deriveLawful 4 39 [(0, .ref (q_ad Γ 17 i)), (1, .ref (q_ad Γ 1 i)), (2, .int (nI t))] [] U (0, 0)) → qV Γ rm_X3_deriveLawful 4 9 [(0, .ref (q_ad Γ 17 i)), (1, .ref (q_ad Γ 1 i)), (2, .int (nI t)), (3, .int (nI m))] [] T (0, 0) := by
    intro n
    induction n with
    | zero =>
      intro m t T hmn ht hI K
      obtain rfl : m = 5 := by omega
      refine q_iload_n hC 3 dX3_deriveLawful_9 rfl rfl ?_
      refine q_iconst hC dX3_deriveLawful_10 (v := 5) (by decide) rfl ?_
      refine q_icmp_ge hC dX3_deriveLawful_11 (t := 39) (n := 14) (by decide) rfl (fun h11 => ?_) (fun h11 => absurd (by decide) h11)
      refine q_locp [0, 1, 2] (ls' := [(0, _), (1, _), (2, _)]) rfl ?_
      exact K _ hI
    | succ n ih =>
      intro m t T hmn ht hI K
      have hm : m < 5 := by omega
      refine q_iload_n hC 3 dX3_deriveLawful_9 rfl rfl ?_
      refine q_iconst hC dX3_deriveLawful_10 (v := 5) (by decide) rfl ?_
      refine q_icmp_ge hC dX3_deriveLawful_11 (t := 39) (n := 14) (by decide) rfl (fun h11 => absurd h11 (nI_ge hm (by decide))) (fun h11 => ?_)
      refine q_aload_n hC 0 dX3_deriveLawful_14 rfl rfl ?_
      refine q_get_f hC f_X3_9 dX3_deriveLawful_15 rfl rfl hi rfl ?_
      refine q_iload_n hC 3 dX3_deriveLawful_18 rfl rfl ?_
      refine q_iald hC dX3_deriveLawful_19 rfl hi (vp_in_nI (Nat.lt_succ_of_lt hm) (by decide)) rfl ?_
      refine q_callS hC (c_J6_bitCount_0f7a4 (q_hD hC)) m_J6_bitCount_0f7a4 lk_X3_104 dX3_deriveLawful_20 _ rfl rfl (Nat.le_of_ble_eq_true rfl) ⟨⟨by decide, by decide⟩, by decide, by decide⟩ rfl (k' := (0, 0)) rfl trivial (fun v S' hp => ?_)
      obtain ⟨r20_1, rfl, hr20_1, rfl⟩ := hp
      show qV Γ _ _ 23 _ (.int _ :: _) _ _
      refine q_iload_n hC 2 dX3_deriveLawful_23 rfl rfl ?_
      refine q_icmp_ne hC dX3_deriveLawful_24 (t := 33) (n := 27) (by decide) rfl (fun h24 => ?_) (fun h24 => ?_)
      · refine q_iinc hC 3 dX3_deriveLawful_33 rfl (v := nI (m + 1)) (z_inc m) (by decide) (ls' := [(0, _), (1, _), (2, _), (3, _)]) rfl rfl ?_
        refine q_goto hC dX3_deriveLawful_36 (n := 9) (by decide) ?_
        exact ih (m + 1) _ _ (by omega) ht hI K
      · refine q_aload_n hC 0 dX3_deriveLawful_27 rfl rfl ?_
        refine q_aload_n hC 1 dX3_deriveLawful_28 rfl rfl ?_
        refine q_iload_n hC 3 dX3_deriveLawful_29 rfl rfl ?_
        refine q_callV hC (c_X3_deriveFields (q_hD hC)) m_X3_deriveFields lk_X3_112 dX3_deriveLawful_30 (i, m) rfl rfl rfl rfl rfl hi (Nat.le_of_ble_eq_true rfl) ⟨⟨by decide, by decide⟩, by decide, by decide⟩ rfl (k' := (0, 0)) rfl ⟨hi, hm, (by intro p hp; rw [hI.1 7 i (by omega)]; exact hS p hp), hI.2⟩ (fun v S' hp => ?_)
        obtain ⟨rfl, hdf⟩ := hp
        show qV Γ _ _ 33 _ _ _ _
        refine q_iinc hC 3 dX3_deriveLawful_33 rfl (v := nI (m + 1)) (z_inc m) (by decide) (ls' := [(0, _), (1, _), (2, _), (3, _)]) rfl rfl ?_
        refine q_goto hC dX3_deriveLawful_36 (n := 9) (by decide) ?_
        exact ih (m + 1) _ _ (by omega) ht (z_fi_t hI hdf) K
  have L2 : ∀ (n t : Nat) (T : qM), t + n = 5 → z_fi S T i → qV Γ rm_X3_deriveLawful 4 2 [(0, .ref (q_ad Γ 17 i)), (1, .ref (q_ad Γ 1 i)), (2, .int (nI t))] [] T (0, 0) := by
    intro n
    induction n with
    | zero =>
      intro t T hmn hI
      obtain rfl : t = 5 := by omega
      refine q_iload_n hC 2 dX3_deriveLawful_2 rfl rfl ?_
      refine q_iconst hC dX3_deriveLawful_3 (v := 5) (by decide) rfl ?_
      refine q_icmp_ge hC dX3_deriveLawful_4 (t := 45) (n := 7) (by decide) rfl (fun h4 => ?_) (fun h4 => absurd (by decide) h4)
      exact J45 T hI
    | succ n ih =>
      intro t T hmn hI
      have ht : t < 5 := by omega
      refine q_iload_n hC 2 dX3_deriveLawful_2 rfl rfl ?_
      refine q_iconst hC dX3_deriveLawful_3 (v := 5) (by decide) rfl ?_
      refine q_icmp_ge hC dX3_deriveLawful_4 (t := 45) (n := 7) (by decide) rfl (fun h4 => absurd h4 (nI_ge ht (by decide))) (fun h4 => ?_)
      refine q_iconst hC dX3_deriveLawful_7 (v := 0) (by decide) rfl ?_
      refine q_istore_n hC dX3_deriveLawful_8 (by decide) (ls' := [(0, _), (1, _), (2, _), (3, _)]) rfl rfl ?_
      refine L3 5 0 t T (by omega) ht hI ?_
      intro U hU
      refine q_iinc hC 2 dX3_deriveLawful_39 rfl (v := nI (t + 1)) (z_inc t) (by decide) (ls' := [(0, _), (1, _), (2, _)]) rfl rfl ?_
      refine q_goto hC dX3_deriveLawful_42 (n := 2) (by decide) ?_
      exact ih (t + 1) _ (by omega) hU
  show qV Γ _ _ 0 [(0, .ref (q_ad Γ 17 i)), (1, .ref (q_ad Γ 1 i))] [] S (0, 0)
  refine q_iconst hC dX3_deriveLawful_0 (v := 0) (by decide) rfl ?_
  refine q_istore_n hC dX3_deriveLawful_1 (by decide) (ls' := [(0, _), (1, _), (2, _)]) rfl rfl ?_
  exact L2 5 0 S (by omega) ⟨fun _ _ _ => rfl, h25⟩
