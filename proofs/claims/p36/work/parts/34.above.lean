-- printed by wip/p36/gen_m2.py
/-- the interfaces' methods, as far as completeness asks: a member that an interface has is there -/
def z_im (S T : qM) (i : Nat) : Prop := (∀ k' i', ¬ ((k' = 21 ∨ k' = 22) ∧ i' = i) → T k' i' = S k' i') ∧ ∀ q, q < 6 → T 21 i q = 0 ∨ ∃ t, t < 5 ∧ ¬ S 11 i (t * 6 + q) = 45
theorem z_im_21 {S T : qM} {i t m : Nat} {x : Int32} (h : z_im S T i) (ht : t < 5) (hm : m < 6) (hk : ¬ T 11 i (nI t * 6 + nI m).toNatClampNeg = 45) : z_im S (q_up T 21 i (upd (T 21 i) (nI m).toNatClampNeg x)) i := by
  rw [z_t6 (by omega) hm, h.1 11 i (by omega)] at hk
  refine ⟨fun k' i' hk' => ?_, fun q hq => ?_⟩
  · simp only [q_up]
    rw [if_neg (by omega)]
    exact h.1 k' i' hk'
  · simp only [q_up, and_self, if_true, upd]
    rw [nI_clamp (by omega)]
    by_cases e : q = m
    · subst e; exact Or.inr ⟨t, ht, hk⟩
    · rw [if_neg e]; exact h.2 q hq
theorem z_im_22 {S T : qM} {i : Nat} {f : Nat → Int32} (h : z_im S T i) : z_im S (q_up T 22 i f) i := by
  refine ⟨fun k' i' hk' => ?_, fun q hq => ?_⟩
  · simp only [q_up]
    rw [if_neg (by omega)]
    exact h.1 k' i' hk'
  · simp (config := {decide := true}) only [q_up, false_and, if_false]
    exact h.2 q hq
abbrev rm_X3_deriveInterfaceMethods : Room := { frames := 1, cells := 0, slots := 0, locals := 23 }
set_option maxHeartbeats 4000000 in
set_option maxRecDepth 100000 in
theorem c_X3_deriveInterfaceMethods {L : qL} (hD : q_D L.2.2.2.1) : qCT L yX3_deriveInterfaceMethods cX3_deriveInterfaceMethods 5 none rm_X3_deriveInterfaceMethods (fun ad _ (x : Nat × Unit) => [.ref (ad 17 x.1), .ref (ad 9 x.1)]) (fun x _ => x.1 < 4) (qPv (fun x S S' => z_im S S' x.1)) := by
  refine q_met hD (by decide) (fun _ => Nat.le_of_ble_eq_true rfl) (fun Γ x S hΓ hpre hC => ?_)
  subst hΓ
  obtain ⟨i, u⟩ := x
  have hi : i < 4 := hpre
  have L2 : ∀ (n m t : Nat) (T : qM), m + n = 6 → t < 5 → z_im S T i → (∀ U, z_im S U i → qV Γ rm_X3_deriveInterfaceMethods 5 110 [(0, .ref (q_ad Γ 17 i)), (1, .ref (q_ad Γ 9 i)), (2, .int (nI t))] [] U (0, 0)) → qV Γ rm_X3_deriveInterfaceMethods 5 25 [(0, .ref (q_ad Γ 17 i)), (1, .ref (q_ad Γ 9 i)), (2, .int (nI t)), (3, .int (nI m))] [] T (0, 0) := by
    intro n
    induction n with
    | zero =>
      intro m t T hmn ht hI K
      obtain rfl : m = 6 := by omega
      refine q_iload_n hC 3 dX3_deriveInterfaceMethods_25 rfl rfl ?_
      refine q_bipush hC dX3_deriveInterfaceMethods_26 (v := 6) (by decide) rfl ?_
      refine q_icmp_ge hC dX3_deriveInterfaceMethods_28 (t := 110) (n := 31) (by decide) rfl (fun h28 => ?_) (fun h28 => absurd (by decide) h28)
      refine q_locp [0, 1, 2] (ls' := [(0, _), (1, _), (2, _)]) rfl ?_
      exact K _ hI
    | succ n ih =>
      intro m t T hmn ht hI K
      have hm : m < 6 := by omega
      refine q_iload_n hC 3 dX3_deriveInterfaceMethods_25 rfl rfl ?_
      refine q_bipush hC dX3_deriveInterfaceMethods_26 (v := 6) (by decide) rfl ?_
      refine q_icmp_ge hC dX3_deriveInterfaceMethods_28 (t := 110) (n := 31) (by decide) rfl (fun h28 => absurd h28 (nI_ge hm (by decide))) (fun h28 => ?_)
      refine q_aload_n hC 1 dX3_deriveInterfaceMethods_31 rfl rfl ?_
      refine q_get_f hC f_X3_90 dX3_deriveInterfaceMethods_32 rfl rfl hi rfl ?_
      refine q_iload_n hC 2 dX3_deriveInterfaceMethods_35 rfl rfl ?_
      refine q_bipush hC dX3_deriveInterfaceMethods_36 (v := 6) (by decide) rfl ?_
      refine q_imul hC dX3_deriveInterfaceMethods_38 rfl ?_
      refine q_iload_n hC 3 dX3_deriveInterfaceMethods_39 rfl rfl ?_
      refine q_iadd hC dX3_deriveInterfaceMethods_40 rfl ?_
      refine q_cald hC dX3_deriveInterfaceMethods_41 rfl hi (z_in30 (z_ltn ht) (z_ltn hm)) rfl ?_
      refine q_istore hC dX3_deriveInterfaceMethods_42 (by decide) (ls' := [(0, _), (1, _), (2, _), (3, _), (4, _)]) rfl rfl ?_
      refine q_iload hC 4 dX3_deriveInterfaceMethods_44 rfl rfl ?_
      refine q_bipush hC dX3_deriveInterfaceMethods_46 (v := 45) (by decide) rfl ?_
      refine q_icmp_eq hC dX3_deriveInterfaceMethods_48 (t := 104) (n := 51) (by decide) rfl (fun h48 => ?_) (fun h48 => ?_)
      · refine q_iinc hC 3 dX3_deriveInterfaceMethods_104 rfl (v := nI (m + 1)) (z_inc m) (by decide) (ls' := [(0, _), (1, _), (2, _), (3, _), (4, _)]) rfl rfl ?_
        refine q_goto hC dX3_deriveInterfaceMethods_107 (n := 25) (by decide) ?_
        refine q_locp [0, 1, 2, 3] (ls' := [(0, _), (1, _), (2, _), (3, _)]) rfl ?_
        exact ih (m + 1) _ _ (by omega) ht hI K
      · refine q_iload hC 4 dX3_deriveInterfaceMethods_51 rfl rfl ?_
        refine q_bipush hC dX3_deriveInterfaceMethods_53 (v := 115) (by decide) rfl ?_
        refine q_icmp_eq hC dX3_deriveInterfaceMethods_55 (t := 104) (n := 58) (by decide) rfl (fun h55 => ?_) (fun h55 => ?_)
        · refine q_iinc hC 3 dX3_deriveInterfaceMethods_104 rfl (v := nI (m + 1)) (z_inc m) (by decide) (ls' := [(0, _), (1, _), (2, _), (3, _), (4, _)]) rfl rfl ?_
          refine q_goto hC dX3_deriveInterfaceMethods_107 (n := 25) (by decide) ?_
          refine q_locp [0, 1, 2, 3] (ls' := [(0, _), (1, _), (2, _), (3, _)]) rfl ?_
          exact ih (m + 1) _ _ (by omega) ht hI K
        · refine q_aload_n hC 0 dX3_deriveInterfaceMethods_58 rfl rfl ?_
          refine q_get_f hC f_X3_47 dX3_deriveInterfaceMethods_59 rfl rfl hi rfl ?_
          refine q_iload_n hC 2 dX3_deriveInterfaceMethods_62 rfl rfl ?_
          refine q_callSN hC (c_X9_has (q_hD hC)) m_X9_has ln_X3_80 dX3_deriveInterfaceMethods_63 (_, _) rfl rfl (Nat.le_of_ble_eq_true rfl) ⟨⟨by decide, by decide⟩, by decide, by decide⟩ rfl (k' := (0, 0)) rfl trivial (fun v S' hp => ?_)
          obtain ⟨r63_3, rfl, hr63_3, rfl⟩ := hp
          show qV Γ _ _ 66 _ (.int _ :: _) _ _
          refine q_if_ne hC dX3_deriveInterfaceMethods_66 (t := 104) (n := 69) (by decide) rfl (fun h66 => ?_) (fun h66 => ?_)
          · refine q_iinc hC 3 dX3_deriveInterfaceMethods_104 rfl (v := nI (m + 1)) (z_inc m) (by decide) (ls' := [(0, _), (1, _), (2, _), (3, _), (4, _)]) rfl rfl ?_
            refine q_goto hC dX3_deriveInterfaceMethods_107 (n := 25) (by decide) ?_
            refine q_locp [0, 1, 2, 3] (ls' := [(0, _), (1, _), (2, _), (3, _)]) rfl ?_
            exact ih (m + 1) _ _ (by omega) ht hI K
          · refine q_aload_n hC 0 dX3_deriveInterfaceMethods_69 rfl rfl ?_
            refine q_get_f hC f_X3_21 dX3_deriveInterfaceMethods_70 rfl rfl hi rfl ?_
            refine q_iload_n hC 3 dX3_deriveInterfaceMethods_73 rfl rfl ?_
            refine q_dup2 hC dX3_deriveInterfaceMethods_74 rfl rfl rfl ?_
            refine q_iald hC dX3_deriveInterfaceMethods_75 rfl hi (vp_in_nI hm (by decide)) rfl ?_
            refine q_iconst hC dX3_deriveInterfaceMethods_76 (v := 1) (by decide) rfl ?_
            refine q_iload_n hC 2 dX3_deriveInterfaceMethods_77 rfl rfl ?_
            refine q_ishl hC dX3_deriveInterfaceMethods_78 rfl ?_
            refine q_ior hC dX3_deriveInterfaceMethods_79 rfl ?_
            refine q_iast hC dX3_deriveInterfaceMethods_80 (fun _ => rfl) hi (vp_in_nI hm (by decide)) rfl ?_
            refine q_aload_n hC 0 dX3_deriveInterfaceMethods_81 rfl rfl ?_
            refine q_get_f hC f_X3_24 dX3_deriveInterfaceMethods_82 rfl rfl hi rfl ?_
            refine q_iload_n hC 3 dX3_deriveInterfaceMethods_85 rfl rfl ?_
            refine q_dup2 hC dX3_deriveInterfaceMethods_86 rfl rfl rfl ?_
            refine q_iald hC dX3_deriveInterfaceMethods_87 rfl hi (vp_in_nI hm (by decide)) rfl ?_
            refine q_iload hC 4 dX3_deriveInterfaceMethods_88 rfl rfl ?_
            refine q_bipush hC dX3_deriveInterfaceMethods_90 (v := 97) (by decide) rfl ?_
            refine q_icmp_ne hC dX3_deriveInterfaceMethods_92 (t := 99) (n := 95) (by decide) rfl (fun h92 => ?_) (fun h92 => ?_)
            · refine q_iconst hC dX3_deriveInterfaceMethods_99 (v := 1) (by decide) rfl ?_
              refine q_iload_n hC 2 dX3_deriveInterfaceMethods_100 rfl rfl ?_
              refine q_ishl hC dX3_deriveInterfaceMethods_101 rfl ?_
              refine q_ior hC dX3_deriveInterfaceMethods_102 rfl ?_
              refine q_iast hC dX3_deriveInterfaceMethods_103 (fun _ => rfl) hi (vp_in_nI hm (by decide)) rfl ?_
              refine q_iinc hC 3 dX3_deriveInterfaceMethods_104 rfl (v := nI (m + 1)) (z_inc m) (by decide) (ls' := [(0, _), (1, _), (2, _), (3, _), (4, _)]) rfl rfl ?_
              refine q_goto hC dX3_deriveInterfaceMethods_107 (n := 25) (by decide) ?_
              refine q_locp [0, 1, 2, 3] (ls' := [(0, _), (1, _), (2, _), (3, _)]) rfl ?_
              exact ih (m + 1) _ _ (by omega) ht (z_im_22 (z_im_21 hI ht hm h48)) K
            · refine q_iconst hC dX3_deriveInterfaceMethods_95 (v := 0) (by decide) rfl ?_
              refine q_goto hC dX3_deriveInterfaceMethods_96 (n := 102) (by decide) ?_
              refine q_ior hC dX3_deriveInterfaceMethods_102 rfl ?_
              refine q_iast hC dX3_deriveInterfaceMethods_103 (fun _ => rfl) hi (vp_in_nI hm (by decide)) rfl ?_
              refine q_iinc hC 3 dX3_deriveInterfaceMethods_104 rfl (v := nI (m + 1)) (z_inc m) (by decide) (ls' := [(0, _), (1, _), (2, _), (3, _), (4, _)]) rfl rfl ?_
              refine q_goto hC dX3_deriveInterfaceMethods_107 (n := 25) (by decide) ?_
              refine q_locp [0, 1, 2, 3] (ls' := [(0, _), (1, _), (2, _), (3, _)]) rfl ?_
              exact ih (m + 1) _ _ (by omega) ht (z_im_22 (z_im_21 hI ht hm h48)) K
  have L1 : ∀ (n t : Nat) (T : qM), t + n = 5 → z_im S T i → qV Γ rm_X3_deriveInterfaceMethods 5 18 [(0, .ref (q_ad Γ 17 i)), (1, .ref (q_ad Γ 9 i)), (2, .int (nI t))] [] T (0, 0) := by
    intro n
    induction n with
    | zero =>
      intro t T hmn hI
      obtain rfl : t = 5 := by omega
      refine q_iload_n hC 2 dX3_deriveInterfaceMethods_18 rfl rfl ?_
      refine q_iconst hC dX3_deriveInterfaceMethods_19 (v := 5) (by decide) rfl ?_
      refine q_icmp_ge hC dX3_deriveInterfaceMethods_20 (t := 116) (n := 23) (by decide) rfl (fun h20 => ?_) (fun h20 => absurd (by decide) h20)
      refine q_vret hC dX3_deriveInterfaceMethods_116 ⟨by decide, by decide⟩ ⟨rfl, ?_⟩
      exact hI
    | succ n ih =>
      intro t T hmn hI
      have ht : t < 5 := by omega
      refine q_iload_n hC 2 dX3_deriveInterfaceMethods_18 rfl rfl ?_
      refine q_iconst hC dX3_deriveInterfaceMethods_19 (v := 5) (by decide) rfl ?_
      refine q_icmp_ge hC dX3_deriveInterfaceMethods_20 (t := 116) (n := 23) (by decide) rfl (fun h20 => absurd h20 (nI_ge ht (by decide))) (fun h20 => ?_)
      refine q_iconst hC dX3_deriveInterfaceMethods_23 (v := 0) (by decide) rfl ?_
      refine q_istore_n hC dX3_deriveInterfaceMethods_24 (by decide) (ls' := [(0, _), (1, _), (2, _), (3, _)]) rfl rfl ?_
      refine L2 6 0 t T (by omega) ht hI ?_
      intro U hU
      refine q_iinc hC 2 dX3_deriveInterfaceMethods_110 rfl (v := nI (t + 1)) (z_inc t) (by decide) (ls' := [(0, _), (1, _), (2, _)]) rfl rfl ?_
      refine q_goto hC dX3_deriveInterfaceMethods_113 (n := 18) (by decide) ?_
      exact ih (t + 1) _ (by omega) hU
  show qV Γ _ _ 0 [(0, .ref (q_ad Γ 17 i)), (1, .ref (q_ad Γ 9 i))] [] S (0, 0)
  refine q_aload_n hC 0 dX3_deriveInterfaceMethods_0 rfl rfl ?_
  refine q_get_f hC f_X3_21 dX3_deriveInterfaceMethods_1 rfl rfl hi rfl ?_
  refine q_iconst hC dX3_deriveInterfaceMethods_4 (v := 0) (by decide) rfl ?_
  refine q_callS hC (c_J7_fill_53178 (q_hD hC)) m_J7_fill_53178 lk_X3_84 dX3_deriveInterfaceMethods_5 (21, i, 0) rfl rfl (Nat.le_of_ble_eq_true rfl) ⟨⟨by decide, by decide⟩, by decide, by decide⟩ rfl (k' := (0, 0)) rfl ⟨Or.inl rfl, hi⟩ (fun v S' hp => ?_)
  obtain ⟨rfl, f1, f2⟩ := hp
  have f2 : ∀ p, p < 6 → S' 21 i p = 0 := f2
  show qV Γ _ _ 8 _ _ _ _
  refine q_aload_n hC 0 dX3_deriveInterfaceMethods_8 rfl rfl ?_
  refine q_get_f hC f_X3_24 dX3_deriveInterfaceMethods_9 rfl rfl hi rfl ?_
  refine q_iconst hC dX3_deriveInterfaceMethods_12 (v := 0) (by decide) rfl ?_
  refine q_callS hC (c_J7_fill_53178 (q_hD hC)) m_J7_fill_53178 lk_X3_84 dX3_deriveInterfaceMethods_13 (22, i, 0) rfl rfl (Nat.le_of_ble_eq_true rfl) ⟨⟨by decide, by decide⟩, by decide, by decide⟩ rfl (k' := (0, 0)) rfl ⟨Or.inr (Or.inl rfl), hi⟩ (fun v S' hp => ?_)
  obtain ⟨rfl, g1, g2⟩ := hp
  show qV Γ _ _ 16 _ _ _ _
  refine q_iconst hC dX3_deriveInterfaceMethods_16 (v := 0) (by decide) rfl ?_
  refine q_istore_n hC dX3_deriveInterfaceMethods_17 (by decide) (ls' := [(0, _), (1, _), (2, _)]) rfl rfl ?_
  exact L1 5 0 S' (by omega) ⟨fun k' i' hk => (g1 k' i' (fun h => hk ⟨Or.inr h.1, h.2⟩)).trans (f1 k' i' (fun h => hk ⟨Or.inl h.1, h.2⟩)), fun q hq => Or.inl (by rw [g1 21 i (fun h => absurd h.1 (show ¬ (21 : Nat) = 22 by decide))]; exact f2 q hq)⟩
def z_m5 (x : Int32) : Prop := ∃ w, w < 32 ∧ x = nI w
theorem z_m5_or_all : ∀ w, w < 32 → ∀ v, v < 32 → (nI w ||| nI v) = nI (w ||| v) ∧ (nI w &&& nI v) = nI (w &&& v) ∧ (w ||| v) < 32 ∧ (w &&& v) < 32 := by decide +kernel
theorem z_m5_or {x y : Int32} (hx : z_m5 x) (hy : z_m5 y) : z_m5 (x ||| y) := by
  obtain ⟨w, hw, rfl⟩ := hx
  obtain ⟨v, hv, rfl⟩ := hy
  exact ⟨_, (z_m5_or_all w hw v hv).2.2.1, (z_m5_or_all w hw v hv).1⟩
theorem z_m5_and {x y : Int32} (hx : z_m5 x) (hy : z_m5 y) : z_m5 (x &&& y) := by
  obtain ⟨w, hw, rfl⟩ := hx
  obtain ⟨v, hv, rfl⟩ := hy
  exact ⟨_, (z_m5_or_all w hw v hv).2.2.2, (z_m5_or_all w hw v hv).2.1⟩
theorem z_m5_bit_all : ∀ s, s < 5 → ((1 : Int32) <<< (nI s &&& 31)) = nI (2 ^ s) ∧ 2 ^ s < 32 := by decide +kernel
theorem z_m5_bit {x : Int32} (hx : z_lt x 5) : z_m5 (1 <<< (x &&& 31)) := by
  obtain ⟨s, hs, rfl⟩ := hx
  exact ⟨_, (z_m5_bit_all s hs).2, (z_m5_bit_all s hs).1⟩
theorem z_m5_0 : z_m5 0 := ⟨0, by decide, rfl⟩
def z_ab (S T : qM) (i b : Nat) : Prop := (∀ k' i', ¬ (k' = 18 ∧ i' = i) → T k' i' = S k' i') ∧ ∀ p, p < b → z_m5 (T 18 i p)
theorem z_ab_s {S T : qM} {i b : Nat} {x : Int32} (h : z_ab S T i b) (hb : b < 5) (hx : z_m5 x) : z_ab S (q_up T 18 i (upd (T 18 i) (nI b).toNatClampNeg x)) i (b + 1) := by
  refine ⟨fun k' i' hk' => ?_, fun q hq => ?_⟩
  · simp only [q_up, if_neg hk']
    exact h.1 k' i' hk'
  · simp only [q_up, and_self, if_true, upd]
    rw [nI_clamp (by omega)]
    by_cases e : q = b
    · rw [if_pos e]; exact hx
    · rw [if_neg e]; exact h.2 q (by omega)
theorem z_ab_5 {S T : qM} {i j : Nat} {x : Int32} (h : z_ab S T i 5) (hx : z_m5 x) : z_ab S (q_up T 18 i (upd (T 18 i) j x)) i 5 := by
  refine ⟨fun k' i' hk' => ?_, fun q hq => ?_⟩
  · simp only [q_up, if_neg hk']
    exact h.1 k' i' hk'
  · simp only [q_up, and_self, if_true, upd]
    split
    · exact hx
    · exact h.2 q hq
theorem z_ab_at {S T : qM} {i t : Nat} (h : z_ab S T i 5) (ht : t < 5) : z_m5 (T 18 i (nI t).toNatClampNeg) := by
  rw [nI_clamp (by omega)]; exact h.2 t ht
abbrev rm_X3_deriveAbove : Room := { frames := 1, cells := 0, slots := 0, locals := 21 }
set_option maxHeartbeats 4000000 in
set_option maxRecDepth 100000 in
theorem c_X3_deriveAbove {L : qL} (hD : q_D L.2.2.2.1) : qCT L yX3_deriveAbove cX3_deriveAbove 4 none rm_X3_deriveAbove (fun ad _ (x : Nat × Unit) => [.ref (ad 17 x.1), .ref (ad 1 x.1)]) (fun x S => x.1 < 4 ∧ z_sups S x.1 ∧ (∀ p, p < 5 → z_m5 (S 8 x.1 p)) ∧ z_m5 (S 17 x.1 0)) (qPv (fun x S S' => z_ab S S' x.1 5)) := by
  refine q_met hD (by decide) (fun _ => Nat.le_of_ble_eq_true rfl) (fun Γ x S hΓ hpre hC => ?_)
  subst hΓ
  obtain ⟨i, u⟩ := x
  obtain ⟨hi, hS, h8, h17⟩ := hpre
  have hi : i < 4 := hi
  have hS : z_sups S i := hS
  have h8 : ∀ p, p < 5 → z_m5 (S 8 i p) := h8
  have h17 : z_m5 (S 17 i 0) := h17
  have L3 : ∀ (n m t : Nat) (T : qM), m + n = 5 → t < 5 → z_ab S T i 5 → (∀ U, z_ab S U i 5 → qV Γ rm_X3_deriveAbove 4 116 [(0, .ref (q_ad Γ 17 i)), (1, .ref (q_ad Γ 1 i)), (2, .int (nI t))] [] U (0, 0)) → qV Γ rm_X3_deriveAbove 4 77 [(0, .ref (q_ad Γ 17 i)), (1, .ref (q_ad Γ 1 i)), (2, .int (nI t)), (3, .int (nI m))] [] T (0, 0) := by
    intro n
    induction n with
    | zero =>
      intro m t T hmn ht hI K
      obtain rfl : m = 5 := by omega
      refine q_iload_n hC 3 dX3_deriveAbove_77 rfl rfl ?_
      refine q_iconst hC dX3_deriveAbove_78 (v := 5) (by decide) rfl ?_
      refine q_icmp_ge hC dX3_deriveAbove_79 (t := 116) (n := 82) (by decide) rfl (fun h79 => ?_) (fun h79 => absurd (by decide) h79)
      refine q_locp [0, 1, 2] (ls' := [(0, _), (1, _), (2, _)]) rfl ?_
      exact K _ hI
    | succ n ih =>
      intro m t T hmn ht hI K
      have hm : m < 5 := by omega
      refine q_iload_n hC 3 dX3_deriveAbove_77 rfl rfl ?_
      refine q_iconst hC dX3_deriveAbove_78 (v := 5) (by decide) rfl ?_
      refine q_icmp_ge hC dX3_deriveAbove_79 (t := 116) (n := 82) (by decide) rfl (fun h79 => absurd h79 (nI_ge hm (by decide))) (fun h79 => ?_)
      refine q_aload_n hC 0 dX3_deriveAbove_82 rfl rfl ?_
      refine q_get_f hC f_X3_9 dX3_deriveAbove_83 rfl rfl hi rfl ?_
      refine q_iload_n hC 3 dX3_deriveAbove_86 rfl rfl ?_
      refine q_iald hC dX3_deriveAbove_87 rfl hi (vp_in_nI (Nat.lt_succ_of_lt hm) (by decide)) rfl ?_
      refine q_iload_n hC 2 dX3_deriveAbove_88 rfl rfl ?_
      refine q_callSN hC (c_X9_has (q_hD hC)) m_X9_has ln_X3_80 dX3_deriveAbove_89 (_, _) rfl rfl (Nat.le_of_ble_eq_true rfl) ⟨⟨by decide, by decide⟩, by decide, by decide⟩ rfl (k' := (0, 0)) rfl trivial (fun v S' hp => ?_)
      obtain ⟨r89_1, rfl, hr89_1, rfl⟩ := hp
      show qV Γ _ _ 92 _ (.int _ :: _) _ _
      refine q_if_eq hC dX3_deriveAbove_92 (t := 110) (n := 95) (by decide) rfl (fun h92 => ?_) (fun h92 => ?_)
      · refine q_iinc hC 3 dX3_deriveAbove_110 rfl (v := nI (m + 1)) (z_inc m) (by decide) (ls' := [(0, _), (1, _), (2, _), (3, _)]) rfl rfl ?_
        refine q_goto hC dX3_deriveAbove_113 (n := 77) (by decide) ?_
        exact ih (m + 1) _ _ (by omega) ht hI K
      · refine q_aload_n hC 0 dX3_deriveAbove_95 rfl rfl ?_
        refine q_get_f hC f_X3_9 dX3_deriveAbove_96 rfl rfl hi rfl ?_
        refine q_iload_n hC 3 dX3_deriveAbove_99 rfl rfl ?_
        refine q_dup2 hC dX3_deriveAbove_100 rfl rfl rfl ?_
        refine q_iald hC dX3_deriveAbove_101 rfl hi (vp_in_nI (Nat.lt_succ_of_lt hm) (by decide)) rfl ?_
        refine q_aload_n hC 0 dX3_deriveAbove_102 rfl rfl ?_
        refine q_get_f hC f_X3_9 dX3_deriveAbove_103 rfl rfl hi rfl ?_
        refine q_iload_n hC 2 dX3_deriveAbove_106 rfl rfl ?_
        refine q_iald hC dX3_deriveAbove_107 rfl hi (vp_in_nI (Nat.lt_succ_of_lt ht) (by decide)) rfl ?_
        refine q_ior hC dX3_deriveAbove_108 rfl ?_
        refine q_iast hC dX3_deriveAbove_109 (fun _ => rfl) hi (vp_in_nI (Nat.lt_succ_of_lt hm) (by decide)) rfl ?_
        refine q_iinc hC 3 dX3_deriveAbove_110 rfl (v := nI (m + 1)) (z_inc m) (by decide) (ls' := [(0, _), (1, _), (2, _), (3, _)]) rfl rfl ?_
        refine q_goto hC dX3_deriveAbove_113 (n := 77) (by decide) ?_
        exact ih (m + 1) _ _ (by omega) ht (z_ab_5 hI (z_m5_or (z_ab_at hI hm) (z_ab_at hI ht))) K
  have L2 : ∀ (n t : Nat) (T : qM), t + n = 5 → z_ab S T i 5 → qV Γ rm_X3_deriveAbove 4 70 [(0, .ref (q_ad Γ 17 i)), (1, .ref (q_ad Γ 1 i)), (2, .int (nI t))] [] T (0, 0) := by
    intro n
    induction n with
    | zero =>
      intro t T hmn hI
      obtain rfl : t = 5 := by omega
      refine q_iload_n hC 2 dX3_deriveAbove_70 rfl rfl ?_
      refine q_iconst hC dX3_deriveAbove_71 (v := 5) (by decide) rfl ?_
      refine q_icmp_ge hC dX3_deriveAbove_72 (t := 122) (n := 75) (by decide) rfl (fun h72 => ?_) (fun h72 => absurd (by decide) h72)
      refine q_vret hC dX3_deriveAbove_122 ⟨by decide, by decide⟩ ⟨rfl, ?_⟩
      exact hI
    | succ n ih =>
      intro t T hmn hI
      have ht : t < 5 := by omega
      refine q_iload_n hC 2 dX3_deriveAbove_70 rfl rfl ?_
      refine q_iconst hC dX3_deriveAbove_71 (v := 5) (by decide) rfl ?_
      refine q_icmp_ge hC dX3_deriveAbove_72 (t := 122) (n := 75) (by decide) rfl (fun h72 => absurd h72 (nI_ge ht (by decide))) (fun h72 => ?_)
      refine q_iconst hC dX3_deriveAbove_75 (v := 0) (by decide) rfl ?_
      refine q_istore_n hC dX3_deriveAbove_76 (by decide) (ls' := [(0, _), (1, _), (2, _), (3, _)]) rfl rfl ?_
      refine L3 5 0 t T (by omega) ht hI ?_
      intro U hU
      refine q_iinc hC 2 dX3_deriveAbove_116 rfl (v := nI (t + 1)) (z_inc t) (by decide) (ls' := [(0, _), (1, _), (2, _)]) rfl rfl ?_
      refine q_goto hC dX3_deriveAbove_119 (n := 70) (by decide) ?_
      exact ih (t + 1) _ (by omega) hU
  have L1 : ∀ (n t : Nat) (T : qM), t + n = 5 → z_ab S T i t → qV Γ rm_X3_deriveAbove 4 2 [(0, .ref (q_ad Γ 17 i)), (1, .ref (q_ad Γ 1 i)), (2, .int (nI t))] [] T (0, 0) := by
    intro n
    induction n with
    | zero =>
      intro t T hmn hI
      obtain rfl : t = 5 := by omega
      refine q_iload_n hC 2 dX3_deriveAbove_2 rfl rfl ?_
      refine q_iconst hC dX3_deriveAbove_3 (v := 5) (by decide) rfl ?_
      refine q_icmp_ge hC dX3_deriveAbove_4 (t := 68) (n := 7) (by decide) rfl (fun h4 => ?_) (fun h4 => absurd (by decide) h4)
      refine q_iconst hC dX3_deriveAbove_68 (v := 0) (by decide) rfl ?_
      refine q_istore_n hC dX3_deriveAbove_69 (by decide) (ls' := [(0, _), (1, _), (2, _)]) rfl rfl ?_
      exact L2 5 0 T (by omega) hI
    | succ n ih =>
      intro t T hmn hI
      have ht : t < 5 := by omega
      have m8 : z_m5 (T 8 i (nI t).toNatClampNeg) := by
        rw [hI.1 8 i (by omega), nI_clamp (by omega)]; exact h8 t ht
      have m17 : z_m5 (T 17 i 0) := by
        rw [hI.1 17 i (by omega)]; exact h17
      have v7 : z_v5 (T 7 i (nI t).toNatClampNeg) := by
        rw [hI.1 7 i (by omega)]; exact z_sups_at hS ⟨t, ht, rfl⟩
      refine q_iload_n hC 2 dX3_deriveAbove_2 rfl rfl ?_
      refine q_iconst hC dX3_deriveAbove_3 (v := 5) (by decide) rfl ?_
      refine q_icmp_ge hC dX3_deriveAbove_4 (t := 68) (n := 7) (by decide) rfl (fun h4 => absurd h4 (nI_ge ht (by decide))) (fun h4 => ?_)
      refine q_aload_n hC 1 dX3_deriveAbove_7 rfl rfl ?_
      refine q_get_f hC f_X3_74 dX3_deriveAbove_8 rfl rfl hi rfl ?_
      refine q_iload_n hC 2 dX3_deriveAbove_11 rfl rfl ?_
      refine q_iald hC dX3_deriveAbove_12 rfl hi (vp_in_nI ht (by decide)) rfl ?_
      refine q_istore_n hC dX3_deriveAbove_13 (by decide) (ls' := [(0, _), (1, _), (2, _), (3, _)]) rfl rfl ?_
      refine q_aload_n hC 1 dX3_deriveAbove_14 rfl rfl ?_
      refine q_get_f hC f_X3_77 dX3_deriveAbove_15 rfl rfl hi rfl ?_
      refine q_iload_n hC 2 dX3_deriveAbove_18 rfl rfl ?_
      refine q_iald hC dX3_deriveAbove_19 rfl hi (vp_in_nI ht (by decide)) rfl ?_
      refine q_iconst hC dX3_deriveAbove_20 (v := (-1)) (by decide) rfl ?_
      refine q_icmp_eq hC dX3_deriveAbove_21 (t := 35) (n := 24) (by decide) rfl (fun h21 => ?_) (fun h21 => ?_)
      · refine q_aload_n hC 0 dX3_deriveAbove_35 rfl rfl ?_
        refine q_get_f hC f_X3_9 dX3_deriveAbove_36 rfl rfl hi rfl ?_
        refine q_iload_n hC 2 dX3_deriveAbove_39 rfl rfl ?_
        refine q_aload_n hC 0 dX3_deriveAbove_40 rfl rfl ?_
        refine q_get_f hC f_X3_43 dX3_deriveAbove_41 rfl rfl hi rfl ?_
        refine q_iload_n hC 2 dX3_deriveAbove_44 rfl rfl ?_
        refine q_callSN hC (c_X9_has (q_hD hC)) m_X9_has ln_X3_80 dX3_deriveAbove_45 (_, _) rfl rfl (Nat.le_of_ble_eq_true rfl) ⟨⟨by decide, by decide⟩, by decide, by decide⟩ rfl (k' := (0, 0)) rfl trivial (fun v S' hp => ?_)
        obtain ⟨r45_2, rfl, hr45_2, rfl⟩ := hp
        show qV Γ _ _ 48 _ (.int _ :: _) _ _
        refine q_if_eq hC dX3_deriveAbove_48 (t := 60) (n := 51) (by decide) rfl (fun h48 => ?_) (fun h48 => ?_)
        · refine q_iconst hC dX3_deriveAbove_60 (v := 0) (by decide) rfl ?_
          refine q_iast hC dX3_deriveAbove_61 (fun _ => rfl) hi (vp_in_nI (Nat.lt_succ_of_lt ht) (by decide)) rfl ?_
          refine q_iinc hC 2 dX3_deriveAbove_62 rfl (v := nI (t + 1)) (z_inc t) (by decide) (ls' := [(0, _), (1, _), (2, _), (3, _)]) rfl rfl ?_
          refine q_goto hC dX3_deriveAbove_65 (n := 2) (by decide) ?_
          refine q_locp [0, 1, 2] (ls' := [(0, _), (1, _), (2, _)]) rfl ?_
          exact ih (t + 1) _ (by omega) (z_ab_s hI ht z_m5_0)
        · refine q_iload_n hC 3 dX3_deriveAbove_51 rfl rfl ?_
          refine q_aload_n hC 0 dX3_deriveAbove_52 rfl rfl ?_
          refine q_get_f hC f_X3_43 dX3_deriveAbove_53 rfl rfl hi rfl ?_
          refine q_iand hC dX3_deriveAbove_56 rfl ?_
          refine q_goto hC dX3_deriveAbove_57 (n := 61) (by decide) ?_
          refine q_iast hC dX3_deriveAbove_61 (fun _ => rfl) hi (vp_in_nI (Nat.lt_succ_of_lt ht) (by decide)) rfl ?_
          refine q_iinc hC 2 dX3_deriveAbove_62 rfl (v := nI (t + 1)) (z_inc t) (by decide) (ls' := [(0, _), (1, _), (2, _), (3, _)]) rfl rfl ?_
          refine q_goto hC dX3_deriveAbove_65 (n := 2) (by decide) ?_
          refine q_locp [0, 1, 2] (ls' := [(0, _), (1, _), (2, _)]) rfl ?_
          exact ih (t + 1) _ (by omega) (z_ab_s hI ht (z_m5_and m8 m17))
      · refine q_iload_n hC 3 dX3_deriveAbove_24 rfl rfl ?_
        refine q_iconst hC dX3_deriveAbove_25 (v := 1) (by decide) rfl ?_
        refine q_aload_n hC 1 dX3_deriveAbove_26 rfl rfl ?_
        refine q_get_f hC f_X3_77 dX3_deriveAbove_27 rfl rfl hi rfl ?_
        refine q_iload_n hC 2 dX3_deriveAbove_30 rfl rfl ?_
        refine q_iald hC dX3_deriveAbove_31 rfl hi (vp_in_nI ht (by decide)) rfl ?_
        refine q_ishl hC dX3_deriveAbove_32 rfl ?_
        refine q_ior hC dX3_deriveAbove_33 rfl ?_
        refine q_istore_n hC dX3_deriveAbove_34 (by decide) (ls' := [(0, _), (1, _), (2, _), (3, _)]) rfl rfl ?_
        refine q_aload_n hC 0 dX3_deriveAbove_35 rfl rfl ?_
        refine q_get_f hC f_X3_9 dX3_deriveAbove_36 rfl rfl hi rfl ?_
        refine q_iload_n hC 2 dX3_deriveAbove_39 rfl rfl ?_
        refine q_aload_n hC 0 dX3_deriveAbove_40 rfl rfl ?_
        refine q_get_f hC f_X3_43 dX3_deriveAbove_41 rfl rfl hi rfl ?_
        refine q_iload_n hC 2 dX3_deriveAbove_44 rfl rfl ?_
        refine q_callSN hC (c_X9_has (q_hD hC)) m_X9_has ln_X3_80 dX3_deriveAbove_45 (_, _) rfl rfl (Nat.le_of_ble_eq_true rfl) ⟨⟨by decide, by decide⟩, by decide, by decide⟩ rfl (k' := (0, 0)) rfl trivial (fun v S' hp => ?_)
        obtain ⟨r45_4, rfl, hr45_4, rfl⟩ := hp
        show qV Γ _ _ 48 _ (.int _ :: _) _ _
        refine q_if_eq hC dX3_deriveAbove_48 (t := 60) (n := 51) (by decide) rfl (fun h48 => ?_) (fun h48 => ?_)
        · refine q_iconst hC dX3_deriveAbove_60 (v := 0) (by decide) rfl ?_
          refine q_iast hC dX3_deriveAbove_61 (fun _ => rfl) hi (vp_in_nI (Nat.lt_succ_of_lt ht) (by decide)) rfl ?_
          refine q_iinc hC 2 dX3_deriveAbove_62 rfl (v := nI (t + 1)) (z_inc t) (by decide) (ls' := [(0, _), (1, _), (2, _), (3, _)]) rfl rfl ?_
          refine q_goto hC dX3_deriveAbove_65 (n := 2) (by decide) ?_
          refine q_locp [0, 1, 2] (ls' := [(0, _), (1, _), (2, _)]) rfl ?_
          exact ih (t + 1) _ (by omega) (z_ab_s hI ht z_m5_0)
        · refine q_iload_n hC 3 dX3_deriveAbove_51 rfl rfl ?_
          refine q_aload_n hC 0 dX3_deriveAbove_52 rfl rfl ?_
          refine q_get_f hC f_X3_43 dX3_deriveAbove_53 rfl rfl hi rfl ?_
          refine q_iand hC dX3_deriveAbove_56 rfl ?_
          refine q_goto hC dX3_deriveAbove_57 (n := 61) (by decide) ?_
          refine q_iast hC dX3_deriveAbove_61 (fun _ => rfl) hi (vp_in_nI (Nat.lt_succ_of_lt ht) (by decide)) rfl ?_
          refine q_iinc hC 2 dX3_deriveAbove_62 rfl (v := nI (t + 1)) (z_inc t) (by decide) (ls' := [(0, _), (1, _), (2, _), (3, _)]) rfl rfl ?_
          refine q_goto hC dX3_deriveAbove_65 (n := 2) (by decide) ?_
          refine q_locp [0, 1, 2] (ls' := [(0, _), (1, _), (2, _)]) rfl ?_
          exact ih (t + 1) _ (by omega) (z_ab_s hI ht (z_m5_and (z_m5_or m8 (z_m5_bit (z_v5n v7 h21))) m17))
  show qV Γ _ _ 0 [(0, .ref (q_ad Γ 17 i)), (1, .ref (q_ad Γ 1 i))] [] S (0, 0)
  refine q_iconst hC dX3_deriveAbove_0 (v := 0) (by decide) rfl ?_
  refine q_istore_n hC dX3_deriveAbove_1 (by decide) (ls' := [(0, _), (1, _), (2, _)]) rfl rfl ?_
  exact L1 5 0 S (by omega) ⟨fun _ _ _ => rfl, fun q hq => absurd hq (by omega)⟩
