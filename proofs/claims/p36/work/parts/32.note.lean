-- printed by wip/p36/gen_m2.py
theorem z_fillq {S : qM} {t i : Nat} {f : Nat → Int32} : ∃ g, q_up S t i f = q_up S t i g ∧ g = f := ⟨f, rfl, rfl⟩
abbrev rm_J7_fill_53178 : Room := { frames := 0, cells := 0, slots := 0, locals := 0 }
set_option maxHeartbeats 4000000 in
set_option maxRecDepth 100000 in
theorem c_J7_fill_53178 {L : qL} (hD : q_D L.2.2.2.1) : qCT L yJ7_fill_53178 cJ7_fill_53178 4 none rm_J7_fill_53178 (fun ad _ (x : Nat × Nat × Int32) => [.ref (ad x.1 x.2.1), .int x.2.2]) (fun x _ => (x.1 = 21 ∨ x.1 = 22 ∨ x.1 = 26) ∧ x.2.1 < 4) (qPv (fun x S S' => (∀ k' i', ¬ (k' = x.1 ∧ i' = x.2.1) → S' k' i' = S k' i') ∧ ∀ p, p < (if x.1 = 26 then 9 else 6) → S' x.1 x.2.1 p = x.2.2)) := by
  refine q_met hD (by decide) (fun _ => Nat.le_of_ble_eq_true rfl) (fun Γ x S hΓ hpre hC => ?_)
  subst hΓ
  obtain ⟨t, i, v⟩ := x
  obtain ⟨ht, hi⟩ := hpre
  have hi : i < 4 := hi
  have ht : t = 21 ∨ t = 22 ∨ t = 26 := ht
  rcases ht with rfl | rfl | rfl
  · have L : ∀ (n m : Nat) (T : qM), m + n = 6 → (∀ k' i', ¬ (k' = 21 ∧ i' = i) → T k' i' = S k' i') → (∀ p, p < m → T 21 i p = v) → qV Γ rm_J7_fill_53178 4 5 [(0, .ref (q_ad Γ 21 i)), (1, .int v), (2, .int (nI m)), (3, .int 6)] [] T (0, 0) := by
      intro n
      induction n with
      | zero =>
        intro m T hmn hI1 hI2
        obtain rfl : m = 6 := by omega
        refine q_iload_n hC 2 dJ7_fill_53178_5 rfl rfl ?_
        refine q_iload_n hC 3 dJ7_fill_53178_6 rfl rfl ?_
        refine q_icmp_ge hC dJ7_fill_53178_7 (t := 20) (n := 10) (by decide) rfl (fun h7 => ?_) (fun h7 => absurd (by decide) h7)
        refine q_vret hC dJ7_fill_53178_20 ⟨by decide, by decide⟩ ⟨rfl, ?_⟩
        exact ⟨hI1, hI2⟩
      | succ n ih =>
        intro m T hmn hI1 hI2
        have hm : m < 6 := by omega
        refine q_iload_n hC 2 dJ7_fill_53178_5 rfl rfl ?_
        refine q_iload_n hC 3 dJ7_fill_53178_6 rfl rfl ?_
        refine q_icmp_ge hC dJ7_fill_53178_7 (t := 20) (n := 10) (by decide) rfl (fun h7 => absurd h7 (nI_ge hm (by decide))) (fun h7 => ?_)
        refine q_aload_n hC 0 dJ7_fill_53178_10 rfl rfl ?_
        refine q_iload_n hC 2 dJ7_fill_53178_11 rfl rfl ?_
        refine q_iload_n hC 1 dJ7_fill_53178_12 rfl rfl ?_
        refine q_iast hC dJ7_fill_53178_13 (fun _ => rfl) hi (vp_in_nI hm (by decide)) rfl ?_
        refine q_iinc hC 2 dJ7_fill_53178_14 rfl (v := nI (m + 1)) (z_inc m) (by decide) (ls' := [(0, _), (1, _), (2, _), (3, _)]) rfl rfl ?_
        refine q_goto hC dJ7_fill_53178_17 (n := 5) (by decide) ?_
        refine ih (m + 1) _ (by omega) (fun k' i' h => ?_) (fun p hp => ?_)
        · simp only [q_up, if_neg h]
          exact hI1 k' i' h
        · simp only [q_up, and_self, if_true, upd]
          rw [nI_clamp (by omega)]
          by_cases e : p = m
          · rw [if_pos e]
          · rw [if_neg e]
            exact hI2 p (by omega)
    show qV Γ _ _ 0 [(0, .ref (q_ad Γ 21 i)), (1, .int v)] [] S (0, 0)
    refine q_iconst hC dJ7_fill_53178_0 (v := 0) (by decide) rfl ?_
    refine q_istore_n hC dJ7_fill_53178_1 (by decide) (ls' := [(0, _), (1, _), (2, _)]) rfl rfl ?_
    refine q_aload_n hC 0 dJ7_fill_53178_2 rfl rfl ?_
    refine q_alen hC (a := 0) dJ7_fill_53178_3 rfl rfl rfl hi rfl ?_
    refine q_istore_n hC dJ7_fill_53178_4 (by decide) (ls' := [(0, _), (1, _), (2, _), (3, _)]) rfl rfl ?_
    exact L 6 0 S (by omega) (fun _ _ _ => rfl) (fun p hp => absurd hp (by omega))
  · have L : ∀ (n m : Nat) (T : qM), m + n = 6 → (∀ k' i', ¬ (k' = 22 ∧ i' = i) → T k' i' = S k' i') → (∀ p, p < m → T 22 i p = v) → qV Γ rm_J7_fill_53178 4 5 [(0, .ref (q_ad Γ 22 i)), (1, .int v), (2, .int (nI m)), (3, .int 6)] [] T (0, 0) := by
      intro n
      induction n with
      | zero =>
        intro m T hmn hI1 hI2
        obtain rfl : m = 6 := by omega
        refine q_iload_n hC 2 dJ7_fill_53178_5 rfl rfl ?_
        refine q_iload_n hC 3 dJ7_fill_53178_6 rfl rfl ?_
        refine q_icmp_ge hC dJ7_fill_53178_7 (t := 20) (n := 10) (by decide) rfl (fun h7 => ?_) (fun h7 => absurd (by decide) h7)
        refine q_vret hC dJ7_fill_53178_20 ⟨by decide, by decide⟩ ⟨rfl, ?_⟩
        exact ⟨hI1, hI2⟩
      | succ n ih =>
        intro m T hmn hI1 hI2
        have hm : m < 6 := by omega
        refine q_iload_n hC 2 dJ7_fill_53178_5 rfl rfl ?_
        refine q_iload_n hC 3 dJ7_fill_53178_6 rfl rfl ?_
        refine q_icmp_ge hC dJ7_fill_53178_7 (t := 20) (n := 10) (by decide) rfl (fun h7 => absurd h7 (nI_ge hm (by decide))) (fun h7 => ?_)
        refine q_aload_n hC 0 dJ7_fill_53178_10 rfl rfl ?_
        refine q_iload_n hC 2 dJ7_fill_53178_11 rfl rfl ?_
        refine q_iload_n hC 1 dJ7_fill_53178_12 rfl rfl ?_
        refine q_iast hC dJ7_fill_53178_13 (fun _ => rfl) hi (vp_in_nI hm (by decide)) rfl ?_
        refine q_iinc hC 2 dJ7_fill_53178_14 rfl (v := nI (m + 1)) (z_inc m) (by decide) (ls' := [(0, _), (1, _), (2, _), (3, _)]) rfl rfl ?_
        refine q_goto hC dJ7_fill_53178_17 (n := 5) (by decide) ?_
        refine ih (m + 1) _ (by omega) (fun k' i' h => ?_) (fun p hp => ?_)
        · simp only [q_up, if_neg h]
          exact hI1 k' i' h
        · simp only [q_up, and_self, if_true, upd]
          rw [nI_clamp (by omega)]
          by_cases e : p = m
          · rw [if_pos e]
          · rw [if_neg e]
            exact hI2 p (by omega)
    show qV Γ _ _ 0 [(0, .ref (q_ad Γ 22 i)), (1, .int v)] [] S (0, 0)
    refine q_iconst hC dJ7_fill_53178_0 (v := 0) (by decide) rfl ?_
    refine q_istore_n hC dJ7_fill_53178_1 (by decide) (ls' := [(0, _), (1, _), (2, _)]) rfl rfl ?_
    refine q_aload_n hC 0 dJ7_fill_53178_2 rfl rfl ?_
    refine q_alen hC (a := 0) dJ7_fill_53178_3 rfl rfl rfl hi rfl ?_
    refine q_istore_n hC dJ7_fill_53178_4 (by decide) (ls' := [(0, _), (1, _), (2, _), (3, _)]) rfl rfl ?_
    exact L 6 0 S (by omega) (fun _ _ _ => rfl) (fun p hp => absurd hp (by omega))
  · have L : ∀ (n m : Nat) (T : qM), m + n = 9 → (∀ k' i', ¬ (k' = 26 ∧ i' = i) → T k' i' = S k' i') → (∀ p, p < m → T 26 i p = v) → qV Γ rm_J7_fill_53178 4 5 [(0, .ref (q_ad Γ 26 i)), (1, .int v), (2, .int (nI m)), (3, .int 9)] [] T (0, 0) := by
      intro n
      induction n with
      | zero =>
        intro m T hmn hI1 hI2
        obtain rfl : m = 9 := by omega
        refine q_iload_n hC 2 dJ7_fill_53178_5 rfl rfl ?_
        refine q_iload_n hC 3 dJ7_fill_53178_6 rfl rfl ?_
        refine q_icmp_ge hC dJ7_fill_53178_7 (t := 20) (n := 10) (by decide) rfl (fun h7 => ?_) (fun h7 => absurd (by decide) h7)
        refine q_vret hC dJ7_fill_53178_20 ⟨by decide, by decide⟩ ⟨rfl, ?_⟩
        exact ⟨hI1, hI2⟩
      | succ n ih =>
        intro m T hmn hI1 hI2
        have hm : m < 9 := by omega
        refine q_iload_n hC 2 dJ7_fill_53178_5 rfl rfl ?_
        refine q_iload_n hC 3 dJ7_fill_53178_6 rfl rfl ?_
        refine q_icmp_ge hC dJ7_fill_53178_7 (t := 20) (n := 10) (by decide) rfl (fun h7 => absurd h7 (nI_ge hm (by decide))) (fun h7 => ?_)
        refine q_aload_n hC 0 dJ7_fill_53178_10 rfl rfl ?_
        refine q_iload_n hC 2 dJ7_fill_53178_11 rfl rfl ?_
        refine q_iload_n hC 1 dJ7_fill_53178_12 rfl rfl ?_
        refine q_iast hC dJ7_fill_53178_13 (fun _ => rfl) hi (vp_in_nI hm (by decide)) rfl ?_
        refine q_iinc hC 2 dJ7_fill_53178_14 rfl (v := nI (m + 1)) (z_inc m) (by decide) (ls' := [(0, _), (1, _), (2, _), (3, _)]) rfl rfl ?_
        refine q_goto hC dJ7_fill_53178_17 (n := 5) (by decide) ?_
        refine ih (m + 1) _ (by omega) (fun k' i' h => ?_) (fun p hp => ?_)
        · simp only [q_up, if_neg h]
          exact hI1 k' i' h
        · simp only [q_up, and_self, if_true, upd]
          rw [nI_clamp (by omega)]
          by_cases e : p = m
          · rw [if_pos e]
          · rw [if_neg e]
            exact hI2 p (by omega)
    show qV Γ _ _ 0 [(0, .ref (q_ad Γ 26 i)), (1, .int v)] [] S (0, 0)
    refine q_iconst hC dJ7_fill_53178_0 (v := 0) (by decide) rfl ?_
    refine q_istore_n hC dJ7_fill_53178_1 (by decide) (ls' := [(0, _), (1, _), (2, _)]) rfl rfl ?_
    refine q_aload_n hC 0 dJ7_fill_53178_2 rfl rfl ?_
    refine q_alen hC (a := 0) dJ7_fill_53178_3 rfl rfl rfl hi rfl ?_
    refine q_istore_n hC dJ7_fill_53178_4 (by decide) (ls' := [(0, _), (1, _), (2, _), (3, _)]) rfl rfl ?_
    exact L 9 0 S (by omega) (fun _ _ _ => rfl) (fun p hp => absurd hp (by omega))
def z_far (x : Int32) : Int32 := if x = 112 then 1 else if x = 111 then 1 else 0
abbrev rm_X3_isFarSeen : Room := { frames := 0, cells := 0, slots := 0, locals := 0 }
set_option maxHeartbeats 4000000 in
set_option maxRecDepth 100000 in
theorem c_X3_isFarSeen {L : qL} (hD : q_D L.2.2.2.1) : qCT L yX3_isFarSeen cX3_isFarSeen 2 (some .boolean) rm_X3_isFarSeen (fun ad _ (x : Nat × Int32) => [.ref (ad 17 x.1), .int x.2]) (fun x _ => x.1 < 4) (qPi (fun x S r S' => r = z_far x.2 ∧ S = S')) := by
  refine q_met hD (by decide) (fun _ => Nat.le_of_ble_eq_true rfl) (fun Γ x S hΓ hpre hC => ?_)
  subst hΓ
  obtain ⟨i, a⟩ := x
  have hi : i < 4 := hpre
  show qV Γ _ _ 0 [(0, .ref (q_ad Γ 17 i)), (1, .int a)] [] S (0, 0)
  refine q_iload_n hC 1 dX3_isFarSeen_0 rfl rfl ?_
  refine q_bipush hC dX3_isFarSeen_1 (v := 112) (by decide) rfl ?_
  refine q_icmp_eq hC dX3_isFarSeen_3 (t := 12) (n := 6) (by decide) rfl (fun h3 => ?_) (fun h3 => ?_)
  · refine q_iconst hC dX3_isFarSeen_12 (v := 1) (by decide) rfl ?_
    refine q_goto hC dX3_isFarSeen_13 (n := 17) (by decide) ?_
    refine q_iret hC dX3_isFarSeen_17 rfl ⟨by decide, by decide⟩ ⟨_, rfl, ?_⟩
    exact ⟨by simp only [z_far, if_pos h3], rfl⟩
  · refine q_iload_n hC 1 dX3_isFarSeen_6 rfl rfl ?_
    refine q_bipush hC dX3_isFarSeen_7 (v := 111) (by decide) rfl ?_
    refine q_icmp_ne hC dX3_isFarSeen_9 (t := 16) (n := 12) (by decide) rfl (fun h9 => ?_) (fun h9 => ?_)
    · refine q_iconst hC dX3_isFarSeen_16 (v := 0) (by decide) rfl ?_
      refine q_iret hC dX3_isFarSeen_17 rfl ⟨by decide, by decide⟩ ⟨_, rfl, ?_⟩
      exact ⟨by simp only [z_far, if_neg h3, if_neg h9], rfl⟩
    · refine q_iconst hC dX3_isFarSeen_12 (v := 1) (by decide) rfl ?_
      refine q_goto hC dX3_isFarSeen_13 (n := 17) (by decide) ?_
      refine q_iret hC dX3_isFarSeen_17 rfl ⟨by decide, by decide⟩ ⟨_, rfl, ?_⟩
      exact ⟨by simp only [z_far, if_neg h3, if_pos h9], rfl⟩
/-- the first methods that are noted: by row r, of the type at -/
def z_nt (S T : qM) (i r at' : Nat) : Prop := (∀ k' i', ¬ ((k' = 19 ∨ k' = 20) ∧ i' = i) → T k' i' = S k' i') ∧
  (∀ p, T 19 i p = S 19 i p ∨ ∃ q, q < 6 ∧ p = r * 6 + q ∧ T 19 i p = nI at' ∧ ¬ S 10 i (at' * 6 + q) = 45) ∧ (∀ p, T 20 i p = S 20 i p ∨ ∃ q, q < 6 ∧ p = r * 6 + q ∧ T 20 i p = nI at')
theorem z_nt.rf {S : qM} {i r at' : Nat} : z_nt S S i r at' := ⟨fun _ _ _ => rfl, fun _ => Or.inl rfl, fun _ => Or.inl rfl⟩
theorem z_nt_19 {S T : qM} {i r at' m : Nat} (h : z_nt S T i r at') (hr : r < 6) (hm : m < 6) (ha : ¬ S 10 i (at' * 6 + m) = 45) : z_nt S (q_up T 19 i (upd (T 19 i) (nI r * 6 + nI m).toNatClampNeg (nI at'))) i r at' := by
  refine ⟨fun k' i' hk => ?_, fun p => ?_, fun p => ?_⟩
  · simp only [q_up]
    rw [if_neg (by omega)]
    exact h.1 k' i' hk
  · simp only [q_up, and_self, if_true, upd]
    rw [z_t6 hr hm]
    by_cases e : p = r * 6 + m
    · rw [if_pos e]; exact Or.inr ⟨m, hm, e, rfl, ha⟩
    · rw [if_neg e]; exact h.2.1 p
  · simp (config := {decide := true}) only [q_up, false_and, if_false]
    exact h.2.2 p
theorem z_nt_20 {S T : qM} {i r at' m : Nat} (h : z_nt S T i r at') (hr : r < 6) (hm : m < 6) : z_nt S (q_up T 20 i (upd (T 20 i) (nI r * 6 + nI m).toNatClampNeg (nI at'))) i r at' := by
  refine ⟨fun k' i' hk => ?_, fun p => ?_, fun p => ?_⟩
  · simp only [q_up]
    rw [if_neg (by omega)]
    exact h.1 k' i' hk
  · simp (config := {decide := true}) only [q_up, false_and, if_false]
    exact h.2.1 p
  · simp only [q_up, and_self, if_true, upd]
    rw [z_t6 hr hm]
    by_cases e : p = r * 6 + m
    · rw [if_pos e]; exact Or.inr ⟨m, hm, e, rfl⟩
    · rw [if_neg e]; exact h.2.2 p
abbrev rm_X3_noteMethods : Room := { frames := 0, cells := 0, slots := 0, locals := 0 }
set_option maxHeartbeats 4000000 in
set_option maxRecDepth 100000 in
theorem c_X3_noteMethods {L : qL} (hD : q_D L.2.2.2.1) : qCT L yX3_noteMethods cX3_noteMethods 8 none rm_X3_noteMethods (fun ad _ (x : Nat × Nat × Nat) => [.ref (ad 17 x.1), .ref (ad 9 x.1), .int (nI x.2.1), .int (nI x.2.2)]) (fun x _ => x.1 < 4 ∧ x.2.1 < 5 ∧ x.2.2 < 5) (qPv (fun x S S' => z_nt S S' x.1 x.2.1 x.2.2)) := by
  refine q_met hD (by decide) (fun _ => Nat.le_of_ble_eq_true rfl) (fun Γ x S hΓ hpre hC => ?_)
  subst hΓ
  obtain ⟨i, r, a⟩ := x
  obtain ⟨hi, hr, ha⟩ := hpre
  have hi : i < 4 := hi
  have hr : r < 5 := hr
  have ha : a < 5 := ha
  have hr6 : r < 6 := by omega
  have L : ∀ (n m : Nat) (T : qM), m + n = 6 → z_nt S T i r a → qV Γ rm_X3_noteMethods 8 3 [(0, .ref (q_ad Γ 17 i)), (1, .ref (q_ad Γ 9 i)), (2, .int (nI r)), (3, .int (nI a)), (4, .int (nI m))] [] T (0, 0) := by
    intro n
    induction n with
    | zero =>
      intro m T hmn hI
      obtain rfl : m = 6 := by omega
      refine q_iload hC 4 dX3_noteMethods_3 rfl rfl ?_
      refine q_bipush hC dX3_noteMethods_5 (v := 6) (by decide) rfl ?_
      refine q_icmp_ge hC dX3_noteMethods_7 (t := 127) (n := 10) (by decide) rfl (fun h7 => ?_) (fun h7 => absurd (by decide) h7)
      refine q_vret hC dX3_noteMethods_127 ⟨by decide, by decide⟩ ⟨rfl, ?_⟩
      exact hI
    | succ n ih =>
      intro m T hmn hI
      have hm : m < 6 := by omega
      have eA : (nI a * 6 + nI m).toNatClampNeg = a * 6 + m := z_t6 (by omega) hm
      have e10 : T 10 i = S 10 i := hI.1 10 i (by omega)
      have J59 : ∀ (U : qM) (sg : Int32), z_nt S U i r a → qV Γ rm_X3_noteMethods 8 59 [(0, .ref (q_ad Γ 17 i)), (1, .ref (q_ad Γ 9 i)), (2, .int (nI r)), (3, .int (nI a)), (4, .int (nI m)), (5, .int (nI r * 6 + nI m)), (6, .int sg)] [] U (0, 0) := by
        intro U sg hU
        refine q_iload hC 6 dX3_noteMethods_59 rfl rfl ?_
        refine q_bipush hC dX3_noteMethods_61 (v := 45) (by decide) rfl ?_
        refine q_icmp_eq hC dX3_noteMethods_63 (t := 94) (n := 66) (by decide) rfl (fun h63_1 => ?_) (fun h63_1 => ?_)
        · refine q_iconst hC dX3_noteMethods_94 (v := 0) (by decide) rfl ?_
          refine q_istore hC dX3_noteMethods_95 (by decide) (ls' := [(0, _), (1, _), (2, _), (3, _), (4, _), (5, _), (6, _), (7, _)]) rfl rfl ?_
          refine q_aload_n hC 0 dX3_noteMethods_97 rfl rfl ?_
          refine q_get_f hC f_X3_18 dX3_noteMethods_98 rfl rfl hi rfl ?_
          refine q_iload hC 5 dX3_noteMethods_101 rfl rfl ?_
          refine q_iald hC dX3_noteMethods_103 rfl hi (z_in36 (z_ltn hr6) (z_ltn hm)) rfl ?_
          refine q_iconst hC dX3_noteMethods_104 (v := (-1)) (by decide) rfl ?_
          refine q_icmp_ne hC dX3_noteMethods_105 (t := 121) (n := 108) (by decide) rfl (fun h105_2 => ?_) (fun h105_2 => ?_)
          · refine q_iinc hC 4 dX3_noteMethods_121 rfl (v := nI (m + 1)) (z_inc m) (by decide) (ls' := [(0, _), (1, _), (2, _), (3, _), (4, _), (5, _), (6, _), (7, _)]) rfl rfl ?_
            refine q_goto hC dX3_noteMethods_124 (n := 3) (by decide) ?_
            refine q_locp [0, 1, 2, 3, 4] (ls' := [(0, _), (1, _), (2, _), (3, _), (4, _)]) rfl ?_
            first
              | exact ih (m + 1) _ (by omega) hU
              | exact ih (m + 1) _ (by omega) (z_nt_20 hU hr6 hm)
          · refine q_iload hC 7 dX3_noteMethods_108 rfl rfl ?_
            refine q_if_eq hC dX3_noteMethods_110 (t := 121) (n := 113) (by decide) rfl (fun _ => ?_) (fun h => absurd (by decide) h)
            refine q_iinc hC 4 dX3_noteMethods_121 rfl (v := nI (m + 1)) (z_inc m) (by decide) (ls' := [(0, _), (1, _), (2, _), (3, _), (4, _), (5, _), (6, _), (7, _)]) rfl rfl ?_
            refine q_goto hC dX3_noteMethods_124 (n := 3) (by decide) ?_
            refine q_locp [0, 1, 2, 3, 4] (ls' := [(0, _), (1, _), (2, _), (3, _), (4, _)]) rfl ?_
            first
              | exact ih (m + 1) _ (by omega) hU
              | exact ih (m + 1) _ (by omega) (z_nt_20 hU hr6 hm)
        · refine q_iload hC 6 dX3_noteMethods_66 rfl rfl ?_
          refine q_bipush hC dX3_noteMethods_68 (v := 118) (by decide) rfl ?_
          refine q_icmp_eq hC dX3_noteMethods_70 (t := 94) (n := 73) (by decide) rfl (fun h70_3 => ?_) (fun h70_3 => ?_)
          · refine q_iconst hC dX3_noteMethods_94 (v := 0) (by decide) rfl ?_
            refine q_istore hC dX3_noteMethods_95 (by decide) (ls' := [(0, _), (1, _), (2, _), (3, _), (4, _), (5, _), (6, _), (7, _)]) rfl rfl ?_
            refine q_aload_n hC 0 dX3_noteMethods_97 rfl rfl ?_
            refine q_get_f hC f_X3_18 dX3_noteMethods_98 rfl rfl hi rfl ?_
            refine q_iload hC 5 dX3_noteMethods_101 rfl rfl ?_
            refine q_iald hC dX3_noteMethods_103 rfl hi (z_in36 (z_ltn hr6) (z_ltn hm)) rfl ?_
            refine q_iconst hC dX3_noteMethods_104 (v := (-1)) (by decide) rfl ?_
            refine q_icmp_ne hC dX3_noteMethods_105 (t := 121) (n := 108) (by decide) rfl (fun h105_4 => ?_) (fun h105_4 => ?_)
            · refine q_iinc hC 4 dX3_noteMethods_121 rfl (v := nI (m + 1)) (z_inc m) (by decide) (ls' := [(0, _), (1, _), (2, _), (3, _), (4, _), (5, _), (6, _), (7, _)]) rfl rfl ?_
              refine q_goto hC dX3_noteMethods_124 (n := 3) (by decide) ?_
              refine q_locp [0, 1, 2, 3, 4] (ls' := [(0, _), (1, _), (2, _), (3, _), (4, _)]) rfl ?_
              first
                | exact ih (m + 1) _ (by omega) hU
                | exact ih (m + 1) _ (by omega) (z_nt_20 hU hr6 hm)
            · refine q_iload hC 7 dX3_noteMethods_108 rfl rfl ?_
              refine q_if_eq hC dX3_noteMethods_110 (t := 121) (n := 113) (by decide) rfl (fun _ => ?_) (fun h => absurd (by decide) h)
              refine q_iinc hC 4 dX3_noteMethods_121 rfl (v := nI (m + 1)) (z_inc m) (by decide) (ls' := [(0, _), (1, _), (2, _), (3, _), (4, _), (5, _), (6, _), (7, _)]) rfl rfl ?_
              refine q_goto hC dX3_noteMethods_124 (n := 3) (by decide) ?_
              refine q_locp [0, 1, 2, 3, 4] (ls' := [(0, _), (1, _), (2, _), (3, _), (4, _)]) rfl ?_
              first
                | exact ih (m + 1) _ (by omega) hU
                | exact ih (m + 1) _ (by omega) (z_nt_20 hU hr6 hm)
          · refine q_aload_n hC 1 dX3_noteMethods_73 rfl rfl ?_
            refine q_get_f hC f_X3_90 dX3_noteMethods_74 rfl rfl hi rfl ?_
            refine q_iload_n hC 3 dX3_noteMethods_77 rfl rfl ?_
            refine q_bipush hC dX3_noteMethods_78 (v := 6) (by decide) rfl ?_
            refine q_imul hC dX3_noteMethods_80 rfl ?_
            refine q_iload hC 4 dX3_noteMethods_81 rfl rfl ?_
            refine q_iadd hC dX3_noteMethods_83 rfl ?_
            refine q_cald hC dX3_noteMethods_84 rfl hi (z_in30 (z_ltn ha) (z_ltn hm)) rfl ?_
            refine q_bipush hC dX3_noteMethods_85 (v := 115) (by decide) rfl ?_
            refine q_icmp_eq hC dX3_noteMethods_87 (t := 94) (n := 90) (by decide) rfl (fun h87_5 => ?_) (fun h87_5 => ?_)
            · refine q_iconst hC dX3_noteMethods_94 (v := 0) (by decide) rfl ?_
              refine q_istore hC dX3_noteMethods_95 (by decide) (ls' := [(0, _), (1, _), (2, _), (3, _), (4, _), (5, _), (6, _), (7, _)]) rfl rfl ?_
              refine q_aload_n hC 0 dX3_noteMethods_97 rfl rfl ?_
              refine q_get_f hC f_X3_18 dX3_noteMethods_98 rfl rfl hi rfl ?_
              refine q_iload hC 5 dX3_noteMethods_101 rfl rfl ?_
              refine q_iald hC dX3_noteMethods_103 rfl hi (z_in36 (z_ltn hr6) (z_ltn hm)) rfl ?_
              refine q_iconst hC dX3_noteMethods_104 (v := (-1)) (by decide) rfl ?_
              refine q_icmp_ne hC dX3_noteMethods_105 (t := 121) (n := 108) (by decide) rfl (fun h105_6 => ?_) (fun h105_6 => ?_)
              · refine q_iinc hC 4 dX3_noteMethods_121 rfl (v := nI (m + 1)) (z_inc m) (by decide) (ls' := [(0, _), (1, _), (2, _), (3, _), (4, _), (5, _), (6, _), (7, _)]) rfl rfl ?_
                refine q_goto hC dX3_noteMethods_124 (n := 3) (by decide) ?_
                refine q_locp [0, 1, 2, 3, 4] (ls' := [(0, _), (1, _), (2, _), (3, _), (4, _)]) rfl ?_
                first
                  | exact ih (m + 1) _ (by omega) hU
                  | exact ih (m + 1) _ (by omega) (z_nt_20 hU hr6 hm)
              · refine q_iload hC 7 dX3_noteMethods_108 rfl rfl ?_
                refine q_if_eq hC dX3_noteMethods_110 (t := 121) (n := 113) (by decide) rfl (fun _ => ?_) (fun h => absurd (by decide) h)
                refine q_iinc hC 4 dX3_noteMethods_121 rfl (v := nI (m + 1)) (z_inc m) (by decide) (ls' := [(0, _), (1, _), (2, _), (3, _), (4, _), (5, _), (6, _), (7, _)]) rfl rfl ?_
                refine q_goto hC dX3_noteMethods_124 (n := 3) (by decide) ?_
                refine q_locp [0, 1, 2, 3, 4] (ls' := [(0, _), (1, _), (2, _), (3, _), (4, _)]) rfl ?_
                first
                  | exact ih (m + 1) _ (by omega) hU
                  | exact ih (m + 1) _ (by omega) (z_nt_20 hU hr6 hm)
            · refine q_iconst hC dX3_noteMethods_90 (v := 1) (by decide) rfl ?_
              refine q_goto hC dX3_noteMethods_91 (n := 95) (by decide) ?_
              refine q_istore hC dX3_noteMethods_95 (by decide) (ls' := [(0, _), (1, _), (2, _), (3, _), (4, _), (5, _), (6, _), (7, _)]) rfl rfl ?_
              refine q_aload_n hC 0 dX3_noteMethods_97 rfl rfl ?_
              refine q_get_f hC f_X3_18 dX3_noteMethods_98 rfl rfl hi rfl ?_
              refine q_iload hC 5 dX3_noteMethods_101 rfl rfl ?_
              refine q_iald hC dX3_noteMethods_103 rfl hi (z_in36 (z_ltn hr6) (z_ltn hm)) rfl ?_
              refine q_iconst hC dX3_noteMethods_104 (v := (-1)) (by decide) rfl ?_
              refine q_icmp_ne hC dX3_noteMethods_105 (t := 121) (n := 108) (by decide) rfl (fun h105_7 => ?_) (fun h105_7 => ?_)
              · refine q_iinc hC 4 dX3_noteMethods_121 rfl (v := nI (m + 1)) (z_inc m) (by decide) (ls' := [(0, _), (1, _), (2, _), (3, _), (4, _), (5, _), (6, _), (7, _)]) rfl rfl ?_
                refine q_goto hC dX3_noteMethods_124 (n := 3) (by decide) ?_
                refine q_locp [0, 1, 2, 3, 4] (ls' := [(0, _), (1, _), (2, _), (3, _), (4, _)]) rfl ?_
                first
                  | exact ih (m + 1) _ (by omega) hU
                  | exact ih (m + 1) _ (by omega) (z_nt_20 hU hr6 hm)
              · refine q_iload hC 7 dX3_noteMethods_108 rfl rfl ?_
                refine q_if_eq hC dX3_noteMethods_110 (t := 121) (n := 113) (by decide) rfl (fun h => absurd h (by decide)) (fun _ => ?_)
                refine q_aload_n hC 0 dX3_noteMethods_113 rfl rfl ?_
                refine q_get_f hC f_X3_18 dX3_noteMethods_114 rfl rfl hi rfl ?_
                refine q_iload hC 5 dX3_noteMethods_117 rfl rfl ?_
                refine q_iload_n hC 3 dX3_noteMethods_119 rfl rfl ?_
                refine q_iast hC dX3_noteMethods_120 (fun _ => rfl) hi (z_in36 (z_ltn hr6) (z_ltn hm)) rfl ?_
                refine q_iinc hC 4 dX3_noteMethods_121 rfl (v := nI (m + 1)) (z_inc m) (by decide) (ls' := [(0, _), (1, _), (2, _), (3, _), (4, _), (5, _), (6, _), (7, _)]) rfl rfl ?_
                refine q_goto hC dX3_noteMethods_124 (n := 3) (by decide) ?_
                refine q_locp [0, 1, 2, 3, 4] (ls' := [(0, _), (1, _), (2, _), (3, _), (4, _)]) rfl ?_
                first
                  | exact ih (m + 1) _ (by omega) hU
                  | exact ih (m + 1) _ (by omega) (z_nt_20 hU hr6 hm)
      refine q_iload hC 4 dX3_noteMethods_3 rfl rfl ?_
      refine q_bipush hC dX3_noteMethods_5 (v := 6) (by decide) rfl ?_
      refine q_icmp_ge hC dX3_noteMethods_7 (t := 127) (n := 10) (by decide) rfl (fun h7 => absurd h7 (nI_ge hm (by decide))) (fun h7 => ?_)
      refine q_iload_n hC 2 dX3_noteMethods_10 rfl rfl ?_
      refine q_bipush hC dX3_noteMethods_11 (v := 6) (by decide) rfl ?_
      refine q_imul hC dX3_noteMethods_13 rfl ?_
      refine q_iload hC 4 dX3_noteMethods_14 rfl rfl ?_
      refine q_iadd hC dX3_noteMethods_16 rfl ?_
      refine q_istore hC dX3_noteMethods_17 (by decide) (ls' := [(0, _), (1, _), (2, _), (3, _), (4, _), (5, _)]) rfl rfl ?_
      refine q_aload_n hC 1 dX3_noteMethods_19 rfl rfl ?_
      refine q_get_f hC f_X3_97 dX3_noteMethods_20 rfl rfl hi rfl ?_
      refine q_iload_n hC 3 dX3_noteMethods_23 rfl rfl ?_
      refine q_bipush hC dX3_noteMethods_24 (v := 6) (by decide) rfl ?_
      refine q_imul hC dX3_noteMethods_26 rfl ?_
      refine q_iload hC 4 dX3_noteMethods_27 rfl rfl ?_
      refine q_iadd hC dX3_noteMethods_29 rfl ?_
      refine q_cald hC dX3_noteMethods_30 rfl hi (z_in30 (z_ltn ha) (z_ltn hm)) rfl ?_
      refine q_istore hC dX3_noteMethods_31 (by decide) (ls' := [(0, _), (1, _), (2, _), (3, _), (4, _), (5, _), (6, _)]) rfl rfl ?_
      refine q_aload_n hC 0 dX3_noteMethods_33 rfl rfl ?_
      refine q_get_f hC f_X3_15 dX3_noteMethods_34 rfl rfl hi rfl ?_
      refine q_iload hC 5 dX3_noteMethods_37 rfl rfl ?_
      refine q_iald hC dX3_noteMethods_39 rfl hi (z_in36 (z_ltn hr6) (z_ltn hm)) rfl ?_
      refine q_iconst hC dX3_noteMethods_40 (v := (-1)) (by decide) rfl ?_
      refine q_icmp_ne hC dX3_noteMethods_41 (t := 59) (n := 44) (by decide) rfl (fun h41_1 => ?_) (fun h41_1 => ?_)
      · first
          | exact J59 _ _ hI
          | exact J59 _ _ (z_nt_19 hI hr6 hm (by rw [← eA, ← e10]; assumption))
      · refine q_iload hC 6 dX3_noteMethods_44 rfl rfl ?_
        refine q_bipush hC dX3_noteMethods_46 (v := 45) (by decide) rfl ?_
        refine q_icmp_eq hC dX3_noteMethods_48 (t := 59) (n := 51) (by decide) rfl (fun h48_2 => ?_) (fun h48_2 => ?_)
        · first
            | exact J59 _ _ hI
            | exact J59 _ _ (z_nt_19 hI hr6 hm (by rw [← eA, ← e10]; assumption))
        · refine q_aload_n hC 0 dX3_noteMethods_51 rfl rfl ?_
          refine q_get_f hC f_X3_15 dX3_noteMethods_52 rfl rfl hi rfl ?_
          refine q_iload hC 5 dX3_noteMethods_55 rfl rfl ?_
          refine q_iload_n hC 3 dX3_noteMethods_57 rfl rfl ?_
          refine q_iast hC dX3_noteMethods_58 (fun _ => rfl) hi (z_in36 (z_ltn hr6) (z_ltn hm)) rfl ?_
          first
            | exact J59 _ _ hI
            | exact J59 _ _ (z_nt_19 hI hr6 hm (by rw [← eA, ← e10]; assumption))
  show qV Γ _ _ 0 [(0, .ref (q_ad Γ 17 i)), (1, .ref (q_ad Γ 9 i)), (2, .int (nI r)), (3, .int (nI a))] [] S (0, 0)
  refine q_iconst hC dX3_noteMethods_0 (v := 0) (by decide) rfl ?_
  refine q_istore hC dX3_noteMethods_1 (by decide) (ls' := [(0, _), (1, _), (2, _), (3, _), (4, _)]) rfl rfl ?_
  exact L 6 0 S (by omega) z_nt.rf
