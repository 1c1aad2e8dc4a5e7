theorem z_seat_spec {i j : Nat} {S : qM} (hs : z_v5 (S 28 j 1)) :
    (∀ k' i', ¬ ((k' = 18 ∨ k' = 19 ∨ k' = 20 ∨ k' = 25) ∧ i' = i) → z_seat i j S k' i' = S k' i') ∧
    (∀ p, p ≠ 5 → z_seat i j S 18 i p = S 18 i p) ∧ z_seat i j S 18 i 5 = z_xab (S 18 i) (S 28 j 2) (S 28 j 1) ∧
    (∀ p, (p < 30 ∨ 36 ≤ p) → z_seat i j S 19 i p = S 19 i p ∧ z_seat i j S 20 i p = S 20 i p ∧ z_seat i j S 25 i p = S 25 i p) ∧
    (∀ q, q < 6 → z_seat i j S 19 i (30 + q) = z_xfi (S 19 i) (S 28 j 1) (S 28 j 3) q ∧ z_seat i j S 20 i (30 + q) = z_xfi (S 20 i) (S 28 j 1) (S 28 j 3) q ∧ z_seat i j S 25 i (30 + q) = z_inh (S 25 i) (S 28 j 2) (S 28 j 1) (nI q)) := by
  obtain ⟨S1, hS1⟩ : ∃ S1, S1 = q_up S 18 i (upd (S 18 i) (5 : Int32).toNatClampNeg (S 28 j 2)) := ⟨_, rfl⟩
  have a1 : ∀ k' i', ¬ (k' = 18 ∧ i' = i) → S1 k' i' = S k' i' := by
    intro k' i' h
    rw [hS1]
    simp only [q_up, if_neg h]
  have a2 : ∀ p, p ≠ 5 → S1 18 i p = S 18 i p := by
    intro p hp
    rw [hS1]
    simp only [q_up, and_self, if_true, upd, z_c5, if_neg hp]
  have a3 : S1 18 i 5 = S 28 j 2 := by
    rw [hS1]
    simp only [q_up, and_self, if_true, upd, z_c5]
  obtain ⟨b1, b2, b3⟩ := z_s1It_spec (i := i) (j := j) 5 0 S1 (by omega)
  obtain ⟨S2, hS2⟩ : ∃ S2, S2 = z_s1It i j 5 0 S1 := ⟨_, rfl⟩
  rw [← hS2] at b1 b2 b3
  obtain ⟨S3, hS3⟩ : ∃ S3, S3 = z_sup i j S2 := ⟨_, rfl⟩
  have e28 : S2 28 j = S 28 j := (b1 28 j (by omega)).trans (a1 28 j (by omega))
  have c1 : ∀ k' i', ¬ (k' = 18 ∧ i' = i) → S3 k' i' = S2 k' i' := by
    intro k' i' h
    rw [hS3]
    unfold z_sup
    split
    · rfl
    · simp only [q_up, if_neg h]
  have c2 : ∀ p, p ≠ 5 → S3 18 i p = S2 18 i p := by
    intro p hp
    rw [hS3]
    unfold z_sup
    split
    · rfl
    · simp only [q_up, and_self, if_true, upd, z_c5, if_neg hp]
  have cong : ∀ (A B : Nat → Int32) (itf : Int32), (∀ p, p ≠ 5 → A p = B p) → ∀ n m v, m + n ≤ 5 → z_xa1 A itf n m v = z_xa1 B itf n m v := by
    intro A B itf hAB n
    induction n with
    | zero => intros; rfl
    | succ n ih2 =>
      intro m v hmn
      unfold z_xa1
      rw [hAB m (by omega)]
      exact ih2 _ _ (by omega)
  have b4 : S2 18 i 5 = z_xa1 (S 18 i) (S 28 j 2) 5 0 (S 28 j 2) := by
    rw [b3, a3, show S1 28 j = S 28 j from a1 28 j (by omega)]
    exact cong _ _ _ a2 5 0 _ (by omega)
  have c3 : S3 18 i 5 = z_xab (S 18 i) (S 28 j 2) (S 28 j 1) := by
    rw [hS3]
    unfold z_sup z_xab
    rw [e28]
    split
    · rw [b4]
    · rename_i hne
      simp only [q_up, and_self, if_true, upd, z_c5]
      rw [b4]
      obtain ⟨t, ht, het⟩ := z_v5n hs hne
      rw [het, nI_clamp (by omega), b2 t (by omega), a2 t (by omega)]
  have e28' : S3 28 j = S 28 j := (c1 28 j (by omega)).trans e28
  obtain ⟨d1, d2, d3, d4⟩ := z_s2It_spec (i := i) (j := j) 6 0 S3 (by omega) (by rw [e28']; exact hs)
  have eS : z_seat i j S = z_s2It i j 6 0 S3 := by
    unfold z_seat
    rw [hS3, hS2, hS1]
  have f19 : S3 19 i = S 19 i := (c1 19 i (by omega)).trans ((b1 19 i (by omega)).trans (a1 19 i (by omega)))
  have f20 : S3 20 i = S 20 i := (c1 20 i (by omega)).trans ((b1 20 i (by omega)).trans (a1 20 i (by omega)))
  have f25 : S3 25 i = S 25 i := (c1 25 i (by omega)).trans ((b1 25 i (by omega)).trans (a1 25 i (by omega)))
  rw [eS]
  refine ⟨fun k' i' h => ?_, fun p hp => ?_, ?_, fun p hp => ?_, fun q hq => ?_⟩
  · rw [d1 k' i' (by omega), c1 k' i' (by omega), b1 k' i' (by omega), a1 k' i' (by omega)]
  · rw [d1 18 i (by omega), c2 p hp, b2 p hp, a2 p hp]
  · rw [d1 18 i (by omega), c3]
  · rcases hp with hp | hp
    · obtain ⟨x, y, z⟩ := d2 p (by omega)
      exact ⟨x.trans (by rw [f19]), y.trans (by rw [f20]), z.trans (by rw [f25])⟩
    · obtain ⟨x, y, z⟩ := d3 p (by omega)
      exact ⟨x.trans (by rw [f19]), y.trans (by rw [f20]), z.trans (by rw [f25])⟩
  · obtain ⟨x, y, z⟩ := d4 q (by omega) (by omega)
    rw [f19, e28'] at x
    rw [f20, e28'] at y
    rw [f25, e28'] at z
    exact ⟨x, y, z⟩
theorem z_near_congr {A B : Nat → Int32} {c : Int32} (h : ∀ p, p < 5 → A p = B p) : z_near A c = z_near B c := by
  have h0 := h 0 (by omega)
  have h1 := h 1 (by omega)
  have h2 := h 2 (by omega)
  have h3 := h 3 (by omega)
  have h4 := h 4 (by omega)
  unfold z_near z_nst
  rw [show (0 : Int32).toNatClampNeg = 0 by decide, show (1 : Int32).toNatClampNeg = 1 by decide, show (2 : Int32).toNatClampNeg = 2 by decide, show (3 : Int32).toNatClampNeg = 3 by decide, show (4 : Int32).toNatClampNeg = 4 by decide, h0, h1, h2, h3, h4]
/-! X's rows, out of a machine's own cells and what X holds -/
def z_XN (S : qM) (i : Nat) (sup itf : Int32) (q : Nat) : Int32 := z_near (S 18 i) (S 21 i q &&& z_xab (S 18 i) itf sup)
def z_XR (S : qM) (i : Nat) (sup itf mem : Int32) (q : Nat) : Int32 := if z_xfi (S 19 i) sup mem q = -1 then z_lowest (if z_bc (z_XN S i sup itf q &&& S 22 i q) = 1 then z_XN S i sup itf q &&& S 22 i q else z_XN S i sup itf q) else z_xfi (S 19 i) sup mem q
def z_XL (S : qM) (i : Nat) (sup itf mem : Int32) (q : Nat) : Int32 := if z_xfi (S 20 i) sup mem q = -1 then (if z_bc (z_XN S i sup itf q &&& S 22 i q) = 1 then z_lowest (z_XN S i sup itf q &&& S 22 i q) else if z_bc (z_XN S i sup itf q &&& S 22 i q) = 0 then -65 else -73)
  else if z_xfi (S 20 i) sup mem q = 5 then z_xfi (S 20 i) sup mem q else if S 11 i (z_xfi (S 20 i) sup mem q * 6 + nI q).toNatClampNeg = 97 then -65 else z_xfi (S 20 i) sup mem q
theorem z_ld2_o {i j : Nat} {S : qM} : (∀ k' i', ¬ (k' = 0 ∧ i' = i) → z_ld2 i j S k' i' = S k' i') ∧ (∀ p, p ≠ 4 → p ≠ 5 → z_ld2 i j S 0 i p = S 0 i p) ∧ z_ld2 i j S 0 i 4 = S 28 j 0 ∧ z_ld2 i j S 0 i 5 = S 28 j 1 := by
  refine ⟨fun k' i' h => ?_, fun p h4 h5 => ?_, ?_, ?_⟩
  · unfold z_ld2
    simp only [q_up, if_neg h]
  · unfold z_ld2
    simp only [q_up, upd, and_self, if_true, if_neg h4, if_neg h5]
  · unfold z_ld2
    simp (config := {decide := true}) only [q_up, upd, and_self, if_true, if_false]
  · unfold z_ld2
    simp (config := {decide := true}) only [q_up, upd, and_self, if_true, if_false, false_and]
/-- the cells behind a loading that has no fault -/
theorem z_load_ok {i j : Nat} {S : qM} (hs : z_v5 (S 28 j 1)) (ht : ¬ S 28 j 0 = 0) (hF : z_loadF i j S = 45) :
    (∀ k' i', ¬ ((k' = 0 ∨ k' = 18 ∨ k' = 19 ∨ k' = 20 ∨ k' = 23 ∨ k' = 24 ∨ k' = 25) ∧ i' = i) → z_loadS i j S k' i' = S k' i') ∧
    (∀ p, p ≠ 4 → p ≠ 5 → z_loadS i j S 0 i p = S 0 i p) ∧ z_loadS i j S 0 i 4 = S 28 j 0 ∧ z_loadS i j S 0 i 5 = S 28 j 1 ∧
    (∀ p, p ≠ 5 → z_loadS i j S 18 i p = S 18 i p) ∧ z_loadS i j S 18 i 5 = z_xab (S 18 i) (S 28 j 2) (S 28 j 1) ∧
    (∀ k', (k' = 19 ∨ k' = 20 ∨ k' = 23 ∨ k' = 24 ∨ k' = 25) → ∀ p, (p < 30 ∨ 36 ≤ p) → z_loadS i j S k' i p = S k' i p) ∧
    (∀ q, q < 6 → z_loadS i j S 19 i (30 + q) = z_xfi (S 19 i) (S 28 j 1) (S 28 j 3) q ∧ z_loadS i j S 20 i (30 + q) = z_xfi (S 20 i) (S 28 j 1) (S 28 j 3) q ∧ z_loadS i j S 25 i (30 + q) = z_inh (S 25 i) (S 28 j 2) (S 28 j 1) (nI q) ∧
      z_loadS i j S 23 i (30 + q) = z_XR S i (S 28 j 1) (S 28 j 2) (S 28 j 3) q ∧ z_loadS i j S 24 i (30 + q) = z_XL S i (S 28 j 1) (S 28 j 2) (S 28 j 3) q) := by
  obtain ⟨a1, a2, a3, a4⟩ := z_ld2_o (i := i) (j := j) (S := S)
  obtain ⟨T, hT⟩ : ∃ T, T = z_ld2 i j S := ⟨_, rfl⟩
  rw [← hT] at a1 a2 a3 a4
  have e28 : T 28 j = S 28 j := a1 28 j (by omega)
  have eL : z_loadS i j S = z_dcIt i 5 6 0 (z_seat i j T) := by
    unfold z_loadS
    rw [← hT, if_neg (by rw [e28]; exact ht)]
    unfold z_ldC
    rw [if_pos hF]
  obtain ⟨b1, b2, b3, b4, b5⟩ := z_seat_spec (i := i) (j := j) (S := T) (by rw [e28]; exact hs)
  obtain ⟨U, hU⟩ : ∃ U, U = z_seat i j T := ⟨_, rfl⟩
  rw [← hU] at b1 b2 b3 b4 b5
  obtain ⟨c1, c2, c3⟩ := z_dcIt_spec (i := i) (t := 5) (by omega) 6 0 U (by omega)
  rw [show nI 5 = (5 : Int32) from rfl] at c1 c2 c3
  rw [eL, ← hU]
  have t : ∀ k', ¬ k' = 0 → T k' i = S k' i := fun k' h => a1 k' i (by omega)
  have hN : ∀ q, z_rnear U i 5 q = z_XN S i (S 28 j 1) (S 28 j 2) q := by
    intro q
    unfold z_rnear z_XN
    rw [z_c5, b3, e28, t 18 (by omega), show U 21 i = S 21 i from (b1 21 i (by omega)).trans (t 21 (by omega))]
    exact z_near_congr fun p hp => (b2 p (by omega)).trans (by rw [t 18 (by omega)])
  refine ⟨fun k' i' h => ?_, fun p h4 h5 => ?_, ?_, ?_, fun p hp => ?_, ?_, fun k' hk p hp => ?_, fun q hq => ?_⟩
  · rw [c1 k' i' (by omega), b1 k' i' (by omega), a1 k' i' (by omega)]
  · rw [c1 0 i (by omega), b1 0 i (by omega), a2 p h4 h5]
  · rw [c1 0 i (by omega), b1 0 i (by omega), a3]
  · rw [c1 0 i (by omega), b1 0 i (by omega), a4]
  · rw [c1 18 i (by omega), b2 p hp, t 18 (by omega)]
  · rw [c1 18 i (by omega), b3, t 18 (by omega), e28]
  · rcases hk with rfl | rfl | rfl | rfl | rfl
    · rw [c1 19 i (by omega), (b4 p hp).1, t 19 (by omega)]
    · rw [c1 20 i (by omega), (b4 p hp).2.1, t 20 (by omega)]
    · rw [(c2 p (by omega)).1, b1 23 i (by omega), t 23 (by omega)]
    · rw [(c2 p (by omega)).2, b1 24 i (by omega), t 24 (by omega)]
    · rw [c1 25 i (by omega), (b4 p hp).2.2, t 25 (by omega)]
  · obtain ⟨x, y, z⟩ := b5 q hq
    rw [e28, t 19 (by omega)] at x
    rw [e28, t 20 (by omega)] at y
    rw [e28, t 25 (by omega)] at z
    have g := c3 q (by omega) (by omega)
    rw [show 5 * 6 + q = 30 + q by omega] at g
    refine ⟨by rw [c1 19 i (by omega), x], by rw [c1 20 i (by omega), y], by rw [c1 25 i (by omega), z], ?_, ?_⟩
    · rw [g.1]
      unfold z_rres z_XR
      rw [hN, z_56 hq, x, show U 22 i = S 22 i from (b1 22 i (by omega)).trans (t 22 (by omega))]
    · rw [g.2]
      unfold z_rsel z_XL
      rw [hN, z_56 hq, y, show U 22 i = S 22 i from (b1 22 i (by omega)).trans (t 22 (by omega)), show U 11 i = S 11 i from (b1 11 i (by omega)).trans (t 11 (by omega))]
/-- the cells behind a loading without X, or one that has a fault -/
theorem z_load_no {i j : Nat} {S : qM} (h : S 28 j 0 = 0 ∨ ¬ z_loadF i j S = 45) : z_loadS i j S = z_ld2 i j S := by
  have e28 : z_ld2 i j S 28 j = S 28 j := z_ld2_o.1 28 j (by omega)
  unfold z_loadS
  rw [e28]
  split
  · rfl
  · rename_i h2
    unfold z_ldC
    rw [if_neg (h.elim (fun z => absurd z h2) id)]
/-! ranges -/
theorem z_lowest_r (m : Int32) : z_v5 (z_lowest m) := by
  unfold z_lowest
  repeat' split
  · exact Or.inl rfl
  · exact Or.inr ⟨0, by decide, rfl⟩
  · exact Or.inr ⟨1, by decide, rfl⟩
  · exact Or.inr ⟨2, by decide, rfl⟩
  · exact Or.inr ⟨3, by decide, rfl⟩
  · exact Or.inr ⟨4, by decide, rfl⟩
  · exact Or.inl rfl
theorem z_v56 {x : Int32} (h : z_v5 x) : z_v6 x := h.elim Or.inl (fun z => Or.inr (z_ltw z (by decide)))
theorem z_inh_r {f : Nat → Int32} {itf sup : Int32} {m : Nat} (hm : m < 6) (hs : z_v5 sup) (h : ∀ p, p < 30 → z_v5 (f p)) : z_v5 (z_inh f itf sup (nI m)) := by
  have hp : ∀ t, t < 5 → z_v5 (f (z_pl (nI t) (nI m))) := by
    intro t ht
    refine h _ ?_
    have := z_t6 (t := t) (m := m) (by omega) hm
    show (nI t * 6 + nI m).toNatClampNeg < 30
    omega
  have st : ∀ t, t < 5 → ∀ r, z_v5 r → z_v5 (z_inhS f itf (nI m) (nI t) r) := by
    intro t ht r hr
    unfold z_inhS
    split
    · split
      · exact hr
      · exact hp t ht
    · exact hr
  have hF : z_v5 (z_inhF f sup (nI m)) := by
    unfold z_inhF
    split
    · exact Or.inl rfl
    · rename_i h1
      obtain ⟨t, ht, rfl⟩ := z_v5n hs h1
      exact hp t ht
  exact st 0 (by omega) _ (st 1 (by omega) _ (st 2 (by omega) _ (st 3 (by omega) _ (st 4 (by omega) _ hF))))
theorem z_xfi_r {f : Nat → Int32} {sup mem : Int32} {m : Nat} (hm : m < 6) (hs : z_v5 sup) (h : ∀ p, p < 30 → z_v5 (f p)) : z_v6 (z_xfi f sup mem m) := by
  unfold z_xfi
  split
  · exact Or.inr z_5
  · split
    · exact Or.inl rfl
    · rename_i h1
      obtain ⟨t, ht, rfl⟩ := z_v5n hs h1
      rw [z_t6 (by omega) hm]
      exact z_v56 (h _ (by omega))
/-- a machine whose tables are in their ranges -/
def z_wf (S : qM) (i : Nat) : Prop := z_sups S i ∧ (∀ p, p < 30 → z_v5 (S 19 i p)) ∧ (∀ p, p < 30 → z_v5 (S 20 i p)) ∧ (∀ p, p < 30 → z_v5 (S 23 i p)) ∧ (∀ p, p < 30 → S 24 i p < 0 ∨ z_lt (S 24 i p) 5) ∧ z_tabs S i ∧ z_v5 (S 0 i 5)
theorem z_wf_s20 {S : qM} {i : Nat} (h : z_wf S i) : ∀ p, p < 30 → z_v6 (S 20 i p) := fun p hp => z_v56 (h.2.2.1 p hp)
theorem z_36 {P : Nat → Prop} (h1 : ∀ p, p < 30 → P p) (h2 : ∀ q, q < 6 → P (30 + q)) : ∀ p, p < 36 → P p := by
  intro p hp
  rcases Nat.lt_or_ge p 30 with h | h
  · exact h1 p h
  · have := h2 (p - 30) (by omega)
    rwa [show 30 + (p - 30) = p by omega] at this
theorem z_load_wf {S : qM} {i j : Nat} (hw : z_wf S i) (hO : z_own S j) : z_wf (z_loadS i j S) i := by
  obtain ⟨w1, w2, w3, w4, w5, w6, w7⟩ := hw
  by_cases hc : S 28 j 0 = 0 ∨ ¬ z_loadF i j S = 45
  · rw [z_load_no hc]
    obtain ⟨a1, a2, a3, a4⟩ := z_ld2_o (i := i) (j := j) (S := S)
    unfold z_wf z_sups z_tabs
    rw [a1 7 i (by omega), a1 19 i (by omega), a1 20 i (by omega), a1 23 i (by omega), a1 24 i (by omega), a1 25 i (by omega), a4]
    exact ⟨w1, w2, w3, w4, w5, w6, hO.2.1⟩
  · have hF : z_loadF i j S = 45 := Decidable.not_not.mp fun h => hc (Or.inr h)
    obtain ⟨c1, c2, c3, c4, c5, c6, c7, c8⟩ := z_load_ok hO.2.1 (fun h => hc (Or.inl h)) hF
    refine ⟨?_, fun p hp => ?_, fun p hp => ?_, fun p hp => ?_, fun p hp => ?_, ⟨?_, ?_, ?_⟩, ?_⟩
    · unfold z_sups
      rw [c1 7 i (by omega)]
      exact w1
    · rw [c7 19 (by omega) p (by omega)]; exact w2 p hp
    · rw [c7 20 (by omega) p (by omega)]; exact w3 p hp
    · rw [c7 23 (by omega) p (by omega)]; exact w4 p hp
    · rw [c7 24 (by omega) p (by omega)]; exact w5 p hp
    · refine z_36 (fun p hp => by rw [c7 23 (by omega) p (by omega)]; exact w6.1 p (by omega)) (fun q hq => ?_)
      rw [(c8 q hq).2.2.2.1]
      unfold z_XR
      split
      · exact z_v56 (z_lowest_r _)
      · exact z_xfi_r hq hO.2.1 w2
    · refine z_36 (fun p hp => by rw [c7 24 (by omega) p (by omega)]; exact w6.2.1 p (by omega)) (fun q hq => ?_)
      rw [(c8 q hq).2.2.2.2]
      have low : ∀ m, z_sel (z_lowest m) := fun m => (z_lowest_r m).elim (fun h => Or.inl (by rw [h]; decide)) (fun h => Or.inr (z_ltw h (by decide)))
      unfold z_XL
      split
      · split
        · exact low _
        · split
          · exact Or.inl (by decide)
          · exact Or.inl (by decide)
      · rename_i h1
        have h6 := z_v6n (z_xfi_r hq hO.2.1 w3) h1
        split
        · exact Or.inr h6
        · split
          · exact Or.inl (by decide)
          · exact Or.inr h6
    · refine z_36 (fun p hp => by rw [c7 25 (by omega) p (by omega)]; exact w6.2.2 p (by omega)) (fun q hq => ?_)
      rw [(c8 q hq).2.2.1]
      exact z_inh_r hq hO.2.1 (fun p hp => w6.2.2 p (by omega))
    · rw [c4]; exact hO.2.1
/-- what a loading leaves alone -/
theorem z_load_fr {i j : Nat} {S : qM} (hs : z_v5 (S 28 j 1)) : ∀ k' i', ¬ ((k' = 0 ∨ k' = 18 ∨ k' = 19 ∨ k' = 20 ∨ k' = 23 ∨ k' = 24 ∨ k' = 25) ∧ i' = i) → z_loadS i j S k' i' = S k' i' := by
  intro k' i' h
  by_cases hc : S 28 j 0 = 0 ∨ ¬ z_loadF i j S = 45
  · rw [z_load_no hc]
    exact z_ld2_o.1 k' i' (by omega)
  · exact (z_load_ok hs (fun h => hc (Or.inl h)) (Decidable.not_not.mp fun h => hc (Or.inr h))).1 k' i' h
theorem z_loadF_r {i j : Nat} {S : qM} : z_loadF i j S = 45 ∨ z_loadF i j S = 67 ∨ z_loadF i j S = 73 ∨ z_loadF i j S = 76 ∨ z_loadF i j S = 86 := by
  have af : ∀ T a b, z_af T i a b = 45 ∨ z_af T i a b = 67 ∨ z_af T i a b = 73 ∨ z_af T i a b = 76 := by
    intro T a b
    unfold z_af
    repeat' split
    all_goals simp
  have lf : ∀ T itf n m f, (f = 45 ∨ f = 67 ∨ f = 73 ∨ f = (76 : Int32)) → (z_lf T i itf n m f = 45 ∨ z_lf T i itf n m f = 67 ∨ z_lf T i itf n m f = 73 ∨ z_lf T i itf n m f = 76) := by
    intro T itf n
    induction n with
    | zero => intro m f h; exact h
    | succ n ih =>
      intro m f h
      unfold z_lf
      split
      · refine ih _ _ ?_
        unfold z_lfS
        split
        · exact Or.inl rfl
        · exact af _ _ _
      · exact h
  unfold z_loadF
  split
  · exact Or.inl rfl
  · have hA : z_ldA i j (z_ld2 i j S) = 45 ∨ z_ldA i j (z_ld2 i j S) = 67 ∨ z_ldA i j (z_ld2 i j S) = 73 ∨ z_ldA i j (z_ld2 i j S) = 76 := by
      unfold z_ldA
      refine lf _ _ _ _ _ ?_
      split
      · exact Or.inl rfl
      · exact af _ _ _
    unfold z_ldB
    repeat' split
    all_goals first | (rcases hA with h | h | h | h <;> simp [h]; done) | simp
theorem z_loadF_nar {i j : Nat} {S : qM} : narrow .char (.int (z_loadF i j S)) = .int (z_loadF i j S) ∧ fits .char (.int (z_loadF i j S)) = true := by
  rcases z_loadF_r (i := i) (j := j) (S := S) with h | h | h | h | h <;> rw [h] <;> exact ⟨rfl, rfl⟩
