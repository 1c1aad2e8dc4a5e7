/-! ===== A LIBRARY'S OWN RANGES, and what they make of the tables ===== -/
def z_sg4 (x : Int32) : Prop := x = 112 ∨ x = 111 ∨ x = 107 ∨ x = 118
def z_mk4 (x : Int32) : Prop := x = 110 ∨ x = 115 ∨ x = 97 ∨ x = 102
def z_fk4 (x : Int32) : Prop := x = 110 ∨ x = 115 ∨ x = 102 ∨ x = 70
def z_rK (S : qM) (i : Nat) : Prop := ∀ t, t < 5 → S 2 i t = 45 ∨ S 2 i t = 99 ∨ S 2 i t = 105
def z_rB (S : qM) (i : Nat) : Prop := ∀ t, t < 5 → z_bool (S 3 i t) ∧ z_bool (S 4 i t) ∧ z_bool (S 5 i t)
def z_rP (S : qM) (i : Nat) : Prop := ∀ t, t < 5 → S 6 i t = 0 ∨ z_sg4 (S 6 i t)
def z_rI (S : qM) (i : Nat) : Prop := ∀ t, t < 5 → z_m5 (S 8 i t)
def z_rM (S : qM) (i : Nat) : Prop := ∀ p, p < 30 → (S 10 i p = 45 ∧ S 11 i p = 45) ∨ (z_sg4 (S 10 i p) ∧ z_mk4 (S 11 i p))
def z_rF (S : qM) (i : Nat) : Prop := ∀ p, p < 30 → (S 14 i p = 45 ∧ S 15 i p = 45) ∨ (z_sg4 (S 14 i p) ∧ z_fk4 (S 15 i p))
def z_rN (S : qM) (i : Nat) : Prop := ∀ p, p < 30 → ¬ S 12 i p < 0 ∧ ¬ S 16 i p < 0
def z_raw (S : qM) (i : Nat) : Prop := z_rK S i ∧ z_rB S i ∧ z_rP S i ∧ z_sups S i ∧ z_rI S i ∧ z_rM S i ∧ z_rF S i ∧ z_rN S i
theorem z_raw_congr {S T : qM} {i : Nat} (h : ∀ k, 1 < k → k < 17 → T k i = S k i) (hr : z_raw S i) : z_raw T i := by
  unfold z_raw z_rK z_rB z_rP z_sups z_rI z_rM z_rF z_rN at *
  rw [h 2 (by omega) (by omega), h 3 (by omega) (by omega), h 4 (by omega) (by omega), h 5 (by omega) (by omega), h 6 (by omega) (by omega), h 7 (by omega) (by omega), h 8 (by omega) (by omega), h 10 (by omega) (by omega), h 11 (by omega) (by omega), h 14 (by omega) (by omega), h 15 (by omega) (by omega), h 12 (by omega) (by omega), h 16 (by omega) (by omega)]
  exact hr
theorem z_wf_congr {S T : qM} {i : Nat} (h : ∀ k, 0 < k → k < 27 → T k i = S k i) (h5 : T 0 i 5 = S 0 i 5) (hw : z_wf S i) : z_wf T i := by
  unfold z_wf z_sups z_tabs at *
  rw [h 7 (by omega) (by omega), h 19 (by omega) (by omega), h 20 (by omega) (by omega), h 23 (by omega) (by omega), h 24 (by omega) (by omega), h 25 (by omega) (by omega), h5]
  exact hw
theorem z_tb_congr {S T : qM} {i : Nat} (h : ∀ k, 0 < k → k < 27 → T k i = S k i) (h5 : T 0 i 5 = S 0 i 5) (hw : z_tb S i) : z_tb T i := by
  refine ⟨z_wf_congr h h5 hw.1, ?_, ?_, ?_, ?_⟩
  · have := hw.2.1
    unfold z_use at *
    rw [h 10 (by omega) (by omega), h 11 (by omega) (by omega), h 14 (by omega) (by omega), h 15 (by omega) (by omega), h 26 (by omega) (by omega)]
    exact this
  · have := hw.2.2.1
    unfold z_kno at *
    rw [h 10 (by omega) (by omega), h 17 (by omega) (by omega), h 23 (by omega) (by omega)]
    exact this
  · have := hw.2.2.2.1
    unfold z_ext z_af at *
    rw [h 2 (by omega) (by omega), h 3 (by omega) (by omega), h 5 (by omega) (by omega), h 17 (by omega) (by omega)]
    exact this
  · have := hw.2.2.2.2
    unfold z_abo at *
    rw [h 18 (by omega) (by omega)]
    exact this
theorem z_pq {P : Nat → Prop} (h : ∀ r, r < 5 → ∀ q, q < 6 → P (r * 6 + q)) : ∀ p, p < 30 → P p := by
  intro p hp
  have := h (p / 6) (by omega) (p % 6) (by omega)
  rwa [show p / 6 * 6 + p % 6 = p by omega] at this
/-- the cells that derive leaves alone -/
theorem z_dv_fr {S X : qM} {i : Nat} (h : z_dv S X i) : ∀ k' i', ¬ ((17 ≤ k' ∧ k' < 25) ∧ i' = i) → X k' i' = S k' i' := by
  obtain ⟨A, B, C, hA, hB, hC, hX⟩ := h
  intro k' i' hk
  rw [hX.1 k' i' (by omega), hC.1 k' i' (by omega), hB.1 k' i' (by omega), hA.1 k' i' (by omega)]
theorem z_lt5s {x : Int32} (h : z_v5 x) : z_sel x := by
  rcases h with h | ⟨j, hj, h⟩
  · exact Or.inl (by rw [h]; decide)
  · exact Or.inr ⟨j, by omega, h⟩
theorem z_rw_r {C T : qM} {i r q : Nat} (h : z_rw C T i r) (hq : q < 6) : z_v5 (T 19 i (r * 6 + q)) ∧ z_v5 (T 20 i (r * 6 + q)) ∧ z_v5 (T 23 i (r * 6 + q)) ∧ (T 24 i (r * 6 + q) < 0 ∨ z_lt (T 24 i (r * 6 + q)) 5) := by
  obtain ⟨h1, h2, h3, h4⟩ := h q hq
  refine ⟨h1.elim Or.inl (fun ⟨a, ha, e, _⟩ => Or.inr ⟨a, ha, e⟩), h2, h3.elim Or.inl (fun z => Or.inr z.1), ?_⟩
  rcases h4 with h | h | h | h
  · exact Or.inl (by rw [h]; decide)
  · exact Or.inl (by rw [h]; decide)
  · exact Or.inl (by rw [h]; decide)
  · exact Or.inr h
/-- what may be selected by the types of a library -/
def z_n24 (S : qM) (i : Nat) : Prop := ∀ p, p < 30 → S 24 i p = -65 ∨ S 24 i p = -73 ∨ z_v5 (S 24 i p)
theorem z_dv_24 {S X : qM} {i : Nat} (h : z_dv S X i) : z_n24 X i := by
  obtain ⟨A, B, C, hA, hB, hC, hX⟩ := h
  exact z_pq fun r hr q hq => (hX.2.2.1 r hr q hq).2.2.2
def z_s36 (S : qM) (i : Nat) : Prop := ∀ p, p < 36 → z_v6 (S 20 i p)
theorem z_dv_wf {S X : qM} {i : Nat} (hw : z_wf S i) (h : z_dv S X i) : z_wf X i ∧ z_s36 X i := by
  have fr := z_dv_fr h
  obtain ⟨A, B, C, hA, hB, hC, hX⟩ := h
  obtain ⟨w1, w2, w3, w4, w5, ⟨w6, w7, w8⟩, w9⟩ := hw
  obtain ⟨x1, x2, x3, x4⟩ := hX
  have c23 : ∀ k, k = 23 ∨ k = 24 → C k i = S k i := fun k hk => by
    rw [hC.1 k i (by omega), hB.1 k i (by omega), hA.1 k i (by omega)]
  refine ⟨⟨?_, z_pq fun r hr q hq => (z_rw_r (x3 r hr) hq).1, z_pq fun r hr q hq => (z_rw_r (x3 r hr) hq).2.1, z_pq fun r hr q hq => (z_rw_r (x3 r hr) hq).2.2.1, z_pq fun r hr q hq => (z_rw_r (x3 r hr) hq).2.2.2, ⟨fun p hp => ?_, fun p hp => ?_, ?_⟩, ?_⟩, x2⟩
  · intro t ht; rw [fr 7 i (by omega)]; exact w1 t ht
  · by_cases e : p < 30
    · exact z_v56 (z_pq (P := fun p => z_v5 (X 23 i p)) (fun r hr q hq => (z_rw_r (x3 r hr) hq).2.2.1) p e)
    · rw [(x4 p (by omega)).1, c23 23 (Or.inl rfl)]; exact w6 p hp
  · by_cases e : p < 30
    · exact (z_pq (P := fun p => X 24 i p < 0 ∨ z_lt (X 24 i p) 5) (fun r hr q hq => (z_rw_r (x3 r hr) hq).2.2.2) p e).elim Or.inl (fun ⟨j, hj, z⟩ => Or.inr ⟨j, by omega, z⟩)
    · rw [(x4 p (by omega)).2, c23 24 (Or.inr rfl)]; exact w7 p hp
  · rw [fr 25 i (by omega)]; exact w8
  · rw [fr 0 i (by omega)]; exact w9
theorem z_dl_fr {S X : qM} {i : Nat} (h : z_dl S X i) : ∀ k' i', ¬ ((k' = 17 ∨ k' = 25 ∨ k' = 26) ∧ i' = i) → X k' i' = S k' i' := by
  obtain ⟨U, W, hU, hW, V, hV, rfl⟩ := h
  intro k' i' hk
  simp only [q_up]
  rw [if_neg (by omega), if_neg (by omega), hV.1 k' i' (by omega), hW.1 k' i' (by omega), hU.1 k' i' (by omega)]
/-- the rows of the usable members, and the known ones -/
theorem z_dl_use {S X : qM} {i : Nat} (h : z_dl S X i) : (∀ k p, k < 9 → p < 30 → z_uc S i p k → ¬ z_has (z_uk X i k) (nI (p % 6)) = 0) ∧ X 26 i 3 = X 26 i 2 ∧ X 26 i 4 = X 26 i 2 ∧ z_m6 (X 17 i 10) ∧
    (z_m5 (X 17 i 12) ∧ ∀ p, p < 5 → (z_xe S i p → ¬ z_has (X 17 i 11) (nI p) = 0) ∧ (z_xi S i p → ¬ z_has (X 17 i 12) (nI p) = 0)) ∧ (∀ p, p < 36 → z_v5 (X 25 i p)) := by
  obtain ⟨U, W, hU, hW, V, hV, rfl⟩ := h
  have fS : ∀ k, k = 10 ∨ k = 11 ∨ k = 14 ∨ k = 15 → W k i = S k i := fun k hk => by rw [hW.1 k i (by omega), hU.1 k i (by omega)]
  have uS : ∀ p k, z_uc S i p k → z_uc W i p k := by
    intro p k hu
    unfold z_uc at *
    rw [fS 10 (by omega), fS 11 (by omega), fS 14 (by omega), fS 15 (by omega)]
    exact hu
  have e26 : ∀ k, ¬ k = 3 → ¬ k = 4 → q_up (q_up V 26 i (upd (V 26 i) 3 (V 26 i 2))) 26 i (upd (q_up V 26 i (upd (V 26 i) 3 (V 26 i 2)) 26 i) 4 (q_up V 26 i (upd (V 26 i) 3 (V 26 i 2)) 26 i 2)) 26 i k = V 26 i k := by
    intro k h3 h4
    simp only [q_up, and_self, if_true, upd, if_neg h3, if_neg h4]
  have e17 : q_up (q_up V 26 i (upd (V 26 i) 3 (V 26 i 2))) 26 i (upd (q_up V 26 i (upd (V 26 i) 3 (V 26 i 2)) 26 i) 4 (q_up V 26 i (upd (V 26 i) 3 (V 26 i 2)) 26 i 2)) 17 i = V 17 i := by
    simp (config := {decide := true}) only [q_up, false_and, if_false]
  have e25 : q_up (q_up V 26 i (upd (V 26 i) 3 (V 26 i 2))) 26 i (upd (q_up V 26 i (upd (V 26 i) 3 (V 26 i 2)) 26 i) 4 (q_up V 26 i (upd (V 26 i) 3 (V 26 i 2)) 26 i 2)) 25 i = V 25 i := by
    simp (config := {decide := true}) only [q_up, false_and, if_false]
  obtain ⟨v1, v2, v3, v4⟩ := hV
  refine ⟨fun k p hk hp hu => ?_, ?_, ?_, ?_, ⟨?_, fun p hp => ?_⟩, ?_⟩
  · have h34 : ¬ k = 3 ∧ ¬ k = 4 := by
      refine ⟨fun e => ?_, fun e => ?_⟩
      · subst e; exact z_uc3 hu
      · subst e; exact z_uc4 hu
    have := v4 k hk p hp (uS p k hu) (Or.inl hp)
    unfold z_uk at *
    rw [e17, e26 k h34.1 h34.2]
    exact this
  · rw [e26 2 (by omega) (by omega)]
    simp (config := {decide := true}) only [q_up, and_self, if_true, upd, if_false]
  · rw [e26 2 (by omega) (by omega)]
    simp (config := {decide := true}) only [q_up, and_self, if_true, upd, if_false]
  · rw [e17]; exact v3 0 (by omega)
  · rw [e17, v2 12 (by omega)]; exact hW.2.2.2.1
  · have g : ∀ k, ¬ k = 25 → U k i = S k i := fun k hk => hU.1 k i (by omega)
    have a5 := hW.2.2.2.2 p hp
    unfold z_xe z_xi at *
    rw [g 17 (by omega), g 3 (by omega), g 5 (by omega)] at a5
    rw [e17, v2 11 (by omega), v2 12 (by omega)]
    exact a5
  · intro p hp
    rw [e25, v1 25 i (by omega), hW.1 25 i (by omega)]
    exact hU.2 p hp
theorem z_has5 {x : Int32} (h : z_m5 x) : z_has x 5 = 0 := by
  obtain ⟨w, hw, rfl⟩ := h
  have key : ∀ w, w < 32 → z_has (nI w) 5 = 0 := by decide +kernel
  exact key w hw
theorem z_1ne0 : ¬ (1 : Int32) = 0 := by decide
/-- derive, then deriveLawful: the tables are as the looker's completeness asks; D' is D but for a machine's own flags -/
theorem z_law_tb {S D D' X : qM} {i : Nat} (hr : z_raw S i) (hw : z_wf S i) (hD : z_dv S D i) (h' : ∀ k, 0 < k → k < 27 → D' k i = D k i) (h5 : D' 0 i 5 = D 0 i 5) (hX : z_dl D' X i) : z_tb X i ∧ z_s36 X i := by
  obtain ⟨dw, d36⟩ := z_dv_wf hw hD
  have fD := z_dv_fr hD
  have fX := z_dl_fr hX
  obtain ⟨u1, u2, u3, u4, ⟨u5, u6⟩, u7⟩ := z_dl_use hX
  have lib : ∀ k, 1 < k → k < 17 → X k i = S k i := fun k h1 h2 => by rw [fX k i (by omega), h' k (by omega) (by omega), fD k i (by omega)]
  have lib' : ∀ k, 1 < k → k < 17 → D' k i = S k i := fun k h1 h2 => by rw [h' k (by omega) (by omega), fD k i (by omega)]
  have tbl : ∀ k, 17 < k → k < 25 → X k i = D k i := fun k h1 h2 => by rw [fX k i (by omega), h' k (by omega) (by omega)]
  obtain ⟨r1, r2, r3, r4, r5, r6, r7, r8⟩ := hr
  obtain ⟨w1, w2, w3, w4, w5, ⟨w6, w7, w8⟩, w9⟩ := dw
  have ucD : ∀ p k, z_uc S i p k → z_uc D' i p k := by
    intro p k hu
    unfold z_uc at *
    rw [lib' 10 (by omega) (by omega), lib' 11 (by omega) (by omega), lib' 14 (by omega) (by omega), lib' 15 (by omega) (by omega)]
    exact hu
  have us : ∀ k r q, 1 ≤ k → k < 9 → r < 5 → q < 6 → z_uc S i (r * 6 + q) k → ¬ z_has (X 26 i k) (nI q) = 0 := by
    intro k r q h1 hk hr hq hu
    have := u1 k (r * 6 + q) hk (by omega) (ucD _ _ hu)
    rw [show (r * 6 + q) % 6 = q by omega] at this
    unfold z_uk at this
    rwa [if_neg (by omega)] at this
  refine ⟨⟨⟨?_, ?_, ?_, ?_, ?_, ⟨?_, ?_, u7⟩, ?_⟩, ?_, ?_, ?_, ?_⟩, ?_⟩
  · intro t ht; rw [lib 7 (by omega) (by omega)]; exact r4 t ht
  · rw [tbl 19 (by omega) (by omega)]; exact w2
  · rw [tbl 20 (by omega) (by omega)]; exact w3
  · rw [tbl 23 (by omega) (by omega)]; exact w4
  · rw [tbl 24 (by omega) (by omega)]; exact w5
  · rw [tbl 23 (by omega) (by omega)]; exact w6
  · rw [tbl 24 (by omega) (by omega)]; exact w7
  · rw [fX 0 i (by omega), h5]; exact w9
  · intro r q hr hq
    rw [lib 10 (by omega) (by omega), lib 11 (by omega) (by omega), lib 14 (by omega) (by omega), lib 15 (by omega) (by omega), u3, u2]
    have far : ∀ x : Int32, x = 112 ∨ x = 111 → ¬ z_far x = 0 := by
      intro x hx h0; exact z_far0 h0 hx
    refine ⟨fun hs => ?_, fun hs => ?_⟩
    · have hf := far _ hs
      have hk : z_mk4 (S 11 i (r * 6 + q)) := by
        rcases r6 (r * 6 + q) (by omega) with h | h
        · rw [h.1] at hs
          rcases hs with hs | hs
          · exact absurd hs (by decide)
          · exact absurd hs (by decide)
        · exact h.2
      refine ⟨?_, ?_⟩
      · intro e; rw [e] at hk
        rcases hk with h | h | h | h
        · exact absurd h (by decide)
        · exact absurd h (by decide)
        · exact absurd h (by decide)
        · exact absurd h (by decide)
      · by_cases e : S 11 i (r * 6 + q) = 115
        · rw [if_pos e]
          exact us 1 r q (by omega) (by omega) hr hq (Or.inr (Or.inl ⟨rfl, hf, e⟩))
        · rw [if_neg e]
          have h2 := us 2 r q (by omega) (by omega) hr hq (Or.inr (Or.inr (Or.inl ⟨rfl, hf, e⟩)))
          exact ⟨h2, h2, h2⟩
    · have hf := far _ hs
      have hk : z_fk4 (S 15 i (r * 6 + q)) := by
        rcases r7 (r * 6 + q) (by omega) with h | h
        · rw [h.1] at hs
          rcases hs with hs | hs
          · exact absurd hs (by decide)
          · exact absurd hs (by decide)
        · exact h.2
      have u5' := us 5 r q (by omega) (by omega) hr hq
      have u6' := us 6 r q (by omega) (by omega) hr hq
      have u7' := us 7 r q (by omega) (by omega) hr hq
      have u8' := us 8 r q (by omega) (by omega) hr hq
      rcases hk with h | h | h | h
      · exact Or.inr (Or.inr (Or.inl ⟨h, u7' (by simp [z_uc, hf, h]), u8' (by simp [z_uc, hf, h])⟩))
      · exact Or.inl ⟨h, u5' (by simp [z_uc, hf, h]), u6' (by simp [z_uc, hf, h])⟩
      · exact Or.inr (Or.inr (Or.inr ⟨h, u7' (by simp [z_uc, hf, h])⟩))
      · exact Or.inr (Or.inl ⟨h, u5' (by simp [z_uc, hf, h])⟩)
  · refine ⟨u4, fun r q hr hq hh => ?_⟩
    rw [lib 10 (by omega) (by omega), tbl 23 (by omega) (by omega)] at hh
    have kn : ∀ a, a < 5 → ¬ S 10 i (a * 6 + q) = 45 → ¬ z_has (X 17 i 10) (nI q) = 0 := by
      intro a ha h10
      have := u1 0 (a * 6 + q) (by omega) (by omega) (ucD _ _ (Or.inl ⟨rfl, h10⟩))
      rw [show (a * 6 + q) % 6 = q by omega] at this
      unfold z_uk at this
      rwa [if_pos rfl] at this
    rcases hh with h | h
    · exact kn r hr h
    · obtain ⟨A, B, C, hA, hB, hC, hR⟩ := hD
      have cl : ∀ k, k = 10 ∨ k = 11 → C k i = S k i := fun k hk => by
        rw [hC.1 k i (by omega), hB.1 k i (by omega), hA.1 k i (by omega)]
      obtain ⟨-, -, h3, -⟩ := hR.2.2.1 r hr q hq
      rcases h3 with h3 | ⟨-, a, ha, h3⟩
      · exact absurd h3 h
      · rw [cl 10 (Or.inl rfl), cl 11 (Or.inr rfl)] at h3
        refine kn a ha ?_
        rcases h3 with h3 | h3
        · exact h3
        · intro e
          rcases r6 (a * 6 + q) (by omega) with g | g
          · exact h3 g.2
          · rw [e] at g
            rcases g.1 with g | g | g | g
            · exact absurd g (by decide)
            · exact absurd g (by decide)
            · exact absurd g (by decide)
            · exact absurd g (by decide)
  · refine ⟨u5, fun t ht => ?_⟩
    obtain ⟨A, B, C, hA, hB, hC, hR⟩ := hD
    have e17 : D' 17 i = A 17 i := by
      rw [h' 17 (by omega) (by omega), hR.1 17 i (by omega), hC.1 17 i (by omega), hB.1 17 i (by omega)]
    have hT : z_has (D' 17 i 0) (nI t) = if z_fT S i t = true then 1 else 0 := by rw [e17, hA.2.2.1]; exact z_msk_has ht
    have hCl : z_has (D' 17 i 1) (nI t) = if z_fC S i t = true then 1 else 0 := by rw [e17, hA.2.2.2]; exact z_msk_has ht
    obtain ⟨x1, x2⟩ := u6 t ht
    unfold z_xe z_xi at *
    rw [hT, hCl, lib' 3 (by omega) (by omega)] at x1 x2
    rw [lib' 5 (by omega) (by omega)] at x1
    unfold z_af
    rw [lib 2 (by omega) (by omega), lib 3 (by omega) (by omega), lib 5 (by omega) (by omega), nI_clamp (by omega)]
    have n67 : ¬ (67 : Int32) = 45 := by decide
    have n76 : ¬ (76 : Int32) = 45 := by decide
    have n73 : ¬ (73 : Int32) = 45 := by decide
    have n10 : ¬ (1 : Int32) = 0 := by decide
    refine ⟨fun h => x1 ?_, fun h => x2 ?_⟩
    · rcases r1 t ht with k | k | k
      · rw [if_pos k] at h; exact absurd h n67
      · have n45 : ¬ S 2 i t = 45 := by rw [k]; decide
        have n105 : ¬ S 2 i t = 105 := by rw [k]; decide
        rw [if_neg n45, if_pos rfl, if_neg n105] at h
        have fT : z_fT S i t = true := by simp [z_fT, n45]
        have fC : z_fC S i t = true := by simp [z_fC, k]
        rw [if_pos fT, if_pos fC]
        by_cases e5 : S 5 i t = 0
        · rw [if_pos e5, if_pos rfl] at h
          by_cases e3 : S 3 i t = 0
          · rw [if_pos e3] at h; exact absurd h n76
          · exact ⟨n10, e3, n10, e5⟩
        · rw [if_neg e5, if_neg n10] at h; exact absurd h n73
      · have n45 : ¬ S 2 i t = 45 := by rw [k]; decide
        rw [if_neg n45, if_pos rfl, if_pos k, if_neg n10] at h; exact absurd h n73
    · rcases r1 t ht with k | k | k
      · rw [if_pos k] at h; exact absurd h n67
      · have n45 : ¬ S 2 i t = 45 := by rw [k]; decide
        rw [if_neg n45, if_neg n10, if_pos k, if_neg n10] at h; exact absurd h n73
      · have n45 : ¬ S 2 i t = 45 := by rw [k]; decide
        have n99 : ¬ S 2 i t = 99 := by rw [k]; decide
        rw [if_neg n45, if_neg n10, if_neg n99, if_pos rfl] at h
        have fT : z_fT S i t = true := by simp [z_fT, n45]
        have fC : z_fC S i t = false := by simp [z_fC, n99]
        rw [if_pos fT, fC]
        by_cases e3 : S 3 i t = 0
        · rw [if_pos e3] at h; exact absurd h n76
        · exact ⟨n10, e3, by simp⟩
  · intro t ht
    rw [tbl 18 (by omega) (by omega)]
    obtain ⟨A, B, C, hA, hB, hC, hR⟩ := hD
    rw [hR.1 18 i (by omega), hC.1 18 i (by omega)]
    exact z_has5 (hB.2 t ht)
  · intro p hp; rw [tbl 20 (by omega) (by omega)]; exact d36 p hp
