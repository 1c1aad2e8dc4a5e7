/-! ===== A RUN, act by act ===== -/
theorem z_XL_gd {S : qM} {i q : Nat} {sup itf mem : Int32} (hw : z_wf S i) (hs : z_v5 sup) (hq : q < 6) : z_gd (z_XL S i sup itf mem q) := by
  have hx : z_v6 (z_xfi (S 20 i) sup mem q) := z_xfi_r hq hs hw.2.2.1
  unfold z_XL
  split
  · split
    · exact Or.inr (Or.inr (z_v56 (z_lowest_r _)))
    · split
      · exact Or.inl rfl
      · exact Or.inr (Or.inl rfl)
  · split
    · exact Or.inr (Or.inr hx)
    · split
      · exact Or.inl rfl
      · exact Or.inr (Or.inr hx)
theorem z_bad_n {x : Int32} (h : z_bad x) : narrow .char (.int (((-x).toUInt32 % 65536).toInt32)) = .int (((-x).toUInt32 % 65536).toInt32) := by
  rcases h with rfl | rfl | rfl | rfl | rfl | rfl | rfl | rfl | rfl <;> decide
theorem z_fol_stop {r c i : Nat} {T : qM} (h : ¬ T 33 r 2 = 45) : ∀ n m, z_folIt r c i n m T = T
  | 0, _ => rfl
  | n + 1, m => by
    show (if T 33 r 2 = 45 then z_folIt r c i n (m + 1) (z_folS r c i m T) else T) = T
    rw [if_neg h]
/-- what a run leaves -/
def z_runP (S0 S T : qM) (r c i : Nat) (f : Nat → Int32) (N : Nat) : Prop :=
  z_bs i S0 T ∧ z_wf T i ∧ (∀ k' i', ¬ ((k' = 0 ∨ k' = 18 ∨ k' = 19 ∨ k' = 20 ∨ k' = 23 ∨ k' = 24 ∨ k' = 25) ∧ i' = i) → ¬ ((k' = 33 ∨ k' = 34) ∧ i' = r) → T k' i' = S k' i') ∧ T 33 r 0 = 1 ∧ narrow .char (.int (T 33 r 2)) = .int (T 33 r 2) ∧
  ∃ w, T 33 r 1 = nI w ∧ ((T 33 r 2 = 45 ∧ w = N ∧ z_loadF i 5 (z_put S0 f) = 45 ∧ ∀ m, m < N → z_pass S0 i f (S 29 c m) (S 30 c m) (S 31 c m) (S 32 c m)) ∨
    (¬ T 33 r 2 = 45 ∧ (w = 0 ∨ w < N) ∧ (¬ z_loadF i 5 (z_put S0 f) = 45 ∨ ∃ m, m < N ∧ ¬ z_pass S0 i f (S 29 c m) (S 30 c m) (S 31 c m) (S 32 c m))))
theorem z_run {S0 S : qM} {r c i N : Nat} {f : Nat → Int32} (hb : z_bs i S0 S) (hw : z_wf S i) (hn : z_n24 S0 i) (hN : z_rN S0 i) (hf : ∀ p, p < 4 → S 28 c p = f p) (ho : z_ownf f) (hA : z_acts S c N) (hV : ∀ m, m < N → z_actX f (S 29 c m) (S 30 c m) (S 32 c m)) :
    z_runP S0 S (z_folIt r c i N 0 (z_f0 r c i S)) r c i f N := by
  obtain ⟨S1, hS1⟩ : ∃ S1, S1 = q_up S 33 r (upd (upd (S 33 r) 0 1) 1 0) := ⟨_, rfl⟩
  have s1 : ∀ k' i', ¬ (k' = 33 ∧ i' = r) → S1 k' i' = S k' i' := fun k' i' h => by rw [hS1]; simp only [q_up, if_neg h]
  have hb1 : z_bs i S0 S1 := hb.tr (z_bs_out (fun k hk => s1 k i (by omega)))
  have hw1 : z_wf S1 i := z_wf_out (fun k hk => s1 k i (by omega)) hw
  have hf1 : ∀ p, p < 4 → S1 28 c p = f p := fun p hp => by rw [s1 28 c (by omega)]; exact hf p hp
  obtain ⟨eF, eP⟩ := z_lc (j := c) hb1 hf1 ho
  have hs5 : z_v5 (S1 28 c 1) := by rw [hf1 1 (by omega)]; exact ho.2.1
  have hO : z_own S1 c := ⟨by rw [hf1 0 (by omega)]; exact ho.1, hs5, by rw [hf1 3 (by omega)]; exact ho.2.2⟩
  obtain ⟨Ld, hLd⟩ : ∃ Ld, Ld = z_loadS i c S1 := ⟨_, rfl⟩
  have hbL : z_bs i S0 Ld := by rw [hLd]; exact hb1.tr (z_bs_load hs5)
  have hwL : z_wf Ld i := by rw [hLd]; exact z_load_wf hw1 hO
  have frL : ∀ k' i', ¬ ((k' = 0 ∨ k' = 18 ∨ k' = 19 ∨ k' = 20 ∨ k' = 23 ∨ k' = 24 ∨ k' = 25) ∧ i' = i) → Ld k' i' = S1 k' i' := by rw [hLd]; exact z_load_fr hs5
  have e0 : z_f0 r c i S = q_up Ld 33 r (upd (Ld 33 r) 2 (z_loadF i c S1)) := by rw [hLd, hS1]; rfl
  have l33 : Ld 33 r 0 = 1 ∧ Ld 33 r 1 = 0 := by
    rw [frL 33 r (by omega), hS1]
    simp (config := {decide := true}) only [q_up, and_self, if_true, upd, if_false]
  -- the end of it
  have FIN : ∀ T : qM, (∀ k' i', ¬ ((k' = 33 ∨ k' = 34) ∧ i' = r) → T k' i' = Ld k' i') → T 33 r 0 = 1 → narrow .char (.int (T 33 r 2)) = .int (T 33 r 2) →
      (∃ w, T 33 r 1 = nI w ∧ ((T 33 r 2 = 45 ∧ w = N ∧ z_loadF i 5 (z_put S0 f) = 45 ∧ ∀ m, m < N → z_pass S0 i f (S 29 c m) (S 30 c m) (S 31 c m) (S 32 c m)) ∨
        (¬ T 33 r 2 = 45 ∧ (w = 0 ∨ w < N) ∧ (¬ z_loadF i 5 (z_put S0 f) = 45 ∨ ∃ m, m < N ∧ ¬ z_pass S0 i f (S 29 c m) (S 30 c m) (S 31 c m) (S 32 c m))))) → z_runP S0 S T r c i f N := by
    intro T hT h0 hn9 hx
    refine ⟨hbL.tr (z_bs_out (fun k hk => hT k i (by omega))), z_wf_out (fun k hk => hT k i (by omega)) hwL, fun k' i' h1 h2 => ?_, h0, hn9, hx⟩
    rw [hT k' i' h2, frL k' i' h1, s1 k' i' (by omega)]
  rw [e0]
  by_cases hF : z_loadF i c S1 = 45
  · -- it loads
    have hF0 : z_loadF i 5 (z_put S0 f) = 45 := eF.symm.trans hF
    have hN' : z_rN Ld i := by
      intro p hp
      rw [hbL.1 12 (by omega) (by omega) (by omega), hbL.1 16 (by omega) (by omega) (by omega)]
      exact hN p hp
    obtain ⟨L, hL, h24⟩ : ∃ L, (L = 5 ∧ f 0 = 0 ∨ L = 6) ∧ ∀ p, p < L * 6 → z_gd (Ld 24 i p) := by
      have lo : ∀ p, p < 30 → z_gd (Ld 24 i p) := by
        intro p hp
        rw [hbL.2.2.2 24 (by omega) p (Or.inl hp)]
        rcases hn p hp with h | h | h
        · exact Or.inl h
        · exact Or.inr (Or.inl h)
        · exact Or.inr (Or.inr (z_v56 h))
      by_cases h0 : f 0 = 0
      · exact ⟨5, Or.inl ⟨rfl, h0⟩, fun p hp => lo p (by omega)⟩
      · refine ⟨6, Or.inr rfl, fun p hp => ?_⟩
        by_cases hp30 : p < 30
        · exact lo p hp30
        · obtain ⟨-, -, -, -, -, -, -, hx⟩ := z_load_ok (i := i) (j := c) (S := S1) hs5 (by rw [hf1 0 (by omega)]; exact h0) hF
          obtain ⟨-, -, -, -, h24⟩ := hx (p - 30) (by omega)
          rw [show 30 + (p - 30) = p by omega, ← hLd] at h24
          rw [h24]
          exact z_XL_gd hw1 hs5 (by omega)
    have hact : ∀ m, m < N → z_actR (S 29 c m) (S 30 c m) (S 31 c m) (S 32 c m) := hA.2
    have hneg : ∀ m, m < N → 0 ≤ z_pf Ld i (S 29 c m) (S 30 c m) (S 31 c m) (S 32 c m) ∨ z_bad (z_pf Ld i (S 29 c m) (S 30 c m) (S 31 c m) (S 32 c m)) := by
      intro m hm
      refine z_pf_neg (L := L) (hL.elim (fun z => Or.inl z.1) Or.inr) hN' h24 hwL.2.2.2.2.2.1 hwL.2.2.2.2.2.2 (hact m hm) (fun e5 => ?_)
      rcases hL with ⟨-, h0⟩ | h6
      · exact ⟨(hV m hm h0).2.1, (hV m hm h0).2.2⟩
      · omega
    have hpass : ∀ m, m < N → (z_pass S0 i f (S 29 c m) (S 30 c m) (S 31 c m) (S 32 c m) ↔ 0 ≤ z_pf Ld i (S 29 c m) (S 30 c m) (S 31 c m) (S 32 c m)) := by
      intro m hm
      rw [hLd, eP hF _ _ _ _ (hact m hm) (hV m hm)]
      exact ⟨fun h => h.2, fun h => ⟨hF0, h⟩⟩
    have LOOP : ∀ (n m : Nat) (T : qM), m + n = N → (∀ k' i', ¬ ((k' = 33 ∨ k' = 34) ∧ i' = r) → T k' i' = Ld k' i') → T 33 r 0 = 1 → T 33 r 1 = nI m → T 33 r 2 = 45 → (∀ j, j < m → z_pass S0 i f (S 29 c j) (S 30 c j) (S 31 c j) (S 32 c j)) → z_runP S0 S (z_folIt r c i n m T) r c i f N := by
      intro n
      induction n with
      | zero =>
        intro m T hmn hT h0 h1 h2 hp
        obtain rfl : m = N := by omega
        exact FIN T hT h0 (by rw [h2]; rfl) ⟨m, h1, Or.inl ⟨h2, rfl, hF0, hp⟩⟩
      | succ n ih =>
        intro m T hmn hT h0 h1 h2 hp
        have hm : m < N := by omega
        have tS : ∀ k, 26 < k → k < 33 → T k c = S k c := fun k h1 h2 => by rw [hT k c (by omega), frL k c (by omega), s1 k c (by omega)]
        have hz : z_act T i c m = z_pf Ld i (S 29 c m) (S 30 c m) (S 31 c m) (S 32 c m) := by
          unfold z_act
          rw [tS 29 (by omega) (by omega), tS 30 (by omega) (by omega), tS 31 (by omega) (by omega), tS 32 (by omega) (by omega)]
          have tL : ∀ k, k < 27 → T k i = Ld k i := fun k hk => hT k i (by omega)
          refine z_pf_congr2 (fun k _ _ => tL k (by omega)) (by rw [tL 0 (by omega)]) (by rw [tL 0 (by omega)]) (fun p _ => by rw [tL 18 (by omega)]) (fun _ _ _ => by rw [tL 25 (by omega)]) (fun _ _ _ _ _ => by rw [tL 23 (by omega)]) (fun _ _ _ _ => by rw [tL 24 (by omega)]) (by rw [tL 0 (by omega)]; exact hwL.2.2.2.2.2.2) (hact m hm)
        show z_runP S0 S (if T 33 r 2 = 45 then z_folIt r c i n (m + 1) (z_folS r c i m T) else T) r c i f N
        rw [if_pos h2]
        by_cases hp0 : 0 ≤ z_act T i c m
        · have eS : z_folS r c i m T = q_up (q_up T 34 r (upd (T 34 r) m (z_act T i c m))) 33 r (upd (T 33 r) 1 (T 33 r 1 + 1)) := by
            unfold z_folS
            rw [if_pos hp0]
          rw [eS]
          refine ih (m + 1) _ (by omega) (fun k' i' hk => ?_) ?_ ?_ ?_ (fun j hj => ?_)
          · simp only [q_up]
            rw [if_neg (by omega), if_neg (by omega)]
            exact hT k' i' hk
          · simp (config := {decide := true}) only [q_up, and_self, if_true, upd, if_false]; exact h0
          · simp (config := {decide := true}) only [q_up, and_self, if_true, upd, if_false]
            rw [h1, nI_succ]
          · simp (config := {decide := true}) only [q_up, and_self, if_true, upd, if_false]; exact h2
          · by_cases e : j = m
            · subst e; exact (hpass j hm).mpr (by rw [← hz]; exact hp0)
            · exact hp j (by omega)
        · have hbad : z_bad (z_act T i c m) := by
            rw [hz] at hp0 ⊢
            exact (hneg m hm).elim (fun z => absurd z hp0) id
          have eS : z_folS r c i m T = q_up T 33 r (upd (T 33 r) 2 ((-(z_act T i c m)).toUInt32 % 65536).toInt32) := by
            unfold z_folS
            rw [if_neg hp0]
          have e2 : z_folS r c i m T 33 r 2 = ((-(z_act T i c m)).toUInt32 % 65536).toInt32 := by
            rw [eS]; simp (config := {decide := true}) only [q_up, and_self, if_true, upd, if_false]
          rw [z_fol_stop (by rw [e2]; exact z_bad45 hbad)]
          refine FIN _ (fun k' i' hk => ?_) ?_ ?_ ⟨m, ?_, Or.inr ⟨by rw [e2]; exact z_bad45 hbad, Or.inr hm, Or.inr ⟨m, hm, fun h => hp0 (by rw [hz]; exact (hpass m hm).mp h)⟩⟩⟩
          · rw [eS]
            simp only [q_up]
            rw [if_neg (by omega)]
            exact hT k' i' hk
          · rw [eS]; simp (config := {decide := true}) only [q_up, and_self, if_true, upd, if_false]; exact h0
          · rw [e2]; exact z_bad_n hbad
          · rw [eS]; simp (config := {decide := true}) only [q_up, and_self, if_true, upd, if_false]; exact h1
    refine LOOP N 0 _ (by omega) (fun k' i' hk => ?_) ?_ ?_ ?_ (fun j hj => absurd hj (by omega))
    · simp only [q_up]
      rw [if_neg (by omega)]
    · simp (config := {decide := true}) only [q_up, and_self, if_true, upd, if_false]; exact l33.1
    · simp (config := {decide := true}) only [q_up, and_self, if_true, upd, if_false]; exact l33.2
    · simp (config := {decide := true}) only [q_up, and_self, if_true, upd, if_false]; exact hF
  · have e2 : q_up Ld 33 r (upd (Ld 33 r) 2 (z_loadF i c S1)) 33 r 2 = z_loadF i c S1 := by simp (config := {decide := true}) only [q_up, and_self, if_true, upd, if_false]
    rw [z_fol_stop (by rw [e2]; exact hF)]
    refine FIN _ (fun k' i' hk => ?_) ?_ (by rw [e2]; exact z_loadF_nar.1) ⟨0, ?_, Or.inr ⟨by rw [e2]; exact hF, Or.inl rfl, Or.inl (fun h => hF (eF.trans h))⟩⟩
    · simp only [q_up]
      rw [if_neg (by omega)]
    · simp (config := {decide := true}) only [q_up, and_self, if_true, upd, if_false]; exact l33.1
    · simp (config := {decide := true}) only [q_up, and_self, if_true, upd, if_false]; exact l33.2
