/-! ===== WHAT A RUN TELLS ===== -/
theorem z_pass_bs {S S' : qM} {i : Nat} {f : Nat → Int32} {kind type mem obj : Int32} (hb : z_bs i S S') (ho : z_ownf f) (hact : z_actR kind type mem obj) (hX : z_actX f kind type obj) : z_pass S' i f kind type mem obj ↔ z_pass S i f kind type mem obj := by
  have hb2 : z_bs i S (z_put S' f) := hb.tr (z_bs_out (fun k hk => z_put_o.1 k i (by omega)))
  obtain ⟨e1, e2⟩ := z_lc (j := 5) hb2 (fun p _ => by rw [(z_put_o (S := S') (f := f)).2]) ho
  unfold z_pass
  constructor
  · rintro ⟨h, g⟩
    exact ⟨e1.symm.trans h, by rw [← e2 h _ _ _ _ hact hX]; exact g⟩
  · rintro ⟨h, g⟩
    exact ⟨e1.trans h, by rw [e2 (e1.trans h) _ _ _ _ hact hX]; exact g⟩
def z_bad (x : Int32) : Prop := x = -65 ∨ x = -67 ∨ x = -70 ∨ x = -73 ∨ x = -76 ∨ x = -77 ∨ x = -78 ∨ x = -86 ∨ x = -1
theorem z_bad45 {x : Int32} (h : z_bad x) : ¬ ((-x).toUInt32 % 65536).toInt32 = 45 := by
  rcases h with rfl | rfl | rfl | rfl | rfl | rfl | rfl | rfl | rfl <;> decide
theorem z_nonneg {x : Int32} (h : ¬ x < 0) : 0 ≤ x := by
  rcases Int32.le_total 0 x with g | g
  · exact g
  · rcases Int32.lt_or_eq_of_le g with e | e
    · exact absurd e h
    · rw [e]; exact Int32.le_refl _
theorem z_mf_r {U : qM} {i : Nat} {a : Int32} : z_mf U i a = 45 ∨ z_bad (-(z_mf U i a)) := by
  unfold z_mf
  repeat' split
  all_goals first | exact Or.inl rfl | exact Or.inr (by unfold z_bad; decide)
theorem z_tf_r {U : qM} {i : Nat} {k a : Int32} : z_tf U i k a = 45 ∨ z_bad (-(z_tf U i k a)) := by
  unfold z_tf
  repeat' split
  all_goals first | exact Or.inl rfl | exact Or.inr (by unfold z_bad; decide)
theorem z_ufD_r {kind k st fs : Int32} : z_ufD kind k st fs = 45 ∨ z_bad (-(z_ufD kind k st fs)) := by
  unfold z_ufD
  repeat' split
  all_goals first | exact Or.inl rfl | exact Or.inr (by unfold z_bad; decide)
theorem z_uf_r {U : qM} {i : Nat} {sg kd : Nat → Int32} {kind own mem made : Int32} : z_uf U i sg kd kind own mem made = 45 ∨ z_bad (-(z_uf U i sg kd kind own mem made)) := by
  have b76 : z_bad (-76) := by unfold z_bad; decide
  unfold z_uf
  split
  · exact z_ufD_r
  · split
    · split
      · exact Or.inr b76
      · exact z_ufD_r
    · exact Or.inr b76
theorem z_ouf_r {k : Int32} : z_ouf k = 45 ∨ z_bad (-(z_ouf k)) := by
  unfold z_ouf
  split
  · exact Or.inr (by unfold z_bad; decide)
  · exact Or.inl rfl
theorem z_pfU_r {U : qM} {i : Nat} {kind made mem isc own : Int32} : z_pfU U i kind made mem isc own = 45 ∨ z_bad (-(z_pfU U i kind made mem isc own)) := by
  unfold z_pfU
  split
  · exact z_ouf_r
  · split
    · exact z_uf_r
    · exact z_uf_r
def z_gd (x : Int32) : Prop := x = -65 ∨ x = -73 ∨ z_v6 x
theorem z_le0 : (0 : Int32) ≤ 0 := by decide
theorem z_pf_neg {U : qM} {i L : Nat} {kind type mem obj : Int32} (hL : L = 5 ∨ L = 6) (hN : z_rN U i) (h24 : ∀ p, p < L * 6 → z_gd (U 24 i p)) (ht : z_tabs U i) (hg : z_v5 (U 0 i 5)) (ha : z_actR kind type mem obj) (hx : L = 5 → ¬ obj = 5 ∧ ¬ kind = 4) :
    0 ≤ z_pf U i kind type mem obj ∨ z_bad (z_pf U i kind type mem obj) := by
  obtain ⟨a1, a2, a3, a4, a5⟩ := ha
  obtain ⟨t1, t2, t3⟩ := ht
  unfold z_pf
  generalize hm : (if kind = 4 then (5 : Int32) else obj) = made
  generalize hb : (if kind = 4 then U 0 i 5 else type) = by9
  have hby : z_v6 by9 := by
    rw [← hb]; split
    · exact z_v56 hg
    · exact a2
  unfold z_pfA
  split
  · split
    · exact Or.inl z_le0
    · rename_i hk0
      obtain ⟨q, hq, rfl⟩ := a4 hk0
      split
      · rename_i htf
        obtain ⟨t, ht6, rfl⟩ : z_lt by9 6 := hby.elim (fun z => absurd z (z_tfn htf)) id
        have hown0 : z_isCall kind = 0 → z_v5 (z_pfO U i (nI t) (nI q) (z_isCall kind)) := by
          intro e
          unfold z_pfO
          rw [if_pos e, z_t6 ht6 hq]
          exact t3 _ (by omega)
        have hown : z_v6 (z_pfO U i (nI t) (nI q) (z_isCall kind)) := by
          by_cases e : z_isCall kind = 0
          · exact z_v56 (hown0 e)
          · unfold z_pfO
            rw [if_neg e, z_t6 ht6 hq]
            exact t1 _ (by omega)
        generalize z_pfO U i (nI t) (nI q) (z_isCall kind) = own at hown0 hown
        have pN : z_lt own 5 → ∀ isc, 0 ≤ z_pfN U i kind (nI q) isc own := by
          rintro ⟨o, ho5, rfl⟩ isc
          unfold z_pfN
          rw [z_t6 (by omega) hq]
          have hn := hN (o * 6 + q) (by omega)
          split
          · exact z_le0
          · split
            · exact z_le0
            · split
              · exact z_nonneg hn.2
              · exact z_nonneg hn.1
        have hC : ¬ own = -1 → 0 ≤ z_pfC U i kind made (nI t) (nI q) (z_isCall kind) own ∨ z_bad (z_pfC U i kind made (nI t) (nI q) (z_isCall kind) own) := by
          intro hn1
          unfold z_pfC
          split
          · rename_i hU
            unfold z_pfD
            split
            · split
              · exact Or.inr (by unfold z_bad; decide)
              · exact Or.inr (by unfold z_bad; decide)
            · unfold z_pfE
              split
              · rename_i e
                exact Or.inl (pN ((hown0 e).elim (fun z => absurd z hn1) id) _)
              · rename_i e
                split
                · rename_i e1
                  refine Or.inl (pN ?_ _)
                  obtain ⟨o, ho6, rfl⟩ : z_lt own 6 := hown.elim (fun z => absurd z hn1) id
                  refine ⟨o, ?_, rfl⟩
                  by_cases e5 : o = 5
                  · subst e5
                    unfold z_pfU at hU
                    rw [if_pos (show (nI 5 : Int32) = 5 from rfl), e1] at hU
                    exact absurd hU (by decide)
                  · omega
                · rename_i e1
                  -- one is selected
                  have hrow : ∃ r, r < L ∧ (if kind = 4 then (nI t : Int32) else made) = nI r := by
                    by_cases e4 : kind = 4
                    · rw [if_pos e4]
                      rw [if_pos e4] at hb
                      rcases hL with hL | hL
                      · exact absurd e4 (hx hL).2
                      · exact ⟨t, by omega, rfl⟩
                    · rw [if_neg e4] at hm
                      subst hm
                      have hk23 : kind = 2 ∨ kind = 3 := by
                        obtain ⟨k, hk9, rfl⟩ := a1
                        have key : ∀ k, k < 9 → ¬ z_isCall (nI k) = 0 → ¬ (nI k : Int32) = 1 → ¬ (nI k : Int32) = 4 → (nI k : Int32) = 2 ∨ (nI k : Int32) = 3 := by decide +kernel
                        exact key k hk9 e e1 e4
                      rw [if_neg e4]
                      obtain ⟨r, hr6, er⟩ := a5 hk23
                      refine ⟨r, ?_, er⟩
                      rcases hL with hL | hL
                      · by_cases r5 : r = 5
                        · exact absurd (by rw [er, r5]; rfl) (hx hL).1
                        · omega
                      · omega
                  obtain ⟨r, hrL, er⟩ := hrow
                  rw [er]
                  have hg9 := h24 (r * 6 + q) (by omega)
                  unfold z_dis
                  rw [z_t6 (by omega) hq]
                  rcases hg9 with e9 | e9 | e9 | ⟨o, ho6, e9⟩
                  · rw [e9, if_neg (by decide)]; exact Or.inr (by unfold z_bad; decide)
                  · rw [e9, if_neg (by decide)]; exact Or.inr (by unfold z_bad; decide)
                  · rw [e9, if_neg (by decide)]; exact Or.inr (by unfold z_bad; decide)
                  · rw [e9]
                    split
                    · split
                      · exact Or.inl (by decide)
                      · rename_i o5
                        have o5' : ¬ o = 5 := fun e => o5 (by rw [e]; rfl)
                        rw [z_t6 (by omega) hq]
                        have hn := hN (o * 6 + q) (by omega)
                        split
                        · split
                          · exact Or.inl (z_nonneg hn.1)
                          · exact Or.inr (by unfold z_bad; decide)
                        · exact Or.inl (z_nonneg hn.1)
                    · rename_i hneg
                      exact absurd (z_nonneg (nI_pos (by omega))) hneg
          · rename_i hU
            exact Or.inr (z_pfU_r.elim (fun z => absurd z hU) id)
        unfold z_pfB
        split
        · split
          · exact Or.inr (by unfold z_bad; decide)
          · exact Or.inr (by unfold z_bad; decide)
        · rename_i hn1
          split
          · split
            · exact hC hn1
            · split
              · split
                · exact Or.inr (by unfold z_bad; decide)
                · exact Or.inr (by unfold z_bad; decide)
              · exact hC hn1
          · exact hC hn1
      · rename_i htf
        exact Or.inr (z_tf_r.elim (fun z => absurd z htf) id)
  · rename_i hmf
    unfold z_pfM at hmf ⊢
    split at hmf
    · exact absurd rfl hmf
    · rename_i e
      rw [if_neg e]
      exact Or.inr (z_mf_r.elim (fun z => absurd z hmf) id)
