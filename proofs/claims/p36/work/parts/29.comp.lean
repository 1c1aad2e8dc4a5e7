/-! ===== COMPLETENESS of the looker ===== -/
def z_V (L k t m o : Nat) : Prop := k < 9 ∧ (if z_hasType (nI k) = 0 then t = 0 else 1 ≤ t ∧ t ≤ L) ∧ (if z_hasMember (nI k) = 0 then m = 0 else 1 ≤ m ∧ m ≤ 6) ∧ (if z_hasObject (nI k) = 0 then o = 0 else 1 ≤ o ∧ o ≤ L) ∧ (L = 5 → ¬ k = 4)
theorem z_V_r {L k t m o : Nat} (hL : L ≤ 6) (h : z_V L k t m o) : t ≤ L ∧ m ≤ 6 ∧ o ≤ L ∧ z_actR (nI k) (z_c t) (z_c m) (z_c o) := by
  obtain ⟨hk, ht, hm, ho, h4⟩ := h
  have t6 : t ≤ L := by split at ht <;> omega
  have m6 : m ≤ 6 := by split at hm <;> omega
  have o6 : o ≤ L := by split at ho <;> omega
  refine ⟨t6, m6, o6, ⟨k, hk, rfl⟩, z_cv6 (by omega), z_cv6 (by omega), fun h0 => ?_, fun h23 => ?_⟩
  · have hh : ∀ k, k < 9 → ¬ nI k = 0 → ¬ z_hasMember (nI k) = 0 := by decide +kernel
    rw [if_neg (hh k hk h0)] at hm
    exact z_clt6 m6 (by omega)
  · have hh : ∀ k, k < 9 → (nI k = 2 ∨ nI k = 3) → ¬ z_hasObject (nI k) = 0 := by decide +kernel
    rw [if_neg (hh k hk h23)] at ho
    exact z_clt6 (by omega) (by omega)
theorem z_VE {S : qM} {f : Nat → Int32} {a L k t m o : Nat} {br : Int32} (hL : L = if f 0 = 0 then 5 else 6) (h : z_V L k t m o) (hm : m = 0 ∨ ¬ z_has (z_wt (z_put S f) a (nI k) br) (z_c m) = 0) (ho : o = 0 ∨ z_fo (z_put S f) br + 1 ≤ o) : z_E (z_put S f) a br k t m o := by
  obtain ⟨hk, ht, hmm, hoo, -⟩ := h
  have e : z_lt9 (z_put S f) + 1 = L := by
    unfold z_lt9
    rw [z_put_o.2, hL]
    split <;> rfl
  refine ⟨hk, ?_, ?_, ?_⟩
  · unfold z_ts z_te
    rw [e]
    split at ht
    · rename_i h; rw [if_pos h, if_pos h]; omega
    · rename_i h; rw [if_neg h, if_neg h]; omega
  · unfold z_ms z_me
    split at hmm
    · rename_i h; rw [if_pos h, if_pos h]; exact ⟨by omega, by omega, hm⟩
    · rename_i h; rw [if_neg h, if_neg h]; exact ⟨by omega, by omega, hm⟩
  · unfold z_os z_oe
    rw [e]
    split at hoo
    · rename_i h; rw [if_pos h, if_pos h]; omega
    · rename_i h; rw [if_neg h, if_neg h]; omega
/-- a member that goes through may be tried -/
theorem z_uses {S U : qM} {i k q : Nat} {own made : Int32} (hu : z_use S i) (hl : ∀ k, 1 < k → k < 17 → U k i = S k i) (hk : k < 9) (hk0 : ¬ nI k = 0) (hq : q < 6) (ho : z_lt own 5) (h : z_pfU U i (nI k) made (nI q) (z_isCall (nI k)) own = 45) : ¬ z_has (S 26 i k) (nI q) = 0 := by
  obtain ⟨r, hr, rfl⟩ := ho
  have ix : (nI r * 6 + nI q).toNatClampNeg = r * 6 + q := z_t6 (by omega) hq
  obtain ⟨u1, u2⟩ := hu r q hr hq
  unfold z_pfU at h
  rw [if_neg (z_ne5 ⟨r, hr, rfl⟩), hl 10 (by omega) (by omega), hl 11 (by omega) (by omega), hl 14 (by omega) (by omega), hl 15 (by omega) (by omega)] at h
  have inv : ∀ sg kd : Nat → Int32, z_uf U i sg kd (nI k) (nI r) (nI q) made = 45 → (sg (r * 6 + q) = 112 ∨ sg (r * 6 + q) = 111) ∧ z_ufD (nI k) (kd (r * 6 + q)) (z_ufS (kd (r * 6 + q))) (z_ufF (nI k)) = 45 := by
    intro sg kd hh
    unfold z_uf at hh
    rw [ix] at hh
    split at hh
    · rename_i g; exact ⟨Or.inl g, hh⟩
    · split at hh
      · rename_i g
        split at hh
        · exact absurd hh (by decide)
        · exact ⟨Or.inr g, hh⟩
      · exact absurd hh (by decide)
  have hk' : k = 1 ∨ k = 2 ∨ k = 3 ∨ k = 4 ∨ k = 5 ∨ k = 6 ∨ k = 7 ∨ k = 8 := by
    have : ¬ k = 0 := fun e => hk0 (by rw [e]; rfl)
    omega
  have calls : z_isCall (nI k) = 0 ∨ (k = 1 ∨ k = 2 ∨ k = 3 ∨ k = 4) := by
    rcases hk' with rfl | rfl | rfl | rfl | rfl | rfl | rfl | rfl
    all_goals first | (right; omega) | (left; decide)
  by_cases hc : z_isCall (nI k) = 0
  · rw [if_pos hc] at h
    obtain ⟨g1, g2⟩ := inv _ _ h
    have g3 := u2 g1
    have hk5 : k = 5 ∨ k = 6 ∨ k = 7 ∨ k = 8 := by
      rcases hk' with rfl | rfl | rfl | rfl | g
      · exact absurd hc (by decide)
      · exact absurd hc (by decide)
      · exact absurd hc (by decide)
      · exact absurd hc (by decide)
      · exact g
    rcases g3 with ⟨e, v⟩ | ⟨e, v⟩ | ⟨e, v⟩ | ⟨e, v⟩ <;> rw [e] at g2 <;> rcases hk5 with rfl | rfl | rfl | rfl
    all_goals first
      | exact v
      | exact v.1
      | exact v.2
      | exact absurd g2 (by decide)
  · rw [if_neg hc] at h
    obtain ⟨g1, g2⟩ := inv _ _ h
    obtain ⟨n70, g3⟩ := u1 g1
    have hk4 : k = 1 ∨ k = 2 ∨ k = 3 ∨ k = 4 := calls.elim (fun z => absurd z hc) id
    by_cases e : S 11 i (r * 6 + q) = 115
    · rw [if_pos e] at g3
      rw [e] at g2
      rcases hk4 with rfl | rfl | rfl | rfl
      · exact g3
      all_goals exact absurd g2 (by decide)
    · rw [if_neg e] at g3
      have eS : z_ufS (S 11 i (r * 6 + q)) = 0 := by unfold z_ufS; rw [if_neg e, if_neg n70]
      rw [eS] at g2
      rcases hk4 with rfl | rfl | rfl | rfl
      · unfold z_ufD at g2
        rw [if_neg (by decide)] at g2
        exact absurd g2 (by decide)
      · exact g3.1
      · exact g3.2.1
      · exact g3.2.2
/-- whose method, or field, an act finds -/
theorem z_owner {S U : qM} {i q : Nat} {f : Nat → Int32} {by' isc : Int32} (hw : z_wf S i) (ho : z_ownf f) (hq : q < 6) (hb : z_lt by' 6) (h5 : by' = 5 → ¬ f 0 = 0)
    (a5 : ∀ k, (k = 23 ∨ k = 24 ∨ k = 25) → ∀ p, p < 30 → U k i p = S k i p) (a6 : ¬ f 0 = 0 → U 18 i 5 = z_xab (S 18 i) (f 2) (f 1) ∧ ∀ q, q < 6 → U 25 i (30 + q) = z_inh (S 25 i) (f 2) (f 1) (nI q) ∧ U 23 i (30 + q) = z_XR S i (f 1) (f 2) (f 3) q ∧ U 24 i (30 + q) = z_XL S i (f 1) (f 2) (f 3) q)
    (hn : ¬ z_pfO U i by' (nI q) isc = -1) : z_lt (z_pfO U i by' (nI q) isc) 5 ∨ (z_pfO U i by' (nI q) isc = 5 ∧ by' = 5 ∧ ¬ isc = 0 ∧ f 3 = nI q) := by
  obtain ⟨w1, w2, w3, w4, w5, ⟨w6, w7, w8⟩, w9⟩ := hw
  obtain ⟨t, ht, rfl⟩ := hb
  unfold z_pfO at hn ⊢
  rw [z_t6 ht hq] at hn ⊢
  rcases Nat.lt_or_ge t 5 with h | h
  · rw [a5 25 (by omega) _ (by omega), a5 23 (by omega) _ (by omega)] at hn ⊢
    left
    split
    · rename_i c; rw [if_pos c] at hn; exact z_v5n (w8 _ (by omega)) hn
    · rename_i c; rw [if_neg c] at hn; exact z_v5n (w4 _ (by omega)) hn
  · obtain rfl : t = 5 := by omega
    obtain ⟨x3, x4, -⟩ := (a6 (h5 rfl)).2 q hq
    rw [show 5 * 6 + q = 30 + q by omega, x3, x4] at hn ⊢
    split
    · rename_i c
      rw [if_pos c] at hn
      exact Or.inl (z_v5n (z_inh_r hq ho.2.1 (fun p hp => w8 p (by omega))) hn)
    · rename_i c
      rw [if_neg c] at hn
      by_cases e : f 3 = nI q
      · right
        refine ⟨?_, rfl, c, e⟩
        unfold z_XR z_xfi
        rw [if_pos e, if_neg (by decide)]
      · left
        refine z_v5n ?_ hn
        unfold z_XR
        split
        · exact z_lowest_r _
        · unfold z_xfi
          rw [if_neg e]
          split
          · exact Or.inl rfl
          · rename_i h1
            obtain ⟨t, ht, het⟩ := z_v5n ho.2.1 h1
            rw [het, z_t6 (by omega) hq]
            exact w2 _ (by omega)
/-! loading X: its faults, one after the other -/
theorem z_lf_45 {T : qM} {i : Nat} {itf : Int32} : ∀ (n m : Nat) (f : Int32), z_lf T i itf n m f = 45 → f = 45 ∧ ∀ t, m ≤ t → t < m + n → z_lfS T i itf t = 45 := by
  intro n
  induction n with
  | zero => intro m f h; exact ⟨h, fun t h1 h2 => absurd h2 (by omega)⟩
  | succ n ih =>
    intro m f h
    unfold z_lf at h
    split at h
    · rename_i hf
      obtain ⟨h1, h2⟩ := ih (m + 1) _ h
      refine ⟨hf, fun t a b => ?_⟩
      rcases Nat.lt_or_ge m t with g | g
      · exact h2 t (by omega) (by omega)
      · obtain rfl : t = m := by omega
        exact h1
    · rename_i hf
      exact absurd h hf
/-- the fault of X's superclass and interfaces -/
def z_supF (S : qM) (i u p : Nat) : Int32 := z_ldA i 5 (z_ld2 i 5 (z_put S (z_fx u p 0)))
theorem z_ldA_fx {S : qM} {i u p m : Nat} : z_ldA i 5 (z_ld2 i 5 (z_put S (z_fx u p m))) = z_supF S i u p ∧ z_supF S i u p = z_lf S i (q_pairs p) 5 0 (if z_c u = -1 then 45 else z_af S i (z_c u) 0) := by
  have key : ∀ m, z_ldA i 5 (z_ld2 i 5 (z_put S (z_fx u p m))) = z_lf S i (q_pairs p) 5 0 (if z_c u = -1 then 45 else z_af S i (z_c u) 0) := by
    intro m
    obtain ⟨p1, p2⟩ := z_put_o (S := S) (f := z_fx u p m)
    have a := (z_ld2_o (i := i) (j := 5) (S := z_put S (z_fx u p m))).1
    have g : ∀ k, 1 < k → k < 17 → z_ld2 i 5 (z_put S (z_fx u p m)) k i = S k i := fun k h1 h2 => by rw [a k i (by omega), p1 k i (by omega)]
    have eaf : ∀ x y, z_af (z_ld2 i 5 (z_put S (z_fx u p m))) i x y = z_af S i x y := by
      intro x y
      unfold z_af
      rw [g 2 (by omega) (by omega), g 5 (by omega) (by omega), g 3 (by omega) (by omega)]
    have elf : ∀ itf n m' f, z_lf (z_ld2 i 5 (z_put S (z_fx u p m))) i itf n m' f = z_lf S i itf n m' f := by
      intro itf n
      induction n with
      | zero => intros; rfl
      | succ n ih =>
        intro m' f
        unfold z_lf z_lfS
        rw [eaf, ih]
    unfold z_ldA
    rw [a 28 5 (by omega), p2, eaf, elf]
    rfl
  exact ⟨(key m).trans (key 0).symm, key 0⟩
theorem z_loadF_fx {S : qM} {i u p m : Nat} (hm : m ≤ 6) : (z_loadF i 5 (z_put S (z_fx u p m)) = 45 → z_supF S i u p = 45) ∧ (z_supF S i u p = 45 → (m = 0 ∨ z_bar S i (z_c m) 5 (z_c u) = 0) → z_loadF i 5 (z_put S (z_fx u p m)) = 45) := by
  obtain ⟨p1, p2⟩ := z_put_o (S := S) (f := z_fx u p m)
  have a := (z_ld2_o (i := i) (j := 5) (S := z_put S (z_fx u p m))).1
  have e28 : z_ld2 i 5 (z_put S (z_fx u p m)) 28 5 = z_fx u p m := by rw [a 28 5 (by omega), p2]
  have g : ∀ k, 1 < k → k < 17 → z_ld2 i 5 (z_put S (z_fx u p m)) k i = S k i := fun k h1 h2 => by rw [a k i (by omega), p1 k i (by omega)]
  have ebar : ∀ mem n x, z_bar (z_ld2 i 5 (z_put S (z_fx u p m))) i mem n x = z_bar S i mem n x := by
    intro mem n
    induction n with
    | zero => intros; rfl
    | succ n ih =>
      intro x
      unfold z_bar
      rw [g 10 (by omega) (by omega), g 11 (by omega) (by omega), g 7 (by omega) (by omega), ih]
  have eF : z_loadF i 5 (z_put S (z_fx u p m)) = (if z_supF S i u p = 45 then (if z_c m = -1 then z_supF S i u p else if z_c u = -1 then z_supF S i u p else if z_bar S i (z_c m) 5 (z_c u) = 0 then z_supF S i u p else 86) else z_supF S i u p) := by
    unfold z_loadF
    rw [e28, if_neg (show ¬ z_fx u p m 0 = 0 from (show ¬ ((1 : Int32) = 0) by decide)), z_ldA_fx.1]
    unfold z_ldB
    rw [e28, ebar]
    rfl
  rw [eF]
  constructor
  · intro h
    by_cases c : z_supF S i u p = 45
    · exact c
    · rw [if_neg c] at h
      exact h
  · intro c h
    rw [if_pos c]
    rcases h with h | h
    · rw [if_pos (by rw [h]; exact z_c0)]; exact c
    · split
      · exact c
      · split
        · exact c
        · first | exact c | (rw [if_pos h]; exact c)
theorem z_mba_ok {S : qM} {i u p : Nat} (he : z_ext S i) (hu : u < 6) (hp : p < 16) (h : z_supF S i u p = 45) : ¬ z_mba S i (z_c u) (q_pairs p) = 0 := by
  rw [(z_ldA_fx (m := 0)).2] at h
  obtain ⟨h1, h2⟩ := z_lf_45 5 0 _ h
  obtain ⟨⟨w, hw, ew⟩, hx⟩ := he
  have hz : q_pairs p &&& (S 17 i 12 ^^^ (-1)) = 0 := by
    rw [ew]
    have dec : ∀ w, w < 32 → ∀ p, p < 16 → (∀ t, t < 5 → z_has (q_pairs p) (nI t) = 0 ∨ ¬ z_has (nI w) (nI t) = 0) → q_pairs p &&& (nI w ^^^ (-1)) = 0 := by decide +kernel
    refine dec w hw p hp fun t ht => ?_
    have g := h2 t (by omega) (by omega)
    unfold z_lfS at g
    by_cases c : z_has (q_pairs p) (nI t) = 0
    · exact Or.inl c
    · rw [if_neg c] at g
      exact Or.inr (by rw [← ew]; exact (hx t ht).2 g)
  unfold z_mba
  rw [if_pos hz]
  by_cases c : z_c u = -1
  · rw [if_pos c]; decide
  · rw [if_neg c] at h1 ⊢
    cases u with
    | zero => exact absurd z_c0 c
    | succ n =>
      rw [z_cs] at h1 ⊢
      rw [if_neg ((hx n (by omega)).1 h1)]
      decide
def z_bcN (p : Nat) : Nat := [0, 1, 2, 2, 2, 2, 1, 2, 2, 2, 1, 2, 2, 1, 2, 1].getD p 0
def z_sz (u p : Nat) : Nat := 2 + (if u = 0 then 0 else 1) + z_bcN p
theorem z_rest0 {u p : Nat} (hu : u < 6) (hp : p < 16) : z_rest (z_sz u p) u p = 0 ∧ z_rest (z_sz u p + 1) u p = 1 := by
  have : ∀ u, u < 6 → ∀ p, p < 16 → z_rest (z_sz u p) u p = 0 ∧ z_rest (z_sz u p + 1) u p = 1 := by decide +kernel
  exact this u hu p hp
