/-! ===== WHAT AN ACT DOES depends on a machine's own cells, and on X's, if there is one ===== -/
theorem z_idx {U V : qM} {i k : Nat} {r mem : Int32} (hr : ∀ p, p < 30 → U k i p = V k i p) (hx : r = 5 → ∀ q, q < 6 → U k i (30 + q) = V k i (30 + q)) (h6 : z_lt r 6) (hm : z_lt mem 6) : U k i (r * 6 + mem).toNatClampNeg = V k i (r * 6 + mem).toNatClampNeg := by
  obtain ⟨t, ht, rfl⟩ := h6
  obtain ⟨m, hm, rfl⟩ := hm
  rw [z_t6 ht hm]
  rcases Nat.lt_or_ge t 5 with h | h
  · exact hr _ (by omega)
  · obtain rfl : t = 5 := by omega
    exact hx rfl m hm
theorem z_pf_congr {U V : qM} {i : Nat} {kind type mem obj : Int32} (h1 : ∀ k, 1 < k → k < 17 → U k i = V k i) (h4 : U 0 i 4 = V 0 i 4) (h5 : U 0 i 5 = V 0 i 5) (h18 : ∀ p, p < 5 → U 18 i p = V 18 i p)
    (hr : ∀ k, (k = 23 ∨ k = 24 ∨ k = 25) → ∀ p, p < 30 → U k i p = V k i p) (hX : ¬ U 0 i 4 = 0 → U 18 i 5 = V 18 i 5 ∧ ∀ k, (k = 23 ∨ k = 24 ∨ k = 25) → ∀ q, q < 6 → U k i (30 + q) = V k i (30 + q))
    (hg : z_v5 (U 0 i 5)) (hact : z_actR kind type mem obj) (hno : U 0 i 4 = 0 → ¬ type = 5 ∧ ¬ obj = 5 ∧ ¬ kind = 4) : z_pf U i kind type mem obj = z_pf V i kind type mem obj := by
  obtain ⟨hk, hty, hob, hmm, hob23⟩ := hact
  have e2 := h1 2 (by omega) (by omega)
  have e3 := h1 3 (by omega) (by omega)
  have e4 := h1 4 (by omega) (by omega)
  have e6 := h1 6 (by omega) (by omega)
  have e10 := h1 10 (by omega) (by omega)
  have e11 := h1 11 (by omega) (by omega)
  have e12 := h1 12 (by omega) (by omega)
  have e14 := h1 14 (by omega) (by omega)
  have e15 := h1 15 (by omega) (by omega)
  have e16 := h1 16 (by omega) (by omega)
  unfold z_pf
  rw [h5]
  obtain ⟨made, hmade⟩ : ∃ v, v = (if kind = 4 then (5 : Int32) else obj) := ⟨_, rfl⟩
  obtain ⟨by', hby⟩ : ∃ v, v = (if kind = 4 then V 0 i 5 else type) := ⟨_, rfl⟩
  rw [← hmade, ← hby]
  have hm5 : made = 5 → ¬ U 0 i 4 = 0 := by
    intro h hz
    obtain ⟨n1, n2, n3⟩ := hno hz
    rw [hmade, if_neg n3] at h
    exact n2 h
  have hb5 : by' = 5 → ¬ U 0 i 4 = 0 := by
    intro h hz
    obtain ⟨n1, n2, n3⟩ := hno hz
    rw [hby, if_neg n3] at h
    exact n1 h
  have hmv : z_v6 made := by
    rw [hmade]
    split
    · exact Or.inr z_5
    · exact hob
  have a18 : ∀ r, z_lt r 6 → (r = 5 → ¬ U 0 i 4 = 0) → U 18 i r.toNatClampNeg = V 18 i r.toNatClampNeg := by
    intro r hr6 hr5
    obtain ⟨t, ht, rfl⟩ := hr6
    rw [nI_clamp (by omega)]
    rcases Nat.lt_or_ge t 5 with h | h
    · exact h18 t h
    · obtain rfl : t = 5 := by omega
      exact (hX (hr5 rfl)).1
  have eM : z_pfM U i made = z_pfM V i made := by
    unfold z_pfM z_mf
    rw [e2, e3, e4, e6, h5]
  have eT : z_tf U i kind by' = z_tf V i kind by' := by
    unfold z_tf
    rw [e2, e3]
  unfold z_pfA
  rw [eM, eT]
  by_cases c1 : z_pfM V i made = 45
  · rw [if_pos c1, if_pos c1]
    by_cases c2 : kind = 0
    · rw [if_pos c2, if_pos c2]
    · rw [if_neg c2, if_neg c2]
      by_cases c3 : z_tf V i kind by' = 45
      · rw [if_pos c3, if_pos c3]
        have hmem := hmm c2
        have hbv : z_v6 by' := by
          rw [hby]
          split
          · rw [← h5]; exact z_v56 hg
          · exact hty
        have hb6 : z_lt by' 6 := z_v6n hbv (z_tfn c3)
        have look : ∀ k, (k = 23 ∨ k = 24 ∨ k = 25) → ∀ r, z_lt r 6 → (r = 5 → ¬ U 0 i 4 = 0) → U k i (r * 6 + mem).toNatClampNeg = V k i (r * 6 + mem).toNatClampNeg :=
          fun k hk r h6 h5' => z_idx (hr k hk) (fun e => (hX (h5' e)).2 k hk) h6 hmem
        have eO : z_pfO U i by' mem (z_isCall kind) = z_pfO V i by' mem (z_isCall kind) := by
          unfold z_pfO
          rw [look 25 (by omega) _ hb6 hb5, look 23 (by omega) _ hb6 hb5]
        rw [eO]
        obtain ⟨own, hown⟩ : ∃ v, v = z_pfO V i by' mem (z_isCall kind) := ⟨_, rfl⟩
        rw [← hown]
        have eN : z_pfN U i kind mem (z_isCall kind) own = z_pfN V i kind mem (z_isCall kind) own := by
          unfold z_pfN
          rw [e16, e12]
        have eD : z_pfD U i kind made by' mem (z_isCall kind) own = z_pfD V i kind made by' mem (z_isCall kind) own := by
          unfold z_pfD
          have eR : z_rch U i made by' = z_rch V i made by' := by
            unfold z_rch
            by_cases c : made = -1
            · rw [if_pos c, if_pos c]
            · rw [if_neg c, if_neg c, a18 made (z_v6n hmv c) hm5]
          have eE : z_pfE U i kind made by' mem (z_isCall kind) own = z_pfE V i kind made by' mem (z_isCall kind) own := by
            unfold z_pfE
            rw [eN]
            by_cases d1 : z_isCall kind = 0
            · rw [if_pos d1, if_pos d1]
            · rw [if_neg d1, if_neg d1]
              by_cases d2 : kind = 1
              · rw [if_pos d2, if_pos d2]
              · rw [if_neg d2, if_neg d2]
                have hrow : z_lt (if kind = 4 then by' else made) 6 ∧ ((if kind = 4 then by' else made) = 5 → ¬ U 0 i 4 = 0) := by
                  by_cases d3 : kind = 4
                  · rw [if_pos d3]; exact ⟨hb6, hb5⟩
                  · rw [if_neg d3]
                    refine ⟨?_, hm5⟩
                    rw [hmade, if_neg d3]
                    exact hob23 (z_kcall hk d1 d2 d3)
                unfold z_dis
                rw [look 24 (by omega) _ hrow.1 hrow.2, e10, e12]
          rw [eR, eE]
        have eU : z_pfU U i kind made mem (z_isCall kind) own = z_pfU V i kind made mem (z_isCall kind) own := by
          unfold z_pfU z_uf
          have eK : z_ufK U i own made = z_ufK V i own made := by
            unfold z_ufK
            rw [← h4]
            by_cases c : U 0 i 4 = 0
            · rw [if_pos c, if_pos c]
            · rw [if_neg c, if_neg c, z_c5, (hX c).1]
          rw [eK, e10, e11, e14, e15]
        have eC : z_pfC U i kind made by' mem (z_isCall kind) own = z_pfC V i kind made by' mem (z_isCall kind) own := by
          unfold z_pfC
          rw [eU, eD]
        unfold z_pfB
        rw [eC]
        have eI : z_isc U i own = z_isc V i own := by
          unfold z_isc
          rw [e2]
        rw [eI]
      · rw [if_neg c3, if_neg c3]
  · rw [if_neg c1, if_neg c1]
/-! ===== LOADING depends on a machine's own cells, and on what X holds ===== -/
theorem z_loadF_congr {T V : qM} {i j j' : Nat} (h : ∀ k, 1 < k → k < 17 → T k i = V k i) (hf : ∀ p, p < 4 → T 28 j p = V 28 j' p) : z_loadF i j T = z_loadF i j' V := by
  have f0 := hf 0 (by omega)
  have f1 := hf 1 (by omega)
  have f2 := hf 2 (by omega)
  have f3 := hf 3 (by omega)
  have a := (z_ld2_o (i := i) (j := j) (S := T)).1
  have b := (z_ld2_o (i := i) (j := j') (S := V)).1
  have g : ∀ k, 1 < k → k < 17 → z_ld2 i j T k i = z_ld2 i j' V k i := fun k h1 h2 => by rw [a k i (by omega), b k i (by omega), h k h1 h2]
  have eaf : ∀ x y, z_af (z_ld2 i j T) i x y = z_af (z_ld2 i j' V) i x y := by
    intro x y
    unfold z_af
    rw [g 2 (by omega) (by omega), g 5 (by omega) (by omega), g 3 (by omega) (by omega)]
  have elf : ∀ itf n m f, z_lf (z_ld2 i j T) i itf n m f = z_lf (z_ld2 i j' V) i itf n m f := by
    intro itf n
    induction n with
    | zero => intros; rfl
    | succ n ih =>
      intro m f
      unfold z_lf z_lfS
      rw [eaf, ih]
  have ebar : ∀ mem n x, z_bar (z_ld2 i j T) i mem n x = z_bar (z_ld2 i j' V) i mem n x := by
    intro mem n
    induction n with
    | zero => intros; rfl
    | succ n ih =>
      intro x
      unfold z_bar
      rw [g 10 (by omega) (by omega), g 11 (by omega) (by omega), g 7 (by omega) (by omega), ih]
  unfold z_loadF z_ldB z_ldA
  rw [a 28 j (by omega), b 28 j' (by omega), f0, f1, f2, f3, eaf, elf, ebar]
/-- a machine's cells that no loading changes, and the others' -/
def z_bs (i : Nat) (S T : qM) : Prop := (∀ k, 0 < k → k < 27 → ¬ (k = 18 ∨ k = 19 ∨ k = 20 ∨ k = 23 ∨ k = 24 ∨ k = 25) → T k i = S k i) ∧ (∀ p, p ≠ 4 → p ≠ 5 → T 0 i p = S 0 i p) ∧ (∀ p, p ≠ 5 → T 18 i p = S 18 i p) ∧
  (∀ k, (k = 19 ∨ k = 20 ∨ k = 23 ∨ k = 24 ∨ k = 25) → ∀ p, (p < 30 ∨ 36 ≤ p) → T k i p = S k i p)
theorem z_bs.rf {i : Nat} {S : qM} : z_bs i S S := ⟨fun _ _ _ _ => rfl, fun _ _ _ => rfl, fun _ _ => rfl, fun _ _ _ _ => rfl⟩
theorem z_bs.tr {i : Nat} {S T U : qM} (h : z_bs i S T) (g : z_bs i T U) : z_bs i S U :=
  ⟨fun k a b c => (g.1 k a b c).trans (h.1 k a b c), fun p a b => (g.2.1 p a b).trans (h.2.1 p a b), fun p a => (g.2.2.1 p a).trans (h.2.2.1 p a), fun k a p b => (g.2.2.2 k a p b).trans (h.2.2.2 k a p b)⟩
theorem z_bs_load {i i' j : Nat} {S : qM} (hs : z_v5 (S 28 j 1)) : z_bs i S (z_loadS i' j S) := by
  by_cases hii : i = i'
  · subst hii
    by_cases hc : S 28 j 0 = 0 ∨ ¬ z_loadF i j S = 45
    · rw [z_load_no hc]
      obtain ⟨a1, a2, -, -⟩ := z_ld2_o (i := i) (j := j) (S := S)
      exact ⟨fun k h1 h2 h3 => a1 k i (by omega), a2, fun p _ => by rw [a1 18 i (by omega)], fun k hk p _ => by rw [a1 k i (by omega)]⟩
    · obtain ⟨c1, c2, c3, c4, c5, c6, c7, c8⟩ := z_load_ok hs (fun h => hc (Or.inl h)) (Decidable.not_not.mp fun h => hc (Or.inr h))
      exact ⟨fun k h1 h2 h3 => c1 k i (by omega), c2, c5, c7⟩
  · have fr := z_load_fr (i := i') (j := j) (S := S) hs
    exact ⟨fun k _ _ _ => fr k i (by omega), fun p _ _ => by rw [fr 0 i (by omega)], fun p _ => by rw [fr 18 i (by omega)], fun k _ p _ => by rw [fr k i (by omega)]⟩
theorem z_xab_congr {A B : Nat → Int32} {itf sup : Int32} (hs : z_v5 sup) (h : ∀ p, p ≠ 5 → A p = B p) : z_xab A itf sup = z_xab B itf sup := by
  have cong : ∀ n m v, m + n ≤ 5 → z_xa1 A itf n m v = z_xa1 B itf n m v := by
    intro n
    induction n with
    | zero => intros; rfl
    | succ n ih2 =>
      intro m v hmn
      unfold z_xa1
      rw [h m (by omega)]
      exact ih2 _ _ (by omega)
  unfold z_xab
  rw [cong 5 0 _ (by omega)]
  split
  · rfl
  · rename_i h1
    obtain ⟨t, ht, rfl⟩ := z_v5n hs h1
    rw [nI_clamp (by omega), h t (by omega)]
/-- the machine as it is behind a loading of what f holds, out of its own cells -/
def z_put (S : qM) (f : Nat → Int32) : qM := q_up S 28 5 f
theorem z_put_o {S : qM} {f : Nat → Int32} : (∀ k i, ¬ (k = 28 ∧ i = 5) → z_put S f k i = S k i) ∧ z_put S f 28 5 = f := ⟨fun k i h => by simp only [z_put, q_up, if_neg h], by simp only [z_put, q_up, and_self, if_true]⟩
def z_ownf (f : Nat → Int32) : Prop := z_bool (f 0) ∧ z_v5 (f 1) ∧ z_v6 (f 3)
/-- an act that needs no X where there is none -/
def z_actX (f : Nat → Int32) (kind type obj : Int32) : Prop := f 0 = 0 → ¬ type = 5 ∧ ¬ obj = 5 ∧ ¬ kind = 4
theorem z_lc {S T : qM} {i j : Nat} {f : Nat → Int32} (hb : z_bs i S T) (hf : ∀ p, p < 4 → T 28 j p = f p) (ho : z_ownf f) :
    z_loadF i j T = z_loadF i 5 (z_put S f) ∧ (z_loadF i j T = 45 → ∀ kind type mem obj, z_actR kind type mem obj → z_actX f kind type obj → z_pf (z_loadS i j T) i kind type mem obj = z_pf (z_loadS i 5 (z_put S f)) i kind type mem obj) := by
  obtain ⟨p1, p2⟩ := z_put_o (S := S) (f := f)
  have hV : ∀ p, p < 4 → z_put S f 28 5 p = f p := fun p _ => by rw [p2]
  have eF : z_loadF i j T = z_loadF i 5 (z_put S f) := z_loadF_congr (fun k h1 h2 => by rw [p1 k i (by omega)]; exact hb.1 k (by omega) (by omega) (by omega)) (fun p hp => by rw [hf p hp, hV p hp])
  refine ⟨eF, fun hF kind type mem obj hact hX => ?_⟩
  have t0 := hf 0 (by omega)
  have t1 := hf 1 (by omega)
  have t2 := hf 2 (by omega)
  have t3 := hf 3 (by omega)
  have v0 := hV 0 (by omega)
  have v1 := hV 1 (by omega)
  have v2 := hV 2 (by omega)
  have v3 := hV 3 (by omega)
  by_cases hth : f 0 = 0
  · rw [z_load_no (Or.inl (t0.trans hth)), z_load_no (Or.inl (v0.trans hth))]
    obtain ⟨a1, a2, a3, a4⟩ := z_ld2_o (i := i) (j := j) (S := T)
    obtain ⟨b1, b2, b3, b4⟩ := z_ld2_o (i := i) (j := 5) (S := z_put S f)
    refine z_pf_congr (fun k h1 h2 => ?_) (by rw [a3, b3, t0, v0]) (by rw [a4, b4, t1, v1]) (fun p hp => ?_) (fun k hk p hp => ?_) (fun h => absurd (by rw [a3, t0, hth]) h) (by rw [a4, t1]; exact ho.2.1) hact (fun _ => hX hth)
    · rw [a1 k i (by omega), b1 k i (by omega), p1 k i (by omega)]
      exact hb.1 k (by omega) (by omega) (by omega)
    · rw [a1 18 i (by omega), b1 18 i (by omega), p1 18 i (by omega)]
      exact hb.2.2.1 p (by omega)
    · rw [a1 k i (by omega), b1 k i (by omega), p1 k i (by omega)]
      exact hb.2.2.2 k (by omega) p (by omega)
  · have hF' : z_loadF i 5 (z_put S f) = 45 := eF ▸ hF
    obtain ⟨c1, c2, c3, c4, c5, c6, c7, c8⟩ := z_load_ok (i := i) (j := j) (S := T) (by rw [t1]; exact ho.2.1) (by rw [t0]; exact hth) hF
    obtain ⟨d1, d2, d3, d4, d5, d6, d7, d8⟩ := z_load_ok (i := i) (j := 5) (S := z_put S f) (by rw [v1]; exact ho.2.1) (by rw [v0]; exact hth) hF'
    have b18 : ∀ p, p ≠ 5 → T 18 i p = z_put S f 18 i p := fun p hp => by rw [p1 18 i (by omega)]; exact hb.2.2.1 p hp
    have br : ∀ k, (k = 19 ∨ k = 20 ∨ k = 23 ∨ k = 24 ∨ k = 25) → ∀ p, p < 30 → T k i p = z_put S f k i p := fun k hk p hp => by rw [p1 k i (by omega)]; exact hb.2.2.2 k hk p (by omega)
    have bk : ∀ k, 0 < k → k < 27 → ¬ (k = 18 ∨ k = 19 ∨ k = 20 ∨ k = 23 ∨ k = 24 ∨ k = 25) → T k i = z_put S f k i := fun k h1 h2 h3 => by rw [p1 k i (by omega)]; exact hb.1 k h1 h2 h3
    have exa : z_xab (T 18 i) (f 2) (f 1) = z_xab (z_put S f 18 i) (f 2) (f 1) := z_xab_congr ho.2.1 b18
    have eXN : ∀ q, z_XN T i (f 1) (f 2) q = z_XN (z_put S f) i (f 1) (f 2) q := by
      intro q
      unfold z_XN
      rw [exa, bk 21 (by omega) (by omega) (by omega)]
      exact z_near_congr fun p hp => b18 p (by omega)
    refine z_pf_congr (fun k h1 h2 => ?_) (by rw [c3, d3, t0, v0]) (by rw [c4, d4, t1, v1]) (fun p hp => ?_) (fun k hk p hp => ?_) (fun _ => ⟨?_, fun k hk q hq => ?_⟩) (by rw [c4, t1]; exact ho.2.1) hact (fun h => absurd (by rw [← t0, ← c3]; exact h) hth)
    · rw [c1 k i (by omega), d1 k i (by omega), bk k (by omega) (by omega) (by omega)]
    · rw [c5 p (by omega), d5 p (by omega), b18 p (by omega)]
    · rw [c7 k (by omega) p (by omega), d7 k (by omega) p (by omega), br k (by omega) p hp]
    · rw [c6, d6, t1, t2, v1, v2, exa]
    · obtain ⟨x1, x2, x3, x4, x5⟩ := c8 q hq
      obtain ⟨y1, y2, y3, y4, y5⟩ := d8 q hq
      rw [t1, t2] at x3
      rw [v1, v2] at y3
      rw [t1, t2, t3] at x4 x5
      rw [v1, v2, v3] at y4 y5
      rcases hk with rfl | rfl | rfl
      · rw [x4, y4]
        unfold z_XR
        rw [eXN, z_xfi_congr hq ho.2.1 (br 19 (by omega)), bk 22 (by omega) (by omega) (by omega)]
      · rw [x5, y5]
        unfold z_XL
        rw [eXN, z_xfi_congr hq ho.2.1 (br 20 (by omega)), bk 22 (by omega) (by omega) (by omega), bk 11 (by omega) (by omega) (by omega)]
      · rw [x3, y3]
        exact z_inh_congr hq ho.2.1 (br 25 (by omega))
/-- a client of one act goes through by a machine -/
def z_pass (S : qM) (i : Nat) (f : Nat → Int32) (kind type mem obj : Int32) : Prop := z_loadF i 5 (z_put S f) = 45 ∧ 0 ≤ z_pf (z_loadS i 5 (z_put S f)) i kind type mem obj
/-- it tells two machines apart -/
def z_tells (S : qM) (a b : Nat) (f : Nat → Int32) (kind type mem obj : Int32) : Prop := z_pass S a f kind type mem obj ∧ ¬ z_pass S b f kind type mem obj
