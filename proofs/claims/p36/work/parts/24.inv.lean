/-! ===== WHAT THE LOOKER KEEPS while it looks ===== -/
def z_fr (a b : Nat) (S T : qM) : Prop := z_bs a S T ∧ z_bs b S T ∧ (∀ k i, (k < 27 → i ≠ a ∧ i ≠ b) → k ≠ 35 → ¬ (k = 28 ∧ (i = 4 ∨ i = 5)) → ¬ (k = 27 ∧ i = 4) → ¬ (28 < k ∧ k < 33 ∧ i = 4) → T k i = S k i) ∧ (∀ p, p ≠ 4 → T 35 0 p = S 35 0 p)
def z_I (S : qM) (a b : Nat) (T : qM) : Prop := z_fr a b S T ∧ z_wf T a ∧ z_wf T b ∧ z_bool (T 28 5 0)
theorem z_fr.rf {a b : Nat} {S : qM} : z_fr a b S S := ⟨z_bs.rf, z_bs.rf, fun _ _ _ _ _ _ _ => rfl, fun _ _ => rfl⟩
theorem z_fr.tr {a b : Nat} {S T U : qM} (h : z_fr a b S T) (g : z_fr a b T U) : z_fr a b S U :=
  ⟨h.1.tr g.1, h.2.1.tr g.2.1, fun k i x1 x2 x3 x4 x5 => (g.2.2.1 k i x1 x2 x3 x4 x5).trans (h.2.2.1 k i x1 x2 x3 x4 x5), fun p hp => (g.2.2.2 p hp).trans (h.2.2.2 p hp)⟩
/-- a change of cells that are not a machine's -/
theorem z_bs_out {i : Nat} {T U : qM} (h : ∀ k, k < 27 → U k i = T k i) : z_bs i T U :=
  ⟨fun k h1 h2 _ => h k h2, fun p _ _ => by rw [h 0 (by omega)], fun p _ => by rw [h 18 (by omega)], fun k hk p _ => by rw [h k (by omega)]⟩
theorem z_wf_out {i : Nat} {T U : qM} (h : ∀ k, k < 27 → U k i = T k i) (hw : z_wf T i) : z_wf U i := by
  unfold z_wf z_sups z_tabs
  rw [h 7 (by omega), h 19 (by omega), h 20 (by omega), h 23 (by omega), h 24 (by omega), h 25 (by omega), h 0 (by omega)]
  exact hw
theorem z_fr_load {a b i : Nat} {S : qM} (hi : i = a ∨ i = b) (hs : z_v5 (S 28 5 1)) : z_fr a b S (z_loadS i 5 S) := by
  have fr := z_load_fr (i := i) (j := 5) (S := S) hs
  exact ⟨z_bs_load hs, z_bs_load hs, fun k j x1 x2 x3 x4 x5 => fr k j (by omega), fun p _ => by rw [fr 35 0 (by omega)]⟩
theorem z_wf_load {i i' : Nat} {S : qM} (hw : z_wf S i) (ho : z_own S 5) : z_wf (z_loadS i' 5 S) i := by
  by_cases h : i = i'
  · subst h
    exact z_load_wf hw ho
  · exact z_wf_out (fun k hk => z_load_fr ho.2.1 k i (by omega)) hw
theorem z_I_load {a b i : Nat} {S T : qM} (hi : i = a ∨ i = b) (hI : z_I S a b T) (ho : z_own T 5) : z_I S a b (z_loadS i 5 T) := by
  refine ⟨hI.1.tr (z_fr_load hi ho.2.1), z_wf_load hI.2.1 ho, z_wf_load hI.2.2.1 ho, ?_⟩
  rw [z_load_fr ho.2.1 28 5 (by omega)]
  exact hI.2.2.2
def z_fx (u p m : Nat) : Nat → Int32 := fun j => if j = 0 then 1 else if j = 1 then z_c u else if j = 2 then q_pairs p else z_c m
theorem z_oset_o {T : qM} {x y z : Int32} : (∀ k i, ¬ (k = 28 ∧ i = 5) → z_oset 5 x y z T k i = T k i) ∧ z_oset 5 x y z T 28 5 0 = 1 ∧ z_oset 5 x y z T 28 5 1 = x ∧ z_oset 5 x y z T 28 5 2 = y ∧ z_oset 5 x y z T 28 5 3 = z := by
  refine ⟨fun k i h => by simp only [z_oset, q_up, if_neg h], ?_, ?_, ?_, ?_⟩ <;> simp (config := {decide := true}) only [z_oset, q_up, upd, and_self, if_true, if_false]
theorem z_oset_fx {T : qM} {u p m : Nat} : ∀ j, j < 4 → z_oset 5 (z_c u) (q_pairs p) (z_c m) T 28 5 j = z_fx u p m j := by
  intro j hj
  obtain ⟨-, h0, h1, h2, h3⟩ := z_oset_o (T := T) (x := z_c u) (y := q_pairs p) (z := z_c m)
  have : j = 0 ∨ j = 1 ∨ j = 2 ∨ j = 3 := by omega
  rcases this with rfl | rfl | rfl | rfl
  · exact h0
  · exact h1
  · exact h2
  · exact h3
theorem z_fx_own {u p m : Nat} (hu : u ≤ 5) (hm : m ≤ 6) : z_ownf (z_fx u p m) := by
  refine ⟨Or.inr rfl, ?_, z_cv6 hm⟩
  show z_v5 (z_c u)
  cases u with
  | zero => exact Or.inl z_c0
  | succ n => exact Or.inr ⟨n, by omega, z_cs n⟩
theorem z_I_set {a b : Nat} {S T : qM} {x y z : Int32} (hI : z_I S a b T) : z_I S a b (z_oset 5 x y z T) := by
  have o := (z_oset_o (T := T) (x := x) (y := y) (z := z)).1
  have ok : ∀ i k, k < 27 → z_oset 5 x y z T k i = T k i := fun i k hk => o k i (by omega)
  refine ⟨hI.1.tr ⟨z_bs_out (ok a), z_bs_out (ok b), fun k i x1 x2 x3 x4 x5 => o k i (by omega), fun p _ => by rw [o 35 0 (by omega)]⟩, z_wf_out (ok a) hI.2.1, z_wf_out (ok b) hI.2.2.1, ?_⟩
  exact Or.inr z_oset_o.2.1
/-- what is kept of the least client -/
def z_found (T : qM) (f : Nat → Int32) (k t m o : Nat) : Prop := T 35 0 4 < z_NF ∧ (∀ p, p < 4 → T 28 4 p = f p) ∧ T 27 4 1 = nI 1 ∧ T 29 4 0 = nI k ∧ T 30 4 0 = z_c t ∧ T 31 4 0 = z_c m ∧ T 32 4 0 = z_c o
theorem z_found_out {T U : qM} {f : Nat → Int32} {k t m o : Nat} (h35 : U 35 0 4 = T 35 0 4) (h28 : U 28 4 = T 28 4) (h27 : U 27 4 = T 27 4) (h29 : ∀ k, 28 < k → k < 33 → U k 4 = T k 4) (h : z_found T f k t m o) : z_found U f k t m o := by
  unfold z_found
  rw [h35, h28, h27, h29 29 (by omega) (by omega), h29 30 (by omega) (by omega), h29 31 (by omega) (by omega), h29 32 (by omega) (by omega)]
  exact h
theorem z_keep_o {T : qM} {c k t m o : Int32} : (∀ k' i', ¬ (k' = 35 ∧ i' = 0) → ¬ (k' = 28 ∧ i' = 4) → ¬ (k' = 27 ∧ i' = 4) → ¬ (28 < k' ∧ k' < 33 ∧ i' = 4) → z_keep c k t m o T k' i' = T k' i') ∧ (∀ p, p ≠ 4 → z_keep c k t m o T 35 0 p = T 35 0 p) ∧ z_keep c k t m o T 35 0 4 = c ∧
    (∀ p, p < 4 → z_keep c k t m o T 28 4 p = T 28 5 p) ∧ z_keep c k t m o T 27 4 1 = nI 1 ∧ z_keep c k t m o T 29 4 0 = k ∧ z_keep c k t m o T 30 4 0 = t ∧ z_keep c k t m o T 31 4 0 = m ∧ z_keep c k t m o T 32 4 0 = o := by
  obtain ⟨U, hU⟩ : ∃ U, U = z_obec 4 5 (q_up (q_up T 35 0 (upd (T 35 0) 4 c)) 27 4 (upd (T 27 4) 1 0)) := ⟨_, rfl⟩
  have u27 : U 27 4 1 = 0 := by
    rw [hU]
    simp (config := {decide := true}) only [z_obec, q_up, upd, and_self, if_true, if_false, false_and, and_false]
  have u28 : ∀ p, p < 4 → U 28 4 p = T 28 5 p := by
    intro p hp
    have : p = 0 ∨ p = 1 ∨ p = 2 ∨ p = 3 := by omega
    rw [hU]
    rcases this with rfl | rfl | rfl | rfl <;> simp (config := {decide := true}) only [z_obec, q_up, upd, and_self, if_true, if_false, false_and, and_false]
  have u35 : ∀ p, U 35 0 p = if p = 4 then c else T 35 0 p := by
    intro p
    rw [hU]
    simp (config := {decide := true}) only [z_obec, q_up, upd, and_self, if_true, if_false, false_and, and_false]
  have uo : ∀ k' i', ¬ (k' = 35 ∧ i' = 0) → ¬ (k' = 28 ∧ i' = 4) → ¬ (k' = 27 ∧ i' = 4) → U k' i' = T k' i' := by
    intro k' i' h1 h2 h3
    rw [hU]
    simp only [z_obec, q_up, if_neg h1, if_neg h2, if_neg h3]
  have e : z_keep c k t m o T = z_add 4 k t m o U := by rw [hU]; rfl
  rw [e]
  unfold z_add
  rw [if_pos (by rw [u27]; decide), u27]
  have z : (0 : Int32).toNatClampNeg = 0 := by decide
  rw [z]
  refine ⟨fun k' i' h1 h2 h3 h4 => ?_, fun p hp => ?_, ?_, fun p hp => ?_, ?_, ?_, ?_, ?_, ?_⟩
  · simp only [q_up]
    rw [if_neg h3, if_neg (by omega), if_neg (by omega), if_neg (by omega), if_neg (by omega)]
    exact uo k' i' h1 h2 h3
  · simp (config := {decide := true}) only [q_up, if_false, false_and]
    rw [u35, if_neg hp]
  · simp (config := {decide := true}) only [q_up, if_false, false_and]
    rw [u35, if_pos rfl]
  · simp (config := {decide := true}) only [q_up, if_false, false_and]
    exact u28 p hp
  all_goals first | (simp (config := {decide := true}) only [q_up, upd, and_self, if_true, if_false, false_and]; done) | (simp (config := {decide := true}) only [q_up, upd, and_self, if_true, if_false, false_and]; decide)
theorem z_I_keep {a b : Nat} {S T : qM} {c k t m o : Int32} (ha : a < 4) (hb : b < 4) (hI : z_I S a b T) : z_I S a b (z_keep c k t m o T) := by
  obtain ⟨o1, o2, -⟩ := z_keep_o (T := T) (c := c) (k := k) (t := t) (m := m) (o := o)
  have ok : ∀ i k', k' < 27 → z_keep c k t m o T k' i = T k' i := fun i k' hk => o1 k' i (by omega) (by omega) (by omega) (by omega)
  refine ⟨hI.1.tr ⟨z_bs_out (ok a), z_bs_out (ok b), fun k' i x1 x2 x3 x4 x5 => o1 k' i (by omega) (by omega) (by omega) (by omega), o2⟩, z_wf_out (ok a) hI.2.1, z_wf_out (ok b) hI.2.2.1, ?_⟩
  rw [o1 28 5 (by omega) (by omega) (by omega) (by omega)]
  exact hI.2.2.2
/-- whether the later machine doesn't load -/
def z_br (S : qM) (b : Nat) (f : Nat → Int32) : Int32 := if z_loadF b 5 (z_put S f) = 45 then 0 else 1
theorem z_E_congr {S T : qM} {a : Nat} {br : Int32} {k t m o : Nat} (h0 : S 28 5 0 = T 28 5 0) (h3 : S 28 5 3 = T 28 5 3) (h26 : S 26 a = T 26 a) : z_E S a br k t m o ↔ z_E T a br k t m o := by
  unfold z_E z_te z_oe z_os z_fo z_lt9 z_wt
  rw [h0, h3, h26]
theorem z_E_X {S : qM} {a : Nat} {br : Int32} {k t m o : Nat} (h0 : S 28 5 0 = 0) (hE : z_E S a br k t m o) : ¬ z_c t = 5 ∧ ¬ z_c o = 5 ∧ ¬ nI k = 4 := by
  obtain ⟨hk, ht, hm, ho⟩ := hE
  have n5 : ∀ n, n ≤ 5 → ¬ z_c n = 5 := by
    intro n hn
    have : ∀ n, n < 6 → ¬ z_c n = 5 := by decide +kernel
    exact this n (by omega)
  have hl : z_lt9 S = 4 := by unfold z_lt9; rw [if_pos h0]
  refine ⟨n5 t ?_, n5 o ?_, fun h4 => ?_⟩
  · have := ht.2
    unfold z_te at this
    rw [hl] at this
    split at this <;> omega
  · have := ho.2
    unfold z_oe at this
    rw [hl] at this
    split at this <;> omega
  · have h1 := hm.1
    unfold z_ms at h1
    rw [h4, if_neg (by decide)] at h1
    rcases hm.2.2 with h | h
    · omega
    · apply h
      unfold z_wt
      rw [h4, if_pos rfl, if_pos h0]
      exact z_has0 _
/-- the pass of an act by the loaded machines is that of the two machines' own cells -/
theorem z_two {S T1 : qM} {a b : Nat} {f : Nat → Int32} (hI : z_I S a b T1) (hf : ∀ p, p < 4 → T1 28 5 p = f p) (ho : z_ownf f) (hFa : z_loadF a 5 T1 = 45) :
    z_loadF a 5 (z_put S f) = 45 ∧ z_loadF b 5 (z_loadS a 5 T1) = z_loadF b 5 (z_put S f) ∧
    (∀ kind type mem obj, z_actR kind type mem obj → z_actX f kind type obj →
      z_pf (z_loadS b 5 (z_loadS a 5 T1)) a kind type mem obj = z_pf (z_loadS a 5 (z_put S f)) a kind type mem obj ∧
      (z_loadF b 5 (z_put S f) = 45 → z_pf (z_loadS b 5 (z_loadS a 5 T1)) b kind type mem obj = z_pf (z_loadS b 5 (z_put S f)) b kind type mem obj)) := by
  have own1 : z_own T1 5 := ⟨by rw [hf 0 (by omega)]; exact ho.1, by rw [hf 1 (by omega)]; exact ho.2.1, by rw [hf 3 (by omega)]; exact ho.2.2⟩
  have fr2 : ∀ p, z_loadS a 5 T1 28 5 p = T1 28 5 p := fun p => by rw [z_load_fr own1.2.1 28 5 (by omega)]
  have hf2 : ∀ p, p < 4 → z_loadS a 5 T1 28 5 p = f p := fun p hp => (fr2 p).trans (hf p hp)
  have own2 : z_own (z_loadS a 5 T1) 5 := ⟨by rw [hf2 0 (by omega)]; exact ho.1, by rw [hf2 1 (by omega)]; exact ho.2.1, by rw [hf2 3 (by omega)]; exact ho.2.2⟩
  have I2 : z_I S a b (z_loadS a 5 T1) := z_I_load (Or.inl rfl) hI own1
  have La := z_lc hI.1.1 hf ho
  have Lb := z_lc I2.1.2.1 hf2 ho
  refine ⟨La.1 ▸ hFa, Lb.1, fun kind type mem obj hact hX => ⟨?_, fun hFb => Lb.2 (Lb.1.trans hFb) _ _ _ _ hact hX⟩⟩
  by_cases hab : b = a
  · subst hab
    have L2 := z_lc I2.1.1 hf2 ho
    exact L2.2 (L2.1.trans (La.1 ▸ hFa)) _ _ _ _ hact hX
  · rw [← La.2 hFa _ _ _ _ hact hX]
    have eq : ∀ k, z_loadS b 5 (z_loadS a 5 T1) k a = z_loadS a 5 T1 k a := fun k => z_load_fr own2.2.1 k a (by omega)
    refine z_pf_congr (fun k _ _ => eq k) (by rw [eq 0]) (by rw [eq 0]) (fun p _ => by rw [eq 18]) (fun k _ p _ => by rw [eq k]) (fun _ => ⟨by rw [eq 18], fun k _ q _ => by rw [eq k]⟩) (by rw [eq 0]; exact I2.2.1.2.2.2.2.2.2) hact (fun h => hX ?_)
    rw [eq 0] at h
    by_cases hth : f 0 = 0
    · exact hth
    · have := (z_load_ok (i := a) (j := 5) (S := T1) own1.2.1 (by rw [hf 0 (by omega)]; exact hth) hFa).2.2.1
      rw [this, hf 0 (by omega)] at h
      exact h
def z_no (S : qM) (a b : Nat) (f : Nat → Int32) : Prop := z_loadF a 5 (z_put S f) = 45 → ∀ k t m o, z_E (z_put S f) a (z_br S b f) k t m o → ¬ z_tells S a b f (nI k) (z_c t) (z_c m) (z_c o)
/-- one turn of tryActs -/
theorem z_turn {S T1 S' : qM} {a b : Nat} {f : Nat → Int32} {br : Int32} (ha : a < 4) (hb : b < 4) (hI : z_I S a b T1) (hf : ∀ p, p < 4 → T1 28 5 p = f p) (ho : z_ownf f) (hFa : z_loadF a 5 T1 = 45)
    (hbr : br = if z_loadF b 5 (z_loadS a 5 T1) = 45 then 0 else 1) (hp : z_taPost a b br (z_loadS b 5 (z_loadS a 5 T1)) S') :
    z_I S a b S' ∧ ((S' 35 0 4 = T1 35 0 4 ∧ (∀ g k t m o, z_found T1 g k t m o → z_found S' g k t m o) ∧ (T1 35 0 4 = z_NF → z_no S a b f)) ∨
      (∃ k t m o, z_E (z_put S f) a (z_br S b f) k t m o ∧ z_tells S a b f (nI k) (z_c t) (z_c m) (z_c o) ∧ z_found S' f k t m o)) := by
  have own1 : z_own T1 5 := ⟨by rw [hf 0 (by omega)]; exact ho.1, by rw [hf 1 (by omega)]; exact ho.2.1, by rw [hf 3 (by omega)]; exact ho.2.2⟩
  have fr2 : ∀ k i, (26 < k) → z_loadS a 5 T1 k i = T1 k i := fun k i hk => z_load_fr own1.2.1 k i (by omega)
  have own2 : z_own (z_loadS a 5 T1) 5 := by unfold z_own; rw [fr2 28 5 (by omega)]; exact own1
  have fr3 : ∀ k i, (26 < k) → z_loadS b 5 (z_loadS a 5 T1) k i = T1 k i := fun k i hk => (z_load_fr own2.2.1 k i (by omega)).trans (fr2 k i hk)
  have I3 : z_I S a b (z_loadS b 5 (z_loadS a 5 T1)) := z_I_load (Or.inr rfl) (z_I_load (Or.inl rfl) hI own1) own2
  obtain ⟨Fa, Fb, P⟩ := z_two hI hf ho hFa
  have ebr : br = z_br S b f := by rw [hbr, Fb]; rfl
  have v := z_put_o (S := S) (f := f)
  obtain ⟨T3, hT3⟩ : ∃ T3, T3 = z_loadS b 5 (z_loadS a 5 T1) := ⟨_, rfl⟩
  rw [← hT3] at hp I3 fr3 P
  have e28 : ∀ p, p < 4 → T3 28 5 p = f p := fun p hp => by rw [fr3 28 5 (by omega)]; exact hf p hp
  have e26 : T3 26 a = z_put S f 26 a := by rw [v.1 26 a (by omega)]; exact I3.1.1.1 26 (by omega) (by omega) (by omega)
  have eE : ∀ k t m o, z_E T3 a br k t m o ↔ z_E (z_put S f) a (z_br S b f) k t m o := by
    intro k t m o
    rw [← ebr]
    exact z_E_congr (by rw [e28 0 (by omega), v.2]) (by rw [e28 3 (by omega), v.2]) e26
  have eT : ∀ k t m o, z_E T3 a br k t m o → (z_tell T3 a b br (nI k) (z_c t) (z_c m) (z_c o) ↔ z_tells S a b f (nI k) (z_c t) (z_c m) (z_c o)) := by
    intro k t m o hE
    obtain ⟨-, -, -, hact⟩ := z_E_r (br := br) hE.1 hE.2.1.2 ⟨hE.2.2.1.1, hE.2.2.1.2.1⟩ hE.2.2.2
    have hX : z_actX f (nI k) (z_c t) (z_c o) := fun h => z_E_X (S := T3) (by rw [e28 0 (by omega)]; exact h) hE
    obtain ⟨pa, pb⟩ := P _ _ _ _ hact hX
    unfold z_tell z_tells z_pass
    rw [pa]
    constructor
    · rintro ⟨h1, h2⟩
      refine ⟨⟨Fa, h1⟩, fun h3 => ?_⟩
      rcases h2 with h2 | h2
      · rw [ebr] at h2
        unfold z_br at h2
        rw [if_pos h3.1] at h2
        exact h2 rfl
      · rw [pb h3.1] at h2
        exact absurd h3.2 (Int32.not_le.mpr h2)
    · rintro ⟨h1, h2⟩
      refine ⟨h1.2, ?_⟩
      by_cases hFb : z_loadF b 5 (z_put S f) = 45
      · right
        rw [pb hFb]
        exact Int32.not_le.mp fun h => h2 ⟨hFb, h⟩
      · left
        rw [ebr]
        unfold z_br
        rw [if_neg hFb]
        decide
  rcases hp with ⟨k, t, m, o, c, hE, ht, hc, rfl⟩ | ⟨rfl, hnone⟩
  · refine ⟨z_I_keep ha hb I3, Or.inr ⟨k, t, m, o, (eE k t m o).mp hE, (eT k t m o hE).mp ht, ?_⟩⟩
    obtain ⟨-, -, k3, k4, k5, k6, k7, k8, k9⟩ := z_keep_o (T := T3) (c := c) (k := nI k) (t := z_c t) (m := z_c m) (o := z_c o)
    exact ⟨by rw [k3]; exact hc, fun p hp => (k4 p hp).trans (e28 p hp), k5, k6, k7, k8, k9⟩
  · refine ⟨I3, Or.inl ⟨by rw [fr3 35 0 (by omega)], fun g k t m o hf => z_found_out (by rw [fr3 35 0 (by omega)]) (fr3 28 4 (by omega)) (fr3 27 4 (by omega)) (fun k h1 h2 => fr3 k 4 (by omega)) hf, fun hnf _ k t m o hE => ?_⟩⟩
    have hE' := (eE k t m o).mpr hE
    exact fun h => hnone (by rw [fr3 35 0 (by omega)]; exact hnf) k t m o hE' ((eT k t m o hE').mpr h)
