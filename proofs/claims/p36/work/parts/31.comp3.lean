theorem z_has_or {w v q : Nat} (hw : w < 64) (hv : v < 64) (hq : q < 6) (h : z_has (nI w ||| nI v) (nI q) = 0) : z_has (nI w) (nI q) = 0 ∧ z_has (nI v) (nI q) = 0 := by
  have dec : ∀ q, q < 6 → ∀ w, w < 64 → ∀ v, v < 64 → z_has (nI w ||| nI v) (nI q) = 0 → z_has (nI w) (nI q) = 0 ∧ z_has (nI v) (nI q) = 0 := by decide +kernel
  exact dec q hq w hw v hv h
theorem z_unk {S : qM} {i q : Nat} (hk : z_kno S i) (hq : q < 6) (h : z_has (S 17 i 10) (nI q) = 0) : ∀ r, r < 5 → S 10 i (r * 6 + q) = 45 ∧ S 23 i (r * 6 + q) = -1 :=
  fun r hr => ⟨Decidable.not_not.mp fun g => hk.2 r q hr hq (Or.inl g) h, Decidable.not_not.mp fun g => hk.2 r q hr hq (Or.inr g) h⟩
theorem z_bar0 {S : qM} {i q : Nat} (hs : z_sups S i) (hq : q < 6) (h : ∀ r, r < 5 → S 10 i (r * 6 + q) = 45) : ∀ n x, z_v5 x → z_bar S i (nI q) n x = 0 := by
  intro n
  induction n with
  | zero => intros; rfl
  | succ n ih =>
    intro x hx
    unfold z_bar
    by_cases c : x = -1
    · rw [if_pos c]
    · rw [if_neg c]
      have h5 := z_v5n hx c
      have hx' := h5
      obtain ⟨r, hr, rfl⟩ := hx'
      rw [z_t6 (by omega) hq, h r hr, if_neg (show ¬ (45 : Int32) = 112 by decide), if_neg (show ¬ (45 : Int32) = 111 by decide), if_pos rfl]
      exact ih _ (z_sups_at hs h5)
/-- a static call by X of its own method never goes through -/
theorem z_st5 {S : qM} {i u p q : Nat} {obj : Int32} (hu : u ≤ 5) (hq : q < 6) (hF : z_loadF i 5 (z_put S (z_fx u p (q + 1))) = 45) (hp : 0 ≤ z_pf (z_loadS i 5 (z_put S (z_fx u p (q + 1)))) i 1 5 (nI q) obj) : False := by
  obtain ⟨a1, a2, a3, a4, a5, a6⟩ := z_loaded (S := S) (i := i) (z_fx_own (u := u) (p := p) hu (show q + 1 ≤ 6 by omega)) hF
  have x4 := ((a6 (show ¬ ((1 : Int32) = 0) by decide)).2 q hq).2.1
  have hown : z_pfO (z_loadS i 5 (z_put S (z_fx u p (q + 1)))) i 5 (nI q) (z_isCall 1) = 5 := by
    unfold z_pfO
    rw [if_neg (by decide), z_56 hq, x4]
    unfold z_XR z_xfi
    rw [if_pos (show z_fx u p (q + 1) 3 = nI q from z_cs q), if_neg (by decide)]
  have i4 := (z_pass_inv (show ¬ (1 : Int32) = 0 by decide) hp).2.2.2
  rw [if_neg (show ¬ (1 : Int32) = 4 by decide), if_neg (show ¬ (1 : Int32) = 4 by decide), hown] at i4
  unfold z_pfU at i4
  rw [if_pos rfl] at i4
  exact absurd i4 (by decide)
/-- X's own method, of X, goes through where X can be made -/
theorem z_own100 {S : qM} {i u p q : Nat} (hu : u ≤ 5) (hq : q < 6) (hF : z_loadF i 5 (z_put S (z_fx u p (q + 1))) = 45) (hm : z_mf (z_loadS i 5 (z_put S (z_fx u p (q + 1)))) i 5 = 45) : 0 ≤ z_pf (z_loadS i 5 (z_put S (z_fx u p (q + 1)))) i 2 5 (nI q) 5 := by
  obtain ⟨a1, a2, a3, a4, a5, a6⟩ := z_loaded (S := S) (i := i) (z_fx_own (u := u) (p := p) hu (show q + 1 ≤ 6 by omega)) hF
  obtain ⟨x3, x4, x5⟩ := (a6 (show ¬ ((1 : Int32) = 0) by decide)).2 q hq
  have e5 : ∀ x : Int32, (if (2 : Int32) = 4 then x else 5) = 5 := fun x => if_neg (by decide)
  have hown : z_pfO (z_loadS i 5 (z_put S (z_fx u p (q + 1)))) i 5 (nI q) (z_isCall 2) = 5 := by
    unfold z_pfO
    rw [if_neg (by decide), z_56 hq, x4]
    unfold z_XR z_xfi
    rw [if_pos (show z_fx u p (q + 1) 3 = nI q from z_cs q), if_neg (by decide)]
  have hsel : z_loadS i 5 (z_put S (z_fx u p (q + 1))) 24 i ((5 : Int32) * 6 + nI q).toNatClampNeg = 5 := by
    rw [z_56 hq, x5]
    unfold z_XL z_xfi
    rw [if_pos (show z_fx u p (q + 1) 3 = nI q from z_cs q), if_neg (by decide), if_pos rfl]
  have hdis : z_dis (z_loadS i 5 (z_put S (z_fx u p (q + 1)))) i 2 5 (nI q) = 100 := by
    unfold z_dis
    rw [hsel, if_pos (by decide), if_pos rfl]
  have htf : z_tf (z_loadS i 5 (z_put S (z_fx u p (q + 1)))) i 2 5 = 45 := by
    unfold z_tf
    rw [if_neg (by decide), if_pos rfl, if_neg (by decide)]
  unfold z_pf
  rw [e5, e5]
  unfold z_pfA z_pfM
  rw [if_neg (show ¬ (5 : Int32) = -1 by decide), hm, if_pos rfl, if_neg (show ¬ (2 : Int32) = 0 by decide), htf, if_pos rfl, hown]
  unfold z_pfB
  rw [if_neg (show ¬ (5 : Int32) = -1 by decide), if_neg (show ¬ (2 : Int32) = 1 by decide)]
  unfold z_pfC z_pfU
  rw [if_pos rfl, if_pos (by decide)]
  unfold z_pfD z_rch
  rw [if_neg (show ¬ (5 : Int32) = -1 by decide), if_pos rfl, if_neg (show ¬ (1 : Int32) = 0 by decide)]
  unfold z_pfE
  rw [if_neg (by decide), if_neg (by decide), e5, hdis]
  decide
theorem z_comp3 {S : qM} {a b u p q : Nat} (ta : z_tb S a) (tb : z_tb S b) (h1 : z_no S a b z_fn) (hu : u < 6) (hp : p < 16) (hq : q < 6) (hs0 : z_NoS S a b (z_sz u p)) (hs1 : z_NoS S a b (z_sz u p + 1)) {k t m o : Nat} (hv : z_V 6 k t m o) :
    ¬ z_tells S a b (z_fx u p (q + 1)) (nI k) (z_c t) (z_c m) (z_c o) := by
  intro ht
  have hu5 : u ≤ 5 := by omega
  have hq6 : q + 1 ≤ 6 := by omega
  have ho := z_fx_own (u := u) (p := p) hu5 hq6
  have hL : 6 = if z_fx u p (q + 1) 0 = 0 then 5 else 6 := rfl
  obtain ⟨t6, m6, o6, hact⟩ := z_V_r (Nat.le_refl 6) hv
  have hk := hv.1
  have hsa := (z_loadF_fx (i := a) (S := S) (u := u) (p := p) hq6).1 ht.1.1
  have hFa' : z_loadF a 5 (z_put S (z_fx u p 0)) = 45 := (z_loadF_fx (by omega)).2 hsa (Or.inl rfl)
  have hmba := z_mba_ok ta.2.2.2.1 hu hp hsa
  have known : ¬ z_has (S 17 a 10 ||| S 17 b 10) (nI q) = 0 → z_cand S a b (z_sz u p + 1) u p (q + 1) := fun hkn =>
    ⟨hmba, Or.inr ⟨(z_rest0 hu hp).2, by omega, hq6⟩, Or.inr (by rw [z_cs]; exact hkn)⟩
  have unk : z_has (S 17 a 10 ||| S 17 b 10) (nI q) = 0 → z_has (S 17 a 10) (nI q) = 0 ∧ z_has (S 17 b 10) (nI q) = 0 := by
    obtain ⟨w, hw, ew⟩ := ta.2.2.1.1
    obtain ⟨v, hv', ev⟩ := tb.2.2.1.1
    rw [ew, ev]
    exact z_has_or hw hv' hq
  by_cases hpr : ¬ z_hasObject (nI k) = 0 ∧ o ≤ 5 ∧ z_loadF b 5 (z_put S (z_fx u p (q + 1))) = 45
  · exact z_compO ta tb h1 ho hv hpr.1 hpr.2.1 hpr.2.2 ht
  have hob : o = 0 ∨ z_fo (z_put S (z_fx u p (q + 1))) (z_br S b (z_fx u p (q + 1))) + 1 ≤ o := by
    by_cases hob : z_hasObject (nI k) = 0
    · have := hv.2.2.2.1
      rw [if_pos hob] at this
      exact Or.inl this
    · have := hv.2.2.2.1
      rw [if_neg hob] at this
      right
      unfold z_fo z_br
      rw [z_put_o.2, if_neg (show ¬ z_fx u p (q + 1) 0 = 0 from (show ¬ ((1 : Int32) = 0) by decide))]
      by_cases hFb : z_loadF b 5 (z_put S (z_fx u p (q + 1))) = 45
      · rw [if_pos hFb, if_pos rfl]
        by_cases h5 : o ≤ 5
        · exact absurd ⟨hob, h5, hFb⟩ hpr
        · omega
      · rw [if_neg hFb, if_neg (by decide)]
        omega
  have wt1 : ¬ z_loadF b 5 (z_put S (z_fx u p (q + 1))) = 45 → z_wt (z_put S (z_fx u p (q + 1))) a (nI k) (z_br S b (z_fx u p (q + 1))) = S 26 a k := by
    intro hFb
    unfold z_wt z_br
    rw [z_put_o.2, if_neg (show ¬ z_fx u p (q + 1) 0 = 0 from (show ¬ ((1 : Int32) = 0) by decide)), if_neg (show ¬ z_fx u p (q + 1) 3 = -1 from fun e => absurd ((z_c1 (by omega)).mp e) (by omega)), if_neg hFb, if_neg (show ¬ ((1 : Int32) = 0) by decide), z_put_o.1 26 a (by omega), nI_clamp (by omega)]
    split <;> rfl
  have memb : ∀ (_ : ¬ z_has (S 26 a k) (z_c m) = 0), ¬ z_loadF b 5 (z_put S (z_fx u p (q + 1))) = 45 → ¬ z_has (S 17 a 10 ||| S 17 b 10) (nI q) = 0 → False := fun hh hFb hkn =>
    hs1 u p (q + 1) hu hp (known hkn) ht.1.1 k t m o (z_VE hL hv (Or.inr (by rw [wt1 hFb]; exact hh)) hob) ht
  -- the case that X's method is called, of an object, by a class or an interface
  have goes : ¬ nI k = 0 → ¬ z_has (S 26 a k) (z_c m) = 0 ∨ (m = q + 1 ∧ nI k = 2 ∧ t = 6) := by
    intro hk0
    rcases z_goes ta ho hL hv hk0 ht.1 with g | ⟨g1, g2, g3, g4, g5⟩
    · exact Or.inl g
    · right
      have em : m = q + 1 := by
        have : z_c (q + 1) = z_c m := g1
        have inj : ∀ x, x < 7 → ∀ y, y < 7 → z_c x = z_c y → x = y := by decide +kernel
        exact (inj _ (by omega) _ (by omega) this).symm
      have hk4 : ¬ nI k = 4 := by
        intro e
        rw [if_pos e] at g4
        have g4' : z_c u = 5 := g4
        have n5 : ∀ n, n < 6 → ¬ z_c n = 5 := by decide +kernel
        exact n5 u hu g4'
      rw [if_neg hk4] at g4
      have et : t = 6 := by
        have n5 : ∀ n, n < 7 → z_c n = 5 → n = 6 := by decide +kernel
        exact n5 t (by omega) g4
      have hk1 : ¬ nI k = 1 := by
        intro e
        unfold z_pfU at g5
        rw [if_pos rfl, e] at g5
        exact absurd g5 (by decide)
      rcases z_kcall hact.1 g3 hk1 hk4 with e | e
      · exact ⟨em, e, et⟩
      · exfalso
        have i2 := (z_pass_inv hk0 ht.1.2).2.1
        rw [if_neg hk4, g4, e] at i2
        unfold z_tf at i2
        rw [if_neg (by decide), if_pos rfl, if_pos rfl] at i2
        exact absurd i2 (by decide)
  -- by X without the method
  have less : ∀ k t m o, z_V 6 k t m o → ¬ z_tells S a b (z_fx u p 0) (nI k) (z_c t) (z_c m) (z_c o) := fun k t m o h => z_comp2 ta tb h1 hu hp hs0 h
  have make : z_mf (z_loadS a 5 (z_put S (z_fx u p (q + 1)))) a 5 = 45 → (z_pass S b (z_fx u p 0) (nI 0) (z_c 0) (z_c 0) (z_c 6)) := by
    intro hm
    refine Classical.byContradiction fun hn => less 0 0 0 6 ⟨by omega, by decide, by decide, by decide, by omega⟩ ⟨⟨hFa', ?_⟩, hn⟩
    have := (z_pf0 (t := z_c 0) (m := z_c 0)).mpr ((z_mf_same (m := q + 1) hu5 hq6 ht.1.1 hFa').symm.trans hm)
    rwa [show nI 0 = 0 from rfl, show z_c 6 = 5 from by decide]
  by_cases hX : (nI k = 2 ∨ nI k = 3) ∧ m = q + 1
  · have hk0 : ¬ nI k = 0 := by
      intro e
      rcases hX.1 with g | g <;> rw [e] at g <;> exact absurd g (by decide)
    have hobj : ¬ z_hasObject (nI k) = 0 := by
      rcases hX.1 with g | g <;> rw [g] <;> decide
    by_cases hkn : z_has (S 17 a 10 ||| S 17 b 10) (nI q) = 0
    · obtain ⟨ka, kb⟩ := unk hkn
      have ua := z_unk ta.2.2.1 hq ka
      have ub := z_unk tb.2.2.1 hq kb
      -- the method that is found is X's
      have h26 : m = q + 1 ∧ nI k = 2 ∧ t = 6 := by
        obtain ⟨a1, a2, a3, a4, a5, a6⟩ := z_loaded (S := S) (i := a) ho ht.1.1
        obtain ⟨i1, i2, i3, i4⟩ := z_pass_inv hk0 ht.1.2
        have hk4 : ¬ nI k = 4 := by rcases hX.1 with g | g <;> rw [g] <;> decide
        rw [if_neg hk4] at i2 i3
        have hc : ¬ z_isCall (nI k) = 0 := by rcases hX.1 with g | g <;> rw [g] <;> decide
        have ht6 := z_v6n hact.2.1 (z_tfn i2)
        obtain ⟨r, hr, er⟩ := ht6
        have em : z_c m = nI q := by rw [hX.2]; exact z_cs q
        rcases Nat.lt_or_ge r 5 with h | h
        · exfalso
          apply i3
          unfold z_pfO
          rw [if_neg hc, em, er, z_t6 (by omega) hq, a5 23 (by omega) _ (by omega)]
          exact (ua r h).2
        · have er5 : z_c t = 5 := by rw [er, show r = 5 by omega]; rfl
          have n5 : ∀ n, n < 7 → z_c n = 5 → n = 6 := by decide +kernel
          refine ⟨hX.2, ?_, n5 t (by omega) er5⟩
          rcases hX.1 with e | e
          · exact e
          · exfalso
            rw [er5, e] at i2
            unfold z_tf at i2
            rw [if_neg (by decide), if_pos rfl, if_pos rfl] at i2
            exact absurd i2 (by decide)
      obtain ⟨-, e2, et⟩ := h26
      have oo := hv.2.2.2.1
      rw [if_neg hobj] at oo
      have hpa := ht.1.2
      rw [e2, et, show z_c 6 = 5 from by decide, hX.2] at hpa
      obtain ⟨eo, hmf⟩ := z_ownX hu5 (by omega) hq6 ta.2.2.2.2 ht.1.1 o6 oo.1 hpa
      obtain ⟨hFb', hpb⟩ := make hmf
      have hsb := (z_loadF_fx (i := b) (S := S) (u := u) (p := p) (m := 0) (by omega)).1 hFb'
      have hFb : z_loadF b 5 (z_put S (z_fx u p (q + 1))) = 45 := (z_loadF_fx hq6).2 hsb (Or.inr (by
        rw [z_cs]
        exact z_bar0 tb.1.1 hq (fun r hr => (ub r hr).1) 5 _ ho.2.1))
      rw [show nI 0 = 0 from rfl, show z_c 6 = 5 from by decide] at hpb
      have hmb := (z_mf_same (m := q + 1) hu5 hq6 hFb hFb').trans (z_pf0.mp hpb)
      refine ht.2 ⟨hFb, ?_⟩
      rw [e2, et, show z_c 6 = 5 from by decide, hX.2, eo, show z_c 6 = 5 from by decide, z_cs]
      exact z_own100 hu5 hq hFb hmb
    · by_cases hFb : z_loadF b 5 (z_put S (z_fx u p (q + 1))) = 45
      · refine hs1 u p (q + 1) hu hp (known hkn) ht.1.1 k t m o (z_VE hL hv (Or.inr ?_) hob) ht
        unfold z_wt z_br
        rw [z_put_o.2, if_pos hFb, if_neg (show ¬ z_fx u p (q + 1) 3 = -1 from fun e => absurd ((z_c1 (by omega)).mp e) (by omega)), if_pos rfl, if_neg (show ¬ nI k = 4 by rcases hX.1 with g | g <;> rw [g] <;> decide)]
        have hb : ∀ n, n < 7 → 1 ≤ n → ¬ z_has (1 <<< (z_c n &&& 31)) (z_c n) = 0 := by decide +kernel
        rw [hX.2]
        rcases hX.1 with g | g
        · rw [if_pos g]; exact hb _ (by omega) (by omega)
        · rw [if_pos g]
          split
          · exact hb _ (by omega) (by omega)
          · exact hb _ (by omega) (by omega)
      · rcases goes hk0 with g | ⟨g1, g2, g3⟩
        · exact memb g hFb hkn
        · have oo := hv.2.2.2.1
          rw [if_neg hobj] at oo
          have hpa := ht.1.2
          rw [g2, g3, show z_c 6 = 5 from by decide, g1] at hpa
          obtain ⟨eo, hmf⟩ := z_ownX hu5 (by omega) hq6 ta.2.2.2.2 ht.1.1 o6 oo.1 hpa
          have hvm : z_V 6 0 0 0 6 := ⟨by omega, by decide, by decide, by decide, by omega⟩
          refine hs1 u p (q + 1) hu hp (known hkn) ht.1.1 0 0 0 6 (z_VE hL hvm (Or.inl rfl) (Or.inr ?_)) ⟨⟨ht.1.1, ?_⟩, fun h => hFb h.1⟩
          · unfold z_fo
            split
            · omega
            · split <;> omega
          · rw [show nI 0 = 0 from rfl, show z_c 6 = 5 from by decide]
            exact z_pf0.mpr hmf
  · have hn1 : nI k = 1 → z_c t = 5 → ¬ z_c m = z_c (q + 1) := by
      intro e1 e2 e3
      have := ht.1.2
      rw [e1, e2, e3, z_cs] at this
      exact z_st5 hu5 hq ht.1.1 this
    have hn23 : nI k = 2 ∨ nI k = 3 → ¬ z_c m = z_c (q + 1) := by
      intro e1 e3
      have inj : ∀ x, x < 7 → ∀ y, y < 7 → z_c x = z_c y → x = y := by decide +kernel
      exact hX ⟨e1, inj _ (by omega) _ (by omega) e3⟩
    have na := z_nom hu5 hq6 ht.1.1 hFa' hact hn23 hn1
    by_cases hFb : z_loadF b 5 (z_put S (z_fx u p (q + 1))) = 45
    · have hsb := (z_loadF_fx (i := b) (S := S) (u := u) (p := p) hq6).1 hFb
      have hFb' : z_loadF b 5 (z_put S (z_fx u p 0)) = 45 := (z_loadF_fx (by omega)).2 hsb (Or.inl rfl)
      have nb := z_nom hu5 hq6 hFb hFb' hact hn23 hn1
      exact less k t m o hv ⟨⟨hFa', by rw [← na]; exact ht.1.2⟩, fun h => ht.2 ⟨hFb, by rw [nb]; exact h.2⟩⟩
    · by_cases hFb' : z_loadF b 5 (z_put S (z_fx u p 0)) = 45
      · have hsb := (z_loadF_fx (i := b) (S := S) (u := u) (p := p) (m := 0) (by omega)).1 hFb'
        have hkn : ¬ z_has (S 17 a 10 ||| S 17 b 10) (nI q) = 0 := by
          intro hkn
          have ub := z_unk tb.2.2.1 hq (unk hkn).2
          exact hFb ((z_loadF_fx hq6).2 hsb (Or.inr (by
            rw [z_cs]
            exact z_bar0 tb.1.1 hq (fun r hr => (ub r hr).1) 5 _ ho.2.1)))
        by_cases hk0 : nI k = 0
        · refine hs1 u p (q + 1) hu hp (known hkn) ht.1.1 k t m o (z_VE hL hv (Or.inl ?_) hob) ht
          have := hv.2.2.1
          rw [hk0, if_pos (by decide)] at this
          exact this
        · rcases goes hk0 with g | ⟨g1, g2, g3⟩
          · exact memb g hFb hkn
          · exact hX ⟨Or.inl g2, g1⟩
      · exact less k t m o hv ⟨⟨hFa', by rw [← na]; exact ht.1.2⟩, fun h => hFb' h.1⟩
