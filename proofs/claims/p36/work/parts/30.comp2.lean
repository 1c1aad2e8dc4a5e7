theorem z_wt_fn {S : qM} {a k : Nat} {br : Int32} (h4 : ¬ nI k = 4) (hk : k < 9) : z_wt (z_put S z_fn) a (nI k) br = S 26 a k := by
  unfold z_wt
  rw [if_neg h4, z_put_o.2, if_pos (show z_fn 3 = -1 from rfl), z_put_o.1 26 a (by omega), nI_clamp (by omega)]
theorem z_wt_nom {S : qM} {a k u p : Nat} {br : Int32} (hk : k < 9) : z_wt (z_put S (z_fx u p 0)) a (nI k) br = S 26 a k := by
  unfold z_wt
  rw [z_put_o.2, if_neg (show ¬ z_fx u p 0 0 = 0 from (show ¬ ((1 : Int32) = 0) by decide)), if_pos (show z_fx u p 0 3 = -1 from z_c0), z_put_o.1 26 a (by omega), nI_clamp (by omega)]
  split <;> rfl
theorem z_4 {k : Nat} (hk : k < 9) : nI k = 4 ↔ k = 4 := by
  have : ∀ k, k < 9 → (nI k = 4 ↔ k = 4) := by decide +kernel
  exact this k hk
theorem z_has4 {k : Nat} (hk : k < 9) (h : ¬ z_hasObject (nI k) = 0) : ¬ nI k = 4 := by
  have : ∀ k, k < 9 → ¬ z_hasObject (nI k) = 0 → ¬ nI k = 4 := by decide +kernel
  exact this k hk h
/-- the owner of what an act finds by a loaded machine, and that it may be tried -/
theorem z_goes {S : qM} {i : Nat} {f : Nat → Int32} {L k t m o : Nat} (tb : z_tb S i) (ho : z_ownf f) (hL : L = if f 0 = 0 then 5 else 6) (hv : z_V L k t m o) (hk0 : ¬ nI k = 0) (hp : z_pass S i f (nI k) (z_c t) (z_c m) (z_c o)) :
    ¬ z_has (S 26 i k) (z_c m) = 0 ∨ (f 3 = z_c m ∧ ¬ f 0 = 0 ∧ ¬ z_isCall (nI k) = 0 ∧ (if nI k = 4 then f 1 else z_c t) = 5 ∧ z_pfU (z_loadS i 5 (z_put S f)) i (nI k) (if nI k = 4 then 5 else z_c o) (z_c m) (z_isCall (nI k)) 5 = 45) := by
  obtain ⟨hF, hp⟩ := hp
  have L6 : L ≤ 6 := by rw [hL]; split <;> omega
  obtain ⟨t6, m6, o6, hact⟩ := z_V_r L6 hv
  obtain ⟨a1, a2, a3, a4, a5, a6⟩ := z_loaded (S := S) (i := i) ho hF
  obtain ⟨i1, i2, i3, i4⟩ := z_pass_inv hk0 hp
  rw [a3] at i2 i3 i4
  obtain ⟨q, hq, eq⟩ := hact.2.2.2.1 hk0
  have hk := hv.1
  have hby : z_lt (if nI k = 4 then f 1 else z_c t) 6 := by
    have hn := z_tfn i2
    split at hn
    · rename_i g; rw [if_pos g]; exact z_ltw (z_v5n ho.2.1 hn) (by decide)
    · rename_i g; rw [if_neg g]; exact z_v6n hact.2.1 hn
  have h5 : (if nI k = 4 then f 1 else z_c t) = 5 → ¬ f 0 = 0 := by
    intro e hz
    rw [hz, if_pos rfl] at hL
    split at e
    · rename_i g
      have := hv.2.2.2.2 hL
      exact this ((z_4 hk).mp g)
    · have n5 : ∀ n, n < 6 → ¬ z_c n = 5 := by decide +kernel
      exact n5 t (by omega) e
  rw [eq] at i3 i4 ⊢
  rcases z_owner tb.1 ho hq hby h5 a5 a6 i3 with g | ⟨g1, g2, g3, g4⟩
  · left
    exact z_uses tb.2.1 a1 hk hk0 hq g i4
  · right
    rw [g1] at i4
    exact ⟨g4, h5 g2, g3, g2, i4⟩
theorem z_pass_actX {f : Nat → Int32} {L k t m o : Nat} (hL : L = if f 0 = 0 then 5 else 6) (hv : z_V L k t m o) : z_actX f (nI k) (z_c t) (z_c o) := by
  intro hz
  rw [hz, if_pos rfl] at hL
  obtain ⟨t6, m6, o6, -⟩ := z_V_r (by omega) hv
  have n5 : ∀ n, n < 6 → ¬ z_c n = 5 := by decide +kernel
  exact ⟨n5 t (by omega), n5 o (by omega), fun e => hv.2.2.2.2 hL ((z_4 hv.1).mp e)⟩
theorem z_comp1 {S : qM} {a b : Nat} (ta : z_tb S a) (h1 : z_no S a b z_fn) {k t m o : Nat} (hv : z_V 5 k t m o) : ¬ z_tells S a b z_fn (nI k) (z_c t) (z_c m) (z_c o) := by
  intro ht
  have hL : 5 = if z_fn 0 = 0 then 5 else 6 := rfl
  refine h1 ht.1.1 k t m o (z_VE hL hv ?_ ?_) ht
  · by_cases hm : z_hasMember (nI k) = 0
    · have := hv.2.2.1
      rw [if_pos hm] at this
      exact Or.inl this
    · have hk0 : ¬ nI k = 0 := by
        intro e
        apply hm
        rw [e]
        decide
      right
      rw [z_wt_fn (fun e => hv.2.2.2.2 rfl ((z_4 hv.1).mp e)) hv.1]
      rcases z_goes ta z_fn_own hL hv hk0 ht.1 with g | ⟨-, g, -⟩
      · exact g
      · exact absurd rfl g
  · have hfo : z_fo (z_put S z_fn) (z_br S b z_fn) = 0 := by
      unfold z_fo
      rw [z_put_o.2, if_pos (show z_fn 0 = 0 from rfl)]
    rw [hfo]
    omega
/-- an act of a library's object: X is no part of it -/
theorem z_compO {S : qM} {a b : Nat} {f : Nat → Int32} {k t m o : Nat} (ta : z_tb S a) (tb : z_tb S b) (h1 : z_no S a b z_fn) (ho : z_ownf f) (hv : z_V 6 k t m o) (hob : ¬ z_hasObject (nI k) = 0) (ho6 : o ≤ 5) (hFb : z_loadF b 5 (z_put S f) = 45) :
    ¬ z_tells S a b f (nI k) (z_c t) (z_c m) (z_c o) := by
  intro ht
  obtain ⟨t6, m6, o6, hact⟩ := z_V_r (Nat.le_refl 6) hv
  have hk4 := z_has4 hv.1 hob
  have hoo := hv.2.2.2.1
  rw [if_neg hob] at hoo
  have hol : z_lt (z_c o) 5 := by
    cases o with
    | zero => omega
    | succ n => exact ⟨n, by omega, z_cs n⟩
  obtain ⟨a1, a2, a3, a4, a5, a6⟩ := z_loaded (S := S) (i := a) ho ht.1.1
  by_cases t5 : t = 6
  · have hk0 : ¬ nI k = 0 := by
      intro e
      have := hv.2.1
      rw [e, if_pos (by decide)] at this
      omega
    refine z_objX hk4 hk0 hol (fun j hj => by rw [a4 j hj]; exact ta.2.2.2.2 j hj) (U := z_loadS a 5 (z_put S f)) (i := a) (mem := z_c m) ?_ (fun x h hn => z_neg h hn)
    have := ht.1.2
    rw [t5] at this
    rwa [show z_c 6 = 5 from by decide] at this
  · have hty : z_v5 (z_c t) := by
      cases t with
      | zero => exact Or.inl z_c0
      | succ n => exact Or.inr ⟨n, by omega, z_cs n⟩
    have hFn : ∀ i, z_loadF i 5 (z_put S z_fn) = 45 := fun i => z_loadF_no (by rw [z_put_o.2]; rfl)
    have ea := z_nox ho ta.1.2.2.2.2.2.2 ht.1.1 hact hk4 hol hty
    have eb := z_nox ho tb.1.2.2.2.2.2.2 hFb hact hk4 hol hty
    have hv5 : z_V 5 k t m o := by
      obtain ⟨v1, v2, v3, v4, v5⟩ := hv
      refine ⟨v1, ?_, v3, ?_, fun _ e => hk4 ((z_4 v1).mpr e)⟩
      · split at v2
        · rename_i g; rw [if_pos g]; exact v2
        · rename_i g; rw [if_neg g]; omega
      · rw [if_neg hob]; omega
    refine z_comp1 ta h1 hv5 ⟨⟨hFn a, by rw [← ea]; exact ht.1.2⟩, fun hpb => ht.2 ⟨hFb, by rw [eb]; exact hpb.2⟩⟩
theorem z_comp2 {S : qM} {a b u p : Nat} (ta : z_tb S a) (tb : z_tb S b) (h1 : z_no S a b z_fn) (hu : u < 6) (hp : p < 16) (hs : z_NoS S a b (z_sz u p)) {k t m o : Nat} (hv : z_V 6 k t m o) : ¬ z_tells S a b (z_fx u p 0) (nI k) (z_c t) (z_c m) (z_c o) := by
  intro ht
  have ho := z_fx_own (u := u) (p := p) (m := 0) (by omega) (by omega)
  have hL : 6 = if z_fx u p 0 0 = 0 then 5 else 6 := rfl
  have hcand : z_cand S a b (z_sz u p) u p 0 := ⟨z_mba_ok ta.2.2.2.1 hu hp ((z_loadF_fx (by omega)).1 ht.1.1), Or.inl ⟨(z_rest0 hu hp).1, rfl⟩, Or.inl rfl⟩
  by_cases hpr : ¬ z_hasObject (nI k) = 0 ∧ o ≤ 5 ∧ z_loadF b 5 (z_put S (z_fx u p 0)) = 45
  · exact z_compO ta tb h1 ho hv hpr.1 hpr.2.1 hpr.2.2 ht
  · refine hs u p 0 hu hp hcand ht.1.1 k t m o (z_VE hL hv ?_ ?_) ht
    · by_cases hm : z_hasMember (nI k) = 0
      · have := hv.2.2.1
        rw [if_pos hm] at this
        exact Or.inl this
      · have hk0 : ¬ nI k = 0 := by
          intro e
          apply hm
          rw [e]
          decide
        right
        rw [z_wt_nom hv.1]
        rcases z_goes ta ho hL hv hk0 ht.1 with g | ⟨g, -⟩
        · exact g
        · have := hv.2.2.1
          rw [if_neg hm] at this
          have g' : z_c 0 = z_c m := g
          rw [z_c0] at g'
          exact absurd ((z_c1 (by omega)).mp g'.symm) (by omega)
    · by_cases hob : z_hasObject (nI k) = 0
      · have := hv.2.2.2.1
        rw [if_pos hob] at this
        exact Or.inl this
      · have := hv.2.2.2.1
        rw [if_neg hob] at this
        right
        unfold z_fo z_br
        rw [z_put_o.2, if_neg (show ¬ z_fx u p 0 0 = 0 from (show ¬ ((1 : Int32) = 0) by decide))]
        by_cases hFb : z_loadF b 5 (z_put S (z_fx u p 0)) = 45
        · rw [if_pos hFb, if_pos rfl]
          by_cases h5 : o ≤ 5
          · exact absurd ⟨hob, h5, hFb⟩ hpr
          · omega
        · rw [if_neg hFb, if_neg (by decide)]
          omega
/-- X's method, called by X, of X -/
theorem z_ownX {S : qM} {i u p m : Nat} {o : Nat} (hu : u ≤ 5) (hm1 : 1 ≤ m) (hm : m ≤ 6) (hab : ∀ t, t < 5 → z_has (S 18 i t) 5 = 0) (hF : z_loadF i 5 (z_put S (z_fx u p m)) = 45) (ho : o ≤ 6) (ho1 : 1 ≤ o) (hp : 0 ≤ z_pf (z_loadS i 5 (z_put S (z_fx u p m))) i 2 5 (z_c m) (z_c o)) : o = 6 ∧ z_mf (z_loadS i 5 (z_put S (z_fx u p m))) i 5 = 45 := by
  obtain ⟨a1, a2, a3, a4, a5, a6⟩ := z_loaded (S := S) (i := i) (z_fx_own (u := u) (p := p) hu hm) hF
  have o6 : o = 6 := by
    rcases Nat.lt_or_ge o 6 with h | h
    · exfalso
      have hol : z_lt (z_c o) 5 := by
        cases o with
        | zero => omega
        | succ n => exact ⟨n, by omega, z_cs n⟩
      exact z_objX (by decide) (by decide) hol (fun j hj => by rw [a4 j hj]; exact hab j hj) hp (fun x h hn => z_neg h hn)
    · omega
  refine ⟨o6, ?_⟩
  subst o6
  have i1 := (z_pass_inv (show ¬ (2 : Int32) = 0 by decide) hp).1
  rw [if_neg (by decide)] at i1
  unfold z_pfM at i1
  rw [if_neg (by decide), show z_c 6 = 5 from by decide] at i1
  exact i1
theorem z_mf_same {S : qM} {i u p m : Nat} (hu : u ≤ 5) (hm : m ≤ 6) (hF : z_loadF i 5 (z_put S (z_fx u p m)) = 45) (hF' : z_loadF i 5 (z_put S (z_fx u p 0)) = 45) : z_mf (z_loadS i 5 (z_put S (z_fx u p m))) i 5 = z_mf (z_loadS i 5 (z_put S (z_fx u p 0))) i 5 := by
  obtain ⟨a1, a2, a3, -⟩ := z_loaded (S := S) (i := i) (z_fx_own (u := u) (p := p) hu hm) hF
  obtain ⟨b1, b2, b3, -⟩ := z_loaded (S := S) (i := i) (z_fx_own (u := u) (p := p) (m := 0) hu (by omega)) hF'
  unfold z_mf
  rw [a3, b3, a1 2 (by omega) (by omega), a1 3 (by omega) (by omega), a1 4 (by omega) (by omega), a1 6 (by omega) (by omega), b1 2 (by omega) (by omega), b1 3 (by omega) (by omega), b1 4 (by omega) (by omega), b1 6 (by omega) (by omega)]
  rfl
theorem z_pf0 {U : qM} {i : Nat} {t m : Int32} : 0 ≤ z_pf U i 0 t m 5 ↔ z_mf U i 5 = 45 := by
  have mf : z_mf U i 5 = 45 ∨ z_mf U i 5 = 76 := by
    unfold z_mf
    rw [if_pos rfl]
    repeat' split
    all_goals simp
  have e5 : (if (0 : Int32) = 4 then (5 : Int32) else 5) = 5 := by split <;> rfl
  unfold z_pf z_pfA z_pfM
  rw [e5, if_neg (show ¬ (5 : Int32) = -1 by decide)]
  rcases mf with h | h
  · rw [h, if_pos rfl, if_pos rfl]
    exact ⟨fun _ => rfl, fun _ => by decide⟩
  · rw [h, if_neg (show ¬ (76 : Int32) = 45 by decide)]
    exact ⟨fun g => absurd g (by decide), fun g => absurd g (by decide)⟩
