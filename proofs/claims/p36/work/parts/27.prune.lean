/-! ===== THE LOOKER MISSES NOTHING: what it leaves out, a smaller client would have told ===== -/
/-- what a lawful library's tables say of its members -/
def z_use (S : qM) (i : Nat) : Prop := ∀ r q, r < 5 → q < 6 →
  ((S 10 i (r * 6 + q) = 112 ∨ S 10 i (r * 6 + q) = 111) → ¬ S 11 i (r * 6 + q) = 70 ∧ (if S 11 i (r * 6 + q) = 115 then ¬ z_has (S 26 i 1) (nI q) = 0 else ¬ z_has (S 26 i 2) (nI q) = 0 ∧ ¬ z_has (S 26 i 3) (nI q) = 0 ∧ ¬ z_has (S 26 i 4) (nI q) = 0)) ∧
  ((S 14 i (r * 6 + q) = 112 ∨ S 14 i (r * 6 + q) = 111) → (S 15 i (r * 6 + q) = 115 ∧ ¬ z_has (S 26 i 5) (nI q) = 0 ∧ ¬ z_has (S 26 i 6) (nI q) = 0) ∨ (S 15 i (r * 6 + q) = 70 ∧ ¬ z_has (S 26 i 5) (nI q) = 0) ∨
    (S 15 i (r * 6 + q) = 110 ∧ ¬ z_has (S 26 i 7) (nI q) = 0 ∧ ¬ z_has (S 26 i 8) (nI q) = 0) ∨ (S 15 i (r * 6 + q) = 102 ∧ ¬ z_has (S 26 i 7) (nI q) = 0))
def z_kno (S : qM) (i : Nat) : Prop := (∃ w, w < 64 ∧ S 17 i 10 = nI w) ∧ ∀ r q, r < 5 → q < 6 → (¬ S 10 i (r * 6 + q) = 45 ∨ ¬ S 23 i (r * 6 + q) = -1) → ¬ z_has (S 17 i 10) (nI q) = 0
def z_ext (S : qM) (i : Nat) : Prop := (∃ w, w < 32 ∧ S 17 i 12 = nI w) ∧ ∀ t, t < 5 → (z_af S i (nI t) 0 = 45 → ¬ z_has (S 17 i 11) (nI t) = 0) ∧ (z_af S i (nI t) 1 = 45 → ¬ z_has (S 17 i 12) (nI t) = 0)
def z_abo (S : qM) (i : Nat) : Prop := ∀ t, t < 5 → z_has (S 18 i t) 5 = 0
def z_tb (S : qM) (i : Nat) : Prop := z_wf S i ∧ z_use S i ∧ z_kno S i ∧ z_ext S i ∧ z_abo S i
/-- what a loaded machine's cells are, out of its own ones -/
theorem z_loaded {S : qM} {i : Nat} {f : Nat → Int32} (ho : z_ownf f) (hF : z_loadF i 5 (z_put S f) = 45) :
    (∀ k, 1 < k → k < 17 → z_loadS i 5 (z_put S f) k i = S k i) ∧ z_loadS i 5 (z_put S f) 0 i 4 = f 0 ∧ z_loadS i 5 (z_put S f) 0 i 5 = f 1 ∧ (∀ p, p < 5 → z_loadS i 5 (z_put S f) 18 i p = S 18 i p) ∧
    (∀ k, (k = 23 ∨ k = 24 ∨ k = 25) → ∀ p, p < 30 → z_loadS i 5 (z_put S f) k i p = S k i p) ∧
    (¬ f 0 = 0 → z_loadS i 5 (z_put S f) 18 i 5 = z_xab (S 18 i) (f 2) (f 1) ∧ ∀ q, q < 6 → z_loadS i 5 (z_put S f) 25 i (30 + q) = z_inh (S 25 i) (f 2) (f 1) (nI q) ∧ z_loadS i 5 (z_put S f) 23 i (30 + q) = z_XR S i (f 1) (f 2) (f 3) q ∧ z_loadS i 5 (z_put S f) 24 i (30 + q) = z_XL S i (f 1) (f 2) (f 3) q) := by
  obtain ⟨p1, p2⟩ := z_put_o (S := S) (f := f)
  by_cases hth : f 0 = 0
  · rw [z_load_no (Or.inl (by rw [p2]; exact hth))]
    obtain ⟨a1, a2, a3, a4⟩ := z_ld2_o (i := i) (j := 5) (S := z_put S f)
    refine ⟨fun k h1 h2 => by rw [a1 k i (by omega), p1 k i (by omega)], by rw [a3, p2], by rw [a4, p2], fun p _ => by rw [a1 18 i (by omega), p1 18 i (by omega)], fun k hk p _ => by rw [a1 k i (by omega), p1 k i (by omega)], fun h => absurd hth h⟩
  · obtain ⟨c1, c2, c3, c4, c5, c6, c7, c8⟩ := z_load_ok (i := i) (j := 5) (S := z_put S f) (by rw [p2]; exact ho.2.1) (by rw [p2]; exact hth) hF
    rw [p2] at c3 c4 c6
    have e18 : z_put S f 18 i = S 18 i := p1 18 i (by omega)
    refine ⟨fun k h1 h2 => by rw [c1 k i (by omega), p1 k i (by omega)], c3, c4, fun p hp => by rw [c5 p (by omega), e18], fun k hk p hp => by rw [c7 k (by omega) p (by omega), p1 k i (by omega)], fun _ => ⟨by rw [c6, e18], fun q hq => ?_⟩⟩
    obtain ⟨x1, x2, x3, x4, x5⟩ := c8 q hq
    rw [p2] at x3 x4 x5
    have g : ∀ k, k < 27 → z_put S f k i = S k i := fun k hk => p1 k i (by omega)
    refine ⟨by rw [x3, g 25 (by omega)], ?_, ?_⟩
    · rw [x4]
      unfold z_XR z_XN
      rw [g 18 (by omega), g 19 (by omega), g 21 (by omega), g 22 (by omega)]
    · rw [x5]
      unfold z_XL z_XN
      rw [g 18 (by omega), g 20 (by omega), g 21 (by omega), g 22 (by omega), g 11 (by omega)]
/-- an act of a library's object, by a library's type, goes with X as without it -/
theorem z_nox {S : qM} {i : Nat} {f : Nat → Int32} {kind type mem obj : Int32} (ho : z_ownf f) (hw : z_v5 (S 0 i 5)) (hF : z_loadF i 5 (z_put S f) = 45) (hact : z_actR kind type mem obj) (hk4 : ¬ kind = 4) (hob : z_lt obj 5) (hty : z_v5 type) :
    z_pf (z_loadS i 5 (z_put S f)) i kind type mem obj = z_pf (z_loadS i 5 (z_put S z_fn)) i kind type mem obj := by
  have hFn : z_loadF i 5 (z_put S z_fn) = 45 := z_loadF_no (by rw [z_put_o.2]; rfl)
  obtain ⟨a1, a2, a3, a4, a5, a6⟩ := z_loaded (S := S) (i := i) ho hF
  obtain ⟨b1, b2, b3, b4, b5, b6⟩ := z_loaded (S := S) (i := i) z_fn_own hFn
  obtain ⟨hk, hty6, hob6, hmm, hob23⟩ := hact
  obtain ⟨U, hU⟩ : ∃ U, U = z_loadS i 5 (z_put S f) := ⟨_, rfl⟩
  obtain ⟨V, hV⟩ : ∃ V, V = z_loadS i 5 (z_put S z_fn) := ⟨_, rfl⟩
  rw [← hU] at a1 a2 a3 a4 a5 a6
  rw [← hV] at b1 b2 b3 b4 b5 b6
  rw [← hU, ← hV]
  have lib : ∀ k, 1 < k → k < 17 → U k i = V k i := fun k h1 h2 => (a1 k h1 h2).trans (b1 k h1 h2).symm
  have row : ∀ k, (k = 23 ∨ k = 24 ∨ k = 25) → ∀ r m, z_lt r 5 → z_lt m 6 → U k i (r * 6 + m).toNatClampNeg = V k i (r * 6 + m).toNatClampNeg := by
    intro k hk r m hr hm
    obtain ⟨t, ht, rfl⟩ := hr
    obtain ⟨q, hq, rfl⟩ := hm
    rw [z_t6 (by omega) hq, a5 k hk _ (by omega), b5 k hk _ (by omega)]
  have hob5 : ¬ obj = 5 := z_ne5 hob
  have hobn : ¬ obj = -1 := by
    obtain ⟨j, hj, rfl⟩ := hob
    intro h
    have := nI_pos' (n := j) (by omega)
    rw [h] at this
    exact absurd this (by decide)
  unfold z_pf
  simp only [if_neg hk4]
  have eM : z_pfM U i obj = z_pfM V i obj := by
    unfold z_pfM z_mf
    rw [if_neg hob5, if_neg hob5, lib 2 (by omega) (by omega), lib 3 (by omega) (by omega), lib 4 (by omega) (by omega), lib 6 (by omega) (by omega)]
  have eT : z_tf U i kind type = z_tf V i kind type := by
    unfold z_tf
    rw [lib 2 (by omega) (by omega), lib 3 (by omega) (by omega)]
  unfold z_pfA
  rw [eM, eT]
  by_cases c1 : z_pfM V i obj = 45
  · rw [if_pos c1, if_pos c1]
    by_cases c2 : kind = 0
    · rw [if_pos c2, if_pos c2]
    · rw [if_neg c2, if_neg c2]
      by_cases c3 : z_tf V i kind type = 45
      · rw [if_pos c3, if_pos c3]
        have hmem := hmm c2
        have hb5 : z_lt type 5 := z_v5n hty (z_tfn c3)
        have eO : z_pfO U i type mem (z_isCall kind) = z_pfO V i type mem (z_isCall kind) := by
          unfold z_pfO
          rw [row 25 (by omega) _ _ hb5 hmem, row 23 (by omega) _ _ hb5 hmem]
        rw [eO]
        obtain ⟨own, hown⟩ : ∃ v, v = z_pfO V i type mem (z_isCall kind) := ⟨_, rfl⟩
        rw [← hown]
        have eN : z_pfN U i kind mem (z_isCall kind) own = z_pfN V i kind mem (z_isCall kind) own := by
          unfold z_pfN
          rw [lib 16 (by omega) (by omega), lib 12 (by omega) (by omega)]
        have eD : z_pfD U i kind obj type mem (z_isCall kind) own = z_pfD V i kind obj type mem (z_isCall kind) own := by
          unfold z_pfD
          have eR : z_rch U i obj type = z_rch V i obj type := by
            unfold z_rch
            obtain ⟨j, hj, rfl⟩ := hob
            rw [nI_clamp (by omega), a4 j hj, b4 j hj]
          have eE : z_pfE U i kind obj type mem (z_isCall kind) own = z_pfE V i kind obj type mem (z_isCall kind) own := by
            unfold z_pfE
            simp only [eN, if_neg hk4]
            unfold z_dis
            rw [row 24 (by omega) _ _ hob hmem, lib 10 (by omega) (by omega), lib 12 (by omega) (by omega)]
          rw [eR, eE]
        have eU : z_pfU U i kind obj mem (z_isCall kind) own = z_pfU V i kind obj mem (z_isCall kind) own := by
          unfold z_pfU z_uf
          have eK : z_ufK U i own obj = 0 := by
            unfold z_ufK
            rw [if_neg hobn, if_neg hob5]
            repeat' split
            all_goals rfl
          have eK' : z_ufK V i own obj = 0 := by
            unfold z_ufK
            rw [if_neg hobn, if_neg hob5]
            repeat' split
            all_goals rfl
          rw [eK, eK', lib 10 (by omega) (by omega), lib 11 (by omega) (by omega), lib 14 (by omega) (by omega), lib 15 (by omega) (by omega)]
        have eC : z_pfC U i kind obj type mem (z_isCall kind) own = z_pfC V i kind obj type mem (z_isCall kind) own := by
          unfold z_pfC
          rw [eU, eD]
        unfold z_pfB
        rw [eC]
        have eI : z_isc U i own = z_isc V i own := by
          unfold z_isc
          rw [lib 2 (by omega) (by omega)]
        rw [eI]
      · rw [if_neg c3, if_neg c3]
  · rw [if_neg c1, if_neg c1]
/-- a library's object isn't under X -/
theorem z_objX {U : qM} {i : Nat} {kind mem obj : Int32} (hk4 : ¬ kind = 4) (hk0 : ¬ kind = 0) (hob : z_lt obj 5) (hab : ∀ t, t < 5 → z_has (U 18 i t) 5 = 0) (hp : 0 ≤ z_pf U i kind 5 mem obj) (hneg : ∀ x : Int32, (x = 67 ∨ x = 73 ∨ x = 76 ∨ x = 78 ∨ x = 45) → ¬ x = 45 → ¬ 0 ≤ -x) : False := by
  have hob5 : ¬ obj = 5 := z_ne5 hob
  have hobn : ¬ obj = -1 := by
    obtain ⟨j, hj, rfl⟩ := hob
    intro h
    have := nI_pos' (n := j) (by omega)
    rw [h] at this
    exact absurd this (by decide)
  have mf : z_mf U i obj = 45 ∨ z_mf U i obj = 67 ∨ z_mf U i obj = 76 ∨ z_mf U i obj = 78 := by
    unfold z_mf
    repeat' split
    all_goals simp
  have tf : z_tf U i kind 5 = 45 ∨ z_tf U i kind 5 = 67 ∨ z_tf U i kind 5 = 73 ∨ z_tf U i kind 5 = 76 := by
    unfold z_tf
    repeat' split
    all_goals simp
  have ouf : z_ouf kind = 45 ∨ z_ouf kind = 73 := by
    unfold z_ouf
    split <;> simp
  have ufD : ∀ k st fs, z_ufD kind k st fs = 45 ∨ z_ufD kind k st fs = 73 ∨ z_ufD kind k st fs = 76 := by
    intro k st fs
    unfold z_ufD
    repeat' split
    all_goals simp
  have uf : ∀ sg kd own made, z_uf U i sg kd kind own mem made = 45 ∨ z_uf U i sg kd kind own mem made = 73 ∨ z_uf U i sg kd kind own mem made = 76 := by
    intro sg kd own made
    unfold z_uf
    repeat' split
    all_goals first | exact ufD _ _ _ | simp
  have pfU : ∀ made isc own, z_pfU U i kind made mem isc own = 45 ∨ z_pfU U i kind made mem isc own = 73 ∨ z_pfU U i kind made mem isc own = 76 := by
    intro made isc own
    unfold z_pfU
    repeat' split
    · rcases ouf with h | h <;> simp [h]
    · exact uf _ _ _ _
    · exact uf _ _ _ _
  unfold z_pf at hp
  rw [if_neg hk4, if_neg hk4] at hp
  unfold z_pfA at hp
  have eM : z_pfM U i obj = z_mf U i obj := by unfold z_pfM; rw [if_neg hobn]
  rw [eM, if_neg hk0] at hp
  have hD : ∀ isc own, z_pfD U i kind obj 5 mem isc own = (if kind = 3 then -73 else -86) := by
    intro isc own
    unfold z_pfD z_rch
    rw [if_neg hobn, if_neg hob5]
    obtain ⟨j, hj, rfl⟩ := hob
    rw [nI_clamp (by omega), hab j hj, if_pos rfl]
  have hC : ∀ isc own, ¬ 0 ≤ z_pfC U i kind obj 5 mem isc own := by
    intro isc own
    unfold z_pfC
    split
    · rw [hD]
      split <;> decide
    · rename_i h
      exact hneg _ (by rcases pfU obj isc own with g | g | g <;> simp [g]) h
  have hB : ∀ isc own, ¬ 0 ≤ z_pfB U i kind obj 5 mem isc own := by
    intro isc own
    unfold z_pfB
    repeat' split
    all_goals first | decide | exact hC _ _
  split at hp
  · split at hp
    · exact hB _ _ hp
    · rename_i h
      exact hneg _ (by rcases tf with g | g | g | g <;> simp [g]) h hp
  · rename_i h
    exact hneg _ (by rcases mf with g | g | g | g <;> simp [g]) h hp
theorem z_neg {x : Int32} (h : x = 67 ∨ x = 73 ∨ x = 76 ∨ x = 78 ∨ x = 45) (hn : ¬ x = 45) : ¬ 0 ≤ -x := by
  rcases h with rfl | rfl | rfl | rfl | rfl
  · decide
  · decide
  · decide
  · decide
  · exact absurd rfl hn
