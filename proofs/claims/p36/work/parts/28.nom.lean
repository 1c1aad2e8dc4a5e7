theorem z_pf_congr2 {U V : qM} {i : Nat} {kind type mem obj : Int32} (h1 : ∀ k, 1 < k → k < 17 → U k i = V k i) (h4 : U 0 i 4 = V 0 i 4) (h5 : U 0 i 5 = V 0 i 5) (h18 : ∀ p, p < 6 → U 18 i p = V 18 i p)
    (h25 : z_lt mem 6 → ∀ r, z_lt r 6 → U 25 i (r * 6 + mem).toNatClampNeg = V 25 i (r * 6 + mem).toNatClampNeg) (h23 : z_lt mem 6 → ¬ z_isCall kind = 0 → ∀ r, z_lt r 6 → (r = 5 → type = 5 ∧ ¬ kind = 4) → U 23 i (r * 6 + mem).toNatClampNeg = V 23 i (r * 6 + mem).toNatClampNeg)
    (h24 : z_lt mem 6 → ∀ r, z_lt r 6 → (r = 5 → kind = 2 ∨ kind = 3) → U 24 i (r * 6 + mem).toNatClampNeg = V 24 i (r * 6 + mem).toNatClampNeg)
    (hg : z_v5 (U 0 i 5)) (hact : z_actR kind type mem obj) : z_pf U i kind type mem obj = z_pf V i kind type mem obj := by
  obtain ⟨hk, hty, hob, hmm, hob23⟩ := hact
  have e2 := h1 2 (by omega) (by omega)
  have e3 := h1 3 (by omega) (by omega)
  have e4 := h1 4 (by omega) (by omega)
  have e6 := h1 6 (by omega) (by omega)
  have e10 := h1 10 (by omega) (by omega)
  have e11 := h1 11 (by omega) (by omega)
  have e12 := h1 12 (by omega) (by omega)
  have e14 := h1 14 (by omega) (by omega)
  have e15 := h1 15 (by omega) (by omega)
  have e16 := h1 16 (by omega) (by omega)
  unfold z_pf
  rw [h5]
  obtain ⟨made, hmade⟩ : ∃ v, v = (if kind = 4 then (5 : Int32) else obj) := ⟨_, rfl⟩
  obtain ⟨by', hby⟩ : ∃ v, v = (if kind = 4 then V 0 i 5 else type) := ⟨_, rfl⟩
  rw [← hmade, ← hby]
  have hb5 : by' = 5 → type = 5 ∧ ¬ kind = 4 := by
    intro h
    by_cases h4' : kind = 4
    · rw [hby, if_pos h4'] at h
      rw [h5] at hg
      rcases hg with g | g
      · rw [g] at h
        exact absurd h (by decide)
      · exact absurd h (z_ne5 g)
    · rw [hby, if_neg h4'] at h
      exact ⟨h, h4'⟩
  have hmv : z_v6 made := by
    rw [hmade]
    split
    · exact Or.inr z_5
    · exact hob
  have a18 : ∀ r, z_lt r 6 → U 18 i r.toNatClampNeg = V 18 i r.toNatClampNeg := by
    intro r hr6
    obtain ⟨t, ht, rfl⟩ := hr6
    rw [nI_clamp (by omega)]
    exact h18 t ht
  have eM : z_pfM U i made = z_pfM V i made := by
    unfold z_pfM z_mf
    rw [e2, e3, e4, e6, h5]
  have eT : z_tf U i kind by' = z_tf V i kind by' := by
    unfold z_tf
    rw [e2, e3]
  unfold z_pfA
  rw [eM, eT]
  by_cases c1 : z_pfM V i made = 45
  · rw [if_pos c1, if_pos c1]
    by_cases c2 : kind = 0
    · rw [if_pos c2, if_pos c2]
    · rw [if_neg c2, if_neg c2]
      by_cases c3 : z_tf V i kind by' = 45
      · rw [if_pos c3, if_pos c3]
        have hmem := hmm c2
        have hbv : z_v6 by' := by
          rw [hby]
          split
          · rw [← h5]; exact z_v56 hg
          · exact hty
        have hb6 : z_lt by' 6 := z_v6n hbv (z_tfn c3)
        have eO : z_pfO U i by' mem (z_isCall kind) = z_pfO V i by' mem (z_isCall kind) := by
          unfold z_pfO
          by_cases d0 : z_isCall kind = 0
          · rw [if_pos d0, if_pos d0, h25 hmem _ hb6]
          · rw [if_neg d0, if_neg d0, h23 hmem d0 _ hb6 hb5]
        rw [eO]
        obtain ⟨own, hown⟩ : ∃ v, v = z_pfO V i by' mem (z_isCall kind) := ⟨_, rfl⟩
        rw [← hown]
        have eN : z_pfN U i kind mem (z_isCall kind) own = z_pfN V i kind mem (z_isCall kind) own := by
          unfold z_pfN
          rw [e16, e12]
        have eD : z_pfD U i kind made by' mem (z_isCall kind) own = z_pfD V i kind made by' mem (z_isCall kind) own := by
          unfold z_pfD
          have eR : z_rch U i made by' = z_rch V i made by' := by
            unfold z_rch
            by_cases c : made = -1
            · rw [if_pos c, if_pos c]
            · rw [if_neg c, if_neg c, a18 made (z_v6n hmv c)]
          have eE : z_pfE U i kind made by' mem (z_isCall kind) own = z_pfE V i kind made by' mem (z_isCall kind) own := by
            unfold z_pfE
            rw [eN]
            by_cases d1 : z_isCall kind = 0
            · rw [if_pos d1, if_pos d1]
            · rw [if_neg d1, if_neg d1]
              by_cases d2 : kind = 1
              · rw [if_pos d2, if_pos d2]
              · rw [if_neg d2, if_neg d2]
                have hrow : z_lt (if kind = 4 then by' else made) 6 ∧ ((if kind = 4 then by' else made) = 5 → kind = 2 ∨ kind = 3) := by
                  by_cases d3 : kind = 4
                  · rw [if_pos d3]; exact ⟨hb6, fun e => absurd d3 (hb5 e).2⟩
                  · rw [if_neg d3]
                    refine ⟨?_, fun _ => z_kcall hk d1 d2 d3⟩
                    rw [hmade, if_neg d3]
                    exact hob23 (z_kcall hk d1 d2 d3)
                unfold z_dis
                rw [h24 hmem _ hrow.1 hrow.2, e10, e12]
          rw [eR, eE]
        have eU : z_pfU U i kind made mem (z_isCall kind) own = z_pfU V i kind made mem (z_isCall kind) own := by
          unfold z_pfU z_uf
          have eK : z_ufK U i own made = z_ufK V i own made := by
            unfold z_ufK
            rw [← h4]
            by_cases c : U 0 i 4 = 0
            · rw [if_pos c, if_pos c]
            · rw [if_neg c, if_neg c, z_c5, h18 5 (by omega)]
          rw [eK, e10, e11, e14, e15]
        have eC : z_pfC U i kind made by' mem (z_isCall kind) own = z_pfC V i kind made by' mem (z_isCall kind) own := by
          unfold z_pfC
          rw [eU, eD]
        unfold z_pfB
        rw [eC]
        have eI : z_isc U i own = z_isc V i own := by
          unfold z_isc
          rw [e2]
        rw [eI]
      · rw [if_neg c3, if_neg c3]
  · rw [if_neg c1, if_neg c1]

/-- without its method X goes as with it, by all other acts -/
theorem z_nom {S : qM} {i u p m : Nat} {kind type mem obj : Int32} (hu : u ≤ 5) (hm : m ≤ 6) (hF : z_loadF i 5 (z_put S (z_fx u p m)) = 45) (hF' : z_loadF i 5 (z_put S (z_fx u p 0)) = 45) (hact : z_actR kind type mem obj)
    (h23 : kind = 2 ∨ kind = 3 → ¬ mem = z_c m) (h1 : kind = 1 → type = 5 → ¬ mem = z_c m) :
    z_pf (z_loadS i 5 (z_put S (z_fx u p m))) i kind type mem obj = z_pf (z_loadS i 5 (z_put S (z_fx u p 0))) i kind type mem obj := by
  have ho := z_fx_own (u := u) (p := p) hu hm
  have ho' := z_fx_own (u := u) (p := p) (m := 0) hu (by omega)
  obtain ⟨a1, a2, a3, a4, a5, a6⟩ := z_loaded (S := S) (i := i) ho hF
  obtain ⟨b1, b2, b3, b4, b5, b6⟩ := z_loaded (S := S) (i := i) ho' hF'
  obtain ⟨a7, a8⟩ := a6 (show ¬ ((1 : Int32) = 0) by decide)
  obtain ⟨b7, b8⟩ := b6 (show ¬ ((1 : Int32) = 0) by decide)
  obtain ⟨U, hU⟩ : ∃ U, U = z_loadS i 5 (z_put S (z_fx u p m)) := ⟨_, rfl⟩
  obtain ⟨V, hV⟩ : ∃ V, V = z_loadS i 5 (z_put S (z_fx u p 0)) := ⟨_, rfl⟩
  rw [← hU] at a1 a2 a3 a4 a5 a7 a8
  rw [← hV] at b1 b2 b3 b4 b5 b7 b8
  rw [← hU, ← hV]
  have xf : ∀ (g : Nat → Int32) q, q < 6 → ¬ nI q = z_c m → z_xfi g (z_c u) (z_c m) q = z_xfi g (z_c u) (z_c 0) q := by
    intro g q hq hne
    unfold z_xfi
    have h0 : ¬ z_c 0 = nI q := by
      have : ∀ q, q < 6 → ¬ z_c 0 = nI q := by decide +kernel
      exact this q hq
    rw [if_neg (show ¬ z_c m = nI q from fun h => hne h.symm), if_neg h0]
  have row : ∀ k, (k = 23 ∨ k = 24) → ∀ r, z_lt r 6 → z_lt mem 6 → (r = 5 → ¬ mem = z_c m) → U k i (r * 6 + mem).toNatClampNeg = V k i (r * 6 + mem).toNatClampNeg := by
    intro k hk r hr hmem hne
    obtain ⟨t, ht, rfl⟩ := hr
    obtain ⟨q, hq, rfl⟩ := hmem
    rw [z_t6 ht hq]
    rcases Nat.lt_or_ge t 5 with h | h
    · rw [a5 k (by omega) _ (by omega), b5 k (by omega) _ (by omega)]
    · obtain rfl : t = 5 := by omega
      have hq' := hne rfl
      obtain ⟨-, x4, x5⟩ := a8 q hq
      obtain ⟨-, y4, y5⟩ := b8 q hq
      rw [show 5 * 6 + q = 30 + q by omega]
      rcases hk with rfl | rfl
      · rw [x4, y4]
        unfold z_XR z_XN
        rw [show z_fx u p m 1 = z_c u from rfl, show z_fx u p m 3 = z_c m from rfl, show z_fx u p 0 1 = z_c u from rfl, show z_fx u p 0 3 = z_c 0 from rfl, xf _ q hq hq']
        rfl
      · rw [x5, y5]
        unfold z_XL z_XN
        rw [show z_fx u p m 1 = z_c u from rfl, show z_fx u p m 3 = z_c m from rfl, show z_fx u p 0 1 = z_c u from rfl, show z_fx u p 0 3 = z_c 0 from rfl, xf _ q hq hq']
        rfl
  refine z_pf_congr2 (fun k x y => (a1 k x y).trans (b1 k x y).symm) (by rw [a2, b2]; rfl) (by rw [a3, b3]; rfl) (fun p hp => ?_) (fun hmem r hr => ?_) (fun hmem hc r hr h5 => row 23 (by omega) r hr hmem fun e => ?_) (fun hmem r hr h5 => row 24 (by omega) r hr hmem fun e => h23 (h5 e)) (by rw [a3]; exact ho.2.1) hact
  · rcases Nat.lt_or_ge p 5 with h | h
    · rw [a4 p h, b4 p h]
    · obtain rfl : p = 5 := by omega
      rw [a7, b7]
      rfl
  · obtain ⟨t, ht, rfl⟩ := hr
    obtain ⟨q, hq, rfl⟩ := hmem
    rw [z_t6 ht hq]
    rcases Nat.lt_or_ge t 5 with h | h
    · rw [a5 25 (by omega) _ (by omega), b5 25 (by omega) _ (by omega)]
    · obtain rfl : t = 5 := by omega
      rw [show 5 * 6 + q = 30 + q by omega, (a8 q hq).1, (b8 q hq).1]
      rfl
  · obtain ⟨h5a, h5b⟩ := h5 e
    by_cases k1 : kind = 1
    · exact h1 k1 h5a
    · exact h23 (z_kcall hact.1 hc k1 h5b)
/-- what it takes for an act to go through -/
theorem z_pass_inv {U : qM} {i : Nat} {kind type mem obj : Int32} (hk0 : ¬ kind = 0) (hp : 0 ≤ z_pf U i kind type mem obj) :
    z_pfM U i (if kind = 4 then 5 else obj) = 45 ∧ z_tf U i kind (if kind = 4 then U 0 i 5 else type) = 45 ∧ ¬ z_pfO U i (if kind = 4 then U 0 i 5 else type) mem (z_isCall kind) = -1 ∧
    z_pfU U i kind (if kind = 4 then 5 else obj) mem (z_isCall kind) (z_pfO U i (if kind = 4 then U 0 i 5 else type) mem (z_isCall kind)) = 45 := by
  have ouf : z_ouf kind = 45 ∨ z_ouf kind = 73 := by
    unfold z_ouf
    split <;> simp
  have ufD : ∀ k st fs, z_ufD kind k st fs = 45 ∨ z_ufD kind k st fs = 73 ∨ z_ufD kind k st fs = 76 := by
    intro k st fs
    unfold z_ufD
    repeat' split
    all_goals simp
  have uf : ∀ sg kd own made, z_uf U i sg kd kind own mem made = 45 ∨ z_uf U i sg kd kind own mem made = 73 ∨ z_uf U i sg kd kind own mem made = 76 := by
    intro sg kd own made
    unfold z_uf
    repeat' split
    all_goals first | exact ufD _ _ _ | simp
  have pfU : ∀ made isc own, z_pfU U i kind made mem isc own = 45 ∨ z_pfU U i kind made mem isc own = 73 ∨ z_pfU U i kind made mem isc own = 76 := by
    intro made isc own
    unfold z_pfU
    repeat' split
    · rcases ouf with h | h <;> simp [h]
    · exact uf _ _ _ _
    · exact uf _ _ _ _
  have tf : ∀ r, z_tf U i kind r = 45 ∨ z_tf U i kind r = 67 ∨ z_tf U i kind r = 73 ∨ z_tf U i kind r = 76 := by
    intro r
    unfold z_tf
    repeat' split
    all_goals simp
  have mf : ∀ r, z_pfM U i r = 45 ∨ z_pfM U i r = 67 ∨ z_pfM U i r = 76 ∨ z_pfM U i r = 78 := by
    intro r
    unfold z_pfM z_mf
    repeat' split
    all_goals simp
  unfold z_pf at hp
  obtain ⟨made, hmade⟩ : ∃ v, v = (if kind = 4 then (5 : Int32) else obj) := ⟨_, rfl⟩
  obtain ⟨by', hby⟩ : ∃ v, v = (if kind = 4 then U 0 i 5 else type) := ⟨_, rfl⟩
  rw [← hmade, ← hby] at hp ⊢
  unfold z_pfA at hp
  by_cases c1 : z_pfM U i made = 45
  · rw [if_pos c1, if_neg hk0] at hp
    by_cases c2 : z_tf U i kind by' = 45
    · rw [if_pos c2] at hp
      obtain ⟨own, hown⟩ : ∃ v, v = z_pfO U i by' mem (z_isCall kind) := ⟨_, rfl⟩
      rw [← hown] at hp ⊢
      have hC : 0 ≤ z_pfC U i kind made by' mem (z_isCall kind) own → z_pfU U i kind made mem (z_isCall kind) own = 45 := by
        intro h
        unfold z_pfC at h
        by_cases c3 : z_pfU U i kind made mem (z_isCall kind) own = 45
        · exact c3
        · rw [if_neg c3] at h
          exact absurd h (z_neg (by rcases pfU made (z_isCall kind) own with g | g | g <;> simp [g]) c3)
      unfold z_pfB at hp
      by_cases c4 : own = -1
      · rw [if_pos c4] at hp
        split at hp <;> exact absurd hp (by decide)
      · rw [if_neg c4] at hp
        refine ⟨c1, c2, c4, hC ?_⟩
        split at hp
        · split at hp
          · exact hp
          · split at hp
            · split at hp <;> exact absurd hp (by decide)
            · exact hp
        · exact hp
    · rw [if_neg c2] at hp
      exact absurd hp (z_neg (by rcases tf by' with g | g | g | g <;> simp [g]) c2)
  · rw [if_neg c1] at hp
    exact absurd hp (z_neg (by rcases mf made with g | g | g | g <;> simp [g]) c1)
