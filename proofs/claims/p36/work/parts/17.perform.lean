-- printed by wip/p36/gen_m2.py
def z_rch (S : qM) (i : Nat) (made by' : Int32) : Int32 := if made = -1 then 1 else if made = by' then 1 else z_has (S 18 i made.toNatClampNeg) by'
def z_pfN (S : qM) (i : Nat) (kind mem isc own : Int32) : Int32 := if kind = 8 then 0 else if kind = 6 then 0 else if isc = 0 then S 16 i (own * 6 + mem).toNatClampNeg else S 12 i (own * 6 + mem).toNatClampNeg
def z_pfE (S : qM) (i : Nat) (kind made by' mem isc own : Int32) : Int32 := if isc = 0 then z_pfN S i kind mem isc own else if kind = 1 then z_pfN S i kind mem isc own else z_dis S i kind (if kind = 4 then by' else made) mem
def z_pfD (S : qM) (i : Nat) (kind made by' mem isc own : Int32) : Int32 := if z_rch S i made by' = 0 then (if kind = 3 then -73 else -86) else z_pfE S i kind made by' mem isc own
def z_pfU (S : qM) (i : Nat) (kind made mem isc own : Int32) : Int32 := if own = 5 then z_ouf kind else if isc = 0 then z_uf S i (S 14 i) (S 15 i) kind own mem made else z_uf S i (S 10 i) (S 11 i) kind own mem made
def z_pfC (S : qM) (i : Nat) (kind made by' mem isc own : Int32) : Int32 := if z_pfU S i kind made mem isc own = 45 then z_pfD S i kind made by' mem isc own else -(z_pfU S i kind made mem isc own)
def z_pfB (S : qM) (i : Nat) (kind made by' mem isc own : Int32) : Int32 := if own = -1 then (if isc = 0 then -70 else -77) else if kind = 1 then (if own = by' then z_pfC S i kind made by' mem isc own else if z_isc S i own = 0 then (if isc = 0 then -70 else -77) else z_pfC S i kind made by' mem isc own) else z_pfC S i kind made by' mem isc own
def z_pfO (S : qM) (i : Nat) (by' mem isc : Int32) : Int32 := if isc = 0 then S 25 i (by' * 6 + mem).toNatClampNeg else S 23 i (by' * 6 + mem).toNatClampNeg
def z_pfM (S : qM) (i : Nat) (made : Int32) : Int32 := if made = -1 then 45 else z_mf S i made
def z_pfA (S : qM) (i : Nat) (kind made by' mem : Int32) : Int32 := if z_pfM S i made = 45 then (if kind = 0 then 0 else if z_tf S i kind by' = 45 then z_pfB S i kind made by' mem (z_isCall kind) (z_pfO S i by' mem (z_isCall kind)) else -(z_tf S i kind by')) else -(z_pfM S i made)
/-- what an act does: what it tells, or the fault's code below 0 -/
def z_pf (S : qM) (i : Nat) (kind type mem obj : Int32) : Int32 := z_pfA S i kind (if kind = 4 then 5 else obj) (if kind = 4 then S 0 i 5 else type) mem
/-- the tables' ranges: rows 0 to 5 -/
def z_tabs (S : qM) (i : Nat) : Prop := (∀ p, p < 36 → z_v6 (S 23 i p)) ∧ (∀ p, p < 36 → z_sel (S 24 i p)) ∧ (∀ p, p < 36 → z_v5 (S 25 i p))
/-- an act in its ranges -/
def z_actR (kind type mem obj : Int32) : Prop := z_lt kind 9 ∧ z_v6 type ∧ z_v6 obj ∧ (¬ kind = 0 → z_lt mem 6) ∧ (kind = 2 ∨ kind = 3 → z_lt obj 6)
theorem z_tfn {S : qM} {i : Nat} {k a : Int32} (h : z_tf S i k a = 45) : ¬ a = -1 := by
  intro e
  unfold z_tf at h
  rw [if_pos e] at h
  exact absurd h (by decide)
theorem z_kcall {k : Int32} (hk : z_lt k 9) (h : ¬ z_isCall k = 0) (h1 : ¬ k = 1) (h4 : ¬ k = 4) : k = 2 ∨ k = 3 := by
  obtain ⟨j, hj, rfl⟩ := hk
  have : ∀ j, j < 9 → ¬ z_isCall (nI j) = 0 → ¬ nI j = 1 → ¬ nI j = 4 → nI j = 2 ∨ nI j = 3 := by decide
  exact this j hj h h1 h4
theorem z_k1 {k : Int32} (hk : z_lt k 9) (h : z_isCall k = 0) : ¬ k = 1 := by
  intro e
  subst e
  exact absurd h (by decide)
theorem z_oufn {k : Int32} (h : z_ouf k = 45) : ¬ k = 1 := by
  intro e
  subst e
  exact absurd h (by decide)
theorem z_ne5 {x : Int32} (h : z_lt x 5) : ¬ x = 5 := by
  obtain ⟨j, hj, rfl⟩ := h
  intro e
  have h1 : (nI j).toNatClampNeg = (5 : Int32).toNatClampNeg := by rw [e]
  rw [nI_clamp (by omega)] at h1
  have h2 : (5 : Int32).toNatClampNeg = 5 := by decide
  omega
abbrev rm_X5_perform : Room := { frames := 1, cells := 0, slots := 0, locals := 31 }
set_option maxHeartbeats 4000000 in
set_option maxRecDepth 100000 in
theorem c_X5_perform {L : qL} (hD : q_D L.2.2.2.1) : qCT L yX5_perform cX5_perform 11 (some .int) rm_X5_perform (fun ad _ (x : Nat × Int32 × Int32 × Int32 × Int32) => [.ref (ad 0 x.1), .int x.2.1, .int x.2.2.1, .int x.2.2.2.1, .int x.2.2.2.2]) (fun x S => x.1 < 4 ∧ z_tabs S x.1 ∧ z_v5 (S 0 x.1 5) ∧ z_actR x.2.1 x.2.2.1 x.2.2.2.1 x.2.2.2.2) (qPi (fun x S r S' => r = z_pf S x.1 x.2.1 x.2.2.1 x.2.2.2.1 x.2.2.2.2 ∧ S = S')) := by
  refine q_met hD (by decide) (fun _ => Nat.le_of_ble_eq_true rfl) (fun Γ x S hΓ hpre hC => ?_)
  subst hΓ
  obtain ⟨i, kind, type, mem, obj⟩ := x
  obtain ⟨hi, hT, hg, hR⟩ := hpre
  have hi : i < 4 := hi
  have hT : z_tabs S i := hT
  have hg : z_v5 (S 0 i 5) := hg
  obtain ⟨hkind, htype, hobj, hmem, hObj⟩ := hR
  have hkind : z_lt kind 9 := hkind
  have htype : z_v6 type := htype
  have hobj : z_v6 obj := hobj
  have hmem : ¬ kind = 0 → z_lt mem 6 := hmem
  have hObj : kind = 2 ∨ kind = 3 → z_lt obj 6 := hObj
  by_cases hk0 : kind = 0
  · show qV Γ _ _ 0 [(0, .ref (q_ad Γ 0 i)), (1, .int kind), (2, .int type), (3, .int mem), (4, .int obj)] [] S (0, 0)
    refine q_iload_n hC 1 dX5_perform_0 rfl rfl ?_
    refine q_iconst hC dX5_perform_1 (v := 4) (by decide) rfl ?_
    refine q_icmp_ne hC dX5_perform_2 (t := 9) (n := 5) (by decide) rfl (fun h2 => ?_) (fun h2 => absurd (hk0.symm.trans h2) (by decide))
    refine q_iload hC 4 dX5_perform_9 rfl rfl ?_
    refine q_istore hC dX5_perform_11 (by decide) (ls' := [(0, _), (1, _), (2, _), (3, _), (4, _), (5, _)]) rfl rfl ?_
    refine q_iload_n hC 1 dX5_perform_13 rfl rfl ?_
    refine q_iconst hC dX5_perform_14 (v := 4) (by decide) rfl ?_
    refine q_icmp_ne hC dX5_perform_15 (t := 25) (n := 18) (by decide) rfl (fun h15 => ?_) (fun h15 => absurd (hk0.symm.trans h15) (by decide))
    refine q_iload_n hC 2 dX5_perform_25 rfl rfl ?_
    refine q_istore hC dX5_perform_26 (by decide) (ls' := [(0, _), (1, _), (2, _), (3, _), (4, _), (5, _), (6, _)]) rfl rfl ?_
    refine q_iload hC 5 dX5_perform_28 rfl rfl ?_
    refine q_iconst hC dX5_perform_30 (v := (-1)) (by decide) rfl ?_
    refine q_icmp_ne hC dX5_perform_31 (t := 39) (n := 34) (by decide) rfl (fun h31 => ?_) (fun h31 => ?_)
    · refine q_aload_n hC 0 dX5_perform_39 rfl rfl ?_
      refine q_iload hC 5 dX5_perform_40 rfl rfl ?_
      refine q_callV hC (c_X5_makingFault (q_hD hC)) m_X5_makingFault lk_X5_118 dX5_perform_42 (i, obj) rfl rfl rfl rfl rfl hi (Nat.le_of_ble_eq_true rfl) ⟨⟨by decide, by decide⟩, by decide, by decide⟩ rfl (k' := (0, 0)) rfl ⟨hi, z_v6n hobj h31, hg⟩ (fun v S' hp => ?_)
      obtain ⟨r42_2, rfl, hr42_2, rfl⟩ := hp
      have hr42_2 : r42_2 = z_mf S i obj := hr42_2
      show qV Γ _ _ 45 _ (.int _ :: _) _ _
      refine q_istore hC dX5_perform_45 (by decide) (ls' := [(0, _), (1, _), (2, _), (3, _), (4, _), (5, _), (6, _), (7, _)]) rfl rfl ?_
      refine q_iload hC 7 dX5_perform_47 rfl rfl ?_
      refine q_bipush hC dX5_perform_49 (v := 45) (by decide) rfl ?_
      refine q_icmp_eq hC dX5_perform_51 (t := 58) (n := 54) (by decide) rfl (fun h51 => ?_) (fun h51 => ?_)
      · refine q_iload_n hC 1 dX5_perform_58 rfl rfl ?_
        refine q_if_ne hC dX5_perform_59 (t := 64) (n := 62) (by decide) rfl (fun h59 => absurd hk0 h59) (fun h59 => ?_)
        refine q_iconst hC dX5_perform_62 (v := 0) (by decide) rfl ?_
        refine q_iret hC dX5_perform_63 rfl ⟨by decide, by decide⟩ ⟨_, rfl, ?_⟩
        exact ⟨by subst hr42_2; have h4 : ¬ kind = 4 := (fun e => absurd (hk0.symm.trans e) (by decide)); simp only [z_pf, if_neg h4, z_pfA, z_pfM, if_neg h31, if_pos h51, if_pos hk0, if_true], rfl⟩
      · refine q_iload hC 7 dX5_perform_54 rfl rfl ?_
        refine q_ineg hC dX5_perform_56 rfl ?_
        refine q_iret hC dX5_perform_57 rfl ⟨by decide, by decide⟩ ⟨_, rfl, ?_⟩
        exact ⟨by subst hr42_2; have h4 : ¬ kind = 4 := (fun e => absurd (hk0.symm.trans e) (by decide)); simp only [z_pf, if_neg h4, z_pfA, z_pfM, if_neg h31, if_neg h51, if_pos hk0, if_true], rfl⟩
    · refine q_bipush hC dX5_perform_34 (v := 45) (by decide) rfl ?_
      refine q_goto hC dX5_perform_36 (n := 45) (by decide) ?_
      refine q_istore hC dX5_perform_45 (by decide) (ls' := [(0, _), (1, _), (2, _), (3, _), (4, _), (5, _), (6, _), (7, _)]) rfl rfl ?_
      refine q_iload hC 7 dX5_perform_47 rfl rfl ?_
      refine q_bipush hC dX5_perform_49 (v := 45) (by decide) rfl ?_
      refine q_icmp_eq hC dX5_perform_51 (t := 58) (n := 54) (by decide) rfl (fun _ => ?_) (fun h => absurd (by decide) h)
      refine q_iload_n hC 1 dX5_perform_58 rfl rfl ?_
      refine q_if_ne hC dX5_perform_59 (t := 64) (n := 62) (by decide) rfl (fun h59 => absurd hk0 h59) (fun h59 => ?_)
      refine q_iconst hC dX5_perform_62 (v := 0) (by decide) rfl ?_
      refine q_iret hC dX5_perform_63 rfl ⟨by decide, by decide⟩ ⟨_, rfl, ?_⟩
      exact ⟨by skip; have h4 : ¬ kind = 4 := (fun e => absurd (hk0.symm.trans e) (by decide)); simp only [z_pf, if_neg h4, z_pfA, z_pfM, if_pos h31, if_pos hk0, if_true], rfl⟩
  · have J277a : ∀ (made by' isc own : Int32), ¬ isc = 0 → (kind = 1 ∨ isc = 0 → z_lt own 5) → z_lt by' 6 → (¬ kind = 1 → ¬ kind = 4 → ¬ isc = 0 → z_lt made 6) → z_pfE S i kind made by' mem isc own = z_pf S i kind type mem obj → qV Γ rm_X5_perform 11 277 [(0, .ref (q_ad Γ 0 i)), (1, .int kind), (2, .int type), (3, .int mem), (4, .int obj), (5, .int made), (6, .int by'), (8, .int isc), (9, .int own), (10, .ref (q_ad Γ 9 i))] [] S (0, 0) := by
      intro made by' isc own hisc hk5' hby hM' hF
      have hk5 : kind = 1 → z_lt own 5 := fun h => hk5' (Or.inl h)
      have hM : ¬ kind = 1 → ¬ kind = 4 → z_lt made 6 := fun h1 h2 => hM' h1 h2 hisc
      refine q_iload hC 7 dX5_perform_277 rfl rfl ?_
      refine q_if_eq hC dX5_perform_279 (t := 306) (n := 282) (by decide) rfl (fun h279 => absurd h279 hisc) (fun h279 => ?_)
      refine q_iload_n hC 1 dX5_perform_282 rfl rfl ?_
      refine q_iconst hC dX5_perform_283 (v := 1) (by decide) rfl ?_
      refine q_icmp_eq hC dX5_perform_284 (t := 306) (n := 287) (by decide) rfl (fun h284 => ?_) (fun h284 => ?_)
      · refine q_iload_n hC 1 dX5_perform_306 rfl rfl ?_
        refine q_bipush hC dX5_perform_307 (v := 8) (by decide) rfl ?_
        refine q_icmp_eq hC dX5_perform_309 (t := 318) (n := 312) (by decide) rfl (fun h309 => ?_) (fun h309 => ?_)
        · refine q_iconst hC dX5_perform_318 (v := 0) (by decide) rfl ?_
          refine q_goto hC dX5_perform_319 (n := 335) (by decide) ?_
          refine q_iret hC dX5_perform_335 rfl ⟨by decide, by decide⟩ ⟨_, rfl, ?_⟩
          exact ⟨by skip; rw [← hF]; simp only [z_pfE, z_pfN, if_neg h279, if_pos h284, if_pos h309], rfl⟩
        · refine q_iload_n hC 1 dX5_perform_312 rfl rfl ?_
          refine q_bipush hC dX5_perform_313 (v := 6) (by decide) rfl ?_
          refine q_icmp_ne hC dX5_perform_315 (t := 322) (n := 318) (by decide) rfl (fun h315 => ?_) (fun h315 => ?_)
          · refine q_aload hC 9 dX5_perform_322 rfl rfl ?_
            refine q_get_f hC f_X5_156 dX5_perform_324 rfl rfl hi rfl ?_
            refine q_iload hC 8 dX5_perform_327 rfl rfl ?_
            refine q_bipush hC dX5_perform_329 (v := 6) (by decide) rfl ?_
            refine q_imul hC dX5_perform_331 rfl ?_
            refine q_iload_n hC 3 dX5_perform_332 rfl rfl ?_
            refine q_iadd hC dX5_perform_333 rfl ?_
            refine q_iald hC dX5_perform_334 rfl hi (z_in30 (hk5 (by first | exact h284 | exact hisc)) (hmem hk0)) rfl ?_
            refine q_iret hC dX5_perform_335 rfl ⟨by decide, by decide⟩ ⟨_, rfl, ?_⟩
            exact ⟨by skip; rw [← hF]; simp only [z_pfE, z_pfN, if_neg h279, if_pos h284, if_neg h309, if_neg h315], rfl⟩
          · refine q_iconst hC dX5_perform_318 (v := 0) (by decide) rfl ?_
            refine q_goto hC dX5_perform_319 (n := 335) (by decide) ?_
            refine q_iret hC dX5_perform_335 rfl ⟨by decide, by decide⟩ ⟨_, rfl, ?_⟩
            exact ⟨by skip; rw [← hF]; simp only [z_pfE, z_pfN, if_neg h279, if_pos h284, if_neg h309, if_pos h315], rfl⟩
      · refine q_aload_n hC 0 dX5_perform_287 rfl rfl ?_
        refine q_iload_n hC 1 dX5_perform_288 rfl rfl ?_
        refine q_iload_n hC 1 dX5_perform_289 rfl rfl ?_
        refine q_iconst hC dX5_perform_290 (v := 4) (by decide) rfl ?_
        refine q_icmp_ne hC dX5_perform_291 (t := 299) (n := 294) (by decide) rfl (fun h291 => ?_) (fun h291 => ?_)
        · refine q_iload hC 5 dX5_perform_299 rfl rfl ?_
          refine q_iload_n hC 3 dX5_perform_301 rfl rfl ?_
          refine q_callV hC (c_X5_dispatch (q_hD hC)) m_X5_dispatch lk_X5_152 dX5_perform_302 (i, kind, _, mem) rfl rfl rfl rfl rfl hi (Nat.le_of_ble_eq_true rfl) ⟨⟨by decide, by decide⟩, by decide, by decide⟩ rfl (k' := (0, 0)) rfl ⟨hi, by first | exact hby | exact hM h284 h291, hmem hk0, hT.2.1⟩ (fun v S' hp => ?_)
          obtain ⟨r302_5, rfl, hr302_5, rfl⟩ := hp
          have hr302_5 : r302_5 = z_dis S i kind (if kind = 4 then by' else made) mem := by first | (rw [if_pos h291]; exact hr302_5) | (rw [if_neg h291]; exact hr302_5)
          show qV Γ _ _ 305 _ (.int _ :: _) _ _
          refine q_iret hC dX5_perform_305 rfl ⟨by decide, by decide⟩ ⟨_, rfl, ?_⟩
          exact ⟨by subst hr302_5; rw [← hF]; simp only [z_pfE, z_pfN, if_neg h279, if_neg h284, if_neg h291], rfl⟩
        · refine q_iload hC 6 dX5_perform_294 rfl rfl ?_
          refine q_goto hC dX5_perform_296 (n := 301) (by decide) ?_
          refine q_iload_n hC 3 dX5_perform_301 rfl rfl ?_
          refine q_callV hC (c_X5_dispatch (q_hD hC)) m_X5_dispatch lk_X5_152 dX5_perform_302 (i, kind, _, mem) rfl rfl rfl rfl rfl hi (Nat.le_of_ble_eq_true rfl) ⟨⟨by decide, by decide⟩, by decide, by decide⟩ rfl (k' := (0, 0)) rfl ⟨hi, by first | exact hby | exact hM h284 h291, hmem hk0, hT.2.1⟩ (fun v S' hp => ?_)
          obtain ⟨r302_6, rfl, hr302_6, rfl⟩ := hp
          have hr302_6 : r302_6 = z_dis S i kind (if kind = 4 then by' else made) mem := by first | (rw [if_pos h291]; exact hr302_6) | (rw [if_neg h291]; exact hr302_6)
          show qV Γ _ _ 305 _ (.int _ :: _) _ _
          refine q_iret hC dX5_perform_305 rfl ⟨by decide, by decide⟩ ⟨_, rfl, ?_⟩
          exact ⟨by subst hr302_6; rw [← hF]; simp only [z_pfE, z_pfN, if_neg h279, if_neg h284, if_pos h291], rfl⟩
    have J192a : ∀ (made by' isc own : Int32) (f0 : Int32), ¬ isc = 0 → z_lt own 6 → (isc = 0 → ¬ own = 5) → z_v6 made → z_lt by' 6 → (¬ kind = 1 → ¬ kind = 4 → ¬ isc = 0 → z_lt made 6) → z_pfC S i kind made by' mem isc own = z_pf S i kind type mem obj → qV Γ rm_X5_perform 11 194 [(0, .ref (q_ad Γ 0 i)), (1, .int kind), (2, .int type), (3, .int mem), (4, .int obj), (5, .int made), (6, .int by'), (7, .int f0), (8, .int isc), (9, .int own), (10, .ref (q_ad Γ 9 i))] [] S (0, 0) := by
      intro made by' isc own f0 hisc hown hown5 hmade hby hM hF
      have J233 : ∀ f : Int32, f = z_pfU S i kind made mem isc own → f = 45 → qV Γ rm_X5_perform 11 233 [(0, .ref (q_ad Γ 0 i)), (1, .int kind), (2, .int type), (3, .int mem), (4, .int obj), (5, .int made), (6, .int by'), (7, .int f), (8, .int isc), (9, .int own), (10, .ref (q_ad Γ 9 i))] [] S (0, 0) := by
        intro f hf hf45
        have hD : z_pfD S i kind made by' mem isc own = z_pf S i kind type mem obj := by rw [← hF]; unfold z_pfC; rw [if_pos (hf ▸ hf45)]
        have hk5 : kind = 1 ∨ isc = 0 → z_lt own 5 := fun h => z_lt5 hown (fun e => by
          have h2 : z_pfU S i kind made mem isc own = z_ouf kind := by unfold z_pfU; rw [if_pos e]
          rcases h with h | h
          · exact z_oufn (h2 ▸ hf ▸ hf45) h
          · exact hown5 h e)
        refine q_iload hC 5 dX5_perform_233 rfl rfl ?_
        refine q_iconst hC dX5_perform_235 (v := (-1)) (by decide) rfl ?_
        refine q_icmp_eq hC dX5_perform_236 (t := 277) (n := 239) (by decide) rfl (fun h236 => ?_) (fun h236 => ?_)
        · refine q_locp [0, 1, 2, 3, 4, 5, 6, 8, 9, 10] (ls' := [(0, _), (1, _), (2, _), (3, _), (4, _), (5, _), (6, _), (8, _), (9, _), (10, _)]) rfl ?_
          exact J277a _ _ _ _ hisc hk5 hby hM (by skip; rw [← hD]; simp only [z_pfD, z_rch, if_pos h236, z_e10, if_false])
        · refine q_iload hC 5 dX5_perform_239 rfl rfl ?_
          refine q_iload hC 6 dX5_perform_241 rfl rfl ?_
          refine q_icmp_eq hC dX5_perform_243 (t := 277) (n := 246) (by decide) rfl (fun h243 => ?_) (fun h243 => ?_)
          · refine q_locp [0, 1, 2, 3, 4, 5, 6, 8, 9, 10] (ls' := [(0, _), (1, _), (2, _), (3, _), (4, _), (5, _), (6, _), (8, _), (9, _), (10, _)]) rfl ?_
            exact J277a _ _ _ _ hisc hk5 hby hM (by skip; rw [← hD]; simp only [z_pfD, z_rch, if_neg h236, if_pos h243, z_e10, if_false])
          · refine q_aload_n hC 0 dX5_perform_246 rfl rfl ?_
            refine q_get_f hC f_X5_21 dX5_perform_247 rfl rfl hi rfl ?_
            refine q_get_f hC f_X5_149 dX5_perform_250 rfl rfl hi rfl ?_
            refine q_iload hC 5 dX5_perform_253 rfl rfl ?_
            refine q_iald hC dX5_perform_255 rfl hi (z_in (z_v6n hmade h236) (by decide)) rfl ?_
            refine q_iload hC 6 dX5_perform_256 rfl rfl ?_
            refine q_callSN hC (c_X9_has (q_hD hC)) m_X9_has ln_X5_70 dX5_perform_258 (S 18 i made.toNatClampNeg, by') rfl rfl (Nat.le_of_ble_eq_true rfl) ⟨⟨by decide, by decide⟩, by decide, by decide⟩ rfl (k' := (0, 0)) rfl trivial (fun v S' hp => ?_)
            obtain ⟨r258_3, rfl, hr258_3, rfl⟩ := hp
            have hr258_3 : r258_3 = z_has (S 18 i made.toNatClampNeg) by' := hr258_3
            show qV Γ _ _ 261 _ (.int _ :: _) _ _
            refine q_if_ne hC dX5_perform_261 (t := 277) (n := 264) (by decide) rfl (fun h261 => ?_) (fun h261 => ?_)
            · refine q_locp [0, 1, 2, 3, 4, 5, 6, 8, 9, 10] (ls' := [(0, _), (1, _), (2, _), (3, _), (4, _), (5, _), (6, _), (8, _), (9, _), (10, _)]) rfl ?_
              exact J277a _ _ _ _ hisc hk5 hby hM (by subst hr258_3; rw [← hD]; simp only [z_pfD, z_rch, if_neg h236, if_neg h243, if_neg h261, z_e10, if_false])
            · refine q_iload_n hC 1 dX5_perform_264 rfl rfl ?_
              refine q_iconst hC dX5_perform_265 (v := 3) (by decide) rfl ?_
              refine q_icmp_ne hC dX5_perform_266 (t := 274) (n := 269) (by decide) rfl (fun h266 => ?_) (fun h266 => ?_)
              · refine q_bipush hC dX5_perform_274 (v := (-86)) (by decide) rfl ?_
                refine q_iret hC dX5_perform_276 rfl ⟨by decide, by decide⟩ ⟨_, rfl, ?_⟩
                exact ⟨by subst hr258_3; rw [← hD]; simp only [z_pfD, z_rch, if_neg h236, if_neg h243, if_pos h261, if_neg h266, if_true], rfl⟩
              · refine q_bipush hC dX5_perform_269 (v := (-73)) (by decide) rfl ?_
                refine q_goto hC dX5_perform_271 (n := 276) (by decide) ?_
                refine q_iret hC dX5_perform_276 rfl ⟨by decide, by decide⟩ ⟨_, rfl, ?_⟩
                exact ⟨by subst hr258_3; rw [← hD]; simp only [z_pfD, z_rch, if_neg h236, if_neg h243, if_pos h261, if_pos h266, if_true], rfl⟩
      refine q_iload hC 9 dX5_perform_194 rfl rfl ?_
      refine q_iconst hC dX5_perform_196 (v := 5) (by decide) rfl ?_
      refine q_icmp_ne hC dX5_perform_197 (t := 208) (n := 200) (by decide) rfl (fun h197 => ?_) (fun h197 => ?_)
      · refine q_aload_n hC 0 dX5_perform_208 rfl rfl ?_
        refine q_iload_n hC 1 dX5_perform_209 rfl rfl ?_
        refine q_aload hC 10 dX5_perform_210 rfl rfl ?_
        refine q_iload hC 9 dX5_perform_212 rfl rfl ?_
        refine q_iload_n hC 3 dX5_perform_214 rfl rfl ?_
        refine q_iload hC 5 dX5_perform_215 rfl rfl ?_
        refine q_callV hC (c_X5_useFault (q_hD hC)) m_X5_useFault lk_X5_145 dX5_perform_217 (i, 9, kind, own, mem, made) rfl rfl rfl rfl rfl hi (Nat.le_of_ble_eq_true rfl) ⟨⟨by decide, by decide⟩, by decide, by decide⟩ rfl (k' := (0, 0)) rfl ⟨hi, Or.inl rfl, z_lt5 hown h197, hmem hk0⟩ (fun v S' hp => ?_)
        obtain ⟨r217_2, rfl, hr217_2, rfl⟩ := hp
        have hr217_2 : r217_2 = z_uf S i (S 10 i) (S 11 i) kind own mem made := hr217_2
        show qV Γ _ _ 220 _ (.int _ :: _) _ _
        refine q_istore hC dX5_perform_220 (by decide) (ls' := [(0, _), (1, _), (2, _), (3, _), (4, _), (5, _), (6, _), (7, _), (8, _), (9, _), (10, _)]) rfl rfl ?_
        refine q_iload hC 7 dX5_perform_222 rfl rfl ?_
        refine q_bipush hC dX5_perform_224 (v := 45) (by decide) rfl ?_
        refine q_icmp_eq hC dX5_perform_226 (t := 233) (n := 229) (by decide) rfl (fun h226 => ?_) (fun h226 => ?_)
        · exact J233 _ (by subst hr217_2; simp only [z_pfU, if_neg hisc, if_neg h197, if_pos h226]) h226
        · refine q_iload hC 7 dX5_perform_229 rfl rfl ?_
          refine q_ineg hC dX5_perform_231 rfl ?_
          refine q_iret hC dX5_perform_232 rfl ⟨by decide, by decide⟩ ⟨_, rfl, ?_⟩
          exact ⟨by subst hr217_2; rw [← hF]; simp only [z_pfC, z_pfU, if_neg hisc, if_neg h197, if_neg h226], rfl⟩
      · refine q_aload_n hC 0 dX5_perform_200 rfl rfl ?_
        refine q_iload_n hC 1 dX5_perform_201 rfl rfl ?_
        refine q_callV hC (c_X5_ownUseFault (q_hD hC)) m_X5_ownUseFault lk_X5_142 dX5_perform_202 (i, kind) rfl rfl rfl rfl rfl hi (Nat.le_of_ble_eq_true rfl) ⟨⟨by decide, by decide⟩, by decide, by decide⟩ rfl (k' := (0, 0)) rfl hi (fun v S' hp => ?_)
        obtain ⟨r202_4, rfl, hr202_4, rfl⟩ := hp
        show qV Γ _ _ 205 _ (.int _ :: _) _ _
        refine q_goto hC dX5_perform_205 (n := 220) (by decide) ?_
        refine q_istore hC dX5_perform_220 (by decide) (ls' := [(0, _), (1, _), (2, _), (3, _), (4, _), (5, _), (6, _), (7, _), (8, _), (9, _), (10, _)]) rfl rfl ?_
        refine q_iload hC 7 dX5_perform_222 rfl rfl ?_
        refine q_bipush hC dX5_perform_224 (v := 45) (by decide) rfl ?_
        refine q_icmp_eq hC dX5_perform_226 (t := 233) (n := 229) (by decide) rfl (fun h226 => ?_) (fun h226 => ?_)
        · exact J233 _ (by subst hr202_4; simp only [z_pfU, if_neg hisc, if_pos h197, if_pos h226]) h226
        · refine q_iload hC 7 dX5_perform_229 rfl rfl ?_
          refine q_ineg hC dX5_perform_231 rfl ?_
          refine q_iret hC dX5_perform_232 rfl ⟨by decide, by decide⟩ ⟨_, rfl, ?_⟩
          exact ⟨by subst hr202_4; rw [← hF]; simp only [z_pfC, z_pfU, if_neg hisc, if_pos h197, if_neg h226], rfl⟩
    have J277b : ∀ (made by' isc own : Int32), isc = 0 → (kind = 1 ∨ isc = 0 → z_lt own 5) → z_lt by' 6 → (¬ kind = 1 → ¬ kind = 4 → ¬ isc = 0 → z_lt made 6) → z_pfE S i kind made by' mem isc own = z_pf S i kind type mem obj → qV Γ rm_X5_perform 11 277 [(0, .ref (q_ad Γ 0 i)), (1, .int kind), (2, .int type), (3, .int mem), (4, .int obj), (5, .int made), (6, .int by'), (8, .int isc), (9, .int own), (10, .ref (q_ad Γ 13 i))] [] S (0, 0) := by
      intro made by' isc own hisc hk5' hby hM' hF
      have hk5 : isc = 0 → z_lt own 5 := fun h => hk5' (Or.inr h)
      refine q_iload hC 7 dX5_perform_277 rfl rfl ?_
      refine q_if_eq hC dX5_perform_279 (t := 306) (n := 282) (by decide) rfl (fun h279 => ?_) (fun h279 => absurd hisc h279)
      refine q_iload_n hC 1 dX5_perform_306 rfl rfl ?_
      refine q_bipush hC dX5_perform_307 (v := 8) (by decide) rfl ?_
      refine q_icmp_eq hC dX5_perform_309 (t := 318) (n := 312) (by decide) rfl (fun h309 => ?_) (fun h309 => ?_)
      · refine q_iconst hC dX5_perform_318 (v := 0) (by decide) rfl ?_
        refine q_goto hC dX5_perform_319 (n := 335) (by decide) ?_
        refine q_iret hC dX5_perform_335 rfl ⟨by decide, by decide⟩ ⟨_, rfl, ?_⟩
        exact ⟨by skip; rw [← hF]; simp only [z_pfE, z_pfN, if_pos h279, if_pos h309], rfl⟩
      · refine q_iload_n hC 1 dX5_perform_312 rfl rfl ?_
        refine q_bipush hC dX5_perform_313 (v := 6) (by decide) rfl ?_
        refine q_icmp_ne hC dX5_perform_315 (t := 322) (n := 318) (by decide) rfl (fun h315 => ?_) (fun h315 => ?_)
        · refine q_aload hC 9 dX5_perform_322 rfl rfl ?_
          refine q_get_f hC f_X5_156 dX5_perform_324 rfl rfl hi rfl ?_
          refine q_iload hC 8 dX5_perform_327 rfl rfl ?_
          refine q_bipush hC dX5_perform_329 (v := 6) (by decide) rfl ?_
          refine q_imul hC dX5_perform_331 rfl ?_
          refine q_iload_n hC 3 dX5_perform_332 rfl rfl ?_
          refine q_iadd hC dX5_perform_333 rfl ?_
          refine q_iald hC dX5_perform_334 rfl hi (z_in30 (hk5 (by first | exact h284 | exact hisc)) (hmem hk0)) rfl ?_
          refine q_iret hC dX5_perform_335 rfl ⟨by decide, by decide⟩ ⟨_, rfl, ?_⟩
          exact ⟨by skip; rw [← hF]; simp only [z_pfE, z_pfN, if_pos h279, if_neg h309, if_neg h315], rfl⟩
        · refine q_iconst hC dX5_perform_318 (v := 0) (by decide) rfl ?_
          refine q_goto hC dX5_perform_319 (n := 335) (by decide) ?_
          refine q_iret hC dX5_perform_335 rfl ⟨by decide, by decide⟩ ⟨_, rfl, ?_⟩
          exact ⟨by skip; rw [← hF]; simp only [z_pfE, z_pfN, if_pos h279, if_neg h309, if_pos h315], rfl⟩
    have J192b : ∀ (made by' isc own : Int32) (f0 : Int32), isc = 0 → z_lt own 6 → (isc = 0 → ¬ own = 5) → z_v6 made → z_lt by' 6 → (¬ kind = 1 → ¬ kind = 4 → ¬ isc = 0 → z_lt made 6) → z_pfC S i kind made by' mem isc own = z_pf S i kind type mem obj → qV Γ rm_X5_perform 11 194 [(0, .ref (q_ad Γ 0 i)), (1, .int kind), (2, .int type), (3, .int mem), (4, .int obj), (5, .int made), (6, .int by'), (7, .int f0), (8, .int isc), (9, .int own), (10, .ref (q_ad Γ 13 i))] [] S (0, 0) := by
      intro made by' isc own f0 hisc hown hown5 hmade hby hM hF
      have J233 : ∀ f : Int32, f = z_pfU S i kind made mem isc own → f = 45 → qV Γ rm_X5_perform 11 233 [(0, .ref (q_ad Γ 0 i)), (1, .int kind), (2, .int type), (3, .int mem), (4, .int obj), (5, .int made), (6, .int by'), (7, .int f), (8, .int isc), (9, .int own), (10, .ref (q_ad Γ 13 i))] [] S (0, 0) := by
        intro f hf hf45
        have hD : z_pfD S i kind made by' mem isc own = z_pf S i kind type mem obj := by rw [← hF]; unfold z_pfC; rw [if_pos (hf ▸ hf45)]
        have hk5 : kind = 1 ∨ isc = 0 → z_lt own 5 := fun h => z_lt5 hown (fun e => by
          have h2 : z_pfU S i kind made mem isc own = z_ouf kind := by unfold z_pfU; rw [if_pos e]
          rcases h with h | h
          · exact z_oufn (h2 ▸ hf ▸ hf45) h
          · exact hown5 h e)
        refine q_iload hC 5 dX5_perform_233 rfl rfl ?_
        refine q_iconst hC dX5_perform_235 (v := (-1)) (by decide) rfl ?_
        refine q_icmp_eq hC dX5_perform_236 (t := 277) (n := 239) (by decide) rfl (fun h236 => ?_) (fun h236 => ?_)
        · refine q_locp [0, 1, 2, 3, 4, 5, 6, 8, 9, 10] (ls' := [(0, _), (1, _), (2, _), (3, _), (4, _), (5, _), (6, _), (8, _), (9, _), (10, _)]) rfl ?_
          exact J277b _ _ _ _ hisc hk5 hby hM (by skip; rw [← hD]; simp only [z_pfD, z_rch, if_pos h236, z_e10, if_false])
        · refine q_iload hC 5 dX5_perform_239 rfl rfl ?_
          refine q_iload hC 6 dX5_perform_241 rfl rfl ?_
          refine q_icmp_eq hC dX5_perform_243 (t := 277) (n := 246) (by decide) rfl (fun h243 => ?_) (fun h243 => ?_)
          · refine q_locp [0, 1, 2, 3, 4, 5, 6, 8, 9, 10] (ls' := [(0, _), (1, _), (2, _), (3, _), (4, _), (5, _), (6, _), (8, _), (9, _), (10, _)]) rfl ?_
            exact J277b _ _ _ _ hisc hk5 hby hM (by skip; rw [← hD]; simp only [z_pfD, z_rch, if_neg h236, if_pos h243, z_e10, if_false])
          · refine q_aload_n hC 0 dX5_perform_246 rfl rfl ?_
            refine q_get_f hC f_X5_21 dX5_perform_247 rfl rfl hi rfl ?_
            refine q_get_f hC f_X5_149 dX5_perform_250 rfl rfl hi rfl ?_
            refine q_iload hC 5 dX5_perform_253 rfl rfl ?_
            refine q_iald hC dX5_perform_255 rfl hi (z_in (z_v6n hmade h236) (by decide)) rfl ?_
            refine q_iload hC 6 dX5_perform_256 rfl rfl ?_
            refine q_callSN hC (c_X9_has (q_hD hC)) m_X9_has ln_X5_70 dX5_perform_258 (S 18 i made.toNatClampNeg, by') rfl rfl (Nat.le_of_ble_eq_true rfl) ⟨⟨by decide, by decide⟩, by decide, by decide⟩ rfl (k' := (0, 0)) rfl trivial (fun v S' hp => ?_)
            obtain ⟨r258_3, rfl, hr258_3, rfl⟩ := hp
            have hr258_3 : r258_3 = z_has (S 18 i made.toNatClampNeg) by' := hr258_3
            show qV Γ _ _ 261 _ (.int _ :: _) _ _
            refine q_if_ne hC dX5_perform_261 (t := 277) (n := 264) (by decide) rfl (fun h261 => ?_) (fun h261 => ?_)
            · refine q_locp [0, 1, 2, 3, 4, 5, 6, 8, 9, 10] (ls' := [(0, _), (1, _), (2, _), (3, _), (4, _), (5, _), (6, _), (8, _), (9, _), (10, _)]) rfl ?_
              exact J277b _ _ _ _ hisc hk5 hby hM (by subst hr258_3; rw [← hD]; simp only [z_pfD, z_rch, if_neg h236, if_neg h243, if_neg h261, z_e10, if_false])
            · refine q_iload_n hC 1 dX5_perform_264 rfl rfl ?_
              refine q_iconst hC dX5_perform_265 (v := 3) (by decide) rfl ?_
              refine q_icmp_ne hC dX5_perform_266 (t := 274) (n := 269) (by decide) rfl (fun h266 => ?_) (fun h266 => ?_)
              · refine q_bipush hC dX5_perform_274 (v := (-86)) (by decide) rfl ?_
                refine q_iret hC dX5_perform_276 rfl ⟨by decide, by decide⟩ ⟨_, rfl, ?_⟩
                exact ⟨by subst hr258_3; rw [← hD]; simp only [z_pfD, z_rch, if_neg h236, if_neg h243, if_pos h261, if_neg h266, if_true], rfl⟩
              · refine q_bipush hC dX5_perform_269 (v := (-73)) (by decide) rfl ?_
                refine q_goto hC dX5_perform_271 (n := 276) (by decide) ?_
                refine q_iret hC dX5_perform_276 rfl ⟨by decide, by decide⟩ ⟨_, rfl, ?_⟩
                exact ⟨by subst hr258_3; rw [← hD]; simp only [z_pfD, z_rch, if_neg h236, if_neg h243, if_pos h261, if_pos h266, if_true], rfl⟩
      refine q_iload hC 9 dX5_perform_194 rfl rfl ?_
      refine q_iconst hC dX5_perform_196 (v := 5) (by decide) rfl ?_
      refine q_icmp_ne hC dX5_perform_197 (t := 208) (n := 200) (by decide) rfl (fun h197 => ?_) (fun h197 => ?_)
      · refine q_aload_n hC 0 dX5_perform_208 rfl rfl ?_
        refine q_iload_n hC 1 dX5_perform_209 rfl rfl ?_
        refine q_aload hC 10 dX5_perform_210 rfl rfl ?_
        refine q_iload hC 9 dX5_perform_212 rfl rfl ?_
        refine q_iload_n hC 3 dX5_perform_214 rfl rfl ?_
        refine q_iload hC 5 dX5_perform_215 rfl rfl ?_
        refine q_callV hC (c_X5_useFault (q_hD hC)) m_X5_useFault lk_X5_145 dX5_perform_217 (i, 13, kind, own, mem, made) rfl rfl rfl rfl rfl hi (Nat.le_of_ble_eq_true rfl) ⟨⟨by decide, by decide⟩, by decide, by decide⟩ rfl (k' := (0, 0)) rfl ⟨hi, Or.inr rfl, z_lt5 hown h197, hmem hk0⟩ (fun v S' hp => ?_)
        obtain ⟨r217_2, rfl, hr217_2, rfl⟩ := hp
        have hr217_2 : r217_2 = z_uf S i (S 14 i) (S 15 i) kind own mem made := hr217_2
        show qV Γ _ _ 220 _ (.int _ :: _) _ _
        refine q_istore hC dX5_perform_220 (by decide) (ls' := [(0, _), (1, _), (2, _), (3, _), (4, _), (5, _), (6, _), (7, _), (8, _), (9, _), (10, _)]) rfl rfl ?_
        refine q_iload hC 7 dX5_perform_222 rfl rfl ?_
        refine q_bipush hC dX5_perform_224 (v := 45) (by decide) rfl ?_
        refine q_icmp_eq hC dX5_perform_226 (t := 233) (n := 229) (by decide) rfl (fun h226 => ?_) (fun h226 => ?_)
        · exact J233 _ (by subst hr217_2; simp only [z_pfU, if_pos hisc, if_neg h197, if_pos h226]) h226
        · refine q_iload hC 7 dX5_perform_229 rfl rfl ?_
          refine q_ineg hC dX5_perform_231 rfl ?_
          refine q_iret hC dX5_perform_232 rfl ⟨by decide, by decide⟩ ⟨_, rfl, ?_⟩
          exact ⟨by subst hr217_2; rw [← hF]; simp only [z_pfC, z_pfU, if_pos hisc, if_neg h197, if_neg h226], rfl⟩
      · refine q_aload_n hC 0 dX5_perform_200 rfl rfl ?_
        refine q_iload_n hC 1 dX5_perform_201 rfl rfl ?_
        refine q_callV hC (c_X5_ownUseFault (q_hD hC)) m_X5_ownUseFault lk_X5_142 dX5_perform_202 (i, kind) rfl rfl rfl rfl rfl hi (Nat.le_of_ble_eq_true rfl) ⟨⟨by decide, by decide⟩, by decide, by decide⟩ rfl (k' := (0, 0)) rfl hi (fun v S' hp => ?_)
        obtain ⟨r202_4, rfl, hr202_4, rfl⟩ := hp
        show qV Γ _ _ 205 _ (.int _ :: _) _ _
        refine q_goto hC dX5_perform_205 (n := 220) (by decide) ?_
        refine q_istore hC dX5_perform_220 (by decide) (ls' := [(0, _), (1, _), (2, _), (3, _), (4, _), (5, _), (6, _), (7, _), (8, _), (9, _), (10, _)]) rfl rfl ?_
        refine q_iload hC 7 dX5_perform_222 rfl rfl ?_
        refine q_bipush hC dX5_perform_224 (v := 45) (by decide) rfl ?_
        refine q_icmp_eq hC dX5_perform_226 (t := 233) (n := 229) (by decide) rfl (fun h226 => ?_) (fun h226 => ?_)
        · exact J233 _ (by subst hr202_4; simp only [z_pfU, if_pos hisc, if_pos h197, if_pos h226]) h226
        · refine q_iload hC 7 dX5_perform_229 rfl rfl ?_
          refine q_ineg hC dX5_perform_231 rfl ?_
          refine q_iret hC dX5_perform_232 rfl ⟨by decide, by decide⟩ ⟨_, rfl, ?_⟩
          exact ⟨by subst hr202_4; rw [← hF]; simp only [z_pfC, z_pfU, if_pos hisc, if_pos h197, if_neg h226], rfl⟩
    have J130 : ∀ (made by' isc own : Int32) (f0 : Int32), isc = z_isCall kind → z_v6 own → (isc = 0 → ¬ own = 5) → z_v6 made → z_lt by' 6 → (¬ kind = 1 → ¬ kind = 4 → ¬ isc = 0 → z_lt made 6) → z_pfB S i kind made by' mem isc own = z_pf S i kind type mem obj → qV Γ rm_X5_perform 11 130 [(0, .ref (q_ad Γ 0 i)), (1, .int kind), (2, .int type), (3, .int mem), (4, .int obj), (5, .int made), (6, .int by'), (7, .int f0), (8, .int isc), (9, .int own)] [] S (0, 0) := by
      intro made by' isc own f0 hisce hown hown5 hmade hby hM hF
      refine q_iload hC 9 dX5_perform_130 rfl rfl ?_
      refine q_iconst hC dX5_perform_132 (v := (-1)) (by decide) rfl ?_
      refine q_icmp_eq hC dX5_perform_133 (t := 157) (n := 136) (by decide) rfl (fun h133 => ?_) (fun h133 => ?_)
      · refine q_iload hC 8 dX5_perform_157 rfl rfl ?_
        refine q_if_eq hC dX5_perform_159 (t := 167) (n := 162) (by decide) rfl (fun h159 => ?_) (fun h159 => ?_)
        · refine q_bipush hC dX5_perform_167 (v := (-70)) (by decide) rfl ?_
          refine q_iret hC dX5_perform_169 rfl ⟨by decide, by decide⟩ ⟨_, rfl, ?_⟩
          exact ⟨by skip; rw [← hF]; simp only [z_pfB, if_pos h133, if_pos h159], rfl⟩
        · refine q_bipush hC dX5_perform_162 (v := (-77)) (by decide) rfl ?_
          refine q_goto hC dX5_perform_164 (n := 169) (by decide) ?_
          refine q_iret hC dX5_perform_169 rfl ⟨by decide, by decide⟩ ⟨_, rfl, ?_⟩
          exact ⟨by skip; rw [← hF]; simp only [z_pfB, if_pos h133, if_neg h159], rfl⟩
      · refine q_iload_n hC 1 dX5_perform_136 rfl rfl ?_
        refine q_iconst hC dX5_perform_137 (v := 1) (by decide) rfl ?_
        refine q_icmp_ne hC dX5_perform_138 (t := 170) (n := 141) (by decide) rfl (fun h138 => ?_) (fun h138 => ?_)
        · refine q_iload hC 8 dX5_perform_170 rfl rfl ?_
          refine q_if_eq hC dX5_perform_172 (t := 185) (n := 175) (by decide) rfl (fun h172 => ?_) (fun h172 => ?_)
          · refine q_aload_n hC 0 dX5_perform_185 rfl rfl ?_
            refine q_get_f hC f_X5_12 dX5_perform_186 rfl rfl hi rfl ?_
            refine q_get_f hC f_X5_139 dX5_perform_189 rfl rfl hi rfl ?_
            refine q_astore hC dX5_perform_192 (by decide) (ls' := [(0, _), (1, _), (2, _), (3, _), (4, _), (5, _), (6, _), (7, _), (8, _), (9, _), (10, _)]) rfl rfl ?_
            first
              | exact J192a _ _ _ _ _ (by assumption) (z_v6n hown h133) hown5 hmade hby hM (by skip; rw [← hF]; simp only [z_pfB, if_neg h133, if_neg h138, if_pos h172])
              | exact J192b _ _ _ _ _ (by assumption) (z_v6n hown h133) hown5 hmade hby hM (by skip; rw [← hF]; simp only [z_pfB, if_neg h133, if_neg h138, if_pos h172])
          · refine q_aload_n hC 0 dX5_perform_175 rfl rfl ?_
            refine q_get_f hC f_X5_12 dX5_perform_176 rfl rfl hi rfl ?_
            refine q_get_f hC f_X5_105 dX5_perform_179 rfl rfl hi rfl ?_
            refine q_goto hC dX5_perform_182 (n := 192) (by decide) ?_
            refine q_astore hC dX5_perform_192 (by decide) (ls' := [(0, _), (1, _), (2, _), (3, _), (4, _), (5, _), (6, _), (7, _), (8, _), (9, _), (10, _)]) rfl rfl ?_
            first
              | exact J192a _ _ _ _ _ (by assumption) (z_v6n hown h133) hown5 hmade hby hM (by skip; rw [← hF]; simp only [z_pfB, if_neg h133, if_neg h138, if_neg h172])
              | exact J192b _ _ _ _ _ (by assumption) (z_v6n hown h133) hown5 hmade hby hM (by skip; rw [← hF]; simp only [z_pfB, if_neg h133, if_neg h138, if_neg h172])
        · refine q_iload hC 9 dX5_perform_141 rfl rfl ?_
          refine q_iload hC 6 dX5_perform_143 rfl rfl ?_
          refine q_icmp_eq hC dX5_perform_145 (t := 170) (n := 148) (by decide) rfl (fun h145 => ?_) (fun h145 => ?_)
          · refine q_iload hC 8 dX5_perform_170 rfl rfl ?_
            refine q_if_eq hC dX5_perform_172 (t := 185) (n := 175) (by decide) rfl (fun h172 => ?_) (fun h172 => ?_)
            · refine q_aload_n hC 0 dX5_perform_185 rfl rfl ?_
              refine q_get_f hC f_X5_12 dX5_perform_186 rfl rfl hi rfl ?_
              refine q_get_f hC f_X5_139 dX5_perform_189 rfl rfl hi rfl ?_
              refine q_astore hC dX5_perform_192 (by decide) (ls' := [(0, _), (1, _), (2, _), (3, _), (4, _), (5, _), (6, _), (7, _), (8, _), (9, _), (10, _)]) rfl rfl ?_
              first
                | exact J192a _ _ _ _ _ (by assumption) (z_v6n hown h133) hown5 hmade hby hM (by skip; rw [← hF]; simp only [z_pfB, if_neg h133, if_pos h138, if_pos h145, if_pos h172])
                | exact J192b _ _ _ _ _ (by assumption) (z_v6n hown h133) hown5 hmade hby hM (by skip; rw [← hF]; simp only [z_pfB, if_neg h133, if_pos h138, if_pos h145, if_pos h172])
            · refine q_aload_n hC 0 dX5_perform_175 rfl rfl ?_
              refine q_get_f hC f_X5_12 dX5_perform_176 rfl rfl hi rfl ?_
              refine q_get_f hC f_X5_105 dX5_perform_179 rfl rfl hi rfl ?_
              refine q_goto hC dX5_perform_182 (n := 192) (by decide) ?_
              refine q_astore hC dX5_perform_192 (by decide) (ls' := [(0, _), (1, _), (2, _), (3, _), (4, _), (5, _), (6, _), (7, _), (8, _), (9, _), (10, _)]) rfl rfl ?_
              first
                | exact J192a _ _ _ _ _ (by assumption) (z_v6n hown h133) hown5 hmade hby hM (by skip; rw [← hF]; simp only [z_pfB, if_neg h133, if_pos h138, if_pos h145, if_neg h172])
                | exact J192b _ _ _ _ _ (by assumption) (z_v6n hown h133) hown5 hmade hby hM (by skip; rw [← hF]; simp only [z_pfB, if_neg h133, if_pos h138, if_pos h145, if_neg h172])
          · refine q_aload_n hC 0 dX5_perform_148 rfl rfl ?_
            refine q_iload hC 9 dX5_perform_149 rfl rfl ?_
            refine q_callV hC (c_X5_isClass (q_hD hC)) m_X5_isClass lk_X5_136 dX5_perform_151 (i, own) rfl rfl rfl rfl rfl hi (Nat.le_of_ble_eq_true rfl) ⟨⟨by decide, by decide⟩, by decide, by decide⟩ rfl (k' := (0, 0)) rfl ⟨hi, z_v6n hown h133⟩ (fun v S' hp => ?_)
            obtain ⟨r151_7, rfl, hr151_7, rfl⟩ := hp
            show qV Γ _ _ 154 _ (.int _ :: _) _ _
            refine q_if_ne hC dX5_perform_154 (t := 170) (n := 157) (by decide) rfl (fun h154 => ?_) (fun h154 => ?_)
            · refine q_iload hC 8 dX5_perform_170 rfl rfl ?_
              refine q_if_eq hC dX5_perform_172 (t := 185) (n := 175) (by decide) rfl (fun h172 => ?_) (fun h172 => ?_)
              · refine q_aload_n hC 0 dX5_perform_185 rfl rfl ?_
                refine q_get_f hC f_X5_12 dX5_perform_186 rfl rfl hi rfl ?_
                refine q_get_f hC f_X5_139 dX5_perform_189 rfl rfl hi rfl ?_
                refine q_astore hC dX5_perform_192 (by decide) (ls' := [(0, _), (1, _), (2, _), (3, _), (4, _), (5, _), (6, _), (7, _), (8, _), (9, _), (10, _)]) rfl rfl ?_
                first
                  | exact J192a _ _ _ _ _ (by assumption) (z_v6n hown h133) hown5 hmade hby hM (by subst hr151_7; rw [← hF]; simp only [z_pfB, if_neg h133, if_pos h138, if_neg h145, if_neg h154, if_pos h172])
                  | exact J192b _ _ _ _ _ (by assumption) (z_v6n hown h133) hown5 hmade hby hM (by subst hr151_7; rw [← hF]; simp only [z_pfB, if_neg h133, if_pos h138, if_neg h145, if_neg h154, if_pos h172])
              · refine q_aload_n hC 0 dX5_perform_175 rfl rfl ?_
                refine q_get_f hC f_X5_12 dX5_perform_176 rfl rfl hi rfl ?_
                refine q_get_f hC f_X5_105 dX5_perform_179 rfl rfl hi rfl ?_
                refine q_goto hC dX5_perform_182 (n := 192) (by decide) ?_
                refine q_astore hC dX5_perform_192 (by decide) (ls' := [(0, _), (1, _), (2, _), (3, _), (4, _), (5, _), (6, _), (7, _), (8, _), (9, _), (10, _)]) rfl rfl ?_
                first
                  | exact J192a _ _ _ _ _ (by assumption) (z_v6n hown h133) hown5 hmade hby hM (by subst hr151_7; rw [← hF]; simp only [z_pfB, if_neg h133, if_pos h138, if_neg h145, if_neg h154, if_neg h172])
                  | exact J192b _ _ _ _ _ (by assumption) (z_v6n hown h133) hown5 hmade hby hM (by subst hr151_7; rw [← hF]; simp only [z_pfB, if_neg h133, if_pos h138, if_neg h145, if_neg h154, if_neg h172])
            · refine q_iload hC 8 dX5_perform_157 rfl rfl ?_
              refine q_if_eq hC dX5_perform_159 (t := 167) (n := 162) (by decide) rfl (fun h159 => ?_) (fun h159 => ?_)
              · refine q_bipush hC dX5_perform_167 (v := (-70)) (by decide) rfl ?_
                refine q_iret hC dX5_perform_169 rfl ⟨by decide, by decide⟩ ⟨_, rfl, ?_⟩
                exact ⟨by subst hr151_7; rw [← hF]; simp only [z_pfB, if_neg h133, if_pos h138, if_neg h145, if_pos h154, if_pos h159], rfl⟩
              · refine q_bipush hC dX5_perform_162 (v := (-77)) (by decide) rfl ?_
                refine q_goto hC dX5_perform_164 (n := 169) (by decide) ?_
                refine q_iret hC dX5_perform_169 rfl ⟨by decide, by decide⟩ ⟨_, rfl, ?_⟩
                exact ⟨by subst hr151_7; rw [← hF]; simp only [z_pfB, if_neg h133, if_pos h138, if_neg h145, if_pos h154, if_neg h159], rfl⟩
    have J47 : ∀ (made by' f : Int32), f = z_pfM S i made → z_v6 made → z_v6 by' → (kind = 2 ∨ kind = 3 → z_lt made 6) → z_pfA S i kind made by' mem = z_pf S i kind type mem obj → qV Γ rm_X5_perform 11 47 [(0, .ref (q_ad Γ 0 i)), (1, .int kind), (2, .int type), (3, .int mem), (4, .int obj), (5, .int made), (6, .int by'), (7, .int f)] [] S (0, 0) := by
      intro made by' f hf hmade hby hM hF
      refine q_iload hC 7 dX5_perform_47 rfl rfl ?_
      refine q_bipush hC dX5_perform_49 (v := 45) (by decide) rfl ?_
      refine q_icmp_eq hC dX5_perform_51 (t := 58) (n := 54) (by decide) rfl (fun h51 => ?_) (fun h51 => ?_)
      · refine q_iload_n hC 1 dX5_perform_58 rfl rfl ?_
        refine q_if_ne hC dX5_perform_59 (t := 64) (n := 62) (by decide) rfl (fun h59 => ?_) (fun h59 => ?_)
        · refine q_aload_n hC 0 dX5_perform_64 rfl rfl ?_
          refine q_iload_n hC 1 dX5_perform_65 rfl rfl ?_
          refine q_iload hC 6 dX5_perform_66 rfl rfl ?_
          refine q_callV hC (c_X5_typeFault (q_hD hC)) m_X5_typeFault lk_X5_122 dX5_perform_68 (i, kind, by') rfl rfl rfl rfl rfl hi (Nat.le_of_ble_eq_true rfl) ⟨⟨by decide, by decide⟩, by decide, by decide⟩ rfl (k' := (0, 0)) rfl ⟨hi, hby⟩ (fun v S' hp => ?_)
          obtain ⟨r68_3, rfl, hr68_3, rfl⟩ := hp
          have hr68_3 : r68_3 = z_tf S i kind by' := hr68_3
          show qV Γ _ _ 71 _ (.int _ :: _) _ _
          refine q_istore hC dX5_perform_71 (by decide) (ls' := [(0, _), (1, _), (2, _), (3, _), (4, _), (5, _), (6, _), (7, _)]) rfl rfl ?_
          refine q_iload hC 7 dX5_perform_73 rfl rfl ?_
          refine q_bipush hC dX5_perform_75 (v := 45) (by decide) rfl ?_
          refine q_icmp_eq hC dX5_perform_77 (t := 84) (n := 80) (by decide) rfl (fun h77 => ?_) (fun h77 => ?_)
          · refine q_iload_n hC 1 dX5_perform_84 rfl rfl ?_
            refine q_callSN hC (c_X9_isCall (q_hD hC)) m_X9_isCall ln_X5_126 dX5_perform_85 kind rfl rfl (Nat.le_of_ble_eq_true rfl) ⟨⟨by decide, by decide⟩, by decide, by decide⟩ rfl (k' := (0, 0)) rfl trivial (fun v S' hp => ?_)
            obtain ⟨r85_5, rfl, hr85_5, rfl⟩ := hp
            have hr85_5 : r85_5 = z_isCall kind := hr85_5
            show qV Γ _ _ 88 _ (.int _ :: _) _ _
            have hby6 : z_lt by' 6 := z_v6n hby (z_tfn (k := kind) (S := S) (i := i) (by first | (rw [← hr68_4]; assumption) | (rw [← hr68_3]; assumption) | (rw [← hr68_2]; assumption)))
            refine q_istore hC dX5_perform_88 (by decide) (ls' := [(0, _), (1, _), (2, _), (3, _), (4, _), (5, _), (6, _), (7, _), (8, _)]) rfl rfl ?_
            refine q_iload hC 8 dX5_perform_90 rfl rfl ?_
            refine q_if_eq hC dX5_perform_92 (t := 113) (n := 95) (by decide) rfl (fun h92 => ?_) (fun h92 => ?_)
            · refine q_aload_n hC 0 dX5_perform_113 rfl rfl ?_
              refine q_get_f hC f_X5_21 dX5_perform_114 rfl rfl hi rfl ?_
              refine q_get_f hC f_X5_133 dX5_perform_117 rfl rfl hi rfl ?_
              refine q_iload hC 6 dX5_perform_120 rfl rfl ?_
              refine q_bipush hC dX5_perform_122 (v := 6) (by decide) rfl ?_
              refine q_imul hC dX5_perform_124 rfl ?_
              refine q_iload_n hC 3 dX5_perform_125 rfl rfl ?_
              refine q_iadd hC dX5_perform_126 rfl ?_
              refine q_iald hC dX5_perform_127 rfl hi (z_in36 hby6 (hmem h59)) rfl ?_
              refine q_istore hC dX5_perform_128 (by decide) (ls' := [(0, _), (1, _), (2, _), (3, _), (4, _), (5, _), (6, _), (7, _), (8, _), (9, _)]) rfl rfl ?_
              exact J130 _ _ _ _ _ (by first | rfl | assumption) (by first | exact hT.1 _ (z_plx hby6 (hmem h59)) | exact (hT.2.2 _ (z_plx hby6 (hmem h59))).elim Or.inl (fun z => Or.inr (z_ltw z (by decide)))) (fun h => by first | exact absurd h (by assumption) | exact (hT.2.2 _ (z_plx hby6 (hmem h59))).elim (fun e => by rw [e]; decide) (fun z => z_ne5 z)) hmade hby6 (fun h1 h2 h3 => hM (z_kcall hkind (by first | exact h3 | (intro e; exact h3 (by first | exact e | (rw [← e]; assumption)))) h1 h2)) (by subst hr68_3 hr85_5; rw [← hF]; subst hf; simp only [z_pfA, z_pfO, if_pos h51, if_neg h59, if_pos h77, if_pos h92])
            · refine q_aload_n hC 0 dX5_perform_95 rfl rfl ?_
              refine q_get_f hC f_X5_21 dX5_perform_96 rfl rfl hi rfl ?_
              refine q_get_f hC f_X5_130 dX5_perform_99 rfl rfl hi rfl ?_
              refine q_iload hC 6 dX5_perform_102 rfl rfl ?_
              refine q_bipush hC dX5_perform_104 (v := 6) (by decide) rfl ?_
              refine q_imul hC dX5_perform_106 rfl ?_
              refine q_iload_n hC 3 dX5_perform_107 rfl rfl ?_
              refine q_iadd hC dX5_perform_108 rfl ?_
              refine q_iald hC dX5_perform_109 rfl hi (z_in36 hby6 (hmem h59)) rfl ?_
              refine q_goto hC dX5_perform_110 (n := 128) (by decide) ?_
              refine q_istore hC dX5_perform_128 (by decide) (ls' := [(0, _), (1, _), (2, _), (3, _), (4, _), (5, _), (6, _), (7, _), (8, _), (9, _)]) rfl rfl ?_
              exact J130 _ _ _ _ _ (by first | rfl | assumption) (by first | exact hT.1 _ (z_plx hby6 (hmem h59)) | exact (hT.2.2 _ (z_plx hby6 (hmem h59))).elim Or.inl (fun z => Or.inr (z_ltw z (by decide)))) (fun h => by first | exact absurd h (by assumption) | exact (hT.2.2 _ (z_plx hby6 (hmem h59))).elim (fun e => by rw [e]; decide) (fun z => z_ne5 z)) hmade hby6 (fun h1 h2 h3 => hM (z_kcall hkind (by first | exact h3 | (intro e; exact h3 (by first | exact e | (rw [← e]; assumption)))) h1 h2)) (by subst hr68_3 hr85_5; rw [← hF]; subst hf; simp only [z_pfA, z_pfO, if_pos h51, if_neg h59, if_pos h77, if_neg h92])
          · refine q_iload hC 7 dX5_perform_80 rfl rfl ?_
            refine q_ineg hC dX5_perform_82 rfl ?_
            refine q_iret hC dX5_perform_83 rfl ⟨by decide, by decide⟩ ⟨_, rfl, ?_⟩
            exact ⟨by subst hr68_3; rw [← hF]; subst hf; simp only [z_pfA, if_pos h51, if_neg h59, if_neg h77], rfl⟩
        · refine q_iconst hC dX5_perform_62 (v := 0) (by decide) rfl ?_
          refine q_iret hC dX5_perform_63 rfl ⟨by decide, by decide⟩ ⟨_, rfl, ?_⟩
          exact ⟨by skip; rw [← hF]; subst hf; simp only [z_pfA, if_pos h51, if_pos h59], rfl⟩
      · refine q_iload hC 7 dX5_perform_54 rfl rfl ?_
        refine q_ineg hC dX5_perform_56 rfl ?_
        refine q_iret hC dX5_perform_57 rfl ⟨by decide, by decide⟩ ⟨_, rfl, ?_⟩
        exact ⟨by skip; rw [← hF]; subst hf; simp only [z_pfA, if_neg h51], rfl⟩
    have J28 : ∀ (made by' : Int32), z_v6 made → z_v6 by' → (kind = 2 ∨ kind = 3 → z_lt made 6) → z_pfA S i kind made by' mem = z_pf S i kind type mem obj → qV Γ rm_X5_perform 11 28 [(0, .ref (q_ad Γ 0 i)), (1, .int kind), (2, .int type), (3, .int mem), (4, .int obj), (5, .int made), (6, .int by')] [] S (0, 0) := by
      intro made by' hmade hby hM hF
      refine q_iload hC 5 dX5_perform_28 rfl rfl ?_
      refine q_iconst hC dX5_perform_30 (v := (-1)) (by decide) rfl ?_
      refine q_icmp_ne hC dX5_perform_31 (t := 39) (n := 34) (by decide) rfl (fun h31 => ?_) (fun h31 => ?_)
      · refine q_aload_n hC 0 dX5_perform_39 rfl rfl ?_
        refine q_iload hC 5 dX5_perform_40 rfl rfl ?_
        refine q_callV hC (c_X5_makingFault (q_hD hC)) m_X5_makingFault lk_X5_118 dX5_perform_42 (i, made) rfl rfl rfl rfl rfl hi (Nat.le_of_ble_eq_true rfl) ⟨⟨by decide, by decide⟩, by decide, by decide⟩ rfl (k' := (0, 0)) rfl ⟨hi, z_v6n hmade h31, hg⟩ (fun v S' hp => ?_)
        obtain ⟨r42_2, rfl, hr42_2, rfl⟩ := hp
        have hr42_2 : r42_2 = z_mf S i made := hr42_2
        show qV Γ _ _ 45 _ (.int _ :: _) _ _
        refine q_istore hC dX5_perform_45 (by decide) (ls' := [(0, _), (1, _), (2, _), (3, _), (4, _), (5, _), (6, _), (7, _)]) rfl rfl ?_
        exact J47 _ _ _ (by subst hr42_2; simp only [z_pfM, if_neg h31]) hmade hby hM hF
      · refine q_bipush hC dX5_perform_34 (v := 45) (by decide) rfl ?_
        refine q_goto hC dX5_perform_36 (n := 45) (by decide) ?_
        refine q_istore hC dX5_perform_45 (by decide) (ls' := [(0, _), (1, _), (2, _), (3, _), (4, _), (5, _), (6, _), (7, _)]) rfl rfl ?_
        exact J47 _ _ _ (by skip; simp only [z_pfM, if_pos h31]) hmade hby hM hF
    show qV Γ _ _ 0 [(0, .ref (q_ad Γ 0 i)), (1, .int kind), (2, .int type), (3, .int mem), (4, .int obj)] [] S (0, 0)
    refine q_iload_n hC 1 dX5_perform_0 rfl rfl ?_
    refine q_iconst hC dX5_perform_1 (v := 4) (by decide) rfl ?_
    refine q_icmp_ne hC dX5_perform_2 (t := 9) (n := 5) (by decide) rfl (fun h2 => ?_) (fun h2 => ?_)
    · refine q_iload hC 4 dX5_perform_9 rfl rfl ?_
      refine q_istore hC dX5_perform_11 (by decide) (ls' := [(0, _), (1, _), (2, _), (3, _), (4, _), (5, _)]) rfl rfl ?_
      refine q_iload_n hC 1 dX5_perform_13 rfl rfl ?_
      refine q_iconst hC dX5_perform_14 (v := 4) (by decide) rfl ?_
      refine q_icmp_ne hC dX5_perform_15 (t := 25) (n := 18) (by decide) rfl (fun _ => ?_) (fun h => (by first | exact absurd h h2 | exact absurd h2 h))
      refine q_iload_n hC 2 dX5_perform_25 rfl rfl ?_
      refine q_istore hC dX5_perform_26 (by decide) (ls' := [(0, _), (1, _), (2, _), (3, _), (4, _), (5, _), (6, _)]) rfl rfl ?_
      refine J28 _ _ (by first | exact hobj | exact Or.inr z_5) (by first | exact htype | exact hg.elim Or.inl (fun z => Or.inr (z_ltw z (by decide)))) (fun h => by first | exact hObj h | (exfalso; rcases h with h | h <;> (rw [h] at h2; exact absurd h2 (by decide)))) (by simp only [z_pf, if_neg h2])
    · refine q_iconst hC dX5_perform_5 (v := 5) (by decide) rfl ?_
      refine q_goto hC dX5_perform_6 (n := 11) (by decide) ?_
      refine q_istore hC dX5_perform_11 (by decide) (ls' := [(0, _), (1, _), (2, _), (3, _), (4, _), (5, _)]) rfl rfl ?_
      refine q_iload_n hC 1 dX5_perform_13 rfl rfl ?_
      refine q_iconst hC dX5_perform_14 (v := 4) (by decide) rfl ?_
      refine q_icmp_ne hC dX5_perform_15 (t := 25) (n := 18) (by decide) rfl (fun h => (by first | exact absurd h h2 | exact absurd h2 h)) (fun _ => ?_)
      refine q_aload_n hC 0 dX5_perform_18 rfl rfl ?_
      refine q_get_f hC f_X5_36 dX5_perform_19 rfl rfl hi rfl ?_
      refine q_goto hC dX5_perform_22 (n := 26) (by decide) ?_
      refine q_istore hC dX5_perform_26 (by decide) (ls' := [(0, _), (1, _), (2, _), (3, _), (4, _), (5, _), (6, _)]) rfl rfl ?_
      refine J28 _ _ (by first | exact hobj | exact Or.inr z_5) (by first | exact htype | exact hg.elim Or.inl (fun z => Or.inr (z_ltw z (by decide)))) (fun h => by first | exact hObj h | (exfalso; rcases h with h | h <;> (rw [h] at h2; exact absurd h2 (by decide)))) (by simp only [z_pf, if_pos h2])
