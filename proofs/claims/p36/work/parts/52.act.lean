-- printed by wip/p36/gen_m2.py
/-- the code of a type, X among them -/
def z_tc (x : Int32) : Prop := x = 88 ∨ ∃ u, u < 5 ∧ x = nI (65 + u)
/-- an act's part that it may have: none of it, or one of those up to L -/
def z_pt (has : Int32) (L n : Nat) : Prop := if has = 0 then n = 0 else 1 ≤ n ∧ n ≤ L
theorem z_row_c {x : Int32} {L : Nat} (h : z_tc x) (hv : ¬ z_isType x = 0 ∨ (x = 88 ∧ L = 6)) (hL : 5 ≤ L) : ∃ n, z_row x = z_c n ∧ 1 ≤ n ∧ n ≤ L := by
  rcases h with rfl | ⟨u, hu, rfl⟩
  · rcases hv with hv | ⟨-, rfl⟩
    · exact absurd (by decide) hv
    · exact ⟨6, by decide, by omega, by omega⟩
  · have key : ∀ u, u < 5 → z_row (nI (65 + u)) = z_c (u + 1) := by decide +kernel
    exact ⟨u + 1, key u hu, by omega, by omega⟩
theorem z_mi_c {a b : Nat} (ha : a < 3) (hb : b < 2) : z_mi (nI (97 + a)) (nI b) = z_c (a * 2 + b + 1) := by
  rw [z_miv a ha b hb]
  have key : ∀ m, m < 6 → nI m = z_c (m + 1) := by decide +kernel
  exact key _ (by omega)
theorem z_V_of {L k t m o : Nat} (hk : k < 9) (h1 : z_pt (z_hasType (nI k)) L t) (h2 : z_pt (z_hasMember (nI k)) 6 m) (h3 : z_pt (z_hasObject (nI k)) L o) (h4 : L = 5 → ¬ k = 4) : z_V L k t m o := ⟨hk, h1, h2, h3, h4⟩
theorem z_k4 : ∀ k, k < 9 → nI k = (4 : Int32) → k = 4 := by decide +kernel
theorem z_kn1 : ∀ k, k < 9 → ¬ nI k = (-1 : Int32) := by decide +kernel
theorem z_p0 {h : Int32} {L : Nat} (e : h = 0) : z_pt h L 0 := by unfold z_pt; rw [if_pos e]
theorem z_p1 {h : Int32} {L n : Nat} (e : ¬ h = 0) (h1 : 1 ≤ n) (h2 : n ≤ L) : z_pt h L n := by unfold z_pt; rw [if_neg e]; exact ⟨h1, h2⟩
abbrev rmx_X9_act : Room := { frames := 7, cells := 1, slots := 6, locals := 110 }
set_option maxHeartbeats 4000000 in
set_option maxRecDepth 100000 in
theorem b_X9_act {L : qL} (hD : q_D L.2.2.2.1) (hl : L.1.stackTraces = false) : qCB L yX9_act cX9_act 13 (some .int) rmx_X9_act (fun ad _ (x : Nat × Int32 × Int32 × Nat × Nat × Int32 × Nat) => [.ref (ad 36 0), .int (nI x.1), .int x.2.1, .int x.2.2.1, .int (nI (97 + x.2.2.2.1)), .int (nI x.2.2.2.2.1), .int x.2.2.2.2.2.1]) (fun x S => x.1 < 4 ∧ z_tc x.2.2.1 ∧ x.2.2.2.1 < 3 ∧ x.2.2.2.2.1 < 2 ∧ z_tc x.2.2.2.2.2.1 ∧ x.2.2.2.2.2.2 < 8 ∧ S 27 x.1 1 = nI x.2.2.2.2.2.2 ∧ z_bool (S 28 x.1 0)) (qPi (fun x S r S' => ∃ k t m o, z_V (if S 28 x.1 0 = 0 then 5 else 6) k t m o ∧ S' = z_add x.1 (nI k) (z_c t) (z_c m) (z_c o) S)) q_iae (fun _ S S' => S' = S) := by
  refine q_metB hD (by decide) (fun _ => Nat.le_of_ble_eq_true rfl) (fun Γ x S hΓ hpre hC hX => ?_)
  subst hΓ
  obtain ⟨c, kc, tc, a, b, oc, N⟩ := x
  obtain ⟨hc4, htc, ha, hb, hoc, hN, h1, hbo⟩ := hpre
  have hc4 : c < 4 := hc4
  have hc : c < 5 := by omega
  have hd : c < 6 := by omega
  have htc : z_tc tc := htc
  have ha : a < 3 := ha
  have hb : b < 2 := hb
  have hoc : z_tc oc := hoc
  have hN : N < 8 := hN
  have h1 : S 27 c 1 = nI N := h1
  have hbo : z_bool (S 28 c 0) := hbo
  generalize hLe : (if S 28 c 0 = 0 then 5 else 6) = L
  have hL5 : 5 ≤ L := by rw [← hLe]; split <;> omega
  have hL6 : ¬ S 28 c 0 = 0 → L = 6 := fun h => by rw [← hLe, if_neg h]
  have hL4 : S 28 c 0 = 0 → L = 5 := fun h => by rw [← hLe, if_pos h]
  have J226 : ∀ (k t m o : Nat), z_V L k t m o → qV Γ rmx_X9_act 13 226 [(0, .ref (q_ad Γ 36 0)), (1, .int (nI c)), (2, .int kc), (3, .int tc), (4, .int (nI (97 + a))), (5, .int (nI b)), (6, .int oc), (7, .ref (q_ad Γ 27 c)), (8, .int (nI k)), (9, .int (S 28 c 0)), (10, .int (z_c t)), (11, .int (z_c m)), (12, .int (z_c o))] [] S (0, 0) := by
    intro k t m o hv
    refine q_aload hC 7 dX9_act_226 rfl rfl ?_
    refine q_iload hC 8 dX9_act_228 rfl rfl ?_
    refine q_iload hC 10 dX9_act_230 rfl rfl ?_
    refine q_iload hC 11 dX9_act_232 rfl rfl ?_
    refine q_iload hC 12 dX9_act_234 rfl rfl ?_
    refine q_callV hC (c_X0_add (q_hD hC)) m_X0_add lk_X9_223 dX9_act_236 (c, nI k, z_c t, z_c m, z_c o) rfl rfl rfl rfl rfl hc (Nat.le_of_ble_eq_true rfl) ⟨⟨by decide, by decide⟩, by decide, by decide⟩ rfl (k' := (0, 0)) rfl ⟨hc, ⟨N, by omega, h1⟩⟩ (fun v S' hp => ?_)
    obtain ⟨rfl, rfl⟩ := hp
    show qV Γ _ _ 239 _ _ _ _
    refine q_aload hC 7 dX9_act_239 rfl rfl ?_
    refine q_get_f hC f_X9_166 dX9_act_241 rfl rfl hc rfl ?_
    refine q_iret hC dX9_act_244 rfl ⟨by decide, by decide⟩ ⟨_, rfl, ?_⟩
    exact ⟨k, t, m, o, by rw [hLe]; exact hv, rfl⟩
  have J207 : ∀ (k t m : Nat), k < 9 → (k = 4 → L = 6) → z_pt (z_hasType (nI k)) L t → z_pt (z_hasMember (nI k)) 6 m → (z_hasObject (nI k) = 0 ∨ (¬ z_isType oc = 0 ∨ (oc = 88 ∧ L = 6))) → qV Γ rmx_X9_act 13 207 [(0, .ref (q_ad Γ 36 0)), (1, .int (nI c)), (2, .int kc), (3, .int tc), (4, .int (nI (97 + a))), (5, .int (nI b)), (6, .int oc), (7, .ref (q_ad Γ 27 c)), (8, .int (nI k)), (9, .int (S 28 c 0)), (10, .int (z_c t)), (11, .int (z_c m))] [] S (0, 0) := by
    intro k t m hk h4 ht hm ho
    have h45 : L = 5 → ¬ k = 4 := fun e e4 => by have := h4 e4; omega
    refine q_iload hC 8 dX9_act_207 rfl rfl ?_
    refine q_callS hC (c_X9_hasObject (q_hD hC)) m_X9_hasObject lk_X9_217 dX9_act_209 (nI k) rfl rfl (Nat.le_of_ble_eq_true rfl) ⟨⟨by decide, by decide⟩, by decide, by decide⟩ rfl (k' := (0, 0)) rfl trivial (fun v S' hp => ?_)
    obtain ⟨r209_1, rfl, rfl, rfl⟩ := hp
    show qV Γ _ _ 212 _ (.int _ :: _) _ _
    refine q_if_eq hC dX9_act_212 (t := 223) (n := 215) (by decide) rfl (fun h212 => ?_) (fun h212 => ?_)
    · refine q_iconst hC dX9_act_223 (v := (-1)) (by decide) rfl ?_
      refine q_istore hC dX9_act_224 (by decide) (ls' := [(0, _), (1, _), (2, _), (3, _), (4, _), (5, _), (6, _), (7, _), (8, _), (9, _), (10, _), (11, _), (12, _)]) rfl rfl ?_
      exact J226 k t m 0 (z_V_of hk ht hm (z_p0 h212) h45)
    · refine q_iload hC 6 dX9_act_215 rfl rfl ?_
      refine q_callS hC (c_X9_rowOf (q_hD hC)) m_X9_rowOf lk_X9_220 dX9_act_217 oc rfl rfl (Nat.le_of_ble_eq_true rfl) ⟨⟨by decide, by decide⟩, by decide, by decide⟩ rfl (k' := (0, 0)) rfl trivial (fun v S' hp => ?_)
      obtain ⟨r217_3, rfl, rfl, rfl⟩ := hp
      show qV Γ _ _ 220 _ (.int _ :: _) _ _
      refine q_goto hC dX9_act_220 (n := 224) (by decide) ?_
      refine q_istore hC dX9_act_224 (by decide) (ls' := [(0, _), (1, _), (2, _), (3, _), (4, _), (5, _), (6, _), (7, _), (8, _), (9, _), (10, _), (11, _), (12, _)]) rfl rfl ?_
      obtain ⟨o, eo, o1, o2⟩ := z_row_c hoc (ho.elim (fun z => absurd z h212) id) hL5
      rw [eo]
      exact J226 k t m o (z_V_of hk ht hm (z_p1 h212 o1 o2) h45)
  have J186 : ∀ (k t : Nat), k < 9 → (k = 4 → L = 6) → z_pt (z_hasType (nI k)) L t → (z_hasObject (nI k) = 0 ∨ (¬ z_isType oc = 0 ∨ (oc = 88 ∧ L = 6))) → qV Γ rmx_X9_act 13 186 [(0, .ref (q_ad Γ 36 0)), (1, .int (nI c)), (2, .int kc), (3, .int tc), (4, .int (nI (97 + a))), (5, .int (nI b)), (6, .int oc), (7, .ref (q_ad Γ 27 c)), (8, .int (nI k)), (9, .int (S 28 c 0)), (10, .int (z_c t))] [] S (0, 0) := by
    intro k t hk h4 ht ho
    refine q_iload hC 8 dX9_act_186 rfl rfl ?_
    refine q_callS hC (c_X9_hasMember (q_hD hC)) m_X9_hasMember lk_X9_214 dX9_act_188 (nI k) rfl rfl (Nat.le_of_ble_eq_true rfl) ⟨⟨by decide, by decide⟩, by decide, by decide⟩ rfl (k' := (0, 0)) rfl trivial (fun v S' hp => ?_)
    obtain ⟨r188_1, rfl, rfl, rfl⟩ := hp
    show qV Γ _ _ 191 _ (.int _ :: _) _ _
    refine q_if_eq hC dX9_act_191 (t := 204) (n := 194) (by decide) rfl (fun h191 => ?_) (fun h191 => ?_)
    · refine q_iconst hC dX9_act_204 (v := (-1)) (by decide) rfl ?_
      refine q_istore hC dX9_act_205 (by decide) (ls' := [(0, _), (1, _), (2, _), (3, _), (4, _), (5, _), (6, _), (7, _), (8, _), (9, _), (10, _), (11, _)]) rfl rfl ?_
      exact J207 k t 0 hk h4 ht (z_p0 h191) ho
    · refine q_iload hC 4 dX9_act_194 rfl rfl ?_
      refine q_iload hC 5 dX9_act_196 rfl rfl ?_
      refine q_callS hC (c_X9_memberIndex (q_hD hC)) m_X9_memberIndex lk_X9_199 dX9_act_198 (nI (97 + a), nI b) rfl rfl (Nat.le_of_ble_eq_true rfl) ⟨⟨by decide, by decide⟩, by decide, by decide⟩ rfl (k' := (0, 0)) rfl trivial (fun v S' hp => ?_)
      obtain ⟨r198_3, rfl, rfl, rfl⟩ := hp
      show qV Γ _ _ 201 _ (.int _ :: _) _ _
      refine q_goto hC dX9_act_201 (n := 205) (by decide) ?_
      refine q_istore hC dX9_act_205 (by decide) (ls' := [(0, _), (1, _), (2, _), (3, _), (4, _), (5, _), (6, _), (7, _), (8, _), (9, _), (10, _), (11, _)]) rfl rfl ?_
      rw [show z_mi ((nI (97 + a), nI b) : Int32 × Int32).1 ((nI (97 + a), nI b) : Int32 × Int32).2 = z_c (a * 2 + b + 1) from z_mi_c ha hb]
      exact J207 k t _ hk h4 ht (z_p1 h191 (by omega) (by omega)) ho
  have J150 : ∀ (k : Nat), k < 9 → (k = 4 → L = 6) → (z_hasType (nI k) = 0 ∨ (¬ z_isType tc = 0 ∨ (tc = 88 ∧ L = 6))) → (z_hasObject (nI k) = 0 ∨ (¬ z_isType oc = 0 ∨ (oc = 88 ∧ L = 6))) → qV Γ rmx_X9_act 13 150 [(0, .ref (q_ad Γ 36 0)), (1, .int (nI c)), (2, .int kc), (3, .int tc), (4, .int (nI (97 + a))), (5, .int (nI b)), (6, .int oc), (7, .ref (q_ad Γ 27 c)), (8, .int (nI k)), (9, .int (S 28 c 0))] [] S (0, 0) := by
    intro k hk h4 ht ho
    refine q_aload hC 7 dX9_act_150 rfl rfl ?_
    refine q_get_f hC f_X9_166 dX9_act_152 rfl rfl hc rfl ?_
    refine q_bipush hC dX9_act_155 (v := 8) (by decide) rfl ?_
    refine q_icmp_ge hC dX9_act_157 (t := 164) (n := 160) (by decide) rfl (fun h157 => absurd h157 (by rw [h1]; exact nI_ge hN (by decide))) (fun h157 => ?_)
    refine q_iconst hC dX9_act_160 (v := 1) (by decide) rfl ?_
    refine q_goto hC dX9_act_161 (n := 165) (by decide) ?_
    refine q_callS hC (c_X9_needState (q_hD hC)) m_X9_needState lk_X9_193 dX9_act_165 1 rfl rfl (Nat.le_of_ble_eq_true rfl) ⟨⟨by decide, by decide⟩, by decide, by decide⟩ rfl (k' := (0, 0)) rfl z_1n0 (fun v S' hp => ?_)
    obtain ⟨rfl, rfl⟩ := hp
    show qV Γ _ _ 168 _ _ _ _
    refine q_iload hC 8 dX9_act_168 rfl rfl ?_
    refine q_callS hC (c_X9_hasType (q_hD hC)) m_X9_hasType lk_X9_210 dX9_act_170 (nI k) rfl rfl (Nat.le_of_ble_eq_true rfl) ⟨⟨by decide, by decide⟩, by decide, by decide⟩ rfl (k' := (0, 0)) rfl trivial (fun v S' hp => ?_)
    obtain ⟨r170_2, rfl, rfl, rfl⟩ := hp
    show qV Γ _ _ 173 _ (.int _ :: _) _ _
    refine q_if_eq hC dX9_act_173 (t := 183) (n := 176) (by decide) rfl (fun h173 => ?_) (fun h173 => ?_)
    · refine q_iconst hC dX9_act_183 (v := (-1)) (by decide) rfl ?_
      refine q_istore hC dX9_act_184 (by decide) (ls' := [(0, _), (1, _), (2, _), (3, _), (4, _), (5, _), (6, _), (7, _), (8, _), (9, _), (10, _)]) rfl rfl ?_
      exact J186 k 0 hk h4 (z_p0 h173) ho
    · refine q_iload_n hC 3 dX9_act_176 rfl rfl ?_
      refine q_callS hC (c_X9_rowOf (q_hD hC)) m_X9_rowOf lk_X9_220 dX9_act_177 tc rfl rfl (Nat.le_of_ble_eq_true rfl) ⟨⟨by decide, by decide⟩, by decide, by decide⟩ rfl (k' := (0, 0)) rfl trivial (fun v S' hp => ?_)
      obtain ⟨r177_4, rfl, rfl, rfl⟩ := hp
      show qV Γ _ _ 180 _ (.int _ :: _) _ _
      refine q_goto hC dX9_act_180 (n := 184) (by decide) ?_
      refine q_istore hC dX9_act_184 (by decide) (ls' := [(0, _), (1, _), (2, _), (3, _), (4, _), (5, _), (6, _), (7, _), (8, _), (9, _), (10, _)]) rfl rfl ?_
      obtain ⟨t, et, t1, t2⟩ := z_row_c htc (ht.elim (fun z => absurd z h173) id) hL5
      rw [et]
      exact J186 k t hk h4 (z_p1 h173 t1 t2) ho
  have G142 : ∀ (k : Nat), k < 9 → (k = 4 → L = 6) → (z_hasType (nI k) = 0 ∨ (¬ z_isType tc = 0 ∨ (tc = 88 ∧ L = 6))) → (z_hasObject (nI k) = 0 ∨ (¬ z_isType oc = 0 ∨ (oc = 88 ∧ L = 6))) → qV Γ rmx_X9_act 13 142 [(0, .ref (q_ad Γ 36 0)), (1, .int (nI c)), (2, .int kc), (3, .int tc), (4, .int (nI (97 + a))), (5, .int (nI b)), (6, .int oc), (7, .ref (q_ad Γ 27 c)), (8, .int (nI k)), (9, .int (S 28 c 0))] [] S (0, 0) := by
    intro k hk h4 ht ho
    refine q_iconst hC dX9_act_142 (v := 1) (by decide) rfl ?_
    refine q_goto hC dX9_act_143 (n := 147) (by decide) ?_
    refine q_callS hC (c_X9_needRange (q_hD hC)) m_X9_needRange lk_X9_62 dX9_act_147 1 rfl rfl (Nat.le_of_ble_eq_true rfl) ⟨⟨by decide, by decide⟩, by decide, by decide⟩ rfl (k' := (0, 0)) rfl z_1n0 (fun v S' hp => ?_)
    obtain ⟨rfl, rfl⟩ := hp
    show qV Γ _ _ 150 _ _ _ _
    exact J150 k hk h4 ht ho
  have J114 : ∀ (k : Nat), k < 9 → (k = 4 → L = 6) → (z_hasType (nI k) = 0 ∨ (¬ z_isType tc = 0 ∨ (tc = 88 ∧ L = 6))) → qV Γ rmx_X9_act 13 114 [(0, .ref (q_ad Γ 36 0)), (1, .int (nI c)), (2, .int kc), (3, .int tc), (4, .int (nI (97 + a))), (5, .int (nI b)), (6, .int oc), (7, .ref (q_ad Γ 27 c)), (8, .int (nI k)), (9, .int (S 28 c 0))] [] S (0, 0) := by
    intro k hk h4 ht
    refine q_iload hC 8 dX9_act_114 rfl rfl ?_
    refine q_callS hC (c_X9_hasObject (q_hD hC)) m_X9_hasObject lk_X9_217 dX9_act_116 (nI k) rfl rfl (Nat.le_of_ble_eq_true rfl) ⟨⟨by decide, by decide⟩, by decide, by decide⟩ rfl (k' := (0, 0)) rfl trivial (fun v S' hp => ?_)
    obtain ⟨r116_1, rfl, rfl, rfl⟩ := hp
    show qV Γ _ _ 119 _ (.int _ :: _) _ _
    refine q_if_eq hC dX9_act_119 (t := 142) (n := 122) (by decide) rfl (fun h119 => ?_) (fun h119 => ?_)
    · exact G142 k hk h4 ht (Or.inl h119)
    · refine q_iload hC 6 dX9_act_122 rfl rfl ?_
      refine q_callS hC (c_X9_isType (q_hD hC)) m_X9_isType lk_X9_58 dX9_act_124 oc rfl rfl (Nat.le_of_ble_eq_true rfl) ⟨⟨by decide, by decide⟩, by decide, by decide⟩ rfl (k' := (0, 0)) rfl trivial (fun v S' hp => ?_)
      obtain ⟨r124_3, rfl, rfl, rfl⟩ := hp
      show qV Γ _ _ 127 _ (.int _ :: _) _ _
      refine q_if_ne hC dX9_act_127 (t := 142) (n := 130) (by decide) rfl (fun h127 => ?_) (fun h127 => ?_)
      · exact G142 k hk h4 ht (Or.inr (Or.inl h127))
      · refine q_iload hC 6 dX9_act_130 rfl rfl ?_
        refine q_bipush hC dX9_act_132 (v := 88) (by decide) rfl ?_
        refine q_icmp_ne hC dX9_act_134 (t := 146) (n := 137) (by decide) rfl (fun h134 => ?_) (fun h134 => ?_)
        · refine q_iconst hC dX9_act_146 (v := 0) (by decide) rfl ?_
          exact q_xS hC hX (x_X9_needRange (q_hD hC) hl) m_X9_needRange lk_X9_62 dX9_act_147 () rfl rfl (Nat.le_of_ble_eq_true rfl) ⟨⟨by decide, by decide⟩, by decide, by decide⟩ trivial (fun _ h => h)
        · refine q_iload hC 9 dX9_act_137 rfl rfl ?_
          refine q_if_eq hC dX9_act_139 (t := 146) (n := 142) (by decide) rfl (fun h139 => ?_) (fun h139 => ?_)
          · refine q_iconst hC dX9_act_146 (v := 0) (by decide) rfl ?_
            exact q_xS hC hX (x_X9_needRange (q_hD hC) hl) m_X9_needRange lk_X9_62 dX9_act_147 () rfl rfl (Nat.le_of_ble_eq_true rfl) ⟨⟨by decide, by decide⟩, by decide, by decide⟩ trivial (fun _ h => h)
          · exact G142 k hk h4 ht (Or.inr (Or.inr ⟨h134, hL6 h139⟩))
  have G106 : ∀ (k : Nat), k < 9 → (k = 4 → L = 6) → (z_hasType (nI k) = 0 ∨ (¬ z_isType tc = 0 ∨ (tc = 88 ∧ L = 6))) → qV Γ rmx_X9_act 13 106 [(0, .ref (q_ad Γ 36 0)), (1, .int (nI c)), (2, .int kc), (3, .int tc), (4, .int (nI (97 + a))), (5, .int (nI b)), (6, .int oc), (7, .ref (q_ad Γ 27 c)), (8, .int (nI k)), (9, .int (S 28 c 0))] [] S (0, 0) := by
    intro k hk h4 ht
    refine q_iconst hC dX9_act_106 (v := 1) (by decide) rfl ?_
    refine q_goto hC dX9_act_107 (n := 111) (by decide) ?_
    refine q_callS hC (c_X9_needRange (q_hD hC)) m_X9_needRange lk_X9_62 dX9_act_111 1 rfl rfl (Nat.le_of_ble_eq_true rfl) ⟨⟨by decide, by decide⟩, by decide, by decide⟩ rfl (k' := (0, 0)) rfl z_1n0 (fun v S' hp => ?_)
    obtain ⟨rfl, rfl⟩ := hp
    show qV Γ _ _ 114 _ _ _ _
    exact J114 k hk h4 ht
  have J88 : ∀ (k : Nat), k < 9 → (k = 4 → L = 6) → (z_hasType (nI k) = 0 ∨ (¬ z_isType tc = 0 ∨ (tc = 88 ∧ L = 6))) → qV Γ rmx_X9_act 13 88 [(0, .ref (q_ad Γ 36 0)), (1, .int (nI c)), (2, .int kc), (3, .int tc), (4, .int (nI (97 + a))), (5, .int (nI b)), (6, .int oc), (7, .ref (q_ad Γ 27 c)), (8, .int (nI k)), (9, .int (S 28 c 0))] [] S (0, 0) := by
    intro k hk h4 ht
    refine q_iload hC 8 dX9_act_88 rfl rfl ?_
    refine q_callS hC (c_X9_hasMember (q_hD hC)) m_X9_hasMember lk_X9_214 dX9_act_90 (nI k) rfl rfl (Nat.le_of_ble_eq_true rfl) ⟨⟨by decide, by decide⟩, by decide, by decide⟩ rfl (k' := (0, 0)) rfl trivial (fun v S' hp => ?_)
    obtain ⟨r90_1, rfl, rfl, rfl⟩ := hp
    show qV Γ _ _ 93 _ (.int _ :: _) _ _
    refine q_if_eq hC dX9_act_93 (t := 106) (n := 96) (by decide) rfl (fun h93 => ?_) (fun h93 => ?_)
    · exact G106 k hk h4 ht
    · refine q_iload hC 4 dX9_act_96 rfl rfl ?_
      refine q_iload hC 5 dX9_act_98 rfl rfl ?_
      refine q_callS hC (c_X9_isMember (q_hD hC)) m_X9_isMember lk_X9_115 dX9_act_100 (nI (97 + a), nI b) rfl rfl (Nat.le_of_ble_eq_true rfl) ⟨⟨by decide, by decide⟩, by decide, by decide⟩ rfl (k' := (0, 0)) rfl trivial (fun v S' hp => ?_)
      obtain ⟨r100_3, rfl, rfl, rfl⟩ := hp
      show qV Γ _ _ 103 _ (.int _ :: _) _ _
      refine q_if_eq hC dX9_act_103 (t := 110) (n := 106) (by decide) rfl (fun h103 => absurd h103 (by rw [show z_isMember ((nI (97 + a), nI b) : Int32 × Int32).1 ((nI (97 + a), nI b) : Int32 × Int32).2 = 1 from z_isM a ha b hb]; exact z_1n0)) (fun h103 => ?_)
      exact G106 k hk h4 ht
  have G80 : ∀ (k : Nat), k < 9 → (k = 4 → L = 6) → (z_hasType (nI k) = 0 ∨ (¬ z_isType tc = 0 ∨ (tc = 88 ∧ L = 6))) → qV Γ rmx_X9_act 13 80 [(0, .ref (q_ad Γ 36 0)), (1, .int (nI c)), (2, .int kc), (3, .int tc), (4, .int (nI (97 + a))), (5, .int (nI b)), (6, .int oc), (7, .ref (q_ad Γ 27 c)), (8, .int (nI k)), (9, .int (S 28 c 0))] [] S (0, 0) := by
    intro k hk h4 ht
    refine q_iconst hC dX9_act_80 (v := 1) (by decide) rfl ?_
    refine q_goto hC dX9_act_81 (n := 85) (by decide) ?_
    refine q_callS hC (c_X9_needRange (q_hD hC)) m_X9_needRange lk_X9_62 dX9_act_85 1 rfl rfl (Nat.le_of_ble_eq_true rfl) ⟨⟨by decide, by decide⟩, by decide, by decide⟩ rfl (k' := (0, 0)) rfl z_1n0 (fun v S' hp => ?_)
    obtain ⟨rfl, rfl⟩ := hp
    show qV Γ _ _ 88 _ _ _ _
    exact J88 k hk h4 ht
  have J54 : ∀ (k : Nat), k < 9 → (k = 4 → L = 6) → qV Γ rmx_X9_act 13 54 [(0, .ref (q_ad Γ 36 0)), (1, .int (nI c)), (2, .int kc), (3, .int tc), (4, .int (nI (97 + a))), (5, .int (nI b)), (6, .int oc), (7, .ref (q_ad Γ 27 c)), (8, .int (nI k)), (9, .int (S 28 c 0))] [] S (0, 0) := by
    intro k hk h4
    refine q_iload hC 8 dX9_act_54 rfl rfl ?_
    refine q_callS hC (c_X9_hasType (q_hD hC)) m_X9_hasType lk_X9_210 dX9_act_56 (nI k) rfl rfl (Nat.le_of_ble_eq_true rfl) ⟨⟨by decide, by decide⟩, by decide, by decide⟩ rfl (k' := (0, 0)) rfl trivial (fun v S' hp => ?_)
    obtain ⟨r56_1, rfl, rfl, rfl⟩ := hp
    show qV Γ _ _ 59 _ (.int _ :: _) _ _
    refine q_if_eq hC dX9_act_59 (t := 80) (n := 62) (by decide) rfl (fun h59 => ?_) (fun h59 => ?_)
    · exact G80 k hk h4 (Or.inl h59)
    · refine q_iload_n hC 3 dX9_act_62 rfl rfl ?_
      refine q_callS hC (c_X9_isType (q_hD hC)) m_X9_isType lk_X9_58 dX9_act_63 tc rfl rfl (Nat.le_of_ble_eq_true rfl) ⟨⟨by decide, by decide⟩, by decide, by decide⟩ rfl (k' := (0, 0)) rfl trivial (fun v S' hp => ?_)
      obtain ⟨r63_3, rfl, rfl, rfl⟩ := hp
      show qV Γ _ _ 66 _ (.int _ :: _) _ _
      refine q_if_ne hC dX9_act_66 (t := 80) (n := 69) (by decide) rfl (fun h66 => ?_) (fun h66 => ?_)
      · exact G80 k hk h4 (Or.inr (Or.inl h66))
      · refine q_iload_n hC 3 dX9_act_69 rfl rfl ?_
        refine q_bipush hC dX9_act_70 (v := 88) (by decide) rfl ?_
        refine q_icmp_ne hC dX9_act_72 (t := 84) (n := 75) (by decide) rfl (fun h72 => ?_) (fun h72 => ?_)
        · refine q_iconst hC dX9_act_84 (v := 0) (by decide) rfl ?_
          exact q_xS hC hX (x_X9_needRange (q_hD hC) hl) m_X9_needRange lk_X9_62 dX9_act_85 () rfl rfl (Nat.le_of_ble_eq_true rfl) ⟨⟨by decide, by decide⟩, by decide, by decide⟩ trivial (fun _ h => h)
        · refine q_iload hC 9 dX9_act_75 rfl rfl ?_
          refine q_if_eq hC dX9_act_77 (t := 84) (n := 80) (by decide) rfl (fun h77 => ?_) (fun h77 => ?_)
          · refine q_iconst hC dX9_act_84 (v := 0) (by decide) rfl ?_
            exact q_xS hC hX (x_X9_needRange (q_hD hC) hl) m_X9_needRange lk_X9_62 dX9_act_85 () rfl rfl (Nat.le_of_ble_eq_true rfl) ⟨⟨by decide, by decide⟩, by decide, by decide⟩ trivial (fun _ h => h)
          · exact G80 k hk h4 (Or.inr (Or.inr ⟨h72, hL6 h77⟩))
  have G46 : ∀ (k : Nat), k < 9 → (k = 4 → L = 6) → qV Γ rmx_X9_act 13 46 [(0, .ref (q_ad Γ 36 0)), (1, .int (nI c)), (2, .int kc), (3, .int tc), (4, .int (nI (97 + a))), (5, .int (nI b)), (6, .int oc), (7, .ref (q_ad Γ 27 c)), (8, .int (nI k)), (9, .int (S 28 c 0))] [] S (0, 0) := by
    intro k hk h4
    refine q_iconst hC dX9_act_46 (v := 1) (by decide) rfl ?_
    refine q_goto hC dX9_act_47 (n := 51) (by decide) ?_
    refine q_callS hC (c_X9_needRange (q_hD hC)) m_X9_needRange lk_X9_62 dX9_act_51 1 rfl rfl (Nat.le_of_ble_eq_true rfl) ⟨⟨by decide, by decide⟩, by decide, by decide⟩ rfl (k' := (0, 0)) rfl z_1n0 (fun v S' hp => ?_)
    obtain ⟨rfl, rfl⟩ := hp
    show qV Γ _ _ 54 _ _ _ _
    exact J54 k hk h4
  have J29 : ∀ r : Int32, (r = -1 ∨ z_lt r 9) → qV Γ rmx_X9_act 13 29 [(0, .ref (q_ad Γ 36 0)), (1, .int (nI c)), (2, .int kc), (3, .int tc), (4, .int (nI (97 + a))), (5, .int (nI b)), (6, .int oc), (7, .ref (q_ad Γ 27 c)), (8, .int r), (9, .int (S 28 c 0))] [] S (0, 0) := by
    intro r hr
    refine q_iload hC 8 dX9_act_29 rfl rfl ?_
    refine q_iconst hC dX9_act_31 (v := (-1)) (by decide) rfl ?_
    refine q_icmp_eq hC dX9_act_32 (t := 50) (n := 35) (by decide) rfl (fun h32 => ?_) (fun h32 => ?_)
    · refine q_iconst hC dX9_act_50 (v := 0) (by decide) rfl ?_
      exact q_xS hC hX (x_X9_needRange (q_hD hC) hl) m_X9_needRange lk_X9_62 dX9_act_51 () rfl rfl (Nat.le_of_ble_eq_true rfl) ⟨⟨by decide, by decide⟩, by decide, by decide⟩ trivial (fun _ h => h)
    · refine q_iload hC 8 dX9_act_35 rfl rfl ?_
      refine q_iconst hC dX9_act_37 (v := 4) (by decide) rfl ?_
      refine q_icmp_ne hC dX9_act_38 (t := 46) (n := 41) (by decide) rfl (fun h38 => ?_) (fun h38 => ?_)
      · obtain ⟨k, hk, rfl⟩ : z_lt r 9 := hr.elim (fun z => absurd z h32) id
        exact G46 k hk (fun e => absurd (by rw [e]; rfl) h38)
      · refine q_iload hC 9 dX9_act_41 rfl rfl ?_
        refine q_if_eq hC dX9_act_43 (t := 50) (n := 46) (by decide) rfl (fun h43 => ?_) (fun h43 => ?_)
        · refine q_iconst hC dX9_act_50 (v := 0) (by decide) rfl ?_
          exact q_xS hC hX (x_X9_needRange (q_hD hC) hl) m_X9_needRange lk_X9_62 dX9_act_51 () rfl rfl (Nat.le_of_ble_eq_true rfl) ⟨⟨by decide, by decide⟩, by decide, by decide⟩ trivial (fun _ h => h)
        · obtain ⟨k, hk, rfl⟩ : z_lt r 9 := hr.elim (fun z => absurd z h32) id
          exact G46 k hk (fun _ => hL6 h43)
  show qV Γ _ _ 0 [(0, .ref (q_ad Γ 36 0)), (1, .int (nI c)), (2, .int kc), (3, .int tc), (4, .int (nI (97 + a))), (5, .int (nI b)), (6, .int oc)] [] S (0, 0)
  refine q_iload_n hC 1 dX9_act_0 rfl rfl ?_
  refine q_iconst hC dX9_act_1 (v := 4) (by decide) rfl ?_
  refine q_callS hC (c_X9_needPlace (q_hD hC)) m_X9_needPlace lk_X9_54 dX9_act_2 (c, 4) rfl rfl (Nat.le_of_ble_eq_true rfl) ⟨⟨by decide, by decide⟩, by decide, by decide⟩ rfl (k' := (0, 0)) rfl ⟨hc4, (show (4 : Nat) < 2 ^ 31 by decide)⟩ (fun v S' hp => ?_)
  obtain ⟨rfl, rfl⟩ := hp
  show qV Γ _ _ 5 _ _ _ _
  refine q_aload_n hC 0 dX9_act_5 rfl rfl ?_
  refine q_get_f hC f_X9_17 dX9_act_6 rfl rfl (Nat.le_of_ble_eq_true rfl) rfl ?_
  refine q_iload_n hC 1 dX9_act_9 rfl rfl ?_
  refine q_cli hC c dX9_act_10 rfl hc4 rfl ?_
  refine q_astore hC dX9_act_11 (by decide) (ls' := [(0, _), (1, _), (2, _), (3, _), (4, _), (5, _), (6, _), (7, _)]) rfl rfl ?_
  refine q_iload_n hC 2 dX9_act_13 rfl rfl ?_
  refine q_callS hC (c_X9_kindIndex (q_hD hC)) m_X9_kindIndex lk_X9_206 dX9_act_14 kc rfl rfl (Nat.le_of_ble_eq_true rfl) ⟨⟨by decide, by decide⟩, by decide, by decide⟩ rfl (k' := (0, 0)) rfl trivial (fun v S' hp => ?_)
  obtain ⟨rr, rfl, hrr, rfl⟩ := hp
  show qV Γ _ _ 17 _ (.int _ :: _) _ _
  refine q_istore hC dX9_act_17 (by decide) (ls' := [(0, _), (1, _), (2, _), (3, _), (4, _), (5, _), (6, _), (7, _), (8, _)]) rfl rfl ?_
  refine q_aload hC 7 dX9_act_19 rfl rfl ?_
  refine q_get_f hC f_X9_172 dX9_act_21 rfl rfl hc rfl ?_
  refine q_get_f hC f_X9_176 dX9_act_24 rfl rfl (Nat.lt_trans hc (by decide)) rfl ?_
  refine q_istore hC dX9_act_27 (by decide) (ls' := [(0, _), (1, _), (2, _), (3, _), (4, _), (5, _), (6, _), (7, _), (8, _), (9, _)]) rfl rfl ?_
  exact J29 rr hrr
