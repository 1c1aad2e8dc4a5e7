-- printed by wip/p36/gen_m2.py
def z_rest (s u p : Nat) : Int32 := nI s - 2 - (if u = 0 then 0 else 1) - z_bc (q_pairs p)
def z_cand (S : qM) (a b s u p m : Nat) : Prop := ¬ z_mba S a (z_c u) (q_pairs p) = 0 ∧ ((z_rest s u p = 0 ∧ m = 0) ∨ (z_rest s u p = 1 ∧ 1 ≤ m ∧ m ≤ 6)) ∧ (m = 0 ∨ ¬ z_has (S 17 a 10 ||| S 17 b 10) (z_c m) = 0)
def z_Vis (S : qM) (a b s u p m : Nat) : Prop := ∀ u' p' m', u' < 6 → p' < 16 → (u' < u ∨ (u' = u ∧ (p' < p ∨ (p' = p ∧ m' < m)))) → z_cand S a b s u' p' m' → z_no S a b (z_fx u' p' m')
def z_Fd (S : qM) (a b s : Nat) (T : qM) : Prop := ∃ u p m k t m' o, u < 6 ∧ p < 16 ∧ z_cand S a b s u p m ∧ z_E (z_put S (z_fx u p m)) a (z_br S b (z_fx u p m)) k t m' o ∧ z_tells S a b (z_fx u p m) (nI k) (z_c t) (z_c m') (z_c o) ∧ z_found T (z_fx u p m) k t m' o
def z_Dj (S : qM) (a b s : Nat) (V : Prop) (T : qM) : Prop := (T 35 0 4 = z_NF ∧ V) ∨ z_Fd S a b s T
theorem z_vis_next {S : qM} {a b s u p m : Nat} (h : z_Vis S a b s u p m) (hn : z_cand S a b s u p m → z_no S a b (z_fx u p m)) : z_Vis S a b s u p (m + 1) := by
  intro u' p' m' hu hp hlt hc
  by_cases he : u' = u ∧ p' = p ∧ m' = m
  · obtain ⟨rfl, rfl, rfl⟩ := he
    exact hn hc
  · exact h u' p' m' hu hp (by omega) hc
theorem z_vis_pair {S : qM} {a b s u p m : Nat} (h : z_Vis S a b s u p m) (hn : ∀ m', z_cand S a b s u p m' → m' < m) : z_Vis S a b s u (p + 1) 0 := by
  intro u' p' m' hu hp hlt hc
  by_cases he : u' = u ∧ p' = p
  · obtain ⟨rfl, rfl⟩ := he
    exact h u' p' m' hu hp (Or.inr ⟨rfl, Or.inr ⟨rfl, hn m' hc⟩⟩) hc
  · exact h u' p' m' hu hp (by omega) hc
theorem z_vis_u {S : qM} {a b s u : Nat} (h : z_Vis S a b s u 16 0) : z_Vis S a b s (u + 1) 0 0 := by
  intro u' p' m' hu hp hlt hc
  exact h u' p' m' hu hp (by omega) hc
theorem z_Dj.imp {S : qM} {a b s : Nat} {V V' : Prop} {T : qM} (h : z_Dj S a b s V T) (hv : V → V') : z_Dj S a b s V' T := h.elim (fun z => Or.inl ⟨z.1, hv z.2⟩) Or.inr
theorem z_Fd.out {S : qM} {a b s : Nat} {T U : qM} (h : z_Fd S a b s T) (ho : ∀ g k t m o, z_found T g k t m o → z_found U g k t m o) : z_Fd S a b s U := by
  obtain ⟨u, p, m, k, t, m', o, h1, h2, h3, h4, h5, h6⟩ := h
  exact ⟨u, p, m, k, t, m', o, h1, h2, h3, h4, h5, ho _ _ _ _ _ h6⟩
theorem z_Dj.out {S : qM} {a b s : Nat} {V : Prop} {T U : qM} (h : z_Dj S a b s V T) (h35 : U 35 0 4 = T 35 0 4) (ho : ∀ g k t m o, z_found T g k t m o → z_found U g k t m o) : z_Dj S a b s V U :=
  h.elim (fun z => Or.inl ⟨h35.trans z.1, z.2⟩) (fun z => Or.inr (z.out ho))
theorem z_set_fd {T : qM} {x y z : Int32} : z_oset 5 x y z T 35 0 4 = T 35 0 4 ∧ ∀ g k t m o, z_found T g k t m o → z_found (z_oset 5 x y z T) g k t m o := by
  have o := (z_oset_o (T := T) (x := x) (y := y) (z := z)).1
  exact ⟨by rw [o 35 0 (by omega)], fun g k t m o' h => z_found_out (by rw [o 35 0 (by omega)]) (o 28 4 (by omega)) (o 27 4 (by omega)) (fun k _ _ => o k 4 (by omega)) h⟩
theorem z_load_fd {i : Nat} {T : qM} (hs : z_v5 (T 28 5 1)) : z_loadS i 5 T 35 0 4 = T 35 0 4 ∧ ∀ g k t m o, z_found T g k t m o → z_found (z_loadS i 5 T) g k t m o := by
  have o := z_load_fr (i := i) (j := 5) (S := T) hs
  exact ⟨by rw [o 35 0 (by omega)], fun g k t m o' h => z_found_out (by rw [o 35 0 (by omega)]) (o 28 4 (by omega)) (o 27 4 (by omega)) (fun k _ _ => o k 4 (by omega)) h⟩
theorem z_I_old {S T : qM} {a b : Nat} (h : z_I S a b T) {x y : Int32} (h2 : S 35 0 2 = x) (h3 : S 35 0 3 = y) : T 35 0 2 = x ∧ T 35 0 3 = y := ⟨(h.1.2.2.2 2 (by omega)).trans h2, (h.1.2.2.2 3 (by omega)).trans h3⟩
theorem z_own_set {T : qM} {u p m : Nat} (hu : u ≤ 5) (hm : m ≤ 6) : z_own (z_oset 5 (z_c u) (q_pairs p) (z_c m) T) 5 := by
  have h := z_fx_own (u := u) (p := p) hu hm
  unfold z_own
  rw [z_oset_fx 0 (by omega), z_oset_fx 1 (by omega), z_oset_fx 3 (by omega)]
  exact h
theorem z_adv {S T S' : qM} {a b s u p m : Nat} (hu : u < 6) (hp : p < 16) (hc : z_cand S a b s u p m) (hD : z_Dj S a b s (z_Vis S a b s u p m) T)
    (h : (S' 35 0 4 = (z_oset 5 (z_c u) (q_pairs p) (z_c m) T) 35 0 4 ∧ (∀ g k t m' o, z_found (z_oset 5 (z_c u) (q_pairs p) (z_c m) T) g k t m' o → z_found S' g k t m' o) ∧ ((z_oset 5 (z_c u) (q_pairs p) (z_c m) T) 35 0 4 = z_NF → z_no S a b (z_fx u p m))) ∨
      (∃ k t m' o, z_E (z_put S (z_fx u p m)) a (z_br S b (z_fx u p m)) k t m' o ∧ z_tells S a b (z_fx u p m) (nI k) (z_c t) (z_c m') (z_c o) ∧ z_found S' (z_fx u p m) k t m' o)) : z_Dj S a b s (z_Vis S a b s u p (m + 1)) S' := by
  obtain ⟨e1, e2⟩ := z_set_fd (T := T) (x := z_c u) (y := q_pairs p) (z := z_c m)
  rcases h with ⟨h1, h2, h3⟩ | ⟨k, t, m', o, h1, h2, h3⟩
  · rcases hD with ⟨g1, g2⟩ | g
    · exact Or.inl ⟨h1.trans (e1.trans g1), z_vis_next g2 fun _ => h3 (e1.trans g1)⟩
    · exact Or.inr ((g.out e2).out h2)
  · exact Or.inr ⟨u, p, m, k, t, m', o, hu, hp, hc, h1, h2, h3⟩
theorem z_01 {x : Int32} (h0 : ¬ x < 0) (h1 : ¬ 1 < x) : x = 0 ∨ x = 1 := by
  obtain ⟨j, hj, rfl⟩ := nI_of h0
  rcases Nat.lt_or_ge 1 j with h | h
  · exact absurd (nI_lt (a := 1) h hj) h1
  · have : j = 0 ∨ j = 1 := by omega
    rcases this with rfl | rfl
    · exact Or.inl rfl
    · exact Or.inr rfl
theorem z_b0 {n : Nat} (h : n < 1) : ¬ (0 : Int32) ≤ z_c n := by
  have hh : ∀ n, n < 1 → ¬ (0 : Int32) ≤ z_c n := by decide +kernel
  exact hh n h
theorem z_b6 {n : Nat} (h : n < 7) : ¬ (6 : Int32) ≤ z_c n := by
  have hh : ∀ n, n < 7 → ¬ (6 : Int32) ≤ z_c n := by decide +kernel
  exact hh n h
theorem z_b5 {n : Nat} (h : n < 6) : ¬ (5 : Int32) ≤ z_c n := by
  have hh : ∀ n, n < 6 → ¬ (5 : Int32) ≤ z_c n := by decide +kernel
  exact hh n h
theorem z_c1 {n : Nat} (h : n ≤ 7) : (z_c n = -1 ↔ n = 0) := by
  have hh : ∀ n, n < 8 → (z_c n = -1 ↔ n = 0) := by decide +kernel
  exact hh n (by omega)
abbrev rm_X4_trySize : Room := { frames := 3, cells := 0, slots := 0, locals := 93 }
set_option maxHeartbeats 4000000 in
set_option maxRecDepth 100000 in
theorem c_X4_trySize {L : qL} (hD : q_D L.2.2.2.1) : qCT L yX4_trySize cX4_trySize 11 none rm_X4_trySize (fun ad _ (x : qM × Nat × Nat × Nat) => [.ref (ad 35 0), .int (nI x.2.2.2)]) (fun x S => x.2.1 < 4 ∧ x.2.2.1 < 4 ∧ z_I x.1 x.2.1 x.2.2.1 S ∧ x.1 35 0 2 = nI x.2.1 ∧ x.1 35 0 3 = nI x.2.2.1 ∧ S 35 0 4 = z_NF) (qPv (fun x _ S' => z_I x.1 x.2.1 x.2.2.1 S' ∧ z_Dj x.1 x.2.1 x.2.2.1 x.2.2.2 (∀ u p m, u < 6 → p < 16 → z_cand x.1 x.2.1 x.2.2.1 x.2.2.2 u p m → z_no x.1 x.2.1 x.2.2.1 (z_fx u p m)) S')) := by
  refine q_met hD (by decide) (fun _ => Nat.le_of_ble_eq_true rfl) (fun Γ x S hΓ hpre hC => ?_)
  subst hΓ
  obtain ⟨S0, a, b, s⟩ := x
  obtain ⟨ha, hb, hI0, hoa, hob, hnf⟩ := hpre
  have ha : a < 4 := ha
  have hb : b < 4 := hb
  have hI0 : z_I S0 a b S := hI0
  have hoa : S0 35 0 2 = nI a := hoa
  have hob : S0 35 0 3 = nI b := hob
  have hnf : S 35 0 4 = z_NF := hnf
  obtain ⟨o0, l0⟩ := z_I_old hI0 hoa hob
  obtain ⟨kn, hkne⟩ : ∃ kn, kn = S 17 a 10 ||| S 17 b 10 := ⟨_, rfl⟩
  have hkne0 : kn = S0 17 a 10 ||| S0 17 b 10 := by rw [hkne, hI0.1.1.1 17 (by omega) (by omega) (by omega), hI0.1.2.1.1 17 (by omega) (by omega) (by omega)]
  show qV Γ _ _ 0 [(0, .ref (q_ad Γ 35 0)), (1, .int (nI s))] [] S (0, 0)
  refine q_aload_n hC 0 dX4_trySize_0 rfl rfl ?_
  refine q_get_f hC f_X4_25 dX4_trySize_1 rfl (q_rfs o0 ha) (Nat.le_of_ble_eq_true rfl) rfl ?_
  refine q_get_f hC f_X4_54 dX4_trySize_4 rfl rfl ha rfl ?_
  refine q_get_f hC f_X4_58 dX4_trySize_7 rfl rfl ha rfl ?_
  refine q_aload_n hC 0 dX4_trySize_10 rfl rfl ?_
  refine q_get_f hC f_X4_29 dX4_trySize_11 rfl (q_rfs l0 hb) (Nat.le_of_ble_eq_true rfl) rfl ?_
  refine q_get_f hC f_X4_54 dX4_trySize_14 rfl rfl hb rfl ?_
  refine q_get_f hC f_X4_58 dX4_trySize_17 rfl rfl hb rfl ?_
  refine q_ior hC dX4_trySize_20 rfl ?_
  refine q_istore_n hC dX4_trySize_21 (by decide) (ls' := [(0, _), (1, _), (2, _)]) rfl rfl ?_
  show qV Γ _ _ 22 [(0, _), (1, _), (2, .int (S 17 a 10 ||| S 17 b 10))] [] S (0, 0)
  rw [← hkne]
  have hkne := hkne0
  have LM0 : ∀ (u p : Nat) (rs : Int32), u < 6 → p < 16 → rs = z_rest s u p → rs = 0 → ¬ z_mba S0 a (z_c u) (q_pairs p) = 0 →
      (∀ T, z_I S0 a b T → z_Dj S0 a b s (z_Vis S0 a b s u (p + 1) 0) T → qV Γ rm_X4_trySize 11 219 [(0, .ref (q_ad Γ 35 0)), (1, .int (nI s)), (2, .int kn), (3, .int (z_c u)), (4, .ref (q_o Γ).2.2), (5, .int 16), (6, .int (nI p))] [] T (0, 0)) →
      ∀ (n m : Nat) (T : qM), m + n = 1 → 0 ≤ m → z_I S0 a b T → z_Dj S0 a b s (z_Vis S0 a b s u p m) T → qV Γ rm_X4_trySize 11 117 [(0, .ref (q_ad Γ 35 0)), (1, .int (nI s)), (2, .int kn), (3, .int (z_c u)), (4, .ref (q_o Γ).2.2), (5, .int 16), (6, .int (nI p)), (7, .int (q_pairs p)), (8, .int rs), (9, .int (z_c m))] [] T (0, 0) := by
    intro u p rs hu hp hrs hr hmba hK n
    induction n with
    | zero =>
      intro m T hmn hms hI hD
      have hfin := hK T hI (hD.imp fun hv => z_vis_pair hv fun m' hc => by
        rcases hc.2.1 with ⟨h1, h2⟩ | ⟨h1, h2, h3⟩
        · omega
        · exact absurd (h1.symm.trans (hrs.symm.trans hr)) (by decide))
      obtain rfl : m = 1 := by omega
      refine q_iload hC 9 dX4_trySize_117 rfl rfl ?_
      refine q_iload hC 8 dX4_trySize_119 rfl rfl ?_
      refine q_if_ne hC dX4_trySize_121 (t := 128) (n := 124) (by decide) rfl (fun h121 => absurd hr h121) (fun h121 => ?_)
      refine q_iconst hC dX4_trySize_124 (v := 0) (by decide) rfl ?_
      refine q_goto hC dX4_trySize_125 (n := 130) (by decide) ?_
      refine q_icmp_ge hC dX4_trySize_130 (t := 219) (n := 133) (by decide) rfl (fun h130 => ?_) (fun h130 => absurd (by decide) h130)
      refine q_locp [0, 1, 2, 3, 4, 5, 6] (ls' := [(0, _), (1, _), (2, _), (3, _), (4, _), (5, _), (6, _)]) rfl ?_
      exact hfin
    | succ n ih =>
      intro m T hmn hms hI hD
      have hm6 : m ≤ 6 := by omega
      have hnext : ∀ T', z_I S0 a b T' → z_Dj S0 a b s (z_Vis S0 a b s u p (m + 1)) T' → qV Γ rm_X4_trySize 11 213 [(0, .ref (q_ad Γ 35 0)), (1, .int (nI s)), (2, .int kn), (3, .int (z_c u)), (4, .ref (q_o Γ).2.2), (5, .int 16), (6, .int (nI p)), (7, .int (q_pairs p)), (8, .int rs), (9, .int (z_c m))] [] T' (0, 0) := by
        intro T' hI' hD'
        refine q_iinc hC 9 dX4_trySize_213 rfl (v := z_c (m + 1)) (z_cinc m) (by decide) (ls' := [(0, _), (1, _), (2, _), (3, _), (4, _), (5, _), (6, _), (7, _), (8, _), (9, _)]) rfl rfl ?_
        refine q_goto hC dX4_trySize_216 (n := 117) (by decide) ?_
        exact ih (m + 1) T' (by omega) (by omega) hI' hD'
      have hI1 : z_I S0 a b (z_oset 5 (z_c u) (q_pairs p) (z_c m) T) := z_I_set hI
      have own1 : z_own (z_oset 5 (z_c u) (q_pairs p) (z_c m) T) 5 := z_own_set (by omega) hm6
      have hI2 : z_I S0 a b (z_loadS a 5 (z_oset 5 (z_c u) (q_pairs p) (z_c m) T)) := z_I_load (Or.inl rfl) hI1 own1
      have own2 : z_own (z_loadS a 5 (z_oset 5 (z_c u) (q_pairs p) (z_c m) T)) 5 := by unfold z_own; rw [z_load_fr own1.2.1 28 5 (by omega)]; exact own1
      have hI3 : z_I S0 a b (z_loadS b 5 (z_loadS a 5 (z_oset 5 (z_c u) (q_pairs p) (z_c m) T))) := z_I_load (Or.inr rfl) hI2 own2
      obtain ⟨o1, l1⟩ := z_I_old hI1 hoa hob
      obtain ⟨o2, l2⟩ := z_I_old hI2 hoa hob
      obtain ⟨o3, l3⟩ := z_I_old hI3 hoa hob
      obtain ⟨e1, e2⟩ := z_set_fd (T := T) (x := z_c u) (y := q_pairs p) (z := z_c m)
      refine q_iload hC 9 dX4_trySize_117 rfl rfl ?_
      refine q_iload hC 8 dX4_trySize_119 rfl rfl ?_
      refine q_if_ne hC dX4_trySize_121 (t := 128) (n := 124) (by decide) rfl (fun h121 => absurd hr h121) (fun h121 => ?_)
      refine q_iconst hC dX4_trySize_124 (v := 0) (by decide) rfl ?_
      refine q_goto hC dX4_trySize_125 (n := 130) (by decide) ?_
      refine q_icmp_ge hC dX4_trySize_130 (t := 219) (n := 133) (by decide) rfl (fun h130 => absurd h130 (z_b0 (by omega))) (fun h130 => ?_)
      refine q_aload_n hC 0 dX4_trySize_133 rfl rfl ?_
      refine q_get_f hC f_X4_21 dX4_trySize_134 rfl rfl (Nat.le_of_ble_eq_true rfl) rfl ?_
      refine q_iload_n hC 3 dX4_trySize_137 rfl rfl ?_
      refine q_iload hC 7 dX4_trySize_138 rfl rfl ?_
      refine q_iload hC 9 dX4_trySize_140 rfl rfl ?_
      refine q_callV hC (c_X7_set (q_hD hC)) m_X7_set lk_X4_77 dX4_trySize_142 (5, z_c u, q_pairs p, z_c m) rfl rfl rfl rfl rfl (Nat.le_of_ble_eq_true rfl) (Nat.le_of_ble_eq_true rfl) ⟨⟨by decide, by decide⟩, by decide, by decide⟩ rfl (k' := (0, 0)) rfl (show 5 < 6 by decide) (fun v S' hp => ?_)
      obtain ⟨rfl, rfl⟩ := hp
      show qV Γ _ _ 145 _ _ _ _
      refine q_iload hC 9 dX4_trySize_145 rfl rfl ?_
      refine q_iconst hC dX4_trySize_147 (v := (-1)) (by decide) rfl ?_
      refine q_icmp_eq hC dX4_trySize_148 (t := 160) (n := 151) (by decide) rfl (fun h148 => ?_) (fun h148 => absurd ((z_c1 (by omega)).mpr (by omega)) h148)
      refine q_iconst hC dX4_trySize_160 (v := 1) (by decide) rfl ?_
      refine q_goto hC dX4_trySize_161 (n := 165) (by decide) ?_
      refine q_istore hC dX4_trySize_165 (by decide) (ls' := [(0, _), (1, _), (2, _), (3, _), (4, _), (5, _), (6, _), (7, _), (8, _), (9, _), (10, _)]) rfl rfl ?_
      refine q_iload hC 10 dX4_trySize_167 rfl rfl ?_
      refine q_if_eq hC dX4_trySize_169 (t := 213) (n := 172) (by decide) rfl (fun h => absurd h (by decide)) (fun _ => ?_)
      refine q_aload_n hC 0 dX4_trySize_172 rfl rfl ?_
      refine q_get_f hC f_X4_25 dX4_trySize_173 rfl (q_rfs o1 ha) (Nat.le_of_ble_eq_true rfl) rfl ?_
      refine q_aload_n hC 0 dX4_trySize_176 rfl rfl ?_
      refine q_get_f hC f_X4_21 dX4_trySize_177 rfl rfl (Nat.le_of_ble_eq_true rfl) rfl ?_
      refine q_callV hC (c_X5_load (q_hD hC)) m_X5_load lk_X4_40 dX4_trySize_180 (a, 5) rfl rfl rfl rfl rfl ha (Nat.le_of_ble_eq_true rfl) ⟨⟨by decide, by decide⟩, by decide, by decide⟩ rfl (k' := (0, 0)) rfl ⟨ha, (show 5 < 6 by decide), own1, hI1.2.1.1, z_wf_s20 hI1.2.1⟩ (fun v S' hp => ?_)
      obtain ⟨r180_2, rfl, hr180_2, rfl⟩ := hp
      have hr180_2 : r180_2 = z_loadF a 5 (z_oset 5 (z_c u) (q_pairs p) (z_c m) T) := hr180_2
      show qV Γ _ _ 183 _ (.int _ :: _) _ _
      refine q_bipush hC dX4_trySize_183 (v := 45) (by decide) rfl ?_
      refine q_icmp_ne hC dX4_trySize_185 (t := 213) (n := 188) (by decide) rfl (fun h185 => ?_) (fun h185 => ?_)
      · refine q_locp [0, 1, 2, 3, 4, 5, 6, 7, 8, 9] (ls' := [(0, _), (1, _), (2, _), (3, _), (4, _), (5, _), (6, _), (7, _), (8, _), (9, _)]) rfl ?_
        subst hr180_2
        exact hnext _ hI2 ((((hD.out e1 e2).out (z_load_fd own1.2.1).1 (z_load_fd own1.2.1).2)).imp fun hv => z_vis_next hv fun hc hF => absurd ((z_lc hI1.1.1 z_oset_fx (z_fx_own (by omega) hm6)).1.trans hF) h185)
      · refine q_aload_n hC 0 dX4_trySize_188 rfl rfl ?_
        refine q_aload_n hC 0 dX4_trySize_189 rfl rfl ?_
        refine q_get_f hC f_X4_29 dX4_trySize_190 rfl (q_rfs l2 hb) (Nat.le_of_ble_eq_true rfl) rfl ?_
        refine q_aload_n hC 0 dX4_trySize_193 rfl rfl ?_
        refine q_get_f hC f_X4_21 dX4_trySize_194 rfl rfl (Nat.le_of_ble_eq_true rfl) rfl ?_
        refine q_callV hC (c_X5_load (q_hD hC)) m_X5_load lk_X4_40 dX4_trySize_197 (b, 5) rfl rfl rfl rfl rfl hb (Nat.le_of_ble_eq_true rfl) ⟨⟨by decide, by decide⟩, by decide, by decide⟩ rfl (k' := (0, 0)) rfl ⟨hb, (show 5 < 6 by decide), own2, hI2.2.2.1.1, z_wf_s20 hI2.2.2.1⟩ (fun v S' hp => ?_)
        obtain ⟨r197_4, rfl, hr197_4, rfl⟩ := hp
        have hr197_4 : r197_4 = z_loadF b 5 (z_loadS a 5 (z_oset 5 (z_c u) (q_pairs p) (z_c m) T)) := hr197_4
        show qV Γ _ _ 200 _ (.int _ :: _) _ _
        refine q_bipush hC dX4_trySize_200 (v := 45) (by decide) rfl ?_
        refine q_icmp_eq hC dX4_trySize_202 (t := 209) (n := 205) (by decide) rfl (fun h202 => ?_) (fun h202 => ?_)
        · refine q_iconst hC dX4_trySize_209 (v := 0) (by decide) rfl ?_
          refine q_callV hC (c_X4_tryActs (q_hD hC)) m_X4_tryActs lk_X4_46 dX4_trySize_210 (a, b, _) rfl rfl rfl rfl rfl (Nat.le_of_ble_eq_true rfl) (Nat.le_of_ble_eq_true rfl) ⟨⟨by decide, by decide⟩, by decide, by decide⟩ rfl (k' := (0, 0)) rfl ⟨ha, hb, o3, l3, hI3.2.1, hI3.2.2.1, hI3.2.2.2⟩ (fun v S' hp => ?_)
          obtain ⟨rfl, hta⟩ := hp
          show qV Γ _ _ 213 _ _ _ _
          refine q_locp [0, 1, 2, 3, 4, 5, 6, 7, 8, 9] (ls' := [(0, _), (1, _), (2, _), (3, _), (4, _), (5, _), (6, _), (7, _), (8, _), (9, _)]) rfl ?_
          have hta' : z_taPost a b 0 (z_loadS b 5 (z_loadS a 5 (z_oset 5 (z_c u) (q_pairs p) (z_c m) T))) S' := hta
          subst hr180_2 hr197_4
          have z := z_turn ha hb hI1 z_oset_fx (z_fx_own (by omega) hm6) h185 (by first | rw [if_pos h202] | rw [if_neg h202]) hta'
          exact hnext S' z.1 (z_adv hu hp ⟨hmba, Or.inl ⟨hrs.symm.trans hr, by omega⟩, Or.inl (by omega)⟩ hD z.2)
        · refine q_iconst hC dX4_trySize_205 (v := 1) (by decide) rfl ?_
          refine q_goto hC dX4_trySize_206 (n := 210) (by decide) ?_
          refine q_callV hC (c_X4_tryActs (q_hD hC)) m_X4_tryActs lk_X4_46 dX4_trySize_210 (a, b, _) rfl rfl rfl rfl rfl (Nat.le_of_ble_eq_true rfl) (Nat.le_of_ble_eq_true rfl) ⟨⟨by decide, by decide⟩, by decide, by decide⟩ rfl (k' := (0, 0)) rfl ⟨ha, hb, o3, l3, hI3.2.1, hI3.2.2.1, hI3.2.2.2⟩ (fun v S' hp => ?_)
          obtain ⟨rfl, hta⟩ := hp
          show qV Γ _ _ 213 _ _ _ _
          refine q_locp [0, 1, 2, 3, 4, 5, 6, 7, 8, 9] (ls' := [(0, _), (1, _), (2, _), (3, _), (4, _), (5, _), (6, _), (7, _), (8, _), (9, _)]) rfl ?_
          have hta' : z_taPost a b 1 (z_loadS b 5 (z_loadS a 5 (z_oset 5 (z_c u) (q_pairs p) (z_c m) T))) S' := hta
          subst hr180_2 hr197_4
          have z := z_turn ha hb hI1 z_oset_fx (z_fx_own (by omega) hm6) h185 (by first | rw [if_pos h202] | rw [if_neg h202]) hta'
          exact hnext S' z.1 (z_adv hu hp ⟨hmba, Or.inl ⟨hrs.symm.trans hr, by omega⟩, Or.inl (by omega)⟩ hD z.2)
  have LM1 : ∀ (u p : Nat) (rs : Int32), u < 6 → p < 16 → rs = z_rest s u p → rs = 1 → ¬ z_mba S0 a (z_c u) (q_pairs p) = 0 →
      (∀ T, z_I S0 a b T → z_Dj S0 a b s (z_Vis S0 a b s u (p + 1) 0) T → qV Γ rm_X4_trySize 11 219 [(0, .ref (q_ad Γ 35 0)), (1, .int (nI s)), (2, .int kn), (3, .int (z_c u)), (4, .ref (q_o Γ).2.2), (5, .int 16), (6, .int (nI p))] [] T (0, 0)) →
      ∀ (n m : Nat) (T : qM), m + n = 7 → 1 ≤ m → z_I S0 a b T → z_Dj S0 a b s (z_Vis S0 a b s u p m) T → qV Γ rm_X4_trySize 11 117 [(0, .ref (q_ad Γ 35 0)), (1, .int (nI s)), (2, .int kn), (3, .int (z_c u)), (4, .ref (q_o Γ).2.2), (5, .int 16), (6, .int (nI p)), (7, .int (q_pairs p)), (8, .int rs), (9, .int (z_c m))] [] T (0, 0) := by
    intro u p rs hu hp hrs hr hmba hK n
    induction n with
    | zero =>
      intro m T hmn hms hI hD
      have hfin := hK T hI (hD.imp fun hv => z_vis_pair hv fun m' hc => by
        rcases hc.2.1 with ⟨h1, h2⟩ | ⟨h1, h2, h3⟩
        · omega
        · omega)
      obtain rfl : m = 7 := by omega
      refine q_iload hC 9 dX4_trySize_117 rfl rfl ?_
      refine q_iload hC 8 dX4_trySize_119 rfl rfl ?_
      refine q_if_ne hC dX4_trySize_121 (t := 128) (n := 124) (by decide) rfl (fun h121 => ?_) (fun h121 => absurd h121 (by rw [hr]; decide))
      refine q_bipush hC dX4_trySize_128 (v := 6) (by decide) rfl ?_
      refine q_icmp_ge hC dX4_trySize_130 (t := 219) (n := 133) (by decide) rfl (fun h130 => ?_) (fun h130 => absurd (by decide) h130)
      refine q_locp [0, 1, 2, 3, 4, 5, 6] (ls' := [(0, _), (1, _), (2, _), (3, _), (4, _), (5, _), (6, _)]) rfl ?_
      exact hfin
    | succ n ih =>
      intro m T hmn hms hI hD
      have hm6 : m ≤ 6 := by omega
      have hnext : ∀ T', z_I S0 a b T' → z_Dj S0 a b s (z_Vis S0 a b s u p (m + 1)) T' → qV Γ rm_X4_trySize 11 213 [(0, .ref (q_ad Γ 35 0)), (1, .int (nI s)), (2, .int kn), (3, .int (z_c u)), (4, .ref (q_o Γ).2.2), (5, .int 16), (6, .int (nI p)), (7, .int (q_pairs p)), (8, .int rs), (9, .int (z_c m))] [] T' (0, 0) := by
        intro T' hI' hD'
        refine q_iinc hC 9 dX4_trySize_213 rfl (v := z_c (m + 1)) (z_cinc m) (by decide) (ls' := [(0, _), (1, _), (2, _), (3, _), (4, _), (5, _), (6, _), (7, _), (8, _), (9, _)]) rfl rfl ?_
        refine q_goto hC dX4_trySize_216 (n := 117) (by decide) ?_
        exact ih (m + 1) T' (by omega) (by omega) hI' hD'
      have hI1 : z_I S0 a b (z_oset 5 (z_c u) (q_pairs p) (z_c m) T) := z_I_set hI
      have own1 : z_own (z_oset 5 (z_c u) (q_pairs p) (z_c m) T) 5 := z_own_set (by omega) hm6
      have hI2 : z_I S0 a b (z_loadS a 5 (z_oset 5 (z_c u) (q_pairs p) (z_c m) T)) := z_I_load (Or.inl rfl) hI1 own1
      have own2 : z_own (z_loadS a 5 (z_oset 5 (z_c u) (q_pairs p) (z_c m) T)) 5 := by unfold z_own; rw [z_load_fr own1.2.1 28 5 (by omega)]; exact own1
      have hI3 : z_I S0 a b (z_loadS b 5 (z_loadS a 5 (z_oset 5 (z_c u) (q_pairs p) (z_c m) T))) := z_I_load (Or.inr rfl) hI2 own2
      obtain ⟨o1, l1⟩ := z_I_old hI1 hoa hob
      obtain ⟨o2, l2⟩ := z_I_old hI2 hoa hob
      obtain ⟨o3, l3⟩ := z_I_old hI3 hoa hob
      obtain ⟨e1, e2⟩ := z_set_fd (T := T) (x := z_c u) (y := q_pairs p) (z := z_c m)
      refine q_iload hC 9 dX4_trySize_117 rfl rfl ?_
      refine q_iload hC 8 dX4_trySize_119 rfl rfl ?_
      refine q_if_ne hC dX4_trySize_121 (t := 128) (n := 124) (by decide) rfl (fun h121 => ?_) (fun h121 => absurd h121 (by rw [hr]; decide))
      refine q_bipush hC dX4_trySize_128 (v := 6) (by decide) rfl ?_
      refine q_icmp_ge hC dX4_trySize_130 (t := 219) (n := 133) (by decide) rfl (fun h130 => absurd h130 (z_b6 (by omega))) (fun h130 => ?_)
      refine q_aload_n hC 0 dX4_trySize_133 rfl rfl ?_
      refine q_get_f hC f_X4_21 dX4_trySize_134 rfl rfl (Nat.le_of_ble_eq_true rfl) rfl ?_
      refine q_iload_n hC 3 dX4_trySize_137 rfl rfl ?_
      refine q_iload hC 7 dX4_trySize_138 rfl rfl ?_
      refine q_iload hC 9 dX4_trySize_140 rfl rfl ?_
      refine q_callV hC (c_X7_set (q_hD hC)) m_X7_set lk_X4_77 dX4_trySize_142 (5, z_c u, q_pairs p, z_c m) rfl rfl rfl rfl rfl (Nat.le_of_ble_eq_true rfl) (Nat.le_of_ble_eq_true rfl) ⟨⟨by decide, by decide⟩, by decide, by decide⟩ rfl (k' := (0, 0)) rfl (show 5 < 6 by decide) (fun v S' hp => ?_)
      obtain ⟨rfl, rfl⟩ := hp
      show qV Γ _ _ 145 _ _ _ _
      refine q_iload hC 9 dX4_trySize_145 rfl rfl ?_
      refine q_iconst hC dX4_trySize_147 (v := (-1)) (by decide) rfl ?_
      refine q_icmp_eq hC dX4_trySize_148 (t := 160) (n := 151) (by decide) rfl (fun h148 => absurd ((z_c1 (by omega)).mp h148) (by omega)) (fun h148 => ?_)
      refine q_iload_n hC 2 dX4_trySize_151 rfl rfl ?_
      refine q_iload hC 9 dX4_trySize_152 rfl rfl ?_
      refine q_callSN hC (c_X9_has (q_hD hC)) m_X9_has ln_X4_81 dX4_trySize_154 (kn, z_c m) rfl rfl (Nat.le_of_ble_eq_true rfl) ⟨⟨by decide, by decide⟩, by decide, by decide⟩ rfl (k' := (0, 0)) rfl trivial (fun v S' hp => ?_)
      obtain ⟨r154_2, rfl, hr154_2, rfl⟩ := hp
      have hr154_2 : r154_2 = z_has kn (z_c m) := hr154_2
      show qV Γ _ _ 157 _ (.int _ :: _) _ _
      refine q_if_eq hC dX4_trySize_157 (t := 164) (n := 160) (by decide) rfl (fun h157 => ?_) (fun h157 => ?_)
      · refine q_iconst hC dX4_trySize_164 (v := 0) (by decide) rfl ?_
        refine q_istore hC dX4_trySize_165 (by decide) (ls' := [(0, _), (1, _), (2, _), (3, _), (4, _), (5, _), (6, _), (7, _), (8, _), (9, _), (10, _)]) rfl rfl ?_
        refine q_iload hC 10 dX4_trySize_167 rfl rfl ?_
        refine q_if_eq hC dX4_trySize_169 (t := 213) (n := 172) (by decide) rfl (fun _ => ?_) (fun h => absurd (by decide) h)
        refine q_locp [0, 1, 2, 3, 4, 5, 6, 7, 8, 9] (ls' := [(0, _), (1, _), (2, _), (3, _), (4, _), (5, _), (6, _), (7, _), (8, _), (9, _)]) rfl ?_
        subst hr154_2
        exact hnext _ hI1 ((hD.out e1 e2).imp fun hv => z_vis_next hv fun hc => absurd hc.2.2 (by intro z; rcases z with z | z; (omega); exact z (by rw [← hkne]; assumption)))
      · refine q_iconst hC dX4_trySize_160 (v := 1) (by decide) rfl ?_
        refine q_goto hC dX4_trySize_161 (n := 165) (by decide) ?_
        refine q_istore hC dX4_trySize_165 (by decide) (ls' := [(0, _), (1, _), (2, _), (3, _), (4, _), (5, _), (6, _), (7, _), (8, _), (9, _), (10, _)]) rfl rfl ?_
        refine q_iload hC 10 dX4_trySize_167 rfl rfl ?_
        refine q_if_eq hC dX4_trySize_169 (t := 213) (n := 172) (by decide) rfl (fun h => absurd h (by decide)) (fun _ => ?_)
        refine q_aload_n hC 0 dX4_trySize_172 rfl rfl ?_
        refine q_get_f hC f_X4_25 dX4_trySize_173 rfl (q_rfs o1 ha) (Nat.le_of_ble_eq_true rfl) rfl ?_
        refine q_aload_n hC 0 dX4_trySize_176 rfl rfl ?_
        refine q_get_f hC f_X4_21 dX4_trySize_177 rfl rfl (Nat.le_of_ble_eq_true rfl) rfl ?_
        refine q_callV hC (c_X5_load (q_hD hC)) m_X5_load lk_X4_40 dX4_trySize_180 (a, 5) rfl rfl rfl rfl rfl ha (Nat.le_of_ble_eq_true rfl) ⟨⟨by decide, by decide⟩, by decide, by decide⟩ rfl (k' := (0, 0)) rfl ⟨ha, (show 5 < 6 by decide), own1, hI1.2.1.1, z_wf_s20 hI1.2.1⟩ (fun v S' hp => ?_)
        obtain ⟨r180_4, rfl, hr180_4, rfl⟩ := hp
        have hr180_4 : r180_4 = z_loadF a 5 (z_oset 5 (z_c u) (q_pairs p) (z_c m) T) := hr180_4
        show qV Γ _ _ 183 _ (.int _ :: _) _ _
        refine q_bipush hC dX4_trySize_183 (v := 45) (by decide) rfl ?_
        refine q_icmp_ne hC dX4_trySize_185 (t := 213) (n := 188) (by decide) rfl (fun h185 => ?_) (fun h185 => ?_)
        · refine q_locp [0, 1, 2, 3, 4, 5, 6, 7, 8, 9] (ls' := [(0, _), (1, _), (2, _), (3, _), (4, _), (5, _), (6, _), (7, _), (8, _), (9, _)]) rfl ?_
          subst hr154_2 hr180_4
          exact hnext _ hI2 ((((hD.out e1 e2).out (z_load_fd own1.2.1).1 (z_load_fd own1.2.1).2)).imp fun hv => z_vis_next hv fun hc hF => absurd ((z_lc hI1.1.1 z_oset_fx (z_fx_own (by omega) hm6)).1.trans hF) h185)
        · refine q_aload_n hC 0 dX4_trySize_188 rfl rfl ?_
          refine q_aload_n hC 0 dX4_trySize_189 rfl rfl ?_
          refine q_get_f hC f_X4_29 dX4_trySize_190 rfl (q_rfs l2 hb) (Nat.le_of_ble_eq_true rfl) rfl ?_
          refine q_aload_n hC 0 dX4_trySize_193 rfl rfl ?_
          refine q_get_f hC f_X4_21 dX4_trySize_194 rfl rfl (Nat.le_of_ble_eq_true rfl) rfl ?_
          refine q_callV hC (c_X5_load (q_hD hC)) m_X5_load lk_X4_40 dX4_trySize_197 (b, 5) rfl rfl rfl rfl rfl hb (Nat.le_of_ble_eq_true rfl) ⟨⟨by decide, by decide⟩, by decide, by decide⟩ rfl (k' := (0, 0)) rfl ⟨hb, (show 5 < 6 by decide), own2, hI2.2.2.1.1, z_wf_s20 hI2.2.2.1⟩ (fun v S' hp => ?_)
          obtain ⟨r197_6, rfl, hr197_6, rfl⟩ := hp
          have hr197_6 : r197_6 = z_loadF b 5 (z_loadS a 5 (z_oset 5 (z_c u) (q_pairs p) (z_c m) T)) := hr197_6
          show qV Γ _ _ 200 _ (.int _ :: _) _ _
          refine q_bipush hC dX4_trySize_200 (v := 45) (by decide) rfl ?_
          refine q_icmp_eq hC dX4_trySize_202 (t := 209) (n := 205) (by decide) rfl (fun h202 => ?_) (fun h202 => ?_)
          · refine q_iconst hC dX4_trySize_209 (v := 0) (by decide) rfl ?_
            refine q_callV hC (c_X4_tryActs (q_hD hC)) m_X4_tryActs lk_X4_46 dX4_trySize_210 (a, b, _) rfl rfl rfl rfl rfl (Nat.le_of_ble_eq_true rfl) (Nat.le_of_ble_eq_true rfl) ⟨⟨by decide, by decide⟩, by decide, by decide⟩ rfl (k' := (0, 0)) rfl ⟨ha, hb, o3, l3, hI3.2.1, hI3.2.2.1, hI3.2.2.2⟩ (fun v S' hp => ?_)
            obtain ⟨rfl, hta⟩ := hp
            show qV Γ _ _ 213 _ _ _ _
            refine q_locp [0, 1, 2, 3, 4, 5, 6, 7, 8, 9] (ls' := [(0, _), (1, _), (2, _), (3, _), (4, _), (5, _), (6, _), (7, _), (8, _), (9, _)]) rfl ?_
            have hta' : z_taPost a b 0 (z_loadS b 5 (z_loadS a 5 (z_oset 5 (z_c u) (q_pairs p) (z_c m) T))) S' := hta
            subst hr154_2 hr180_4 hr197_6
            have z := z_turn ha hb hI1 z_oset_fx (z_fx_own (by omega) hm6) h185 (by first | rw [if_pos h202] | rw [if_neg h202]) hta'
            exact hnext S' z.1 (z_adv hu hp ⟨hmba, Or.inr ⟨hrs.symm.trans hr, by omega, by omega⟩, Or.inr (by rw [← hkne]; assumption)⟩ hD z.2)
          · refine q_iconst hC dX4_trySize_205 (v := 1) (by decide) rfl ?_
            refine q_goto hC dX4_trySize_206 (n := 210) (by decide) ?_
            refine q_callV hC (c_X4_tryActs (q_hD hC)) m_X4_tryActs lk_X4_46 dX4_trySize_210 (a, b, _) rfl rfl rfl rfl rfl (Nat.le_of_ble_eq_true rfl) (Nat.le_of_ble_eq_true rfl) ⟨⟨by decide, by decide⟩, by decide, by decide⟩ rfl (k' := (0, 0)) rfl ⟨ha, hb, o3, l3, hI3.2.1, hI3.2.2.1, hI3.2.2.2⟩ (fun v S' hp => ?_)
            obtain ⟨rfl, hta⟩ := hp
            show qV Γ _ _ 213 _ _ _ _
            refine q_locp [0, 1, 2, 3, 4, 5, 6, 7, 8, 9] (ls' := [(0, _), (1, _), (2, _), (3, _), (4, _), (5, _), (6, _), (7, _), (8, _), (9, _)]) rfl ?_
            have hta' : z_taPost a b 1 (z_loadS b 5 (z_loadS a 5 (z_oset 5 (z_c u) (q_pairs p) (z_c m) T))) S' := hta
            subst hr154_2 hr180_4 hr197_6
            have z := z_turn ha hb hI1 z_oset_fx (z_fx_own (by omega) hm6) h185 (by first | rw [if_pos h202] | rw [if_neg h202]) hta'
            exact hnext S' z.1 (z_adv hu hp ⟨hmba, Or.inr ⟨hrs.symm.trans hr, by omega, by omega⟩, Or.inr (by rw [← hkne]; assumption)⟩ hD z.2)
  have J78 : ∀ (u p : Nat) (rs : Int32) (T : qM), u < 6 → p < 16 → rs = z_rest s u p → z_I S0 a b T → z_Dj S0 a b s (z_Vis S0 a b s u p 0) T →
      (∀ T, z_I S0 a b T → z_Dj S0 a b s (z_Vis S0 a b s u (p + 1) 0) T → qV Γ rm_X4_trySize 11 219 [(0, .ref (q_ad Γ 35 0)), (1, .int (nI s)), (2, .int kn), (3, .int (z_c u)), (4, .ref (q_o Γ).2.2), (5, .int 16), (6, .int (nI p))] [] T (0, 0)) → qV Γ rm_X4_trySize 11 78 [(0, .ref (q_ad Γ 35 0)), (1, .int (nI s)), (2, .int kn), (3, .int (z_c u)), (4, .ref (q_o Γ).2.2), (5, .int 16), (6, .int (nI p)), (7, .int (q_pairs p)), (8, .int rs)] [] T (0, 0) := by
    intro u p rs T hu hp hrs hI hD hK
    obtain ⟨o0, l0⟩ := z_I_old hI hoa hob
    have hskip : (∀ m', ¬ z_cand S0 a b s u p m') → qV Γ rm_X4_trySize 11 219 [(0, .ref (q_ad Γ 35 0)), (1, .int (nI s)), (2, .int kn), (3, .int (z_c u)), (4, .ref (q_o Γ).2.2), (5, .int 16), (6, .int (nI p))] [] T (0, 0) := fun hn => hK T hI (hD.imp fun hv => z_vis_pair hv fun m' hc => absurd hc (hn m'))
    have emba : z_mba T a (z_c u) (q_pairs p) = z_mba S0 a (z_c u) (q_pairs p) := by unfold z_mba; rw [hI.1.1.1 17 (by omega) (by omega) (by omega)]
    refine q_iload hC 8 dX4_trySize_78 rfl rfl ?_
    refine q_if_lt hC dX4_trySize_80 (t := 219) (n := 83) (by decide) rfl (fun h80 => ?_) (fun h80 => ?_)
    · refine q_locp [0, 1, 2, 3, 4, 5, 6] (ls' := [(0, _), (1, _), (2, _), (3, _), (4, _), (5, _), (6, _)]) rfl ?_
      exact hskip fun m' hc => by
        rcases hc.2.1 with ⟨h1, -⟩ | ⟨h1, -, -⟩ <;> (rw [← hrs] at h1; rw [h1] at h80; exact absurd h80 (by decide))
    · refine q_iload hC 8 dX4_trySize_83 rfl rfl ?_
      refine q_iconst hC dX4_trySize_85 (v := 1) (by decide) rfl ?_
      refine q_icmp_gt hC dX4_trySize_86 (t := 219) (n := 89) (by decide) rfl (fun h86 => ?_) (fun h86 => ?_)
      · refine q_locp [0, 1, 2, 3, 4, 5, 6] (ls' := [(0, _), (1, _), (2, _), (3, _), (4, _), (5, _), (6, _)]) rfl ?_
        exact hskip fun m' hc => by
          rcases hc.2.1 with ⟨h1, -⟩ | ⟨h1, -, -⟩ <;> (rw [← hrs] at h1; rw [h1] at h86; exact absurd h86 (by decide))
      · refine q_aload_n hC 0 dX4_trySize_89 rfl rfl ?_
        refine q_get_f hC f_X4_25 dX4_trySize_90 rfl (q_rfs o0 ha) (Nat.le_of_ble_eq_true rfl) rfl ?_
        refine q_iload_n hC 3 dX4_trySize_93 rfl rfl ?_
        refine q_iload hC 7 dX4_trySize_94 rfl rfl ?_
        refine q_callV hC (c_X5_mayBeAbove (q_hD hC)) m_X5_mayBeAbove lk_X4_73 dX4_trySize_96 (a, z_c u, q_pairs p) rfl rfl rfl rfl rfl ha (Nat.le_of_ble_eq_true rfl) ⟨⟨by decide, by decide⟩, by decide, by decide⟩ rfl (k' := (0, 0)) rfl ha (fun v S' hp => ?_)
        obtain ⟨r96_3, rfl, hr96_3, rfl⟩ := hp
        have hr96_3 : r96_3 = z_mba T a (z_c u) (q_pairs p) := hr96_3
        show qV Γ _ _ 99 _ (.int _ :: _) _ _
        refine q_if_ne hC dX4_trySize_99 (t := 105) (n := 102) (by decide) rfl (fun h99 => ?_) (fun h99 => ?_)
        · refine q_iload hC 8 dX4_trySize_105 rfl rfl ?_
          refine q_if_ne hC dX4_trySize_107 (t := 114) (n := 110) (by decide) rfl (fun h107 => ?_) (fun h107 => ?_)
          · refine q_iconst hC dX4_trySize_114 (v := 0) (by decide) rfl ?_
            refine q_istore hC dX4_trySize_115 (by decide) (ls' := [(0, _), (1, _), (2, _), (3, _), (4, _), (5, _), (6, _), (7, _), (8, _), (9, _)]) rfl rfl ?_
            first
              | exact LM0 u p rs hu hp hrs h107 (by subst hr96_3; rw [← emba]; assumption) hK 1 0 T (by omega) (by omega) hI hD
              | (refine LM1 u p rs hu hp hrs ((z_01 h80 h86).elim (fun z => absurd z h107) id) (by subst hr96_3; rw [← emba]; assumption) hK 6 1 T (by omega) (by omega) hI (hD.imp fun hv => z_vis_next hv fun hc => ?_)
                 rcases hc.2.1 with ⟨h1, -⟩ | ⟨-, h2, -⟩
                 · exact absurd (hrs.trans h1) h107
                 · omega)
          · refine q_iconst hC dX4_trySize_110 (v := (-1)) (by decide) rfl ?_
            refine q_goto hC dX4_trySize_111 (n := 115) (by decide) ?_
            refine q_istore hC dX4_trySize_115 (by decide) (ls' := [(0, _), (1, _), (2, _), (3, _), (4, _), (5, _), (6, _), (7, _), (8, _), (9, _)]) rfl rfl ?_
            first
              | exact LM0 u p rs hu hp hrs h107 (by subst hr96_3; rw [← emba]; assumption) hK 1 0 T (by omega) (by omega) hI hD
              | (refine LM1 u p rs hu hp hrs ((z_01 h80 h86).elim (fun z => absurd z h107) id) (by subst hr96_3; rw [← emba]; assumption) hK 6 1 T (by omega) (by omega) hI (hD.imp fun hv => z_vis_next hv fun hc => ?_)
                 rcases hc.2.1 with ⟨h1, -⟩ | ⟨-, h2, -⟩
                 · exact absurd (hrs.trans h1) h107
                 · omega)
        · refine q_goto hC dX4_trySize_102 (n := 219) (by decide) ?_
          refine q_locp [0, 1, 2, 3, 4, 5, 6] (ls' := [(0, _), (1, _), (2, _), (3, _), (4, _), (5, _), (6, _)]) rfl ?_
          exact hskip fun m' hc => hc.1 (by subst hr96_3; rw [← emba]; assumption)
  have LP : ∀ (u : Nat), u < 6 → (∀ T, z_I S0 a b T → z_Dj S0 a b s (z_Vis S0 a b s u 16 0) T → qV Γ rm_X4_trySize 11 225 [(0, .ref (q_ad Γ 35 0)), (1, .int (nI s)), (2, .int kn), (3, .int (z_c u))] [] T (0, 0)) → ∀ (n p : Nat) (T : qM), p + n = 16 → z_I S0 a b T → z_Dj S0 a b s (z_Vis S0 a b s u p 0) T → qV Γ rm_X4_trySize 11 42 [(0, .ref (q_ad Γ 35 0)), (1, .int (nI s)), (2, .int kn), (3, .int (z_c u)), (4, .ref (q_o Γ).2.2), (5, .int 16), (6, .int (nI p))] [] T (0, 0) := by
    intro u hu hK n
    induction n with
    | zero =>
      intro p T hpn hI hD
      obtain rfl : p = 16 := by omega
      refine q_iload hC 6 dX4_trySize_42 rfl rfl ?_
      refine q_iload hC 5 dX4_trySize_44 rfl rfl ?_
      refine q_icmp_ge hC dX4_trySize_46 (t := 225) (n := 49) (by decide) rfl (fun h46 => ?_) (fun h46 => absurd (by decide) h46)
      refine q_locp [0, 1, 2, 3] (ls' := [(0, _), (1, _), (2, _), (3, _)]) rfl ?_
      exact hK T hI hD
    | succ n ih =>
      intro p T hpn hI hD
      have hp : p < 16 := by omega
      have hnext : ∀ T, z_I S0 a b T → z_Dj S0 a b s (z_Vis S0 a b s u (p + 1) 0) T → qV Γ rm_X4_trySize 11 219 [(0, .ref (q_ad Γ 35 0)), (1, .int (nI s)), (2, .int kn), (3, .int (z_c u)), (4, .ref (q_o Γ).2.2), (5, .int 16), (6, .int (nI p))] [] T (0, 0) := by
        intro T' hI' hD'
        refine q_iinc hC 6 dX4_trySize_219 rfl (v := nI (p + 1)) (z_inc p) (by decide) (ls' := [(0, _), (1, _), (2, _), (3, _), (4, _), (5, _), (6, _)]) rfl rfl ?_
        refine q_goto hC dX4_trySize_222 (n := 42) (by decide) ?_
        exact ih (p + 1) T' (by omega) hI' hD'
      refine q_iload hC 6 dX4_trySize_42 rfl rfl ?_
      refine q_iload hC 5 dX4_trySize_44 rfl rfl ?_
      refine q_icmp_ge hC dX4_trySize_46 (t := 225) (n := 49) (by decide) rfl (fun h46 => absurd h46 (nI_ge hp (by decide))) (fun h46 => ?_)
      refine q_aload hC 4 dX4_trySize_49 rfl rfl ?_
      refine q_iload hC 6 dX4_trySize_51 rfl rfl ?_
      refine q_pald hC dX4_trySize_53 (vp_in_nI hp (by decide)) rfl ?_
      rw [nI_clamp (show p < 2 ^ 31 by omega)]
      refine q_istore hC dX4_trySize_54 (by decide) (ls' := [(0, _), (1, _), (2, _), (3, _), (4, _), (5, _), (6, _), (7, _)]) rfl rfl ?_
      refine q_iload_n hC 1 dX4_trySize_56 rfl rfl ?_
      refine q_iconst hC dX4_trySize_57 (v := 2) (by decide) rfl ?_
      refine q_isub hC dX4_trySize_58 rfl ?_
      refine q_iload_n hC 3 dX4_trySize_59 rfl rfl ?_
      refine q_iconst hC dX4_trySize_60 (v := (-1)) (by decide) rfl ?_
      refine q_icmp_ne hC dX4_trySize_61 (t := 68) (n := 64) (by decide) rfl (fun h61 => ?_) (fun h61 => ?_)
      · refine q_iconst hC dX4_trySize_68 (v := 1) (by decide) rfl ?_
        refine q_isub hC dX4_trySize_69 rfl ?_
        refine q_iload hC 7 dX4_trySize_70 rfl rfl ?_
        refine q_callS hC (c_J6_bitCount_0f7a4 (q_hD hC)) m_J6_bitCount_0f7a4 lk_X4_67 dX4_trySize_72 (q_pairs p) rfl rfl (Nat.le_of_ble_eq_true rfl) ⟨⟨by decide, by decide⟩, by decide, by decide⟩ rfl (k' := (0, 0)) rfl trivial (fun v S' hp => ?_)
        obtain ⟨r72_2, rfl, hr72_2, rfl⟩ := hp
        show qV Γ _ _ 75 _ (.int _ :: _) _ _
        refine q_isub hC dX4_trySize_75 rfl ?_
        refine q_istore hC dX4_trySize_76 (by decide) (ls' := [(0, _), (1, _), (2, _), (3, _), (4, _), (5, _), (6, _), (7, _), (8, _)]) rfl rfl ?_
        exact J78 u p _ T hu hp (by subst hr72_2; unfold z_rest; first | rw [if_pos ((z_c1 (by omega)).mp (by assumption))] | rw [if_neg (fun z => absurd ((z_c1 (by omega)).mpr z) (by assumption))]) hI hD hnext
      · refine q_iconst hC dX4_trySize_64 (v := 0) (by decide) rfl ?_
        refine q_goto hC dX4_trySize_65 (n := 69) (by decide) ?_
        refine q_isub hC dX4_trySize_69 rfl ?_
        refine q_iload hC 7 dX4_trySize_70 rfl rfl ?_
        refine q_callS hC (c_J6_bitCount_0f7a4 (q_hD hC)) m_J6_bitCount_0f7a4 lk_X4_67 dX4_trySize_72 (q_pairs p) rfl rfl (Nat.le_of_ble_eq_true rfl) ⟨⟨by decide, by decide⟩, by decide, by decide⟩ rfl (k' := (0, 0)) rfl trivial (fun v S' hp => ?_)
        obtain ⟨r72_3, rfl, hr72_3, rfl⟩ := hp
        show qV Γ _ _ 75 _ (.int _ :: _) _ _
        refine q_isub hC dX4_trySize_75 rfl ?_
        refine q_istore hC dX4_trySize_76 (by decide) (ls' := [(0, _), (1, _), (2, _), (3, _), (4, _), (5, _), (6, _), (7, _), (8, _)]) rfl rfl ?_
        exact J78 u p _ T hu hp (by subst hr72_3; unfold z_rest; first | rw [if_pos ((z_c1 (by omega)).mp (by assumption))] | rw [if_neg (fun z => absurd ((z_c1 (by omega)).mpr z) (by assumption))]) hI hD hnext
  have LU : ∀ (n u : Nat) (T : qM), u + n = 6 → z_I S0 a b T → z_Dj S0 a b s (z_Vis S0 a b s u 0 0) T → qV Γ rm_X4_trySize 11 24 [(0, .ref (q_ad Γ 35 0)), (1, .int (nI s)), (2, .int kn), (3, .int (z_c u))] [] T (0, 0) := by
    intro n
    induction n with
    | zero =>
      intro u T hun hI hD
      obtain rfl : u = 6 := by omega
      refine q_iload_n hC 3 dX4_trySize_24 rfl rfl ?_
      refine q_iconst hC dX4_trySize_25 (v := 5) (by decide) rfl ?_
      refine q_icmp_ge hC dX4_trySize_26 (t := 231) (n := 29) (by decide) rfl (fun h26 => ?_) (fun h26 => absurd (by decide) h26)
      refine q_vret hC dX4_trySize_231 ⟨by decide, by decide⟩ ⟨rfl, ?_⟩
      exact ⟨hI, hD.imp fun hv u p m hu hp hc => hv u p m hu hp (Or.inl hu) hc⟩
    | succ n ih =>
      intro u T hun hI hD
      have hu : u < 6 := by omega
      have hnext : ∀ T, z_I S0 a b T → z_Dj S0 a b s (z_Vis S0 a b s u 16 0) T → qV Γ rm_X4_trySize 11 225 [(0, .ref (q_ad Γ 35 0)), (1, .int (nI s)), (2, .int kn), (3, .int (z_c u))] [] T (0, 0) := by
        intro T' hI' hD'
        refine q_iinc hC 3 dX4_trySize_225 rfl (v := z_c (u + 1)) (z_cinc u) (by decide) (ls' := [(0, _), (1, _), (2, _), (3, _)]) rfl rfl ?_
        refine q_goto hC dX4_trySize_228 (n := 24) (by decide) ?_
        exact ih (u + 1) T' (by omega) hI' (hD'.imp z_vis_u)
      refine q_iload_n hC 3 dX4_trySize_24 rfl rfl ?_
      refine q_iconst hC dX4_trySize_25 (v := 5) (by decide) rfl ?_
      refine q_icmp_ge hC dX4_trySize_26 (t := 231) (n := 29) (by decide) rfl (fun h26 => absurd h26 (z_b5 hu)) (fun h26 => ?_)
      refine q_getsPN hC fn_X4_63 dX4_trySize_29 rfl ?_
      refine q_astore hC dX4_trySize_32 (by decide) (ls' := [(0, _), (1, _), (2, _), (3, _), (4, _)]) rfl rfl ?_
      refine q_aload hC 4 dX4_trySize_34 rfl rfl ?_
      refine q_plen hC dX4_trySize_36 rfl ?_
      refine q_istore hC dX4_trySize_37 (by decide) (ls' := [(0, _), (1, _), (2, _), (3, _), (4, _), (5, _)]) rfl rfl ?_
      refine q_iconst hC dX4_trySize_39 (v := 0) (by decide) rfl ?_
      refine q_istore hC dX4_trySize_40 (by decide) (ls' := [(0, _), (1, _), (2, _), (3, _), (4, _), (5, _), (6, _)]) rfl rfl ?_
      exact LP u hu hnext 16 0 T (by omega) hI hD
  refine q_iconst hC dX4_trySize_22 (v := (-1)) (by decide) rfl ?_
  refine q_istore_n hC dX4_trySize_23 (by decide) (ls' := [(0, _), (1, _), (2, _), (3, _)]) rfl rfl ?_
  exact LU 6 0 S (by omega) hI0 (Or.inl ⟨hnf, fun u' p' m' _ _ h => absurd h (by omega)⟩)
