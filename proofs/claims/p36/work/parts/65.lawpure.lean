/-! ===== THE LAW'S BODY: what it keeps ===== -/
theorem z_Q_out {S T : qM} {i : Nat} (h : ∀ k, k < 27 → T k i = S k i) (hQ : z_Q S i) : z_Q T i := by
  obtain ⟨⟨j1, j2, j3⟩, hq⟩ := hQ
  refine ⟨⟨z_raw_congr (fun k _ hk => h k (by omega)) j1, z_wf_out h j2, ?_⟩, fun h2 => ?_⟩
  · unfold z_s36 at *
    rw [h 20 (by omega)]; exact j3
  · rw [h 0 (by omega)] at h2
    obtain ⟨q1, q2, q3⟩ := hq h2
    refine ⟨fun h3 => z_tb_congr (fun k _ hk => h k hk) (by rw [h 0 (by omega)]) (q1 (by rw [← h 0 (by omega)]; exact h3)), ?_, ?_⟩
    · rw [h 0 (by omega)]
      unfold z_cd at *
      rw [h 2 (by omega)]; exact q2
    · unfold z_n24 at *
      rw [h 24 (by omega)]; exact q3
theorem z_rdy_out {S T : qM} {i : Nat} (h : T 0 i = S 0 i) (hr : z_rdy S i) : z_rdy T i := by
  unfold z_rdy at *
  rw [h]; exact hr
theorem z_mw_Q {S T : qM} {j i : Nat} (h : z_mw S T j) (hi : ¬ i = j) (hQ : z_Q S i) : z_Q T i := z_Q_out (fun k _ => h.1 k i (fun e => hi e.2)) hQ
theorem z_mw_rdy {S T : qM} {j i : Nat} (h : z_mw S T j) (hi : ¬ i = j) (hr : z_rdy S i) : z_rdy T i := z_rdy_out (h.1 0 i (fun e => hi e.2)) hr
/-- the two libraries behind, and the count of releases -/
def z_rs (T : qM) : Prop := (∀ i, 2 ≤ i → i < 4 → T 0 i 2 = 0 ∧ z_J T i) ∧ T 36 0 8 = 0
theorem z_rs_mw {S T : qM} {j : Nat} (hj : j < 2) (h : z_mw S T j) (hr : z_rs S) : z_rs T := by
  refine ⟨fun i h2 h4 => ?_, by rw [h.1 36 0 (by omega)]; exact hr.2⟩
  obtain ⟨a, b⟩ := hr.1 i h2 h4
  have hk : ∀ k, T k i = S k i := fun k => h.1 k i (by omega)
  exact ⟨by rw [hk]; exact a, z_J_of (fun k _ _ => hk k) (by rw [hk]) (z_raw_congr (fun k _ _ => hk k) b.1) b⟩
theorem z_lib_Q {T : qM} {i : Nat} (hr : z_rdy T i) (hQ : z_Q T i) : z_lib T i ∧ z_cur T T i :=
  ⟨⟨(hQ.2 hr.1).1 hr.2, (hQ.2 hr.1).2.2, hQ.1.1.2.2.2.2.2.2.2⟩, z_bs.rf, hQ.1.2.1⟩
def z_LI (B T : qM) : Prop := z_cur B T 0 ∧ z_cur B T 1 ∧ ∀ k i, (k < 27 ∧ 2 ≤ i) ∨ k = 36 → T k i = B k i
theorem z_cur_rdy {B T : qM} {i : Nat} (h : z_cur B T i) (hr : z_rdy B i) : z_rdy T i := by
  unfold z_rdy at *
  rw [h.1.2.1 2 (by omega) (by omega), h.1.2.1 3 (by omega) (by omega)]; exact hr
theorem z_LI_out {B T U : qM} (h : z_LI B T) (hk : ∀ k i, k < 27 ∨ k = 36 → U k i = T k i) : z_LI B U :=
  ⟨z_cur_out h.1 (fun k hk' => hk k 0 (Or.inl hk')), z_cur_out h.2.1 (fun k hk' => hk k 1 (Or.inl hk')), fun k i hki => by rw [hk k i (by omega)]; exact h.2.2 k i hki⟩
theorem z_LI_look {B T U : qM} (h : z_LI B T) (c0 : z_cur B U 0) (c1 : z_cur B U 1) (hf : z_lkf 0 1 T U) : z_LI B U :=
  ⟨c0, c1, fun k i hki => by rw [hf k i (by omega) (by omega) (by omega) (by omega) (by omega)]; exact h.2.2 k i hki⟩
theorem z_LI_cur {B T : qM} (h : z_LI B T) {i : Nat} (hi : i = 0 ∨ i = 1) : z_cur B T i := by
  rcases hi with rfl | rfl
  · exact h.1
  · exact h.2.1
theorem z_LI_run {B T U : qM} {c i N : Nat} {f : Nat → Int32} (h : z_LI B T) (hi : i = 0 ∨ i = 1) (hr : z_runP B T U 0 c i f N) : z_LI B U := by
  obtain ⟨r1, r2, r3, -⟩ := hr
  have ho : ∀ j, ¬ j = i → ∀ k, k < 27 → U k j = T k j := fun j hj k hk => r3 k j (by omega) (by omega)
  refine ⟨?_, ?_, fun k j hkj => ?_⟩
  · by_cases e : i = 0
    · subst e; exact ⟨r1, r2⟩
    · exact z_cur_out h.1 (ho 0 (by omega))
  · by_cases e : i = 1
    · subst e; exact ⟨r1, r2⟩
    · exact z_cur_out h.2.1 (ho 1 (by omega))
  · rw [r3 k j (by omega) (by omega)]; exact h.2.2 k j hkj
theorem z_LI_acl {B S T : qM} {c L N : Nat} {f : Nat → Int32} (h : z_LI B S) (hT : z_acl c S T f L N) : z_LI B T := z_LI_out h (fun k i _ => hT.1 k i (by omega))
/-- what a run wants of a client -/
theorem z_acl_r {S T : qM} {c L N s : Nat} {f : Nat → Int32} (hX : z_Xs f L s) (hT : z_acl c S T f L N) :
    z_own T c ∧ z_acts T c N ∧ (∀ p, p < 4 → T 28 c p = f p) ∧ ∀ m, m < N → z_actX f (T 29 c m) (T 30 c m) (T 32 c m) := by
  have ho := z_Xs_own hX
  have key : ∀ m, m < N → z_actR (T 29 c m) (T 30 c m) (T 31 c m) (T 32 c m) ∧ z_actX f (T 29 c m) (T 30 c m) (T 32 c m) := by
    intro m hm
    obtain ⟨k, t, m', o, hv, e1, e2, e3, e4⟩ := hT.2.2.2 m hm
    rw [e1, e2, e3, e4]
    exact z_V_act (z_Xs_L hX) hv
  refine ⟨⟨?_, ?_, ?_⟩, ⟨hT.2.1, fun m hm => (key m hm).1⟩, hT.2.2.1, fun m hm => (key m hm).2⟩
  · rw [hT.2.2.1 0 (by omega)]; exact ho.1
  · rw [hT.2.2.1 1 (by omega)]; exact ho.2.1
  · rw [hT.2.2.1 3 (by omega)]; exact ho.2.2
theorem z_runA {B S T : qM} {c i L N s : Nat} {f : Nat → Int32} (hL : z_LI B T) (hi : i = 0 ∨ i = 1) (hb : z_lib B i) (hX : z_Xs f L s) (hT : z_acl c S T f L N) {U : qM} (hU : U = z_folIt 0 c i N 0 (z_f0 0 c i T)) : z_runP B T U 0 c i f N := by
  obtain ⟨-, h2, h3, h4⟩ := z_acl_r hX hT
  obtain ⟨c1, c2⟩ := z_LI_cur hL hi
  rw [hU]
  exact z_run c1 c2 hb.2.1 hb.2.2 h3 (z_Xs_own hX) h2 h4
/-- a run leaves the client as it was -/
theorem z_acl_run {B S T U : qM} {c i L N : Nat} {f : Nat → Int32} (hr : z_runP B T U 0 c i f N) (hT : z_acl c S T f L N) : z_acl c U U f L N := by
  have e : ∀ k, 26 < k → k < 33 → U k c = T k c := fun k h1 h2 => hr.2.2.1 k c (by omega) (by omega)
  refine ⟨fun _ _ _ => rfl, by rw [e 27 (by omega) (by omega)]; exact hT.2.1, fun p hp => by rw [e 28 (by omega) (by omega)]; exact hT.2.2.1 p hp, fun j hj => ?_⟩
  rw [e 29 (by omega) (by omega), e 30 (by omega) (by omega), e 31 (by omega) (by omega), e 32 (by omega) (by omega)]
  exact hT.2.2.2 j hj
theorem z_runs {B S T U V : qM} {L N : Nat} {f : Nat → Int32} (hT : z_acl 0 S T f L N) (h0 : z_runP B T U 0 0 0 f N) (h1 : z_runP B U V 0 0 1 f N) (e0 : U 33 0 2 = 45) (e1 : ¬ V 33 0 2 = 45) (hN : 1 ≤ N) :
    U 33 0 1 = nI N ∧ (∃ w, w < N ∧ V 33 0 1 = nI w) ∧ ∃ k t m o, z_V L k t m o ∧ z_tells B 0 1 f (nI k) (z_c t) (z_c m) (z_c o) := by
  have e : ∀ k, 26 < k → k < 33 → U k 0 = T k 0 := fun k h1 h2 => h0.2.2.1 k 0 (by omega) (by omega)
  obtain ⟨-, -, -, -, -, w0, hw0, hc0⟩ := h0
  obtain ⟨-, -, -, -, -, w1, hw1, hc1⟩ := h1
  rw [e 29 (by omega) (by omega), e 30 (by omega) (by omega), e 31 (by omega) (by omega), e 32 (by omega) (by omega)] at hc1
  rcases hc0 with ⟨-, rfl, -, hp0⟩ | ⟨hx, -⟩
  · rcases hc1 with ⟨hx, -⟩ | ⟨-, hlt, hp1⟩
    · exact absurd hx e1
    · refine ⟨hw0, ⟨w1, by omega, hw1⟩, ?_⟩
      obtain ⟨m, hm, hn⟩ : ∃ m, m < w0 ∧ ¬ z_pass B 1 f (T 29 0 m) (T 30 0 m) (T 31 0 m) (T 32 0 m) := by
        rcases hp1 with hx | hx
        · exact ⟨0, by omega, fun hp => hx hp.1⟩
        · exact hx
      obtain ⟨k, t, m', o, hv, g1, g2, g3, g4⟩ := hT.2.2.2 m hm
      have hy := hp0 m hm
      rw [g1, g2, g3, g4] at hn hy
      exact ⟨k, t, m', o, hv, hy, hn⟩
  · exact absurd e0 hx
/-- a client of one act -/
def z_one (c : Nat) (T : qM) (k t m o : Nat) : Prop := T 29 c 0 = nI k ∧ T 30 c 0 = z_c t ∧ T 31 c 0 = z_c m ∧ T 32 c 0 = z_c o
theorem z_run1 {B T U : qM} {c i k t m o : Nat} {f : Nat → Int32} (h1 : z_one c T k t m o) (hr : z_runP B T U 0 c i f 1) :
    (z_pass B i f (nI k) (z_c t) (z_c m) (z_c o) → U 33 0 2 = 45 ∧ U 33 0 1 = 1) ∧ (¬ z_pass B i f (nI k) (z_c t) (z_c m) (z_c o) → ¬ U 33 0 2 = 45 ∧ U 33 0 1 = 0) := by
  obtain ⟨g1, g2, g3, g4⟩ := h1
  obtain ⟨-, -, -, -, -, w, hw, hc⟩ := hr
  rcases hc with ⟨x1, rfl, -, hp⟩ | ⟨x1, hlt, hp⟩
  · have hy := hp 0 (by omega)
    rw [g1, g2, g3, g4] at hy
    exact ⟨fun _ => ⟨x1, hw⟩, fun hn => absurd hy hn⟩
  · obtain rfl : w = 0 := by omega
    have hn : ¬ z_pass B i f (nI k) (z_c t) (z_c m) (z_c o) := by
      rcases hp with hx | ⟨m', hm, hx⟩
      · exact fun hp => hx hp.1
      · obtain rfl : m' = 0 := by omega
        rw [g1, g2, g3, g4] at hx; exact hx
    exact ⟨fun hy => absurd hy hn, fun _ => ⟨x1, hw⟩⟩
theorem z_one_run {B T U : qM} {c i N k t m o : Nat} {f : Nat → Int32} (hr : z_runP B T U 0 c i f N) (h : z_one c T k t m o) : z_one c U k t m o := by
  have e : ∀ k, 26 < k → k < 33 → U k c = T k c := fun k h1 h2 => hr.2.2.1 k c (by omega) (by omega)
  unfold z_one
  rw [e 29 (by omega) (by omega), e 30 (by omega) (by omega), e 31 (by omega) (by omega), e 32 (by omega) (by omega)]
  exact h
/-- the least client, copied -/
theorem z_wit {T : qM} {f : Nat → Int32} {L k t m o : Nat} (hf : z_found T f k t m o) (hv : z_V L k t m o) : z_acl 3 T (z_cbIt 3 4 1 0 (z_cb0 3 4 T)) f L 1 ∧ z_one 3 (z_cbIt 3 4 1 0 (z_cb0 3 4 T)) k t m o := by
  obtain ⟨-, h28, -, h29, h30, h31, h32⟩ := hf
  obtain ⟨X, hX⟩ : ∃ X, X = z_cb0 3 4 T := ⟨_, rfl⟩
  have x1 : ∀ k i, ¬ (26 < k ∧ k < 33 ∧ i = 3) → X k i = T k i := fun k i hn => by
    rw [hX]; unfold z_cb0 z_obec
    simp only [q_up]
    rw [if_neg (by omega), if_neg (by omega)]
  have x27 : X 27 3 1 = 0 := by
    rw [hX]; unfold z_cb0
    rw [q_up_same]; rfl
  have x28 : ∀ p, p < 4 → X 28 3 p = f p := by
    intro p hp
    rw [hX]; unfold z_cb0 z_obec
    rw [q_up_k (by omega), q_up_same]
    rcases (by omega : p = 0 ∨ p = 1 ∨ p = 2 ∨ p = 3) with rfl | rfl | rfl | rfl
    · exact h28 0 (by omega)
    · exact h28 1 (by omega)
    · exact h28 2 (by omega)
    · exact h28 3 (by omega)
  have hA : z_as 3 T X f := ⟨x1, x27, x28⟩
  have e : z_cbIt 3 4 1 0 X = z_add 3 (nI k) (z_c t) (z_c m) (z_c o) X := by
    show z_add 3 (X 29 4 0) (X 30 4 0) (X 31 4 0) (X 32 4 0) X = _
    rw [x1 29 4 (by omega), x1 30 4 (by omega), x1 31 4 (by omega), x1 32 4 (by omega), h29, h30, h31, h32]
  rw [← hX, e]
  refine ⟨z_acl_add (z_acl_0 hA) (by omega) hv, ?_⟩
  have hlt : X 27 3 1 < 8 := by rw [x27]; decide
  have e0 : (X 27 3 1).toNatClampNeg = 0 := by rw [x27]; rfl
  unfold z_one z_add
  rw [if_pos hlt, e0]
  refine ⟨?_, ?_, ?_, ?_⟩
  · rw [q_up_k (by omega), q_up_k (by omega), q_up_k (by omega), q_up_k (by omega), q_up_same]; rfl
  · rw [q_up_k (by omega), q_up_k (by omega), q_up_k (by omega), q_up_same]; rfl
  · rw [q_up_k (by omega), q_up_k (by omega), q_up_same]; rfl
  · rw [q_up_k (by omega), q_up_same]; rfl
theorem z_wit0 {B S S' : qM} {r c : Int64} {d : Nat} (l0 : z_lib B 0) (l1 : z_lib B 1) (h : z_LI B S) (hF : z_Fit B 0 1) (hp : (∃ T r9, z_findP (z_set35 0 1 S) 0 1 r9 T ∧ ¬ r9 = 0 ∧ r = r9.toInt64 ∧ S' = z_cbIt d 4 1 0 (z_cb0 d 4 T)) ∨ (z_findP (z_set35 0 1 S) 0 1 0 S' ∧ r = c)) :
    z_LI B S' ∧ r = c := by
  rcases hp with ⟨T, r9, hfd, hn, -, -⟩ | ⟨hfd, hr⟩
  · obtain ⟨-, -, -, -, hT⟩ := z_look l0 l1 h.1 h.2.1 hfd
    rcases hT with ⟨e, -⟩ | ⟨s, -, -, -, -, f, L, k, t, m, o, hX, hv, ht, -⟩
    · exact absurd e hn
    · exact absurd ht (hF f L s hX k t m o hv)
  · obtain ⟨c0, c1, hf, -, -⟩ := z_look l0 l1 h.1 h.2.1 hfd
    exact ⟨z_LI_look h c0 c1 hf, hr⟩
theorem z_wit1 {B S S' : qM} {r c : Int64} (l0 : z_lib B 0) (l1 : z_lib B 1) (h : z_LI B S) (hF : ¬ z_Fit B 0 1) (hp : (∃ T r9, z_findP (z_set35 0 1 S) 0 1 r9 T ∧ ¬ r9 = 0 ∧ r = r9.toInt64 ∧ S' = z_cbIt 3 4 1 0 (z_cb0 3 4 T)) ∨ (z_findP (z_set35 0 1 S) 0 1 0 S' ∧ r = c)) :
    z_LI B S' ∧ ∃ s, s ≤ 6 ∧ r = (nI s).toInt64 ∧ z_Min B 0 1 s ∧ ∃ f L k t m o T, z_Xs f L s ∧ z_tells B 0 1 f (nI k) (z_c t) (z_c m) (z_c o) ∧ z_acl 3 T S' f L 1 ∧ z_one 3 S' k t m o := by
  rcases hp with ⟨T, r9, hfd, hn, hr, rfl⟩ | ⟨hfd, hr⟩
  · obtain ⟨c0, c1, hf, -, hT⟩ := z_look l0 l1 h.1 h.2.1 hfd
    rcases hT with ⟨e, -⟩ | ⟨s, -, s6, hs, hm, f, L, k, t, m, o, hX, hv, ht, hfo⟩
    · exact absurd e hn
    · obtain ⟨w1, w2⟩ := z_wit hfo hv
      exact ⟨z_LI_acl (z_LI_look h c0 c1 hf) w1, s, s6, by rw [hr, hs], hm, f, L, k, t, m, o, T, hX, ht, w1, w2⟩
  · obtain ⟨-, -, -, -, hT⟩ := z_look l0 l1 h.1 h.2.1 hfd
    rcases hT with ⟨-, e⟩ | ⟨s, s1, s6, hs, -⟩
    · exact absurd e hF
    · exact absurd hs ((show ∀ s, s ≤ 6 → 1 ≤ s → ¬ (0 : Int32) = nI s by decide +kernel) s s6 s1)
theorem z_fits {B S S' : qM} {r : Int32} (l0 : z_lib B 0) (l1 : z_lib B 1) (h : z_LI B S) (hfd : z_findP (z_set35 0 1 S) 0 1 r S') : z_LI B S' ∧ (r = 0 → z_Fit B 0 1) ∧ (¬ r = 0 → ¬ z_Fit B 0 1) := by
  obtain ⟨c0, c1, hf, -, hT⟩ := z_look l0 l1 h.1 h.2.1 hfd
  refine ⟨z_LI_look h c0 c1 hf, ?_⟩
  rcases hT with ⟨e, hF⟩ | ⟨s, s1, s6, hs, -, f, L, k, t, m, o, hX, hv, ht, -⟩
  · exact ⟨fun _ => hF, fun hn => absurd e hn⟩
  · exact ⟨fun e => absurd (e.symm.trans hs) ((show ∀ s, s ≤ 6 → 1 ≤ s → ¬ (0 : Int32) = nI s by decide +kernel) s s6 s1), fun _ hF => hF f L s hX k t m o hv ht⟩
theorem z_l45 {x : Int32} : lg_cmp x.toInt64 45 = 0 ↔ x = 45 := by
  rw [lg_cmp_eq]
  constructor
  · intro h
    have h2 := congrArg Int64.toInt h
    rw [Int32.toInt_toInt64] at h2
    exact Int32.toInt_inj.mp (h2.trans (by decide))
  · intro h; rw [h]; rfl
theorem z_l6 : ∀ a, a < 6 → ∀ s, s < 7 → s ≤ a + 1 → 0 ≤ lg_cmp ((nI a).toInt64 + 1) (nI s).toInt64 := by decide +kernel
theorem z_l3 : ∀ n, n < 4 → ∀ w, w < n → lg_cmp (nI w).toInt64 (nI n).toInt64 < 0 := by decide +kernel
theorem z_sH_of {B T : qM} (l0 : z_lib B 0) (l1 : z_lib B 1) (r0 : z_rdy B 0) (r1 : z_rdy B 1) (hs : z_rs B) (h : z_LI B T) : z_sH B T 0 ∧ T 36 0 8 = 0 := by
  refine ⟨⟨fun i hi => ?_, z_cur_rdy h.1 r0, fun c _ hc => absurd hc (by omega), fun x' hx => absurd hx (Nat.not_lt_zero _)⟩, by rw [h.2.2 36 0 (Or.inr rfl)]; exact hs.2⟩
  rcases (by omega : i = 0 ∨ i = 1 ∨ 2 ≤ i) with rfl | rfl | h2
  · exact Or.inl ⟨(z_cur_rdy h.1 r0).1, fun _ => ⟨l0, h.1⟩⟩
  · exact Or.inl ⟨(z_cur_rdy h.2.1 r1).1, fun _ => ⟨l1, h.2.1⟩⟩
  · have hk : ∀ k, k < 27 → T k i = B k i := fun k hk => h.2.2 k i (Or.inl ⟨hk, h2⟩)
    obtain ⟨a, b⟩ := hs.1 i h2 hi
    exact Or.inr ⟨by rw [hk 0 (by omega)]; exact a, z_J_of (fun k _ hk' => hk k hk') (by rw [hk 0 (by omega)]) (z_raw_congr (fun k _ hk' => hk k (by omega)) b.1) b⟩
