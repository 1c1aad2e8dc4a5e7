-- printed by wip/p36/gen_m2.py
def z_clr (j : Nat) (S : qM) : qM := q_up S 28 j (upd (upd (upd (upd (S 28 j) 0 0) 1 (-1)) 2 0) 3 (-1))
def z_obec (j j2 : Nat) (S : qM) : qM := q_up S 28 j (upd (upd (upd (upd (S 28 j) 0 (S 28 j2 0)) 1 (S 28 j2 1)) 2 (S 28 j2 2)) 3 (S 28 j2 3))
def z_oset (j : Nat) (a b c : Int32) (S : qM) : qM := q_up S 28 j (upd (upd (upd (upd (S 28 j) 0 1) 1 a) 2 b) 3 c)
def z_bool (x : Int32) : Prop := x = 0 ∨ x = 1
theorem q_up_ki {S : qM} {k i i' : Nat} {f : Nat → Int32} (h : ¬ i' = i) : q_up S k i f k i' = S k i' := by simp [q_up, h]
abbrev rm_X7_clear : Room := { frames := 0, cells := 0, slots := 0, locals := 0 }
set_option maxHeartbeats 4000000 in
set_option maxRecDepth 100000 in
theorem c_X7_clear {L : qL} (hD : q_D L.2.2.2.1) : qCT L yX7_clear cX7_clear 1 none rm_X7_clear (fun ad _ (x : Nat) => [.ref (ad 28 x)]) (fun x _ => x < 6) (qPv (fun x S S' => S' = z_clr x S)) := by
  refine q_met hD (by decide) (fun _ => Nat.le_of_ble_eq_true rfl) (fun Γ x S hΓ hpre hC => ?_)
  subst hΓ
  have hj : x < 6 := hpre
  obtain ⟨j, rfl⟩ : ∃ j, j = x := ⟨_, rfl⟩
  show qV Γ _ _ 0 [(0, .ref (q_ad Γ 28 j))] [] S (0, 0)
  refine q_aload_n hC 0 dX7_clear_0 rfl rfl ?_
  refine q_iconst hC dX7_clear_1 (v := 0) (by decide) rfl ?_
  refine q_put_i hC fp_X7_9 dX7_clear_2 rfl rfl (Nat.le_of_ble_eq_true rfl) rfl rfl hj rfl ?_
  refine q_aload_n hC 0 dX7_clear_5 rfl rfl ?_
  refine q_iconst hC dX7_clear_6 (v := (-1)) (by decide) rfl ?_
  refine q_put_i hC fp_X7_15 dX7_clear_7 rfl rfl (Nat.le_of_ble_eq_true rfl) rfl rfl hj rfl ?_
  refine q_aload_n hC 0 dX7_clear_10 rfl rfl ?_
  refine q_iconst hC dX7_clear_11 (v := 0) (by decide) rfl ?_
  refine q_put_i hC fp_X7_19 dX7_clear_12 rfl rfl (Nat.le_of_ble_eq_true rfl) rfl rfl hj rfl ?_
  refine q_aload_n hC 0 dX7_clear_15 rfl rfl ?_
  refine q_iconst hC dX7_clear_16 (v := (-1)) (by decide) rfl ?_
  refine q_put_i hC fp_X7_22 dX7_clear_17 rfl rfl (Nat.le_of_ble_eq_true rfl) rfl rfl hj rfl ?_
  refine q_vret hC dX7_clear_20 ⟨by decide, by decide⟩ ⟨rfl, ?_⟩
  simp (config := {decide := true}) only [q_up_k, q_up_same, q_upup, z_updupd, ne_eq, not_false_eq_true]; rfl
abbrev rm_X7_become : Room := { frames := 0, cells := 0, slots := 0, locals := 0 }
set_option maxHeartbeats 4000000 in
set_option maxRecDepth 100000 in
theorem c_X7_become {L : qL} (hD : q_D L.2.2.2.1) : qCT L yX7_become cX7_become 2 none rm_X7_become (fun ad _ (x : Nat × Nat) => [.ref (ad 28 x.1), .ref (ad 28 x.2)]) (fun x S => x.1 < 6 ∧ x.2 < 6 ∧ ¬ x.2 = x.1 ∧ z_bool (S 28 x.2 0)) (qPv (fun x S S' => S' = z_obec x.1 x.2 S)) := by
  refine q_met hD (by decide) (fun _ => Nat.le_of_ble_eq_true rfl) (fun Γ x S hΓ hpre hC => ?_)
  subst hΓ
  obtain ⟨j, k⟩ := x
  obtain ⟨hj, hk, hne, hb⟩ := hpre
  have hj : j < 6 := hj
  have hk : k < 6 := hk
  have hne : ¬ k = j := hne
  have hb : z_bool (S 28 k 0) := hb
  show qV Γ _ _ 0 [(0, .ref (q_ad Γ 28 j)), (1, .ref (q_ad Γ 28 k))] [] S (0, 0)
  refine q_aload_n hC 0 dX7_become_0 rfl rfl ?_
  refine q_aload_n hC 1 dX7_become_1 rfl rfl ?_
  refine q_get_f hC f_X7_9 dX7_become_2 rfl rfl hk rfl ?_
  refine q_put_i hC fp_X7_9 dX7_become_5 rfl rfl (Nat.le_of_ble_eq_true rfl) (z_narZ hb).1 (z_narZ hb).2 hj rfl ?_
  refine q_aload_n hC 0 dX7_become_8 rfl rfl ?_
  refine q_aload_n hC 1 dX7_become_9 rfl rfl ?_
  refine q_get_f hC f_X7_15 dX7_become_10 rfl rfl hk rfl ?_
  refine q_put_i hC fp_X7_15 dX7_become_13 rfl rfl (Nat.le_of_ble_eq_true rfl) rfl rfl hj rfl ?_
  refine q_aload_n hC 0 dX7_become_16 rfl rfl ?_
  refine q_aload_n hC 1 dX7_become_17 rfl rfl ?_
  refine q_get_f hC f_X7_19 dX7_become_18 rfl rfl hk rfl ?_
  refine q_put_i hC fp_X7_19 dX7_become_21 rfl rfl (Nat.le_of_ble_eq_true rfl) rfl rfl hj rfl ?_
  refine q_aload_n hC 0 dX7_become_24 rfl rfl ?_
  refine q_aload_n hC 1 dX7_become_25 rfl rfl ?_
  refine q_get_f hC f_X7_22 dX7_become_26 rfl rfl hk rfl ?_
  refine q_put_i hC fp_X7_22 dX7_become_29 rfl rfl (Nat.le_of_ble_eq_true rfl) rfl rfl hj rfl ?_
  refine q_vret hC dX7_become_32 ⟨by decide, by decide⟩ ⟨rfl, ?_⟩
  simp (config := {decide := true}) only [q_up_k, q_up_same, q_upup, z_updupd, ne_eq, not_false_eq_true, q_up_ki hne]; rfl
abbrev rm_X7_set : Room := { frames := 0, cells := 0, slots := 0, locals := 0 }
set_option maxHeartbeats 4000000 in
set_option maxRecDepth 100000 in
theorem c_X7_set {L : qL} (hD : q_D L.2.2.2.1) : qCT L yX7_set cX7_set 4 none rm_X7_set (fun ad _ (x : Nat × Int32 × Int32 × Int32) => [.ref (ad 28 x.1), .int x.2.1, .int x.2.2.1, .int x.2.2.2]) (fun x _ => x.1 < 6) (qPv (fun x S S' => S' = z_oset x.1 x.2.1 x.2.2.1 x.2.2.2 S)) := by
  refine q_met hD (by decide) (fun _ => Nat.le_of_ble_eq_true rfl) (fun Γ x S hΓ hpre hC => ?_)
  subst hΓ
  obtain ⟨j, a, b, c⟩ := x
  have hj : j < 6 := hpre
  show qV Γ _ _ 0 [(0, .ref (q_ad Γ 28 j)), (1, .int a), (2, .int b), (3, .int c)] [] S (0, 0)
  refine q_aload_n hC 0 dX7_set_0 rfl rfl ?_
  refine q_iconst hC dX7_set_1 (v := 1) (by decide) rfl ?_
  refine q_put_i hC fp_X7_9 dX7_set_2 rfl rfl (Nat.le_of_ble_eq_true rfl) rfl rfl hj rfl ?_
  refine q_aload_n hC 0 dX7_set_5 rfl rfl ?_
  refine q_iload_n hC 1 dX7_set_6 rfl rfl ?_
  refine q_put_i hC fp_X7_15 dX7_set_7 rfl rfl (Nat.le_of_ble_eq_true rfl) rfl rfl hj rfl ?_
  refine q_aload_n hC 0 dX7_set_10 rfl rfl ?_
  refine q_iload_n hC 2 dX7_set_11 rfl rfl ?_
  refine q_put_i hC fp_X7_19 dX7_set_12 rfl rfl (Nat.le_of_ble_eq_true rfl) rfl rfl hj rfl ?_
  refine q_aload_n hC 0 dX7_set_15 rfl rfl ?_
  refine q_iload_n hC 3 dX7_set_16 rfl rfl ?_
  refine q_put_i hC fp_X7_22 dX7_set_17 rfl rfl (Nat.le_of_ble_eq_true rfl) rfl rfl hj rfl ?_
  refine q_vret hC dX7_set_20 ⟨by decide, by decide⟩ ⟨rfl, ?_⟩
  simp (config := {decide := true}) only [q_up_k, q_up_same, q_upup, z_updupd, ne_eq, not_false_eq_true]; rfl
def z_cclr (c : Nat) (S : qM) : qM := q_up (z_clr c S) 27 c (upd (S 27 c) 1 0)
def z_add (c : Nat) (k t m o : Int32) (S : qM) : qM := if S 27 c 1 < 8 then
  q_up (q_up (q_up (q_up (q_up S 29 c (upd (S 29 c) (S 27 c 1).toNatClampNeg k)) 30 c (upd (S 30 c) (S 27 c 1).toNatClampNeg t)) 31 c (upd (S 31 c) (S 27 c 1).toNatClampNeg m)) 32 c (upd (S 32 c) (S 27 c 1).toNatClampNeg o)) 27 c (upd (S 27 c) 1 (S 27 c 1 + 1)) else S
theorem z_lt8 {x : Int32} (h : z_lt x 9) (h1 : x < 8) : z_lt x 8 := by
  obtain ⟨j, hj, rfl⟩ := h
  refine ⟨j, ?_, rfl⟩
  rcases Nat.lt_or_ge j 8 with q | q
  · exact q
  · obtain rfl : j = 8 := by omega
    exact absurd h1 (by decide)
abbrev rm_X0_clear : Room := { frames := 1, cells := 0, slots := 0, locals := 20 }
set_option maxHeartbeats 4000000 in
set_option maxRecDepth 100000 in
theorem c_X0_clear {L : qL} (hD : q_D L.2.2.2.1) : qCT L yX0_clear cX0_clear 1 none rm_X0_clear (fun ad _ (x : Nat) => [.ref (ad 27 x)]) (fun x _ => x < 5) (qPv (fun x S S' => S' = z_cclr x S)) := by
  refine q_met hD (by decide) (fun _ => Nat.le_of_ble_eq_true rfl) (fun Γ x S hΓ hpre hC => ?_)
  subst hΓ
  have hc : x < 5 := hpre
  obtain ⟨c, rfl⟩ : ∃ c, c = x := ⟨_, rfl⟩
  show qV Γ _ _ 0 [(0, .ref (q_ad Γ 27 c))] [] S (0, 0)
  refine q_aload_n hC 0 dX0_clear_0 rfl rfl ?_
  refine q_get_f hC f_X0_12 dX0_clear_1 rfl rfl hc rfl ?_
  refine q_callV hC (c_X7_clear (q_hD hC)) m_X7_clear lk_X0_35 dX0_clear_4 c rfl rfl rfl rfl rfl (Nat.lt_trans hc (by decide)) (Nat.le_of_ble_eq_true rfl) ⟨⟨by decide, by decide⟩, by decide, by decide⟩ rfl (k' := (0, 0)) rfl (Nat.lt_trans hc (by decide)) (fun v S' hp => ?_)
  obtain ⟨rfl, rfl⟩ := hp
  show qV Γ _ _ 7 _ _ _ _
  refine q_aload_n hC 0 dX0_clear_7 rfl rfl ?_
  refine q_iconst hC dX0_clear_8 (v := 0) (by decide) rfl ?_
  refine q_put_i hC fp_X0_18 dX0_clear_9 rfl rfl (Nat.le_of_ble_eq_true rfl) rfl rfl hc rfl ?_
  refine q_vret hC dX0_clear_12 ⟨by decide, by decide⟩ ⟨rfl, ?_⟩
  unfold z_cclr z_clr; simp (config := {decide := true}) only [q_up_k, q_up_same, q_upup, z_updupd, ne_eq, not_false_eq_true]
abbrev rm_X0_add : Room := { frames := 0, cells := 0, slots := 0, locals := 0 }
set_option maxHeartbeats 4000000 in
set_option maxRecDepth 100000 in
theorem c_X0_add {L : qL} (hD : q_D L.2.2.2.1) : qCT L yX0_add cX0_add 5 none rm_X0_add (fun ad _ (x : Nat × Int32 × Int32 × Int32 × Int32) => [.ref (ad 27 x.1), .int x.2.1, .int x.2.2.1, .int x.2.2.2.1, .int x.2.2.2.2]) (fun x S => x.1 < 5 ∧ z_lt (S 27 x.1 1) 9) (qPv (fun x S S' => S' = z_add x.1 x.2.1 x.2.2.1 x.2.2.2.1 x.2.2.2.2 S)) := by
  refine q_met hD (by decide) (fun _ => Nat.le_of_ble_eq_true rfl) (fun Γ x S hΓ hpre hC => ?_)
  subst hΓ
  obtain ⟨c, k, t, m, o⟩ := x
  obtain ⟨hc, hn⟩ := hpre
  have hc : c < 5 := hc
  have hn : z_lt (S 27 c 1) 9 := hn
  show qV Γ _ _ 0 [(0, .ref (q_ad Γ 27 c)), (1, .int k), (2, .int t), (3, .int m), (4, .int o)] [] S (0, 0)
  refine q_aload_n hC 0 dX0_add_0 rfl rfl ?_
  refine q_get_f hC f_X0_18 dX0_add_1 rfl rfl hc rfl ?_
  refine q_bipush hC dX0_add_4 (v := 8) (by decide) rfl ?_
  refine q_icmp_lt hC dX0_add_6 (t := 10) (n := 9) (by decide) rfl (fun h6 => ?_) (fun h6 => ?_)
  · refine q_aload_n hC 0 dX0_add_10 rfl rfl ?_
    refine q_get_f hC f_X0_22 dX0_add_11 rfl rfl hc rfl ?_
    refine q_aload_n hC 0 dX0_add_14 rfl rfl ?_
    refine q_get_f hC f_X0_18 dX0_add_15 rfl rfl hc rfl ?_
    refine q_iload_n hC 1 dX0_add_18 rfl rfl ?_
    refine q_iast hC dX0_add_19 (fun _ => rfl) hc (show vp_in _ 8 from z_in (by simpa [q_up] using z_lt8 hn h6) (by decide)) rfl ?_
    refine q_aload_n hC 0 dX0_add_20 rfl rfl ?_
    refine q_get_f hC f_X0_26 dX0_add_21 rfl rfl hc rfl ?_
    refine q_aload_n hC 0 dX0_add_24 rfl rfl ?_
    refine q_get_f hC f_X0_18 dX0_add_25 rfl rfl hc rfl ?_
    refine q_iload_n hC 2 dX0_add_28 rfl rfl ?_
    refine q_iast hC dX0_add_29 (fun _ => rfl) hc (show vp_in _ 8 from z_in (by simpa [q_up] using z_lt8 hn h6) (by decide)) rfl ?_
    refine q_aload_n hC 0 dX0_add_30 rfl rfl ?_
    refine q_get_f hC f_X0_29 dX0_add_31 rfl rfl hc rfl ?_
    refine q_aload_n hC 0 dX0_add_34 rfl rfl ?_
    refine q_get_f hC f_X0_18 dX0_add_35 rfl rfl hc rfl ?_
    refine q_iload_n hC 3 dX0_add_38 rfl rfl ?_
    refine q_iast hC dX0_add_39 (fun _ => rfl) hc (show vp_in _ 8 from z_in (by simpa [q_up] using z_lt8 hn h6) (by decide)) rfl ?_
    refine q_aload_n hC 0 dX0_add_40 rfl rfl ?_
    refine q_get_f hC f_X0_32 dX0_add_41 rfl rfl hc rfl ?_
    refine q_aload_n hC 0 dX0_add_44 rfl rfl ?_
    refine q_get_f hC f_X0_18 dX0_add_45 rfl rfl hc rfl ?_
    refine q_iload hC 4 dX0_add_48 rfl rfl ?_
    refine q_iast hC dX0_add_50 (fun _ => rfl) hc (show vp_in _ 8 from z_in (by simpa [q_up] using z_lt8 hn h6) (by decide)) rfl ?_
    refine q_aload_n hC 0 dX0_add_51 rfl rfl ?_
    refine q_dup hC dX0_add_52 rfl rfl ?_
    refine q_get_f hC f_X0_18 dX0_add_53 rfl rfl hc rfl ?_
    refine q_iconst hC dX0_add_56 (v := 1) (by decide) rfl ?_
    refine q_iadd hC dX0_add_57 rfl ?_
    refine q_put_i hC fp_X0_18 dX0_add_58 rfl rfl (Nat.le_of_ble_eq_true rfl) rfl rfl hc rfl ?_
    refine q_vret hC dX0_add_61 ⟨by decide, by decide⟩ ⟨rfl, ?_⟩
    simp only [z_add, if_pos h6]
    first | done | (simp (config := {decide := true}) only [q_up_k, q_up_same, q_upup, z_updupd, ne_eq, not_false_eq_true])
  · refine q_vret hC dX0_add_9 ⟨by decide, by decide⟩ ⟨rfl, ?_⟩
    simp only [z_add, if_neg h6]
    first | done | (simp (config := {decide := true}) only [q_up_k, q_up_same, q_upup, z_updupd, ne_eq, not_false_eq_true])
def z_cbS (c d : Nat) (m : Nat) (T : qM) : qM := z_add c (T 29 d (nI m).toNatClampNeg) (T 30 d (nI m).toNatClampNeg) (T 31 d (nI m).toNatClampNeg) (T 32 d (nI m).toNatClampNeg) T
def z_cbIt (c d : Nat) : Nat → Nat → qM → qM
  | 0, _, T => T
  | n + 1, m, T => z_cbIt c d n (m + 1) (z_cbS c d m T)
def z_cb0 (c d : Nat) (S : qM) : qM := q_up (z_obec c d S) 27 c (upd (S 27 c) 1 0)
theorem z_add_27 {c d : Nat} {k t m o : Int32} {S : qM} (h : ¬ d = c) (j : Nat) : z_add c k t m o S 27 d j = S 27 d j := by
  unfold z_add
  split <;> simp [q_up, h]
theorem z_add_c {c : Nat} {k t m o : Int32} {S : qM} {n : Nat} (h : S 27 c 1 = nI n) (hn : n < 8) : z_add c k t m o S 27 c 1 = nI (n + 1) := by
  unfold z_add
  have : S 27 c 1 < 8 := by rw [h]; exact nI_lt (b := 8) hn (by decide)
  rw [if_pos this]
  simp only [q_up, and_self, if_true, upd, h, nI_succ]
abbrev rm_X0_become : Room := { frames := 1, cells := 0, slots := 0, locals := 24 }
set_option maxHeartbeats 4000000 in
set_option maxRecDepth 100000 in
theorem c_X0_become {L : qL} (hD : q_D L.2.2.2.1) : qCT L yX0_become cX0_become 3 none rm_X0_become (fun ad _ (x : Nat × Nat × Nat) => [.ref (ad 27 x.1), .ref (ad 27 x.2.1)]) (fun x S => x.1 < 5 ∧ x.2.1 < 5 ∧ ¬ x.2.1 = x.1 ∧ z_bool (S 28 x.2.1 0) ∧ x.2.2 ≤ 8 ∧ S 27 x.2.1 1 = nI x.2.2) (qPv (fun x S S' => S' = z_cbIt x.1 x.2.1 x.2.2 0 (z_cb0 x.1 x.2.1 S))) := by
  refine q_met hD (by decide) (fun _ => Nat.le_of_ble_eq_true rfl) (fun Γ x S hΓ hpre hC => ?_)
  subst hΓ
  obtain ⟨c, d, N⟩ := x
  obtain ⟨hc, hd, hne, hb, hN, hcnt⟩ := hpre
  have hc : c < 5 := hc
  have hd : d < 5 := hd
  have hne : ¬ d = c := hne
  have hb : z_bool (S 28 d 0) := hb
  have hN : N ≤ 8 := hN
  have hcnt : S 27 d 1 = nI N := hcnt
  have L : ∀ (n m : Nat) (T : qM), m + n = N → T 27 d 1 = nI N → T 27 c 1 = nI m → z_cbIt c d n m T = z_cbIt c d N 0 (z_cb0 c d S) → qV Γ rm_X0_become 3 18 [(0, .ref (q_ad Γ 27 c)), (1, .ref (q_ad Γ 27 d)), (2, .int (nI m))] [] T (0, 0) := by
    intro n
    induction n with
    | zero =>
      intro m T hmn hTd hT hF
      obtain rfl : m = N := by omega
      refine q_iload_n hC 2 dX0_become_18 rfl rfl ?_
      refine q_aload_n hC 1 dX0_become_19 rfl rfl ?_
      refine q_get_f hC f_X0_18 dX0_become_20 rfl rfl hd rfl ?_
      refine q_icmp_ge hC dX0_become_23 (t := 60) (n := 26) (by decide) rfl (fun h23 => ?_) (fun h23 => absurd (by rw [hTd]; exact Int32.le_refl _) h23)
      refine q_vret hC dX0_become_60 ⟨by decide, by decide⟩ ⟨rfl, ?_⟩
      exact hF
    | succ n ih =>
      intro m T hmn hTd hT hF
      have hm : m < N := by omega
      refine q_iload_n hC 2 dX0_become_18 rfl rfl ?_
      refine q_aload_n hC 1 dX0_become_19 rfl rfl ?_
      refine q_get_f hC f_X0_18 dX0_become_20 rfl rfl hd rfl ?_
      refine q_icmp_ge hC dX0_become_23 (t := 60) (n := 26) (by decide) rfl (fun h23 => absurd h23 (by rw [hTd]; exact nI_ge hm (by omega))) (fun h23 => ?_)
      refine q_aload_n hC 0 dX0_become_26 rfl rfl ?_
      refine q_aload_n hC 1 dX0_become_27 rfl rfl ?_
      refine q_get_f hC f_X0_22 dX0_become_28 rfl rfl hd rfl ?_
      refine q_iload_n hC 2 dX0_become_31 rfl rfl ?_
      refine q_iald hC dX0_become_32 rfl hd (vp_in_nI (Nat.lt_of_lt_of_le hm hN) (by decide)) rfl ?_
      refine q_aload_n hC 1 dX0_become_33 rfl rfl ?_
      refine q_get_f hC f_X0_26 dX0_become_34 rfl rfl hd rfl ?_
      refine q_iload_n hC 2 dX0_become_37 rfl rfl ?_
      refine q_iald hC dX0_become_38 rfl hd (vp_in_nI (Nat.lt_of_lt_of_le hm hN) (by decide)) rfl ?_
      refine q_aload_n hC 1 dX0_become_39 rfl rfl ?_
      refine q_get_f hC f_X0_29 dX0_become_40 rfl rfl hd rfl ?_
      refine q_iload_n hC 2 dX0_become_43 rfl rfl ?_
      refine q_iald hC dX0_become_44 rfl hd (vp_in_nI (Nat.lt_of_lt_of_le hm hN) (by decide)) rfl ?_
      refine q_aload_n hC 1 dX0_become_45 rfl rfl ?_
      refine q_get_f hC f_X0_32 dX0_become_46 rfl rfl hd rfl ?_
      refine q_iload_n hC 2 dX0_become_49 rfl rfl ?_
      refine q_iald hC dX0_become_50 rfl hd (vp_in_nI (Nat.lt_of_lt_of_le hm hN) (by decide)) rfl ?_
      refine q_callV hC (c_X0_add (q_hD hC)) m_X0_add lk_X0_42 dX0_become_51 (c, T 29 d (nI m).toNatClampNeg, T 30 d (nI m).toNatClampNeg, T 31 d (nI m).toNatClampNeg, T 32 d (nI m).toNatClampNeg) rfl rfl rfl rfl rfl hc (Nat.le_of_ble_eq_true rfl) ⟨⟨by decide, by decide⟩, by decide, by decide⟩ rfl (k' := (0, 0)) rfl ⟨hc, ⟨m, by omega, hT⟩⟩ (fun v S' hp => ?_)
      obtain ⟨rfl, rfl⟩ := hp
      show qV Γ _ _ 54 _ _ _ _
      refine q_iinc hC 2 dX0_become_54 rfl (v := nI (m + 1)) (z_inc m) (by decide) (ls' := [(0, _), (1, _), (2, _)]) rfl rfl ?_
      refine q_goto hC dX0_become_57 (n := 18) (by decide) ?_
      exact ih (m + 1) _ (by omega) (by rw [z_add_27 hne]; exact hTd) (z_add_c hT (by omega)) (by rw [← hF]; rfl)
  show qV Γ _ _ 0 [(0, .ref (q_ad Γ 27 c)), (1, .ref (q_ad Γ 27 d))] [] S (0, 0)
  refine q_aload_n hC 0 dX0_become_0 rfl rfl ?_
  refine q_get_f hC f_X0_12 dX0_become_1 rfl rfl hc rfl ?_
  refine q_aload_n hC 1 dX0_become_4 rfl rfl ?_
  refine q_get_f hC f_X0_12 dX0_become_5 rfl rfl hd rfl ?_
  refine q_callV hC (c_X7_become (q_hD hC)) m_X7_become lk_X0_38 dX0_become_8 (c, d) rfl rfl rfl rfl rfl (Nat.lt_trans hc (by decide)) (Nat.le_of_ble_eq_true rfl) ⟨⟨by decide, by decide⟩, by decide, by decide⟩ rfl (k' := (0, 0)) rfl ⟨Nat.lt_trans hc (by decide), Nat.lt_trans hd (by decide), hne, hb⟩ (fun v S' hp => ?_)
  obtain ⟨rfl, rfl⟩ := hp
  show qV Γ _ _ 11 _ _ _ _
  refine q_aload_n hC 0 dX0_become_11 rfl rfl ?_
  refine q_iconst hC dX0_become_12 (v := 0) (by decide) rfl ?_
  refine q_put_i hC fp_X0_18 dX0_become_13 rfl rfl (Nat.le_of_ble_eq_true rfl) rfl rfl hc rfl ?_
  refine q_iconst hC dX0_become_16 (v := 0) (by decide) rfl ?_
  refine q_istore_n hC dX0_become_17 (by decide) (ls' := [(0, _), (1, _), (2, _)]) rfl rfl ?_
  exact L N 0 _ (by omega) (by simpa [z_obec, q_up, hne] using hcnt) (by simp [q_up, upd, nI_0]) (by unfold z_cb0; congr 1)
