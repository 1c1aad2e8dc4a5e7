-- printed by wip/p36/gen_m2.py
/-- a library as the law has it: in its ranges, and what was found of its law still so -/
def z_Q (S : qM) (i : Nat) : Prop := z_J S i ∧ (¬ S 0 i 2 = 0 → (S 0 i 3 = -1 → z_tb S i) ∧ z_cd S i (S 0 i 3) ∧ z_n24 S i)
def z_mw (S T : qM) (i : Nat) : Prop := (∀ k' i', ¬ (k' < 27 ∧ i' = i) → T k' i' = S k' i') ∧ z_Q T i
theorem z_mw_of {S T : qM} {i : Nat} (h : z_mu S T i) : z_mw S T i := ⟨h.1, h.2.1, fun e => absurd h.2.2 e⟩
theorem z_mw_rf {S : qM} {i : Nat} (h : z_Q S i) : z_mw S S i := ⟨fun _ _ _ => rfl, h⟩
def z_chk (S T : qM) (i : Nat) : Prop := (∀ k' i', ¬ ((k' = 0 ∨ (17 ≤ k' ∧ k' < 27)) ∧ i' = i) → T k' i' = S k' i') ∧ (∀ p, ¬ p = 2 → ¬ p = 3 → T 0 i p = S 0 i p) ∧ ¬ T 0 i 2 = 0 ∧ z_Q T i
theorem z_chk_of {S T : qM} {i : Nat} (hQ : z_Q S i) (h : z_lawQ S T i) : z_chk S T i := by
  rcases h with ⟨h2, rfl⟩ | ⟨h2, l1, l2, l3, l4, l5, l6, l7, l8⟩
  · exact ⟨fun _ _ _ => rfl, fun _ _ _ => rfl, h2, hQ⟩
  · refine ⟨l1, l2, by rw [l3]; decide, ⟨z_raw_congr (fun k h1 h2 => l1 k i (by omega)) hQ.1.1, l4, l5⟩, fun _ => ⟨l6, ?_, l8⟩⟩
    unfold z_cd at *
    rw [l1 2 i (by omega)]; exact l7
theorem hp_n3 {o : qO} {a b c d e f : Nat} : ∀ z ∈ [(a, b, c, 17), (d, e, f, 23)], z.2.2.2 ≠ 0 ∧ ∃ nm : String, Cond.classLink RL z.2.2.2 nm ∈ qw ∧ ∀ U, qN o U → va_Nc q_nsee nm U := by
  intro z hz
  simp only [List.mem_cons, List.not_mem_nil, or_false] at hz
  rcases hz with rfl | rfl
  · exact ⟨(show (17 : Nat) ≠ 0 by decide), q_ioobe, cl_ioobe, fun _ h => h.2.2.1⟩
  · exact ⟨(show (23 : Nat) ≠ 0 by decide), q_iae, cl_iae, fun _ h => h.2.2.2.1⟩
theorem hp_w3 {o : qO} {a b c d e f : Nat} : ∀ z ∈ [(a, b, c, 17), (d, e, f, 66)], z.2.2.2 ≠ 0 ∧ ∃ nm : String, Cond.classLink RL z.2.2.2 nm ∈ qw ∧ ∀ U, qN o U → va_Nc q_nsee nm U := by
  intro z hz
  simp only [List.mem_cons, List.not_mem_nil, or_false] at hz
  rcases hz with rfl | rfl
  · exact ⟨(show (17 : Nat) ≠ 0 by decide), q_ioobe, cl_ioobe, fun _ h => h.2.2.1⟩
  · exact ⟨(show (66 : Nat) ≠ 0 by decide), q_uoe, cl_uoe, fun _ h => h.2.2.2.2.1⟩
theorem hp_a2 {o : qO} {a b c : Nat} : ∀ z ∈ [(a, b, c, 17)], z.2.2.2 ≠ 0 ∧ ∃ nm : String, Cond.classLink RL z.2.2.2 nm ∈ qw ∧ ∀ U, qN o U → va_Nc q_iae nm U := by
  intro z hz
  simp only [List.mem_cons, List.not_mem_nil, or_false] at hz
  subst hz
  exact ⟨(show (17 : Nat) ≠ 0 by decide), q_ioobe, cl_ioobe, fun _ h => h.2.2.2.2.2⟩
abbrev rm_L_type : Room := { frames := 4, cells := 0, slots := 0, locals := 95 }
set_option maxHeartbeats 4000000 in
set_option maxRecDepth 100000 in
theorem cw_L_type {L : qL} (hD : q_D L.2.2.2.1) : qCW L yL_type cL_type 5 (some .long) hh_L_type rm_L_type (fun ad _ (x : Nat × Nat × Int32) => [.ref (ad 36 0), .int (nI x.1), .int (nI (65 + x.2.1)), .int x.2.2]) (fun x S => x.1 < 4 ∧ x.2.1 < 5 ∧ (x.2.2 = 45 ∨ x.2.2 = 99 ∨ x.2.2 = 105) ∧ z_J S x.1) (qPl (fun x S r S' => z_mw S S' x.1 ∧ S' 2 x.1 x.2.1 = x.2.2 ∧ (∀ q, ¬ q = x.2.1 → S' 2 x.1 q = S 2 x.1 q) ∧ S' 0 x.1 2 = 0)) := by
  refine q_metW hD (by decide) (fun _ => Nat.le_of_ble_eq_true rfl) (fun Γ x S hΓ hpre hC hTb => ?_)
  subst hΓ
  obtain ⟨i, t, kd⟩ := x
  show qV Γ _ _ 0 [(0, .ref (q_ad Γ 36 0)), (1, .int (nI i)), (2, .int (nI (65 + t))), (3, .int kd)] [] S (0, 0)
  refine q_aload_n hC 0 dL_type_0 rfl rfl ?_
  refine q_iload_n hC 1 dL_type_1 rfl rfl ?_
  refine q_iload_n hC 2 dL_type_2 rfl rfl ?_
  refine q_iload_n hC 3 dL_type_3 rfl rfl ?_
  refine q_callV hC (c_X9_type (q_hD hC)) m_X9_type lk_L_11 dL_type_4 (i, t, kd) rfl rfl rfl rfl rfl (Nat.le_of_ble_eq_true rfl) (Nat.le_of_ble_eq_true rfl) ⟨⟨by decide, by decide⟩, by decide, by decide⟩ rfl (k' := (0, 0)) rfl hpre (fun v S' hp => ?_)
  obtain ⟨r9, rfl, h1, h2, h3⟩ := hp
  show qV Γ _ _ 7 _ (.int _ :: _) _ _
  refine q_i2l hC dL_type_7 rfl ?_
  refine q_lret hC dL_type_8 ⟨by decide, by decide⟩ ⟨_, rfl, ?_⟩
  exact ⟨z_mw_of h1, h2, h3, h1.2.2⟩
abbrev rm_L_copy : Room := { frames := 5, cells := 0, slots := 0, locals := 103 }
set_option maxHeartbeats 4000000 in
set_option maxRecDepth 100000 in
theorem cw_L_copy {L : qL} (hD : q_D L.2.2.2.1) : qCW L yL_copy cL_copy 4 (some .long) hh_L_copy rm_L_copy (fun ad _ (x : Nat × Nat) => [.ref (ad 36 0), .int (nI x.1), .int (nI x.2)]) (fun x S => x.1 < 4 ∧ x.2 < 4 ∧ ¬ x.1 = x.2 ∧ z_raw S x.1 ∧ z_J S x.2) (qPl (fun x S r S' => z_mw S S' x.2)) := by
  refine q_metW hD (by decide) (fun _ => Nat.le_of_ble_eq_true rfl) (fun Γ x S hΓ hpre hC hTb => ?_)
  subst hΓ
  obtain ⟨s, d⟩ := x
  show qV Γ _ _ 0 [(0, .ref (q_ad Γ 36 0)), (1, .int (nI s)), (2, .int (nI d))] [] S (0, 0)
  refine q_aload_n hC 0 dL_copy_0 rfl rfl ?_
  refine q_iload_n hC 1 dL_copy_1 rfl rfl ?_
  refine q_iload_n hC 2 dL_copy_2 rfl rfl ?_
  refine q_callV hC (c_X9_copy (q_hD hC)) m_X9_copy lk_L_51 dL_copy_3 (s, d) rfl rfl rfl rfl rfl (Nat.le_of_ble_eq_true rfl) (Nat.le_of_ble_eq_true rfl) ⟨⟨by decide, by decide⟩, by decide, by decide⟩ rfl (k' := (0, 0)) rfl hpre (fun v S' hp => ?_)
  obtain ⟨r9, rfl, h1⟩ := hp
  show qV Γ _ _ 6 _ (.int _ :: _) _ _
  refine q_i2l hC dL_copy_6 rfl ?_
  refine q_lret hC dL_copy_7 ⟨by decide, by decide⟩ ⟨_, rfl, ?_⟩
  exact z_mw_of h1
abbrev rm_L_check : Room := { frames := 7, cells := 0, slots := 0, locals := 154 }
set_option maxHeartbeats 4000000 in
set_option maxRecDepth 100000 in
theorem cw_L_check {L : qL} (hD : q_D L.2.2.2.1) : qCW L yL_check cL_check 3 (some .long) hh_L_check rm_L_check (fun ad _ (x : Nat × Unit) => [.ref (ad 36 0), .int (nI x.1)]) (fun x S => x.1 < 4 ∧ z_Q S x.1) (qPl (fun x S r S' => r = (S' 0 x.1 3).toInt64 ∧ z_lawQ S S' x.1 ∧ z_chk S S' x.1)) := by
  refine q_metW hD (by decide) (fun _ => Nat.le_of_ble_eq_true rfl) (fun Γ x S hΓ hpre hC hTb => ?_)
  subst hΓ
  obtain ⟨i, u⟩ := x
  obtain ⟨hi, hQ⟩ := hpre
  show qV Γ _ _ 0 [(0, .ref (q_ad Γ 36 0)), (1, .int (nI i))] [] S (0, 0)
  refine q_aload_n hC 0 dL_check_0 rfl rfl ?_
  refine q_iload_n hC 1 dL_check_1 rfl rfl ?_
  refine q_callV hC (c_X9_check (q_hD hC)) m_X9_check lk_L_55 dL_check_2 (i, ()) rfl rfl rfl rfl rfl (Nat.le_of_ble_eq_true rfl) (Nat.le_of_ble_eq_true rfl) ⟨⟨by decide, by decide⟩, by decide, by decide⟩ rfl (k' := (0, 0)) rfl ⟨hi, fun _ => hQ.1⟩ (fun v S' hp => ?_)
  obtain ⟨r9, rfl, h1, h2⟩ := hp
  show qV Γ _ _ 5 _ (.int _ :: _) _ _
  refine q_i2l hC dL_check_5 rfl ?_
  refine q_lret hC dL_check_6 ⟨by decide, by decide⟩ ⟨_, rfl, ?_⟩
  exact ⟨by rw [show r9 = S' 0 i 3 from h1], h2, z_chk_of hQ h2⟩
abbrev rm_L_wipe : Room := { frames := 3, cells := 0, slots := 0, locals := 62 }
set_option maxHeartbeats 4000000 in
set_option maxRecDepth 100000 in
theorem cw_L_wipe {L : qL} (hD : q_D L.2.2.2.1) : qCW L yL_wipe cL_wipe 3 (some .long) hh_L_wipe rm_L_wipe (fun ad _ (x : Nat × Unit) => [.ref (ad 36 0), .int (nI x.1)]) (fun x _ => x.1 < 4) (qPl (fun x S r S' => S' = z_cclr x.1 S)) := by
  refine q_metW hD (by decide) (fun _ => Nat.le_of_ble_eq_true rfl) (fun Γ x S hΓ hpre hC hTb => ?_)
  subst hΓ
  obtain ⟨c, u⟩ := x
  show qV Γ _ _ 0 [(0, .ref (q_ad Γ 36 0)), (1, .int (nI c))] [] S (0, 0)
  refine q_aload_n hC 0 dL_wipe_0 rfl rfl ?_
  refine q_iload_n hC 1 dL_wipe_1 rfl rfl ?_
  refine q_callV hC (c_X9_wipe (q_hD hC)) m_X9_wipe lk_L_59 dL_wipe_2 (c, ()) rfl rfl rfl rfl rfl (Nat.le_of_ble_eq_true rfl) (Nat.le_of_ble_eq_true rfl) ⟨⟨by decide, by decide⟩, by decide, by decide⟩ rfl (k' := (0, 0)) rfl hpre (fun v S' hp => ?_)
  obtain ⟨r9, rfl, rfl⟩ := hp
  show qV Γ _ _ 5 _ (.int _ :: _) _ _
  refine q_i2l hC dL_wipe_5 rfl ?_
  refine q_lret hC dL_wipe_6 ⟨by decide, by decide⟩ ⟨_, rfl, ?_⟩
  exact rfl
abbrev rm_L_own : Room := { frames := 2, cells := 0, slots := 0, locals := 45 }
set_option maxHeartbeats 4000000 in
set_option maxRecDepth 100000 in
theorem cw_L_own {L : qL} (hD : q_D L.2.2.2.1) : qCW L yL_own cL_own 4 (some .long) hh_L_own rm_L_own (fun ad _ (x : Nat × Unit) => [.ref (ad 36 0), .int (nI x.1), .int 1]) (fun x S => x.1 < 4 ∧ S 27 x.1 1 = 0 ∧ S 28 x.1 0 = 0) (qPl (fun x S r S' => S' = q_up (z_clr x.1 S) 28 x.1 (upd (z_clr x.1 S 28 x.1) 0 1))) := by
  refine q_metW hD (by decide) (fun _ => Nat.le_of_ble_eq_true rfl) (fun Γ x S hΓ hpre hC hTb => ?_)
  subst hΓ
  obtain ⟨c, u⟩ := x
  show qV Γ _ _ 0 [(0, .ref (q_ad Γ 36 0)), (1, .int (nI c)), (2, .int 1)] [] S (0, 0)
  refine q_aload_n hC 0 dL_own_0 rfl rfl ?_
  refine q_iload_n hC 1 dL_own_1 rfl rfl ?_
  refine q_iload_n hC 2 dL_own_2 rfl rfl ?_
  refine q_callV hC (c_X9_own (q_hD hC)) m_X9_own lk_L_62 dL_own_3 (c, ()) rfl rfl rfl rfl rfl (Nat.le_of_ble_eq_true rfl) (Nat.le_of_ble_eq_true rfl) ⟨⟨by decide, by decide⟩, by decide, by decide⟩ rfl (k' := (0, 0)) rfl hpre (fun v S' hp => ?_)
  obtain ⟨r9, rfl, rfl⟩ := hp
  show qV Γ _ _ 6 _ (.int _ :: _) _ _
  refine q_if_eq hC dL_own_6 (t := 13) (n := 9) (by decide) rfl (fun h6 => ?_) (fun h6 => ?_)
  · refine q_lconst hC dL_own_13 (v := 0) (by decide) rfl ?_
    refine q_lret hC dL_own_14 ⟨by decide, by decide⟩ ⟨_, rfl, ?_⟩
    exact rfl
  · refine q_lconst hC dL_own_9 (v := 1) (by decide) rfl ?_
    refine q_goto hC dL_own_10 (n := 14) (by decide) ?_
    refine q_lret hC dL_own_14 ⟨by decide, by decide⟩ ⟨_, rfl, ?_⟩
    exact rfl
abbrev rm_L_ownAbove : Room := { frames := 2, cells := 0, slots := 0, locals := 45 }
set_option maxHeartbeats 4000000 in
set_option maxRecDepth 100000 in
theorem cw_L_ownAbove {L : qL} (hD : q_D L.2.2.2.1) : qCW L yL_ownAbove cL_ownAbove 4 (some .long) hh_L_ownAbove rm_L_ownAbove (fun ad _ (x : Nat × Nat) => [.ref (ad 36 0), .int (nI x.1), .int (nI (65 + x.2))]) (fun x S => x.1 < 4 ∧ x.2 < 5 ∧ ¬ S 28 x.1 0 = 0 ∧ z_v5 (S 28 x.1 1)) (qPl (fun x S r S' => S' = q_up S 28 x.1 (upd (S 28 x.1) 1 (nI x.2)))) := by
  refine q_metW hD (by decide) (fun _ => Nat.le_of_ble_eq_true rfl) (fun Γ x S hΓ hpre hC hTb => ?_)
  subst hΓ
  obtain ⟨c, u⟩ := x
  show qV Γ _ _ 0 [(0, .ref (q_ad Γ 36 0)), (1, .int (nI c)), (2, .int (nI (65 + u)))] [] S (0, 0)
  refine q_aload_n hC 0 dL_ownAbove_0 rfl rfl ?_
  refine q_iload_n hC 1 dL_ownAbove_1 rfl rfl ?_
  refine q_iload_n hC 2 dL_ownAbove_2 rfl rfl ?_
  refine q_callV hC (c_X9_ownAbove (q_hD hC)) m_X9_ownAbove lk_L_68 dL_ownAbove_3 (c, u) rfl rfl rfl rfl rfl (Nat.le_of_ble_eq_true rfl) (Nat.le_of_ble_eq_true rfl) ⟨⟨by decide, by decide⟩, by decide, by decide⟩ rfl (k' := (0, 0)) rfl hpre (fun v S' hp => ?_)
  obtain ⟨r9, rfl, rfl⟩ := hp
  show qV Γ _ _ 6 _ (.int _ :: _) _ _
  refine q_i2l hC dL_ownAbove_6 rfl ?_
  refine q_lret hC dL_ownAbove_7 ⟨by decide, by decide⟩ ⟨_, rfl, ?_⟩
  exact rfl
abbrev rm_L_ownUnder : Room := { frames := 2, cells := 0, slots := 0, locals := 48 }
set_option maxHeartbeats 4000000 in
set_option maxRecDepth 100000 in
theorem cw_L_ownUnder {L : qL} (hD : q_D L.2.2.2.1) : qCW L yL_ownUnder cL_ownUnder 5 (some .long) hh_L_ownUnder rm_L_ownUnder (fun ad _ (x : Nat × Nat) => [.ref (ad 36 0), .int (nI x.1), .int (nI (65 + x.2)), .int 1]) (fun x S => x.1 < 4 ∧ x.2 < 5 ∧ ¬ S 28 x.1 0 = 0 ∧ S 28 x.1 2 = 0) (qPl (fun x S r S' => S' = q_up S 28 x.1 (upd (S 28 x.1) 2 (nI (2 ^ x.2))))) := by
  refine q_metW hD (by decide) (fun _ => Nat.le_of_ble_eq_true rfl) (fun Γ x S hΓ hpre hC hTb => ?_)
  subst hΓ
  obtain ⟨c, u⟩ := x
  show qV Γ _ _ 0 [(0, .ref (q_ad Γ 36 0)), (1, .int (nI c)), (2, .int (nI (65 + u))), (3, .int 1)] [] S (0, 0)
  refine q_aload_n hC 0 dL_ownUnder_0 rfl rfl ?_
  refine q_iload_n hC 1 dL_ownUnder_1 rfl rfl ?_
  refine q_iload_n hC 2 dL_ownUnder_2 rfl rfl ?_
  refine q_iload_n hC 3 dL_ownUnder_3 rfl rfl ?_
  refine q_callV hC (c_X9_ownUnder (q_hD hC)) m_X9_ownUnder lk_L_72 dL_ownUnder_4 (c, u) rfl rfl rfl rfl rfl (Nat.le_of_ble_eq_true rfl) (Nat.le_of_ble_eq_true rfl) ⟨⟨by decide, by decide⟩, by decide, by decide⟩ rfl (k' := (0, 0)) rfl hpre (fun v S' hp => ?_)
  obtain ⟨r9, rfl, rfl⟩ := hp
  show qV Γ _ _ 7 _ (.int _ :: _) _ _
  refine q_if_eq hC dL_ownUnder_7 (t := 14) (n := 10) (by decide) rfl (fun h7 => ?_) (fun h7 => ?_)
  · refine q_lconst hC dL_ownUnder_14 (v := 0) (by decide) rfl ?_
    refine q_lret hC dL_ownUnder_15 ⟨by decide, by decide⟩ ⟨_, rfl, ?_⟩
    exact rfl
  · refine q_lconst hC dL_ownUnder_10 (v := 1) (by decide) rfl ?_
    refine q_goto hC dL_ownUnder_11 (n := 15) (by decide) ?_
    refine q_lret hC dL_ownUnder_15 ⟨by decide, by decide⟩ ⟨_, rfl, ?_⟩
    exact rfl
abbrev rm_L_ownMethod : Room := { frames := 2, cells := 0, slots := 0, locals := 46 }
set_option maxHeartbeats 4000000 in
set_option maxRecDepth 100000 in
theorem cw_L_ownMethod {L : qL} (hD : q_D L.2.2.2.1) : qCW L yL_ownMethod cL_ownMethod 5 (some .long) hh_L_ownMethod rm_L_ownMethod (fun ad _ (x : Nat × Nat) => [.ref (ad 36 0), .int (nI x.1), .int (nI (97 + x.2)), .int 0]) (fun x S => x.1 < 4 ∧ x.2 < 3 ∧ ¬ S 28 x.1 0 = 0 ∧ z_v6 (S 28 x.1 3)) (qPl (fun x S r S' => S' = q_up S 28 x.1 (upd (S 28 x.1) 3 (nI (x.2 * 2 + 0))))) := by
  refine q_metW hD (by decide) (fun _ => Nat.le_of_ble_eq_true rfl) (fun Γ x S hΓ hpre hC hTb => ?_)
  subst hΓ
  obtain ⟨c, a⟩ := x
  show qV Γ _ _ 0 [(0, .ref (q_ad Γ 36 0)), (1, .int (nI c)), (2, .int (nI (97 + a))), (3, .int 0)] [] S (0, 0)
  refine q_aload_n hC 0 dL_ownMethod_0 rfl rfl ?_
  refine q_iload_n hC 1 dL_ownMethod_1 rfl rfl ?_
  refine q_iload_n hC 2 dL_ownMethod_2 rfl rfl ?_
  refine q_iload_n hC 3 dL_ownMethod_3 rfl rfl ?_
  refine q_callV hC (c_X9_ownMethod (q_hD hC)) m_X9_ownMethod lk_L_80 dL_ownMethod_4 (c, a) rfl rfl rfl rfl rfl (Nat.le_of_ble_eq_true rfl) (Nat.le_of_ble_eq_true rfl) ⟨⟨by decide, by decide⟩, by decide, by decide⟩ rfl (k' := (0, 0)) rfl hpre (fun v S' hp => ?_)
  obtain ⟨r9, rfl, rfl⟩ := hp
  show qV Γ _ _ 7 _ (.int _ :: _) _ _
  refine q_i2l hC dL_ownMethod_7 rfl ?_
  refine q_lret hC dL_ownMethod_8 ⟨by decide, by decide⟩ ⟨_, rfl, ?_⟩
  exact rfl
abbrev rm_L_run : Room := { frames := 7, cells := 0, slots := 0, locals := 155 }
set_option maxHeartbeats 4000000 in
set_option maxRecDepth 100000 in
theorem cw_L_run {L : qL} (hD : q_D L.2.2.2.1) : qCW L yL_run cL_run 4 (some .long) hh_L_run rm_L_run (fun ad _ (x : Nat × Nat × Nat) => [.ref (ad 36 0), .int (nI x.1), .int (nI x.2.1)]) (fun x S => x.1 < 4 ∧ x.2.1 < 4 ∧ z_rdy S x.2.1 ∧ z_wf S x.2.1 ∧ z_own S x.1 ∧ x.2.2 ≤ 8 ∧ z_acts S x.1 x.2.2) (qPl (fun x S r S' => r = (S' 33 0 1).toInt64 ∧ S' = z_folIt 0 x.1 x.2.1 x.2.2 0 (z_f0 0 x.1 x.2.1 S))) := by
  refine q_metW hD (by decide) (fun _ => Nat.le_of_ble_eq_true rfl) (fun Γ x S hΓ hpre hC hTb => ?_)
  subst hΓ
  obtain ⟨c, i, N⟩ := x
  show qV Γ _ _ 0 [(0, .ref (q_ad Γ 36 0)), (1, .int (nI c)), (2, .int (nI i))] [] S (0, 0)
  refine q_aload_n hC 0 dL_run_0 rfl rfl ?_
  refine q_iload_n hC 1 dL_run_1 rfl rfl ?_
  refine q_iload_n hC 2 dL_run_2 rfl rfl ?_
  refine q_callV hC (c_X9_run (q_hD hC)) m_X9_run lk_L_88 dL_run_3 (c, i, N) rfl rfl rfl rfl rfl (Nat.le_of_ble_eq_true rfl) (Nat.le_of_ble_eq_true rfl) ⟨⟨by decide, by decide⟩, by decide, by decide⟩ rfl (k' := (0, 0)) rfl hpre (fun v S' hp => ?_)
  obtain ⟨r9, rfl, h1, h2⟩ := hp
  show qV Γ _ _ 6 _ (.int _ :: _) _ _
  refine q_i2l hC dL_run_6 rfl ?_
  refine q_lret hC dL_run_7 ⟨by decide, by decide⟩ ⟨_, rfl, ?_⟩
  exact ⟨by rw [show r9 = S' 33 0 1 from h1], h2⟩
abbrev rm_L_fault : Room := { frames := 2, cells := 0, slots := 0, locals := 40 }
set_option maxHeartbeats 4000000 in
set_option maxRecDepth 100000 in
theorem cw_L_fault {L : qL} (hD : q_D L.2.2.2.1) : qCW L yL_fault cL_fault 2 (some .long) hh_L_fault rm_L_fault (fun ad _ (x : Unit) => [.ref (ad 36 0)]) (fun x S => ¬ S 33 0 0 = 0 ∧ narrow .char (.int (S 33 0 2)) = .int (S 33 0 2)) (qPl (fun x S r S' => r = (S 33 0 2).toInt64 ∧ S = S')) := by
  refine q_metW hD (by decide) (fun _ => Nat.le_of_ble_eq_true rfl) (fun Γ x S hΓ hpre hC hTb => ?_)
  subst hΓ
  show qV Γ _ _ 0 [(0, .ref (q_ad Γ 36 0))] [] S (0, 0)
  refine q_aload_n hC 0 dL_fault_0 rfl rfl ?_
  refine q_callV hC (c_X9_fault (q_hD hC)) m_X9_fault lk_L_91 dL_fault_1 () rfl rfl rfl rfl rfl (Nat.le_of_ble_eq_true rfl) (Nat.le_of_ble_eq_true rfl) ⟨⟨by decide, by decide⟩, by decide, by decide⟩ rfl (k' := (0, 0)) rfl hpre (fun v S' hp => ?_)
  obtain ⟨r9, rfl, h1, rfl⟩ := hp
  show qV Γ _ _ 4 _ (.int _ :: _) _ _
  refine q_i2l hC dL_fault_4 rfl ?_
  refine q_lret hC dL_fault_5 ⟨by decide, by decide⟩ ⟨_, rfl, ?_⟩
  exact ⟨by rw [show r9 = S 33 0 2 from h1], rfl⟩
abbrev rm_L_fits : Room := { frames := 7, cells := 0, slots := 0, locals := 168 }
set_option maxHeartbeats 4000000 in
set_option maxRecDepth 100000 in
theorem cw_L_fits {L : qL} (hD : q_D L.2.2.2.1) : qCW L yL_fits cL_fits 4 (some .long) hh_L_fits rm_L_fits (fun ad _ (x : Nat × Nat × Unit) => [.ref (ad 36 0), .int (nI x.1), .int (nI x.2.1)]) (fun x S => x.1 < 4 ∧ x.2.1 < 4 ∧ z_rdy S x.1 ∧ z_rdy S x.2.1 ∧ z_wf S x.1 ∧ z_wf S x.2.1) (qPl (fun x S r S' => ∃ r9, z_findP (z_set35 x.1 x.2.1 S) x.1 x.2.1 r9 S' ∧ r = if r9 = 0 then 1 else 0)) := by
  refine q_metW hD (by decide) (fun _ => Nat.le_of_ble_eq_true rfl) (fun Γ x S hΓ hpre hC hTb => ?_)
  subst hΓ
  obtain ⟨a, b, u⟩ := x
  show qV Γ _ _ 0 [(0, .ref (q_ad Γ 36 0)), (1, .int (nI a)), (2, .int (nI b))] [] S (0, 0)
  refine q_aload_n hC 0 dL_fits_0 rfl rfl ?_
  refine q_iload_n hC 1 dL_fits_1 rfl rfl ?_
  refine q_iload_n hC 2 dL_fits_2 rfl rfl ?_
  refine q_callV hC (c_X9_fits (q_hD hC)) m_X9_fits lk_L_95 dL_fits_3 (a, b, ()) rfl rfl rfl rfl rfl (Nat.le_of_ble_eq_true rfl) (Nat.le_of_ble_eq_true rfl) ⟨⟨by decide, by decide⟩, by decide, by decide⟩ rfl (k' := (0, 0)) rfl hpre (fun v S' hp => ?_)
  obtain ⟨rr, rfl, r9, h1, h2⟩ := hp
  have h2 : rr = if r9 = 0 then 1 else 0 := h2
  show qV Γ _ _ 6 _ (.int _ :: _) _ _
  refine q_if_eq hC dL_fits_6 (t := 13) (n := 9) (by decide) rfl (fun h6 => ?_) (fun h6 => ?_)
  · refine q_lconst hC dL_fits_13 (v := 0) (by decide) rfl ?_
    refine q_lret hC dL_fits_14 ⟨by decide, by decide⟩ ⟨_, rfl, ?_⟩
    refine ⟨r9, h1, ?_⟩
    by_cases e : r9 = 0
    · rw [if_pos e] at h2
      first
        | exact (if_pos e).symm
        | exact absurd (h2.symm.trans h6) (by decide)
    · rw [if_neg e] at h2
      first
        | exact (if_neg e).symm
        | exact absurd h2 h6
  · refine q_lconst hC dL_fits_9 (v := 1) (by decide) rfl ?_
    refine q_goto hC dL_fits_10 (n := 14) (by decide) ?_
    refine q_lret hC dL_fits_14 ⟨by decide, by decide⟩ ⟨_, rfl, ?_⟩
    refine ⟨r9, h1, ?_⟩
    by_cases e : r9 = 0
    · rw [if_pos e] at h2
      first
        | exact (if_pos e).symm
        | exact absurd (h2.symm.trans h6) (by decide)
    · rw [if_neg e] at h2
      first
        | exact (if_neg e).symm
        | exact absurd h2 h6
abbrev rm_L_isSound : Room := { frames := 8, cells := 0, slots := 0, locals := 189 }
set_option maxHeartbeats 4000000 in
set_option maxRecDepth 100000 in
theorem c_L_isSound {L : qL} (hD : q_D L.2.2.2.1) : qCT L yL_isSound cL_isSound 1 (some .long) rm_L_isSound (fun ad _ (x : Unit) => [.ref (ad 36 0)]) (fun _ S => ∃ B, z_sH B S 0 ∧ S 36 0 8 = 0) (qPl (fun _ S r S' => r = 1)) := by
  refine q_met hD (by decide) (fun _ => Nat.le_of_ble_eq_true rfl) (fun Γ x S hΓ hpre hC => ?_)
  subst hΓ
  show qV Γ _ _ 0 [(0, .ref (q_ad Γ 36 0))] [] S (0, 0)
  refine q_aload_n hC 0 dL_isSound_0 rfl rfl ?_
  refine q_callV hC (c_X9_isSound (q_hD hC)) m_X9_isSound lk_L_109 dL_isSound_1 () rfl rfl rfl rfl rfl (Nat.le_of_ble_eq_true rfl) (Nat.le_of_ble_eq_true rfl) ⟨⟨by decide, by decide⟩, by decide, by decide⟩ rfl (k' := (0, 0)) rfl hpre (fun v S' hp => ?_)
  obtain ⟨r9, rfl, h1⟩ := hp
  have h1 : r9 = 1 := h1
  subst h1
  show qV Γ _ _ 4 _ (.int _ :: _) _ _
  refine q_if_eq hC dL_isSound_4 (t := 11) (n := 7) (by decide) rfl (fun h4 => absurd h4 z_1n0) (fun h4 => ?_)
  refine q_lconst hC dL_isSound_7 (v := 1) (by decide) rfl ?_
  refine q_goto hC dL_isSound_8 (n := 12) (by decide) ?_
  refine q_lret hC dL_isSound_12 ⟨by decide, by decide⟩ ⟨_, rfl, ?_⟩
  rfl
