-- printed by wip/p36/gen_m2.py
theorem z_m65 : ∀ t, t < 5 → (nI (65 + t) - 65 : Int32) = nI t := by decide +kernel
theorem z_isT : ∀ t, t < 5 → z_isType (nI (65 + t)) = 1 := by decide +kernel
theorem z_isT0 : z_isType 45 = 0 := by decide
theorem z_isM : ∀ a, a < 3 → ∀ b, b < 2 → z_isMember (nI (97 + a)) (nI b) = 1 := by decide +kernel
theorem z_isM0 : ∀ b, b < 2 → z_isMember 45 (nI b) = 0 := by decide +kernel
theorem z_miv : ∀ a, a < 3 → ∀ b, b < 2 → z_mi (nI (97 + a)) (nI b) = nI (a * 2 + b) := by decide +kernel
theorem z_isS {x : Int32} (h : z_sg4 x) : z_isSight x = 1 := by
  rcases h with rfl | rfl | rfl | rfl <;> decide
theorem z_isS0 : z_isSight 45 = 0 := by decide
theorem z_let_all : ∀ t, t < 5 → (((65 : Int32) + nI t).toUInt32 % 65536).toInt32 = nI (65 + t) ∧ narrow .char (.int (nI (65 + t))) = .int (nI (65 + t)) := by decide +kernel
theorem z_nam_all : ∀ m, m < 6 → narrow .char (.int (((97 + nI m / 2).toUInt32 % 65536).toInt32)) = .int (((97 + nI m / 2).toUInt32 % 65536).toInt32) := by decide +kernel
abbrev rm_X9_needPlace : Room := { frames := 0, cells := 0, slots := 0, locals := 0 }
set_option maxHeartbeats 4000000 in
set_option maxRecDepth 100000 in
theorem c_X9_needPlace {L : qL} (hD : q_D L.2.2.2.1) : qCT L yX9_needPlace cX9_needPlace 2 none rm_X9_needPlace (fun _ _ (x : Nat × Nat) => [.int (nI x.1), .int (nI x.2)]) (fun x _ => x.1 < x.2 ∧ x.2 < 2 ^ 31) (qPv (fun x S S' => S = S')) := by
  refine q_met hD (by decide) (fun _ => Nat.le_of_ble_eq_true rfl) (fun Γ x S hΓ hpre hC => ?_)
  subst hΓ
  obtain ⟨a, b⟩ := x
  obtain ⟨hab, hb⟩ := hpre
  have hab : a < b := hab
  have hb : b < 2 ^ 31 := hb
  show qV Γ _ _ 0 [(0, .int (nI a)), (1, .int (nI b))] [] S (0, 0)
  refine q_iload_n hC 0 dX9_needPlace_0 rfl rfl ?_
  refine q_if_lt hC dX9_needPlace_1 (t := 9) (n := 4) (by decide) rfl (fun h1 => absurd h1 (nI_pos (by omega))) (fun h1 => ?_)
  refine q_iload_n hC 0 dX9_needPlace_4 rfl rfl ?_
  refine q_iload_n hC 1 dX9_needPlace_5 rfl rfl ?_
  refine q_icmp_lt hC dX9_needPlace_6 (t := 17) (n := 9) (by decide) rfl (fun h6 => ?_) (fun h6 => absurd (nI_lt hab hb) h6)
  refine q_vret hC dX9_needPlace_17 ⟨by decide, by decide⟩ ⟨rfl, ?_⟩
  rfl
abbrev rm_X9_needRange : Room := { frames := 0, cells := 0, slots := 0, locals := 0 }
set_option maxHeartbeats 4000000 in
set_option maxRecDepth 100000 in
theorem c_X9_needRange {L : qL} (hD : q_D L.2.2.2.1) : qCT L yX9_needRange cX9_needRange 1 none rm_X9_needRange (fun _ _ (x : Int32) => [.int x]) (fun x _ => ¬ x = 0) (qPv (fun x S S' => S = S')) := by
  refine q_met hD (by decide) (fun _ => Nat.le_of_ble_eq_true rfl) (fun Γ x S hΓ hpre hC => ?_)
  subst hΓ
  have hb : ¬ x = 0 := hpre
  show qV Γ _ _ 0 [(0, .int x)] [] S (0, 0)
  refine q_iload_n hC 0 dX9_needRange_0 rfl rfl ?_
  refine q_if_ne hC dX9_needRange_1 (t := 12) (n := 4) (by decide) rfl (fun h1 => ?_) (fun h1 => absurd h1 hb)
  refine q_vret hC dX9_needRange_12 ⟨by decide, by decide⟩ ⟨rfl, ?_⟩
  rfl
abbrev rm_X9_needElement : Room := { frames := 0, cells := 0, slots := 0, locals := 0 }
set_option maxHeartbeats 4000000 in
set_option maxRecDepth 100000 in
theorem c_X9_needElement {L : qL} (hD : q_D L.2.2.2.1) : qCT L yX9_needElement cX9_needElement 1 none rm_X9_needElement (fun _ _ (x : Int32) => [.int x]) (fun x _ => ¬ x = 0) (qPv (fun x S S' => S = S')) := by
  refine q_met hD (by decide) (fun _ => Nat.le_of_ble_eq_true rfl) (fun Γ x S hΓ hpre hC => ?_)
  subst hΓ
  have hb : ¬ x = 0 := hpre
  show qV Γ _ _ 0 [(0, .int x)] [] S (0, 0)
  refine q_iload_n hC 0 dX9_needElement_0 rfl rfl ?_
  refine q_if_ne hC dX9_needElement_1 (t := 12) (n := 4) (by decide) rfl (fun h1 => ?_) (fun h1 => absurd h1 hb)
  refine q_vret hC dX9_needElement_12 ⟨by decide, by decide⟩ ⟨rfl, ?_⟩
  rfl
abbrev rm_X9_needSupport : Room := { frames := 0, cells := 0, slots := 0, locals := 0 }
set_option maxHeartbeats 4000000 in
set_option maxRecDepth 100000 in
theorem c_X9_needSupport {L : qL} (hD : q_D L.2.2.2.1) : qCT L yX9_needSupport cX9_needSupport 1 none rm_X9_needSupport (fun _ _ (x : Int32) => [.int x]) (fun x _ => ¬ x = 0) (qPv (fun x S S' => S = S')) := by
  refine q_met hD (by decide) (fun _ => Nat.le_of_ble_eq_true rfl) (fun Γ x S hΓ hpre hC => ?_)
  subst hΓ
  have hb : ¬ x = 0 := hpre
  show qV Γ _ _ 0 [(0, .int x)] [] S (0, 0)
  refine q_iload_n hC 0 dX9_needSupport_0 rfl rfl ?_
  refine q_if_ne hC dX9_needSupport_1 (t := 12) (n := 4) (by decide) rfl (fun h1 => ?_) (fun h1 => absurd h1 hb)
  refine q_vret hC dX9_needSupport_12 ⟨by decide, by decide⟩ ⟨rfl, ?_⟩
  rfl
abbrev rm_X9_needState : Room := { frames := 0, cells := 0, slots := 0, locals := 0 }
set_option maxHeartbeats 4000000 in
set_option maxRecDepth 100000 in
theorem c_X9_needState {L : qL} (hD : q_D L.2.2.2.1) : qCT L yX9_needState cX9_needState 1 none rm_X9_needState (fun _ _ (x : Int32) => [.int x]) (fun x _ => ¬ x = 0) (qPv (fun x S S' => S = S')) := by
  refine q_met hD (by decide) (fun _ => Nat.le_of_ble_eq_true rfl) (fun Γ x S hΓ hpre hC => ?_)
  subst hΓ
  have hb : ¬ x = 0 := hpre
  show qV Γ _ _ 0 [(0, .int x)] [] S (0, 0)
  refine q_iload_n hC 0 dX9_needState_0 rfl rfl ?_
  refine q_if_ne hC dX9_needState_1 (t := 12) (n := 4) (by decide) rfl (fun h1 => ?_) (fun h1 => absurd h1 hb)
  refine q_vret hC dX9_needState_12 ⟨by decide, by decide⟩ ⟨rfl, ?_⟩
  rfl
abbrev rmx_X9_needElement : Room := { frames := 6, cells := 1, slots := 6, locals := 90 }
set_option maxHeartbeats 4000000 in
set_option maxRecDepth 100000 in
theorem x_X9_needElement {L : qL} (hD : q_D L.2.2.2.1) (hl : L.1.stackTraces = false) : qCX L yX9_needElement cX9_needElement 1 none rmx_X9_needElement (fun _ _ (_ : Unit) => [.int 0]) (fun _ _ => True) q_nsee (fun _ S S' => S' = S) := by
  refine q_metX hD (by decide) (fun _ => Nat.le_of_ble_eq_true rfl) (fun Γ x S hΓ hpre hC hX => ?_)
  subst hΓ
  show qV Γ _ _ 0 [(0, .int 0)] [] S (0, 0)
  refine q_iload_n hC 0 dX9_needElement_0 rfl rfl ?_
  refine q_if_ne hC dX9_needElement_1 (t := 12) (n := 4) (by decide) rfl (fun h => absurd h (by decide)) (fun _ => ?_)
  exact q_throw0 (ik := 310) (ic := 312) hC hX hl (by decide +kernel) ck_nsee ini_nsee at0_nsee ins_nsee dX9_needElement_4 dX9_needElement_7 dX9_needElement_8 dX9_needElement_11 (by decide) (by decide) (by decide) (by decide) rfl
abbrev rmx_X9_needRange : Room := { frames := 6, cells := 1, slots := 6, locals := 90 }
set_option maxHeartbeats 4000000 in
set_option maxRecDepth 100000 in
theorem x_X9_needRange {L : qL} (hD : q_D L.2.2.2.1) (hl : L.1.stackTraces = false) : qCX L yX9_needRange cX9_needRange 1 none rmx_X9_needRange (fun _ _ (_ : Unit) => [.int 0]) (fun _ _ => True) q_iae (fun _ S S' => S' = S) := by
  refine q_metX hD (by decide) (fun _ => Nat.le_of_ble_eq_true rfl) (fun Γ x S hΓ hpre hC hX => ?_)
  subst hΓ
  show qV Γ _ _ 0 [(0, .int 0)] [] S (0, 0)
  refine q_iload_n hC 0 dX9_needRange_0 rfl rfl ?_
  refine q_if_ne hC dX9_needRange_1 (t := 12) (n := 4) (by decide) rfl (fun h => absurd h (by decide)) (fun _ => ?_)
  exact q_throw0 (ik := 307) (ic := 309) hC hX hl (by decide +kernel) ck_iae ini_iae at0_iae ins_iae dX9_needRange_4 dX9_needRange_7 dX9_needRange_8 dX9_needRange_11 (by decide) (by decide) (by decide) (by decide) rfl
abbrev rm_X9_needThere : Room := { frames := 1, cells := 0, slots := 0, locals := 20 }
set_option maxHeartbeats 4000000 in
set_option maxRecDepth 100000 in
theorem c_X9_needThere {L : qL} (hD : q_D L.2.2.2.1) : qCT L yX9_needThere cX9_needThere 2 none rm_X9_needThere (fun ad _ (x : Nat × Nat) => [.ref (ad 0 x.1), .int (nI (65 + x.2))]) (fun x S => x.1 < 4 ∧ x.2 < 5 ∧ ¬ S 2 x.1 x.2 = 45) (qPv (fun x S S' => S = S')) := by
  refine q_met hD (by decide) (fun _ => Nat.le_of_ble_eq_true rfl) (fun Γ x S hΓ hpre hC => ?_)
  subst hΓ
  obtain ⟨i, t⟩ := x
  obtain ⟨hi, ht, hk⟩ := hpre
  have hi : i < 4 := hi
  have ht : t < 5 := ht
  have e65 := z_m65 t ht
  have ec : (nI t).toNatClampNeg = t := nI_clamp (by omega)
  have vi : vp_in (nI t) 5 := vp_in_nI ht (by decide)
  have hk : ¬ S 2 i t = 45 := hk
  show qV Γ _ _ 0 [(0, .ref (q_ad Γ 0 i)), (1, .int (nI (65 + t)))] [] S (0, 0)
  refine q_aload_n hC 0 dX9_needThere_0 rfl rfl ?_
  refine q_get_f hC f_X9_66 dX9_needThere_1 rfl rfl hi rfl ?_
  refine q_get_f hC f_X9_70 dX9_needThere_4 rfl rfl hi rfl ?_
  refine q_iload_n hC 1 dX9_needThere_7 rfl rfl ?_
  refine q_bipush hC dX9_needThere_8 (v := 65) (by decide) rfl ?_
  refine q_isub hC dX9_needThere_10 rfl ?_
  rw [e65]
  refine q_cald hC dX9_needThere_11 rfl hi vi rfl ?_
  refine q_bipush hC dX9_needThere_12 (v := 45) (by decide) rfl ?_
  refine q_icmp_eq hC dX9_needThere_14 (t := 21) (n := 17) (by decide) rfl (fun h14 => absurd h14 (by rw [ec]; exact hk)) (fun h14 => ?_)
  refine q_iconst hC dX9_needThere_17 (v := 1) (by decide) rfl ?_
  refine q_goto hC dX9_needThere_18 (n := 22) (by decide) ?_
  refine q_callS hC (c_X9_needElement (q_hD hC)) m_X9_needElement lk_X9_227 dX9_needThere_22 _ rfl rfl (Nat.le_of_ble_eq_true rfl) ⟨⟨by decide, by decide⟩, by decide, by decide⟩ rfl (k' := (0, 0)) rfl (by decide) (fun v S' hp => ?_)
  obtain ⟨rfl, rfl⟩ := hp
  show qV Γ _ _ 25 _ _ _ _
  refine q_vret hC dX9_needThere_25 ⟨by decide, by decide⟩ ⟨rfl, ?_⟩
  rfl
abbrev rmx_X9_needThere : Room := { frames := 7, cells := 1, slots := 6, locals := 110 }
set_option maxHeartbeats 4000000 in
set_option maxRecDepth 100000 in
theorem x_X9_needThere {L : qL} (hD : q_D L.2.2.2.1) (hl : L.1.stackTraces = false) : qCX L yX9_needThere cX9_needThere 2 none rmx_X9_needThere (fun ad _ (x : Nat × Nat) => [.ref (ad 0 x.1), .int (nI (65 + x.2))]) (fun x S => x.1 < 4 ∧ x.2 < 5 ∧ S 2 x.1 x.2 = 45) q_nsee (fun _ S S' => S' = S) := by
  refine q_metX hD (by decide) (fun _ => Nat.le_of_ble_eq_true rfl) (fun Γ x S hΓ hpre hC hX => ?_)
  subst hΓ
  obtain ⟨i, t⟩ := x
  obtain ⟨hi, ht, hk⟩ := hpre
  have hi : i < 4 := hi
  have ht : t < 5 := ht
  have e65 := z_m65 t ht
  have ec : (nI t).toNatClampNeg = t := nI_clamp (by omega)
  have vi : vp_in (nI t) 5 := vp_in_nI ht (by decide)
  have hk : S 2 i t = 45 := hk
  show qV Γ _ _ 0 [(0, .ref (q_ad Γ 0 i)), (1, .int (nI (65 + t)))] [] S (0, 0)
  refine q_aload_n hC 0 dX9_needThere_0 rfl rfl ?_
  refine q_get_f hC f_X9_66 dX9_needThere_1 rfl rfl hi rfl ?_
  refine q_get_f hC f_X9_70 dX9_needThere_4 rfl rfl hi rfl ?_
  refine q_iload_n hC 1 dX9_needThere_7 rfl rfl ?_
  refine q_bipush hC dX9_needThere_8 (v := 65) (by decide) rfl ?_
  refine q_isub hC dX9_needThere_10 rfl ?_
  rw [e65]
  refine q_cald hC dX9_needThere_11 rfl hi vi rfl ?_
  refine q_bipush hC dX9_needThere_12 (v := 45) (by decide) rfl ?_
  refine q_icmp_eq hC dX9_needThere_14 (t := 21) (n := 17) (by decide) rfl (fun h14 => ?_) (fun h14 => absurd (by rw [ec]; exact hk) h14)
  refine q_iconst hC dX9_needThere_21 (v := 0) (by decide) rfl ?_
  exact q_xS hC hX (x_X9_needElement (q_hD hC) hl) m_X9_needElement lk_X9_227 dX9_needThere_22 () rfl rfl (Nat.le_of_ble_eq_true rfl) ⟨⟨by decide, by decide⟩, by decide, by decide⟩ trivial (fun _ h => h)
abbrev rm_X9_memberPlace : Room := { frames := 1, cells := 0, slots := 0, locals := 21 }
set_option maxHeartbeats 4000000 in
set_option maxRecDepth 100000 in
theorem c_X9_memberPlace {L : qL} (hD : q_D L.2.2.2.1) : qCT L yX9_memberPlace cX9_memberPlace 3 (some .int) rm_X9_memberPlace (fun _ _ (x : Nat × Nat × Nat) => [.int (nI (65 + x.1)), .int (nI (97 + x.2.1)), .int (nI x.2.2)]) (fun x _ => x.1 < 5 ∧ x.2.1 < 3 ∧ x.2.2 < 2) (qPi (fun x S r S' => r = nI (x.1 * 6 + x.2.1 * 2 + x.2.2) ∧ S = S')) := by
  refine q_met hD (by decide) (fun _ => Nat.le_of_ble_eq_true rfl) (fun Γ x S hΓ hpre hC => ?_)
  subst hΓ
  obtain ⟨t, a, b⟩ := x
  obtain ⟨ht, ha, hb⟩ := hpre
  have ht : t < 5 := ht
  have ha : a < 3 := ha
  have hb : b < 2 := hb
  have e65 := z_m65 t ht
  show qV Γ _ _ 0 [(0, .int (nI (65 + t))), (1, .int (nI (97 + a))), (2, .int (nI b))] [] S (0, 0)
  refine q_iload_n hC 0 dX9_memberPlace_0 rfl rfl ?_
  refine q_bipush hC dX9_memberPlace_1 (v := 65) (by decide) rfl ?_
  refine q_isub hC dX9_memberPlace_3 rfl ?_
  rw [e65]
  refine q_bipush hC dX9_memberPlace_4 (v := 6) (by decide) rfl ?_
  refine q_imul hC dX9_memberPlace_6 rfl ?_
  refine q_iload_n hC 1 dX9_memberPlace_7 rfl rfl ?_
  refine q_iload_n hC 2 dX9_memberPlace_8 rfl rfl ?_
  refine q_callS hC (c_X9_memberIndex (q_hD hC)) m_X9_memberIndex lk_X9_199 dX9_memberPlace_9 (nI (97 + a), nI b) rfl rfl (Nat.le_of_ble_eq_true rfl) ⟨⟨by decide, by decide⟩, by decide, by decide⟩ rfl (k' := (0, 0)) rfl trivial (fun v S' hp => ?_)
  obtain ⟨r9_1, rfl, rfl, rfl⟩ := hp
  show qV Γ _ _ 12 _ (.int _ :: _) _ _
  refine q_iadd hC dX9_memberPlace_12 rfl ?_
  refine q_iret hC dX9_memberPlace_13 rfl ⟨by decide, by decide⟩ ⟨_, rfl, ?_⟩
  exact ⟨by show nI t * 6 + z_mi (nI (97 + a)) (nI b) = _; rw [z_miv a ha b hb, z_row6]; congr 1; show t * 6 + (a * 2 + b) = t * 6 + a * 2 + b; omega, rfl⟩
abbrev rm_X9_letter : Room := { frames := 0, cells := 0, slots := 0, locals := 0 }
set_option maxHeartbeats 4000000 in
set_option maxRecDepth 100000 in
theorem c_X9_letter {L : qL} (hD : q_D L.2.2.2.1) : qCT L yX9_letter cX9_letter 1 (some .char) rm_X9_letter (fun _ _ (x : Int32) => [.int x]) (fun x _ => z_v5 x) (qPi (fun x S r S' => narrow .char (.int r) = .int r ∧ S = S')) := by
  refine q_met hD (by decide) (fun _ => Nat.le_of_ble_eq_true rfl) (fun Γ x S hΓ hpre hC => ?_)
  subst hΓ
  have hx : z_v5 x := hpre
  show qV Γ _ _ 0 [(0, .int x)] [] S (0, 0)
  refine q_iload_n hC 0 dX9_letter_0 rfl rfl ?_
  refine q_iconst hC dX9_letter_1 (v := (-1)) (by decide) rfl ?_
  refine q_icmp_ne hC dX9_letter_2 (t := 10) (n := 5) (by decide) rfl (fun h2 => ?_) (fun h2 => ?_)
  · refine q_iload_n hC 0 dX9_letter_10 rfl rfl ?_
    refine q_iconst hC dX9_letter_11 (v := 5) (by decide) rfl ?_
    refine q_icmp_ne hC dX9_letter_12 (t := 20) (n := 15) (by decide) rfl (fun h12 => ?_) (fun h12 => ?_)
    · obtain ⟨t, ht, rfl⟩ := z_v5n hx h2
      refine q_bipush hC dX9_letter_20 (v := 65) (by decide) rfl ?_
      refine q_iload_n hC 0 dX9_letter_22 rfl rfl ?_
      refine q_iadd hC dX9_letter_23 rfl ?_
      refine q_i2c hC dX9_letter_24 rfl ?_
      refine q_iret hC dX9_letter_25 (by first | rfl | (rw [(z_let_all t ht).1]; exact (z_let_all t ht).2)) ⟨by decide, by decide⟩ ⟨_, rfl, ?_⟩
      exact ⟨by first | rfl | (rw [(z_let_all t ht).1]; exact (z_let_all t ht).2), rfl⟩
    · refine q_bipush hC dX9_letter_15 (v := 88) (by decide) rfl ?_
      refine q_goto hC dX9_letter_17 (n := 25) (by decide) ?_
      refine q_iret hC dX9_letter_25 (by first | rfl | (rw [(z_let_all t ht).1]; exact (z_let_all t ht).2)) ⟨by decide, by decide⟩ ⟨_, rfl, ?_⟩
      exact ⟨by first | rfl | (rw [(z_let_all t ht).1]; exact (z_let_all t ht).2), rfl⟩
  · refine q_bipush hC dX9_letter_5 (v := 45) (by decide) rfl ?_
    refine q_goto hC dX9_letter_7 (n := 25) (by decide) ?_
    refine q_iret hC dX9_letter_25 (by first | rfl | (rw [(z_let_all t ht).1]; exact (z_let_all t ht).2)) ⟨by decide, by decide⟩ ⟨_, rfl, ?_⟩
    exact ⟨by first | rfl | (rw [(z_let_all t ht).1]; exact (z_let_all t ht).2), rfl⟩
abbrev rm_X9_nameOf : Room := { frames := 0, cells := 0, slots := 0, locals := 0 }
set_option maxHeartbeats 4000000 in
set_option maxRecDepth 100000 in
theorem c_X9_nameOf {L : qL} (hD : q_D L.2.2.2.1) : qCT L yX9_nameOf cX9_nameOf 1 (some .char) rm_X9_nameOf (fun _ _ (x : Int32) => [.int x]) (fun x _ => z_v6 x) (qPi (fun x S r S' => narrow .char (.int r) = .int r ∧ S = S')) := by
  refine q_met hD (by decide) (fun _ => Nat.le_of_ble_eq_true rfl) (fun Γ x S hΓ hpre hC => ?_)
  subst hΓ
  have hx : z_v6 x := hpre
  show qV Γ _ _ 0 [(0, .int x)] [] S (0, 0)
  refine q_iload_n hC 0 dX9_nameOf_0 rfl rfl ?_
  refine q_iconst hC dX9_nameOf_1 (v := (-1)) (by decide) rfl ?_
  refine q_icmp_ne hC dX9_nameOf_2 (t := 10) (n := 5) (by decide) rfl (fun h2 => ?_) (fun h2 => ?_)
  · obtain ⟨t, ht, rfl⟩ : z_lt x 6 := hx.elim (fun z => absurd z h2) id
    refine q_bipush hC dX9_nameOf_10 (v := 97) (by decide) rfl ?_
    refine q_iload_n hC 0 dX9_nameOf_12 rfl rfl ?_
    refine q_iconst hC dX9_nameOf_13 (v := 2) (by decide) rfl ?_
    refine q_idiv hC dX9_nameOf_14 (by decide) rfl ?_
    refine q_iadd hC dX9_nameOf_15 rfl ?_
    refine q_i2c hC dX9_nameOf_16 rfl ?_
    refine q_iret hC dX9_nameOf_17 (by first | rfl | exact z_nam_all t ht) ⟨by decide, by decide⟩ ⟨_, rfl, ?_⟩
    exact ⟨by first | rfl | exact z_nam_all t ht, rfl⟩
  · refine q_bipush hC dX9_nameOf_5 (v := 45) (by decide) rfl ?_
    refine q_goto hC dX9_nameOf_7 (n := 17) (by decide) ?_
    refine q_iret hC dX9_nameOf_17 (by first | rfl | exact z_nam_all t ht) ⟨by decide, by decide⟩ ⟨_, rfl, ?_⟩
    exact ⟨by first | rfl | exact z_nam_all t ht, rfl⟩
abbrev rm_X9_kindIndex : Room := { frames := 0, cells := 0, slots := 0, locals := 0 }
set_option maxHeartbeats 4000000 in
set_option maxRecDepth 100000 in
theorem c_X9_kindIndex {L : qL} (hD : q_D L.2.2.2.1) : qCT L yX9_kindIndex cX9_kindIndex 2 (some .int) rm_X9_kindIndex (fun _ _ (x : Int32) => [.int x]) (fun _ _ => True) (qPi (fun x S r S' => (r = -1 ∨ z_lt r 9) ∧ S = S')) := by
  refine q_met hD (by decide) (fun _ => Nat.le_of_ble_eq_true rfl) (fun Γ x S hΓ hpre hC => ?_)
  subst hΓ
  have L1 : ∀ (n m : Nat), m + n = 9 → qV Γ rm_X9_kindIndex 2 2 [(0, .int x), (1, .int (nI m))] [] S (0, 0) := by
    intro n
    induction n with
    | zero =>
      intro m hmn
      obtain rfl : m = 9 := by omega
      refine q_iload_n hC 1 dX9_kindIndex_2 rfl rfl ?_
      refine q_getsK hC fs_X9_325 dX9_kindIndex_3 rfl ?_
      refine q_klen hC dX9_kindIndex_6 rfl ?_
      refine q_icmp_ge hC dX9_kindIndex_7 (t := 27) (n := 10) (by decide) rfl (fun h7 => ?_) (fun h7 => absurd (by decide) h7)
      refine q_iconst hC dX9_kindIndex_27 (v := (-1)) (by decide) rfl ?_
      refine q_iret hC dX9_kindIndex_28 rfl ⟨by decide, by decide⟩ ⟨_, rfl, ?_⟩
      exact ⟨Or.inl rfl, rfl⟩
    | succ n ih =>
      intro m hmn
      have hm : m < 9 := by omega
      refine q_iload_n hC 1 dX9_kindIndex_2 rfl rfl ?_
      refine q_getsK hC fs_X9_325 dX9_kindIndex_3 rfl ?_
      refine q_klen hC dX9_kindIndex_6 rfl ?_
      refine q_icmp_ge hC dX9_kindIndex_7 (t := 27) (n := 10) (by decide) rfl (fun h7 => absurd h7 (nI_ge hm (by decide))) (fun h7 => ?_)
      refine q_getsK hC fs_X9_325 dX9_kindIndex_10 rfl ?_
      refine q_iload_n hC 1 dX9_kindIndex_13 rfl rfl ?_
      refine q_kald hC dX9_kindIndex_14 (vp_in_nI hm (by decide)) rfl ?_
      refine q_iload_n hC 0 dX9_kindIndex_15 rfl rfl ?_
      refine q_icmp_ne hC dX9_kindIndex_16 (t := 21) (n := 19) (by decide) rfl (fun h16 => ?_) (fun h16 => ?_)
      · refine q_iinc hC 1 dX9_kindIndex_21 rfl (v := nI (m + 1)) (z_inc m) (by decide) (ls' := [(0, _), (1, _)]) rfl rfl ?_
        refine q_goto hC dX9_kindIndex_24 (n := 2) (by decide) ?_
        exact ih (m + 1) (by omega)
      · refine q_iload_n hC 1 dX9_kindIndex_19 rfl rfl ?_
        refine q_iret hC dX9_kindIndex_20 rfl ⟨by decide, by decide⟩ ⟨_, rfl, ?_⟩
        exact ⟨Or.inr ⟨m, hm, rfl⟩, rfl⟩
  show qV Γ _ _ 0 [(0, .int x)] [] S (0, 0)
  refine q_iconst hC dX9_kindIndex_0 (v := 0) (by decide) rfl ?_
  refine q_istore_n hC dX9_kindIndex_1 (by decide) (ls' := [(0, _), (1, _)]) rfl rfl ?_
  exact L1 9 0 (by omega)
abbrev rm_X2_typeCount : Room := { frames := 0, cells := 0, slots := 0, locals := 0 }
set_option maxHeartbeats 4000000 in
set_option maxRecDepth 100000 in
theorem c_X2_typeCount {L : qL} (hD : q_D L.2.2.2.1) : qCT L yX2_typeCount cX2_typeCount 6 (some .int) rm_X2_typeCount (fun ad _ (x : Nat × Unit) => [.ref (ad 1 x.1)]) (fun x _ => x.1 < 4) (qPi (fun x S r S' => S = S')) := by
  refine q_met hD (by decide) (fun _ => Nat.le_of_ble_eq_true rfl) (fun Γ x S hΓ hpre hC => ?_)
  subst hΓ
  obtain ⟨i, u⟩ := x
  have hi : i < 4 := hpre
  have L1 : ∀ (n m : Nat) (w : Int32), m + n = 5 → qV Γ rm_X2_typeCount 6 13 [(0, .ref (q_ad Γ 1 i)), (1, .int w), (2, .ref (q_ad Γ 2 i)), (3, .int 5), (4, .int (nI m))] [] S (0, 0) := by
    intro n
    induction n with
    | zero =>
      intro m w hmn
      obtain rfl : m = 5 := by omega
      refine q_iload hC 4 dX2_typeCount_13 rfl rfl ?_
      refine q_iload_n hC 3 dX2_typeCount_15 rfl rfl ?_
      refine q_icmp_ge hC dX2_typeCount_16 (t := 46) (n := 19) (by decide) rfl (fun h16 => ?_) (fun h16 => absurd (by decide) h16)
      refine q_iload_n hC 1 dX2_typeCount_46 rfl rfl ?_
      refine q_iret hC dX2_typeCount_47 rfl ⟨by decide, by decide⟩ ⟨_, rfl, ?_⟩
      exact rfl
    | succ n ih =>
      intro m w hmn
      have hm : m < 5 := by omega
      refine q_iload hC 4 dX2_typeCount_13 rfl rfl ?_
      refine q_iload_n hC 3 dX2_typeCount_15 rfl rfl ?_
      refine q_icmp_ge hC dX2_typeCount_16 (t := 46) (n := 19) (by decide) rfl (fun h16 => absurd h16 (nI_ge hm (by decide))) (fun h16 => ?_)
      refine q_aload_n hC 2 dX2_typeCount_19 rfl rfl ?_
      refine q_iload hC 4 dX2_typeCount_20 rfl rfl ?_
      refine q_cald hC dX2_typeCount_22 rfl hi (vp_in_nI hm (by decide)) rfl ?_
      refine q_istore hC dX2_typeCount_23 (by decide) (ls' := [(0, _), (1, _), (2, _), (3, _), (4, _), (5, _)]) rfl rfl ?_
      refine q_iload_n hC 1 dX2_typeCount_25 rfl rfl ?_
      refine q_iload hC 5 dX2_typeCount_26 rfl rfl ?_
      refine q_bipush hC dX2_typeCount_28 (v := 45) (by decide) rfl ?_
      refine q_icmp_ne hC dX2_typeCount_30 (t := 37) (n := 33) (by decide) rfl (fun h30 => ?_) (fun h30 => ?_)
      · refine q_iconst hC dX2_typeCount_37 (v := 1) (by decide) rfl ?_
        refine q_iadd hC dX2_typeCount_38 rfl ?_
        refine q_istore_n hC dX2_typeCount_39 (by decide) (ls' := [(0, _), (1, _), (2, _), (3, _), (4, _), (5, _)]) rfl rfl ?_
        refine q_iinc hC 4 dX2_typeCount_40 rfl (v := nI (m + 1)) (z_inc m) (by decide) (ls' := [(0, _), (1, _), (2, _), (3, _), (4, _), (5, _)]) rfl rfl ?_
        refine q_goto hC dX2_typeCount_43 (n := 13) (by decide) ?_
        refine q_locp [0, 1, 2, 3, 4] (ls' := [(0, _), (1, _), (2, _), (3, _), (4, _)]) rfl ?_
        exact ih (m + 1) _ (by omega)
      · refine q_iconst hC dX2_typeCount_33 (v := 0) (by decide) rfl ?_
        refine q_goto hC dX2_typeCount_34 (n := 38) (by decide) ?_
        refine q_iadd hC dX2_typeCount_38 rfl ?_
        refine q_istore_n hC dX2_typeCount_39 (by decide) (ls' := [(0, _), (1, _), (2, _), (3, _), (4, _), (5, _)]) rfl rfl ?_
        refine q_iinc hC 4 dX2_typeCount_40 rfl (v := nI (m + 1)) (z_inc m) (by decide) (ls' := [(0, _), (1, _), (2, _), (3, _), (4, _), (5, _)]) rfl rfl ?_
        refine q_goto hC dX2_typeCount_43 (n := 13) (by decide) ?_
        refine q_locp [0, 1, 2, 3, 4] (ls' := [(0, _), (1, _), (2, _), (3, _), (4, _)]) rfl ?_
        exact ih (m + 1) _ (by omega)
  show qV Γ _ _ 0 [(0, .ref (q_ad Γ 1 i))] [] S (0, 0)
  refine q_iconst hC dX2_typeCount_0 (v := 0) (by decide) rfl ?_
  refine q_istore_n hC dX2_typeCount_1 (by decide) (ls' := [(0, _), (1, _)]) rfl rfl ?_
  refine q_aload_n hC 0 dX2_typeCount_2 rfl rfl ?_
  refine q_get_f hC f_X2_9 dX2_typeCount_3 rfl rfl hi rfl ?_
  refine q_astore_n hC dX2_typeCount_6 (by decide) (ls' := [(0, _), (1, _), (2, _)]) rfl rfl ?_
  refine q_aload_n hC 2 dX2_typeCount_7 rfl rfl ?_
  refine q_alen hC (a := 1) dX2_typeCount_8 rfl rfl rfl hi rfl ?_
  refine q_istore_n hC dX2_typeCount_9 (by decide) (ls' := [(0, _), (1, _), (2, _), (3, _)]) rfl rfl ?_
  refine q_iconst hC dX2_typeCount_10 (v := 0) (by decide) rfl ?_
  refine q_istore hC dX2_typeCount_11 (by decide) (ls' := [(0, _), (1, _), (2, _), (3, _), (4, _)]) rfl rfl ?_
  exact L1 5 0 _ (by omega)
abbrev rm_X2_flagsOf : Room := { frames := 0, cells := 0, slots := 0, locals := 0 }
set_option maxHeartbeats 4000000 in
set_option maxRecDepth 100000 in
theorem c_X2_flagsOf {L : qL} (hD : q_D L.2.2.2.1) : qCT L yX2_flagsOf cX2_flagsOf 2 (some (.array .boolean)) rm_X2_flagsOf (fun ad _ (x : Nat × Int32 × Nat) => [.ref (ad 1 x.1), .int x.2.1]) (fun x _ => x.1 < 4 ∧ ((x.2.1 = 111 ∧ x.2.2 = 3) ∨ (x.2.1 = 97 ∧ x.2.2 = 4) ∨ (x.2.1 = 102 ∧ x.2.2 = 5))) (fun x S v S' => v = some (.ref (L.2.2.2.1 x.2.2 x.1)) ∧ S = S') := by
  refine q_met hD (by decide) (fun _ => Nat.le_of_ble_eq_true rfl) (fun Γ x S hΓ hpre hC => ?_)
  subst hΓ
  obtain ⟨i, w, t⟩ := x
  obtain ⟨hi, hw⟩ := hpre
  have hi : i < 4 := hi
  have hw : (w = 111 ∧ t = 3) ∨ (w = 97 ∧ t = 4) ∨ (w = 102 ∧ t = 5) := hw
  show qV Γ _ _ 0 [(0, .ref (q_ad Γ 1 i)), (1, .int w)] [] S (0, 0)
  refine q_iload_n hC 1 dX2_flagsOf_0 rfl rfl ?_
  refine q_bipush hC dX2_flagsOf_1 (v := 111) (by decide) rfl ?_
  refine q_icmp_ne hC dX2_flagsOf_3 (t := 13) (n := 6) (by decide) rfl (fun h3 => ?_) (fun h3 => ?_)
  · refine q_iload_n hC 1 dX2_flagsOf_13 rfl rfl ?_
    refine q_bipush hC dX2_flagsOf_14 (v := 97) (by decide) rfl ?_
    refine q_icmp_ne hC dX2_flagsOf_16 (t := 26) (n := 19) (by decide) rfl (fun h16 => ?_) (fun h16 => ?_)
    · refine q_aload_n hC 0 dX2_flagsOf_26 rfl rfl ?_
      refine q_get_f hC f_X2_22 dX2_flagsOf_27 rfl rfl hi rfl ?_
      refine q_aret hC dX2_flagsOf_30 ⟨by decide, by decide⟩ ?_
      refine ⟨?_, rfl⟩
      rcases hw with ⟨h, e⟩ | ⟨h, e⟩ | ⟨h, e⟩
      · exact absurd h h3
      · exact absurd h h16
      · rw [e]; rfl
    · refine q_aload_n hC 0 dX2_flagsOf_19 rfl rfl ?_
      refine q_get_f hC f_X2_19 dX2_flagsOf_20 rfl rfl hi rfl ?_
      refine q_goto hC dX2_flagsOf_23 (n := 30) (by decide) ?_
      refine q_aret hC dX2_flagsOf_30 ⟨by decide, by decide⟩ ?_
      refine ⟨?_, rfl⟩
      rcases hw with ⟨h, e⟩ | ⟨h, e⟩ | ⟨h, e⟩
      · exact absurd h h3
      · rw [e]; rfl
      · exact absurd (h.symm.trans h16) (by decide)
  · refine q_aload_n hC 0 dX2_flagsOf_6 rfl rfl ?_
    refine q_get_f hC f_X2_15 dX2_flagsOf_7 rfl rfl hi rfl ?_
    refine q_goto hC dX2_flagsOf_10 (n := 30) (by decide) ?_
    refine q_aret hC dX2_flagsOf_30 ⟨by decide, by decide⟩ ?_
    refine ⟨?_, rfl⟩
    rcases hw with ⟨h, e⟩ | ⟨h, e⟩ | ⟨h, e⟩
    · rw [e]; rfl
    · exact absurd (h.symm.trans h3) (by decide)
    · exact absurd (h.symm.trans h3) (by decide)
