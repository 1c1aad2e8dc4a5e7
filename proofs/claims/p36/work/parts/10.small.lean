-- printed by wip/p36/gen_m1.py
/-- a bit of a mask -/
def q_bit (m b : Int32) : Int32 := (m >>> (b &&& 31)) &&& 1
def q_b01 (c : Bool) : Int32 := if c then 1 else 0
def q_has (m b : Int32) : Int32 := if q_bit m b = 1 then 1 else 0
def q_lowest (m : Int32) : Int32 := if m = 0 then -1 else if q_bit m 0 = 1 then 0 else if q_bit m 1 = 1 then 1 else if q_bit m 2 = 1 then 2 else if q_bit m 3 = 1 then 3 else if q_bit m 4 = 1 then 4 else -1
abbrev rm_X9_has : Room := { frames := 0, cells := 0, slots := 0, locals := 0 }
set_option maxHeartbeats 4000000 in
set_option maxRecDepth 100000 in
theorem c_X9_has {L : qL} (hD : q_D L.2.2.2.1) : qCT L yX9_has cX9_has 2 (some .boolean) rm_X9_has (fun _ _ (x : Int32 × Int32) => [.int x.1, .int x.2]) (fun _ _ => True) (qPi (fun x S r S' => r = q_has x.1 x.2 ∧ S' = S)) := by
  refine q_met hD (by decide) (fun _ => Nat.le_of_ble_eq_true rfl) (fun Γ x S hΓ hpre hC => ?_)
  subst hΓ
  obtain ⟨a, b⟩ := x
  show qV Γ _ _ 0 [(0, .int a), (1, .int b)] [] S (0, 0)
  refine q_iload_n hC 0 dX9_has_0 rfl rfl ?_
  refine q_iload_n hC 1 dX9_has_1 rfl rfl ?_
  refine q_ishr hC dX9_has_2 rfl ?_
  refine q_iconst hC dX9_has_3 (v := 1) (by decide) rfl ?_
  refine q_iand hC dX9_has_4 rfl ?_
  refine q_iconst hC dX9_has_5 (v := 1) (by decide) rfl ?_
  refine q_icmp_ne hC dX9_has_6 (t := 13) (n := 9) (by decide) rfl (fun h6 => ?_) (fun h6 => ?_)
  · refine q_iconst hC dX9_has_13 (v := 0) (by decide) rfl ?_
    refine q_iret hC dX9_has_14 rfl ⟨by decide, by decide⟩ ⟨_, rfl, ?_⟩
    exact ⟨by simp_all [q_has, q_bit], rfl⟩
  · refine q_iconst hC dX9_has_9 (v := 1) (by decide) rfl ?_
    refine q_goto hC dX9_has_10 (n := 14) (by decide) ?_
    refine q_iret hC dX9_has_14 rfl ⟨by decide, by decide⟩ ⟨_, rfl, ?_⟩
    exact ⟨by simp_all [q_has, q_bit], rfl⟩
abbrev rm_X9_isCall : Room := { frames := 0, cells := 0, slots := 0, locals := 0 }
set_option maxHeartbeats 4000000 in
set_option maxRecDepth 100000 in
theorem c_X9_isCall {L : qL} (hD : q_D L.2.2.2.1) : qCT L yX9_isCall cX9_isCall 1 (some .boolean) rm_X9_isCall (fun _ _ (x : Int32) => [.int x]) (fun _ _ => True) (qPi (fun x S r S' => r = (if 1 ≤ x ∧ x ≤ 4 then 1 else 0) ∧ S' = S)) := by
  refine q_met hD (by decide) (fun _ => Nat.le_of_ble_eq_true rfl) (fun Γ a S hΓ hpre hC => ?_)
  subst hΓ
  show qV Γ _ _ 0 [(0, .int a)] [] S (0, 0)
  refine q_iload_n hC 0 dX9_isCall_0 rfl rfl ?_
  refine q_iconst hC dX9_isCall_1 (v := 1) (by decide) rfl ?_
  refine q_icmp_lt hC dX9_isCall_2 (t := 14) (n := 5) (by decide) rfl (fun h2 => ?_) (fun h2 => ?_)
  · refine q_iconst hC dX9_isCall_14 (v := 0) (by decide) rfl ?_
    refine q_iret hC dX9_isCall_15 rfl ⟨by decide, by decide⟩ ⟨_, rfl, ?_⟩
    exact ⟨by simp_all, rfl⟩
  · refine q_iload_n hC 0 dX9_isCall_5 rfl rfl ?_
    refine q_iconst hC dX9_isCall_6 (v := 4) (by decide) rfl ?_
    refine q_icmp_gt hC dX9_isCall_7 (t := 14) (n := 10) (by decide) rfl (fun h7 => ?_) (fun h7 => ?_)
    · refine q_iconst hC dX9_isCall_14 (v := 0) (by decide) rfl ?_
      refine q_iret hC dX9_isCall_15 rfl ⟨by decide, by decide⟩ ⟨_, rfl, ?_⟩
      exact ⟨by simp_all, rfl⟩
    · refine q_iconst hC dX9_isCall_10 (v := 1) (by decide) rfl ?_
      refine q_goto hC dX9_isCall_11 (n := 15) (by decide) ?_
      refine q_iret hC dX9_isCall_15 rfl ⟨by decide, by decide⟩ ⟨_, rfl, ?_⟩
      exact ⟨by simp_all, rfl⟩
abbrev rm_X9_hasMember : Room := { frames := 0, cells := 0, slots := 0, locals := 0 }
set_option maxHeartbeats 4000000 in
set_option maxRecDepth 100000 in
theorem c_X9_hasMember {L : qL} (hD : q_D L.2.2.2.1) : qCT L yX9_hasMember cX9_hasMember 1 (some .boolean) rm_X9_hasMember (fun _ _ (x : Int32) => [.int x]) (fun _ _ => True) (qPi (fun x S r S' => r = (if x = 0 then 0 else 1) ∧ S' = S)) := by
  refine q_met hD (by decide) (fun _ => Nat.le_of_ble_eq_true rfl) (fun Γ a S hΓ hpre hC => ?_)
  subst hΓ
  show qV Γ _ _ 0 [(0, .int a)] [] S (0, 0)
  refine q_iload_n hC 0 dX9_hasMember_0 rfl rfl ?_
  refine q_if_eq hC dX9_hasMember_1 (t := 8) (n := 4) (by decide) rfl (fun h1 => ?_) (fun h1 => ?_)
  · refine q_iconst hC dX9_hasMember_8 (v := 0) (by decide) rfl ?_
    refine q_iret hC dX9_hasMember_9 rfl ⟨by decide, by decide⟩ ⟨_, rfl, ?_⟩
    exact ⟨by simp_all, rfl⟩
  · refine q_iconst hC dX9_hasMember_4 (v := 1) (by decide) rfl ?_
    refine q_goto hC dX9_hasMember_5 (n := 9) (by decide) ?_
    refine q_iret hC dX9_hasMember_9 rfl ⟨by decide, by decide⟩ ⟨_, rfl, ?_⟩
    exact ⟨by simp_all, rfl⟩
abbrev rm_X9_hasType : Room := { frames := 0, cells := 0, slots := 0, locals := 0 }
set_option maxHeartbeats 4000000 in
set_option maxRecDepth 100000 in
theorem c_X9_hasType {L : qL} (hD : q_D L.2.2.2.1) : qCT L yX9_hasType cX9_hasType 1 (some .boolean) rm_X9_hasType (fun _ _ (x : Int32) => [.int x]) (fun _ _ => True) (qPi (fun x S r S' => r = (if x = 0 ∨ x = 4 then 0 else 1) ∧ S' = S)) := by
  refine q_met hD (by decide) (fun _ => Nat.le_of_ble_eq_true rfl) (fun Γ a S hΓ hpre hC => ?_)
  subst hΓ
  show qV Γ _ _ 0 [(0, .int a)] [] S (0, 0)
  refine q_iload_n hC 0 dX9_hasType_0 rfl rfl ?_
  refine q_if_eq hC dX9_hasType_1 (t := 13) (n := 4) (by decide) rfl (fun h1 => ?_) (fun h1 => ?_)
  · refine q_iconst hC dX9_hasType_13 (v := 0) (by decide) rfl ?_
    refine q_iret hC dX9_hasType_14 rfl ⟨by decide, by decide⟩ ⟨_, rfl, ?_⟩
    exact ⟨by simp_all, rfl⟩
  · refine q_iload_n hC 0 dX9_hasType_4 rfl rfl ?_
    refine q_iconst hC dX9_hasType_5 (v := 4) (by decide) rfl ?_
    refine q_icmp_eq hC dX9_hasType_6 (t := 13) (n := 9) (by decide) rfl (fun h6 => ?_) (fun h6 => ?_)
    · refine q_iconst hC dX9_hasType_13 (v := 0) (by decide) rfl ?_
      refine q_iret hC dX9_hasType_14 rfl ⟨by decide, by decide⟩ ⟨_, rfl, ?_⟩
      exact ⟨by simp_all, rfl⟩
    · refine q_iconst hC dX9_hasType_9 (v := 1) (by decide) rfl ?_
      refine q_goto hC dX9_hasType_10 (n := 14) (by decide) ?_
      refine q_iret hC dX9_hasType_14 rfl ⟨by decide, by decide⟩ ⟨_, rfl, ?_⟩
      exact ⟨by simp_all, rfl⟩
abbrev rm_X9_hasObject : Room := { frames := 0, cells := 0, slots := 0, locals := 0 }
set_option maxHeartbeats 4000000 in
set_option maxRecDepth 100000 in
theorem c_X9_hasObject {L : qL} (hD : q_D L.2.2.2.1) : qCT L yX9_hasObject cX9_hasObject 1 (some .boolean) rm_X9_hasObject (fun _ _ (x : Int32) => [.int x]) (fun _ _ => True) (qPi (fun x S r S' => r = (if x = 0 ∨ x = 2 ∨ x = 3 ∨ x = 7 ∨ x = 8 then 1 else 0) ∧ S' = S)) := by
  refine q_met hD (by decide) (fun _ => Nat.le_of_ble_eq_true rfl) (fun Γ a S hΓ hpre hC => ?_)
  subst hΓ
  show qV Γ _ _ 0 [(0, .int a)] [] S (0, 0)
  refine q_iload_n hC 0 dX9_hasObject_0 rfl rfl ?_
  refine q_if_eq hC dX9_hasObject_1 (t := 26) (n := 4) (by decide) rfl (fun h1 => ?_) (fun h1 => ?_)
  · refine q_iconst hC dX9_hasObject_26 (v := 1) (by decide) rfl ?_
    refine q_goto hC dX9_hasObject_27 (n := 31) (by decide) ?_
    refine q_iret hC dX9_hasObject_31 rfl ⟨by decide, by decide⟩ ⟨_, rfl, ?_⟩
    exact ⟨by simp_all, rfl⟩
  · refine q_iload_n hC 0 dX9_hasObject_4 rfl rfl ?_
    refine q_iconst hC dX9_hasObject_5 (v := 2) (by decide) rfl ?_
    refine q_icmp_eq hC dX9_hasObject_6 (t := 26) (n := 9) (by decide) rfl (fun h6 => ?_) (fun h6 => ?_)
    · refine q_iconst hC dX9_hasObject_26 (v := 1) (by decide) rfl ?_
      refine q_goto hC dX9_hasObject_27 (n := 31) (by decide) ?_
      refine q_iret hC dX9_hasObject_31 rfl ⟨by decide, by decide⟩ ⟨_, rfl, ?_⟩
      exact ⟨by simp_all, rfl⟩
    · refine q_iload_n hC 0 dX9_hasObject_9 rfl rfl ?_
      refine q_iconst hC dX9_hasObject_10 (v := 3) (by decide) rfl ?_
      refine q_icmp_eq hC dX9_hasObject_11 (t := 26) (n := 14) (by decide) rfl (fun h11 => ?_) (fun h11 => ?_)
      · refine q_iconst hC dX9_hasObject_26 (v := 1) (by decide) rfl ?_
        refine q_goto hC dX9_hasObject_27 (n := 31) (by decide) ?_
        refine q_iret hC dX9_hasObject_31 rfl ⟨by decide, by decide⟩ ⟨_, rfl, ?_⟩
        exact ⟨by simp_all, rfl⟩
      · refine q_iload_n hC 0 dX9_hasObject_14 rfl rfl ?_
        refine q_bipush hC dX9_hasObject_15 (v := 7) (by decide) rfl ?_
        refine q_icmp_eq hC dX9_hasObject_17 (t := 26) (n := 20) (by decide) rfl (fun h17 => ?_) (fun h17 => ?_)
        · refine q_iconst hC dX9_hasObject_26 (v := 1) (by decide) rfl ?_
          refine q_goto hC dX9_hasObject_27 (n := 31) (by decide) ?_
          refine q_iret hC dX9_hasObject_31 rfl ⟨by decide, by decide⟩ ⟨_, rfl, ?_⟩
          exact ⟨by simp_all, rfl⟩
        · refine q_iload_n hC 0 dX9_hasObject_20 rfl rfl ?_
          refine q_bipush hC dX9_hasObject_21 (v := 8) (by decide) rfl ?_
          refine q_icmp_ne hC dX9_hasObject_23 (t := 30) (n := 26) (by decide) rfl (fun h23 => ?_) (fun h23 => ?_)
          · refine q_iconst hC dX9_hasObject_30 (v := 0) (by decide) rfl ?_
            refine q_iret hC dX9_hasObject_31 rfl ⟨by decide, by decide⟩ ⟨_, rfl, ?_⟩
            exact ⟨by simp_all, rfl⟩
          · refine q_iconst hC dX9_hasObject_26 (v := 1) (by decide) rfl ?_
            refine q_goto hC dX9_hasObject_27 (n := 31) (by decide) ?_
            refine q_iret hC dX9_hasObject_31 rfl ⟨by decide, by decide⟩ ⟨_, rfl, ?_⟩
            exact ⟨by simp_all, rfl⟩
