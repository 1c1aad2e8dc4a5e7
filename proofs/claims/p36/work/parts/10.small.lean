-- printed by wip/p36/gen_m1.py
/-- what the small methods answer -/
def z_bit (m b : Int32) : Int32 := (m >>> (b &&& 31)) &&& 1
def z_has (m b : Int32) : Int32 := if z_bit m b = 1 then 1 else 0
def z_isCall (x : Int32) : Int32 := if x < 1 then 0 else if 4 < x then 0 else 1
def z_hasMember (x : Int32) : Int32 := if x = 0 then 0 else 1
def z_hasType (x : Int32) : Int32 := if x = 0 then 0 else if x = 4 then 0 else 1
def z_hasObject (x : Int32) : Int32 := if x = 0 then 1 else if x = 2 then 1 else if x = 3 then 1 else if x = 7 then 1 else if x = 8 then 1 else 0
def z_isType (x : Int32) : Int32 := if x < 65 then 0 else if 69 < x then 0 else 1
def z_isMember (x y : Int32) : Int32 := if x < 97 then 0 else if 99 < x then 0 else if y = 0 then 1 else if y = 1 then 1 else 0
def z_rank (x : Int32) : Int32 := if x = 112 then 0 else if x = 111 then 1 else if x = 107 then 2 else if x = 118 then 3 else -1
def z_isSight (x : Int32) : Int32 := if z_rank x = -1 then 0 else 1
def z_mi (x y : Int32) : Int32 := (x - 97) * 2 + y
def z_with (m b c : Int32) : Int32 := if c = 0 then m &&& ((1 <<< (b &&& 31)) ^^^ (-1)) else m ||| (1 <<< (b &&& 31))
def z_row (x : Int32) : Int32 := if x = 88 then 5 else x - 65
def z_u (x s : Int32) : Int32 := (x.toUInt32 >>> (s.toUInt32 &&& Int32.toUInt32 31)).toInt32
def z_bc1 (x : Int32) : Int32 := x - (z_u x 1 &&& 1431655765)
def z_bc2 (x : Int32) : Int32 := (x &&& 858993459) + (z_u x 2 &&& 858993459)
def z_bc3 (x : Int32) : Int32 := (x + z_u x 4) &&& 252645135
def z_bc4 (x : Int32) : Int32 := x + z_u x 8
def z_bc5 (x : Int32) : Int32 := x + z_u x 16
def z_bc (x : Int32) : Int32 := z_bc5 (z_bc4 (z_bc3 (z_bc2 (z_bc1 x)))) &&& 63
theorem z_nb {b : Prop} {hb : Decidable b} : narrow .boolean (.int (if b then 1 else 0)) = .int (if b then 1 else 0) := by split <;> rfl
abbrev rm_X9_has : Room := { frames := 0, cells := 0, slots := 0, locals := 0 }
set_option maxHeartbeats 4000000 in
set_option maxRecDepth 100000 in
theorem c_X9_has {L : qL} (hD : q_D L.2.2.2.1) : qCT L yX9_has cX9_has 2 (some .boolean) rm_X9_has (fun _ _ (x : Int32 × Int32) => [.int x.1, .int x.2]) (fun _ _ => True) (qPi (fun x S r S' => r = z_has x.1 x.2 ∧ S = S')) := by
  refine q_met hD (by decide) (fun _ => Nat.le_of_ble_eq_true rfl) (fun Γ x S hΓ hpre hC => ?_)
  subst hΓ
  obtain ⟨a, b⟩ := x
  show qV Γ _ _ 0 [(0, .int a), (1, .int b)] [] S (0, 0)
  refine q_iload_n hC 0 dX9_has_0 rfl rfl ?_
  refine q_iload_n hC 1 dX9_has_1 rfl rfl ?_
  refine q_ishr hC dX9_has_2 rfl ?_
  refine q_iconst hC dX9_has_3 (v := 1) (by decide) rfl ?_
  refine q_iand hC dX9_has_4 rfl ?_
  refine q_iconst hC dX9_has_5 (v := 1) (by decide) rfl ?_
  refine q_icmp_ne hC dX9_has_6 (t := 13) (n := 9) (by decide) rfl (fun h6 => ?_) (fun h6 => ?_)
  · refine q_iconst hC dX9_has_13 (v := 0) (by decide) rfl ?_
    refine q_iret hC dX9_has_14 rfl ⟨by decide, by decide⟩ ⟨_, rfl, ?_⟩
    skip; exact ⟨by simp [z_has, z_bit, *], rfl⟩
  · refine q_iconst hC dX9_has_9 (v := 1) (by decide) rfl ?_
    refine q_goto hC dX9_has_10 (n := 14) (by decide) ?_
    refine q_iret hC dX9_has_14 rfl ⟨by decide, by decide⟩ ⟨_, rfl, ?_⟩
    skip; exact ⟨by simp [z_has, z_bit, *], rfl⟩
abbrev rm_X9_isCall : Room := { frames := 0, cells := 0, slots := 0, locals := 0 }
set_option maxHeartbeats 4000000 in
set_option maxRecDepth 100000 in
theorem c_X9_isCall {L : qL} (hD : q_D L.2.2.2.1) : qCT L yX9_isCall cX9_isCall 1 (some .boolean) rm_X9_isCall (fun _ _ (x : Int32) => [.int x]) (fun _ _ => True) (qPi (fun x S r S' => r = z_isCall x ∧ S = S')) := by
  refine q_met hD (by decide) (fun _ => Nat.le_of_ble_eq_true rfl) (fun Γ a S hΓ hpre hC => ?_)
  subst hΓ
  show qV Γ _ _ 0 [(0, .int a)] [] S (0, 0)
  refine q_iload_n hC 0 dX9_isCall_0 rfl rfl ?_
  refine q_iconst hC dX9_isCall_1 (v := 1) (by decide) rfl ?_
  refine q_icmp_lt hC dX9_isCall_2 (t := 14) (n := 5) (by decide) rfl (fun h2 => ?_) (fun h2 => ?_)
  · refine q_iconst hC dX9_isCall_14 (v := 0) (by decide) rfl ?_
    refine q_iret hC dX9_isCall_15 rfl ⟨by decide, by decide⟩ ⟨_, rfl, ?_⟩
    skip; exact ⟨by simp [z_isCall, *], rfl⟩
  · refine q_iload_n hC 0 dX9_isCall_5 rfl rfl ?_
    refine q_iconst hC dX9_isCall_6 (v := 4) (by decide) rfl ?_
    refine q_icmp_gt hC dX9_isCall_7 (t := 14) (n := 10) (by decide) rfl (fun h7 => ?_) (fun h7 => ?_)
    · refine q_iconst hC dX9_isCall_14 (v := 0) (by decide) rfl ?_
      refine q_iret hC dX9_isCall_15 rfl ⟨by decide, by decide⟩ ⟨_, rfl, ?_⟩
      skip; exact ⟨by simp [z_isCall, *], rfl⟩
    · refine q_iconst hC dX9_isCall_10 (v := 1) (by decide) rfl ?_
      refine q_goto hC dX9_isCall_11 (n := 15) (by decide) ?_
      refine q_iret hC dX9_isCall_15 rfl ⟨by decide, by decide⟩ ⟨_, rfl, ?_⟩
      skip; exact ⟨by simp [z_isCall, *], rfl⟩
abbrev rm_X9_hasMember : Room := { frames := 0, cells := 0, slots := 0, locals := 0 }
set_option maxHeartbeats 4000000 in
set_option maxRecDepth 100000 in
theorem c_X9_hasMember {L : qL} (hD : q_D L.2.2.2.1) : qCT L yX9_hasMember cX9_hasMember 1 (some .boolean) rm_X9_hasMember (fun _ _ (x : Int32) => [.int x]) (fun _ _ => True) (qPi (fun x S r S' => r = z_hasMember x ∧ S = S')) := by
  refine q_met hD (by decide) (fun _ => Nat.le_of_ble_eq_true rfl) (fun Γ a S hΓ hpre hC => ?_)
  subst hΓ
  show qV Γ _ _ 0 [(0, .int a)] [] S (0, 0)
  refine q_iload_n hC 0 dX9_hasMember_0 rfl rfl ?_
  refine q_if_eq hC dX9_hasMember_1 (t := 8) (n := 4) (by decide) rfl (fun h1 => ?_) (fun h1 => ?_)
  · refine q_iconst hC dX9_hasMember_8 (v := 0) (by decide) rfl ?_
    refine q_iret hC dX9_hasMember_9 rfl ⟨by decide, by decide⟩ ⟨_, rfl, ?_⟩
    skip; exact ⟨by simp [z_hasMember, *], rfl⟩
  · refine q_iconst hC dX9_hasMember_4 (v := 1) (by decide) rfl ?_
    refine q_goto hC dX9_hasMember_5 (n := 9) (by decide) ?_
    refine q_iret hC dX9_hasMember_9 rfl ⟨by decide, by decide⟩ ⟨_, rfl, ?_⟩
    skip; exact ⟨by simp [z_hasMember, *], rfl⟩
abbrev rm_X9_hasType : Room := { frames := 0, cells := 0, slots := 0, locals := 0 }
set_option maxHeartbeats 4000000 in
set_option maxRecDepth 100000 in
theorem c_X9_hasType {L : qL} (hD : q_D L.2.2.2.1) : qCT L yX9_hasType cX9_hasType 1 (some .boolean) rm_X9_hasType (fun _ _ (x : Int32) => [.int x]) (fun _ _ => True) (qPi (fun x S r S' => r = z_hasType x ∧ S = S')) := by
  refine q_met hD (by decide) (fun _ => Nat.le_of_ble_eq_true rfl) (fun Γ a S hΓ hpre hC => ?_)
  subst hΓ
  show qV Γ _ _ 0 [(0, .int a)] [] S (0, 0)
  refine q_iload_n hC 0 dX9_hasType_0 rfl rfl ?_
  refine q_if_eq hC dX9_hasType_1 (t := 13) (n := 4) (by decide) rfl (fun h1 => ?_) (fun h1 => ?_)
  · refine q_iconst hC dX9_hasType_13 (v := 0) (by decide) rfl ?_
    refine q_iret hC dX9_hasType_14 rfl ⟨by decide, by decide⟩ ⟨_, rfl, ?_⟩
    skip; exact ⟨by simp [z_hasType, *], rfl⟩
  · refine q_iload_n hC 0 dX9_hasType_4 rfl rfl ?_
    refine q_iconst hC dX9_hasType_5 (v := 4) (by decide) rfl ?_
    refine q_icmp_eq hC dX9_hasType_6 (t := 13) (n := 9) (by decide) rfl (fun h6 => ?_) (fun h6 => ?_)
    · refine q_iconst hC dX9_hasType_13 (v := 0) (by decide) rfl ?_
      refine q_iret hC dX9_hasType_14 rfl ⟨by decide, by decide⟩ ⟨_, rfl, ?_⟩
      skip; exact ⟨by simp [z_hasType, *], rfl⟩
    · refine q_iconst hC dX9_hasType_9 (v := 1) (by decide) rfl ?_
      refine q_goto hC dX9_hasType_10 (n := 14) (by decide) ?_
      refine q_iret hC dX9_hasType_14 rfl ⟨by decide, by decide⟩ ⟨_, rfl, ?_⟩
      skip; exact ⟨by simp [z_hasType, *], rfl⟩
abbrev rm_X9_hasObject : Room := { frames := 0, cells := 0, slots := 0, locals := 0 }
set_option maxHeartbeats 4000000 in
set_option maxRecDepth 100000 in
theorem c_X9_hasObject {L : qL} (hD : q_D L.2.2.2.1) : qCT L yX9_hasObject cX9_hasObject 1 (some .boolean) rm_X9_hasObject (fun _ _ (x : Int32) => [.int x]) (fun _ _ => True) (qPi (fun x S r S' => r = z_hasObject x ∧ S = S')) := by
  refine q_met hD (by decide) (fun _ => Nat.le_of_ble_eq_true rfl) (fun Γ a S hΓ hpre hC => ?_)
  subst hΓ
  show qV Γ _ _ 0 [(0, .int a)] [] S (0, 0)
  refine q_iload_n hC 0 dX9_hasObject_0 rfl rfl ?_
  refine q_if_eq hC dX9_hasObject_1 (t := 26) (n := 4) (by decide) rfl (fun h1 => ?_) (fun h1 => ?_)
  · refine q_iconst hC dX9_hasObject_26 (v := 1) (by decide) rfl ?_
    refine q_goto hC dX9_hasObject_27 (n := 31) (by decide) ?_
    refine q_iret hC dX9_hasObject_31 rfl ⟨by decide, by decide⟩ ⟨_, rfl, ?_⟩
    skip; exact ⟨by simp [z_hasObject, *], rfl⟩
  · refine q_iload_n hC 0 dX9_hasObject_4 rfl rfl ?_
    refine q_iconst hC dX9_hasObject_5 (v := 2) (by decide) rfl ?_
    refine q_icmp_eq hC dX9_hasObject_6 (t := 26) (n := 9) (by decide) rfl (fun h6 => ?_) (fun h6 => ?_)
    · refine q_iconst hC dX9_hasObject_26 (v := 1) (by decide) rfl ?_
      refine q_goto hC dX9_hasObject_27 (n := 31) (by decide) ?_
      refine q_iret hC dX9_hasObject_31 rfl ⟨by decide, by decide⟩ ⟨_, rfl, ?_⟩
      skip; exact ⟨by simp [z_hasObject, *], rfl⟩
    · refine q_iload_n hC 0 dX9_hasObject_9 rfl rfl ?_
      refine q_iconst hC dX9_hasObject_10 (v := 3) (by decide) rfl ?_
      refine q_icmp_eq hC dX9_hasObject_11 (t := 26) (n := 14) (by decide) rfl (fun h11 => ?_) (fun h11 => ?_)
      · refine q_iconst hC dX9_hasObject_26 (v := 1) (by decide) rfl ?_
        refine q_goto hC dX9_hasObject_27 (n := 31) (by decide) ?_
        refine q_iret hC dX9_hasObject_31 rfl ⟨by decide, by decide⟩ ⟨_, rfl, ?_⟩
        skip; exact ⟨by simp [z_hasObject, *], rfl⟩
      · refine q_iload_n hC 0 dX9_hasObject_14 rfl rfl ?_
        refine q_bipush hC dX9_hasObject_15 (v := 7) (by decide) rfl ?_
        refine q_icmp_eq hC dX9_hasObject_17 (t := 26) (n := 20) (by decide) rfl (fun h17 => ?_) (fun h17 => ?_)
        · refine q_iconst hC dX9_hasObject_26 (v := 1) (by decide) rfl ?_
          refine q_goto hC dX9_hasObject_27 (n := 31) (by decide) ?_
          refine q_iret hC dX9_hasObject_31 rfl ⟨by decide, by decide⟩ ⟨_, rfl, ?_⟩
          skip; exact ⟨by simp [z_hasObject, *], rfl⟩
        · refine q_iload_n hC 0 dX9_hasObject_20 rfl rfl ?_
          refine q_bipush hC dX9_hasObject_21 (v := 8) (by decide) rfl ?_
          refine q_icmp_ne hC dX9_hasObject_23 (t := 30) (n := 26) (by decide) rfl (fun h23 => ?_) (fun h23 => ?_)
          · refine q_iconst hC dX9_hasObject_30 (v := 0) (by decide) rfl ?_
            refine q_iret hC dX9_hasObject_31 rfl ⟨by decide, by decide⟩ ⟨_, rfl, ?_⟩
            skip; exact ⟨by simp [z_hasObject, *], rfl⟩
          · refine q_iconst hC dX9_hasObject_26 (v := 1) (by decide) rfl ?_
            refine q_goto hC dX9_hasObject_27 (n := 31) (by decide) ?_
            refine q_iret hC dX9_hasObject_31 rfl ⟨by decide, by decide⟩ ⟨_, rfl, ?_⟩
            skip; exact ⟨by simp [z_hasObject, *], rfl⟩
abbrev rm_X9_isType : Room := { frames := 0, cells := 0, slots := 0, locals := 0 }
set_option maxHeartbeats 4000000 in
set_option maxRecDepth 100000 in
theorem c_X9_isType {L : qL} (hD : q_D L.2.2.2.1) : qCT L yX9_isType cX9_isType 1 (some .boolean) rm_X9_isType (fun _ _ (x : Int32) => [.int x]) (fun _ _ => True) (qPi (fun x S r S' => r = z_isType x ∧ S = S')) := by
  refine q_met hD (by decide) (fun _ => Nat.le_of_ble_eq_true rfl) (fun Γ a S hΓ hpre hC => ?_)
  subst hΓ
  show qV Γ _ _ 0 [(0, .int a)] [] S (0, 0)
  refine q_iload_n hC 0 dX9_isType_0 rfl rfl ?_
  refine q_bipush hC dX9_isType_1 (v := 65) (by decide) rfl ?_
  refine q_icmp_lt hC dX9_isType_3 (t := 16) (n := 6) (by decide) rfl (fun h3 => ?_) (fun h3 => ?_)
  · refine q_iconst hC dX9_isType_16 (v := 0) (by decide) rfl ?_
    refine q_iret hC dX9_isType_17 rfl ⟨by decide, by decide⟩ ⟨_, rfl, ?_⟩
    skip; exact ⟨by simp [z_isType, *], rfl⟩
  · refine q_iload_n hC 0 dX9_isType_6 rfl rfl ?_
    refine q_bipush hC dX9_isType_7 (v := 69) (by decide) rfl ?_
    refine q_icmp_gt hC dX9_isType_9 (t := 16) (n := 12) (by decide) rfl (fun h9 => ?_) (fun h9 => ?_)
    · refine q_iconst hC dX9_isType_16 (v := 0) (by decide) rfl ?_
      refine q_iret hC dX9_isType_17 rfl ⟨by decide, by decide⟩ ⟨_, rfl, ?_⟩
      skip; exact ⟨by simp [z_isType, *], rfl⟩
    · refine q_iconst hC dX9_isType_12 (v := 1) (by decide) rfl ?_
      refine q_goto hC dX9_isType_13 (n := 17) (by decide) ?_
      refine q_iret hC dX9_isType_17 rfl ⟨by decide, by decide⟩ ⟨_, rfl, ?_⟩
      skip; exact ⟨by simp [z_isType, *], rfl⟩
abbrev rm_X9_isMember : Room := { frames := 0, cells := 0, slots := 0, locals := 0 }
set_option maxHeartbeats 4000000 in
set_option maxRecDepth 100000 in
theorem c_X9_isMember {L : qL} (hD : q_D L.2.2.2.1) : qCT L yX9_isMember cX9_isMember 2 (some .boolean) rm_X9_isMember (fun _ _ (x : Int32 × Int32) => [.int x.1, .int x.2]) (fun _ _ => True) (qPi (fun x S r S' => r = z_isMember x.1 x.2 ∧ S = S')) := by
  refine q_met hD (by decide) (fun _ => Nat.le_of_ble_eq_true rfl) (fun Γ x S hΓ hpre hC => ?_)
  subst hΓ
  obtain ⟨a, b⟩ := x
  show qV Γ _ _ 0 [(0, .int a), (1, .int b)] [] S (0, 0)
  refine q_iload_n hC 0 dX9_isMember_0 rfl rfl ?_
  refine q_bipush hC dX9_isMember_1 (v := 97) (by decide) rfl ?_
  refine q_icmp_lt hC dX9_isMember_3 (t := 25) (n := 6) (by decide) rfl (fun h3 => ?_) (fun h3 => ?_)
  · refine q_iconst hC dX9_isMember_25 (v := 0) (by decide) rfl ?_
    refine q_iret hC dX9_isMember_26 rfl ⟨by decide, by decide⟩ ⟨_, rfl, ?_⟩
    skip; exact ⟨by simp [z_isMember, *], rfl⟩
  · refine q_iload_n hC 0 dX9_isMember_6 rfl rfl ?_
    refine q_bipush hC dX9_isMember_7 (v := 99) (by decide) rfl ?_
    refine q_icmp_gt hC dX9_isMember_9 (t := 25) (n := 12) (by decide) rfl (fun h9 => ?_) (fun h9 => ?_)
    · refine q_iconst hC dX9_isMember_25 (v := 0) (by decide) rfl ?_
      refine q_iret hC dX9_isMember_26 rfl ⟨by decide, by decide⟩ ⟨_, rfl, ?_⟩
      skip; exact ⟨by simp [z_isMember, *], rfl⟩
    · refine q_iload_n hC 1 dX9_isMember_12 rfl rfl ?_
      refine q_if_eq hC dX9_isMember_13 (t := 21) (n := 16) (by decide) rfl (fun h13 => ?_) (fun h13 => ?_)
      · refine q_iconst hC dX9_isMember_21 (v := 1) (by decide) rfl ?_
        refine q_goto hC dX9_isMember_22 (n := 26) (by decide) ?_
        refine q_iret hC dX9_isMember_26 rfl ⟨by decide, by decide⟩ ⟨_, rfl, ?_⟩
        skip; exact ⟨by simp [z_isMember, *], rfl⟩
      · refine q_iload_n hC 1 dX9_isMember_16 rfl rfl ?_
        refine q_iconst hC dX9_isMember_17 (v := 1) (by decide) rfl ?_
        refine q_icmp_ne hC dX9_isMember_18 (t := 25) (n := 21) (by decide) rfl (fun h18 => ?_) (fun h18 => ?_)
        · refine q_iconst hC dX9_isMember_25 (v := 0) (by decide) rfl ?_
          refine q_iret hC dX9_isMember_26 rfl ⟨by decide, by decide⟩ ⟨_, rfl, ?_⟩
          skip; exact ⟨by simp [z_isMember, *], rfl⟩
        · refine q_iconst hC dX9_isMember_21 (v := 1) (by decide) rfl ?_
          refine q_goto hC dX9_isMember_22 (n := 26) (by decide) ?_
          refine q_iret hC dX9_isMember_26 rfl ⟨by decide, by decide⟩ ⟨_, rfl, ?_⟩
          skip; exact ⟨by simp [z_isMember, *], rfl⟩
abbrev rm_X9_sightRank : Room := { frames := 0, cells := 0, slots := 0, locals := 0 }
set_option maxHeartbeats 4000000 in
set_option maxRecDepth 100000 in
theorem c_X9_sightRank {L : qL} (hD : q_D L.2.2.2.1) : qCT L yX9_sightRank cX9_sightRank 1 (some .int) rm_X9_sightRank (fun _ _ (x : Int32) => [.int x]) (fun _ _ => True) (qPi (fun x S r S' => r = z_rank x ∧ S = S')) := by
  refine q_met hD (by decide) (fun _ => Nat.le_of_ble_eq_true rfl) (fun Γ a S hΓ hpre hC => ?_)
  subst hΓ
  show qV Γ _ _ 0 [(0, .int a)] [] S (0, 0)
  refine q_iload_n hC 0 dX9_sightRank_0 rfl rfl ?_
  refine q_bipush hC dX9_sightRank_1 (v := 112) (by decide) rfl ?_
  refine q_icmp_ne hC dX9_sightRank_3 (t := 10) (n := 6) (by decide) rfl (fun h3 => ?_) (fun h3 => ?_)
  · refine q_iload_n hC 0 dX9_sightRank_10 rfl rfl ?_
    refine q_bipush hC dX9_sightRank_11 (v := 111) (by decide) rfl ?_
    refine q_icmp_ne hC dX9_sightRank_13 (t := 20) (n := 16) (by decide) rfl (fun h13 => ?_) (fun h13 => ?_)
    · refine q_iload_n hC 0 dX9_sightRank_20 rfl rfl ?_
      refine q_bipush hC dX9_sightRank_21 (v := 107) (by decide) rfl ?_
      refine q_icmp_ne hC dX9_sightRank_23 (t := 30) (n := 26) (by decide) rfl (fun h23 => ?_) (fun h23 => ?_)
      · refine q_iload_n hC 0 dX9_sightRank_30 rfl rfl ?_
        refine q_bipush hC dX9_sightRank_31 (v := 118) (by decide) rfl ?_
        refine q_icmp_ne hC dX9_sightRank_33 (t := 40) (n := 36) (by decide) rfl (fun h33 => ?_) (fun h33 => ?_)
        · refine q_iconst hC dX9_sightRank_40 (v := (-1)) (by decide) rfl ?_
          refine q_iret hC dX9_sightRank_41 rfl ⟨by decide, by decide⟩ ⟨_, rfl, ?_⟩
          skip; exact ⟨by simp [z_rank, *], rfl⟩
        · refine q_iconst hC dX9_sightRank_36 (v := 3) (by decide) rfl ?_
          refine q_goto hC dX9_sightRank_37 (n := 41) (by decide) ?_
          refine q_iret hC dX9_sightRank_41 rfl ⟨by decide, by decide⟩ ⟨_, rfl, ?_⟩
          skip; exact ⟨by simp [z_rank, *], rfl⟩
      · refine q_iconst hC dX9_sightRank_26 (v := 2) (by decide) rfl ?_
        refine q_goto hC dX9_sightRank_27 (n := 41) (by decide) ?_
        refine q_iret hC dX9_sightRank_41 rfl ⟨by decide, by decide⟩ ⟨_, rfl, ?_⟩
        skip; exact ⟨by simp [z_rank, *], rfl⟩
    · refine q_iconst hC dX9_sightRank_16 (v := 1) (by decide) rfl ?_
      refine q_goto hC dX9_sightRank_17 (n := 41) (by decide) ?_
      refine q_iret hC dX9_sightRank_41 rfl ⟨by decide, by decide⟩ ⟨_, rfl, ?_⟩
      skip; exact ⟨by simp [z_rank, *], rfl⟩
  · refine q_iconst hC dX9_sightRank_6 (v := 0) (by decide) rfl ?_
    refine q_goto hC dX9_sightRank_7 (n := 41) (by decide) ?_
    refine q_iret hC dX9_sightRank_41 rfl ⟨by decide, by decide⟩ ⟨_, rfl, ?_⟩
    skip; exact ⟨by simp [z_rank, *], rfl⟩
abbrev rm_X9_isSight : Room := { frames := 1, cells := 0, slots := 0, locals := 20 }
set_option maxHeartbeats 4000000 in
set_option maxRecDepth 100000 in
theorem c_X9_isSight {L : qL} (hD : q_D L.2.2.2.1) : qCT L yX9_isSight cX9_isSight 1 (some .boolean) rm_X9_isSight (fun _ _ (x : Int32) => [.int x]) (fun _ _ => True) (qPi (fun x S r S' => r = z_isSight x ∧ S = S')) := by
  refine q_met hD (by decide) (fun _ => Nat.le_of_ble_eq_true rfl) (fun Γ a S hΓ hpre hC => ?_)
  subst hΓ
  show qV Γ _ _ 0 [(0, .int a)] [] S (0, 0)
  refine q_iload_n hC 0 dX9_isSight_0 rfl rfl ?_
  refine q_callS hC (c_X9_sightRank (q_hD hC)) m_X9_sightRank lk_X9_322 dX9_isSight_1 _ rfl rfl (Nat.le_of_ble_eq_true rfl) ⟨⟨by decide, by decide⟩, by decide, by decide⟩ rfl (k' := (0, 0)) rfl trivial (fun v S' hp => ?_)
  obtain ⟨r1_1, rfl, hr1_1, rfl⟩ := hp
  show qV Γ _ _ 4 _ (.int _ :: _) _ _
  refine q_iconst hC dX9_isSight_4 (v := (-1)) (by decide) rfl ?_
  refine q_icmp_eq hC dX9_isSight_5 (t := 12) (n := 8) (by decide) rfl (fun h5 => ?_) (fun h5 => ?_)
  · refine q_iconst hC dX9_isSight_12 (v := 0) (by decide) rfl ?_
    refine q_iret hC dX9_isSight_13 rfl ⟨by decide, by decide⟩ ⟨_, rfl, ?_⟩
    subst hr1_1; exact ⟨by simp [z_isSight, *], rfl⟩
  · refine q_iconst hC dX9_isSight_8 (v := 1) (by decide) rfl ?_
    refine q_goto hC dX9_isSight_9 (n := 13) (by decide) ?_
    refine q_iret hC dX9_isSight_13 rfl ⟨by decide, by decide⟩ ⟨_, rfl, ?_⟩
    subst hr1_1; exact ⟨by simp [z_isSight, *], rfl⟩
abbrev rm_X9_memberIndex : Room := { frames := 0, cells := 0, slots := 0, locals := 0 }
set_option maxHeartbeats 4000000 in
set_option maxRecDepth 100000 in
theorem c_X9_memberIndex {L : qL} (hD : q_D L.2.2.2.1) : qCT L yX9_memberIndex cX9_memberIndex 2 (some .int) rm_X9_memberIndex (fun _ _ (x : Int32 × Int32) => [.int x.1, .int x.2]) (fun _ _ => True) (qPi (fun x S r S' => r = z_mi x.1 x.2 ∧ S = S')) := by
  refine q_met hD (by decide) (fun _ => Nat.le_of_ble_eq_true rfl) (fun Γ x S hΓ hpre hC => ?_)
  subst hΓ
  obtain ⟨a, b⟩ := x
  show qV Γ _ _ 0 [(0, .int a), (1, .int b)] [] S (0, 0)
  refine q_iload_n hC 0 dX9_memberIndex_0 rfl rfl ?_
  refine q_bipush hC dX9_memberIndex_1 (v := 97) (by decide) rfl ?_
  refine q_isub hC dX9_memberIndex_3 rfl ?_
  refine q_iconst hC dX9_memberIndex_4 (v := 2) (by decide) rfl ?_
  refine q_imul hC dX9_memberIndex_5 rfl ?_
  refine q_iload_n hC 1 dX9_memberIndex_6 rfl rfl ?_
  refine q_iadd hC dX9_memberIndex_7 rfl ?_
  refine q_iret hC dX9_memberIndex_8 rfl ⟨by decide, by decide⟩ ⟨_, rfl, ?_⟩
  skip; exact ⟨by simp [z_mi, *], rfl⟩
abbrev rm_X9_rowOf : Room := { frames := 0, cells := 0, slots := 0, locals := 0 }
set_option maxHeartbeats 4000000 in
set_option maxRecDepth 100000 in
theorem c_X9_rowOf {L : qL} (hD : q_D L.2.2.2.1) : qCT L yX9_rowOf cX9_rowOf 1 (some .int) rm_X9_rowOf (fun _ _ (x : Int32) => [.int x]) (fun _ _ => True) (qPi (fun x S r S' => r = z_row x ∧ S = S')) := by
  refine q_met hD (by decide) (fun _ => Nat.le_of_ble_eq_true rfl) (fun Γ a S hΓ hpre hC => ?_)
  subst hΓ
  show qV Γ _ _ 0 [(0, .int a)] [] S (0, 0)
  refine q_iload_n hC 0 dX9_rowOf_0 rfl rfl ?_
  refine q_bipush hC dX9_rowOf_1 (v := 88) (by decide) rfl ?_
  refine q_icmp_ne hC dX9_rowOf_3 (t := 10) (n := 6) (by decide) rfl (fun h3 => ?_) (fun h3 => ?_)
  · refine q_iload_n hC 0 dX9_rowOf_10 rfl rfl ?_
    refine q_bipush hC dX9_rowOf_11 (v := 65) (by decide) rfl ?_
    refine q_isub hC dX9_rowOf_13 rfl ?_
    refine q_iret hC dX9_rowOf_14 rfl ⟨by decide, by decide⟩ ⟨_, rfl, ?_⟩
    skip; exact ⟨by simp [z_row, *], rfl⟩
  · refine q_iconst hC dX9_rowOf_6 (v := 5) (by decide) rfl ?_
    refine q_goto hC dX9_rowOf_7 (n := 14) (by decide) ?_
    refine q_iret hC dX9_rowOf_14 rfl ⟨by decide, by decide⟩ ⟨_, rfl, ?_⟩
    skip; exact ⟨by simp [z_row, *], rfl⟩
abbrev rm_X9_with : Room := { frames := 0, cells := 0, slots := 0, locals := 0 }
set_option maxHeartbeats 4000000 in
set_option maxRecDepth 100000 in
theorem c_X9_with {L : qL} (hD : q_D L.2.2.2.1) : qCT L yX9_with cX9_with 3 (some .int) rm_X9_with (fun _ _ (x : Int32 × Int32 × Int32) => [.int x.1, .int x.2.1, .int x.2.2]) (fun _ _ => True) (qPi (fun x S r S' => r = z_with x.1 x.2.1 x.2.2 ∧ S = S')) := by
  refine q_met hD (by decide) (fun _ => Nat.le_of_ble_eq_true rfl) (fun Γ x S hΓ hpre hC => ?_)
  subst hΓ
  obtain ⟨a, b, c⟩ := x
  show qV Γ _ _ 0 [(0, .int a), (1, .int b), (2, .int c)] [] S (0, 0)
  refine q_iload_n hC 2 dX9_with_0 rfl rfl ?_
  refine q_if_eq hC dX9_with_1 (t := 12) (n := 4) (by decide) rfl (fun h1 => ?_) (fun h1 => ?_)
  · refine q_iload_n hC 0 dX9_with_12 rfl rfl ?_
    refine q_iconst hC dX9_with_13 (v := 1) (by decide) rfl ?_
    refine q_iload_n hC 1 dX9_with_14 rfl rfl ?_
    refine q_ishl hC dX9_with_15 rfl ?_
    refine q_iconst hC dX9_with_16 (v := (-1)) (by decide) rfl ?_
    refine q_ixor hC dX9_with_17 rfl ?_
    refine q_iand hC dX9_with_18 rfl ?_
    refine q_iret hC dX9_with_19 rfl ⟨by decide, by decide⟩ ⟨_, rfl, ?_⟩
    skip; exact ⟨by simp [z_with, *], rfl⟩
  · refine q_iload_n hC 0 dX9_with_4 rfl rfl ?_
    refine q_iconst hC dX9_with_5 (v := 1) (by decide) rfl ?_
    refine q_iload_n hC 1 dX9_with_6 rfl rfl ?_
    refine q_ishl hC dX9_with_7 rfl ?_
    refine q_ior hC dX9_with_8 rfl ?_
    refine q_goto hC dX9_with_9 (n := 19) (by decide) ?_
    refine q_iret hC dX9_with_19 rfl ⟨by decide, by decide⟩ ⟨_, rfl, ?_⟩
    skip; exact ⟨by simp [z_with, *], rfl⟩
abbrev rm_J6_bitCount_0f7a4 : Room := { frames := 0, cells := 0, slots := 0, locals := 0 }
set_option maxHeartbeats 4000000 in
set_option maxRecDepth 100000 in
theorem c_J6_bitCount_0f7a4 {L : qL} (hD : q_D L.2.2.2.1) : qCT L yJ6_bitCount_0f7a4 cJ6_bitCount_0f7a4 1 (some .int) rm_J6_bitCount_0f7a4 (fun _ _ (x : Int32) => [.int x]) (fun _ _ => True) (qPi (fun x S r S' => r = z_bc x ∧ S = S')) := by
  refine q_met hD (by decide) (fun _ => Nat.le_of_ble_eq_true rfl) (fun Γ a S hΓ hpre hC => ?_)
  subst hΓ
  show qV Γ _ _ 0 [(0, .int a)] [] S (0, 0)
  refine q_iload_n hC 0 dJ6_bitCount_0f7a4_0 rfl rfl ?_
  refine q_iload_n hC 0 dJ6_bitCount_0f7a4_1 rfl rfl ?_
  refine q_iconst hC dJ6_bitCount_0f7a4_2 (v := 1) (by decide) rfl ?_
  refine q_iushr hC dJ6_bitCount_0f7a4_3 rfl ?_
  refine q_ldc_w hC dJ6_bitCount_0f7a4_4 cn_J6_265 rfl ?_
  refine q_iand hC dJ6_bitCount_0f7a4_7 rfl ?_
  refine q_isub hC dJ6_bitCount_0f7a4_8 rfl ?_
  refine q_istore_n hC dJ6_bitCount_0f7a4_9 (by decide) (ls' := [(0, _)]) rfl rfl ?_
  refine q_iload_n hC 0 dJ6_bitCount_0f7a4_10 rfl rfl ?_
  refine q_ldc_w hC dJ6_bitCount_0f7a4_11 cn_J6_266 rfl ?_
  refine q_iand hC dJ6_bitCount_0f7a4_14 rfl ?_
  refine q_iload_n hC 0 dJ6_bitCount_0f7a4_15 rfl rfl ?_
  refine q_iconst hC dJ6_bitCount_0f7a4_16 (v := 2) (by decide) rfl ?_
  refine q_iushr hC dJ6_bitCount_0f7a4_17 rfl ?_
  refine q_ldc_w hC dJ6_bitCount_0f7a4_18 cn_J6_266 rfl ?_
  refine q_iand hC dJ6_bitCount_0f7a4_21 rfl ?_
  refine q_iadd hC dJ6_bitCount_0f7a4_22 rfl ?_
  refine q_istore_n hC dJ6_bitCount_0f7a4_23 (by decide) (ls' := [(0, _)]) rfl rfl ?_
  refine q_iload_n hC 0 dJ6_bitCount_0f7a4_24 rfl rfl ?_
  refine q_iload_n hC 0 dJ6_bitCount_0f7a4_25 rfl rfl ?_
  refine q_iconst hC dJ6_bitCount_0f7a4_26 (v := 4) (by decide) rfl ?_
  refine q_iushr hC dJ6_bitCount_0f7a4_27 rfl ?_
  refine q_iadd hC dJ6_bitCount_0f7a4_28 rfl ?_
  refine q_ldc_w hC dJ6_bitCount_0f7a4_29 cn_J6_267 rfl ?_
  refine q_iand hC dJ6_bitCount_0f7a4_32 rfl ?_
  refine q_istore_n hC dJ6_bitCount_0f7a4_33 (by decide) (ls' := [(0, _)]) rfl rfl ?_
  refine q_iload_n hC 0 dJ6_bitCount_0f7a4_34 rfl rfl ?_
  refine q_iload_n hC 0 dJ6_bitCount_0f7a4_35 rfl rfl ?_
  refine q_bipush hC dJ6_bitCount_0f7a4_36 (v := 8) (by decide) rfl ?_
  refine q_iushr hC dJ6_bitCount_0f7a4_38 rfl ?_
  refine q_iadd hC dJ6_bitCount_0f7a4_39 rfl ?_
  refine q_istore_n hC dJ6_bitCount_0f7a4_40 (by decide) (ls' := [(0, _)]) rfl rfl ?_
  refine q_iload_n hC 0 dJ6_bitCount_0f7a4_41 rfl rfl ?_
  refine q_iload_n hC 0 dJ6_bitCount_0f7a4_42 rfl rfl ?_
  refine q_bipush hC dJ6_bitCount_0f7a4_43 (v := 16) (by decide) rfl ?_
  refine q_iushr hC dJ6_bitCount_0f7a4_45 rfl ?_
  refine q_iadd hC dJ6_bitCount_0f7a4_46 rfl ?_
  refine q_istore_n hC dJ6_bitCount_0f7a4_47 (by decide) (ls' := [(0, _)]) rfl rfl ?_
  refine q_iload_n hC 0 dJ6_bitCount_0f7a4_48 rfl rfl ?_
  refine q_bipush hC dJ6_bitCount_0f7a4_49 (v := 63) (by decide) rfl ?_
  refine q_iand hC dJ6_bitCount_0f7a4_51 rfl ?_
  refine q_iret hC dJ6_bitCount_0f7a4_52 rfl ⟨by decide, by decide⟩ ⟨_, rfl, ?_⟩
  exact ⟨rfl, rfl⟩
