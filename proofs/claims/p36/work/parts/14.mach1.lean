-- printed by wip/p36/gen_m2.py
def z_af (S : qM) (i : Nat) (a b : Int32) : Int32 := if S 2 i a.toNatClampNeg = 45 then 67 else if (if b = 0 then (if S 2 i a.toNatClampNeg = 105 then 1 else if S 5 i a.toNatClampNeg = 0 then 0 else 1) else (if S 2 i a.toNatClampNeg = 99 then 1 else 0)) = (0 : Int32) then (if S 3 i a.toNatClampNeg = 0 then 76 else 45) else 73
def z_mba (S : qM) (i : Nat) (a b : Int32) : Int32 := if a = -1 then (if b &&& (S 17 i 12 ^^^ (-1)) = 0 then 1 else 0) else if z_has (S 17 i 11) a = 0 then 0 else (if b &&& (S 17 i 12 ^^^ (-1)) = 0 then 1 else 0)
def z_isc (S : qM) (i : Nat) (a : Int32) : Int32 := if a = 5 then 1 else if S 2 i a.toNatClampNeg = 99 then 1 else 0
def z_mf (S : qM) (i : Nat) (a : Int32) : Int32 := if a = 5 then (if S 0 i 5 = -1 then 45 else if S 6 i (S 0 i 5).toNatClampNeg = 112 then 45 else if S 6 i (S 0 i 5).toNatClampNeg = 111 then 45 else 76)
  else if S 2 i a.toNatClampNeg = 45 then 67 else if S 3 i a.toNatClampNeg = 0 then 76 else if S 2 i a.toNatClampNeg = 105 then 78 else if S 4 i a.toNatClampNeg = 0 then (if S 6 i a.toNatClampNeg = 112 then 45 else 76) else 78
def z_tf (S : qM) (i : Nat) (k a : Int32) : Int32 := if a = -1 then 67 else if a = 5 then (if k = 3 then 73 else 45) else if S 2 i a.toNatClampNeg = 45 then 67 else if S 3 i a.toNatClampNeg = 0 then 76
  else if S 2 i a.toNatClampNeg = 105 then (if k = 2 then 73 else if k = 4 then 73 else 45) else (if k = 3 then 73 else 45)
def z_ouf (k : Int32) : Int32 := if k = 1 then 73 else 45
abbrev rm_X5_aboveFault : Room := { frames := 0, cells := 0, slots := 0, locals := 0 }
set_option maxHeartbeats 4000000 in
set_option maxRecDepth 100000 in
theorem c_X5_aboveFault {L : qL} (hD : q_D L.2.2.2.1) : qCT L yX5_aboveFault cX5_aboveFault 4 (some .char) rm_X5_aboveFault (fun ad _ (x : Nat × Int32 × Int32) => [.ref (ad 0 x.1), .int x.2.1, .int x.2.2]) (fun x _ => x.1 < 4 ∧ z_lt x.2.1 5) (qPi (fun x S r S' => r = z_af S x.1 x.2.1 x.2.2 ∧ S = S')) := by
  refine q_met hD (by decide) (fun _ => Nat.le_of_ble_eq_true rfl) (fun Γ x S hΓ hpre hC => ?_)
  subst hΓ
  obtain ⟨i, a, b⟩ := x
  obtain ⟨hi, ha⟩ := hpre
  have hi : i < 4 := hi
  have ha : z_lt a 5 := ha
  show qV Γ _ _ 0 [(0, .ref (q_ad Γ 0 i)), (1, .int a), (2, .int b)] [] S (0, 0)
  refine q_aload_n hC 0 dX5_aboveFault_0 rfl rfl ?_
  refine q_get_f hC f_X5_12 dX5_aboveFault_1 rfl rfl hi rfl ?_
  refine q_get_f hC f_X5_94 dX5_aboveFault_4 rfl rfl hi rfl ?_
  refine q_iload_n hC 1 dX5_aboveFault_7 rfl rfl ?_
  refine q_cald hC dX5_aboveFault_8 rfl hi (z_in ha (by decide)) rfl ?_
  refine q_bipush hC dX5_aboveFault_9 (v := 45) (by decide) rfl ?_
  refine q_icmp_ne hC dX5_aboveFault_11 (t := 17) (n := 14) (by decide) rfl (fun h11 => ?_) (fun h11 => ?_)
  · refine q_iload_n hC 2 dX5_aboveFault_17 rfl rfl ?_
    refine q_if_eq hC dX5_aboveFault_18 (t := 43) (n := 21) (by decide) rfl (fun h18 => ?_) (fun h18 => ?_)
    · refine q_aload_n hC 0 dX5_aboveFault_43 rfl rfl ?_
      refine q_get_f hC f_X5_12 dX5_aboveFault_44 rfl rfl hi rfl ?_
      refine q_get_f hC f_X5_94 dX5_aboveFault_47 rfl rfl hi rfl ?_
      refine q_iload_n hC 1 dX5_aboveFault_50 rfl rfl ?_
      refine q_cald hC dX5_aboveFault_51 rfl hi (z_in ha (by decide)) rfl ?_
      refine q_bipush hC dX5_aboveFault_52 (v := 105) (by decide) rfl ?_
      refine q_icmp_eq hC dX5_aboveFault_54 (t := 69) (n := 57) (by decide) rfl (fun h54 => ?_) (fun h54 => ?_)
      · refine q_iconst hC dX5_aboveFault_69 (v := 1) (by decide) rfl ?_
        refine q_goto hC dX5_aboveFault_70 (n := 74) (by decide) ?_
        refine q_istore_n hC dX5_aboveFault_74 (by decide) (ls' := [(0, _), (1, _), (2, _), (3, _)]) rfl rfl ?_
        refine q_iload_n hC 3 dX5_aboveFault_75 rfl rfl ?_
        refine q_if_eq hC dX5_aboveFault_76 (t := 82) (n := 79) (by decide) rfl (fun h => absurd h (by decide)) (fun _ => ?_)
        refine q_bipush hC dX5_aboveFault_79 (v := 73) (by decide) rfl ?_
        refine q_iret hC dX5_aboveFault_81 rfl ⟨by decide, by decide⟩ ⟨_, rfl, ?_⟩
        skip; exact ⟨by simp only [z_af, if_neg h11, if_pos h18, if_pos h54, z_e10, z_e01, if_true, if_false], rfl⟩
      · refine q_aload_n hC 0 dX5_aboveFault_57 rfl rfl ?_
        refine q_get_f hC f_X5_12 dX5_aboveFault_58 rfl rfl hi rfl ?_
        refine q_get_f hC f_X5_98 dX5_aboveFault_61 rfl rfl hi rfl ?_
        refine q_iload_n hC 1 dX5_aboveFault_64 rfl rfl ?_
        refine q_zald hC dX5_aboveFault_65 rfl hi (z_in ha (by decide)) rfl ?_
        refine q_if_eq hC dX5_aboveFault_66 (t := 73) (n := 69) (by decide) rfl (fun h66 => ?_) (fun h66 => ?_)
        · refine q_iconst hC dX5_aboveFault_73 (v := 0) (by decide) rfl ?_
          refine q_istore_n hC dX5_aboveFault_74 (by decide) (ls' := [(0, _), (1, _), (2, _), (3, _)]) rfl rfl ?_
          refine q_iload_n hC 3 dX5_aboveFault_75 rfl rfl ?_
          refine q_if_eq hC dX5_aboveFault_76 (t := 82) (n := 79) (by decide) rfl (fun _ => ?_) (fun h => absurd (by decide) h)
          refine q_aload_n hC 0 dX5_aboveFault_82 rfl rfl ?_
          refine q_get_f hC f_X5_12 dX5_aboveFault_83 rfl rfl hi rfl ?_
          refine q_get_f hC f_X5_102 dX5_aboveFault_86 rfl rfl hi rfl ?_
          refine q_iload_n hC 1 dX5_aboveFault_89 rfl rfl ?_
          refine q_zald hC dX5_aboveFault_90 rfl hi (z_in ha (by decide)) rfl ?_
          refine q_if_eq hC dX5_aboveFault_91 (t := 99) (n := 94) (by decide) rfl (fun h91 => ?_) (fun h91 => ?_)
          · refine q_bipush hC dX5_aboveFault_99 (v := 76) (by decide) rfl ?_
            refine q_iret hC dX5_aboveFault_101 rfl ⟨by decide, by decide⟩ ⟨_, rfl, ?_⟩
            skip; exact ⟨by simp only [z_af, if_neg h11, if_pos h18, if_neg h54, if_pos h66, if_pos h91, z_e10, z_e01, if_true, if_false], rfl⟩
          · refine q_bipush hC dX5_aboveFault_94 (v := 45) (by decide) rfl ?_
            refine q_goto hC dX5_aboveFault_96 (n := 101) (by decide) ?_
            refine q_iret hC dX5_aboveFault_101 rfl ⟨by decide, by decide⟩ ⟨_, rfl, ?_⟩
            skip; exact ⟨by simp only [z_af, if_neg h11, if_pos h18, if_neg h54, if_pos h66, if_neg h91, z_e10, z_e01, if_true, if_false], rfl⟩
        · refine q_iconst hC dX5_aboveFault_69 (v := 1) (by decide) rfl ?_
          refine q_goto hC dX5_aboveFault_70 (n := 74) (by decide) ?_
          refine q_istore_n hC dX5_aboveFault_74 (by decide) (ls' := [(0, _), (1, _), (2, _), (3, _)]) rfl rfl ?_
          refine q_iload_n hC 3 dX5_aboveFault_75 rfl rfl ?_
          refine q_if_eq hC dX5_aboveFault_76 (t := 82) (n := 79) (by decide) rfl (fun h => absurd h (by decide)) (fun _ => ?_)
          refine q_bipush hC dX5_aboveFault_79 (v := 73) (by decide) rfl ?_
          refine q_iret hC dX5_aboveFault_81 rfl ⟨by decide, by decide⟩ ⟨_, rfl, ?_⟩
          skip; exact ⟨by simp only [z_af, if_neg h11, if_pos h18, if_neg h54, if_neg h66, z_e10, z_e01, if_true, if_false], rfl⟩
    · refine q_aload_n hC 0 dX5_aboveFault_21 rfl rfl ?_
      refine q_get_f hC f_X5_12 dX5_aboveFault_22 rfl rfl hi rfl ?_
      refine q_get_f hC f_X5_94 dX5_aboveFault_25 rfl rfl hi rfl ?_
      refine q_iload_n hC 1 dX5_aboveFault_28 rfl rfl ?_
      refine q_cald hC dX5_aboveFault_29 rfl hi (z_in ha (by decide)) rfl ?_
      refine q_bipush hC dX5_aboveFault_30 (v := 99) (by decide) rfl ?_
      refine q_icmp_ne hC dX5_aboveFault_32 (t := 39) (n := 35) (by decide) rfl (fun h32 => ?_) (fun h32 => ?_)
      · refine q_iconst hC dX5_aboveFault_39 (v := 0) (by decide) rfl ?_
        refine q_goto hC dX5_aboveFault_40 (n := 74) (by decide) ?_
        refine q_istore_n hC dX5_aboveFault_74 (by decide) (ls' := [(0, _), (1, _), (2, _), (3, _)]) rfl rfl ?_
        refine q_iload_n hC 3 dX5_aboveFault_75 rfl rfl ?_
        refine q_if_eq hC dX5_aboveFault_76 (t := 82) (n := 79) (by decide) rfl (fun _ => ?_) (fun h => absurd (by decide) h)
        refine q_aload_n hC 0 dX5_aboveFault_82 rfl rfl ?_
        refine q_get_f hC f_X5_12 dX5_aboveFault_83 rfl rfl hi rfl ?_
        refine q_get_f hC f_X5_102 dX5_aboveFault_86 rfl rfl hi rfl ?_
        refine q_iload_n hC 1 dX5_aboveFault_89 rfl rfl ?_
        refine q_zald hC dX5_aboveFault_90 rfl hi (z_in ha (by decide)) rfl ?_
        refine q_if_eq hC dX5_aboveFault_91 (t := 99) (n := 94) (by decide) rfl (fun h91 => ?_) (fun h91 => ?_)
        · refine q_bipush hC dX5_aboveFault_99 (v := 76) (by decide) rfl ?_
          refine q_iret hC dX5_aboveFault_101 rfl ⟨by decide, by decide⟩ ⟨_, rfl, ?_⟩
          skip; exact ⟨by simp only [z_af, if_neg h11, if_neg h18, if_neg h32, if_pos h91, z_e10, z_e01, if_true, if_false], rfl⟩
        · refine q_bipush hC dX5_aboveFault_94 (v := 45) (by decide) rfl ?_
          refine q_goto hC dX5_aboveFault_96 (n := 101) (by decide) ?_
          refine q_iret hC dX5_aboveFault_101 rfl ⟨by decide, by decide⟩ ⟨_, rfl, ?_⟩
          skip; exact ⟨by simp only [z_af, if_neg h11, if_neg h18, if_neg h32, if_neg h91, z_e10, z_e01, if_true, if_false], rfl⟩
      · refine q_iconst hC dX5_aboveFault_35 (v := 1) (by decide) rfl ?_
        refine q_goto hC dX5_aboveFault_36 (n := 74) (by decide) ?_
        refine q_istore_n hC dX5_aboveFault_74 (by decide) (ls' := [(0, _), (1, _), (2, _), (3, _)]) rfl rfl ?_
        refine q_iload_n hC 3 dX5_aboveFault_75 rfl rfl ?_
        refine q_if_eq hC dX5_aboveFault_76 (t := 82) (n := 79) (by decide) rfl (fun h => absurd h (by decide)) (fun _ => ?_)
        refine q_bipush hC dX5_aboveFault_79 (v := 73) (by decide) rfl ?_
        refine q_iret hC dX5_aboveFault_81 rfl ⟨by decide, by decide⟩ ⟨_, rfl, ?_⟩
        skip; exact ⟨by simp only [z_af, if_neg h11, if_neg h18, if_pos h32, z_e10, z_e01, if_true, if_false], rfl⟩
  · refine q_bipush hC dX5_aboveFault_14 (v := 67) (by decide) rfl ?_
    refine q_iret hC dX5_aboveFault_16 rfl ⟨by decide, by decide⟩ ⟨_, rfl, ?_⟩
    skip; exact ⟨by simp only [z_af, if_pos h11, z_e10, z_e01, if_true, if_false], rfl⟩
abbrev rm_X5_mayBeAbove : Room := { frames := 1, cells := 0, slots := 0, locals := 21 }
set_option maxHeartbeats 4000000 in
set_option maxRecDepth 100000 in
theorem c_X5_mayBeAbove {L : qL} (hD : q_D L.2.2.2.1) : qCT L yX5_mayBeAbove cX5_mayBeAbove 3 (some .boolean) rm_X5_mayBeAbove (fun ad _ (x : Nat × Int32 × Int32) => [.ref (ad 0 x.1), .int x.2.1, .int x.2.2]) (fun x _ => x.1 < 4) (qPi (fun x S r S' => r = z_mba S x.1 x.2.1 x.2.2 ∧ S = S')) := by
  refine q_met hD (by decide) (fun _ => Nat.le_of_ble_eq_true rfl) (fun Γ x S hΓ hpre hC => ?_)
  subst hΓ
  obtain ⟨i, a, b⟩ := x
  have hi : i < 4 := hpre
  show qV Γ _ _ 0 [(0, .ref (q_ad Γ 0 i)), (1, .int a), (2, .int b)] [] S (0, 0)
  refine q_iload_n hC 1 dX5_mayBeAbove_0 rfl rfl ?_
  refine q_iconst hC dX5_mayBeAbove_1 (v := (-1)) (by decide) rfl ?_
  refine q_icmp_eq hC dX5_mayBeAbove_2 (t := 19) (n := 5) (by decide) rfl (fun h2 => ?_) (fun h2 => ?_)
  · refine q_iload_n hC 2 dX5_mayBeAbove_19 rfl rfl ?_
    refine q_aload_n hC 0 dX5_mayBeAbove_20 rfl rfl ?_
    refine q_get_f hC f_X5_21 dX5_mayBeAbove_21 rfl rfl hi rfl ?_
    refine q_get_f hC f_X5_91 dX5_mayBeAbove_24 rfl rfl hi rfl ?_
    refine q_iconst hC dX5_mayBeAbove_27 (v := (-1)) (by decide) rfl ?_
    refine q_ixor hC dX5_mayBeAbove_28 rfl ?_
    refine q_iand hC dX5_mayBeAbove_29 rfl ?_
    refine q_if_ne hC dX5_mayBeAbove_30 (t := 37) (n := 33) (by decide) rfl (fun h30 => ?_) (fun h30 => ?_)
    · refine q_iconst hC dX5_mayBeAbove_37 (v := 0) (by decide) rfl ?_
      refine q_iret hC dX5_mayBeAbove_38 rfl ⟨by decide, by decide⟩ ⟨_, rfl, ?_⟩
      skip; exact ⟨by simp only [z_mba, if_pos h2, if_neg h30, z_e10, z_e01, if_true, if_false], rfl⟩
    · refine q_iconst hC dX5_mayBeAbove_33 (v := 1) (by decide) rfl ?_
      refine q_goto hC dX5_mayBeAbove_34 (n := 38) (by decide) ?_
      refine q_iret hC dX5_mayBeAbove_38 rfl ⟨by decide, by decide⟩ ⟨_, rfl, ?_⟩
      skip; exact ⟨by simp only [z_mba, if_pos h2, if_pos h30, z_e10, z_e01, if_true, if_false], rfl⟩
  · refine q_aload_n hC 0 dX5_mayBeAbove_5 rfl rfl ?_
    refine q_get_f hC f_X5_21 dX5_mayBeAbove_6 rfl rfl hi rfl ?_
    refine q_get_f hC f_X5_88 dX5_mayBeAbove_9 rfl rfl hi rfl ?_
    refine q_iload_n hC 1 dX5_mayBeAbove_12 rfl rfl ?_
    refine q_callSN hC (c_X9_has (q_hD hC)) m_X9_has ln_X5_70 dX5_mayBeAbove_13 (_, _) rfl rfl (Nat.le_of_ble_eq_true rfl) ⟨⟨by decide, by decide⟩, by decide, by decide⟩ rfl (k' := (0, 0)) rfl trivial (fun v S' hp => ?_)
    obtain ⟨r13_3, rfl, hr13_3, rfl⟩ := hp
    show qV Γ _ _ 16 _ (.int _ :: _) _ _
    refine q_if_eq hC dX5_mayBeAbove_16 (t := 37) (n := 19) (by decide) rfl (fun h16 => ?_) (fun h16 => ?_)
    · refine q_iconst hC dX5_mayBeAbove_37 (v := 0) (by decide) rfl ?_
      refine q_iret hC dX5_mayBeAbove_38 rfl ⟨by decide, by decide⟩ ⟨_, rfl, ?_⟩
      subst hr13_3; exact ⟨by simp only [z_mba, if_neg h2, if_pos h16, z_e10, z_e01, if_true, if_false], rfl⟩
    · refine q_iload_n hC 2 dX5_mayBeAbove_19 rfl rfl ?_
      refine q_aload_n hC 0 dX5_mayBeAbove_20 rfl rfl ?_
      refine q_get_f hC f_X5_21 dX5_mayBeAbove_21 rfl rfl hi rfl ?_
      refine q_get_f hC f_X5_91 dX5_mayBeAbove_24 rfl rfl hi rfl ?_
      refine q_iconst hC dX5_mayBeAbove_27 (v := (-1)) (by decide) rfl ?_
      refine q_ixor hC dX5_mayBeAbove_28 rfl ?_
      refine q_iand hC dX5_mayBeAbove_29 rfl ?_
      refine q_if_ne hC dX5_mayBeAbove_30 (t := 37) (n := 33) (by decide) rfl (fun h30 => ?_) (fun h30 => ?_)
      · refine q_iconst hC dX5_mayBeAbove_37 (v := 0) (by decide) rfl ?_
        refine q_iret hC dX5_mayBeAbove_38 rfl ⟨by decide, by decide⟩ ⟨_, rfl, ?_⟩
        subst hr13_3; exact ⟨by simp only [z_mba, if_neg h2, if_neg h16, if_neg h30, z_e10, z_e01, if_true, if_false], rfl⟩
      · refine q_iconst hC dX5_mayBeAbove_33 (v := 1) (by decide) rfl ?_
        refine q_goto hC dX5_mayBeAbove_34 (n := 38) (by decide) ?_
        refine q_iret hC dX5_mayBeAbove_38 rfl ⟨by decide, by decide⟩ ⟨_, rfl, ?_⟩
        subst hr13_3; exact ⟨by simp only [z_mba, if_neg h2, if_neg h16, if_pos h30, z_e10, z_e01, if_true, if_false], rfl⟩
abbrev rm_X5_isClass : Room := { frames := 0, cells := 0, slots := 0, locals := 0 }
set_option maxHeartbeats 4000000 in
set_option maxRecDepth 100000 in
theorem c_X5_isClass {L : qL} (hD : q_D L.2.2.2.1) : qCT L yX5_isClass cX5_isClass 2 (some .boolean) rm_X5_isClass (fun ad _ (x : Nat × Int32) => [.ref (ad 0 x.1), .int x.2]) (fun x _ => x.1 < 4 ∧ z_lt x.2 6) (qPi (fun x S r S' => r = z_isc S x.1 x.2 ∧ S = S')) := by
  refine q_met hD (by decide) (fun _ => Nat.le_of_ble_eq_true rfl) (fun Γ x S hΓ hpre hC => ?_)
  subst hΓ
  obtain ⟨i, a⟩ := x
  obtain ⟨hi, ha⟩ := hpre
  have hi : i < 4 := hi
  have ha : z_lt a 6 := ha
  show qV Γ _ _ 0 [(0, .ref (q_ad Γ 0 i)), (1, .int a)] [] S (0, 0)
  refine q_iload_n hC 1 dX5_isClass_0 rfl rfl ?_
  refine q_iconst hC dX5_isClass_1 (v := 5) (by decide) rfl ?_
  refine q_icmp_eq hC dX5_isClass_2 (t := 19) (n := 5) (by decide) rfl (fun h2 => ?_) (fun h2 => ?_)
  · refine q_iconst hC dX5_isClass_19 (v := 1) (by decide) rfl ?_
    refine q_goto hC dX5_isClass_20 (n := 24) (by decide) ?_
    refine q_iret hC dX5_isClass_24 rfl ⟨by decide, by decide⟩ ⟨_, rfl, ?_⟩
    skip; exact ⟨by simp only [z_isc, if_pos h2, z_e10, z_e01, if_true, if_false], rfl⟩
  · refine q_aload_n hC 0 dX5_isClass_5 rfl rfl ?_
    refine q_get_f hC f_X5_12 dX5_isClass_6 rfl rfl hi rfl ?_
    refine q_get_f hC f_X5_94 dX5_isClass_9 rfl rfl hi rfl ?_
    refine q_iload_n hC 1 dX5_isClass_12 rfl rfl ?_
    refine q_cald hC dX5_isClass_13 rfl hi (z_in (z_lt5 ha h2) (by decide)) rfl ?_
    refine q_bipush hC dX5_isClass_14 (v := 99) (by decide) rfl ?_
    refine q_icmp_ne hC dX5_isClass_16 (t := 23) (n := 19) (by decide) rfl (fun h16 => ?_) (fun h16 => ?_)
    · refine q_iconst hC dX5_isClass_23 (v := 0) (by decide) rfl ?_
      refine q_iret hC dX5_isClass_24 rfl ⟨by decide, by decide⟩ ⟨_, rfl, ?_⟩
      skip; exact ⟨by simp only [z_isc, if_neg h2, if_neg h16, z_e10, z_e01, if_true, if_false], rfl⟩
    · refine q_iconst hC dX5_isClass_19 (v := 1) (by decide) rfl ?_
      refine q_goto hC dX5_isClass_20 (n := 24) (by decide) ?_
      refine q_iret hC dX5_isClass_24 rfl ⟨by decide, by decide⟩ ⟨_, rfl, ?_⟩
      skip; exact ⟨by simp only [z_isc, if_neg h2, if_pos h16, z_e10, z_e01, if_true, if_false], rfl⟩
abbrev rm_X5_makingFault : Room := { frames := 0, cells := 0, slots := 0, locals := 0 }
set_option maxHeartbeats 4000000 in
set_option maxRecDepth 100000 in
theorem c_X5_makingFault {L : qL} (hD : q_D L.2.2.2.1) : qCT L yX5_makingFault cX5_makingFault 3 (some .char) rm_X5_makingFault (fun ad _ (x : Nat × Int32) => [.ref (ad 0 x.1), .int x.2]) (fun x S => x.1 < 4 ∧ z_lt x.2 6 ∧ z_v5 (S 0 x.1 5)) (qPi (fun x S r S' => r = z_mf S x.1 x.2 ∧ S = S')) := by
  refine q_met hD (by decide) (fun _ => Nat.le_of_ble_eq_true rfl) (fun Γ x S hΓ hpre hC => ?_)
  subst hΓ
  obtain ⟨i, a⟩ := x
  obtain ⟨hi, ha, hg⟩ := hpre
  have hi : i < 4 := hi
  have ha : z_lt a 6 := ha
  have hg : z_v5 (S 0 i 5) := hg
  show qV Γ _ _ 0 [(0, .ref (q_ad Γ 0 i)), (1, .int a)] [] S (0, 0)
  refine q_iload_n hC 1 dX5_makingFault_0 rfl rfl ?_
  refine q_iconst hC dX5_makingFault_1 (v := 5) (by decide) rfl ?_
  refine q_icmp_ne hC dX5_makingFault_2 (t := 51) (n := 5) (by decide) rfl (fun h2 => ?_) (fun h2 => ?_)
  · refine q_aload_n hC 0 dX5_makingFault_51 rfl rfl ?_
    refine q_get_f hC f_X5_12 dX5_makingFault_52 rfl rfl hi rfl ?_
    refine q_get_f hC f_X5_94 dX5_makingFault_55 rfl rfl hi rfl ?_
    refine q_iload_n hC 1 dX5_makingFault_58 rfl rfl ?_
    refine q_cald hC dX5_makingFault_59 rfl hi (z_in (z_lt5 ha h2) (by decide)) rfl ?_
    refine q_bipush hC dX5_makingFault_60 (v := 45) (by decide) rfl ?_
    refine q_icmp_ne hC dX5_makingFault_62 (t := 68) (n := 65) (by decide) rfl (fun h62 => ?_) (fun h62 => ?_)
    · refine q_aload_n hC 0 dX5_makingFault_68 rfl rfl ?_
      refine q_get_f hC f_X5_12 dX5_makingFault_69 rfl rfl hi rfl ?_
      refine q_get_f hC f_X5_102 dX5_makingFault_72 rfl rfl hi rfl ?_
      refine q_iload_n hC 1 dX5_makingFault_75 rfl rfl ?_
      refine q_zald hC dX5_makingFault_76 rfl hi (z_in (z_lt5 ha h2) (by decide)) rfl ?_
      refine q_if_ne hC dX5_makingFault_77 (t := 83) (n := 80) (by decide) rfl (fun h77 => ?_) (fun h77 => ?_)
      · refine q_aload_n hC 0 dX5_makingFault_83 rfl rfl ?_
        refine q_get_f hC f_X5_12 dX5_makingFault_84 rfl rfl hi rfl ?_
        refine q_get_f hC f_X5_94 dX5_makingFault_87 rfl rfl hi rfl ?_
        refine q_iload_n hC 1 dX5_makingFault_90 rfl rfl ?_
        refine q_cald hC dX5_makingFault_91 rfl hi (z_in (z_lt5 ha h2) (by decide)) rfl ?_
        refine q_bipush hC dX5_makingFault_92 (v := 105) (by decide) rfl ?_
        refine q_icmp_eq hC dX5_makingFault_94 (t := 109) (n := 97) (by decide) rfl (fun h94 => ?_) (fun h94 => ?_)
        · refine q_bipush hC dX5_makingFault_109 (v := 78) (by decide) rfl ?_
          refine q_iret hC dX5_makingFault_111 rfl ⟨by decide, by decide⟩ ⟨_, rfl, ?_⟩
          skip; exact ⟨by simp only [z_mf, if_neg h2, if_neg h62, if_neg h77, if_pos h94, z_e10, z_e01, if_true, if_false], rfl⟩
        · refine q_aload_n hC 0 dX5_makingFault_97 rfl rfl ?_
          refine q_get_f hC f_X5_12 dX5_makingFault_98 rfl rfl hi rfl ?_
          refine q_get_f hC f_X5_162 dX5_makingFault_101 rfl rfl hi rfl ?_
          refine q_iload_n hC 1 dX5_makingFault_104 rfl rfl ?_
          refine q_zald hC dX5_makingFault_105 rfl hi (z_in (z_lt5 ha h2) (by decide)) rfl ?_
          refine q_if_eq hC dX5_makingFault_106 (t := 112) (n := 109) (by decide) rfl (fun h106 => ?_) (fun h106 => ?_)
          · refine q_aload_n hC 0 dX5_makingFault_112 rfl rfl ?_
            refine q_get_f hC f_X5_12 dX5_makingFault_113 rfl rfl hi rfl ?_
            refine q_get_f hC f_X5_159 dX5_makingFault_116 rfl rfl hi rfl ?_
            refine q_iload_n hC 1 dX5_makingFault_119 rfl rfl ?_
            refine q_cald hC dX5_makingFault_120 rfl hi (z_in (z_lt5 ha h2) (by decide)) rfl ?_
            refine q_bipush hC dX5_makingFault_121 (v := 112) (by decide) rfl ?_
            refine q_icmp_ne hC dX5_makingFault_123 (t := 131) (n := 126) (by decide) rfl (fun h123 => ?_) (fun h123 => ?_)
            · refine q_bipush hC dX5_makingFault_131 (v := 76) (by decide) rfl ?_
              refine q_iret hC dX5_makingFault_133 rfl ⟨by decide, by decide⟩ ⟨_, rfl, ?_⟩
              skip; exact ⟨by simp only [z_mf, if_neg h2, if_neg h62, if_neg h77, if_neg h94, if_pos h106, if_neg h123, z_e10, z_e01, if_true, if_false], rfl⟩
            · refine q_bipush hC dX5_makingFault_126 (v := 45) (by decide) rfl ?_
              refine q_goto hC dX5_makingFault_128 (n := 133) (by decide) ?_
              refine q_iret hC dX5_makingFault_133 rfl ⟨by decide, by decide⟩ ⟨_, rfl, ?_⟩
              skip; exact ⟨by simp only [z_mf, if_neg h2, if_neg h62, if_neg h77, if_neg h94, if_pos h106, if_pos h123, z_e10, z_e01, if_true, if_false], rfl⟩
          · refine q_bipush hC dX5_makingFault_109 (v := 78) (by decide) rfl ?_
            refine q_iret hC dX5_makingFault_111 rfl ⟨by decide, by decide⟩ ⟨_, rfl, ?_⟩
            skip; exact ⟨by simp only [z_mf, if_neg h2, if_neg h62, if_neg h77, if_neg h94, if_neg h106, z_e10, z_e01, if_true, if_false], rfl⟩
      · refine q_bipush hC dX5_makingFault_80 (v := 76) (by decide) rfl ?_
        refine q_iret hC dX5_makingFault_82 rfl ⟨by decide, by decide⟩ ⟨_, rfl, ?_⟩
        skip; exact ⟨by simp only [z_mf, if_neg h2, if_neg h62, if_pos h77, z_e10, z_e01, if_true, if_false], rfl⟩
    · refine q_bipush hC dX5_makingFault_65 (v := 67) (by decide) rfl ?_
      refine q_iret hC dX5_makingFault_67 rfl ⟨by decide, by decide⟩ ⟨_, rfl, ?_⟩
      skip; exact ⟨by simp only [z_mf, if_neg h2, if_pos h62, z_e10, z_e01, if_true, if_false], rfl⟩
  · refine q_aload_n hC 0 dX5_makingFault_5 rfl rfl ?_
    refine q_get_f hC f_X5_36 dX5_makingFault_6 rfl rfl hi rfl ?_
    refine q_iconst hC dX5_makingFault_9 (v := (-1)) (by decide) rfl ?_
    refine q_icmp_ne hC dX5_makingFault_10 (t := 18) (n := 13) (by decide) rfl (fun h10 => ?_) (fun h10 => ?_)
    · refine q_aload_n hC 0 dX5_makingFault_18 rfl rfl ?_
      refine q_get_f hC f_X5_12 dX5_makingFault_19 rfl rfl hi rfl ?_
      refine q_get_f hC f_X5_159 dX5_makingFault_22 rfl rfl hi rfl ?_
      refine q_aload_n hC 0 dX5_makingFault_25 rfl rfl ?_
      refine q_get_f hC f_X5_36 dX5_makingFault_26 rfl rfl hi rfl ?_
      refine q_cald hC dX5_makingFault_29 rfl hi (z_in (z_v5n hg h10) (by decide)) rfl ?_
      refine q_istore_n hC dX5_makingFault_30 (by decide) (ls' := [(0, _), (1, _), (2, _)]) rfl rfl ?_
      refine q_iload_n hC 2 dX5_makingFault_31 rfl rfl ?_
      refine q_bipush hC dX5_makingFault_32 (v := 112) (by decide) rfl ?_
      refine q_icmp_eq hC dX5_makingFault_34 (t := 43) (n := 37) (by decide) rfl (fun h34 => ?_) (fun h34 => ?_)
      · refine q_bipush hC dX5_makingFault_43 (v := 45) (by decide) rfl ?_
        refine q_goto hC dX5_makingFault_45 (n := 50) (by decide) ?_
        refine q_iret hC dX5_makingFault_50 rfl ⟨by decide, by decide⟩ ⟨_, rfl, ?_⟩
        skip; exact ⟨by simp only [z_mf, if_pos h2, if_neg h10, if_pos h34, z_e10, z_e01, if_true, if_false], rfl⟩
      · refine q_iload_n hC 2 dX5_makingFault_37 rfl rfl ?_
        refine q_bipush hC dX5_makingFault_38 (v := 111) (by decide) rfl ?_
        refine q_icmp_ne hC dX5_makingFault_40 (t := 48) (n := 43) (by decide) rfl (fun h40 => ?_) (fun h40 => ?_)
        · refine q_bipush hC dX5_makingFault_48 (v := 76) (by decide) rfl ?_
          refine q_iret hC dX5_makingFault_50 rfl ⟨by decide, by decide⟩ ⟨_, rfl, ?_⟩
          skip; exact ⟨by simp only [z_mf, if_pos h2, if_neg h10, if_neg h34, if_neg h40, z_e10, z_e01, if_true, if_false], rfl⟩
        · refine q_bipush hC dX5_makingFault_43 (v := 45) (by decide) rfl ?_
          refine q_goto hC dX5_makingFault_45 (n := 50) (by decide) ?_
          refine q_iret hC dX5_makingFault_50 rfl ⟨by decide, by decide⟩ ⟨_, rfl, ?_⟩
          skip; exact ⟨by simp only [z_mf, if_pos h2, if_neg h10, if_neg h34, if_pos h40, z_e10, z_e01, if_true, if_false], rfl⟩
    · refine q_bipush hC dX5_makingFault_13 (v := 112) (by decide) rfl ?_
      refine q_goto hC dX5_makingFault_15 (n := 30) (by decide) ?_
      refine q_istore_n hC dX5_makingFault_30 (by decide) (ls' := [(0, _), (1, _), (2, _)]) rfl rfl ?_
      refine q_iload_n hC 2 dX5_makingFault_31 rfl rfl ?_
      refine q_bipush hC dX5_makingFault_32 (v := 112) (by decide) rfl ?_
      refine q_icmp_eq hC dX5_makingFault_34 (t := 43) (n := 37) (by decide) rfl (fun _ => ?_) (fun h => absurd (by decide) h)
      refine q_bipush hC dX5_makingFault_43 (v := 45) (by decide) rfl ?_
      refine q_goto hC dX5_makingFault_45 (n := 50) (by decide) ?_
      refine q_iret hC dX5_makingFault_50 rfl ⟨by decide, by decide⟩ ⟨_, rfl, ?_⟩
      skip; exact ⟨by simp only [z_mf, if_pos h2, if_pos h10, z_e10, z_e01, if_true, if_false], rfl⟩
abbrev rm_X5_typeFault : Room := { frames := 0, cells := 0, slots := 0, locals := 0 }
set_option maxHeartbeats 4000000 in
set_option maxRecDepth 100000 in
theorem c_X5_typeFault {L : qL} (hD : q_D L.2.2.2.1) : qCT L yX5_typeFault cX5_typeFault 5 (some .char) rm_X5_typeFault (fun ad _ (x : Nat × Int32 × Int32) => [.ref (ad 0 x.1), .int x.2.1, .int x.2.2]) (fun x _ => x.1 < 4 ∧ z_v6 x.2.2) (qPi (fun x S r S' => r = z_tf S x.1 x.2.1 x.2.2 ∧ S = S')) := by
  refine q_met hD (by decide) (fun _ => Nat.le_of_ble_eq_true rfl) (fun Γ x S hΓ hpre hC => ?_)
  subst hΓ
  obtain ⟨i, k, a⟩ := x
  obtain ⟨hi, ha⟩ := hpre
  have hi : i < 4 := hi
  have ha : z_v6 a := ha
  show qV Γ _ _ 0 [(0, .ref (q_ad Γ 0 i)), (1, .int k), (2, .int a)] [] S (0, 0)
  refine q_iload_n hC 2 dX5_typeFault_0 rfl rfl ?_
  refine q_iconst hC dX5_typeFault_1 (v := (-1)) (by decide) rfl ?_
  refine q_icmp_ne hC dX5_typeFault_2 (t := 8) (n := 5) (by decide) rfl (fun h2 => ?_) (fun h2 => ?_)
  · refine q_iload_n hC 2 dX5_typeFault_8 rfl rfl ?_
    refine q_iconst hC dX5_typeFault_9 (v := 5) (by decide) rfl ?_
    refine q_icmp_ne hC dX5_typeFault_10 (t := 26) (n := 13) (by decide) rfl (fun h10 => ?_) (fun h10 => ?_)
    · refine q_aload_n hC 0 dX5_typeFault_26 rfl rfl ?_
      refine q_get_f hC f_X5_12 dX5_typeFault_27 rfl rfl hi rfl ?_
      refine q_get_f hC f_X5_94 dX5_typeFault_30 rfl rfl hi rfl ?_
      refine q_iload_n hC 2 dX5_typeFault_33 rfl rfl ?_
      refine q_cald hC dX5_typeFault_34 rfl hi (z_in (z_lt5 (z_v6n ha h2) h10) (by decide)) rfl ?_
      refine q_bipush hC dX5_typeFault_35 (v := 45) (by decide) rfl ?_
      refine q_icmp_ne hC dX5_typeFault_37 (t := 43) (n := 40) (by decide) rfl (fun h37 => ?_) (fun h37 => ?_)
      · refine q_aload_n hC 0 dX5_typeFault_43 rfl rfl ?_
        refine q_get_f hC f_X5_12 dX5_typeFault_44 rfl rfl hi rfl ?_
        refine q_get_f hC f_X5_102 dX5_typeFault_47 rfl rfl hi rfl ?_
        refine q_iload_n hC 2 dX5_typeFault_50 rfl rfl ?_
        refine q_zald hC dX5_typeFault_51 rfl hi (z_in (z_lt5 (z_v6n ha h2) h10) (by decide)) rfl ?_
        refine q_if_ne hC dX5_typeFault_52 (t := 58) (n := 55) (by decide) rfl (fun h52 => ?_) (fun h52 => ?_)
        · refine q_aload_n hC 0 dX5_typeFault_58 rfl rfl ?_
          refine q_get_f hC f_X5_12 dX5_typeFault_59 rfl rfl hi rfl ?_
          refine q_get_f hC f_X5_94 dX5_typeFault_62 rfl rfl hi rfl ?_
          refine q_iload_n hC 2 dX5_typeFault_65 rfl rfl ?_
          refine q_cald hC dX5_typeFault_66 rfl hi (z_in (z_lt5 (z_v6n ha h2) h10) (by decide)) rfl ?_
          refine q_bipush hC dX5_typeFault_67 (v := 105) (by decide) rfl ?_
          refine q_icmp_ne hC dX5_typeFault_69 (t := 76) (n := 72) (by decide) rfl (fun h69 => ?_) (fun h69 => ?_)
          · refine q_iconst hC dX5_typeFault_76 (v := 0) (by decide) rfl ?_
            refine q_istore_n hC dX5_typeFault_77 (by decide) (ls' := [(0, _), (1, _), (2, _), (3, _)]) rfl rfl ?_
            refine q_iload_n hC 3 dX5_typeFault_78 rfl rfl ?_
            refine q_if_eq hC dX5_typeFault_79 (t := 100) (n := 82) (by decide) rfl (fun _ => ?_) (fun h => absurd (by decide) h)
            refine q_iload_n hC 1 dX5_typeFault_100 rfl rfl ?_
            refine q_iconst hC dX5_typeFault_101 (v := 3) (by decide) rfl ?_
            refine q_icmp_ne hC dX5_typeFault_102 (t := 109) (n := 105) (by decide) rfl (fun h102 => ?_) (fun h102 => ?_)
            · refine q_iconst hC dX5_typeFault_109 (v := 0) (by decide) rfl ?_
              refine q_istore hC dX5_typeFault_110 (by decide) (ls' := [(0, _), (1, _), (2, _), (3, _), (4, _)]) rfl rfl ?_
              refine q_iload hC 4 dX5_typeFault_112 rfl rfl ?_
              refine q_if_eq hC dX5_typeFault_114 (t := 122) (n := 117) (by decide) rfl (fun _ => ?_) (fun h => absurd (by decide) h)
              refine q_bipush hC dX5_typeFault_122 (v := 45) (by decide) rfl ?_
              refine q_iret hC dX5_typeFault_124 rfl ⟨by decide, by decide⟩ ⟨_, rfl, ?_⟩
              skip; exact ⟨by simp only [z_tf, if_neg h2, if_neg h10, if_neg h37, if_neg h52, if_neg h69, if_neg h102, z_e10, z_e01, if_true, if_false], rfl⟩
            · refine q_iconst hC dX5_typeFault_105 (v := 1) (by decide) rfl ?_
              refine q_goto hC dX5_typeFault_106 (n := 110) (by decide) ?_
              refine q_istore hC dX5_typeFault_110 (by decide) (ls' := [(0, _), (1, _), (2, _), (3, _), (4, _)]) rfl rfl ?_
              refine q_iload hC 4 dX5_typeFault_112 rfl rfl ?_
              refine q_if_eq hC dX5_typeFault_114 (t := 122) (n := 117) (by decide) rfl (fun h => absurd h (by decide)) (fun _ => ?_)
              refine q_bipush hC dX5_typeFault_117 (v := 73) (by decide) rfl ?_
              refine q_goto hC dX5_typeFault_119 (n := 124) (by decide) ?_
              refine q_iret hC dX5_typeFault_124 rfl ⟨by decide, by decide⟩ ⟨_, rfl, ?_⟩
              skip; exact ⟨by simp only [z_tf, if_neg h2, if_neg h10, if_neg h37, if_neg h52, if_neg h69, if_pos h102, z_e10, z_e01, if_true, if_false], rfl⟩
          · refine q_iconst hC dX5_typeFault_72 (v := 1) (by decide) rfl ?_
            refine q_goto hC dX5_typeFault_73 (n := 77) (by decide) ?_
            refine q_istore_n hC dX5_typeFault_77 (by decide) (ls' := [(0, _), (1, _), (2, _), (3, _)]) rfl rfl ?_
            refine q_iload_n hC 3 dX5_typeFault_78 rfl rfl ?_
            refine q_if_eq hC dX5_typeFault_79 (t := 100) (n := 82) (by decide) rfl (fun h => absurd h (by decide)) (fun _ => ?_)
            refine q_iload_n hC 1 dX5_typeFault_82 rfl rfl ?_
            refine q_iconst hC dX5_typeFault_83 (v := 2) (by decide) rfl ?_
            refine q_icmp_eq hC dX5_typeFault_84 (t := 92) (n := 87) (by decide) rfl (fun h84 => ?_) (fun h84 => ?_)
            · refine q_iconst hC dX5_typeFault_92 (v := 1) (by decide) rfl ?_
              refine q_goto hC dX5_typeFault_93 (n := 110) (by decide) ?_
              refine q_istore hC dX5_typeFault_110 (by decide) (ls' := [(0, _), (1, _), (2, _), (3, _), (4, _)]) rfl rfl ?_
              refine q_iload hC 4 dX5_typeFault_112 rfl rfl ?_
              refine q_if_eq hC dX5_typeFault_114 (t := 122) (n := 117) (by decide) rfl (fun h => absurd h (by decide)) (fun _ => ?_)
              refine q_bipush hC dX5_typeFault_117 (v := 73) (by decide) rfl ?_
              refine q_goto hC dX5_typeFault_119 (n := 124) (by decide) ?_
              refine q_iret hC dX5_typeFault_124 rfl ⟨by decide, by decide⟩ ⟨_, rfl, ?_⟩
              skip; exact ⟨by simp only [z_tf, if_neg h2, if_neg h10, if_neg h37, if_neg h52, if_pos h69, if_pos h84, z_e10, z_e01, if_true, if_false], rfl⟩
            · refine q_iload_n hC 1 dX5_typeFault_87 rfl rfl ?_
              refine q_iconst hC dX5_typeFault_88 (v := 4) (by decide) rfl ?_
              refine q_icmp_ne hC dX5_typeFault_89 (t := 96) (n := 92) (by decide) rfl (fun h89 => ?_) (fun h89 => ?_)
              · refine q_iconst hC dX5_typeFault_96 (v := 0) (by decide) rfl ?_
                refine q_goto hC dX5_typeFault_97 (n := 110) (by decide) ?_
                refine q_istore hC dX5_typeFault_110 (by decide) (ls' := [(0, _), (1, _), (2, _), (3, _), (4, _)]) rfl rfl ?_
                refine q_iload hC 4 dX5_typeFault_112 rfl rfl ?_
                refine q_if_eq hC dX5_typeFault_114 (t := 122) (n := 117) (by decide) rfl (fun _ => ?_) (fun h => absurd (by decide) h)
                refine q_bipush hC dX5_typeFault_122 (v := 45) (by decide) rfl ?_
                refine q_iret hC dX5_typeFault_124 rfl ⟨by decide, by decide⟩ ⟨_, rfl, ?_⟩
                skip; exact ⟨by simp only [z_tf, if_neg h2, if_neg h10, if_neg h37, if_neg h52, if_pos h69, if_neg h84, if_neg h89, z_e10, z_e01, if_true, if_false], rfl⟩
              · refine q_iconst hC dX5_typeFault_92 (v := 1) (by decide) rfl ?_
                refine q_goto hC dX5_typeFault_93 (n := 110) (by decide) ?_
                refine q_istore hC dX5_typeFault_110 (by decide) (ls' := [(0, _), (1, _), (2, _), (3, _), (4, _)]) rfl rfl ?_
                refine q_iload hC 4 dX5_typeFault_112 rfl rfl ?_
                refine q_if_eq hC dX5_typeFault_114 (t := 122) (n := 117) (by decide) rfl (fun h => absurd h (by decide)) (fun _ => ?_)
                refine q_bipush hC dX5_typeFault_117 (v := 73) (by decide) rfl ?_
                refine q_goto hC dX5_typeFault_119 (n := 124) (by decide) ?_
                refine q_iret hC dX5_typeFault_124 rfl ⟨by decide, by decide⟩ ⟨_, rfl, ?_⟩
                skip; exact ⟨by simp only [z_tf, if_neg h2, if_neg h10, if_neg h37, if_neg h52, if_pos h69, if_neg h84, if_pos h89, z_e10, z_e01, if_true, if_false], rfl⟩
        · refine q_bipush hC dX5_typeFault_55 (v := 76) (by decide) rfl ?_
          refine q_iret hC dX5_typeFault_57 rfl ⟨by decide, by decide⟩ ⟨_, rfl, ?_⟩
          skip; exact ⟨by simp only [z_tf, if_neg h2, if_neg h10, if_neg h37, if_pos h52, z_e10, z_e01, if_true, if_false], rfl⟩
      · refine q_bipush hC dX5_typeFault_40 (v := 67) (by decide) rfl ?_
        refine q_iret hC dX5_typeFault_42 rfl ⟨by decide, by decide⟩ ⟨_, rfl, ?_⟩
        skip; exact ⟨by simp only [z_tf, if_neg h2, if_neg h10, if_pos h37, z_e10, z_e01, if_true, if_false], rfl⟩
    · refine q_iload_n hC 1 dX5_typeFault_13 rfl rfl ?_
      refine q_iconst hC dX5_typeFault_14 (v := 3) (by decide) rfl ?_
      refine q_icmp_ne hC dX5_typeFault_15 (t := 23) (n := 18) (by decide) rfl (fun h15 => ?_) (fun h15 => ?_)
      · refine q_bipush hC dX5_typeFault_23 (v := 45) (by decide) rfl ?_
        refine q_iret hC dX5_typeFault_25 rfl ⟨by decide, by decide⟩ ⟨_, rfl, ?_⟩
        skip; exact ⟨by simp only [z_tf, if_neg h2, if_pos h10, if_neg h15, z_e10, z_e01, if_true, if_false], rfl⟩
      · refine q_bipush hC dX5_typeFault_18 (v := 73) (by decide) rfl ?_
        refine q_goto hC dX5_typeFault_20 (n := 25) (by decide) ?_
        refine q_iret hC dX5_typeFault_25 rfl ⟨by decide, by decide⟩ ⟨_, rfl, ?_⟩
        skip; exact ⟨by simp only [z_tf, if_neg h2, if_pos h10, if_pos h15, z_e10, z_e01, if_true, if_false], rfl⟩
  · refine q_bipush hC dX5_typeFault_5 (v := 67) (by decide) rfl ?_
    refine q_iret hC dX5_typeFault_7 rfl ⟨by decide, by decide⟩ ⟨_, rfl, ?_⟩
    skip; exact ⟨by simp only [z_tf, if_pos h2, z_e10, z_e01, if_true, if_false], rfl⟩
theorem z_ouf_i {S : qM} {i : Nat} : True := trivial
abbrev rm_X5_ownUseFault : Room := { frames := 0, cells := 0, slots := 0, locals := 0 }
set_option maxHeartbeats 4000000 in
set_option maxRecDepth 100000 in
theorem c_X5_ownUseFault {L : qL} (hD : q_D L.2.2.2.1) : qCT L yX5_ownUseFault cX5_ownUseFault 2 (some .char) rm_X5_ownUseFault (fun ad _ (x : Nat × Int32) => [.ref (ad 0 x.1), .int x.2]) (fun x _ => x.1 < 4) (qPi (fun x S r S' => r = z_ouf x.2 ∧ S = S')) := by
  refine q_met hD (by decide) (fun _ => Nat.le_of_ble_eq_true rfl) (fun Γ x S hΓ hpre hC => ?_)
  subst hΓ
  obtain ⟨i, a⟩ := x
  have hi : i < 4 := hpre
  show qV Γ _ _ 0 [(0, .ref (q_ad Γ 0 i)), (1, .int a)] [] S (0, 0)
  refine q_iload_n hC 1 dX5_ownUseFault_0 rfl rfl ?_
  refine q_iconst hC dX5_ownUseFault_1 (v := 1) (by decide) rfl ?_
  refine q_icmp_ne hC dX5_ownUseFault_2 (t := 10) (n := 5) (by decide) rfl (fun h2 => ?_) (fun h2 => ?_)
  · refine q_bipush hC dX5_ownUseFault_10 (v := 45) (by decide) rfl ?_
    refine q_iret hC dX5_ownUseFault_12 rfl ⟨by decide, by decide⟩ ⟨_, rfl, ?_⟩
    exact ⟨by simp only [z_ouf, if_neg h2], rfl⟩
  · refine q_bipush hC dX5_ownUseFault_5 (v := 73) (by decide) rfl ?_
    refine q_goto hC dX5_ownUseFault_7 (n := 12) (by decide) ?_
    refine q_iret hC dX5_ownUseFault_12 rfl ⟨by decide, by decide⟩ ⟨_, rfl, ?_⟩
    exact ⟨by simp only [z_ouf, if_pos h2], rfl⟩
