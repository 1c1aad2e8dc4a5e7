-- printed by wip/p36/gen_m2.py
abbrev rm_X1_isBadlyMade : Room := { frames := 0, cells := 0, slots := 0, locals := 0 }
set_option maxHeartbeats 4000000 in
set_option maxRecDepth 100000 in
theorem c_X1_isBadlyMade {L : qL} (hD : q_D L.2.2.2.1) : qCT L yX1_isBadlyMade cX1_isBadlyMade 3 (some .boolean) rm_X1_isBadlyMade (fun ad _ (x : Nat × Nat) => [.ref (ad 1 x.1), .int (nI x.2)]) (fun x S => x.1 < 4 ∧ x.2 < 5 ∧ z_sups S x.1) (qPi (fun x S r S' => z_bool r ∧ S = S')) := by
  refine q_met hD (by decide) (fun _ => Nat.le_of_ble_eq_true rfl) (fun Γ x S hΓ hpre hC => ?_)
  subst hΓ
  obtain ⟨i, t⟩ := x
  obtain ⟨hi, ht, hS⟩ := hpre
  have hi : i < 4 := hi
  have ht : t < 5 := ht
  have ht6 : t < 6 := by omega
  have hS : z_sups S i := hS
  have hsup : z_v5 (S 7 i (nI t).toNatClampNeg) := z_sups_at hS ⟨t, ht, rfl⟩
  show qV Γ _ _ 0 [(0, .ref (q_ad Γ 1 i)), (1, .int (nI t))] [] S (0, 0)
  refine q_aload_n hC 0 dX1_isBadlyMade_0 rfl rfl ?_
  refine q_get_f hC f_X1_21 dX1_isBadlyMade_1 rfl rfl hi rfl ?_
  refine q_iload_n hC 1 dX1_isBadlyMade_4 rfl rfl ?_
  refine q_iald hC dX1_isBadlyMade_5 rfl hi (vp_in_nI ht (by decide)) rfl ?_
  refine q_istore_n hC dX1_isBadlyMade_6 (by decide) (ls' := [(0, _), (1, _), (2, _)]) rfl rfl ?_
  refine q_aload_n hC 0 dX1_isBadlyMade_7 rfl rfl ?_
  refine q_get_f hC f_X1_9 dX1_isBadlyMade_8 rfl rfl hi rfl ?_
  refine q_iload_n hC 1 dX1_isBadlyMade_11 rfl rfl ?_
  refine q_cald hC dX1_isBadlyMade_12 rfl hi (vp_in_nI ht (by decide)) rfl ?_
  refine q_bipush hC dX1_isBadlyMade_13 (v := 105) (by decide) rfl ?_
  refine q_icmp_ne hC dX1_isBadlyMade_15 (t := 23) (n := 18) (by decide) rfl (fun h15 => ?_) (fun h15 => ?_)
  · refine q_aload_n hC 0 dX1_isBadlyMade_23 rfl rfl ?_
    refine q_get_f hC f_X1_65 dX1_isBadlyMade_24 rfl rfl hi rfl ?_
    refine q_iload_n hC 1 dX1_isBadlyMade_27 rfl rfl ?_
    refine q_zald hC dX1_isBadlyMade_28 rfl hi (vp_in_nI ht (by decide)) rfl ?_
    refine q_if_eq hC dX1_isBadlyMade_29 (t := 41) (n := 32) (by decide) rfl (fun h29 => ?_) (fun h29 => ?_)
    · refine q_iload_n hC 2 dX1_isBadlyMade_41 rfl rfl ?_
      refine q_iconst hC dX1_isBadlyMade_42 (v := (-1)) (by decide) rfl ?_
      refine q_icmp_eq hC dX1_isBadlyMade_43 (t := 61) (n := 46) (by decide) rfl (fun h43 => ?_) (fun h43 => ?_)
      · refine q_iconst hC dX1_isBadlyMade_61 (v := 0) (by decide) rfl ?_
        refine q_iret hC dX1_isBadlyMade_62 rfl ⟨by decide, by decide⟩ ⟨_, rfl, ?_⟩
        first
          | exact ⟨Or.inl rfl, rfl⟩
          | exact ⟨Or.inr rfl, rfl⟩
      · refine q_aload_n hC 0 dX1_isBadlyMade_46 rfl rfl ?_
        refine q_get_f hC f_X1_72 dX1_isBadlyMade_47 rfl rfl hi rfl ?_
        refine q_iload_n hC 2 dX1_isBadlyMade_50 rfl rfl ?_
        refine q_cald hC dX1_isBadlyMade_51 rfl hi (z_in (z_v5n hsup h43) (by decide)) rfl ?_
        refine q_bipush hC dX1_isBadlyMade_52 (v := 118) (by decide) rfl ?_
        refine q_icmp_ne hC dX1_isBadlyMade_54 (t := 61) (n := 57) (by decide) rfl (fun h54 => ?_) (fun h54 => ?_)
        · refine q_iconst hC dX1_isBadlyMade_61 (v := 0) (by decide) rfl ?_
          refine q_iret hC dX1_isBadlyMade_62 rfl ⟨by decide, by decide⟩ ⟨_, rfl, ?_⟩
          first
            | exact ⟨Or.inl rfl, rfl⟩
            | exact ⟨Or.inr rfl, rfl⟩
        · refine q_iconst hC dX1_isBadlyMade_57 (v := 1) (by decide) rfl ?_
          refine q_goto hC dX1_isBadlyMade_58 (n := 62) (by decide) ?_
          refine q_iret hC dX1_isBadlyMade_62 rfl ⟨by decide, by decide⟩ ⟨_, rfl, ?_⟩
          first
            | exact ⟨Or.inl rfl, rfl⟩
            | exact ⟨Or.inr rfl, rfl⟩
    · refine q_aload_n hC 0 dX1_isBadlyMade_32 rfl rfl ?_
      refine q_get_f hC f_X1_25 dX1_isBadlyMade_33 rfl rfl hi rfl ?_
      refine q_iload_n hC 1 dX1_isBadlyMade_36 rfl rfl ?_
      refine q_zald hC dX1_isBadlyMade_37 rfl hi (vp_in_nI ht (by decide)) rfl ?_
      refine q_if_ne hC dX1_isBadlyMade_38 (t := 57) (n := 41) (by decide) rfl (fun h38 => ?_) (fun h38 => ?_)
      · refine q_iconst hC dX1_isBadlyMade_57 (v := 1) (by decide) rfl ?_
        refine q_goto hC dX1_isBadlyMade_58 (n := 62) (by decide) ?_
        refine q_iret hC dX1_isBadlyMade_62 rfl ⟨by decide, by decide⟩ ⟨_, rfl, ?_⟩
        first
          | exact ⟨Or.inl rfl, rfl⟩
          | exact ⟨Or.inr rfl, rfl⟩
      · refine q_iload_n hC 2 dX1_isBadlyMade_41 rfl rfl ?_
        refine q_iconst hC dX1_isBadlyMade_42 (v := (-1)) (by decide) rfl ?_
        refine q_icmp_eq hC dX1_isBadlyMade_43 (t := 61) (n := 46) (by decide) rfl (fun h43 => ?_) (fun h43 => ?_)
        · refine q_iconst hC dX1_isBadlyMade_61 (v := 0) (by decide) rfl ?_
          refine q_iret hC dX1_isBadlyMade_62 rfl ⟨by decide, by decide⟩ ⟨_, rfl, ?_⟩
          first
            | exact ⟨Or.inl rfl, rfl⟩
            | exact ⟨Or.inr rfl, rfl⟩
        · refine q_aload_n hC 0 dX1_isBadlyMade_46 rfl rfl ?_
          refine q_get_f hC f_X1_72 dX1_isBadlyMade_47 rfl rfl hi rfl ?_
          refine q_iload_n hC 2 dX1_isBadlyMade_50 rfl rfl ?_
          refine q_cald hC dX1_isBadlyMade_51 rfl hi (z_in (z_v5n hsup h43) (by decide)) rfl ?_
          refine q_bipush hC dX1_isBadlyMade_52 (v := 118) (by decide) rfl ?_
          refine q_icmp_ne hC dX1_isBadlyMade_54 (t := 61) (n := 57) (by decide) rfl (fun h54 => ?_) (fun h54 => ?_)
          · refine q_iconst hC dX1_isBadlyMade_61 (v := 0) (by decide) rfl ?_
            refine q_iret hC dX1_isBadlyMade_62 rfl ⟨by decide, by decide⟩ ⟨_, rfl, ?_⟩
            first
              | exact ⟨Or.inl rfl, rfl⟩
              | exact ⟨Or.inr rfl, rfl⟩
          · refine q_iconst hC dX1_isBadlyMade_57 (v := 1) (by decide) rfl ?_
            refine q_goto hC dX1_isBadlyMade_58 (n := 62) (by decide) ?_
            refine q_iret hC dX1_isBadlyMade_62 rfl ⟨by decide, by decide⟩ ⟨_, rfl, ?_⟩
            first
              | exact ⟨Or.inl rfl, rfl⟩
              | exact ⟨Or.inr rfl, rfl⟩
  · refine q_iload_n hC 2 dX1_isBadlyMade_18 rfl rfl ?_
    refine q_iconst hC dX1_isBadlyMade_19 (v := (-1)) (by decide) rfl ?_
    refine q_icmp_ne hC dX1_isBadlyMade_20 (t := 57) (n := 23) (by decide) rfl (fun h20 => ?_) (fun h20 => ?_)
    · refine q_iconst hC dX1_isBadlyMade_57 (v := 1) (by decide) rfl ?_
      refine q_goto hC dX1_isBadlyMade_58 (n := 62) (by decide) ?_
      refine q_iret hC dX1_isBadlyMade_62 rfl ⟨by decide, by decide⟩ ⟨_, rfl, ?_⟩
      first
        | exact ⟨Or.inl rfl, rfl⟩
        | exact ⟨Or.inr rfl, rfl⟩
    · refine q_aload_n hC 0 dX1_isBadlyMade_23 rfl rfl ?_
      refine q_get_f hC f_X1_65 dX1_isBadlyMade_24 rfl rfl hi rfl ?_
      refine q_iload_n hC 1 dX1_isBadlyMade_27 rfl rfl ?_
      refine q_zald hC dX1_isBadlyMade_28 rfl hi (vp_in_nI ht (by decide)) rfl ?_
      refine q_if_eq hC dX1_isBadlyMade_29 (t := 41) (n := 32) (by decide) rfl (fun h29 => ?_) (fun h29 => ?_)
      · refine q_iload_n hC 2 dX1_isBadlyMade_41 rfl rfl ?_
        refine q_iconst hC dX1_isBadlyMade_42 (v := (-1)) (by decide) rfl ?_
        refine q_icmp_eq hC dX1_isBadlyMade_43 (t := 61) (n := 46) (by decide) rfl (fun h43 => ?_) (fun h43 => ?_)
        · refine q_iconst hC dX1_isBadlyMade_61 (v := 0) (by decide) rfl ?_
          refine q_iret hC dX1_isBadlyMade_62 rfl ⟨by decide, by decide⟩ ⟨_, rfl, ?_⟩
          first
            | exact ⟨Or.inl rfl, rfl⟩
            | exact ⟨Or.inr rfl, rfl⟩
        · refine q_aload_n hC 0 dX1_isBadlyMade_46 rfl rfl ?_
          refine q_get_f hC f_X1_72 dX1_isBadlyMade_47 rfl rfl hi rfl ?_
          refine q_iload_n hC 2 dX1_isBadlyMade_50 rfl rfl ?_
          refine q_cald hC dX1_isBadlyMade_51 rfl hi (z_in (z_v5n hsup h43) (by decide)) rfl ?_
          refine q_bipush hC dX1_isBadlyMade_52 (v := 118) (by decide) rfl ?_
          refine q_icmp_ne hC dX1_isBadlyMade_54 (t := 61) (n := 57) (by decide) rfl (fun h54 => ?_) (fun h54 => ?_)
          · refine q_iconst hC dX1_isBadlyMade_61 (v := 0) (by decide) rfl ?_
            refine q_iret hC dX1_isBadlyMade_62 rfl ⟨by decide, by decide⟩ ⟨_, rfl, ?_⟩
            first
              | exact ⟨Or.inl rfl, rfl⟩
              | exact ⟨Or.inr rfl, rfl⟩
          · refine q_iconst hC dX1_isBadlyMade_57 (v := 1) (by decide) rfl ?_
            refine q_goto hC dX1_isBadlyMade_58 (n := 62) (by decide) ?_
            refine q_iret hC dX1_isBadlyMade_62 rfl ⟨by decide, by decide⟩ ⟨_, rfl, ?_⟩
            first
              | exact ⟨Or.inl rfl, rfl⟩
              | exact ⟨Or.inr rfl, rfl⟩
      · refine q_aload_n hC 0 dX1_isBadlyMade_32 rfl rfl ?_
        refine q_get_f hC f_X1_25 dX1_isBadlyMade_33 rfl rfl hi rfl ?_
        refine q_iload_n hC 1 dX1_isBadlyMade_36 rfl rfl ?_
        refine q_zald hC dX1_isBadlyMade_37 rfl hi (vp_in_nI ht (by decide)) rfl ?_
        refine q_if_ne hC dX1_isBadlyMade_38 (t := 57) (n := 41) (by decide) rfl (fun h38 => ?_) (fun h38 => ?_)
        · refine q_iconst hC dX1_isBadlyMade_57 (v := 1) (by decide) rfl ?_
          refine q_goto hC dX1_isBadlyMade_58 (n := 62) (by decide) ?_
          refine q_iret hC dX1_isBadlyMade_62 rfl ⟨by decide, by decide⟩ ⟨_, rfl, ?_⟩
          first
            | exact ⟨Or.inl rfl, rfl⟩
            | exact ⟨Or.inr rfl, rfl⟩
        · refine q_iload_n hC 2 dX1_isBadlyMade_41 rfl rfl ?_
          refine q_iconst hC dX1_isBadlyMade_42 (v := (-1)) (by decide) rfl ?_
          refine q_icmp_eq hC dX1_isBadlyMade_43 (t := 61) (n := 46) (by decide) rfl (fun h43 => ?_) (fun h43 => ?_)
          · refine q_iconst hC dX1_isBadlyMade_61 (v := 0) (by decide) rfl ?_
            refine q_iret hC dX1_isBadlyMade_62 rfl ⟨by decide, by decide⟩ ⟨_, rfl, ?_⟩
            first
              | exact ⟨Or.inl rfl, rfl⟩
              | exact ⟨Or.inr rfl, rfl⟩
          · refine q_aload_n hC 0 dX1_isBadlyMade_46 rfl rfl ?_
            refine q_get_f hC f_X1_72 dX1_isBadlyMade_47 rfl rfl hi rfl ?_
            refine q_iload_n hC 2 dX1_isBadlyMade_50 rfl rfl ?_
            refine q_cald hC dX1_isBadlyMade_51 rfl hi (z_in (z_v5n hsup h43) (by decide)) rfl ?_
            refine q_bipush hC dX1_isBadlyMade_52 (v := 118) (by decide) rfl ?_
            refine q_icmp_ne hC dX1_isBadlyMade_54 (t := 61) (n := 57) (by decide) rfl (fun h54 => ?_) (fun h54 => ?_)
            · refine q_iconst hC dX1_isBadlyMade_61 (v := 0) (by decide) rfl ?_
              refine q_iret hC dX1_isBadlyMade_62 rfl ⟨by decide, by decide⟩ ⟨_, rfl, ?_⟩
              first
                | exact ⟨Or.inl rfl, rfl⟩
                | exact ⟨Or.inr rfl, rfl⟩
            · refine q_iconst hC dX1_isBadlyMade_57 (v := 1) (by decide) rfl ?_
              refine q_goto hC dX1_isBadlyMade_58 (n := 62) (by decide) ?_
              refine q_iret hC dX1_isBadlyMade_62 rfl ⟨by decide, by decide⟩ ⟨_, rfl, ?_⟩
              first
                | exact ⟨Or.inl rfl, rfl⟩
                | exact ⟨Or.inr rfl, rfl⟩
theorem z_p30 {t m : Nat} {x : Int32} (ht : t < 5) (hm : m < 6) (hx : x = nI (t * 6 + m)) : vp_in x 30 := by
  rw [hx]; exact vp_in_nI (by omega) (by decide)
abbrev rm_X1_hasWrongMember : Room := { frames := 0, cells := 0, slots := 0, locals := 0 }
set_option maxHeartbeats 4000000 in
set_option maxRecDepth 100000 in
theorem c_X1_hasWrongMember {L : qL} (hD : q_D L.2.2.2.1) : qCT L yX1_hasWrongMember cX1_hasWrongMember 5 (some .boolean) rm_X1_hasWrongMember (fun ad _ (x : Nat × Nat) => [.ref (ad 1 x.1), .int (nI x.2)]) (fun x S => x.1 < 4 ∧ x.2 < 5 ∧ z_sups S x.1) (qPi (fun x S r S' => z_bool r ∧ S = S')) := by
  refine q_met hD (by decide) (fun _ => Nat.le_of_ble_eq_true rfl) (fun Γ x S hΓ hpre hC => ?_)
  subst hΓ
  obtain ⟨i, t⟩ := x
  obtain ⟨hi, ht, hS⟩ := hpre
  have hi : i < 4 := hi
  have ht : t < 5 := ht
  have ht6 : t < 6 := by omega
  have hS : z_sups S i := hS
  have hsup : z_v5 (S 7 i (nI t).toNatClampNeg) := z_sups_at hS ⟨t, ht, rfl⟩
  have L1 : ∀ (n m : Nat) (x : Int32), m + n = 6 → x = nI (t * 6 + m) → qV Γ rm_X1_hasWrongMember 5 5 [(0, .ref (q_ad Γ 1 i)), (1, .int (nI t)), (2, .int x)] [] S (0, 0) := by
    intro n
    induction n with
    | zero =>
      intro m x hmn hx
      obtain rfl : m = 6 := by omega
      refine q_iload_n hC 2 dX1_hasWrongMember_5 rfl rfl ?_
      refine q_iload_n hC 1 dX1_hasWrongMember_6 rfl rfl ?_
      refine q_bipush hC dX1_hasWrongMember_7 (v := 6) (by decide) rfl ?_
      refine q_imul hC dX1_hasWrongMember_9 rfl ?_
      refine q_bipush hC dX1_hasWrongMember_10 (v := 6) (by decide) rfl ?_
      refine q_iadd hC dX1_hasWrongMember_12 rfl ?_
      refine q_icmp_ge hC dX1_hasWrongMember_13 (t := 101) (n := 16) (by decide) rfl (fun h13 => ?_) (fun h13 => absurd (by rw [hx, z_r66]; exact Int32.le_refl _) h13)
      refine q_iconst hC dX1_hasWrongMember_101 (v := 0) (by decide) rfl ?_
      refine q_iret hC dX1_hasWrongMember_102 rfl ⟨by decide, by decide⟩ ⟨_, rfl, ?_⟩
      first
        | exact ⟨Or.inl rfl, rfl⟩
        | exact ⟨Or.inr rfl, rfl⟩
    | succ n ih =>
      intro m x hmn hx
      have hm : m < 6 := by omega
      have hv : vp_in x 30 := z_p30 ht hm hx
      refine q_iload_n hC 2 dX1_hasWrongMember_5 rfl rfl ?_
      refine q_iload_n hC 1 dX1_hasWrongMember_6 rfl rfl ?_
      refine q_bipush hC dX1_hasWrongMember_7 (v := 6) (by decide) rfl ?_
      refine q_imul hC dX1_hasWrongMember_9 rfl ?_
      refine q_bipush hC dX1_hasWrongMember_10 (v := 6) (by decide) rfl ?_
      refine q_iadd hC dX1_hasWrongMember_12 rfl ?_
      refine q_icmp_ge hC dX1_hasWrongMember_13 (t := 101) (n := 16) (by decide) rfl (fun h13 => absurd h13 (by rw [hx, z_r66]; exact nI_ge (by omega) (by omega))) (fun h13 => ?_)
      refine q_aload_n hC 0 dX1_hasWrongMember_16 rfl rfl ?_
      refine q_get_f hC f_X1_75 dX1_hasWrongMember_17 rfl rfl hi rfl ?_
      refine q_get_f hC f_X1_79 dX1_hasWrongMember_20 rfl rfl hi rfl ?_
      refine q_iload_n hC 2 dX1_hasWrongMember_23 rfl rfl ?_
      refine q_cald hC dX1_hasWrongMember_24 rfl hi hv rfl ?_
      refine q_istore_n hC dX1_hasWrongMember_25 (by decide) (ls' := [(0, _), (1, _), (2, _), (3, _)]) rfl rfl ?_
      refine q_iload_n hC 3 dX1_hasWrongMember_26 rfl rfl ?_
      refine q_bipush hC dX1_hasWrongMember_27 (v := 45) (by decide) rfl ?_
      refine q_icmp_eq hC dX1_hasWrongMember_29 (t := 54) (n := 32) (by decide) rfl (fun h29_1 => ?_) (fun h29_1 => ?_)
      · refine q_aload_n hC 0 dX1_hasWrongMember_54 rfl rfl ?_
        refine q_get_f hC f_X1_85 dX1_hasWrongMember_55 rfl rfl hi rfl ?_
        refine q_get_f hC f_X1_79 dX1_hasWrongMember_58 rfl rfl hi rfl ?_
        refine q_iload_n hC 2 dX1_hasWrongMember_61 rfl rfl ?_
        refine q_cald hC dX1_hasWrongMember_62 rfl hi hv rfl ?_
        refine q_istore hC dX1_hasWrongMember_63 (by decide) (ls' := [(0, _), (1, _), (2, _), (3, _), (4, _)]) rfl rfl ?_
        refine q_iload hC 4 dX1_hasWrongMember_65 rfl rfl ?_
        refine q_bipush hC dX1_hasWrongMember_67 (v := 45) (by decide) rfl ?_
        refine q_icmp_eq hC dX1_hasWrongMember_69 (t := 95) (n := 72) (by decide) rfl (fun h69_2 => ?_) (fun h69_2 => ?_)
        · refine q_iinc hC 2 dX1_hasWrongMember_95 rfl (v := nI (t * 6 + (m + 1))) (by rw [hx]; exact z_inc _) (by decide) (ls' := [(0, _), (1, _), (2, _), (3, _), (4, _)]) rfl rfl ?_
          refine q_goto hC dX1_hasWrongMember_98 (n := 5) (by decide) ?_
          refine q_locp [0, 1, 2] (ls' := [(0, _), (1, _), (2, _)]) rfl ?_
          exact ih (m + 1) _ (by omega) rfl
        · refine q_iload hC 4 dX1_hasWrongMember_72 rfl rfl ?_
          refine q_bipush hC dX1_hasWrongMember_74 (v := 112) (by decide) rfl ?_
          refine q_icmp_ne hC dX1_hasWrongMember_76 (t := 93) (n := 79) (by decide) rfl (fun h76_3 => ?_) (fun h76_3 => ?_)
          · refine q_iconst hC dX1_hasWrongMember_93 (v := 1) (by decide) rfl ?_
            refine q_iret hC dX1_hasWrongMember_94 rfl ⟨by decide, by decide⟩ ⟨_, rfl, ?_⟩
            first
              | exact ⟨Or.inl rfl, rfl⟩
              | exact ⟨Or.inr rfl, rfl⟩
          · refine q_aload_n hC 0 dX1_hasWrongMember_79 rfl rfl ?_
            refine q_get_f hC f_X1_85 dX1_hasWrongMember_80 rfl rfl hi rfl ?_
            refine q_get_f hC f_X1_84 dX1_hasWrongMember_83 rfl rfl hi rfl ?_
            refine q_iload_n hC 2 dX1_hasWrongMember_86 rfl rfl ?_
            refine q_cald hC dX1_hasWrongMember_87 rfl hi hv rfl ?_
            refine q_bipush hC dX1_hasWrongMember_88 (v := 70) (by decide) rfl ?_
            refine q_icmp_eq hC dX1_hasWrongMember_90 (t := 95) (n := 93) (by decide) rfl (fun h90_4 => ?_) (fun h90_4 => ?_)
            · refine q_iinc hC 2 dX1_hasWrongMember_95 rfl (v := nI (t * 6 + (m + 1))) (by rw [hx]; exact z_inc _) (by decide) (ls' := [(0, _), (1, _), (2, _), (3, _), (4, _)]) rfl rfl ?_
              refine q_goto hC dX1_hasWrongMember_98 (n := 5) (by decide) ?_
              refine q_locp [0, 1, 2] (ls' := [(0, _), (1, _), (2, _)]) rfl ?_
              exact ih (m + 1) _ (by omega) rfl
            · refine q_iconst hC dX1_hasWrongMember_93 (v := 1) (by decide) rfl ?_
              refine q_iret hC dX1_hasWrongMember_94 rfl ⟨by decide, by decide⟩ ⟨_, rfl, ?_⟩
              first
                | exact ⟨Or.inl rfl, rfl⟩
                | exact ⟨Or.inr rfl, rfl⟩
      · refine q_iload_n hC 3 dX1_hasWrongMember_32 rfl rfl ?_
        refine q_bipush hC dX1_hasWrongMember_33 (v := 112) (by decide) rfl ?_
        refine q_icmp_ne hC dX1_hasWrongMember_35 (t := 52) (n := 38) (by decide) rfl (fun h35_5 => ?_) (fun h35_5 => ?_)
        · refine q_iconst hC dX1_hasWrongMember_52 (v := 1) (by decide) rfl ?_
          refine q_iret hC dX1_hasWrongMember_53 rfl ⟨by decide, by decide⟩ ⟨_, rfl, ?_⟩
          first
            | exact ⟨Or.inl rfl, rfl⟩
            | exact ⟨Or.inr rfl, rfl⟩
        · refine q_aload_n hC 0 dX1_hasWrongMember_38 rfl rfl ?_
          refine q_get_f hC f_X1_75 dX1_hasWrongMember_39 rfl rfl hi rfl ?_
          refine q_get_f hC f_X1_84 dX1_hasWrongMember_42 rfl rfl hi rfl ?_
          refine q_iload_n hC 2 dX1_hasWrongMember_45 rfl rfl ?_
          refine q_cald hC dX1_hasWrongMember_46 rfl hi hv rfl ?_
          refine q_bipush hC dX1_hasWrongMember_47 (v := 102) (by decide) rfl ?_
          refine q_icmp_ne hC dX1_hasWrongMember_49 (t := 54) (n := 52) (by decide) rfl (fun h49_6 => ?_) (fun h49_6 => ?_)
          · refine q_aload_n hC 0 dX1_hasWrongMember_54 rfl rfl ?_
            refine q_get_f hC f_X1_85 dX1_hasWrongMember_55 rfl rfl hi rfl ?_
            refine q_get_f hC f_X1_79 dX1_hasWrongMember_58 rfl rfl hi rfl ?_
            refine q_iload_n hC 2 dX1_hasWrongMember_61 rfl rfl ?_
            refine q_cald hC dX1_hasWrongMember_62 rfl hi hv rfl ?_
            refine q_istore hC dX1_hasWrongMember_63 (by decide) (ls' := [(0, _), (1, _), (2, _), (3, _), (4, _)]) rfl rfl ?_
            refine q_iload hC 4 dX1_hasWrongMember_65 rfl rfl ?_
            refine q_bipush hC dX1_hasWrongMember_67 (v := 45) (by decide) rfl ?_
            refine q_icmp_eq hC dX1_hasWrongMember_69 (t := 95) (n := 72) (by decide) rfl (fun h69_7 => ?_) (fun h69_7 => ?_)
            · refine q_iinc hC 2 dX1_hasWrongMember_95 rfl (v := nI (t * 6 + (m + 1))) (by rw [hx]; exact z_inc _) (by decide) (ls' := [(0, _), (1, _), (2, _), (3, _), (4, _)]) rfl rfl ?_
              refine q_goto hC dX1_hasWrongMember_98 (n := 5) (by decide) ?_
              refine q_locp [0, 1, 2] (ls' := [(0, _), (1, _), (2, _)]) rfl ?_
              exact ih (m + 1) _ (by omega) rfl
            · refine q_iload hC 4 dX1_hasWrongMember_72 rfl rfl ?_
              refine q_bipush hC dX1_hasWrongMember_74 (v := 112) (by decide) rfl ?_
              refine q_icmp_ne hC dX1_hasWrongMember_76 (t := 93) (n := 79) (by decide) rfl (fun h76_8 => ?_) (fun h76_8 => ?_)
              · refine q_iconst hC dX1_hasWrongMember_93 (v := 1) (by decide) rfl ?_
                refine q_iret hC dX1_hasWrongMember_94 rfl ⟨by decide, by decide⟩ ⟨_, rfl, ?_⟩
                first
                  | exact ⟨Or.inl rfl, rfl⟩
                  | exact ⟨Or.inr rfl, rfl⟩
              · refine q_aload_n hC 0 dX1_hasWrongMember_79 rfl rfl ?_
                refine q_get_f hC f_X1_85 dX1_hasWrongMember_80 rfl rfl hi rfl ?_
                refine q_get_f hC f_X1_84 dX1_hasWrongMember_83 rfl rfl hi rfl ?_
                refine q_iload_n hC 2 dX1_hasWrongMember_86 rfl rfl ?_
                refine q_cald hC dX1_hasWrongMember_87 rfl hi hv rfl ?_
                refine q_bipush hC dX1_hasWrongMember_88 (v := 70) (by decide) rfl ?_
                refine q_icmp_eq hC dX1_hasWrongMember_90 (t := 95) (n := 93) (by decide) rfl (fun h90_9 => ?_) (fun h90_9 => ?_)
                · refine q_iinc hC 2 dX1_hasWrongMember_95 rfl (v := nI (t * 6 + (m + 1))) (by rw [hx]; exact z_inc _) (by decide) (ls' := [(0, _), (1, _), (2, _), (3, _), (4, _)]) rfl rfl ?_
                  refine q_goto hC dX1_hasWrongMember_98 (n := 5) (by decide) ?_
                  refine q_locp [0, 1, 2] (ls' := [(0, _), (1, _), (2, _)]) rfl ?_
                  exact ih (m + 1) _ (by omega) rfl
                · refine q_iconst hC dX1_hasWrongMember_93 (v := 1) (by decide) rfl ?_
                  refine q_iret hC dX1_hasWrongMember_94 rfl ⟨by decide, by decide⟩ ⟨_, rfl, ?_⟩
                  first
                    | exact ⟨Or.inl rfl, rfl⟩
                    | exact ⟨Or.inr rfl, rfl⟩
          · refine q_iconst hC dX1_hasWrongMember_52 (v := 1) (by decide) rfl ?_
            refine q_iret hC dX1_hasWrongMember_53 rfl ⟨by decide, by decide⟩ ⟨_, rfl, ?_⟩
            first
              | exact ⟨Or.inl rfl, rfl⟩
              | exact ⟨Or.inr rfl, rfl⟩
  show qV Γ _ _ 0 [(0, .ref (q_ad Γ 1 i)), (1, .int (nI t))] [] S (0, 0)
  refine q_iload_n hC 1 dX1_hasWrongMember_0 rfl rfl ?_
  refine q_bipush hC dX1_hasWrongMember_1 (v := 6) (by decide) rfl ?_
  refine q_imul hC dX1_hasWrongMember_3 rfl ?_
  refine q_istore_n hC dX1_hasWrongMember_4 (by decide) (ls' := [(0, _), (1, _), (2, _)]) rfl rfl ?_
  exact L1 6 0 _ (by omega) (z_r6 t)
abbrev rm_X1_hasWrongAbstract : Room := { frames := 0, cells := 0, slots := 0, locals := 0 }
set_option maxHeartbeats 4000000 in
set_option maxRecDepth 100000 in
theorem c_X1_hasWrongAbstract {L : qL} (hD : q_D L.2.2.2.1) : qCT L yX1_hasWrongAbstract cX1_hasWrongAbstract 4 (some .boolean) rm_X1_hasWrongAbstract (fun ad _ (x : Nat × Nat) => [.ref (ad 1 x.1), .int (nI x.2)]) (fun x S => x.1 < 4 ∧ x.2 < 5 ∧ z_sups S x.1) (qPi (fun x S r S' => z_bool r ∧ S = S')) := by
  refine q_met hD (by decide) (fun _ => Nat.le_of_ble_eq_true rfl) (fun Γ x S hΓ hpre hC => ?_)
  subst hΓ
  obtain ⟨i, t⟩ := x
  obtain ⟨hi, ht, hS⟩ := hpre
  have hi : i < 4 := hi
  have ht : t < 5 := ht
  have ht6 : t < 6 := by omega
  have hS : z_sups S i := hS
  have hsup : z_v5 (S 7 i (nI t).toNatClampNeg) := z_sups_at hS ⟨t, ht, rfl⟩
  have L1 : ∀ (n m : Nat) (x w : Int32), m + n = 6 → x = nI (t * 6 + m) → qV Γ rm_X1_hasWrongAbstract 4 31 [(0, .ref (q_ad Γ 1 i)), (1, .int (nI t)), (2, .int w), (3, .int x)] [] S (0, 0) := by
    intro n
    induction n with
    | zero =>
      intro m x w hmn hx
      obtain rfl : m = 6 := by omega
      refine q_iload_n hC 3 dX1_hasWrongAbstract_31 rfl rfl ?_
      refine q_iload_n hC 1 dX1_hasWrongAbstract_32 rfl rfl ?_
      refine q_bipush hC dX1_hasWrongAbstract_33 (v := 6) (by decide) rfl ?_
      refine q_imul hC dX1_hasWrongAbstract_35 rfl ?_
      refine q_bipush hC dX1_hasWrongAbstract_36 (v := 6) (by decide) rfl ?_
      refine q_iadd hC dX1_hasWrongAbstract_38 rfl ?_
      refine q_icmp_ge hC dX1_hasWrongAbstract_39 (t := 82) (n := 42) (by decide) rfl (fun h39 => ?_) (fun h39 => absurd (by rw [hx, z_r66]; exact Int32.le_refl _) h39)
      refine q_iconst hC dX1_hasWrongAbstract_82 (v := 0) (by decide) rfl ?_
      refine q_iret hC dX1_hasWrongAbstract_83 rfl ⟨by decide, by decide⟩ ⟨_, rfl, ?_⟩
      first
        | exact ⟨Or.inl rfl, rfl⟩
        | exact ⟨Or.inr rfl, rfl⟩
    | succ n ih =>
      intro m x w hmn hx
      have hm : m < 6 := by omega
      have hv : vp_in x 30 := z_p30 ht hm hx
      refine q_iload_n hC 3 dX1_hasWrongAbstract_31 rfl rfl ?_
      refine q_iload_n hC 1 dX1_hasWrongAbstract_32 rfl rfl ?_
      refine q_bipush hC dX1_hasWrongAbstract_33 (v := 6) (by decide) rfl ?_
      refine q_imul hC dX1_hasWrongAbstract_35 rfl ?_
      refine q_bipush hC dX1_hasWrongAbstract_36 (v := 6) (by decide) rfl ?_
      refine q_iadd hC dX1_hasWrongAbstract_38 rfl ?_
      refine q_icmp_ge hC dX1_hasWrongAbstract_39 (t := 82) (n := 42) (by decide) rfl (fun h39 => absurd h39 (by rw [hx, z_r66]; exact nI_ge (by omega) (by omega))) (fun h39 => ?_)
      refine q_aload_n hC 0 dX1_hasWrongAbstract_42 rfl rfl ?_
      refine q_get_f hC f_X1_75 dX1_hasWrongAbstract_43 rfl rfl hi rfl ?_
      refine q_get_f hC f_X1_84 dX1_hasWrongAbstract_46 rfl rfl hi rfl ?_
      refine q_iload_n hC 3 dX1_hasWrongAbstract_49 rfl rfl ?_
      refine q_cald hC dX1_hasWrongAbstract_50 rfl hi hv rfl ?_
      refine q_bipush hC dX1_hasWrongAbstract_51 (v := 97) (by decide) rfl ?_
      refine q_icmp_ne hC dX1_hasWrongAbstract_53 (t := 76) (n := 56) (by decide) rfl (fun h53_1 => ?_) (fun h53_1 => ?_)
      · refine q_iinc hC 3 dX1_hasWrongAbstract_76 rfl (v := nI (t * 6 + (m + 1))) (by rw [hx]; exact z_inc _) (by decide) (ls' := [(0, _), (1, _), (2, _), (3, _)]) rfl rfl ?_
        refine q_goto hC dX1_hasWrongAbstract_79 (n := 31) (by decide) ?_
        refine q_locp [0, 1, 2, 3] (ls' := [(0, _), (1, _), (2, _), (3, _)]) rfl ?_
        exact ih (m + 1) _ _ (by omega) rfl
      · refine q_iload_n hC 2 dX1_hasWrongAbstract_56 rfl rfl ?_
        refine q_if_ne hC dX1_hasWrongAbstract_57 (t := 74) (n := 60) (by decide) rfl (fun h57_2 => ?_) (fun h57_2 => ?_)
        · refine q_iconst hC dX1_hasWrongAbstract_74 (v := 1) (by decide) rfl ?_
          refine q_iret hC dX1_hasWrongAbstract_75 rfl ⟨by decide, by decide⟩ ⟨_, rfl, ?_⟩
          first
            | exact ⟨Or.inl rfl, rfl⟩
            | exact ⟨Or.inr rfl, rfl⟩
        · refine q_aload_n hC 0 dX1_hasWrongAbstract_60 rfl rfl ?_
          refine q_get_f hC f_X1_75 dX1_hasWrongAbstract_61 rfl rfl hi rfl ?_
          refine q_get_f hC f_X1_79 dX1_hasWrongAbstract_64 rfl rfl hi rfl ?_
          refine q_iload_n hC 3 dX1_hasWrongAbstract_67 rfl rfl ?_
          refine q_cald hC dX1_hasWrongAbstract_68 rfl hi hv rfl ?_
          refine q_bipush hC dX1_hasWrongAbstract_69 (v := 118) (by decide) rfl ?_
          refine q_icmp_ne hC dX1_hasWrongAbstract_71 (t := 76) (n := 74) (by decide) rfl (fun h71_3 => ?_) (fun h71_3 => ?_)
          · refine q_iinc hC 3 dX1_hasWrongAbstract_76 rfl (v := nI (t * 6 + (m + 1))) (by rw [hx]; exact z_inc _) (by decide) (ls' := [(0, _), (1, _), (2, _), (3, _)]) rfl rfl ?_
            refine q_goto hC dX1_hasWrongAbstract_79 (n := 31) (by decide) ?_
            refine q_locp [0, 1, 2, 3] (ls' := [(0, _), (1, _), (2, _), (3, _)]) rfl ?_
            exact ih (m + 1) _ _ (by omega) rfl
          · refine q_iconst hC dX1_hasWrongAbstract_74 (v := 1) (by decide) rfl ?_
            refine q_iret hC dX1_hasWrongAbstract_75 rfl ⟨by decide, by decide⟩ ⟨_, rfl, ?_⟩
            first
              | exact ⟨Or.inl rfl, rfl⟩
              | exact ⟨Or.inr rfl, rfl⟩
  show qV Γ _ _ 0 [(0, .ref (q_ad Γ 1 i)), (1, .int (nI t))] [] S (0, 0)
  refine q_aload_n hC 0 dX1_hasWrongAbstract_0 rfl rfl ?_
  refine q_get_f hC f_X1_9 dX1_hasWrongAbstract_1 rfl rfl hi rfl ?_
  refine q_iload_n hC 1 dX1_hasWrongAbstract_4 rfl rfl ?_
  refine q_cald hC dX1_hasWrongAbstract_5 rfl hi (vp_in_nI ht (by decide)) rfl ?_
  refine q_bipush hC dX1_hasWrongAbstract_6 (v := 99) (by decide) rfl ?_
  refine q_icmp_ne hC dX1_hasWrongAbstract_8 (t := 24) (n := 11) (by decide) rfl (fun h8 => ?_) (fun h8 => ?_)
  · refine q_iconst hC dX1_hasWrongAbstract_24 (v := 0) (by decide) rfl ?_
    refine q_istore_n hC dX1_hasWrongAbstract_25 (by decide) (ls' := [(0, _), (1, _), (2, _)]) rfl rfl ?_
    refine q_iload_n hC 1 dX1_hasWrongAbstract_26 rfl rfl ?_
    refine q_bipush hC dX1_hasWrongAbstract_27 (v := 6) (by decide) rfl ?_
    refine q_imul hC dX1_hasWrongAbstract_29 rfl ?_
    refine q_istore_n hC dX1_hasWrongAbstract_30 (by decide) (ls' := [(0, _), (1, _), (2, _), (3, _)]) rfl rfl ?_
    exact L1 6 0 _ _ (by omega) (z_r6 t)
  · refine q_aload_n hC 0 dX1_hasWrongAbstract_11 rfl rfl ?_
    refine q_get_f hC f_X1_65 dX1_hasWrongAbstract_12 rfl rfl hi rfl ?_
    refine q_iload_n hC 1 dX1_hasWrongAbstract_15 rfl rfl ?_
    refine q_zald hC dX1_hasWrongAbstract_16 rfl hi (vp_in_nI ht (by decide)) rfl ?_
    refine q_if_ne hC dX1_hasWrongAbstract_17 (t := 24) (n := 20) (by decide) rfl (fun h17 => ?_) (fun h17 => ?_)
    · refine q_iconst hC dX1_hasWrongAbstract_24 (v := 0) (by decide) rfl ?_
      refine q_istore_n hC dX1_hasWrongAbstract_25 (by decide) (ls' := [(0, _), (1, _), (2, _)]) rfl rfl ?_
      refine q_iload_n hC 1 dX1_hasWrongAbstract_26 rfl rfl ?_
      refine q_bipush hC dX1_hasWrongAbstract_27 (v := 6) (by decide) rfl ?_
      refine q_imul hC dX1_hasWrongAbstract_29 rfl ?_
      refine q_istore_n hC dX1_hasWrongAbstract_30 (by decide) (ls' := [(0, _), (1, _), (2, _), (3, _)]) rfl rfl ?_
      exact L1 6 0 _ _ (by omega) (z_r6 t)
    · refine q_iconst hC dX1_hasWrongAbstract_20 (v := 1) (by decide) rfl ?_
      refine q_goto hC dX1_hasWrongAbstract_21 (n := 25) (by decide) ?_
      refine q_istore_n hC dX1_hasWrongAbstract_25 (by decide) (ls' := [(0, _), (1, _), (2, _)]) rfl rfl ?_
      refine q_iload_n hC 1 dX1_hasWrongAbstract_26 rfl rfl ?_
      refine q_bipush hC dX1_hasWrongAbstract_27 (v := 6) (by decide) rfl ?_
      refine q_imul hC dX1_hasWrongAbstract_29 rfl ?_
      refine q_istore_n hC dX1_hasWrongAbstract_30 (by decide) (ls' := [(0, _), (1, _), (2, _), (3, _)]) rfl rfl ?_
      exact L1 6 0 _ _ (by omega) (z_r6 t)
abbrev rm_X1_clashes : Room := { frames := 1, cells := 0, slots := 0, locals := 20 }
set_option maxHeartbeats 4000000 in
set_option maxRecDepth 100000 in
theorem c_X1_clashes {L : qL} (hD : q_D L.2.2.2.1) : qCT L yX1_clashes cX1_clashes 4 (some .boolean) rm_X1_clashes (fun ad _ (x : Nat × Int32 × Int32) => [.ref (ad 9 x.1), .int x.2.1, .int x.2.2]) (fun x _ => x.1 < 4 ∧ vp_in x.2.1 30 ∧ vp_in x.2.2 30) (qPi (fun x S r S' => z_bool r ∧ S = S')) := by
  refine q_met hD (by decide) (fun _ => Nat.le_of_ble_eq_true rfl) (fun Γ x S hΓ hpre hC => ?_)
  subst hΓ
  obtain ⟨i, a, b⟩ := x
  obtain ⟨hi, ha, hb⟩ := hpre
  have hi : i < 4 := hi
  have ha : vp_in a 30 := ha
  have hb : vp_in b 30 := hb
  show qV Γ _ _ 0 [(0, .ref (q_ad Γ 9 i)), (1, .int a), (2, .int b)] [] S (0, 0)
  refine q_aload_n hC 0 dX1_clashes_0 rfl rfl ?_
  refine q_get_f hC f_X1_79 dX1_clashes_1 rfl rfl hi rfl ?_
  refine q_iload_n hC 2 dX1_clashes_4 rfl rfl ?_
  refine q_cald hC dX1_clashes_5 rfl hi hb rfl ?_
  refine q_istore_n hC dX1_clashes_6 (by decide) (ls' := [(0, _), (1, _), (2, _), (3, _)]) rfl rfl ?_
  refine q_aload_n hC 0 dX1_clashes_7 rfl rfl ?_
  refine q_get_f hC f_X1_79 dX1_clashes_8 rfl rfl hi rfl ?_
  refine q_iload_n hC 1 dX1_clashes_11 rfl rfl ?_
  refine q_cald hC dX1_clashes_12 rfl hi ha rfl ?_
  refine q_bipush hC dX1_clashes_13 (v := 45) (by decide) rfl ?_
  refine q_icmp_eq hC dX1_clashes_15 (t := 30) (n := 18) (by decide) rfl (fun h15_1 => ?_) (fun h15_1 => ?_)
  · refine q_iconst hC dX1_clashes_30 (v := 0) (by decide) rfl ?_
    refine q_iret hC dX1_clashes_31 rfl ⟨by decide, by decide⟩ ⟨_, rfl, ?_⟩
    first
      | exact ⟨Or.inl rfl, rfl⟩
      | exact ⟨Or.inr rfl, rfl⟩
  · refine q_iload_n hC 3 dX1_clashes_18 rfl rfl ?_
    refine q_bipush hC dX1_clashes_19 (v := 45) (by decide) rfl ?_
    refine q_icmp_eq hC dX1_clashes_21 (t := 30) (n := 24) (by decide) rfl (fun h21_2 => ?_) (fun h21_2 => ?_)
    · refine q_iconst hC dX1_clashes_30 (v := 0) (by decide) rfl ?_
      refine q_iret hC dX1_clashes_31 rfl ⟨by decide, by decide⟩ ⟨_, rfl, ?_⟩
      first
        | exact ⟨Or.inl rfl, rfl⟩
        | exact ⟨Or.inr rfl, rfl⟩
    · refine q_iload_n hC 3 dX1_clashes_24 rfl rfl ?_
      refine q_bipush hC dX1_clashes_25 (v := 118) (by decide) rfl ?_
      refine q_icmp_ne hC dX1_clashes_27 (t := 32) (n := 30) (by decide) rfl (fun h27_3 => ?_) (fun h27_3 => ?_)
      · refine q_aload_n hC 0 dX1_clashes_32 rfl rfl ?_
        refine q_get_f hC f_X1_84 dX1_clashes_33 rfl rfl hi rfl ?_
        refine q_iload_n hC 1 dX1_clashes_36 rfl rfl ?_
        refine q_cald hC dX1_clashes_37 rfl hi ha rfl ?_
        refine q_bipush hC dX1_clashes_38 (v := 115) (by decide) rfl ?_
        refine q_icmp_ne hC dX1_clashes_40 (t := 47) (n := 43) (by decide) rfl (fun h40_4 => ?_) (fun h40_4 => ?_)
        · refine q_iconst hC dX1_clashes_47 (v := 0) (by decide) rfl ?_
          refine q_aload_n hC 0 dX1_clashes_48 rfl rfl ?_
          refine q_get_f hC f_X1_84 dX1_clashes_49 rfl rfl hi rfl ?_
          refine q_iload_n hC 2 dX1_clashes_52 rfl rfl ?_
          refine q_cald hC dX1_clashes_53 rfl hi hb rfl ?_
          refine q_bipush hC dX1_clashes_54 (v := 115) (by decide) rfl ?_
          refine q_icmp_ne hC dX1_clashes_56 (t := 63) (n := 59) (by decide) rfl (fun h56_5 => ?_) (fun h56_5 => ?_)
          · refine q_iconst hC dX1_clashes_63 (v := 0) (by decide) rfl ?_
            refine q_icmp_ne hC dX1_clashes_64 (t := 94) (n := 67) (by decide) rfl (fun h => absurd h (by decide)) (fun _ => ?_)
            refine q_aload_n hC 0 dX1_clashes_67 rfl rfl ?_
            refine q_get_f hC f_X1_84 dX1_clashes_68 rfl rfl hi rfl ?_
            refine q_iload_n hC 2 dX1_clashes_71 rfl rfl ?_
            refine q_cald hC dX1_clashes_72 rfl hi hb rfl ?_
            refine q_bipush hC dX1_clashes_73 (v := 102) (by decide) rfl ?_
            refine q_icmp_eq hC dX1_clashes_75 (t := 94) (n := 78) (by decide) rfl (fun h75_6 => ?_) (fun h75_6 => ?_)
            · refine q_iconst hC dX1_clashes_94 (v := 1) (by decide) rfl ?_
              refine q_goto hC dX1_clashes_95 (n := 99) (by decide) ?_
              refine q_iret hC dX1_clashes_99 rfl ⟨by decide, by decide⟩ ⟨_, rfl, ?_⟩
              first
                | exact ⟨Or.inl rfl, rfl⟩
                | exact ⟨Or.inr rfl, rfl⟩
            · refine q_aload_n hC 0 dX1_clashes_78 rfl rfl ?_
              refine q_get_f hC f_X1_79 dX1_clashes_79 rfl rfl hi rfl ?_
              refine q_iload_n hC 1 dX1_clashes_82 rfl rfl ?_
              refine q_cald hC dX1_clashes_83 rfl hi ha rfl ?_
              refine q_callSN hC (c_X9_sightRank (q_hD hC)) m_X9_sightRank ln_X1_92 dX1_clashes_84 _ rfl rfl (Nat.le_of_ble_eq_true rfl) ⟨⟨by decide, by decide⟩, by decide, by decide⟩ rfl (k' := (0, 0)) rfl trivial (fun v S' hp => ?_)
              obtain ⟨r84_7, rfl, hr84_7, rfl⟩ := hp
              show qV Γ _ _ 87 _ (.int _ :: _) _ _
              refine q_iload_n hC 3 dX1_clashes_87 rfl rfl ?_
              refine q_callSN hC (c_X9_sightRank (q_hD hC)) m_X9_sightRank ln_X1_92 dX1_clashes_88 _ rfl rfl (Nat.le_of_ble_eq_true rfl) ⟨⟨by decide, by decide⟩, by decide, by decide⟩ rfl (k' := (0, 0)) rfl trivial (fun v S' hp => ?_)
              obtain ⟨r88_8, rfl, hr88_8, rfl⟩ := hp
              show qV Γ _ _ 91 _ (.int _ :: _) _ _
              refine q_icmp_le hC dX1_clashes_91 (t := 98) (n := 94) (by decide) rfl (fun h91_9 => ?_) (fun h91_9 => ?_)
              · refine q_iconst hC dX1_clashes_98 (v := 0) (by decide) rfl ?_
                refine q_iret hC dX1_clashes_99 rfl ⟨by decide, by decide⟩ ⟨_, rfl, ?_⟩
                first
                  | exact ⟨Or.inl rfl, rfl⟩
                  | exact ⟨Or.inr rfl, rfl⟩
              · refine q_iconst hC dX1_clashes_94 (v := 1) (by decide) rfl ?_
                refine q_goto hC dX1_clashes_95 (n := 99) (by decide) ?_
                refine q_iret hC dX1_clashes_99 rfl ⟨by decide, by decide⟩ ⟨_, rfl, ?_⟩
                first
                  | exact ⟨Or.inl rfl, rfl⟩
                  | exact ⟨Or.inr rfl, rfl⟩
          · refine q_iconst hC dX1_clashes_59 (v := 1) (by decide) rfl ?_
            refine q_goto hC dX1_clashes_60 (n := 64) (by decide) ?_
            refine q_icmp_ne hC dX1_clashes_64 (t := 94) (n := 67) (by decide) rfl (fun _ => ?_) (fun h => absurd h (by decide))
            refine q_iconst hC dX1_clashes_94 (v := 1) (by decide) rfl ?_
            refine q_goto hC dX1_clashes_95 (n := 99) (by decide) ?_
            refine q_iret hC dX1_clashes_99 rfl ⟨by decide, by decide⟩ ⟨_, rfl, ?_⟩
            first
              | exact ⟨Or.inl rfl, rfl⟩
              | exact ⟨Or.inr rfl, rfl⟩
        · refine q_iconst hC dX1_clashes_43 (v := 1) (by decide) rfl ?_
          refine q_goto hC dX1_clashes_44 (n := 48) (by decide) ?_
          refine q_aload_n hC 0 dX1_clashes_48 rfl rfl ?_
          refine q_get_f hC f_X1_84 dX1_clashes_49 rfl rfl hi rfl ?_
          refine q_iload_n hC 2 dX1_clashes_52 rfl rfl ?_
          refine q_cald hC dX1_clashes_53 rfl hi hb rfl ?_
          refine q_bipush hC dX1_clashes_54 (v := 115) (by decide) rfl ?_
          refine q_icmp_ne hC dX1_clashes_56 (t := 63) (n := 59) (by decide) rfl (fun h56_10 => ?_) (fun h56_10 => ?_)
          · refine q_iconst hC dX1_clashes_63 (v := 0) (by decide) rfl ?_
            refine q_icmp_ne hC dX1_clashes_64 (t := 94) (n := 67) (by decide) rfl (fun _ => ?_) (fun h => absurd h (by decide))
            refine q_iconst hC dX1_clashes_94 (v := 1) (by decide) rfl ?_
            refine q_goto hC dX1_clashes_95 (n := 99) (by decide) ?_
            refine q_iret hC dX1_clashes_99 rfl ⟨by decide, by decide⟩ ⟨_, rfl, ?_⟩
            first
              | exact ⟨Or.inl rfl, rfl⟩
              | exact ⟨Or.inr rfl, rfl⟩
          · refine q_iconst hC dX1_clashes_59 (v := 1) (by decide) rfl ?_
            refine q_goto hC dX1_clashes_60 (n := 64) (by decide) ?_
            refine q_icmp_ne hC dX1_clashes_64 (t := 94) (n := 67) (by decide) rfl (fun h => absurd h (by decide)) (fun _ => ?_)
            refine q_aload_n hC 0 dX1_clashes_67 rfl rfl ?_
            refine q_get_f hC f_X1_84 dX1_clashes_68 rfl rfl hi rfl ?_
            refine q_iload_n hC 2 dX1_clashes_71 rfl rfl ?_
            refine q_cald hC dX1_clashes_72 rfl hi hb rfl ?_
            refine q_bipush hC dX1_clashes_73 (v := 102) (by decide) rfl ?_
            refine q_icmp_eq hC dX1_clashes_75 (t := 94) (n := 78) (by decide) rfl (fun h75_11 => ?_) (fun h75_11 => ?_)
            · refine q_iconst hC dX1_clashes_94 (v := 1) (by decide) rfl ?_
              refine q_goto hC dX1_clashes_95 (n := 99) (by decide) ?_
              refine q_iret hC dX1_clashes_99 rfl ⟨by decide, by decide⟩ ⟨_, rfl, ?_⟩
              first
                | exact ⟨Or.inl rfl, rfl⟩
                | exact ⟨Or.inr rfl, rfl⟩
            · refine q_aload_n hC 0 dX1_clashes_78 rfl rfl ?_
              refine q_get_f hC f_X1_79 dX1_clashes_79 rfl rfl hi rfl ?_
              refine q_iload_n hC 1 dX1_clashes_82 rfl rfl ?_
              refine q_cald hC dX1_clashes_83 rfl hi ha rfl ?_
              refine q_callSN hC (c_X9_sightRank (q_hD hC)) m_X9_sightRank ln_X1_92 dX1_clashes_84 _ rfl rfl (Nat.le_of_ble_eq_true rfl) ⟨⟨by decide, by decide⟩, by decide, by decide⟩ rfl (k' := (0, 0)) rfl trivial (fun v S' hp => ?_)
              obtain ⟨r84_12, rfl, hr84_12, rfl⟩ := hp
              show qV Γ _ _ 87 _ (.int _ :: _) _ _
              refine q_iload_n hC 3 dX1_clashes_87 rfl rfl ?_
              refine q_callSN hC (c_X9_sightRank (q_hD hC)) m_X9_sightRank ln_X1_92 dX1_clashes_88 _ rfl rfl (Nat.le_of_ble_eq_true rfl) ⟨⟨by decide, by decide⟩, by decide, by decide⟩ rfl (k' := (0, 0)) rfl trivial (fun v S' hp => ?_)
              obtain ⟨r88_13, rfl, hr88_13, rfl⟩ := hp
              show qV Γ _ _ 91 _ (.int _ :: _) _ _
              refine q_icmp_le hC dX1_clashes_91 (t := 98) (n := 94) (by decide) rfl (fun h91_14 => ?_) (fun h91_14 => ?_)
              · refine q_iconst hC dX1_clashes_98 (v := 0) (by decide) rfl ?_
                refine q_iret hC dX1_clashes_99 rfl ⟨by decide, by decide⟩ ⟨_, rfl, ?_⟩
                first
                  | exact ⟨Or.inl rfl, rfl⟩
                  | exact ⟨Or.inr rfl, rfl⟩
              · refine q_iconst hC dX1_clashes_94 (v := 1) (by decide) rfl ?_
                refine q_goto hC dX1_clashes_95 (n := 99) (by decide) ?_
                refine q_iret hC dX1_clashes_99 rfl ⟨by decide, by decide⟩ ⟨_, rfl, ?_⟩
                first
                  | exact ⟨Or.inl rfl, rfl⟩
                  | exact ⟨Or.inr rfl, rfl⟩
      · refine q_iconst hC dX1_clashes_30 (v := 0) (by decide) rfl ?_
        refine q_iret hC dX1_clashes_31 rfl ⟨by decide, by decide⟩ ⟨_, rfl, ?_⟩
        first
          | exact ⟨Or.inl rfl, rfl⟩
          | exact ⟨Or.inr rfl, rfl⟩
abbrev rm_X1_standsWrongly : Room := { frames := 2, cells := 0, slots := 0, locals := 43 }
set_option maxHeartbeats 4000000 in
set_option maxRecDepth 100000 in
theorem c_X1_standsWrongly {L : qL} (hD : q_D L.2.2.2.1) : qCT L yX1_standsWrongly cX1_standsWrongly 5 (some .boolean) rm_X1_standsWrongly (fun ad _ (x : Nat × Nat) => [.ref (ad 1 x.1), .int (nI x.2)]) (fun x S => x.1 < 4 ∧ x.2 < 5 ∧ z_sups S x.1) (qPi (fun x S r S' => z_bool r ∧ S = S')) := by
  refine q_met hD (by decide) (fun _ => Nat.le_of_ble_eq_true rfl) (fun Γ x S hΓ hpre hC => ?_)
  subst hΓ
  obtain ⟨i, t⟩ := x
  obtain ⟨hi, ht, hS⟩ := hpre
  have hi : i < 4 := hi
  have ht : t < 5 := ht
  have ht6 : t < 6 := by omega
  have hS : z_sups S i := hS
  have hsup : z_v5 (S 7 i (nI t).toNatClampNeg) := z_sups_at hS ⟨t, ht, rfl⟩
  have L1 : ∀ (n m : Nat) (y : Int32), m + n = 5 → z_v5 y → qV Γ rm_X1_standsWrongly 5 9 [(0, .ref (q_ad Γ 1 i)), (1, .int (nI t)), (2, .int y), (3, .int (nI m))] [] S (0, 0) := by
    intro n
    induction n with
    | zero =>
      intro m y hmn hy
      obtain rfl : m = 5 := by omega
      refine q_iload_n hC 3 dX1_standsWrongly_9 rfl rfl ?_
      refine q_iconst hC dX1_standsWrongly_10 (v := 5) (by decide) rfl ?_
      refine q_icmp_ge hC dX1_standsWrongly_11 (t := 85) (n := 14) (by decide) rfl (fun h11 => ?_) (fun h11 => absurd (by decide) h11)
      refine q_iconst hC dX1_standsWrongly_85 (v := 0) (by decide) rfl ?_
      refine q_iret hC dX1_standsWrongly_86 rfl ⟨by decide, by decide⟩ ⟨_, rfl, ?_⟩
      first
        | exact ⟨Or.inl rfl, rfl⟩
        | exact ⟨Or.inr rfl, rfl⟩
    | succ n ih =>
      intro m y hmn hy
      have hm : m < 5 := by omega
      have L2 : ∀ (l q : Nat), q + l = 6 → z_lt y 5 → qV Γ rm_X1_standsWrongly 5 33 [(0, .ref (q_ad Γ 1 i)), (1, .int (nI t)), (2, .int y), (3, .int (nI m)), (4, .int (nI q))] [] S (0, 0) := by
        intro l
        induction l with
        | zero =>
          intro q hql hy5
          obtain rfl : q = 6 := by omega
          refine q_iload hC 4 dX1_standsWrongly_33 rfl rfl ?_
          refine q_bipush hC dX1_standsWrongly_35 (v := 6) (by decide) rfl ?_
          refine q_icmp_ge hC dX1_standsWrongly_37 (t := 72) (n := 40) (by decide) rfl (fun h37 => ?_) (fun h37 => absurd (by decide) h37)
          refine q_aload_n hC 0 dX1_standsWrongly_72 rfl rfl ?_
          refine q_get_f hC f_X1_21 dX1_standsWrongly_73 rfl rfl hi rfl ?_
          refine q_iload_n hC 2 dX1_standsWrongly_76 rfl rfl ?_
          refine q_iald hC dX1_standsWrongly_77 rfl hi (z_in hy5 (by decide)) rfl ?_
          refine q_istore_n hC dX1_standsWrongly_78 (by decide) (ls' := [(0, _), (1, _), (2, _), (3, _), (4, _)]) rfl rfl ?_
          refine q_iinc hC 3 dX1_standsWrongly_79 rfl (v := nI (m + 1)) (z_inc m) (by decide) (ls' := [(0, _), (1, _), (2, _), (3, _), (4, _)]) rfl rfl ?_
          refine q_goto hC dX1_standsWrongly_82 (n := 9) (by decide) ?_
          refine q_locp [0, 1, 2, 3] (ls' := [(0, _), (1, _), (2, _), (3, _)]) rfl ?_
          exact ih (m + 1) _ (by omega) (z_sups_at hS hy5)
        | succ l ih2 =>
          intro q hql hy5
          have hq : q < 6 := by omega
          refine q_iload hC 4 dX1_standsWrongly_33 rfl rfl ?_
          refine q_bipush hC dX1_standsWrongly_35 (v := 6) (by decide) rfl ?_
          refine q_icmp_ge hC dX1_standsWrongly_37 (t := 72) (n := 40) (by decide) rfl (fun h37 => absurd h37 (nI_ge hq (by decide))) (fun h37 => ?_)
          refine q_aload_n hC 0 dX1_standsWrongly_40 rfl rfl ?_
          refine q_get_f hC f_X1_75 dX1_standsWrongly_41 rfl rfl hi rfl ?_
          refine q_iload_n hC 1 dX1_standsWrongly_44 rfl rfl ?_
          refine q_bipush hC dX1_standsWrongly_45 (v := 6) (by decide) rfl ?_
          refine q_imul hC dX1_standsWrongly_47 rfl ?_
          refine q_iload hC 4 dX1_standsWrongly_48 rfl rfl ?_
          refine q_iadd hC dX1_standsWrongly_50 rfl ?_
          refine q_iload_n hC 2 dX1_standsWrongly_51 rfl rfl ?_
          refine q_bipush hC dX1_standsWrongly_52 (v := 6) (by decide) rfl ?_
          refine q_imul hC dX1_standsWrongly_54 rfl ?_
          refine q_iload hC 4 dX1_standsWrongly_55 rfl rfl ?_
          refine q_iadd hC dX1_standsWrongly_57 rfl ?_
          refine q_callS hC (c_X1_clashes (q_hD hC)) m_X1_clashes lk_X1_88 dX1_standsWrongly_58 (i, nI t * 6 + nI q, y * 6 + nI q) rfl rfl (Nat.le_of_ble_eq_true rfl) ⟨⟨by decide, by decide⟩, by decide, by decide⟩ rfl (k' := (0, 0)) rfl ⟨hi, z_in30 (z_ltn ht) (z_ltn hq), z_in30 hy5 (z_ltn hq)⟩ (fun v S' hp => ?_)
          obtain ⟨r58_1, rfl, hb58_1, rfl⟩ := hp
          show qV Γ _ _ 61 _ (.int _ :: _) _ _
          refine q_if_eq hC dX1_standsWrongly_61 (t := 66) (n := 64) (by decide) rfl (fun h61 => ?_) (fun h61 => ?_)
          · refine q_iinc hC 4 dX1_standsWrongly_66 rfl (v := nI (q + 1)) (z_inc q) (by decide) (ls' := [(0, _), (1, _), (2, _), (3, _), (4, _)]) rfl rfl ?_
            refine q_goto hC dX1_standsWrongly_69 (n := 33) (by decide) ?_
            exact ih2 (q + 1) (by omega) hy5
          · refine q_iconst hC dX1_standsWrongly_64 (v := 1) (by decide) rfl ?_
            refine q_iret hC dX1_standsWrongly_65 rfl ⟨by decide, by decide⟩ ⟨_, rfl, ?_⟩
            first
              | exact ⟨Or.inl rfl, rfl⟩
              | exact ⟨Or.inr rfl, rfl⟩
      refine q_iload_n hC 3 dX1_standsWrongly_9 rfl rfl ?_
      refine q_iconst hC dX1_standsWrongly_10 (v := 5) (by decide) rfl ?_
      refine q_icmp_ge hC dX1_standsWrongly_11 (t := 85) (n := 14) (by decide) rfl (fun h11 => absurd h11 (nI_ge hm (by decide))) (fun h11 => ?_)
      refine q_iload_n hC 2 dX1_standsWrongly_14 rfl rfl ?_
      refine q_iconst hC dX1_standsWrongly_15 (v := (-1)) (by decide) rfl ?_
      refine q_icmp_eq hC dX1_standsWrongly_16 (t := 85) (n := 19) (by decide) rfl (fun h16 => ?_) (fun h16 => ?_)
      · refine q_iconst hC dX1_standsWrongly_85 (v := 0) (by decide) rfl ?_
        refine q_iret hC dX1_standsWrongly_86 rfl ⟨by decide, by decide⟩ ⟨_, rfl, ?_⟩
        first
          | exact ⟨Or.inl rfl, rfl⟩
          | exact ⟨Or.inr rfl, rfl⟩
      · refine q_aload_n hC 0 dX1_standsWrongly_19 rfl rfl ?_
        refine q_get_f hC f_X1_9 dX1_standsWrongly_20 rfl rfl hi rfl ?_
        refine q_iload_n hC 2 dX1_standsWrongly_23 rfl rfl ?_
        refine q_cald hC dX1_standsWrongly_24 rfl hi (z_in (z_v5n hy h16) (by decide)) rfl ?_
        refine q_bipush hC dX1_standsWrongly_25 (v := 99) (by decide) rfl ?_
        refine q_icmp_ne hC dX1_standsWrongly_27 (t := 85) (n := 30) (by decide) rfl (fun h27 => ?_) (fun h27 => ?_)
        · refine q_iconst hC dX1_standsWrongly_85 (v := 0) (by decide) rfl ?_
          refine q_iret hC dX1_standsWrongly_86 rfl ⟨by decide, by decide⟩ ⟨_, rfl, ?_⟩
          first
            | exact ⟨Or.inl rfl, rfl⟩
            | exact ⟨Or.inr rfl, rfl⟩
        · refine q_iconst hC dX1_standsWrongly_30 (v := 0) (by decide) rfl ?_
          refine q_istore hC dX1_standsWrongly_31 (by decide) (ls' := [(0, _), (1, _), (2, _), (3, _), (4, _)]) rfl rfl ?_
          exact L2 6 0 (by omega) (z_v5n hy h16)
  show qV Γ _ _ 0 [(0, .ref (q_ad Γ 1 i)), (1, .int (nI t))] [] S (0, 0)
  refine q_aload_n hC 0 dX1_standsWrongly_0 rfl rfl ?_
  refine q_get_f hC f_X1_21 dX1_standsWrongly_1 rfl rfl hi rfl ?_
  refine q_iload_n hC 1 dX1_standsWrongly_4 rfl rfl ?_
  refine q_iald hC dX1_standsWrongly_5 rfl hi (vp_in_nI ht (by decide)) rfl ?_
  refine q_istore_n hC dX1_standsWrongly_6 (by decide) (ls' := [(0, _), (1, _), (2, _)]) rfl rfl ?_
  refine q_iconst hC dX1_standsWrongly_7 (v := 1) (by decide) rfl ?_
  refine q_istore_n hC dX1_standsWrongly_8 (by decide) (ls' := [(0, _), (1, _), (2, _), (3, _)]) rfl rfl ?_
  exact L1 4 1 _ (by omega) hsup
abbrev rm_X1_hidesInterface : Room := { frames := 0, cells := 0, slots := 0, locals := 0 }
set_option maxHeartbeats 4000000 in
set_option maxRecDepth 100000 in
theorem c_X1_hidesInterface {L : qL} (hD : q_D L.2.2.2.1) : qCT L yX1_hidesInterface cX1_hidesInterface 7 (some .boolean) rm_X1_hidesInterface (fun ad _ (x : Nat × Nat) => [.ref (ad 1 x.1), .ref (ad 17 x.1), .int (nI x.2)]) (fun x S => x.1 < 4 ∧ x.2 < 5 ∧ z_sups S x.1) (qPi (fun x S r S' => z_bool r ∧ S = S')) := by
  refine q_met hD (by decide) (fun _ => Nat.le_of_ble_eq_true rfl) (fun Γ x S hΓ hpre hC => ?_)
  subst hΓ
  obtain ⟨i, t⟩ := x
  obtain ⟨hi, ht, hS⟩ := hpre
  have hi : i < 4 := hi
  have ht : t < 5 := ht
  have ht6 : t < 6 := by omega
  have hS : z_sups S i := hS
  have hsup : z_v5 (S 7 i (nI t).toNatClampNeg) := z_sups_at hS ⟨t, ht, rfl⟩
  have L1 : ∀ (n m : Nat) (y : Int32), m + n = 6 → qV Γ rm_X1_hidesInterface 7 16 [(0, .ref (q_ad Γ 1 i)), (1, .ref (q_ad Γ 17 i)), (2, .int (nI t)), (3, .int y), (4, .int (nI m))] [] S (0, 0) := by
    intro n
    induction n with
    | zero =>
      intro m y hmn
      obtain rfl : m = 6 := by omega
      refine q_iload hC 4 dX1_hidesInterface_16 rfl rfl ?_
      refine q_bipush hC dX1_hidesInterface_18 (v := 6) (by decide) rfl ?_
      refine q_icmp_ge hC dX1_hidesInterface_20 (t := 106) (n := 23) (by decide) rfl (fun h20 => ?_) (fun h20 => absurd (by decide) h20)
      refine q_iconst hC dX1_hidesInterface_106 (v := 0) (by decide) rfl ?_
      refine q_iret hC dX1_hidesInterface_107 rfl ⟨by decide, by decide⟩ ⟨_, rfl, ?_⟩
      first
        | exact ⟨Or.inl rfl, rfl⟩
        | exact ⟨Or.inr rfl, rfl⟩
    | succ n ih =>
      intro m y hmn
      have hm : m < 6 := by omega
      refine q_iload hC 4 dX1_hidesInterface_16 rfl rfl ?_
      refine q_bipush hC dX1_hidesInterface_18 (v := 6) (by decide) rfl ?_
      refine q_icmp_ge hC dX1_hidesInterface_20 (t := 106) (n := 23) (by decide) rfl (fun h20 => absurd h20 (nI_ge hm (by decide))) (fun h20 => ?_)
      refine q_aload_n hC 0 dX1_hidesInterface_23 rfl rfl ?_
      refine q_get_f hC f_X1_75 dX1_hidesInterface_24 rfl rfl hi rfl ?_
      refine q_get_f hC f_X1_79 dX1_hidesInterface_27 rfl rfl hi rfl ?_
      refine q_iload_n hC 2 dX1_hidesInterface_30 rfl rfl ?_
      refine q_bipush hC dX1_hidesInterface_31 (v := 6) (by decide) rfl ?_
      refine q_imul hC dX1_hidesInterface_33 rfl ?_
      refine q_iload hC 4 dX1_hidesInterface_34 rfl rfl ?_
      refine q_iadd hC dX1_hidesInterface_36 rfl ?_
      refine q_cald hC dX1_hidesInterface_37 rfl hi (z_in30 (z_ltn ht) (z_ltn hm)) rfl ?_
      refine q_istore hC dX1_hidesInterface_38 (by decide) (ls' := [(0, _), (1, _), (2, _), (3, _), (4, _), (5, _)]) rfl rfl ?_
      refine q_iload hC 5 dX1_hidesInterface_40 rfl rfl ?_
      refine q_bipush hC dX1_hidesInterface_42 (v := 45) (by decide) rfl ?_
      refine q_icmp_eq hC dX1_hidesInterface_44 (t := 78) (n := 47) (by decide) rfl (fun h44_1 => ?_) (fun h44_1 => ?_)
      · refine q_iconst hC dX1_hidesInterface_78 (v := 0) (by decide) rfl ?_
        refine q_istore hC dX1_hidesInterface_79 (by decide) (ls' := [(0, _), (1, _), (2, _), (3, _), (4, _), (5, _), (6, _)]) rfl rfl ?_
        refine q_iload hC 6 dX1_hidesInterface_81 rfl rfl ?_
        refine q_if_eq hC dX1_hidesInterface_83 (t := 100) (n := 86) (by decide) rfl (fun _ => ?_) (fun h => absurd (by decide) h)
        refine q_iinc hC 4 dX1_hidesInterface_100 rfl (v := nI (m + 1)) (z_inc m) (by decide) (ls' := [(0, _), (1, _), (2, _), (3, _), (4, _), (5, _), (6, _)]) rfl rfl ?_
        refine q_goto hC dX1_hidesInterface_103 (n := 16) (by decide) ?_
        refine q_locp [0, 1, 2, 3, 4] (ls' := [(0, _), (1, _), (2, _), (3, _), (4, _)]) rfl ?_
        exact ih (m + 1) _ (by omega)
      · refine q_iload hC 5 dX1_hidesInterface_47 rfl rfl ?_
        refine q_bipush hC dX1_hidesInterface_49 (v := 112) (by decide) rfl ?_
        refine q_icmp_ne hC dX1_hidesInterface_51 (t := 74) (n := 54) (by decide) rfl (fun h51_2 => ?_) (fun h51_2 => ?_)
        · refine q_iconst hC dX1_hidesInterface_74 (v := 1) (by decide) rfl ?_
          refine q_goto hC dX1_hidesInterface_75 (n := 79) (by decide) ?_
          refine q_istore hC dX1_hidesInterface_79 (by decide) (ls' := [(0, _), (1, _), (2, _), (3, _), (4, _), (5, _), (6, _)]) rfl rfl ?_
          refine q_iload hC 6 dX1_hidesInterface_81 rfl rfl ?_
          refine q_if_eq hC dX1_hidesInterface_83 (t := 100) (n := 86) (by decide) rfl (fun h => absurd h (by decide)) (fun _ => ?_)
          refine q_aload_n hC 1 dX1_hidesInterface_86 rfl rfl ?_
          refine q_get_f hC f_X1_96 dX1_hidesInterface_87 rfl rfl hi rfl ?_
          refine q_iload hC 4 dX1_hidesInterface_90 rfl rfl ?_
          refine q_iald hC dX1_hidesInterface_92 rfl hi (vp_in_nI hm (by decide)) rfl ?_
          refine q_iload_n hC 3 dX1_hidesInterface_93 rfl rfl ?_
          refine q_iand hC dX1_hidesInterface_94 rfl ?_
          refine q_if_eq hC dX1_hidesInterface_95 (t := 100) (n := 98) (by decide) rfl (fun h95_3 => ?_) (fun h95_3 => ?_)
          · refine q_iinc hC 4 dX1_hidesInterface_100 rfl (v := nI (m + 1)) (z_inc m) (by decide) (ls' := [(0, _), (1, _), (2, _), (3, _), (4, _), (5, _), (6, _)]) rfl rfl ?_
            refine q_goto hC dX1_hidesInterface_103 (n := 16) (by decide) ?_
            refine q_locp [0, 1, 2, 3, 4] (ls' := [(0, _), (1, _), (2, _), (3, _), (4, _)]) rfl ?_
            exact ih (m + 1) _ (by omega)
          · refine q_iconst hC dX1_hidesInterface_98 (v := 1) (by decide) rfl ?_
            refine q_iret hC dX1_hidesInterface_99 rfl ⟨by decide, by decide⟩ ⟨_, rfl, ?_⟩
            first
              | exact ⟨Or.inl rfl, rfl⟩
              | exact ⟨Or.inr rfl, rfl⟩
        · refine q_aload_n hC 0 dX1_hidesInterface_54 rfl rfl ?_
          refine q_get_f hC f_X1_75 dX1_hidesInterface_55 rfl rfl hi rfl ?_
          refine q_get_f hC f_X1_84 dX1_hidesInterface_58 rfl rfl hi rfl ?_
          refine q_iload_n hC 2 dX1_hidesInterface_61 rfl rfl ?_
          refine q_bipush hC dX1_hidesInterface_62 (v := 6) (by decide) rfl ?_
          refine q_imul hC dX1_hidesInterface_64 rfl ?_
          refine q_iload hC 4 dX1_hidesInterface_65 rfl rfl ?_
          refine q_iadd hC dX1_hidesInterface_67 rfl ?_
          refine q_cald hC dX1_hidesInterface_68 rfl hi (z_in30 (z_ltn ht) (z_ltn hm)) rfl ?_
          refine q_bipush hC dX1_hidesInterface_69 (v := 115) (by decide) rfl ?_
          refine q_icmp_ne hC dX1_hidesInterface_71 (t := 78) (n := 74) (by decide) rfl (fun h71_4 => ?_) (fun h71_4 => ?_)
          · refine q_iconst hC dX1_hidesInterface_78 (v := 0) (by decide) rfl ?_
            refine q_istore hC dX1_hidesInterface_79 (by decide) (ls' := [(0, _), (1, _), (2, _), (3, _), (4, _), (5, _), (6, _)]) rfl rfl ?_
            refine q_iload hC 6 dX1_hidesInterface_81 rfl rfl ?_
            refine q_if_eq hC dX1_hidesInterface_83 (t := 100) (n := 86) (by decide) rfl (fun _ => ?_) (fun h => absurd (by decide) h)
            refine q_iinc hC 4 dX1_hidesInterface_100 rfl (v := nI (m + 1)) (z_inc m) (by decide) (ls' := [(0, _), (1, _), (2, _), (3, _), (4, _), (5, _), (6, _)]) rfl rfl ?_
            refine q_goto hC dX1_hidesInterface_103 (n := 16) (by decide) ?_
            refine q_locp [0, 1, 2, 3, 4] (ls' := [(0, _), (1, _), (2, _), (3, _), (4, _)]) rfl ?_
            exact ih (m + 1) _ (by omega)
          · refine q_iconst hC dX1_hidesInterface_74 (v := 1) (by decide) rfl ?_
            refine q_goto hC dX1_hidesInterface_75 (n := 79) (by decide) ?_
            refine q_istore hC dX1_hidesInterface_79 (by decide) (ls' := [(0, _), (1, _), (2, _), (3, _), (4, _), (5, _), (6, _)]) rfl rfl ?_
            refine q_iload hC 6 dX1_hidesInterface_81 rfl rfl ?_
            refine q_if_eq hC dX1_hidesInterface_83 (t := 100) (n := 86) (by decide) rfl (fun h => absurd h (by decide)) (fun _ => ?_)
            refine q_aload_n hC 1 dX1_hidesInterface_86 rfl rfl ?_
            refine q_get_f hC f_X1_96 dX1_hidesInterface_87 rfl rfl hi rfl ?_
            refine q_iload hC 4 dX1_hidesInterface_90 rfl rfl ?_
            refine q_iald hC dX1_hidesInterface_92 rfl hi (vp_in_nI hm (by decide)) rfl ?_
            refine q_iload_n hC 3 dX1_hidesInterface_93 rfl rfl ?_
            refine q_iand hC dX1_hidesInterface_94 rfl ?_
            refine q_if_eq hC dX1_hidesInterface_95 (t := 100) (n := 98) (by decide) rfl (fun h95_5 => ?_) (fun h95_5 => ?_)
            · refine q_iinc hC 4 dX1_hidesInterface_100 rfl (v := nI (m + 1)) (z_inc m) (by decide) (ls' := [(0, _), (1, _), (2, _), (3, _), (4, _), (5, _), (6, _)]) rfl rfl ?_
              refine q_goto hC dX1_hidesInterface_103 (n := 16) (by decide) ?_
              refine q_locp [0, 1, 2, 3, 4] (ls' := [(0, _), (1, _), (2, _), (3, _), (4, _)]) rfl ?_
              exact ih (m + 1) _ (by omega)
            · refine q_iconst hC dX1_hidesInterface_98 (v := 1) (by decide) rfl ?_
              refine q_iret hC dX1_hidesInterface_99 rfl ⟨by decide, by decide⟩ ⟨_, rfl, ?_⟩
              first
                | exact ⟨Or.inl rfl, rfl⟩
                | exact ⟨Or.inr rfl, rfl⟩
  show qV Γ _ _ 0 [(0, .ref (q_ad Γ 1 i)), (1, .ref (q_ad Γ 17 i)), (2, .int (nI t))] [] S (0, 0)
  refine q_aload_n hC 1 dX1_hidesInterface_0 rfl rfl ?_
  refine q_get_f hC f_X1_41 dX1_hidesInterface_1 rfl rfl hi rfl ?_
  refine q_iload_n hC 2 dX1_hidesInterface_4 rfl rfl ?_
  refine q_iald hC dX1_hidesInterface_5 rfl hi (vp_in_nI ht6 (by decide)) rfl ?_
  refine q_iconst hC dX1_hidesInterface_6 (v := 1) (by decide) rfl ?_
  refine q_iload_n hC 2 dX1_hidesInterface_7 rfl rfl ?_
  refine q_ishl hC dX1_hidesInterface_8 rfl ?_
  refine q_iconst hC dX1_hidesInterface_9 (v := (-1)) (by decide) rfl ?_
  refine q_ixor hC dX1_hidesInterface_10 rfl ?_
  refine q_iand hC dX1_hidesInterface_11 rfl ?_
  refine q_istore_n hC dX1_hidesInterface_12 (by decide) (ls' := [(0, _), (1, _), (2, _), (3, _)]) rfl rfl ?_
  refine q_iconst hC dX1_hidesInterface_13 (v := 0) (by decide) rfl ?_
  refine q_istore hC dX1_hidesInterface_14 (by decide) (ls' := [(0, _), (1, _), (2, _), (3, _), (4, _)]) rfl rfl ?_
  exact L1 6 0 _ (by omega)
abbrev rm_X1_lacksMethod : Room := { frames := 0, cells := 0, slots := 0, locals := 0 }
set_option maxHeartbeats 4000000 in
set_option maxRecDepth 100000 in
theorem c_X1_lacksMethod {L : qL} (hD : q_D L.2.2.2.1) : qCT L yX1_lacksMethod cX1_lacksMethod 4 (some .boolean) rm_X1_lacksMethod (fun ad _ (x : Nat × Nat) => [.ref (ad 17 x.1), .int (nI x.2)]) (fun x S => x.1 < 4 ∧ x.2 < 5 ∧ z_sups S x.1) (qPi (fun x S r S' => z_bool r ∧ S = S')) := by
  refine q_met hD (by decide) (fun _ => Nat.le_of_ble_eq_true rfl) (fun Γ x S hΓ hpre hC => ?_)
  subst hΓ
  obtain ⟨i, t⟩ := x
  obtain ⟨hi, ht, hS⟩ := hpre
  have hi : i < 4 := hi
  have ht : t < 5 := ht
  have ht6 : t < 6 := by omega
  have hS : z_sups S i := hS
  have hsup : z_v5 (S 7 i (nI t).toNatClampNeg) := z_sups_at hS ⟨t, ht, rfl⟩
  have L1 : ∀ (n m : Nat), m + n = 6 → qV Γ rm_X1_lacksMethod 4 2 [(0, .ref (q_ad Γ 17 i)), (1, .int (nI t)), (2, .int (nI m))] [] S (0, 0) := by
    intro n
    induction n with
    | zero =>
      intro m hmn
      obtain rfl : m = 6 := by omega
      refine q_iload_n hC 2 dX1_lacksMethod_2 rfl rfl ?_
      refine q_bipush hC dX1_lacksMethod_3 (v := 6) (by decide) rfl ?_
      refine q_icmp_ge hC dX1_lacksMethod_5 (t := 71) (n := 8) (by decide) rfl (fun h5 => ?_) (fun h5 => absurd (by decide) h5)
      refine q_iconst hC dX1_lacksMethod_71 (v := 0) (by decide) rfl ?_
      refine q_iret hC dX1_lacksMethod_72 rfl ⟨by decide, by decide⟩ ⟨_, rfl, ?_⟩
      first
        | exact ⟨Or.inl rfl, rfl⟩
        | exact ⟨Or.inr rfl, rfl⟩
    | succ n ih =>
      intro m hmn
      have hm : m < 6 := by omega
      refine q_iload_n hC 2 dX1_lacksMethod_2 rfl rfl ?_
      refine q_bipush hC dX1_lacksMethod_3 (v := 6) (by decide) rfl ?_
      refine q_icmp_ge hC dX1_lacksMethod_5 (t := 71) (n := 8) (by decide) rfl (fun h5 => absurd h5 (nI_ge hm (by decide))) (fun h5 => ?_)
      refine q_aload_n hC 0 dX1_lacksMethod_8 rfl rfl ?_
      refine q_get_f hC f_X1_99 dX1_lacksMethod_9 rfl rfl hi rfl ?_
      refine q_iload_n hC 1 dX1_lacksMethod_12 rfl rfl ?_
      refine q_bipush hC dX1_lacksMethod_13 (v := 6) (by decide) rfl ?_
      refine q_imul hC dX1_lacksMethod_15 rfl ?_
      refine q_iload_n hC 2 dX1_lacksMethod_16 rfl rfl ?_
      refine q_iadd hC dX1_lacksMethod_17 rfl ?_
      refine q_iald hC dX1_lacksMethod_18 rfl hi (z_in36 (z_ltn ht6) (z_ltn hm)) rfl ?_
      refine q_iconst hC dX1_lacksMethod_19 (v := (-1)) (by decide) rfl ?_
      refine q_icmp_ne hC dX1_lacksMethod_20 (t := 39) (n := 23) (by decide) rfl (fun h20_1 => ?_) (fun h20_1 => ?_)
      · refine q_iconst hC dX1_lacksMethod_39 (v := 1) (by decide) rfl ?_
        refine q_goto hC dX1_lacksMethod_40 (n := 44) (by decide) ?_
        refine q_istore_n hC dX1_lacksMethod_44 (by decide) (ls' := [(0, _), (1, _), (2, _), (3, _)]) rfl rfl ?_
        refine q_iload_n hC 3 dX1_lacksMethod_45 rfl rfl ?_
        refine q_if_eq hC dX1_lacksMethod_46 (t := 65) (n := 49) (by decide) rfl (fun h => absurd h (by decide)) (fun _ => ?_)
        refine q_aload_n hC 0 dX1_lacksMethod_49 rfl rfl ?_
        refine q_get_f hC f_X1_102 dX1_lacksMethod_50 rfl rfl hi rfl ?_
        refine q_iload_n hC 1 dX1_lacksMethod_53 rfl rfl ?_
        refine q_bipush hC dX1_lacksMethod_54 (v := 6) (by decide) rfl ?_
        refine q_imul hC dX1_lacksMethod_56 rfl ?_
        refine q_iload_n hC 2 dX1_lacksMethod_57 rfl rfl ?_
        refine q_iadd hC dX1_lacksMethod_58 rfl ?_
        refine q_iald hC dX1_lacksMethod_59 rfl hi (z_in36 (z_ltn ht6) (z_ltn hm)) rfl ?_
        refine q_if_ge hC dX1_lacksMethod_60 (t := 65) (n := 63) (by decide) rfl (fun h60_2 => ?_) (fun h60_2 => ?_)
        · refine q_iinc hC 2 dX1_lacksMethod_65 rfl (v := nI (m + 1)) (z_inc m) (by decide) (ls' := [(0, _), (1, _), (2, _), (3, _)]) rfl rfl ?_
          refine q_goto hC dX1_lacksMethod_68 (n := 2) (by decide) ?_
          refine q_locp [0, 1, 2] (ls' := [(0, _), (1, _), (2, _)]) rfl ?_
          exact ih (m + 1) (by omega)
        · refine q_iconst hC dX1_lacksMethod_63 (v := 1) (by decide) rfl ?_
          refine q_iret hC dX1_lacksMethod_64 rfl ⟨by decide, by decide⟩ ⟨_, rfl, ?_⟩
          first
            | exact ⟨Or.inl rfl, rfl⟩
            | exact ⟨Or.inr rfl, rfl⟩
      · refine q_aload_n hC 0 dX1_lacksMethod_23 rfl rfl ?_
        refine q_get_f hC f_X1_96 dX1_lacksMethod_24 rfl rfl hi rfl ?_
        refine q_iload_n hC 2 dX1_lacksMethod_27 rfl rfl ?_
        refine q_iald hC dX1_lacksMethod_28 rfl hi (vp_in_nI hm (by decide)) rfl ?_
        refine q_aload_n hC 0 dX1_lacksMethod_29 rfl rfl ?_
        refine q_get_f hC f_X1_41 dX1_lacksMethod_30 rfl rfl hi rfl ?_
        refine q_iload_n hC 1 dX1_lacksMethod_33 rfl rfl ?_
        refine q_iald hC dX1_lacksMethod_34 rfl hi (vp_in_nI ht6 (by decide)) rfl ?_
        refine q_iand hC dX1_lacksMethod_35 rfl ?_
        refine q_if_eq hC dX1_lacksMethod_36 (t := 43) (n := 39) (by decide) rfl (fun h36_3 => ?_) (fun h36_3 => ?_)
        · refine q_iconst hC dX1_lacksMethod_43 (v := 0) (by decide) rfl ?_
          refine q_istore_n hC dX1_lacksMethod_44 (by decide) (ls' := [(0, _), (1, _), (2, _), (3, _)]) rfl rfl ?_
          refine q_iload_n hC 3 dX1_lacksMethod_45 rfl rfl ?_
          refine q_if_eq hC dX1_lacksMethod_46 (t := 65) (n := 49) (by decide) rfl (fun _ => ?_) (fun h => absurd (by decide) h)
          refine q_iinc hC 2 dX1_lacksMethod_65 rfl (v := nI (m + 1)) (z_inc m) (by decide) (ls' := [(0, _), (1, _), (2, _), (3, _)]) rfl rfl ?_
          refine q_goto hC dX1_lacksMethod_68 (n := 2) (by decide) ?_
          refine q_locp [0, 1, 2] (ls' := [(0, _), (1, _), (2, _)]) rfl ?_
          exact ih (m + 1) (by omega)
        · refine q_iconst hC dX1_lacksMethod_39 (v := 1) (by decide) rfl ?_
          refine q_goto hC dX1_lacksMethod_40 (n := 44) (by decide) ?_
          refine q_istore_n hC dX1_lacksMethod_44 (by decide) (ls' := [(0, _), (1, _), (2, _), (3, _)]) rfl rfl ?_
          refine q_iload_n hC 3 dX1_lacksMethod_45 rfl rfl ?_
          refine q_if_eq hC dX1_lacksMethod_46 (t := 65) (n := 49) (by decide) rfl (fun h => absurd h (by decide)) (fun _ => ?_)
          refine q_aload_n hC 0 dX1_lacksMethod_49 rfl rfl ?_
          refine q_get_f hC f_X1_102 dX1_lacksMethod_50 rfl rfl hi rfl ?_
          refine q_iload_n hC 1 dX1_lacksMethod_53 rfl rfl ?_
          refine q_bipush hC dX1_lacksMethod_54 (v := 6) (by decide) rfl ?_
          refine q_imul hC dX1_lacksMethod_56 rfl ?_
          refine q_iload_n hC 2 dX1_lacksMethod_57 rfl rfl ?_
          refine q_iadd hC dX1_lacksMethod_58 rfl ?_
          refine q_iald hC dX1_lacksMethod_59 rfl hi (z_in36 (z_ltn ht6) (z_ltn hm)) rfl ?_
          refine q_if_ge hC dX1_lacksMethod_60 (t := 65) (n := 63) (by decide) rfl (fun h60_4 => ?_) (fun h60_4 => ?_)
          · refine q_iinc hC 2 dX1_lacksMethod_65 rfl (v := nI (m + 1)) (z_inc m) (by decide) (ls' := [(0, _), (1, _), (2, _), (3, _)]) rfl rfl ?_
            refine q_goto hC dX1_lacksMethod_68 (n := 2) (by decide) ?_
            refine q_locp [0, 1, 2] (ls' := [(0, _), (1, _), (2, _)]) rfl ?_
            exact ih (m + 1) (by omega)
          · refine q_iconst hC dX1_lacksMethod_63 (v := 1) (by decide) rfl ?_
            refine q_iret hC dX1_lacksMethod_64 rfl ⟨by decide, by decide⟩ ⟨_, rfl, ?_⟩
            first
              | exact ⟨Or.inl rfl, rfl⟩
              | exact ⟨Or.inr rfl, rfl⟩
  show qV Γ _ _ 0 [(0, .ref (q_ad Γ 17 i)), (1, .int (nI t))] [] S (0, 0)
  refine q_iconst hC dX1_lacksMethod_0 (v := 0) (by decide) rfl ?_
  refine q_istore_n hC dX1_lacksMethod_1 (by decide) (ls' := [(0, _), (1, _), (2, _)]) rfl rfl ?_
  exact L1 6 0 (by omega)
abbrev rm_X1_brokenBy : Room := { frames := 3, cells := 0, slots := 0, locals := 67 }
set_option maxHeartbeats 4000000 in
set_option maxRecDepth 100000 in
theorem c_X1_brokenBy {L : qL} (hD : q_D L.2.2.2.1) : qCT L yX1_brokenBy cX1_brokenBy 4 (some .int) rm_X1_brokenBy (fun ad _ (x : Nat × Nat) => [.ref (ad 1 x.1), .ref (ad 17 x.1), .int (nI x.2)]) (fun x S => x.1 < 4 ∧ x.2 < 5 ∧ z_sups S x.1) (qPi (fun x S r S' => (∃ b, b ≤ 10 ∧ r = nI b) ∧ S = S')) := by
  refine q_met hD (by decide) (fun _ => Nat.le_of_ble_eq_true rfl) (fun Γ x S hΓ hpre hC => ?_)
  subst hΓ
  obtain ⟨i, t⟩ := x
  obtain ⟨hi, ht, hS⟩ := hpre
  have hi : i < 4 := hi
  have ht : t < 5 := ht
  have ht6 : t < 6 := by omega
  have hS : z_sups S i := hS
  have hsup : z_v5 (S 7 i (nI t).toNatClampNeg) := z_sups_at hS ⟨t, ht, rfl⟩
  have J146 : ∀ y : Int32, qV Γ rm_X1_brokenBy 4 146 [(0, .ref (q_ad Γ 1 i)), (1, .ref (q_ad Γ 17 i)), (2, .int (nI t)), (3, .int y)] [] S (0, 0) := by
    intro y
    refine q_aload_n hC 0 dX1_brokenBy_146 rfl rfl ?_
    refine q_aload_n hC 1 dX1_brokenBy_147 rfl rfl ?_
    refine q_iload_n hC 2 dX1_brokenBy_148 rfl rfl ?_
    refine q_callS hC (c_X1_hidesInterface (q_hD hC)) m_X1_hidesInterface lk_X1_61 dX1_brokenBy_149 (i, t) rfl rfl (Nat.le_of_ble_eq_true rfl) ⟨⟨by decide, by decide⟩, by decide, by decide⟩ rfl (k' := (0, 0)) rfl ⟨hi, ht, hS⟩ (fun v S' hp => ?_)
    obtain ⟨r149_1, rfl, hb149_1, rfl⟩ := hp
    show qV Γ _ _ 152 _ (.int _ :: _) _ _
    refine q_if_eq hC dX1_brokenBy_152 (t := 158) (n := 155) (by decide) rfl (fun h152 => ?_) (fun h152 => ?_)
    · refine q_aload_n hC 0 dX1_brokenBy_158 rfl rfl ?_
      refine q_get_f hC f_X1_9 dX1_brokenBy_159 rfl rfl hi rfl ?_
      refine q_iload_n hC 2 dX1_brokenBy_162 rfl rfl ?_
      refine q_cald hC dX1_brokenBy_163 rfl hi (vp_in_nI ht (by decide)) rfl ?_
      refine q_bipush hC dX1_brokenBy_164 (v := 99) (by decide) rfl ?_
      refine q_icmp_ne hC dX1_brokenBy_166 (t := 191) (n := 169) (by decide) rfl (fun h166 => ?_) (fun h166 => ?_)
      · refine q_iconst hC dX1_brokenBy_191 (v := 0) (by decide) rfl ?_
        refine q_iret hC dX1_brokenBy_192 rfl ⟨by decide, by decide⟩ ⟨_, rfl, ?_⟩
        first
          | exact ⟨⟨10, by decide, rfl⟩, rfl⟩
          | exact ⟨⟨0, by decide, rfl⟩, rfl⟩
      · refine q_aload_n hC 0 dX1_brokenBy_169 rfl rfl ?_
        refine q_get_f hC f_X1_65 dX1_brokenBy_170 rfl rfl hi rfl ?_
        refine q_iload_n hC 2 dX1_brokenBy_173 rfl rfl ?_
        refine q_zald hC dX1_brokenBy_174 rfl hi (vp_in_nI ht (by decide)) rfl ?_
        refine q_if_ne hC dX1_brokenBy_175 (t := 191) (n := 178) (by decide) rfl (fun h175 => ?_) (fun h175 => ?_)
        · refine q_iconst hC dX1_brokenBy_191 (v := 0) (by decide) rfl ?_
          refine q_iret hC dX1_brokenBy_192 rfl ⟨by decide, by decide⟩ ⟨_, rfl, ?_⟩
          first
            | exact ⟨⟨10, by decide, rfl⟩, rfl⟩
            | exact ⟨⟨0, by decide, rfl⟩, rfl⟩
        · refine q_aload_n hC 1 dX1_brokenBy_178 rfl rfl ?_
          refine q_iload_n hC 2 dX1_brokenBy_179 rfl rfl ?_
          refine q_callS hC (c_X1_lacksMethod (q_hD hC)) m_X1_lacksMethod lk_X1_68 dX1_brokenBy_180 (i, t) rfl rfl (Nat.le_of_ble_eq_true rfl) ⟨⟨by decide, by decide⟩, by decide, by decide⟩ rfl (k' := (0, 0)) rfl ⟨hi, ht, hS⟩ (fun v S' hp => ?_)
          obtain ⟨r180_5, rfl, hb180_5, rfl⟩ := hp
          show qV Γ _ _ 183 _ (.int _ :: _) _ _
          refine q_if_eq hC dX1_brokenBy_183 (t := 191) (n := 186) (by decide) rfl (fun h183 => ?_) (fun h183 => ?_)
          · refine q_iconst hC dX1_brokenBy_191 (v := 0) (by decide) rfl ?_
            refine q_iret hC dX1_brokenBy_192 rfl ⟨by decide, by decide⟩ ⟨_, rfl, ?_⟩
            first
              | exact ⟨⟨10, by decide, rfl⟩, rfl⟩
              | exact ⟨⟨0, by decide, rfl⟩, rfl⟩
          · refine q_bipush hC dX1_brokenBy_186 (v := 10) (by decide) rfl ?_
            refine q_goto hC dX1_brokenBy_188 (n := 192) (by decide) ?_
            refine q_iret hC dX1_brokenBy_192 rfl ⟨by decide, by decide⟩ ⟨_, rfl, ?_⟩
            first
              | exact ⟨⟨10, by decide, rfl⟩, rfl⟩
              | exact ⟨⟨0, by decide, rfl⟩, rfl⟩
    · refine q_bipush hC dX1_brokenBy_155 (v := 9) (by decide) rfl ?_
      refine q_iret hC dX1_brokenBy_157 rfl ⟨by decide, by decide⟩ ⟨_, rfl, ?_⟩
      exact ⟨⟨9, by decide, rfl⟩, rfl⟩
  have J113 : ∀ y : Int32, qV Γ rm_X1_brokenBy 4 113 [(0, .ref (q_ad Γ 1 i)), (1, .ref (q_ad Γ 17 i)), (2, .int (nI t)), (3, .int y)] [] S (0, 0) := by
    intro y
    refine q_aload_n hC 0 dX1_brokenBy_113 rfl rfl ?_
    refine q_iload_n hC 2 dX1_brokenBy_114 rfl rfl ?_
    refine q_callS hC (c_X1_hasWrongAbstract (q_hD hC)) m_X1_hasWrongAbstract lk_X1_55 dX1_brokenBy_115 (i, t) rfl rfl (Nat.le_of_ble_eq_true rfl) ⟨⟨by decide, by decide⟩, by decide, by decide⟩ rfl (k' := (0, 0)) rfl ⟨hi, ht, hS⟩ (fun v S' hp => ?_)
    obtain ⟨r115_1, rfl, hb115_1, rfl⟩ := hp
    show qV Γ _ _ 118 _ (.int _ :: _) _ _
    refine q_if_eq hC dX1_brokenBy_118 (t := 124) (n := 121) (by decide) rfl (fun h118 => ?_) (fun h118 => ?_)
    · refine q_aload_n hC 0 dX1_brokenBy_124 rfl rfl ?_
      refine q_get_f hC f_X1_9 dX1_brokenBy_125 rfl rfl hi rfl ?_
      refine q_iload_n hC 2 dX1_brokenBy_128 rfl rfl ?_
      refine q_cald hC dX1_brokenBy_129 rfl hi (vp_in_nI ht (by decide)) rfl ?_
      refine q_bipush hC dX1_brokenBy_130 (v := 99) (by decide) rfl ?_
      refine q_icmp_ne hC dX1_brokenBy_132 (t := 146) (n := 135) (by decide) rfl (fun h132 => ?_) (fun h132 => ?_)
      · exact J146 y
      · refine q_aload_n hC 0 dX1_brokenBy_135 rfl rfl ?_
        refine q_iload_n hC 2 dX1_brokenBy_136 rfl rfl ?_
        refine q_callS hC (c_X1_standsWrongly (q_hD hC)) m_X1_standsWrongly lk_X1_58 dX1_brokenBy_137 (i, t) rfl rfl (Nat.le_of_ble_eq_true rfl) ⟨⟨by decide, by decide⟩, by decide, by decide⟩ rfl (k' := (0, 0)) rfl ⟨hi, ht, hS⟩ (fun v S' hp => ?_)
        obtain ⟨r137_4, rfl, hb137_4, rfl⟩ := hp
        show qV Γ _ _ 140 _ (.int _ :: _) _ _
        refine q_if_eq hC dX1_brokenBy_140 (t := 146) (n := 143) (by decide) rfl (fun h140 => ?_) (fun h140 => ?_)
        · exact J146 y
        · refine q_bipush hC dX1_brokenBy_143 (v := 8) (by decide) rfl ?_
          refine q_iret hC dX1_brokenBy_145 rfl ⟨by decide, by decide⟩ ⟨_, rfl, ?_⟩
          exact ⟨⟨8, by decide, rfl⟩, rfl⟩
    · refine q_bipush hC dX1_brokenBy_121 (v := 7) (by decide) rfl ?_
      refine q_iret hC dX1_brokenBy_123 rfl ⟨by decide, by decide⟩ ⟨_, rfl, ?_⟩
      exact ⟨⟨7, by decide, rfl⟩, rfl⟩
  have J41 : ∀ y : Int32, qV Γ rm_X1_brokenBy 4 41 [(0, .ref (q_ad Γ 1 i)), (1, .ref (q_ad Γ 17 i)), (2, .int (nI t)), (3, .int y)] [] S (0, 0) := by
    intro y
    refine q_aload_n hC 0 dX1_brokenBy_41 rfl rfl ?_
    refine q_get_f hC f_X1_29 dX1_brokenBy_42 rfl rfl hi rfl ?_
    refine q_iload_n hC 2 dX1_brokenBy_45 rfl rfl ?_
    refine q_iald hC dX1_brokenBy_46 rfl hi (vp_in_nI ht (by decide)) rfl ?_
    refine q_aload_n hC 1 dX1_brokenBy_47 rfl rfl ?_
    refine q_get_f hC f_X1_32 dX1_brokenBy_48 rfl rfl hi rfl ?_
    refine q_aload_n hC 1 dX1_brokenBy_51 rfl rfl ?_
    refine q_get_f hC f_X1_38 dX1_brokenBy_52 rfl rfl hi rfl ?_
    refine q_iconst hC dX1_brokenBy_55 (v := (-1)) (by decide) rfl ?_
    refine q_ixor hC dX1_brokenBy_56 rfl ?_
    refine q_iand hC dX1_brokenBy_57 rfl ?_
    refine q_iconst hC dX1_brokenBy_58 (v := (-1)) (by decide) rfl ?_
    refine q_ixor hC dX1_brokenBy_59 rfl ?_
    refine q_iand hC dX1_brokenBy_60 rfl ?_
    refine q_if_eq hC dX1_brokenBy_61 (t := 66) (n := 64) (by decide) rfl (fun h61 => ?_) (fun h61 => ?_)
    · refine q_aload_n hC 1 dX1_brokenBy_66 rfl rfl ?_
      refine q_get_f hC f_X1_41 dX1_brokenBy_67 rfl rfl hi rfl ?_
      refine q_iload_n hC 2 dX1_brokenBy_70 rfl rfl ?_
      refine q_iald hC dX1_brokenBy_71 rfl hi (vp_in_nI ht6 (by decide)) rfl ?_
      refine q_iload_n hC 2 dX1_brokenBy_72 rfl rfl ?_
      refine q_callSN hC (c_X9_has (q_hD hC)) m_X9_has ln_X1_44 dX1_brokenBy_73 (S 18 i (nI t).toNatClampNeg, nI t) rfl rfl (Nat.le_of_ble_eq_true rfl) ⟨⟨by decide, by decide⟩, by decide, by decide⟩ rfl (k' := (0, 0)) rfl trivial (fun v S' hp => ?_)
      obtain ⟨r73_2, rfl, -, rfl⟩ := hp
      show qV Γ _ _ 76 _ (.int _ :: _) _ _
      refine q_if_eq hC dX1_brokenBy_76 (t := 81) (n := 79) (by decide) rfl (fun h76 => ?_) (fun h76 => ?_)
      · refine q_aload_n hC 0 dX1_brokenBy_81 rfl rfl ?_
        refine q_iload_n hC 2 dX1_brokenBy_82 rfl rfl ?_
        refine q_callS hC (c_X1_isBadlyMade (q_hD hC)) m_X1_isBadlyMade lk_X1_48 dX1_brokenBy_83 (i, t) rfl rfl (Nat.le_of_ble_eq_true rfl) ⟨⟨by decide, by decide⟩, by decide, by decide⟩ rfl (k' := (0, 0)) rfl ⟨hi, ht, hS⟩ (fun v S' hp => ?_)
        obtain ⟨r83_4, rfl, hb83_4, rfl⟩ := hp
        show qV Γ _ _ 86 _ (.int _ :: _) _ _
        refine q_if_eq hC dX1_brokenBy_86 (t := 91) (n := 89) (by decide) rfl (fun h86 => ?_) (fun h86 => ?_)
        · refine q_aload_n hC 0 dX1_brokenBy_91 rfl rfl ?_
          refine q_get_f hC f_X1_9 dX1_brokenBy_92 rfl rfl hi rfl ?_
          refine q_iload_n hC 2 dX1_brokenBy_95 rfl rfl ?_
          refine q_cald hC dX1_brokenBy_96 rfl hi (vp_in_nI ht (by decide)) rfl ?_
          refine q_bipush hC dX1_brokenBy_97 (v := 105) (by decide) rfl ?_
          refine q_icmp_ne hC dX1_brokenBy_99 (t := 113) (n := 102) (by decide) rfl (fun h99 => ?_) (fun h99 => ?_)
          · exact J113 y
          · refine q_aload_n hC 0 dX1_brokenBy_102 rfl rfl ?_
            refine q_iload_n hC 2 dX1_brokenBy_103 rfl rfl ?_
            refine q_callS hC (c_X1_hasWrongMember (q_hD hC)) m_X1_hasWrongMember lk_X1_52 dX1_brokenBy_104 (i, t) rfl rfl (Nat.le_of_ble_eq_true rfl) ⟨⟨by decide, by decide⟩, by decide, by decide⟩ rfl (k' := (0, 0)) rfl ⟨hi, ht, hS⟩ (fun v S' hp => ?_)
            obtain ⟨r104_7, rfl, hb104_7, rfl⟩ := hp
            show qV Γ _ _ 107 _ (.int _ :: _) _ _
            refine q_if_eq hC dX1_brokenBy_107 (t := 113) (n := 110) (by decide) rfl (fun h107 => ?_) (fun h107 => ?_)
            · exact J113 y
            · refine q_bipush hC dX1_brokenBy_110 (v := 6) (by decide) rfl ?_
              refine q_iret hC dX1_brokenBy_112 rfl ⟨by decide, by decide⟩ ⟨_, rfl, ?_⟩
              exact ⟨⟨6, by decide, rfl⟩, rfl⟩
        · refine q_iconst hC dX1_brokenBy_89 (v := 5) (by decide) rfl ?_
          refine q_iret hC dX1_brokenBy_90 rfl ⟨by decide, by decide⟩ ⟨_, rfl, ?_⟩
          exact ⟨⟨5, by decide, rfl⟩, rfl⟩
      · refine q_iconst hC dX1_brokenBy_79 (v := 4) (by decide) rfl ?_
        refine q_iret hC dX1_brokenBy_80 rfl ⟨by decide, by decide⟩ ⟨_, rfl, ?_⟩
        exact ⟨⟨4, by decide, rfl⟩, rfl⟩
    · refine q_iconst hC dX1_brokenBy_64 (v := 3) (by decide) rfl ?_
      refine q_iret hC dX1_brokenBy_65 rfl ⟨by decide, by decide⟩ ⟨_, rfl, ?_⟩
      exact ⟨⟨3, by decide, rfl⟩, rfl⟩
  have J25 : ∀ y : Int32, z_v5 y → qV Γ rm_X1_brokenBy 4 25 [(0, .ref (q_ad Γ 1 i)), (1, .ref (q_ad Γ 17 i)), (2, .int (nI t)), (3, .int y)] [] S (0, 0) := by
    intro y hy
    refine q_iload_n hC 3 dX1_brokenBy_25 rfl rfl ?_
    refine q_iconst hC dX1_brokenBy_26 (v := (-1)) (by decide) rfl ?_
    refine q_icmp_eq hC dX1_brokenBy_27 (t := 41) (n := 30) (by decide) rfl (fun h27 => ?_) (fun h27 => ?_)
    · exact J41 y
    · refine q_aload_n hC 0 dX1_brokenBy_30 rfl rfl ?_
      refine q_get_f hC f_X1_25 dX1_brokenBy_31 rfl rfl hi rfl ?_
      refine q_iload_n hC 3 dX1_brokenBy_34 rfl rfl ?_
      refine q_zald hC dX1_brokenBy_35 rfl hi (z_in (z_v5n hy h27) (by decide)) rfl ?_
      refine q_if_eq hC dX1_brokenBy_36 (t := 41) (n := 39) (by decide) rfl (fun h36 => ?_) (fun h36 => ?_)
      · exact J41 y
      · refine q_iconst hC dX1_brokenBy_39 (v := 2) (by decide) rfl ?_
        refine q_iret hC dX1_brokenBy_40 rfl ⟨by decide, by decide⟩ ⟨_, rfl, ?_⟩
        exact ⟨⟨2, by decide, rfl⟩, rfl⟩
  show qV Γ _ _ 0 [(0, .ref (q_ad Γ 1 i)), (1, .ref (q_ad Γ 17 i)), (2, .int (nI t))] [] S (0, 0)
  refine q_aload_n hC 0 dX1_brokenBy_0 rfl rfl ?_
  refine q_get_f hC f_X1_21 dX1_brokenBy_1 rfl rfl hi rfl ?_
  refine q_iload_n hC 2 dX1_brokenBy_4 rfl rfl ?_
  refine q_iald hC dX1_brokenBy_5 rfl hi (vp_in_nI ht (by decide)) rfl ?_
  refine q_istore_n hC dX1_brokenBy_6 (by decide) (ls' := [(0, _), (1, _), (2, _), (3, _)]) rfl rfl ?_
  refine q_iload_n hC 3 dX1_brokenBy_7 rfl rfl ?_
  refine q_iconst hC dX1_brokenBy_8 (v := (-1)) (by decide) rfl ?_
  refine q_icmp_eq hC dX1_brokenBy_9 (t := 25) (n := 12) (by decide) rfl (fun h9 => ?_) (fun h9 => ?_)
  · exact J25 _ hsup
  · refine q_aload_n hC 0 dX1_brokenBy_12 rfl rfl ?_
    refine q_get_f hC f_X1_9 dX1_brokenBy_13 rfl rfl hi rfl ?_
    refine q_iload_n hC 3 dX1_brokenBy_16 rfl rfl ?_
    refine q_cald hC dX1_brokenBy_17 rfl hi (z_in (z_v5n hsup h9) (by decide)) rfl ?_
    refine q_bipush hC dX1_brokenBy_18 (v := 99) (by decide) rfl ?_
    refine q_icmp_eq hC dX1_brokenBy_20 (t := 25) (n := 23) (by decide) rfl (fun h20 => ?_) (fun h20 => ?_)
    · exact J25 _ hsup
    · refine q_iconst hC dX1_brokenBy_23 (v := 1) (by decide) rfl ?_
      refine q_iret hC dX1_brokenBy_24 rfl ⟨by decide, by decide⟩ ⟨_, rfl, ?_⟩
      exact ⟨⟨1, by decide, rfl⟩, rfl⟩
/-- the code of a library: -1, or the type that is there, and what is so -/
def z_cd (S : qM) (i : Nat) (r : Int32) : Prop := r = -1 ∨ ∃ t b, t < 5 ∧ 1 ≤ b ∧ b ≤ 10 ∧ r = nI (100 * t + b) ∧ ¬ S 2 i t = 45
theorem z_100 (t b : Nat) : (100 : Int32) * nI t + nI b = nI (100 * t + b) := by
  show nI 100 * nI t + nI b = _
  rw [pk_mul, nI_add]
abbrev rm_X1_firstBroken : Room := { frames := 4, cells := 0, slots := 0, locals := 90 }
set_option maxHeartbeats 4000000 in
set_option maxRecDepth 100000 in
theorem c_X1_firstBroken {L : qL} (hD : q_D L.2.2.2.1) : qCT L yX1_firstBroken cX1_firstBroken 4 (some .int) rm_X1_firstBroken (fun ad _ (x : Nat × Unit) => [.ref (ad 1 x.1), .ref (ad 17 x.1)]) (fun x S => x.1 < 4 ∧ z_sups S x.1) (qPi (fun x S r S' => z_cd S x.1 r ∧ S = S')) := by
  refine q_met hD (by decide) (fun _ => Nat.le_of_ble_eq_true rfl) (fun Γ x S hΓ hpre hC => ?_)
  subst hΓ
  obtain ⟨i, u⟩ := x
  obtain ⟨hi, hS⟩ := hpre
  have hi : i < 4 := hi
  have hS : z_sups S i := hS
  have L1 : ∀ (n t : Nat), t + n = 5 → qV Γ rm_X1_firstBroken 4 2 [(0, .ref (q_ad Γ 1 i)), (1, .ref (q_ad Γ 17 i)), (2, .int (nI t))] [] S (0, 0) := by
    intro n
    induction n with
    | zero =>
      intro t htn
      obtain rfl : t = 5 := by omega
      refine q_iload_n hC 2 dX1_firstBroken_2 rfl rfl ?_
      refine q_iconst hC dX1_firstBroken_3 (v := 5) (by decide) rfl ?_
      refine q_icmp_ge hC dX1_firstBroken_4 (t := 46) (n := 7) (by decide) rfl (fun h4 => ?_) (fun h4 => absurd (by decide) h4)
      refine q_iconst hC dX1_firstBroken_46 (v := (-1)) (by decide) rfl ?_
      refine q_iret hC dX1_firstBroken_47 rfl ⟨by decide, by decide⟩ ⟨_, rfl, ?_⟩
      exact ⟨Or.inl rfl, rfl⟩
    | succ n ih =>
      intro t htn
      have ht : t < 5 := by omega
      refine q_iload_n hC 2 dX1_firstBroken_2 rfl rfl ?_
      refine q_iconst hC dX1_firstBroken_3 (v := 5) (by decide) rfl ?_
      refine q_icmp_ge hC dX1_firstBroken_4 (t := 46) (n := 7) (by decide) rfl (fun h4 => absurd h4 (nI_ge ht (by decide))) (fun h4 => ?_)
      refine q_aload_n hC 0 dX1_firstBroken_7 rfl rfl ?_
      refine q_get_f hC f_X1_9 dX1_firstBroken_8 rfl rfl hi rfl ?_
      refine q_iload_n hC 2 dX1_firstBroken_11 rfl rfl ?_
      refine q_cald hC dX1_firstBroken_12 rfl hi (vp_in_nI ht (by decide)) rfl ?_
      refine q_bipush hC dX1_firstBroken_13 (v := 45) (by decide) rfl ?_
      refine q_icmp_ne hC dX1_firstBroken_15 (t := 22) (n := 18) (by decide) rfl (fun h15 => ?_) (fun h15 => ?_)
      · refine q_aload_n hC 0 dX1_firstBroken_22 rfl rfl ?_
        refine q_aload_n hC 1 dX1_firstBroken_23 rfl rfl ?_
        refine q_iload_n hC 2 dX1_firstBroken_24 rfl rfl ?_
        refine q_callS hC (c_X1_brokenBy (q_hD hC)) m_X1_brokenBy lk_X1_15 dX1_firstBroken_25 (i, t) rfl rfl (Nat.le_of_ble_eq_true rfl) ⟨⟨by decide, by decide⟩, by decide, by decide⟩ rfl (k' := (0, 0)) rfl ⟨hi, ht, hS⟩ (fun v S' hp => ?_)
        obtain ⟨r25_2, rfl, ⟨bb, hbb, rfl⟩, rfl⟩ := hp
        show qV Γ _ _ 28 _ (.int _ :: _) _ _
        refine q_istore_n hC dX1_firstBroken_28 (by decide) (ls' := [(0, _), (1, _), (2, _), (3, _)]) rfl rfl ?_
        refine q_iload_n hC 3 dX1_firstBroken_29 rfl rfl ?_
        refine q_if_eq hC dX1_firstBroken_30 (t := 40) (n := 33) (by decide) rfl (fun h30 => ?_) (fun h30 => ?_)
        · refine q_iinc hC 2 dX1_firstBroken_40 rfl (v := nI (t + 1)) (z_inc t) (by decide) (ls' := [(0, _), (1, _), (2, _), (3, _)]) rfl rfl ?_
          refine q_goto hC dX1_firstBroken_43 (n := 2) (by decide) ?_
          refine q_locp [0, 1, 2] (ls' := [(0, _), (1, _), (2, _)]) rfl ?_
          exact ih (t + 1) (by omega)
        · refine q_bipush hC dX1_firstBroken_33 (v := 100) (by decide) rfl ?_
          refine q_iload_n hC 2 dX1_firstBroken_35 rfl rfl ?_
          refine q_imul hC dX1_firstBroken_36 rfl ?_
          refine q_iload_n hC 3 dX1_firstBroken_37 rfl rfl ?_
          refine q_iadd hC dX1_firstBroken_38 rfl ?_
          refine q_iret hC dX1_firstBroken_39 rfl ⟨by decide, by decide⟩ ⟨_, rfl, ?_⟩
          refine ⟨Or.inr ⟨t, bb, ht, ?_, hbb, z_100 t bb, ?_⟩, rfl⟩
          · rcases Nat.eq_zero_or_pos bb with e | e
            · subst e; exact absurd rfl h30
            · exact e
          · intro e; exact h15 (by rw [nI_clamp (by omega)]; exact e)
      · refine q_iconst hC dX1_firstBroken_18 (v := 0) (by decide) rfl ?_
        refine q_goto hC dX1_firstBroken_19 (n := 28) (by decide) ?_
        refine q_istore_n hC dX1_firstBroken_28 (by decide) (ls' := [(0, _), (1, _), (2, _), (3, _)]) rfl rfl ?_
        refine q_iload_n hC 3 dX1_firstBroken_29 rfl rfl ?_
        refine q_if_eq hC dX1_firstBroken_30 (t := 40) (n := 33) (by decide) rfl (fun _ => ?_) (fun h => absurd (by decide) h)
        refine q_iinc hC 2 dX1_firstBroken_40 rfl (v := nI (t + 1)) (z_inc t) (by decide) (ls' := [(0, _), (1, _), (2, _), (3, _)]) rfl rfl ?_
        refine q_goto hC dX1_firstBroken_43 (n := 2) (by decide) ?_
        refine q_locp [0, 1, 2] (ls' := [(0, _), (1, _), (2, _)]) rfl ?_
        exact ih (t + 1) (by omega)
  show qV Γ _ _ 0 [(0, .ref (q_ad Γ 1 i)), (1, .ref (q_ad Γ 17 i))] [] S (0, 0)
  refine q_iconst hC dX1_firstBroken_0 (v := 0) (by decide) rfl ?_
  refine q_istore_n hC dX1_firstBroken_1 (by decide) (ls' := [(0, _), (1, _), (2, _)]) rfl rfl ?_
  exact L1 5 0 (by omega)
