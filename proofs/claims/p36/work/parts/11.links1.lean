-- printed by wip/p36/gen_m1.py
def z_lt (x : Int32) (n : Nat) : Prop := ∃ j : Nat, j < n ∧ x = nI j
def z_v6 (x : Int32) : Prop := x = -1 ∨ z_lt x 6
def z_v5 (x : Int32) : Prop := x = -1 ∨ z_lt x 5
def z_pl (a m : Int32) : Nat := (a * 6 + m).toNatClampNeg
theorem z_inc (m : Nat) : nI m + Int32.ofInt 1 = nI (m + 1) := by rw [nI_succ]; rfl
theorem z_pl_all : ∀ a, a < 6 → ∀ m, m < 6 → (vp_in (nI a * 6 + nI m) 36 ∧ z_pl (nI a) (nI m) = a * 6 + m) := by
  intro a ha m hm
  have e : nI a * 6 + nI m = nI (a * 6 + m) := by
    show nI a * nI 6 + nI m = _
    rw [pk_mul, nI_add]
  have h : a * 6 + m < 36 := by omega
  exact ⟨by rw [e]; exact vp_in_nI h (by decide), by show (nI a * 6 + nI m).toNatClampNeg = _; rw [e]; exact nI_clamp (by omega)⟩
theorem z_in36 {a m : Int32} (ha : z_lt a 6) (hm : z_lt m 6) : vp_in (a * 6 + m) 36 := by
  obtain ⟨j, hj, rfl⟩ := ha
  obtain ⟨k, hk, rfl⟩ := hm
  exact (z_pl_all j hj k hk).1
theorem z_in30 {a m : Int32} (ha : z_lt a 5) (hm : z_lt m 6) : vp_in (a * 6 + m) 30 := by
  obtain ⟨j, hj, rfl⟩ := ha
  obtain ⟨k, hk, rfl⟩ := hm
  have e : nI j * 6 + nI k = nI (j * 6 + k) := by
    show nI j * nI 6 + nI k = _
    rw [pk_mul, nI_add]
  rw [e]
  exact vp_in_nI (by omega) (by decide)
theorem z_in {a : Int32} {n : Nat} (ha : z_lt a n) (hn : n < 2 ^ 31) : vp_in a n := by
  obtain ⟨j, hj, rfl⟩ := ha
  exact vp_in_nI hj hn
theorem z_ltn {m n : Nat} (h : m < n) : z_lt (nI m) n := ⟨m, h, rfl⟩
/-- the lowest bit of a mask, or -1 -/
def z_lowest (m : Int32) : Int32 := if m = 0 then -1 else if z_bit m 0 = 1 then 0 else if z_bit m 1 = 1 then 1 else if z_bit m 2 = 1 then 2 else if z_bit m 3 = 1 then 3 else if z_bit m 4 = 1 then 4 else -1
def z_nst (ab : Nat → Int32) (c b : Int32) (left : Int32) : Int32 :=
  if c &&& (1 <<< (b &&& 31)) = 0 then left else left &&& ((ab b.toNatClampNeg &&& ((1 <<< (b &&& 31)) ^^^ (-1))) ^^^ (-1))
/-- those of some interfaces that no other one of these is under -/
def z_near (ab : Nat → Int32) (c : Int32) : Int32 := if c = 0 then c else z_nst ab c 4 (z_nst ab c 3 (z_nst ab c 2 (z_nst ab c 1 (z_nst ab c 0 c))))
abbrev rm_X3_lowest : Room := { frames := 0, cells := 0, slots := 0, locals := 0 }
set_option maxHeartbeats 4000000 in
set_option maxRecDepth 100000 in
theorem c_X3_lowest {L : qL} (hD : q_D L.2.2.2.1) : qCT L yX3_lowest cX3_lowest 3 (some .int) rm_X3_lowest (fun ad _ (x : Nat × Int32) => [.ref (ad 17 x.1), .int x.2]) (fun x _ => x.1 < 4) (qPi (fun x S r S' => r = z_lowest x.2 ∧ S = S')) := by
  refine q_met hD (by decide) (fun _ => Nat.le_of_ble_eq_true rfl) (fun Γ x S hΓ hpre hC => ?_)
  subst hΓ
  obtain ⟨i, a⟩ := x
  have hi : i < 4 := hpre
  show qV Γ _ _ 0 [(0, .ref (q_ad Γ 17 i)), (1, .int a)] [] S (0, 0)
  refine q_iconst hC dX3_lowest_0 (v := 0) (by decide) rfl ?_
  refine q_istore_n hC dX3_lowest_1 (by decide) (ls' := [(0, _), (1, _), (2, _)]) rfl rfl ?_
  refine q_iload_n hC 2 dX3_lowest_2 rfl rfl ?_
  refine q_iconst hC dX3_lowest_3 (v := 5) (by decide) rfl ?_
  refine q_icmp_ge hC dX3_lowest_4 (t := 28) (n := 7) (by decide) rfl (fun h => absurd h (by decide)) (fun _ => ?_)
  refine q_iload_n hC 1 dX3_lowest_7 rfl rfl ?_
  refine q_if_eq hC dX3_lowest_8 (t := 28) (n := 11) (by decide) rfl (fun h8_1 => ?_) (fun h8_1 => ?_)
  · refine q_iconst hC dX3_lowest_28 (v := (-1)) (by decide) rfl ?_
    refine q_iret hC dX3_lowest_29 rfl ⟨by decide, by decide⟩ ⟨_, rfl, ?_⟩
    exact ⟨by simp only [z_lowest, z_bit, if_true, if_false, *], rfl⟩
  · refine q_iload_n hC 1 dX3_lowest_11 rfl rfl ?_
    refine q_iload_n hC 2 dX3_lowest_12 rfl rfl ?_
    refine q_ishr hC dX3_lowest_13 rfl ?_
    refine q_iconst hC dX3_lowest_14 (v := 1) (by decide) rfl ?_
    refine q_iand hC dX3_lowest_15 rfl ?_
    refine q_iconst hC dX3_lowest_16 (v := 1) (by decide) rfl ?_
    refine q_icmp_ne hC dX3_lowest_17 (t := 22) (n := 20) (by decide) rfl (fun h17_2 => ?_) (fun h17_2 => ?_)
    · refine q_iinc hC 2 dX3_lowest_22 rfl (v := 1) (by decide) (by decide) (ls' := [(0, _), (1, _), (2, _)]) rfl rfl ?_
      refine q_goto hC dX3_lowest_25 (n := 2) (by decide) ?_
      refine q_iload_n hC 2 dX3_lowest_2 rfl rfl ?_
      refine q_iconst hC dX3_lowest_3 (v := 5) (by decide) rfl ?_
      refine q_icmp_ge hC dX3_lowest_4 (t := 28) (n := 7) (by decide) rfl (fun h => absurd h (by decide)) (fun _ => ?_)
      refine q_iload_n hC 1 dX3_lowest_7 rfl rfl ?_
      refine q_if_eq hC dX3_lowest_8 (t := 28) (n := 11) (by decide) rfl (fun h => (by first | exact absurd h h8_1 | exact absurd h8_1 h)) (fun _ => ?_)
      refine q_iload_n hC 1 dX3_lowest_11 rfl rfl ?_
      refine q_iload_n hC 2 dX3_lowest_12 rfl rfl ?_
      refine q_ishr hC dX3_lowest_13 rfl ?_
      refine q_iconst hC dX3_lowest_14 (v := 1) (by decide) rfl ?_
      refine q_iand hC dX3_lowest_15 rfl ?_
      refine q_iconst hC dX3_lowest_16 (v := 1) (by decide) rfl ?_
      refine q_icmp_ne hC dX3_lowest_17 (t := 22) (n := 20) (by decide) rfl (fun h17_3 => ?_) (fun h17_3 => ?_)
      · refine q_iinc hC 2 dX3_lowest_22 rfl (v := 2) (by decide) (by decide) (ls' := [(0, _), (1, _), (2, _)]) rfl rfl ?_
        refine q_goto hC dX3_lowest_25 (n := 2) (by decide) ?_
        refine q_iload_n hC 2 dX3_lowest_2 rfl rfl ?_
        refine q_iconst hC dX3_lowest_3 (v := 5) (by decide) rfl ?_
        refine q_icmp_ge hC dX3_lowest_4 (t := 28) (n := 7) (by decide) rfl (fun h => absurd h (by decide)) (fun _ => ?_)
        refine q_iload_n hC 1 dX3_lowest_7 rfl rfl ?_
        refine q_if_eq hC dX3_lowest_8 (t := 28) (n := 11) (by decide) rfl (fun h => (by first | exact absurd h h8_1 | exact absurd h8_1 h)) (fun _ => ?_)
        refine q_iload_n hC 1 dX3_lowest_11 rfl rfl ?_
        refine q_iload_n hC 2 dX3_lowest_12 rfl rfl ?_
        refine q_ishr hC dX3_lowest_13 rfl ?_
        refine q_iconst hC dX3_lowest_14 (v := 1) (by decide) rfl ?_
        refine q_iand hC dX3_lowest_15 rfl ?_
        refine q_iconst hC dX3_lowest_16 (v := 1) (by decide) rfl ?_
        refine q_icmp_ne hC dX3_lowest_17 (t := 22) (n := 20) (by decide) rfl (fun h17_4 => ?_) (fun h17_4 => ?_)
        · refine q_iinc hC 2 dX3_lowest_22 rfl (v := 3) (by decide) (by decide) (ls' := [(0, _), (1, _), (2, _)]) rfl rfl ?_
          refine q_goto hC dX3_lowest_25 (n := 2) (by decide) ?_
          refine q_iload_n hC 2 dX3_lowest_2 rfl rfl ?_
          refine q_iconst hC dX3_lowest_3 (v := 5) (by decide) rfl ?_
          refine q_icmp_ge hC dX3_lowest_4 (t := 28) (n := 7) (by decide) rfl (fun h => absurd h (by decide)) (fun _ => ?_)
          refine q_iload_n hC 1 dX3_lowest_7 rfl rfl ?_
          refine q_if_eq hC dX3_lowest_8 (t := 28) (n := 11) (by decide) rfl (fun h => (by first | exact absurd h h8_1 | exact absurd h8_1 h)) (fun _ => ?_)
          refine q_iload_n hC 1 dX3_lowest_11 rfl rfl ?_
          refine q_iload_n hC 2 dX3_lowest_12 rfl rfl ?_
          refine q_ishr hC dX3_lowest_13 rfl ?_
          refine q_iconst hC dX3_lowest_14 (v := 1) (by decide) rfl ?_
          refine q_iand hC dX3_lowest_15 rfl ?_
          refine q_iconst hC dX3_lowest_16 (v := 1) (by decide) rfl ?_
          refine q_icmp_ne hC dX3_lowest_17 (t := 22) (n := 20) (by decide) rfl (fun h17_5 => ?_) (fun h17_5 => ?_)
          · refine q_iinc hC 2 dX3_lowest_22 rfl (v := 4) (by decide) (by decide) (ls' := [(0, _), (1, _), (2, _)]) rfl rfl ?_
            refine q_goto hC dX3_lowest_25 (n := 2) (by decide) ?_
            refine q_iload_n hC 2 dX3_lowest_2 rfl rfl ?_
            refine q_iconst hC dX3_lowest_3 (v := 5) (by decide) rfl ?_
            refine q_icmp_ge hC dX3_lowest_4 (t := 28) (n := 7) (by decide) rfl (fun h => absurd h (by decide)) (fun _ => ?_)
            refine q_iload_n hC 1 dX3_lowest_7 rfl rfl ?_
            refine q_if_eq hC dX3_lowest_8 (t := 28) (n := 11) (by decide) rfl (fun h => (by first | exact absurd h h8_1 | exact absurd h8_1 h)) (fun _ => ?_)
            refine q_iload_n hC 1 dX3_lowest_11 rfl rfl ?_
            refine q_iload_n hC 2 dX3_lowest_12 rfl rfl ?_
            refine q_ishr hC dX3_lowest_13 rfl ?_
            refine q_iconst hC dX3_lowest_14 (v := 1) (by decide) rfl ?_
            refine q_iand hC dX3_lowest_15 rfl ?_
            refine q_iconst hC dX3_lowest_16 (v := 1) (by decide) rfl ?_
            refine q_icmp_ne hC dX3_lowest_17 (t := 22) (n := 20) (by decide) rfl (fun h17_6 => ?_) (fun h17_6 => ?_)
            · refine q_iinc hC 2 dX3_lowest_22 rfl (v := 5) (by decide) (by decide) (ls' := [(0, _), (1, _), (2, _)]) rfl rfl ?_
              refine q_goto hC dX3_lowest_25 (n := 2) (by decide) ?_
              refine q_iload_n hC 2 dX3_lowest_2 rfl rfl ?_
              refine q_iconst hC dX3_lowest_3 (v := 5) (by decide) rfl ?_
              refine q_icmp_ge hC dX3_lowest_4 (t := 28) (n := 7) (by decide) rfl (fun _ => ?_) (fun h => absurd (by decide) h)
              refine q_iconst hC dX3_lowest_28 (v := (-1)) (by decide) rfl ?_
              refine q_iret hC dX3_lowest_29 rfl ⟨by decide, by decide⟩ ⟨_, rfl, ?_⟩
              exact ⟨by simp only [z_lowest, z_bit, if_true, if_false, *], rfl⟩
            · refine q_iload_n hC 2 dX3_lowest_20 rfl rfl ?_
              refine q_iret hC dX3_lowest_21 rfl ⟨by decide, by decide⟩ ⟨_, rfl, ?_⟩
              exact ⟨by simp only [z_lowest, z_bit, if_true, if_false, *], rfl⟩
          · refine q_iload_n hC 2 dX3_lowest_20 rfl rfl ?_
            refine q_iret hC dX3_lowest_21 rfl ⟨by decide, by decide⟩ ⟨_, rfl, ?_⟩
            exact ⟨by simp only [z_lowest, z_bit, if_true, if_false, *], rfl⟩
        · refine q_iload_n hC 2 dX3_lowest_20 rfl rfl ?_
          refine q_iret hC dX3_lowest_21 rfl ⟨by decide, by decide⟩ ⟨_, rfl, ?_⟩
          exact ⟨by simp only [z_lowest, z_bit, if_true, if_false, *], rfl⟩
      · refine q_iload_n hC 2 dX3_lowest_20 rfl rfl ?_
        refine q_iret hC dX3_lowest_21 rfl ⟨by decide, by decide⟩ ⟨_, rfl, ?_⟩
        exact ⟨by simp only [z_lowest, z_bit, if_true, if_false, *], rfl⟩
    · refine q_iload_n hC 2 dX3_lowest_20 rfl rfl ?_
      refine q_iret hC dX3_lowest_21 rfl ⟨by decide, by decide⟩ ⟨_, rfl, ?_⟩
      exact ⟨by simp only [z_lowest, z_bit, if_true, if_false, *], rfl⟩
abbrev rm_X3_nearest : Room := { frames := 0, cells := 0, slots := 0, locals := 0 }
set_option maxHeartbeats 4000000 in
set_option maxRecDepth 100000 in
theorem c_X3_nearest {L : qL} (hD : q_D L.2.2.2.1) : qCT L yX3_nearest cX3_nearest 5 (some .int) rm_X3_nearest (fun ad _ (x : Nat × Int32) => [.ref (ad 17 x.1), .int x.2]) (fun x _ => x.1 < 4) (qPi (fun x S r S' => r = z_near (S 18 x.1) x.2 ∧ S = S')) := by
  refine q_met hD (by decide) (fun _ => Nat.le_of_ble_eq_true rfl) (fun Γ x S hΓ hpre hC => ?_)
  subst hΓ
  obtain ⟨i, a⟩ := x
  have hi : i < 4 := hpre
  show qV Γ _ _ 0 [(0, .ref (q_ad Γ 17 i)), (1, .int a)] [] S (0, 0)
  refine q_iload_n hC 1 dX3_nearest_0 rfl rfl ?_
  refine q_istore_n hC dX3_nearest_1 (by decide) (ls' := [(0, _), (1, _), (2, _)]) rfl rfl ?_
  refine q_iconst hC dX3_nearest_2 (v := 0) (by decide) rfl ?_
  refine q_istore_n hC dX3_nearest_3 (by decide) (ls' := [(0, _), (1, _), (2, _), (3, _)]) rfl rfl ?_
  refine q_iload_n hC 3 dX3_nearest_4 rfl rfl ?_
  refine q_iconst hC dX3_nearest_5 (v := 5) (by decide) rfl ?_
  refine q_icmp_ge hC dX3_nearest_6 (t := 47) (n := 9) (by decide) rfl (fun h => absurd h (by decide)) (fun _ => ?_)
  refine q_iload_n hC 1 dX3_nearest_9 rfl rfl ?_
  refine q_if_eq hC dX3_nearest_10 (t := 47) (n := 13) (by decide) rfl (fun h10_1 => ?_) (fun h10_1 => ?_)
  · refine q_iload_n hC 2 dX3_nearest_47 rfl rfl ?_
    refine q_iret hC dX3_nearest_48 rfl ⟨by decide, by decide⟩ ⟨_, rfl, ?_⟩
    exact ⟨by simp only [z_near, z_nst, if_true, if_false, *], rfl⟩
  · refine q_iconst hC dX3_nearest_13 (v := 1) (by decide) rfl ?_
    refine q_iload_n hC 3 dX3_nearest_14 rfl rfl ?_
    refine q_ishl hC dX3_nearest_15 rfl ?_
    refine q_istore hC dX3_nearest_16 (by decide) (ls' := [(0, _), (1, _), (2, _), (3, _), (4, _)]) rfl rfl ?_
    refine q_iload_n hC 1 dX3_nearest_18 rfl rfl ?_
    refine q_iload hC 4 dX3_nearest_19 rfl rfl ?_
    refine q_iand hC dX3_nearest_21 rfl ?_
    refine q_if_eq hC dX3_nearest_22 (t := 41) (n := 25) (by decide) rfl (fun h22_2 => ?_) (fun h22_2 => ?_)
    · refine q_iinc hC 3 dX3_nearest_41 rfl (v := 1) (by decide) (by decide) (ls' := [(0, _), (1, _), (2, _), (3, _), (4, _)]) rfl rfl ?_
      refine q_goto hC dX3_nearest_44 (n := 4) (by decide) ?_
      refine q_iload_n hC 3 dX3_nearest_4 rfl rfl ?_
      refine q_iconst hC dX3_nearest_5 (v := 5) (by decide) rfl ?_
      refine q_icmp_ge hC dX3_nearest_6 (t := 47) (n := 9) (by decide) rfl (fun h => absurd h (by decide)) (fun _ => ?_)
      refine q_iload_n hC 1 dX3_nearest_9 rfl rfl ?_
      refine q_if_eq hC dX3_nearest_10 (t := 47) (n := 13) (by decide) rfl (fun h => (by first | exact absurd h h10_1 | exact absurd h10_1 h)) (fun _ => ?_)
      refine q_iconst hC dX3_nearest_13 (v := 1) (by decide) rfl ?_
      refine q_iload_n hC 3 dX3_nearest_14 rfl rfl ?_
      refine q_ishl hC dX3_nearest_15 rfl ?_
      refine q_istore hC dX3_nearest_16 (by decide) (ls' := [(0, _), (1, _), (2, _), (3, _), (4, _)]) rfl rfl ?_
      refine q_iload_n hC 1 dX3_nearest_18 rfl rfl ?_
      refine q_iload hC 4 dX3_nearest_19 rfl rfl ?_
      refine q_iand hC dX3_nearest_21 rfl ?_
      refine q_if_eq hC dX3_nearest_22 (t := 41) (n := 25) (by decide) rfl (fun h22_3 => ?_) (fun h22_3 => ?_)
      · refine q_iinc hC 3 dX3_nearest_41 rfl (v := 2) (by decide) (by decide) (ls' := [(0, _), (1, _), (2, _), (3, _), (4, _)]) rfl rfl ?_
        refine q_goto hC dX3_nearest_44 (n := 4) (by decide) ?_
        refine q_iload_n hC 3 dX3_nearest_4 rfl rfl ?_
        refine q_iconst hC dX3_nearest_5 (v := 5) (by decide) rfl ?_
        refine q_icmp_ge hC dX3_nearest_6 (t := 47) (n := 9) (by decide) rfl (fun h => absurd h (by decide)) (fun _ => ?_)
        refine q_iload_n hC 1 dX3_nearest_9 rfl rfl ?_
        refine q_if_eq hC dX3_nearest_10 (t := 47) (n := 13) (by decide) rfl (fun h => (by first | exact absurd h h10_1 | exact absurd h10_1 h)) (fun _ => ?_)
        refine q_iconst hC dX3_nearest_13 (v := 1) (by decide) rfl ?_
        refine q_iload_n hC 3 dX3_nearest_14 rfl rfl ?_
        refine q_ishl hC dX3_nearest_15 rfl ?_
        refine q_istore hC dX3_nearest_16 (by decide) (ls' := [(0, _), (1, _), (2, _), (3, _), (4, _)]) rfl rfl ?_
        refine q_iload_n hC 1 dX3_nearest_18 rfl rfl ?_
        refine q_iload hC 4 dX3_nearest_19 rfl rfl ?_
        refine q_iand hC dX3_nearest_21 rfl ?_
        refine q_if_eq hC dX3_nearest_22 (t := 41) (n := 25) (by decide) rfl (fun h22_4 => ?_) (fun h22_4 => ?_)
        · refine q_iinc hC 3 dX3_nearest_41 rfl (v := 3) (by decide) (by decide) (ls' := [(0, _), (1, _), (2, _), (3, _), (4, _)]) rfl rfl ?_
          refine q_goto hC dX3_nearest_44 (n := 4) (by decide) ?_
          refine q_iload_n hC 3 dX3_nearest_4 rfl rfl ?_
          refine q_iconst hC dX3_nearest_5 (v := 5) (by decide) rfl ?_
          refine q_icmp_ge hC dX3_nearest_6 (t := 47) (n := 9) (by decide) rfl (fun h => absurd h (by decide)) (fun _ => ?_)
          refine q_iload_n hC 1 dX3_nearest_9 rfl rfl ?_
          refine q_if_eq hC dX3_nearest_10 (t := 47) (n := 13) (by decide) rfl (fun h => (by first | exact absurd h h10_1 | exact absurd h10_1 h)) (fun _ => ?_)
          refine q_iconst hC dX3_nearest_13 (v := 1) (by decide) rfl ?_
          refine q_iload_n hC 3 dX3_nearest_14 rfl rfl ?_
          refine q_ishl hC dX3_nearest_15 rfl ?_
          refine q_istore hC dX3_nearest_16 (by decide) (ls' := [(0, _), (1, _), (2, _), (3, _), (4, _)]) rfl rfl ?_
          refine q_iload_n hC 1 dX3_nearest_18 rfl rfl ?_
          refine q_iload hC 4 dX3_nearest_19 rfl rfl ?_
          refine q_iand hC dX3_nearest_21 rfl ?_
          refine q_if_eq hC dX3_nearest_22 (t := 41) (n := 25) (by decide) rfl (fun h22_5 => ?_) (fun h22_5 => ?_)
          · refine q_iinc hC 3 dX3_nearest_41 rfl (v := 4) (by decide) (by decide) (ls' := [(0, _), (1, _), (2, _), (3, _), (4, _)]) rfl rfl ?_
            refine q_goto hC dX3_nearest_44 (n := 4) (by decide) ?_
            refine q_iload_n hC 3 dX3_nearest_4 rfl rfl ?_
            refine q_iconst hC dX3_nearest_5 (v := 5) (by decide) rfl ?_
            refine q_icmp_ge hC dX3_nearest_6 (t := 47) (n := 9) (by decide) rfl (fun h => absurd h (by decide)) (fun _ => ?_)
            refine q_iload_n hC 1 dX3_nearest_9 rfl rfl ?_
            refine q_if_eq hC dX3_nearest_10 (t := 47) (n := 13) (by decide) rfl (fun h => (by first | exact absurd h h10_1 | exact absurd h10_1 h)) (fun _ => ?_)
            refine q_iconst hC dX3_nearest_13 (v := 1) (by decide) rfl ?_
            refine q_iload_n hC 3 dX3_nearest_14 rfl rfl ?_
            refine q_ishl hC dX3_nearest_15 rfl ?_
            refine q_istore hC dX3_nearest_16 (by decide) (ls' := [(0, _), (1, _), (2, _), (3, _), (4, _)]) rfl rfl ?_
            refine q_iload_n hC 1 dX3_nearest_18 rfl rfl ?_
            refine q_iload hC 4 dX3_nearest_19 rfl rfl ?_
            refine q_iand hC dX3_nearest_21 rfl ?_
            refine q_if_eq hC dX3_nearest_22 (t := 41) (n := 25) (by decide) rfl (fun h22_6 => ?_) (fun h22_6 => ?_)
            · refine q_iinc hC 3 dX3_nearest_41 rfl (v := 5) (by decide) (by decide) (ls' := [(0, _), (1, _), (2, _), (3, _), (4, _)]) rfl rfl ?_
              refine q_goto hC dX3_nearest_44 (n := 4) (by decide) ?_
              refine q_iload_n hC 3 dX3_nearest_4 rfl rfl ?_
              refine q_iconst hC dX3_nearest_5 (v := 5) (by decide) rfl ?_
              refine q_icmp_ge hC dX3_nearest_6 (t := 47) (n := 9) (by decide) rfl (fun _ => ?_) (fun h => absurd (by decide) h)
              refine q_iload_n hC 2 dX3_nearest_47 rfl rfl ?_
              refine q_iret hC dX3_nearest_48 rfl ⟨by decide, by decide⟩ ⟨_, rfl, ?_⟩
              exact ⟨by simp only [z_near, z_nst, if_true, if_false, *], rfl⟩
            · refine q_iload_n hC 2 dX3_nearest_25 rfl rfl ?_
              refine q_aload_n hC 0 dX3_nearest_26 rfl rfl ?_
              refine q_get_f hC f_X3_9 dX3_nearest_27 rfl rfl hi rfl ?_
              refine q_iload_n hC 3 dX3_nearest_30 rfl rfl ?_
              refine q_iald hC dX3_nearest_31 rfl hi (q_inl (by decide)) rfl ?_
              refine q_iload hC 4 dX3_nearest_32 rfl rfl ?_
              refine q_iconst hC dX3_nearest_34 (v := (-1)) (by decide) rfl ?_
              refine q_ixor hC dX3_nearest_35 rfl ?_
              refine q_iand hC dX3_nearest_36 rfl ?_
              refine q_iconst hC dX3_nearest_37 (v := (-1)) (by decide) rfl ?_
              refine q_ixor hC dX3_nearest_38 rfl ?_
              refine q_iand hC dX3_nearest_39 rfl ?_
              refine q_istore_n hC dX3_nearest_40 (by decide) (ls' := [(0, _), (1, _), (2, _), (3, _), (4, _)]) rfl rfl ?_
              refine q_iinc hC 3 dX3_nearest_41 rfl (v := 5) (by decide) (by decide) (ls' := [(0, _), (1, _), (2, _), (3, _), (4, _)]) rfl rfl ?_
              refine q_goto hC dX3_nearest_44 (n := 4) (by decide) ?_
              refine q_iload_n hC 3 dX3_nearest_4 rfl rfl ?_
              refine q_iconst hC dX3_nearest_5 (v := 5) (by decide) rfl ?_
              refine q_icmp_ge hC dX3_nearest_6 (t := 47) (n := 9) (by decide) rfl (fun _ => ?_) (fun h => absurd (by decide) h)
              refine q_iload_n hC 2 dX3_nearest_47 rfl rfl ?_
              refine q_iret hC dX3_nearest_48 rfl ⟨by decide, by decide⟩ ⟨_, rfl, ?_⟩
              exact ⟨by simp only [z_near, z_nst, if_true, if_false, *], rfl⟩
          · refine q_iload_n hC 2 dX3_nearest_25 rfl rfl ?_
            refine q_aload_n hC 0 dX3_nearest_26 rfl rfl ?_
            refine q_get_f hC f_X3_9 dX3_nearest_27 rfl rfl hi rfl ?_
            refine q_iload_n hC 3 dX3_nearest_30 rfl rfl ?_
            refine q_iald hC dX3_nearest_31 rfl hi (q_inl (by decide)) rfl ?_
            refine q_iload hC 4 dX3_nearest_32 rfl rfl ?_
            refine q_iconst hC dX3_nearest_34 (v := (-1)) (by decide) rfl ?_
            refine q_ixor hC dX3_nearest_35 rfl ?_
            refine q_iand hC dX3_nearest_36 rfl ?_
            refine q_iconst hC dX3_nearest_37 (v := (-1)) (by decide) rfl ?_
            refine q_ixor hC dX3_nearest_38 rfl ?_
            refine q_iand hC dX3_nearest_39 rfl ?_
            refine q_istore_n hC dX3_nearest_40 (by decide) (ls' := [(0, _), (1, _), (2, _), (3, _), (4, _)]) rfl rfl ?_
            refine q_iinc hC 3 dX3_nearest_41 rfl (v := 4) (by decide) (by decide) (ls' := [(0, _), (1, _), (2, _), (3, _), (4, _)]) rfl rfl ?_
            refine q_goto hC dX3_nearest_44 (n := 4) (by decide) ?_
            refine q_iload_n hC 3 dX3_nearest_4 rfl rfl ?_
            refine q_iconst hC dX3_nearest_5 (v := 5) (by decide) rfl ?_
            refine q_icmp_ge hC dX3_nearest_6 (t := 47) (n := 9) (by decide) rfl (fun h => absurd h (by decide)) (fun _ => ?_)
            refine q_iload_n hC 1 dX3_nearest_9 rfl rfl ?_
            refine q_if_eq hC dX3_nearest_10 (t := 47) (n := 13) (by decide) rfl (fun h => (by first | exact absurd h h10_1 | exact absurd h10_1 h)) (fun _ => ?_)
            refine q_iconst hC dX3_nearest_13 (v := 1) (by decide) rfl ?_
            refine q_iload_n hC 3 dX3_nearest_14 rfl rfl ?_
            refine q_ishl hC dX3_nearest_15 rfl ?_
            refine q_istore hC dX3_nearest_16 (by decide) (ls' := [(0, _), (1, _), (2, _), (3, _), (4, _)]) rfl rfl ?_
            refine q_iload_n hC 1 dX3_nearest_18 rfl rfl ?_
            refine q_iload hC 4 dX3_nearest_19 rfl rfl ?_
            refine q_iand hC dX3_nearest_21 rfl ?_
            refine q_if_eq hC dX3_nearest_22 (t := 41) (n := 25) (by decide) rfl (fun h22_7 => ?_) (fun h22_7 => ?_)
            · refine q_iinc hC 3 dX3_nearest_41 rfl (v := 5) (by decide) (by decide) (ls' := [(0, _), (1, _), (2, _), (3, _), (4, _)]) rfl rfl ?_
              refine q_goto hC dX3_nearest_44 (n := 4) (by decide) ?_
              refine q_iload_n hC 3 dX3_nearest_4 rfl rfl ?_
              refine q_iconst hC dX3_nearest_5 (v := 5) (by decide) rfl ?_
              refine q_icmp_ge hC dX3_nearest_6 (t := 47) (n := 9) (by decide) rfl (fun _ => ?_) (fun h => absurd (by decide) h)
              refine q_iload_n hC 2 dX3_nearest_47 rfl rfl ?_
              refine q_iret hC dX3_nearest_48 rfl ⟨by decide, by decide⟩ ⟨_, rfl, ?_⟩
              exact ⟨by simp only [z_near, z_nst, if_true, if_false, *], rfl⟩
            · refine q_iload_n hC 2 dX3_nearest_25 rfl rfl ?_
              refine q_aload_n hC 0 dX3_nearest_26 rfl rfl ?_
              refine q_get_f hC f_X3_9 dX3_nearest_27 rfl rfl hi rfl ?_
              refine q_iload_n hC 3 dX3_nearest_30 rfl rfl ?_
              refine q_iald hC dX3_nearest_31 rfl hi (q_inl (by decide)) rfl ?_
              refine q_iload hC 4 dX3_nearest_32 rfl rfl ?_
              refine q_iconst hC dX3_nearest_34 (v := (-1)) (by decide) rfl ?_
              refine q_ixor hC dX3_nearest_35 rfl ?_
              refine q_iand hC dX3_nearest_36 rfl ?_
              refine q_iconst hC dX3_nearest_37 (v := (-1)) (by decide) rfl ?_
              refine q_ixor hC dX3_nearest_38 rfl ?_
              refine q_iand hC dX3_nearest_39 rfl ?_
              refine q_istore_n hC dX3_nearest_40 (by decide) (ls' := [(0, _), (1, _), (2, _), (3, _), (4, _)]) rfl rfl ?_
              refine q_iinc hC 3 dX3_nearest_41 rfl (v := 5) (by decide) (by decide) (ls' := [(0, _), (1, _), (2, _), (3, _), (4, _)]) rfl rfl ?_
              refine q_goto hC dX3_nearest_44 (n := 4) (by decide) ?_
              refine q_iload_n hC 3 dX3_nearest_4 rfl rfl ?_
              refine q_iconst hC dX3_nearest_5 (v := 5) (by decide) rfl ?_
              refine q_icmp_ge hC dX3_nearest_6 (t := 47) (n := 9) (by decide) rfl (fun _ => ?_) (fun h => absurd (by decide) h)
              refine q_iload_n hC 2 dX3_nearest_47 rfl rfl ?_
              refine q_iret hC dX3_nearest_48 rfl ⟨by decide, by decide⟩ ⟨_, rfl, ?_⟩
              exact ⟨by simp only [z_near, z_nst, if_true, if_false, *], rfl⟩
        · refine q_iload_n hC 2 dX3_nearest_25 rfl rfl ?_
          refine q_aload_n hC 0 dX3_nearest_26 rfl rfl ?_
          refine q_get_f hC f_X3_9 dX3_nearest_27 rfl rfl hi rfl ?_
          refine q_iload_n hC 3 dX3_nearest_30 rfl rfl ?_
          refine q_iald hC dX3_nearest_31 rfl hi (q_inl (by decide)) rfl ?_
          refine q_iload hC 4 dX3_nearest_32 rfl rfl ?_
          refine q_iconst hC dX3_nearest_34 (v := (-1)) (by decide) rfl ?_
          refine q_ixor hC dX3_nearest_35 rfl ?_
          refine q_iand hC dX3_nearest_36 rfl ?_
          refine q_iconst hC dX3_nearest_37 (v := (-1)) (by decide) rfl ?_
          refine q_ixor hC dX3_nearest_38 rfl ?_
          refine q_iand hC dX3_nearest_39 rfl ?_
          refine q_istore_n hC dX3_nearest_40 (by decide) (ls' := [(0, _), (1, _), (2, _), (3, _), (4, _)]) rfl rfl ?_
          refine q_iinc hC 3 dX3_nearest_41 rfl (v := 3) (by decide) (by decide) (ls' := [(0, _), (1, _), (2, _), (3, _), (4, _)]) rfl rfl ?_
          refine q_goto hC dX3_nearest_44 (n := 4) (by decide) ?_
          refine q_iload_n hC 3 dX3_nearest_4 rfl rfl ?_
          refine q_iconst hC dX3_nearest_5 (v := 5) (by decide) rfl ?_
          refine q_icmp_ge hC dX3_nearest_6 (t := 47) (n := 9) (by decide) rfl (fun h => absurd h (by decide)) (fun _ => ?_)
          refine q_iload_n hC 1 dX3_nearest_9 rfl rfl ?_
          refine q_if_eq hC dX3_nearest_10 (t := 47) (n := 13) (by decide) rfl (fun h => (by first | exact absurd h h10_1 | exact absurd h10_1 h)) (fun _ => ?_)
          refine q_iconst hC dX3_nearest_13 (v := 1) (by decide) rfl ?_
          refine q_iload_n hC 3 dX3_nearest_14 rfl rfl ?_
          refine q_ishl hC dX3_nearest_15 rfl ?_
          refine q_istore hC dX3_nearest_16 (by decide) (ls' := [(0, _), (1, _), (2, _), (3, _), (4, _)]) rfl rfl ?_
          refine q_iload_n hC 1 dX3_nearest_18 rfl rfl ?_
          refine q_iload hC 4 dX3_nearest_19 rfl rfl ?_
          refine q_iand hC dX3_nearest_21 rfl ?_
          refine q_if_eq hC dX3_nearest_22 (t := 41) (n := 25) (by decide) rfl (fun h22_8 => ?_) (fun h22_8 => ?_)
          · refine q_iinc hC 3 dX3_nearest_41 rfl (v := 4) (by decide) (by decide) (ls' := [(0, _), (1, _), (2, _), (3, _), (4, _)]) rfl rfl ?_
            refine q_goto hC dX3_nearest_44 (n := 4) (by decide) ?_
            refine q_iload_n hC 3 dX3_nearest_4 rfl rfl ?_
            refine q_iconst hC dX3_nearest_5 (v := 5) (by decide) rfl ?_
            refine q_icmp_ge hC dX3_nearest_6 (t := 47) (n := 9) (by decide) rfl (fun h => absurd h (by decide)) (fun _ => ?_)
            refine q_iload_n hC 1 dX3_nearest_9 rfl rfl ?_
            refine q_if_eq hC dX3_nearest_10 (t := 47) (n := 13) (by decide) rfl (fun h => (by first | exact absurd h h10_1 | exact absurd h10_1 h)) (fun _ => ?_)
            refine q_iconst hC dX3_nearest_13 (v := 1) (by decide) rfl ?_
            refine q_iload_n hC 3 dX3_nearest_14 rfl rfl ?_
            refine q_ishl hC dX3_nearest_15 rfl ?_
            refine q_istore hC dX3_nearest_16 (by decide) (ls' := [(0, _), (1, _), (2, _), (3, _), (4, _)]) rfl rfl ?_
            refine q_iload_n hC 1 dX3_nearest_18 rfl rfl ?_
            refine q_iload hC 4 dX3_nearest_19 rfl rfl ?_
            refine q_iand hC dX3_nearest_21 rfl ?_
            refine q_if_eq hC dX3_nearest_22 (t := 41) (n := 25) (by decide) rfl (fun h22_9 => ?_) (fun h22_9 => ?_)
            · refine q_iinc hC 3 dX3_nearest_41 rfl (v := 5) (by decide) (by decide) (ls' := [(0, _), (1, _), (2, _), (3, _), (4, _)]) rfl rfl ?_
              refine q_goto hC dX3_nearest_44 (n := 4) (by decide) ?_
              refine q_iload_n hC 3 dX3_nearest_4 rfl rfl ?_
              refine q_iconst hC dX3_nearest_5 (v := 5) (by decide) rfl ?_
              refine q_icmp_ge hC dX3_nearest_6 (t := 47) (n := 9) (by decide) rfl (fun _ => ?_) (fun h => absurd (by decide) h)
              refine q_iload_n hC 2 dX3_nearest_47 rfl rfl ?_
              refine q_iret hC dX3_nearest_48 rfl ⟨by decide, by decide⟩ ⟨_, rfl, ?_⟩
              exact ⟨by simp only [z_near, z_nst, if_true, if_false, *], rfl⟩
            · refine q_iload_n hC 2 dX3_nearest_25 rfl rfl ?_
              refine q_aload_n hC 0 dX3_nearest_26 rfl rfl ?_
              refine q_get_f hC f_X3_9 dX3_nearest_27 rfl rfl hi rfl ?_
              refine q_iload_n hC 3 dX3_nearest_30 rfl rfl ?_
              refine q_iald hC dX3_nearest_31 rfl hi (q_inl (by decide)) rfl ?_
              refine q_iload hC 4 dX3_nearest_32 rfl rfl ?_
              refine q_iconst hC dX3_nearest_34 (v := (-1)) (by decide) rfl ?_
              refine q_ixor hC dX3_nearest_35 rfl ?_
              refine q_iand hC dX3_nearest_36 rfl ?_
              refine q_iconst hC dX3_nearest_37 (v := (-1)) (by decide) rfl ?_
              refine q_ixor hC dX3_nearest_38 rfl ?_
              refine q_iand hC dX3_nearest_39 rfl ?_
              refine q_istore_n hC dX3_nearest_40 (by decide) (ls' := [(0, _), (1, _), (2, _), (3, _), (4, _)]) rfl rfl ?_
              refine q_iinc hC 3 dX3_nearest_41 rfl (v := 5) (by decide) (by decide) (ls' := [(0, _), (1, _), (2, _), (3, _), (4, _)]) rfl rfl ?_
              refine q_goto hC dX3_nearest_44 (n := 4) (by decide) ?_
              refine q_iload_n hC 3 dX3_nearest_4 rfl rfl ?_
              refine q_iconst hC dX3_nearest_5 (v := 5) (by decide) rfl ?_
              refine q_icmp_ge hC dX3_nearest_6 (t := 47) (n := 9) (by decide) rfl (fun _ => ?_) (fun h => absurd (by decide) h)
              refine q_iload_n hC 2 dX3_nearest_47 rfl rfl ?_
              refine q_iret hC dX3_nearest_48 rfl ⟨by decide, by decide⟩ ⟨_, rfl, ?_⟩
              exact ⟨by simp only [z_near, z_nst, if_true, if_false, *], rfl⟩
          · refine q_iload_n hC 2 dX3_nearest_25 rfl rfl ?_
            refine q_aload_n hC 0 dX3_nearest_26 rfl rfl ?_
            refine q_get_f hC f_X3_9 dX3_nearest_27 rfl rfl hi rfl ?_
            refine q_iload_n hC 3 dX3_nearest_30 rfl rfl ?_
            refine q_iald hC dX3_nearest_31 rfl hi (q_inl (by decide)) rfl ?_
            refine q_iload hC 4 dX3_nearest_32 rfl rfl ?_
            refine q_iconst hC dX3_nearest_34 (v := (-1)) (by decide) rfl ?_
            refine q_ixor hC dX3_nearest_35 rfl ?_
            refine q_iand hC dX3_nearest_36 rfl ?_
            refine q_iconst hC dX3_nearest_37 (v := (-1)) (by decide) rfl ?_
            refine q_ixor hC dX3_nearest_38 rfl ?_
            refine q_iand hC dX3_nearest_39 rfl ?_
            refine q_istore_n hC dX3_nearest_40 (by decide) (ls' := [(0, _), (1, _), (2, _), (3, _), (4, _)]) rfl rfl ?_
            refine q_iinc hC 3 dX3_nearest_41 rfl (v := 4) (by decide) (by decide) (ls' := [(0, _), (1, _), (2, _), (3, _), (4, _)]) rfl rfl ?_
            refine q_goto hC dX3_nearest_44 (n := 4) (by decide) ?_
            refine q_iload_n hC 3 dX3_nearest_4 rfl rfl ?_
            refine q_iconst hC dX3_nearest_5 (v := 5) (by decide) rfl ?_
            refine q_icmp_ge hC dX3_nearest_6 (t := 47) (n := 9) (by decide) rfl (fun h => absurd h (by decide)) (fun _ => ?_)
            refine q_iload_n hC 1 dX3_nearest_9 rfl rfl ?_
            refine q_if_eq hC dX3_nearest_10 (t := 47) (n := 13) (by decide) rfl (fun h => (by first | exact absurd h h10_1 | exact absurd h10_1 h)) (fun _ => ?_)
            refine q_iconst hC dX3_nearest_13 (v := 1) (by decide) rfl ?_
            refine q_iload_n hC 3 dX3_nearest_14 rfl rfl ?_
            refine q_ishl hC dX3_nearest_15 rfl ?_
            refine q_istore hC dX3_nearest_16 (by decide) (ls' := [(0, _), (1, _), (2, _), (3, _), (4, _)]) rfl rfl ?_
            refine q_iload_n hC 1 dX3_nearest_18 rfl rfl ?_
            refine q_iload hC 4 dX3_nearest_19 rfl rfl ?_
            refine q_iand hC dX3_nearest_21 rfl ?_
            refine q_if_eq hC dX3_nearest_22 (t := 41) (n := 25) (by decide) rfl (fun h22_10 => ?_) (fun h22_10 => ?_)
            · refine q_iinc hC 3 dX3_nearest_41 rfl (v := 5) (by decide) (by decide) (ls' := [(0, _), (1, _), (2, _), (3, _), (4, _)]) rfl rfl ?_
              refine q_goto hC dX3_nearest_44 (n := 4) (by decide) ?_
              refine q_iload_n hC 3 dX3_nearest_4 rfl rfl ?_
              refine q_iconst hC dX3_nearest_5 (v := 5) (by decide) rfl ?_
              refine q_icmp_ge hC dX3_nearest_6 (t := 47) (n := 9) (by decide) rfl (fun _ => ?_) (fun h => absurd (by decide) h)
              refine q_iload_n hC 2 dX3_nearest_47 rfl rfl ?_
              refine q_iret hC dX3_nearest_48 rfl ⟨by decide, by decide⟩ ⟨_, rfl, ?_⟩
              exact ⟨by simp only [z_near, z_nst, if_true, if_false, *], rfl⟩
            · refine q_iload_n hC 2 dX3_nearest_25 rfl rfl ?_
              refine q_aload_n hC 0 dX3_nearest_26 rfl rfl ?_
              refine q_get_f hC f_X3_9 dX3_nearest_27 rfl rfl hi rfl ?_
              refine q_iload_n hC 3 dX3_nearest_30 rfl rfl ?_
              refine q_iald hC dX3_nearest_31 rfl hi (q_inl (by decide)) rfl ?_
              refine q_iload hC 4 dX3_nearest_32 rfl rfl ?_
              refine q_iconst hC dX3_nearest_34 (v := (-1)) (by decide) rfl ?_
              refine q_ixor hC dX3_nearest_35 rfl ?_
              refine q_iand hC dX3_nearest_36 rfl ?_
              refine q_iconst hC dX3_nearest_37 (v := (-1)) (by decide) rfl ?_
              refine q_ixor hC dX3_nearest_38 rfl ?_
              refine q_iand hC dX3_nearest_39 rfl ?_
              refine q_istore_n hC dX3_nearest_40 (by decide) (ls' := [(0, _), (1, _), (2, _), (3, _), (4, _)]) rfl rfl ?_
              refine q_iinc hC 3 dX3_nearest_41 rfl (v := 5) (by decide) (by decide) (ls' := [(0, _), (1, _), (2, _), (3, _), (4, _)]) rfl rfl ?_
              refine q_goto hC dX3_nearest_44 (n := 4) (by decide) ?_
              refine q_iload_n hC 3 dX3_nearest_4 rfl rfl ?_
              refine q_iconst hC dX3_nearest_5 (v := 5) (by decide) rfl ?_
              refine q_icmp_ge hC dX3_nearest_6 (t := 47) (n := 9) (by decide) rfl (fun _ => ?_) (fun h => absurd (by decide) h)
              refine q_iload_n hC 2 dX3_nearest_47 rfl rfl ?_
              refine q_iret hC dX3_nearest_48 rfl ⟨by decide, by decide⟩ ⟨_, rfl, ?_⟩
              exact ⟨by simp only [z_near, z_nst, if_true, if_false, *], rfl⟩
      · refine q_iload_n hC 2 dX3_nearest_25 rfl rfl ?_
        refine q_aload_n hC 0 dX3_nearest_26 rfl rfl ?_
        refine q_get_f hC f_X3_9 dX3_nearest_27 rfl rfl hi rfl ?_
        refine q_iload_n hC 3 dX3_nearest_30 rfl rfl ?_
        refine q_iald hC dX3_nearest_31 rfl hi (q_inl (by decide)) rfl ?_
        refine q_iload hC 4 dX3_nearest_32 rfl rfl ?_
        refine q_iconst hC dX3_nearest_34 (v := (-1)) (by decide) rfl ?_
        refine q_ixor hC dX3_nearest_35 rfl ?_
        refine q_iand hC dX3_nearest_36 rfl ?_
        refine q_iconst hC dX3_nearest_37 (v := (-1)) (by decide) rfl ?_
        refine q_ixor hC dX3_nearest_38 rfl ?_
        refine q_iand hC dX3_nearest_39 rfl ?_
        refine q_istore_n hC dX3_nearest_40 (by decide) (ls' := [(0, _), (1, _), (2, _), (3, _), (4, _)]) rfl rfl ?_
        refine q_iinc hC 3 dX3_nearest_41 rfl (v := 2) (by decide) (by decide) (ls' := [(0, _), (1, _), (2, _), (3, _), (4, _)]) rfl rfl ?_
        refine q_goto hC dX3_nearest_44 (n := 4) (by decide) ?_
        refine q_iload_n hC 3 dX3_nearest_4 rfl rfl ?_
        refine q_iconst hC dX3_nearest_5 (v := 5) (by decide) rfl ?_
        refine q_icmp_ge hC dX3_nearest_6 (t := 47) (n := 9) (by decide) rfl (fun h => absurd h (by decide)) (fun _ => ?_)
        refine q_iload_n hC 1 dX3_nearest_9 rfl rfl ?_
        refine q_if_eq hC dX3_nearest_10 (t := 47) (n := 13) (by decide) rfl (fun h => (by first | exact absurd h h10_1 | exact absurd h10_1 h)) (fun _ => ?_)
        refine q_iconst hC dX3_nearest_13 (v := 1) (by decide) rfl ?_
        refine q_iload_n hC 3 dX3_nearest_14 rfl rfl ?_
        refine q_ishl hC dX3_nearest_15 rfl ?_
        refine q_istore hC dX3_nearest_16 (by decide) (ls' := [(0, _), (1, _), (2, _), (3, _), (4, _)]) rfl rfl ?_
        refine q_iload_n hC 1 dX3_nearest_18 rfl rfl ?_
        refine q_iload hC 4 dX3_nearest_19 rfl rfl ?_
        refine q_iand hC dX3_nearest_21 rfl ?_
        refine q_if_eq hC dX3_nearest_22 (t := 41) (n := 25) (by decide) rfl (fun h22_11 => ?_) (fun h22_11 => ?_)
        · refine q_iinc hC 3 dX3_nearest_41 rfl (v := 3) (by decide) (by decide) (ls' := [(0, _), (1, _), (2, _), (3, _), (4, _)]) rfl rfl ?_
          refine q_goto hC dX3_nearest_44 (n := 4) (by decide) ?_
          refine q_iload_n hC 3 dX3_nearest_4 rfl rfl ?_
          refine q_iconst hC dX3_nearest_5 (v := 5) (by decide) rfl ?_
          refine q_icmp_ge hC dX3_nearest_6 (t := 47) (n := 9) (by decide) rfl (fun h => absurd h (by decide)) (fun _ => ?_)
          refine q_iload_n hC 1 dX3_nearest_9 rfl rfl ?_
          refine q_if_eq hC dX3_nearest_10 (t := 47) (n := 13) (by decide) rfl (fun h => (by first | exact absurd h h10_1 | exact absurd h10_1 h)) (fun _ => ?_)
          refine q_iconst hC dX3_nearest_13 (v := 1) (by decide) rfl ?_
          refine q_iload_n hC 3 dX3_nearest_14 rfl rfl ?_
          refine q_ishl hC dX3_nearest_15 rfl ?_
          refine q_istore hC dX3_nearest_16 (by decide) (ls' := [(0, _), (1, _), (2, _), (3, _), (4, _)]) rfl rfl ?_
          refine q_iload_n hC 1 dX3_nearest_18 rfl rfl ?_
          refine q_iload hC 4 dX3_nearest_19 rfl rfl ?_
          refine q_iand hC dX3_nearest_21 rfl ?_
          refine q_if_eq hC dX3_nearest_22 (t := 41) (n := 25) (by decide) rfl (fun h22_12 => ?_) (fun h22_12 => ?_)
          · refine q_iinc hC 3 dX3_nearest_41 rfl (v := 4) (by decide) (by decide) (ls' := [(0, _), (1, _), (2, _), (3, _), (4, _)]) rfl rfl ?_
            refine q_goto hC dX3_nearest_44 (n := 4) (by decide) ?_
            refine q_iload_n hC 3 dX3_nearest_4 rfl rfl ?_
            refine q_iconst hC dX3_nearest_5 (v := 5) (by decide) rfl ?_
            refine q_icmp_ge hC dX3_nearest_6 (t := 47) (n := 9) (by decide) rfl (fun h => absurd h (by decide)) (fun _ => ?_)
            refine q_iload_n hC 1 dX3_nearest_9 rfl rfl ?_
            refine q_if_eq hC dX3_nearest_10 (t := 47) (n := 13) (by decide) rfl (fun h => (by first | exact absurd h h10_1 | exact absurd h10_1 h)) (fun _ => ?_)
            refine q_iconst hC dX3_nearest_13 (v := 1) (by decide) rfl ?_
            refine q_iload_n hC 3 dX3_nearest_14 rfl rfl ?_
            refine q_ishl hC dX3_nearest_15 rfl ?_
            refine q_istore hC dX3_nearest_16 (by decide) (ls' := [(0, _), (1, _), (2, _), (3, _), (4, _)]) rfl rfl ?_
            refine q_iload_n hC 1 dX3_nearest_18 rfl rfl ?_
            refine q_iload hC 4 dX3_nearest_19 rfl rfl ?_
            refine q_iand hC dX3_nearest_21 rfl ?_
            refine q_if_eq hC dX3_nearest_22 (t := 41) (n := 25) (by decide) rfl (fun h22_13 => ?_) (fun h22_13 => ?_)
            · refine q_iinc hC 3 dX3_nearest_41 rfl (v := 5) (by decide) (by decide) (ls' := [(0, _), (1, _), (2, _), (3, _), (4, _)]) rfl rfl ?_
              refine q_goto hC dX3_nearest_44 (n := 4) (by decide) ?_
              refine q_iload_n hC 3 dX3_nearest_4 rfl rfl ?_
              refine q_iconst hC dX3_nearest_5 (v := 5) (by decide) rfl ?_
              refine q_icmp_ge hC dX3_nearest_6 (t := 47) (n := 9) (by decide) rfl (fun _ => ?_) (fun h => absurd (by decide) h)
              refine q_iload_n hC 2 dX3_nearest_47 rfl rfl ?_
              refine q_iret hC dX3_nearest_48 rfl ⟨by decide, by decide⟩ ⟨_, rfl, ?_⟩
              exact ⟨by simp only [z_near, z_nst, if_true, if_false, *], rfl⟩
            · refine q_iload_n hC 2 dX3_nearest_25 rfl rfl ?_
              refine q_aload_n hC 0 dX3_nearest_26 rfl rfl ?_
              refine q_get_f hC f_X3_9 dX3_nearest_27 rfl rfl hi rfl ?_
              refine q_iload_n hC 3 dX3_nearest_30 rfl rfl ?_
              refine q_iald hC dX3_nearest_31 rfl hi (q_inl (by decide)) rfl ?_
              refine q_iload hC 4 dX3_nearest_32 rfl rfl ?_
              refine q_iconst hC dX3_nearest_34 (v := (-1)) (by decide) rfl ?_
              refine q_ixor hC dX3_nearest_35 rfl ?_
              refine q_iand hC dX3_nearest_36 rfl ?_
              refine q_iconst hC dX3_nearest_37 (v := (-1)) (by decide) rfl ?_
              refine q_ixor hC dX3_nearest_38 rfl ?_
              refine q_iand hC dX3_nearest_39 rfl ?_
              refine q_istore_n hC dX3_nearest_40 (by decide) (ls' := [(0, _), (1, _), (2, _), (3, _), (4, _)]) rfl rfl ?_
              refine q_iinc hC 3 dX3_nearest_41 rfl (v := 5) (by decide) (by decide) (ls' := [(0, _), (1, _), (2, _), (3, _), (4, _)]) rfl rfl ?_
              refine q_goto hC dX3_nearest_44 (n := 4) (by decide) ?_
              refine q_iload_n hC 3 dX3_nearest_4 rfl rfl ?_
              refine q_iconst hC dX3_nearest_5 (v := 5) (by decide) rfl ?_
              refine q_icmp_ge hC dX3_nearest_6 (t := 47) (n := 9) (by decide) rfl (fun _ => ?_) (fun h => absurd (by decide) h)
              refine q_iload_n hC 2 dX3_nearest_47 rfl rfl ?_
              refine q_iret hC dX3_nearest_48 rfl ⟨by decide, by decide⟩ ⟨_, rfl, ?_⟩
              exact ⟨by simp only [z_near, z_nst, if_true, if_false, *], rfl⟩
          · refine q_iload_n hC 2 dX3_nearest_25 rfl rfl ?_
            refine q_aload_n hC 0 dX3_nearest_26 rfl rfl ?_
            refine q_get_f hC f_X3_9 dX3_nearest_27 rfl rfl hi rfl ?_
            refine q_iload_n hC 3 dX3_nearest_30 rfl rfl ?_
            refine q_iald hC dX3_nearest_31 rfl hi (q_inl (by decide)) rfl ?_
            refine q_iload hC 4 dX3_nearest_32 rfl rfl ?_
            refine q_iconst hC dX3_nearest_34 (v := (-1)) (by decide) rfl ?_
            refine q_ixor hC dX3_nearest_35 rfl ?_
            refine q_iand hC dX3_nearest_36 rfl ?_
            refine q_iconst hC dX3_nearest_37 (v := (-1)) (by decide) rfl ?_
            refine q_ixor hC dX3_nearest_38 rfl ?_
            refine q_iand hC dX3_nearest_39 rfl ?_
            refine q_istore_n hC dX3_nearest_40 (by decide) (ls' := [(0, _), (1, _), (2, _), (3, _), (4, _)]) rfl rfl ?_
            refine q_iinc hC 3 dX3_nearest_41 rfl (v := 4) (by decide) (by decide) (ls' := [(0, _), (1, _), (2, _), (3, _), (4, _)]) rfl rfl ?_
            refine q_goto hC dX3_nearest_44 (n := 4) (by decide) ?_
            refine q_iload_n hC 3 dX3_nearest_4 rfl rfl ?_
            refine q_iconst hC dX3_nearest_5 (v := 5) (by decide) rfl ?_
            refine q_icmp_ge hC dX3_nearest_6 (t := 47) (n := 9) (by decide) rfl (fun h => absurd h (by decide)) (fun _ => ?_)
            refine q_iload_n hC 1 dX3_nearest_9 rfl rfl ?_
            refine q_if_eq hC dX3_nearest_10 (t := 47) (n := 13) (by decide) rfl (fun h => (by first | exact absurd h h10_1 | exact absurd h10_1 h)) (fun _ => ?_)
            refine q_iconst hC dX3_nearest_13 (v := 1) (by decide) rfl ?_
            refine q_iload_n hC 3 dX3_nearest_14 rfl rfl ?_
            refine q_ishl hC dX3_nearest_15 rfl ?_
            refine q_istore hC dX3_nearest_16 (by decide) (ls' := [(0, _), (1, _), (2, _), (3, _), (4, _)]) rfl rfl ?_
            refine q_iload_n hC 1 dX3_nearest_18 rfl rfl ?_
            refine q_iload hC 4 dX3_nearest_19 rfl rfl ?_
            refine q_iand hC dX3_nearest_21 rfl ?_
            refine q_if_eq hC dX3_nearest_22 (t := 41) (n := 25) (by decide) rfl (fun h22_14 => ?_) (fun h22_14 => ?_)
            · refine q_iinc hC 3 dX3_nearest_41 rfl (v := 5) (by decide) (by decide) (ls' := [(0, _), (1, _), (2, _), (3, _), (4, _)]) rfl rfl ?_
              refine q_goto hC dX3_nearest_44 (n := 4) (by decide) ?_
              refine q_iload_n hC 3 dX3_nearest_4 rfl rfl ?_
              refine q_iconst hC dX3_nearest_5 (v := 5) (by decide) rfl ?_
              refine q_icmp_ge hC dX3_nearest_6 (t := 47) (n := 9) (by decide) rfl (fun _ => ?_) (fun h => absurd (by decide) h)
              refine q_iload_n hC 2 dX3_nearest_47 rfl rfl ?_
              refine q_iret hC dX3_nearest_48 rfl ⟨by decide, by decide⟩ ⟨_, rfl, ?_⟩
              exact ⟨by simp only [z_near, z_nst, if_true, if_false, *], rfl⟩
            · refine q_iload_n hC 2 dX3_nearest_25 rfl rfl ?_
              refine q_aload_n hC 0 dX3_nearest_26 rfl rfl ?_
              refine q_get_f hC f_X3_9 dX3_nearest_27 rfl rfl hi rfl ?_
              refine q_iload_n hC 3 dX3_nearest_30 rfl rfl ?_
              refine q_iald hC dX3_nearest_31 rfl hi (q_inl (by decide)) rfl ?_
              refine q_iload hC 4 dX3_nearest_32 rfl rfl ?_
              refine q_iconst hC dX3_nearest_34 (v := (-1)) (by decide) rfl ?_
              refine q_ixor hC dX3_nearest_35 rfl ?_
              refine q_iand hC dX3_nearest_36 rfl ?_
              refine q_iconst hC dX3_nearest_37 (v := (-1)) (by decide) rfl ?_
              refine q_ixor hC dX3_nearest_38 rfl ?_
              refine q_iand hC dX3_nearest_39 rfl ?_
              refine q_istore_n hC dX3_nearest_40 (by decide) (ls' := [(0, _), (1, _), (2, _), (3, _), (4, _)]) rfl rfl ?_
              refine q_iinc hC 3 dX3_nearest_41 rfl (v := 5) (by decide) (by decide) (ls' := [(0, _), (1, _), (2, _), (3, _), (4, _)]) rfl rfl ?_
              refine q_goto hC dX3_nearest_44 (n := 4) (by decide) ?_
              refine q_iload_n hC 3 dX3_nearest_4 rfl rfl ?_
              refine q_iconst hC dX3_nearest_5 (v := 5) (by decide) rfl ?_
              refine q_icmp_ge hC dX3_nearest_6 (t := 47) (n := 9) (by decide) rfl (fun _ => ?_) (fun h => absurd (by decide) h)
              refine q_iload_n hC 2 dX3_nearest_47 rfl rfl ?_
              refine q_iret hC dX3_nearest_48 rfl ⟨by decide, by decide⟩ ⟨_, rfl, ?_⟩
              exact ⟨by simp only [z_near, z_nst, if_true, if_false, *], rfl⟩
        · refine q_iload_n hC 2 dX3_nearest_25 rfl rfl ?_
          refine q_aload_n hC 0 dX3_nearest_26 rfl rfl ?_
          refine q_get_f hC f_X3_9 dX3_nearest_27 rfl rfl hi rfl ?_
          refine q_iload_n hC 3 dX3_nearest_30 rfl rfl ?_
          refine q_iald hC dX3_nearest_31 rfl hi (q_inl (by decide)) rfl ?_
          refine q_iload hC 4 dX3_nearest_32 rfl rfl ?_
          refine q_iconst hC dX3_nearest_34 (v := (-1)) (by decide) rfl ?_
          refine q_ixor hC dX3_nearest_35 rfl ?_
          refine q_iand hC dX3_nearest_36 rfl ?_
          refine q_iconst hC dX3_nearest_37 (v := (-1)) (by decide) rfl ?_
          refine q_ixor hC dX3_nearest_38 rfl ?_
          refine q_iand hC dX3_nearest_39 rfl ?_
          refine q_istore_n hC dX3_nearest_40 (by decide) (ls' := [(0, _), (1, _), (2, _), (3, _), (4, _)]) rfl rfl ?_
          refine q_iinc hC 3 dX3_nearest_41 rfl (v := 3) (by decide) (by decide) (ls' := [(0, _), (1, _), (2, _), (3, _), (4, _)]) rfl rfl ?_
          refine q_goto hC dX3_nearest_44 (n := 4) (by decide) ?_
          refine q_iload_n hC 3 dX3_nearest_4 rfl rfl ?_
          refine q_iconst hC dX3_nearest_5 (v := 5) (by decide) rfl ?_
          refine q_icmp_ge hC dX3_nearest_6 (t := 47) (n := 9) (by decide) rfl (fun h => absurd h (by decide)) (fun _ => ?_)
          refine q_iload_n hC 1 dX3_nearest_9 rfl rfl ?_
          refine q_if_eq hC dX3_nearest_10 (t := 47) (n := 13) (by decide) rfl (fun h => (by first | exact absurd h h10_1 | exact absurd h10_1 h)) (fun _ => ?_)
          refine q_iconst hC dX3_nearest_13 (v := 1) (by decide) rfl ?_
          refine q_iload_n hC 3 dX3_nearest_14 rfl rfl ?_
          refine q_ishl hC dX3_nearest_15 rfl ?_
          refine q_istore hC dX3_nearest_16 (by decide) (ls' := [(0, _), (1, _), (2, _), (3, _), (4, _)]) rfl rfl ?_
          refine q_iload_n hC 1 dX3_nearest_18 rfl rfl ?_
          refine q_iload hC 4 dX3_nearest_19 rfl rfl ?_
          refine q_iand hC dX3_nearest_21 rfl ?_
          refine q_if_eq hC dX3_nearest_22 (t := 41) (n := 25) (by decide) rfl (fun h22_15 => ?_) (fun h22_15 => ?_)
          · refine q_iinc hC 3 dX3_nearest_41 rfl (v := 4) (by decide) (by decide) (ls' := [(0, _), (1, _), (2, _), (3, _), (4, _)]) rfl rfl ?_
            refine q_goto hC dX3_nearest_44 (n := 4) (by decide) ?_
            refine q_iload_n hC 3 dX3_nearest_4 rfl rfl ?_
            refine q_iconst hC dX3_nearest_5 (v := 5) (by decide) rfl ?_
            refine q_icmp_ge hC dX3_nearest_6 (t := 47) (n := 9) (by decide) rfl (fun h => absurd h (by decide)) (fun _ => ?_)
            refine q_iload_n hC 1 dX3_nearest_9 rfl rfl ?_
            refine q_if_eq hC dX3_nearest_10 (t := 47) (n := 13) (by decide) rfl (fun h => (by first | exact absurd h h10_1 | exact absurd h10_1 h)) (fun _ => ?_)
            refine q_iconst hC dX3_nearest_13 (v := 1) (by decide) rfl ?_
            refine q_iload_n hC 3 dX3_nearest_14 rfl rfl ?_
            refine q_ishl hC dX3_nearest_15 rfl ?_
            refine q_istore hC dX3_nearest_16 (by decide) (ls' := [(0, _), (1, _), (2, _), (3, _), (4, _)]) rfl rfl ?_
            refine q_iload_n hC 1 dX3_nearest_18 rfl rfl ?_
            refine q_iload hC 4 dX3_nearest_19 rfl rfl ?_
            refine q_iand hC dX3_nearest_21 rfl ?_
            refine q_if_eq hC dX3_nearest_22 (t := 41) (n := 25) (by decide) rfl (fun h22_16 => ?_) (fun h22_16 => ?_)
            · refine q_iinc hC 3 dX3_nearest_41 rfl (v := 5) (by decide) (by decide) (ls' := [(0, _), (1, _), (2, _), (3, _), (4, _)]) rfl rfl ?_
              refine q_goto hC dX3_nearest_44 (n := 4) (by decide) ?_
              refine q_iload_n hC 3 dX3_nearest_4 rfl rfl ?_
              refine q_iconst hC dX3_nearest_5 (v := 5) (by decide) rfl ?_
              refine q_icmp_ge hC dX3_nearest_6 (t := 47) (n := 9) (by decide) rfl (fun _ => ?_) (fun h => absurd (by decide) h)
              refine q_iload_n hC 2 dX3_nearest_47 rfl rfl ?_
              refine q_iret hC dX3_nearest_48 rfl ⟨by decide, by decide⟩ ⟨_, rfl, ?_⟩
              exact ⟨by simp only [z_near, z_nst, if_true, if_false, *], rfl⟩
            · refine q_iload_n hC 2 dX3_nearest_25 rfl rfl ?_
              refine q_aload_n hC 0 dX3_nearest_26 rfl rfl ?_
              refine q_get_f hC f_X3_9 dX3_nearest_27 rfl rfl hi rfl ?_
              refine q_iload_n hC 3 dX3_nearest_30 rfl rfl ?_
              refine q_iald hC dX3_nearest_31 rfl hi (q_inl (by decide)) rfl ?_
              refine q_iload hC 4 dX3_nearest_32 rfl rfl ?_
              refine q_iconst hC dX3_nearest_34 (v := (-1)) (by decide) rfl ?_
              refine q_ixor hC dX3_nearest_35 rfl ?_
              refine q_iand hC dX3_nearest_36 rfl ?_
              refine q_iconst hC dX3_nearest_37 (v := (-1)) (by decide) rfl ?_
              refine q_ixor hC dX3_nearest_38 rfl ?_
              refine q_iand hC dX3_nearest_39 rfl ?_
              refine q_istore_n hC dX3_nearest_40 (by decide) (ls' := [(0, _), (1, _), (2, _), (3, _), (4, _)]) rfl rfl ?_
              refine q_iinc hC 3 dX3_nearest_41 rfl (v := 5) (by decide) (by decide) (ls' := [(0, _), (1, _), (2, _), (3, _), (4, _)]) rfl rfl ?_
              refine q_goto hC dX3_nearest_44 (n := 4) (by decide) ?_
              refine q_iload_n hC 3 dX3_nearest_4 rfl rfl ?_
              refine q_iconst hC dX3_nearest_5 (v := 5) (by decide) rfl ?_
              refine q_icmp_ge hC dX3_nearest_6 (t := 47) (n := 9) (by decide) rfl (fun _ => ?_) (fun h => absurd (by decide) h)
              refine q_iload_n hC 2 dX3_nearest_47 rfl rfl ?_
              refine q_iret hC dX3_nearest_48 rfl ⟨by decide, by decide⟩ ⟨_, rfl, ?_⟩
              exact ⟨by simp only [z_near, z_nst, if_true, if_false, *], rfl⟩
          · refine q_iload_n hC 2 dX3_nearest_25 rfl rfl ?_
            refine q_aload_n hC 0 dX3_nearest_26 rfl rfl ?_
            refine q_get_f hC f_X3_9 dX3_nearest_27 rfl rfl hi rfl ?_
            refine q_iload_n hC 3 dX3_nearest_30 rfl rfl ?_
            refine q_iald hC dX3_nearest_31 rfl hi (q_inl (by decide)) rfl ?_
            refine q_iload hC 4 dX3_nearest_32 rfl rfl ?_
            refine q_iconst hC dX3_nearest_34 (v := (-1)) (by decide) rfl ?_
            refine q_ixor hC dX3_nearest_35 rfl ?_
            refine q_iand hC dX3_nearest_36 rfl ?_
            refine q_iconst hC dX3_nearest_37 (v := (-1)) (by decide) rfl ?_
            refine q_ixor hC dX3_nearest_38 rfl ?_
            refine q_iand hC dX3_nearest_39 rfl ?_
            refine q_istore_n hC dX3_nearest_40 (by decide) (ls' := [(0, _), (1, _), (2, _), (3, _), (4, _)]) rfl rfl ?_
            refine q_iinc hC 3 dX3_nearest_41 rfl (v := 4) (by decide) (by decide) (ls' := [(0, _), (1, _), (2, _), (3, _), (4, _)]) rfl rfl ?_
            refine q_goto hC dX3_nearest_44 (n := 4) (by decide) ?_
            refine q_iload_n hC 3 dX3_nearest_4 rfl rfl ?_
            refine q_iconst hC dX3_nearest_5 (v := 5) (by decide) rfl ?_
            refine q_icmp_ge hC dX3_nearest_6 (t := 47) (n := 9) (by decide) rfl (fun h => absurd h (by decide)) (fun _ => ?_)
            refine q_iload_n hC 1 dX3_nearest_9 rfl rfl ?_
            refine q_if_eq hC dX3_nearest_10 (t := 47) (n := 13) (by decide) rfl (fun h => (by first | exact absurd h h10_1 | exact absurd h10_1 h)) (fun _ => ?_)
            refine q_iconst hC dX3_nearest_13 (v := 1) (by decide) rfl ?_
            refine q_iload_n hC 3 dX3_nearest_14 rfl rfl ?_
            refine q_ishl hC dX3_nearest_15 rfl ?_
            refine q_istore hC dX3_nearest_16 (by decide) (ls' := [(0, _), (1, _), (2, _), (3, _), (4, _)]) rfl rfl ?_
            refine q_iload_n hC 1 dX3_nearest_18 rfl rfl ?_
            refine q_iload hC 4 dX3_nearest_19 rfl rfl ?_
            refine q_iand hC dX3_nearest_21 rfl ?_
            refine q_if_eq hC dX3_nearest_22 (t := 41) (n := 25) (by decide) rfl (fun h22_17 => ?_) (fun h22_17 => ?_)
            · refine q_iinc hC 3 dX3_nearest_41 rfl (v := 5) (by decide) (by decide) (ls' := [(0, _), (1, _), (2, _), (3, _), (4, _)]) rfl rfl ?_
              refine q_goto hC dX3_nearest_44 (n := 4) (by decide) ?_
              refine q_iload_n hC 3 dX3_nearest_4 rfl rfl ?_
              refine q_iconst hC dX3_nearest_5 (v := 5) (by decide) rfl ?_
              refine q_icmp_ge hC dX3_nearest_6 (t := 47) (n := 9) (by decide) rfl (fun _ => ?_) (fun h => absurd (by decide) h)
              refine q_iload_n hC 2 dX3_nearest_47 rfl rfl ?_
              refine q_iret hC dX3_nearest_48 rfl ⟨by decide, by decide⟩ ⟨_, rfl, ?_⟩
              exact ⟨by simp only [z_near, z_nst, if_true, if_false, *], rfl⟩
            · refine q_iload_n hC 2 dX3_nearest_25 rfl rfl ?_
              refine q_aload_n hC 0 dX3_nearest_26 rfl rfl ?_
              refine q_get_f hC f_X3_9 dX3_nearest_27 rfl rfl hi rfl ?_
              refine q_iload_n hC 3 dX3_nearest_30 rfl rfl ?_
              refine q_iald hC dX3_nearest_31 rfl hi (q_inl (by decide)) rfl ?_
              refine q_iload hC 4 dX3_nearest_32 rfl rfl ?_
              refine q_iconst hC dX3_nearest_34 (v := (-1)) (by decide) rfl ?_
              refine q_ixor hC dX3_nearest_35 rfl ?_
              refine q_iand hC dX3_nearest_36 rfl ?_
              refine q_iconst hC dX3_nearest_37 (v := (-1)) (by decide) rfl ?_
              refine q_ixor hC dX3_nearest_38 rfl ?_
              refine q_iand hC dX3_nearest_39 rfl ?_
              refine q_istore_n hC dX3_nearest_40 (by decide) (ls' := [(0, _), (1, _), (2, _), (3, _), (4, _)]) rfl rfl ?_
              refine q_iinc hC 3 dX3_nearest_41 rfl (v := 5) (by decide) (by decide) (ls' := [(0, _), (1, _), (2, _), (3, _), (4, _)]) rfl rfl ?_
              refine q_goto hC dX3_nearest_44 (n := 4) (by decide) ?_
              refine q_iload_n hC 3 dX3_nearest_4 rfl rfl ?_
              refine q_iconst hC dX3_nearest_5 (v := 5) (by decide) rfl ?_
              refine q_icmp_ge hC dX3_nearest_6 (t := 47) (n := 9) (by decide) rfl (fun _ => ?_) (fun h => absurd (by decide) h)
              refine q_iload_n hC 2 dX3_nearest_47 rfl rfl ?_
              refine q_iret hC dX3_nearest_48 rfl ⟨by decide, by decide⟩ ⟨_, rfl, ?_⟩
              exact ⟨by simp only [z_near, z_nst, if_true, if_false, *], rfl⟩
    · refine q_iload_n hC 2 dX3_nearest_25 rfl rfl ?_
      refine q_aload_n hC 0 dX3_nearest_26 rfl rfl ?_
      refine q_get_f hC f_X3_9 dX3_nearest_27 rfl rfl hi rfl ?_
      refine q_iload_n hC 3 dX3_nearest_30 rfl rfl ?_
      refine q_iald hC dX3_nearest_31 rfl hi (q_inl (by decide)) rfl ?_
      refine q_iload hC 4 dX3_nearest_32 rfl rfl ?_
      refine q_iconst hC dX3_nearest_34 (v := (-1)) (by decide) rfl ?_
      refine q_ixor hC dX3_nearest_35 rfl ?_
      refine q_iand hC dX3_nearest_36 rfl ?_
      refine q_iconst hC dX3_nearest_37 (v := (-1)) (by decide) rfl ?_
      refine q_ixor hC dX3_nearest_38 rfl ?_
      refine q_iand hC dX3_nearest_39 rfl ?_
      refine q_istore_n hC dX3_nearest_40 (by decide) (ls' := [(0, _), (1, _), (2, _), (3, _), (4, _)]) rfl rfl ?_
      refine q_iinc hC 3 dX3_nearest_41 rfl (v := 1) (by decide) (by decide) (ls' := [(0, _), (1, _), (2, _), (3, _), (4, _)]) rfl rfl ?_
      refine q_goto hC dX3_nearest_44 (n := 4) (by decide) ?_
      refine q_iload_n hC 3 dX3_nearest_4 rfl rfl ?_
      refine q_iconst hC dX3_nearest_5 (v := 5) (by decide) rfl ?_
      refine q_icmp_ge hC dX3_nearest_6 (t := 47) (n := 9) (by decide) rfl (fun h => absurd h (by decide)) (fun _ => ?_)
      refine q_iload_n hC 1 dX3_nearest_9 rfl rfl ?_
      refine q_if_eq hC dX3_nearest_10 (t := 47) (n := 13) (by decide) rfl (fun h => (by first | exact absurd h h10_1 | exact absurd h10_1 h)) (fun _ => ?_)
      refine q_iconst hC dX3_nearest_13 (v := 1) (by decide) rfl ?_
      refine q_iload_n hC 3 dX3_nearest_14 rfl rfl ?_
      refine q_ishl hC dX3_nearest_15 rfl ?_
      refine q_istore hC dX3_nearest_16 (by decide) (ls' := [(0, _), (1, _), (2, _), (3, _), (4, _)]) rfl rfl ?_
      refine q_iload_n hC 1 dX3_nearest_18 rfl rfl ?_
      refine q_iload hC 4 dX3_nearest_19 rfl rfl ?_
      refine q_iand hC dX3_nearest_21 rfl ?_
      refine q_if_eq hC dX3_nearest_22 (t := 41) (n := 25) (by decide) rfl (fun h22_18 => ?_) (fun h22_18 => ?_)
      · refine q_iinc hC 3 dX3_nearest_41 rfl (v := 2) (by decide) (by decide) (ls' := [(0, _), (1, _), (2, _), (3, _), (4, _)]) rfl rfl ?_
        refine q_goto hC dX3_nearest_44 (n := 4) (by decide) ?_
        refine q_iload_n hC 3 dX3_nearest_4 rfl rfl ?_
        refine q_iconst hC dX3_nearest_5 (v := 5) (by decide) rfl ?_
        refine q_icmp_ge hC dX3_nearest_6 (t := 47) (n := 9) (by decide) rfl (fun h => absurd h (by decide)) (fun _ => ?_)
        refine q_iload_n hC 1 dX3_nearest_9 rfl rfl ?_
        refine q_if_eq hC dX3_nearest_10 (t := 47) (n := 13) (by decide) rfl (fun h => (by first | exact absurd h h10_1 | exact absurd h10_1 h)) (fun _ => ?_)
        refine q_iconst hC dX3_nearest_13 (v := 1) (by decide) rfl ?_
        refine q_iload_n hC 3 dX3_nearest_14 rfl rfl ?_
        refine q_ishl hC dX3_nearest_15 rfl ?_
        refine q_istore hC dX3_nearest_16 (by decide) (ls' := [(0, _), (1, _), (2, _), (3, _), (4, _)]) rfl rfl ?_
        refine q_iload_n hC 1 dX3_nearest_18 rfl rfl ?_
        refine q_iload hC 4 dX3_nearest_19 rfl rfl ?_
        refine q_iand hC dX3_nearest_21 rfl ?_
        refine q_if_eq hC dX3_nearest_22 (t := 41) (n := 25) (by decide) rfl (fun h22_19 => ?_) (fun h22_19 => ?_)
        · refine q_iinc hC 3 dX3_nearest_41 rfl (v := 3) (by decide) (by decide) (ls' := [(0, _), (1, _), (2, _), (3, _), (4, _)]) rfl rfl ?_
          refine q_goto hC dX3_nearest_44 (n := 4) (by decide) ?_
          refine q_iload_n hC 3 dX3_nearest_4 rfl rfl ?_
          refine q_iconst hC dX3_nearest_5 (v := 5) (by decide) rfl ?_
          refine q_icmp_ge hC dX3_nearest_6 (t := 47) (n := 9) (by decide) rfl (fun h => absurd h (by decide)) (fun _ => ?_)
          refine q_iload_n hC 1 dX3_nearest_9 rfl rfl ?_
          refine q_if_eq hC dX3_nearest_10 (t := 47) (n := 13) (by decide) rfl (fun h => (by first | exact absurd h h10_1 | exact absurd h10_1 h)) (fun _ => ?_)
          refine q_iconst hC dX3_nearest_13 (v := 1) (by decide) rfl ?_
          refine q_iload_n hC 3 dX3_nearest_14 rfl rfl ?_
          refine q_ishl hC dX3_nearest_15 rfl ?_
          refine q_istore hC dX3_nearest_16 (by decide) (ls' := [(0, _), (1, _), (2, _), (3, _), (4, _)]) rfl rfl ?_
          refine q_iload_n hC 1 dX3_nearest_18 rfl rfl ?_
          refine q_iload hC 4 dX3_nearest_19 rfl rfl ?_
          refine q_iand hC dX3_nearest_21 rfl ?_
          refine q_if_eq hC dX3_nearest_22 (t := 41) (n := 25) (by decide) rfl (fun h22_20 => ?_) (fun h22_20 => ?_)
          · refine q_iinc hC 3 dX3_nearest_41 rfl (v := 4) (by decide) (by decide) (ls' := [(0, _), (1, _), (2, _), (3, _), (4, _)]) rfl rfl ?_
            refine q_goto hC dX3_nearest_44 (n := 4) (by decide) ?_
            refine q_iload_n hC 3 dX3_nearest_4 rfl rfl ?_
            refine q_iconst hC dX3_nearest_5 (v := 5) (by decide) rfl ?_
            refine q_icmp_ge hC dX3_nearest_6 (t := 47) (n := 9) (by decide) rfl (fun h => absurd h (by decide)) (fun _ => ?_)
            refine q_iload_n hC 1 dX3_nearest_9 rfl rfl ?_
            refine q_if_eq hC dX3_nearest_10 (t := 47) (n := 13) (by decide) rfl (fun h => (by first | exact absurd h h10_1 | exact absurd h10_1 h)) (fun _ => ?_)
            refine q_iconst hC dX3_nearest_13 (v := 1) (by decide) rfl ?_
            refine q_iload_n hC 3 dX3_nearest_14 rfl rfl ?_
            refine q_ishl hC dX3_nearest_15 rfl ?_
            refine q_istore hC dX3_nearest_16 (by decide) (ls' := [(0, _), (1, _), (2, _), (3, _), (4, _)]) rfl rfl ?_
            refine q_iload_n hC 1 dX3_nearest_18 rfl rfl ?_
            refine q_iload hC 4 dX3_nearest_19 rfl rfl ?_
            refine q_iand hC dX3_nearest_21 rfl ?_
            refine q_if_eq hC dX3_nearest_22 (t := 41) (n := 25) (by decide) rfl (fun h22_21 => ?_) (fun h22_21 => ?_)
            · refine q_iinc hC 3 dX3_nearest_41 rfl (v := 5) (by decide) (by decide) (ls' := [(0, _), (1, _), (2, _), (3, _), (4, _)]) rfl rfl ?_
              refine q_goto hC dX3_nearest_44 (n := 4) (by decide) ?_
              refine q_iload_n hC 3 dX3_nearest_4 rfl rfl ?_
              refine q_iconst hC dX3_nearest_5 (v := 5) (by decide) rfl ?_
              refine q_icmp_ge hC dX3_nearest_6 (t := 47) (n := 9) (by decide) rfl (fun _ => ?_) (fun h => absurd (by decide) h)
              refine q_iload_n hC 2 dX3_nearest_47 rfl rfl ?_
              refine q_iret hC dX3_nearest_48 rfl ⟨by decide, by decide⟩ ⟨_, rfl, ?_⟩
              exact ⟨by simp only [z_near, z_nst, if_true, if_false, *], rfl⟩
            · refine q_iload_n hC 2 dX3_nearest_25 rfl rfl ?_
              refine q_aload_n hC 0 dX3_nearest_26 rfl rfl ?_
              refine q_get_f hC f_X3_9 dX3_nearest_27 rfl rfl hi rfl ?_
              refine q_iload_n hC 3 dX3_nearest_30 rfl rfl ?_
              refine q_iald hC dX3_nearest_31 rfl hi (q_inl (by decide)) rfl ?_
              refine q_iload hC 4 dX3_nearest_32 rfl rfl ?_
              refine q_iconst hC dX3_nearest_34 (v := (-1)) (by decide) rfl ?_
              refine q_ixor hC dX3_nearest_35 rfl ?_
              refine q_iand hC dX3_nearest_36 rfl ?_
              refine q_iconst hC dX3_nearest_37 (v := (-1)) (by decide) rfl ?_
              refine q_ixor hC dX3_nearest_38 rfl ?_
              refine q_iand hC dX3_nearest_39 rfl ?_
              refine q_istore_n hC dX3_nearest_40 (by decide) (ls' := [(0, _), (1, _), (2, _), (3, _), (4, _)]) rfl rfl ?_
              refine q_iinc hC 3 dX3_nearest_41 rfl (v := 5) (by decide) (by decide) (ls' := [(0, _), (1, _), (2, _), (3, _), (4, _)]) rfl rfl ?_
              refine q_goto hC dX3_nearest_44 (n := 4) (by decide) ?_
              refine q_iload_n hC 3 dX3_nearest_4 rfl rfl ?_
              refine q_iconst hC dX3_nearest_5 (v := 5) (by decide) rfl ?_
              refine q_icmp_ge hC dX3_nearest_6 (t := 47) (n := 9) (by decide) rfl (fun _ => ?_) (fun h => absurd (by decide) h)
              refine q_iload_n hC 2 dX3_nearest_47 rfl rfl ?_
              refine q_iret hC dX3_nearest_48 rfl ⟨by decide, by decide⟩ ⟨_, rfl, ?_⟩
              exact ⟨by simp only [z_near, z_nst, if_true, if_false, *], rfl⟩
          · refine q_iload_n hC 2 dX3_nearest_25 rfl rfl ?_
            refine q_aload_n hC 0 dX3_nearest_26 rfl rfl ?_
            refine q_get_f hC f_X3_9 dX3_nearest_27 rfl rfl hi rfl ?_
            refine q_iload_n hC 3 dX3_nearest_30 rfl rfl ?_
            refine q_iald hC dX3_nearest_31 rfl hi (q_inl (by decide)) rfl ?_
            refine q_iload hC 4 dX3_nearest_32 rfl rfl ?_
            refine q_iconst hC dX3_nearest_34 (v := (-1)) (by decide) rfl ?_
            refine q_ixor hC dX3_nearest_35 rfl ?_
            refine q_iand hC dX3_nearest_36 rfl ?_
            refine q_iconst hC dX3_nearest_37 (v := (-1)) (by decide) rfl ?_
            refine q_ixor hC dX3_nearest_38 rfl ?_
            refine q_iand hC dX3_nearest_39 rfl ?_
            refine q_istore_n hC dX3_nearest_40 (by decide) (ls' := [(0, _), (1, _), (2, _), (3, _), (4, _)]) rfl rfl ?_
            refine q_iinc hC 3 dX3_nearest_41 rfl (v := 4) (by decide) (by decide) (ls' := [(0, _), (1, _), (2, _), (3, _), (4, _)]) rfl rfl ?_
            refine q_goto hC dX3_nearest_44 (n := 4) (by decide) ?_
            refine q_iload_n hC 3 dX3_nearest_4 rfl rfl ?_
            refine q_iconst hC dX3_nearest_5 (v := 5) (by decide) rfl ?_
            refine q_icmp_ge hC dX3_nearest_6 (t := 47) (n := 9) (by decide) rfl (fun h => absurd h (by decide)) (fun _ => ?_)
            refine q_iload_n hC 1 dX3_nearest_9 rfl rfl ?_
            refine q_if_eq hC dX3_nearest_10 (t := 47) (n := 13) (by decide) rfl (fun h => (by first | exact absurd h h10_1 | exact absurd h10_1 h)) (fun _ => ?_)
            refine q_iconst hC dX3_nearest_13 (v := 1) (by decide) rfl ?_
            refine q_iload_n hC 3 dX3_nearest_14 rfl rfl ?_
            refine q_ishl hC dX3_nearest_15 rfl ?_
            refine q_istore hC dX3_nearest_16 (by decide) (ls' := [(0, _), (1, _), (2, _), (3, _), (4, _)]) rfl rfl ?_
            refine q_iload_n hC 1 dX3_nearest_18 rfl rfl ?_
            refine q_iload hC 4 dX3_nearest_19 rfl rfl ?_
            refine q_iand hC dX3_nearest_21 rfl ?_
            refine q_if_eq hC dX3_nearest_22 (t := 41) (n := 25) (by decide) rfl (fun h22_22 => ?_) (fun h22_22 => ?_)
            · refine q_iinc hC 3 dX3_nearest_41 rfl (v := 5) (by decide) (by decide) (ls' := [(0, _), (1, _), (2, _), (3, _), (4, _)]) rfl rfl ?_
              refine q_goto hC dX3_nearest_44 (n := 4) (by decide) ?_
              refine q_iload_n hC 3 dX3_nearest_4 rfl rfl ?_
              refine q_iconst hC dX3_nearest_5 (v := 5) (by decide) rfl ?_
              refine q_icmp_ge hC dX3_nearest_6 (t := 47) (n := 9) (by decide) rfl (fun _ => ?_) (fun h => absurd (by decide) h)
              refine q_iload_n hC 2 dX3_nearest_47 rfl rfl ?_
              refine q_iret hC dX3_nearest_48 rfl ⟨by decide, by decide⟩ ⟨_, rfl, ?_⟩
              exact ⟨by simp only [z_near, z_nst, if_true, if_false, *], rfl⟩
            · refine q_iload_n hC 2 dX3_nearest_25 rfl rfl ?_
              refine q_aload_n hC 0 dX3_nearest_26 rfl rfl ?_
              refine q_get_f hC f_X3_9 dX3_nearest_27 rfl rfl hi rfl ?_
              refine q_iload_n hC 3 dX3_nearest_30 rfl rfl ?_
              refine q_iald hC dX3_nearest_31 rfl hi (q_inl (by decide)) rfl ?_
              refine q_iload hC 4 dX3_nearest_32 rfl rfl ?_
              refine q_iconst hC dX3_nearest_34 (v := (-1)) (by decide) rfl ?_
              refine q_ixor hC dX3_nearest_35 rfl ?_
              refine q_iand hC dX3_nearest_36 rfl ?_
              refine q_iconst hC dX3_nearest_37 (v := (-1)) (by decide) rfl ?_
              refine q_ixor hC dX3_nearest_38 rfl ?_
              refine q_iand hC dX3_nearest_39 rfl ?_
              refine q_istore_n hC dX3_nearest_40 (by decide) (ls' := [(0, _), (1, _), (2, _), (3, _), (4, _)]) rfl rfl ?_
              refine q_iinc hC 3 dX3_nearest_41 rfl (v := 5) (by decide) (by decide) (ls' := [(0, _), (1, _), (2, _), (3, _), (4, _)]) rfl rfl ?_
              refine q_goto hC dX3_nearest_44 (n := 4) (by decide) ?_
              refine q_iload_n hC 3 dX3_nearest_4 rfl rfl ?_
              refine q_iconst hC dX3_nearest_5 (v := 5) (by decide) rfl ?_
              refine q_icmp_ge hC dX3_nearest_6 (t := 47) (n := 9) (by decide) rfl (fun _ => ?_) (fun h => absurd (by decide) h)
              refine q_iload_n hC 2 dX3_nearest_47 rfl rfl ?_
              refine q_iret hC dX3_nearest_48 rfl ⟨by decide, by decide⟩ ⟨_, rfl, ?_⟩
              exact ⟨by simp only [z_near, z_nst, if_true, if_false, *], rfl⟩
        · refine q_iload_n hC 2 dX3_nearest_25 rfl rfl ?_
          refine q_aload_n hC 0 dX3_nearest_26 rfl rfl ?_
          refine q_get_f hC f_X3_9 dX3_nearest_27 rfl rfl hi rfl ?_
          refine q_iload_n hC 3 dX3_nearest_30 rfl rfl ?_
          refine q_iald hC dX3_nearest_31 rfl hi (q_inl (by decide)) rfl ?_
          refine q_iload hC 4 dX3_nearest_32 rfl rfl ?_
          refine q_iconst hC dX3_nearest_34 (v := (-1)) (by decide) rfl ?_
          refine q_ixor hC dX3_nearest_35 rfl ?_
          refine q_iand hC dX3_nearest_36 rfl ?_
          refine q_iconst hC dX3_nearest_37 (v := (-1)) (by decide) rfl ?_
          refine q_ixor hC dX3_nearest_38 rfl ?_
          refine q_iand hC dX3_nearest_39 rfl ?_
          refine q_istore_n hC dX3_nearest_40 (by decide) (ls' := [(0, _), (1, _), (2, _), (3, _), (4, _)]) rfl rfl ?_
          refine q_iinc hC 3 dX3_nearest_41 rfl (v := 3) (by decide) (by decide) (ls' := [(0, _), (1, _), (2, _), (3, _), (4, _)]) rfl rfl ?_
          refine q_goto hC dX3_nearest_44 (n := 4) (by decide) ?_
          refine q_iload_n hC 3 dX3_nearest_4 rfl rfl ?_
          refine q_iconst hC dX3_nearest_5 (v := 5) (by decide) rfl ?_
          refine q_icmp_ge hC dX3_nearest_6 (t := 47) (n := 9) (by decide) rfl (fun h => absurd h (by decide)) (fun _ => ?_)
          refine q_iload_n hC 1 dX3_nearest_9 rfl rfl ?_
          refine q_if_eq hC dX3_nearest_10 (t := 47) (n := 13) (by decide) rfl (fun h => (by first | exact absurd h h10_1 | exact absurd h10_1 h)) (fun _ => ?_)
          refine q_iconst hC dX3_nearest_13 (v := 1) (by decide) rfl ?_
          refine q_iload_n hC 3 dX3_nearest_14 rfl rfl ?_
          refine q_ishl hC dX3_nearest_15 rfl ?_
          refine q_istore hC dX3_nearest_16 (by decide) (ls' := [(0, _), (1, _), (2, _), (3, _), (4, _)]) rfl rfl ?_
          refine q_iload_n hC 1 dX3_nearest_18 rfl rfl ?_
          refine q_iload hC 4 dX3_nearest_19 rfl rfl ?_
          refine q_iand hC dX3_nearest_21 rfl ?_
          refine q_if_eq hC dX3_nearest_22 (t := 41) (n := 25) (by decide) rfl (fun h22_23 => ?_) (fun h22_23 => ?_)
          · refine q_iinc hC 3 dX3_nearest_41 rfl (v := 4) (by decide) (by decide) (ls' := [(0, _), (1, _), (2, _), (3, _), (4, _)]) rfl rfl ?_
            refine q_goto hC dX3_nearest_44 (n := 4) (by decide) ?_
            refine q_iload_n hC 3 dX3_nearest_4 rfl rfl ?_
            refine q_iconst hC dX3_nearest_5 (v := 5) (by decide) rfl ?_
            refine q_icmp_ge hC dX3_nearest_6 (t := 47) (n := 9) (by decide) rfl (fun h => absurd h (by decide)) (fun _ => ?_)
            refine q_iload_n hC 1 dX3_nearest_9 rfl rfl ?_
            refine q_if_eq hC dX3_nearest_10 (t := 47) (n := 13) (by decide) rfl (fun h => (by first | exact absurd h h10_1 | exact absurd h10_1 h)) (fun _ => ?_)
            refine q_iconst hC dX3_nearest_13 (v := 1) (by decide) rfl ?_
            refine q_iload_n hC 3 dX3_nearest_14 rfl rfl ?_
            refine q_ishl hC dX3_nearest_15 rfl ?_
            refine q_istore hC dX3_nearest_16 (by decide) (ls' := [(0, _), (1, _), (2, _), (3, _), (4, _)]) rfl rfl ?_
            refine q_iload_n hC 1 dX3_nearest_18 rfl rfl ?_
            refine q_iload hC 4 dX3_nearest_19 rfl rfl ?_
            refine q_iand hC dX3_nearest_21 rfl ?_
            refine q_if_eq hC dX3_nearest_22 (t := 41) (n := 25) (by decide) rfl (fun h22_24 => ?_) (fun h22_24 => ?_)
            · refine q_iinc hC 3 dX3_nearest_41 rfl (v := 5) (by decide) (by decide) (ls' := [(0, _), (1, _), (2, _), (3, _), (4, _)]) rfl rfl ?_
              refine q_goto hC dX3_nearest_44 (n := 4) (by decide) ?_
              refine q_iload_n hC 3 dX3_nearest_4 rfl rfl ?_
              refine q_iconst hC dX3_nearest_5 (v := 5) (by decide) rfl ?_
              refine q_icmp_ge hC dX3_nearest_6 (t := 47) (n := 9) (by decide) rfl (fun _ => ?_) (fun h => absurd (by decide) h)
              refine q_iload_n hC 2 dX3_nearest_47 rfl rfl ?_
              refine q_iret hC dX3_nearest_48 rfl ⟨by decide, by decide⟩ ⟨_, rfl, ?_⟩
              exact ⟨by simp only [z_near, z_nst, if_true, if_false, *], rfl⟩
            · refine q_iload_n hC 2 dX3_nearest_25 rfl rfl ?_
              refine q_aload_n hC 0 dX3_nearest_26 rfl rfl ?_
              refine q_get_f hC f_X3_9 dX3_nearest_27 rfl rfl hi rfl ?_
              refine q_iload_n hC 3 dX3_nearest_30 rfl rfl ?_
              refine q_iald hC dX3_nearest_31 rfl hi (q_inl (by decide)) rfl ?_
              refine q_iload hC 4 dX3_nearest_32 rfl rfl ?_
              refine q_iconst hC dX3_nearest_34 (v := (-1)) (by decide) rfl ?_
              refine q_ixor hC dX3_nearest_35 rfl ?_
              refine q_iand hC dX3_nearest_36 rfl ?_
              refine q_iconst hC dX3_nearest_37 (v := (-1)) (by decide) rfl ?_
              refine q_ixor hC dX3_nearest_38 rfl ?_
              refine q_iand hC dX3_nearest_39 rfl ?_
              refine q_istore_n hC dX3_nearest_40 (by decide) (ls' := [(0, _), (1, _), (2, _), (3, _), (4, _)]) rfl rfl ?_
              refine q_iinc hC 3 dX3_nearest_41 rfl (v := 5) (by decide) (by decide) (ls' := [(0, _), (1, _), (2, _), (3, _), (4, _)]) rfl rfl ?_
              refine q_goto hC dX3_nearest_44 (n := 4) (by decide) ?_
              refine q_iload_n hC 3 dX3_nearest_4 rfl rfl ?_
              refine q_iconst hC dX3_nearest_5 (v := 5) (by decide) rfl ?_
              refine q_icmp_ge hC dX3_nearest_6 (t := 47) (n := 9) (by decide) rfl (fun _ => ?_) (fun h => absurd (by decide) h)
              refine q_iload_n hC 2 dX3_nearest_47 rfl rfl ?_
              refine q_iret hC dX3_nearest_48 rfl ⟨by decide, by decide⟩ ⟨_, rfl, ?_⟩
              exact ⟨by simp only [z_near, z_nst, if_true, if_false, *], rfl⟩
          · refine q_iload_n hC 2 dX3_nearest_25 rfl rfl ?_
            refine q_aload_n hC 0 dX3_nearest_26 rfl rfl ?_
            refine q_get_f hC f_X3_9 dX3_nearest_27 rfl rfl hi rfl ?_
            refine q_iload_n hC 3 dX3_nearest_30 rfl rfl ?_
            refine q_iald hC dX3_nearest_31 rfl hi (q_inl (by decide)) rfl ?_
            refine q_iload hC 4 dX3_nearest_32 rfl rfl ?_
            refine q_iconst hC dX3_nearest_34 (v := (-1)) (by decide) rfl ?_
            refine q_ixor hC dX3_nearest_35 rfl ?_
            refine q_iand hC dX3_nearest_36 rfl ?_
            refine q_iconst hC dX3_nearest_37 (v := (-1)) (by decide) rfl ?_
            refine q_ixor hC dX3_nearest_38 rfl ?_
            refine q_iand hC dX3_nearest_39 rfl ?_
            refine q_istore_n hC dX3_nearest_40 (by decide) (ls' := [(0, _), (1, _), (2, _), (3, _), (4, _)]) rfl rfl ?_
            refine q_iinc hC 3 dX3_nearest_41 rfl (v := 4) (by decide) (by decide) (ls' := [(0, _), (1, _), (2, _), (3, _), (4, _)]) rfl rfl ?_
            refine q_goto hC dX3_nearest_44 (n := 4) (by decide) ?_
            refine q_iload_n hC 3 dX3_nearest_4 rfl rfl ?_
            refine q_iconst hC dX3_nearest_5 (v := 5) (by decide) rfl ?_
            refine q_icmp_ge hC dX3_nearest_6 (t := 47) (n := 9) (by decide) rfl (fun h => absurd h (by decide)) (fun _ => ?_)
            refine q_iload_n hC 1 dX3_nearest_9 rfl rfl ?_
            refine q_if_eq hC dX3_nearest_10 (t := 47) (n := 13) (by decide) rfl (fun h => (by first | exact absurd h h10_1 | exact absurd h10_1 h)) (fun _ => ?_)
            refine q_iconst hC dX3_nearest_13 (v := 1) (by decide) rfl ?_
            refine q_iload_n hC 3 dX3_nearest_14 rfl rfl ?_
            refine q_ishl hC dX3_nearest_15 rfl ?_
            refine q_istore hC dX3_nearest_16 (by decide) (ls' := [(0, _), (1, _), (2, _), (3, _), (4, _)]) rfl rfl ?_
            refine q_iload_n hC 1 dX3_nearest_18 rfl rfl ?_
            refine q_iload hC 4 dX3_nearest_19 rfl rfl ?_
            refine q_iand hC dX3_nearest_21 rfl ?_
            refine q_if_eq hC dX3_nearest_22 (t := 41) (n := 25) (by decide) rfl (fun h22_25 => ?_) (fun h22_25 => ?_)
            · refine q_iinc hC 3 dX3_nearest_41 rfl (v := 5) (by decide) (by decide) (ls' := [(0, _), (1, _), (2, _), (3, _), (4, _)]) rfl rfl ?_
              refine q_goto hC dX3_nearest_44 (n := 4) (by decide) ?_
              refine q_iload_n hC 3 dX3_nearest_4 rfl rfl ?_
              refine q_iconst hC dX3_nearest_5 (v := 5) (by decide) rfl ?_
              refine q_icmp_ge hC dX3_nearest_6 (t := 47) (n := 9) (by decide) rfl (fun _ => ?_) (fun h => absurd (by decide) h)
              refine q_iload_n hC 2 dX3_nearest_47 rfl rfl ?_
              refine q_iret hC dX3_nearest_48 rfl ⟨by decide, by decide⟩ ⟨_, rfl, ?_⟩
              exact ⟨by simp only [z_near, z_nst, if_true, if_false, *], rfl⟩
            · refine q_iload_n hC 2 dX3_nearest_25 rfl rfl ?_
              refine q_aload_n hC 0 dX3_nearest_26 rfl rfl ?_
              refine q_get_f hC f_X3_9 dX3_nearest_27 rfl rfl hi rfl ?_
              refine q_iload_n hC 3 dX3_nearest_30 rfl rfl ?_
              refine q_iald hC dX3_nearest_31 rfl hi (q_inl (by decide)) rfl ?_
              refine q_iload hC 4 dX3_nearest_32 rfl rfl ?_
              refine q_iconst hC dX3_nearest_34 (v := (-1)) (by decide) rfl ?_
              refine q_ixor hC dX3_nearest_35 rfl ?_
              refine q_iand hC dX3_nearest_36 rfl ?_
              refine q_iconst hC dX3_nearest_37 (v := (-1)) (by decide) rfl ?_
              refine q_ixor hC dX3_nearest_38 rfl ?_
              refine q_iand hC dX3_nearest_39 rfl ?_
              refine q_istore_n hC dX3_nearest_40 (by decide) (ls' := [(0, _), (1, _), (2, _), (3, _), (4, _)]) rfl rfl ?_
              refine q_iinc hC 3 dX3_nearest_41 rfl (v := 5) (by decide) (by decide) (ls' := [(0, _), (1, _), (2, _), (3, _), (4, _)]) rfl rfl ?_
              refine q_goto hC dX3_nearest_44 (n := 4) (by decide) ?_
              refine q_iload_n hC 3 dX3_nearest_4 rfl rfl ?_
              refine q_iconst hC dX3_nearest_5 (v := 5) (by decide) rfl ?_
              refine q_icmp_ge hC dX3_nearest_6 (t := 47) (n := 9) (by decide) rfl (fun _ => ?_) (fun h => absurd (by decide) h)
              refine q_iload_n hC 2 dX3_nearest_47 rfl rfl ?_
              refine q_iret hC dX3_nearest_48 rfl ⟨by decide, by decide⟩ ⟨_, rfl, ?_⟩
              exact ⟨by simp only [z_near, z_nst, if_true, if_false, *], rfl⟩
      · refine q_iload_n hC 2 dX3_nearest_25 rfl rfl ?_
        refine q_aload_n hC 0 dX3_nearest_26 rfl rfl ?_
        refine q_get_f hC f_X3_9 dX3_nearest_27 rfl rfl hi rfl ?_
        refine q_iload_n hC 3 dX3_nearest_30 rfl rfl ?_
        refine q_iald hC dX3_nearest_31 rfl hi (q_inl (by decide)) rfl ?_
        refine q_iload hC 4 dX3_nearest_32 rfl rfl ?_
        refine q_iconst hC dX3_nearest_34 (v := (-1)) (by decide) rfl ?_
        refine q_ixor hC dX3_nearest_35 rfl ?_
        refine q_iand hC dX3_nearest_36 rfl ?_
        refine q_iconst hC dX3_nearest_37 (v := (-1)) (by decide) rfl ?_
        refine q_ixor hC dX3_nearest_38 rfl ?_
        refine q_iand hC dX3_nearest_39 rfl ?_
        refine q_istore_n hC dX3_nearest_40 (by decide) (ls' := [(0, _), (1, _), (2, _), (3, _), (4, _)]) rfl rfl ?_
        refine q_iinc hC 3 dX3_nearest_41 rfl (v := 2) (by decide) (by decide) (ls' := [(0, _), (1, _), (2, _), (3, _), (4, _)]) rfl rfl ?_
        refine q_goto hC dX3_nearest_44 (n := 4) (by decide) ?_
        refine q_iload_n hC 3 dX3_nearest_4 rfl rfl ?_
        refine q_iconst hC dX3_nearest_5 (v := 5) (by decide) rfl ?_
        refine q_icmp_ge hC dX3_nearest_6 (t := 47) (n := 9) (by decide) rfl (fun h => absurd h (by decide)) (fun _ => ?_)
        refine q_iload_n hC 1 dX3_nearest_9 rfl rfl ?_
        refine q_if_eq hC dX3_nearest_10 (t := 47) (n := 13) (by decide) rfl (fun h => (by first | exact absurd h h10_1 | exact absurd h10_1 h)) (fun _ => ?_)
        refine q_iconst hC dX3_nearest_13 (v := 1) (by decide) rfl ?_
        refine q_iload_n hC 3 dX3_nearest_14 rfl rfl ?_
        refine q_ishl hC dX3_nearest_15 rfl ?_
        refine q_istore hC dX3_nearest_16 (by decide) (ls' := [(0, _), (1, _), (2, _), (3, _), (4, _)]) rfl rfl ?_
        refine q_iload_n hC 1 dX3_nearest_18 rfl rfl ?_
        refine q_iload hC 4 dX3_nearest_19 rfl rfl ?_
        refine q_iand hC dX3_nearest_21 rfl ?_
        refine q_if_eq hC dX3_nearest_22 (t := 41) (n := 25) (by decide) rfl (fun h22_26 => ?_) (fun h22_26 => ?_)
        · refine q_iinc hC 3 dX3_nearest_41 rfl (v := 3) (by decide) (by decide) (ls' := [(0, _), (1, _), (2, _), (3, _), (4, _)]) rfl rfl ?_
          refine q_goto hC dX3_nearest_44 (n := 4) (by decide) ?_
          refine q_iload_n hC 3 dX3_nearest_4 rfl rfl ?_
          refine q_iconst hC dX3_nearest_5 (v := 5) (by decide) rfl ?_
          refine q_icmp_ge hC dX3_nearest_6 (t := 47) (n := 9) (by decide) rfl (fun h => absurd h (by decide)) (fun _ => ?_)
          refine q_iload_n hC 1 dX3_nearest_9 rfl rfl ?_
          refine q_if_eq hC dX3_nearest_10 (t := 47) (n := 13) (by decide) rfl (fun h => (by first | exact absurd h h10_1 | exact absurd h10_1 h)) (fun _ => ?_)
          refine q_iconst hC dX3_nearest_13 (v := 1) (by decide) rfl ?_
          refine q_iload_n hC 3 dX3_nearest_14 rfl rfl ?_
          refine q_ishl hC dX3_nearest_15 rfl ?_
          refine q_istore hC dX3_nearest_16 (by decide) (ls' := [(0, _), (1, _), (2, _), (3, _), (4, _)]) rfl rfl ?_
          refine q_iload_n hC 1 dX3_nearest_18 rfl rfl ?_
          refine q_iload hC 4 dX3_nearest_19 rfl rfl ?_
          refine q_iand hC dX3_nearest_21 rfl ?_
          refine q_if_eq hC dX3_nearest_22 (t := 41) (n := 25) (by decide) rfl (fun h22_27 => ?_) (fun h22_27 => ?_)
          · refine q_iinc hC 3 dX3_nearest_41 rfl (v := 4) (by decide) (by decide) (ls' := [(0, _), (1, _), (2, _), (3, _), (4, _)]) rfl rfl ?_
            refine q_goto hC dX3_nearest_44 (n := 4) (by decide) ?_
            refine q_iload_n hC 3 dX3_nearest_4 rfl rfl ?_
            refine q_iconst hC dX3_nearest_5 (v := 5) (by decide) rfl ?_
            refine q_icmp_ge hC dX3_nearest_6 (t := 47) (n := 9) (by decide) rfl (fun h => absurd h (by decide)) (fun _ => ?_)
            refine q_iload_n hC 1 dX3_nearest_9 rfl rfl ?_
            refine q_if_eq hC dX3_nearest_10 (t := 47) (n := 13) (by decide) rfl (fun h => (by first | exact absurd h h10_1 | exact absurd h10_1 h)) (fun _ => ?_)
            refine q_iconst hC dX3_nearest_13 (v := 1) (by decide) rfl ?_
            refine q_iload_n hC 3 dX3_nearest_14 rfl rfl ?_
            refine q_ishl hC dX3_nearest_15 rfl ?_
            refine q_istore hC dX3_nearest_16 (by decide) (ls' := [(0, _), (1, _), (2, _), (3, _), (4, _)]) rfl rfl ?_
            refine q_iload_n hC 1 dX3_nearest_18 rfl rfl ?_
            refine q_iload hC 4 dX3_nearest_19 rfl rfl ?_
            refine q_iand hC dX3_nearest_21 rfl ?_
            refine q_if_eq hC dX3_nearest_22 (t := 41) (n := 25) (by decide) rfl (fun h22_28 => ?_) (fun h22_28 => ?_)
            · refine q_iinc hC 3 dX3_nearest_41 rfl (v := 5) (by decide) (by decide) (ls' := [(0, _), (1, _), (2, _), (3, _), (4, _)]) rfl rfl ?_
              refine q_goto hC dX3_nearest_44 (n := 4) (by decide) ?_
              refine q_iload_n hC 3 dX3_nearest_4 rfl rfl ?_
              refine q_iconst hC dX3_nearest_5 (v := 5) (by decide) rfl ?_
              refine q_icmp_ge hC dX3_nearest_6 (t := 47) (n := 9) (by decide) rfl (fun _ => ?_) (fun h => absurd (by decide) h)
              refine q_iload_n hC 2 dX3_nearest_47 rfl rfl ?_
              refine q_iret hC dX3_nearest_48 rfl ⟨by decide, by decide⟩ ⟨_, rfl, ?_⟩
              exact ⟨by simp only [z_near, z_nst, if_true, if_false, *], rfl⟩
            · refine q_iload_n hC 2 dX3_nearest_25 rfl rfl ?_
              refine q_aload_n hC 0 dX3_nearest_26 rfl rfl ?_
              refine q_get_f hC f_X3_9 dX3_nearest_27 rfl rfl hi rfl ?_
              refine q_iload_n hC 3 dX3_nearest_30 rfl rfl ?_
              refine q_iald hC dX3_nearest_31 rfl hi (q_inl (by decide)) rfl ?_
              refine q_iload hC 4 dX3_nearest_32 rfl rfl ?_
              refine q_iconst hC dX3_nearest_34 (v := (-1)) (by decide) rfl ?_
              refine q_ixor hC dX3_nearest_35 rfl ?_
              refine q_iand hC dX3_nearest_36 rfl ?_
              refine q_iconst hC dX3_nearest_37 (v := (-1)) (by decide) rfl ?_
              refine q_ixor hC dX3_nearest_38 rfl ?_
              refine q_iand hC dX3_nearest_39 rfl ?_
              refine q_istore_n hC dX3_nearest_40 (by decide) (ls' := [(0, _), (1, _), (2, _), (3, _), (4, _)]) rfl rfl ?_
              refine q_iinc hC 3 dX3_nearest_41 rfl (v := 5) (by decide) (by decide) (ls' := [(0, _), (1, _), (2, _), (3, _), (4, _)]) rfl rfl ?_
              refine q_goto hC dX3_nearest_44 (n := 4) (by decide) ?_
              refine q_iload_n hC 3 dX3_nearest_4 rfl rfl ?_
              refine q_iconst hC dX3_nearest_5 (v := 5) (by decide) rfl ?_
              refine q_icmp_ge hC dX3_nearest_6 (t := 47) (n := 9) (by decide) rfl (fun _ => ?_) (fun h => absurd (by decide) h)
              refine q_iload_n hC 2 dX3_nearest_47 rfl rfl ?_
              refine q_iret hC dX3_nearest_48 rfl ⟨by decide, by decide⟩ ⟨_, rfl, ?_⟩
              exact ⟨by simp only [z_near, z_nst, if_true, if_false, *], rfl⟩
          · refine q_iload_n hC 2 dX3_nearest_25 rfl rfl ?_
            refine q_aload_n hC 0 dX3_nearest_26 rfl rfl ?_
            refine q_get_f hC f_X3_9 dX3_nearest_27 rfl rfl hi rfl ?_
            refine q_iload_n hC 3 dX3_nearest_30 rfl rfl ?_
            refine q_iald hC dX3_nearest_31 rfl hi (q_inl (by decide)) rfl ?_
            refine q_iload hC 4 dX3_nearest_32 rfl rfl ?_
            refine q_iconst hC dX3_nearest_34 (v := (-1)) (by decide) rfl ?_
            refine q_ixor hC dX3_nearest_35 rfl ?_
            refine q_iand hC dX3_nearest_36 rfl ?_
            refine q_iconst hC dX3_nearest_37 (v := (-1)) (by decide) rfl ?_
            refine q_ixor hC dX3_nearest_38 rfl ?_
            refine q_iand hC dX3_nearest_39 rfl ?_
            refine q_istore_n hC dX3_nearest_40 (by decide) (ls' := [(0, _), (1, _), (2, _), (3, _), (4, _)]) rfl rfl ?_
            refine q_iinc hC 3 dX3_nearest_41 rfl (v := 4) (by decide) (by decide) (ls' := [(0, _), (1, _), (2, _), (3, _), (4, _)]) rfl rfl ?_
            refine q_goto hC dX3_nearest_44 (n := 4) (by decide) ?_
            refine q_iload_n hC 3 dX3_nearest_4 rfl rfl ?_
            refine q_iconst hC dX3_nearest_5 (v := 5) (by decide) rfl ?_
            refine q_icmp_ge hC dX3_nearest_6 (t := 47) (n := 9) (by decide) rfl (fun h => absurd h (by decide)) (fun _ => ?_)
            refine q_iload_n hC 1 dX3_nearest_9 rfl rfl ?_
            refine q_if_eq hC dX3_nearest_10 (t := 47) (n := 13) (by decide) rfl (fun h => (by first | exact absurd h h10_1 | exact absurd h10_1 h)) (fun _ => ?_)
            refine q_iconst hC dX3_nearest_13 (v := 1) (by decide) rfl ?_
            refine q_iload_n hC 3 dX3_nearest_14 rfl rfl ?_
            refine q_ishl hC dX3_nearest_15 rfl ?_
            refine q_istore hC dX3_nearest_16 (by decide) (ls' := [(0, _), (1, _), (2, _), (3, _), (4, _)]) rfl rfl ?_
            refine q_iload_n hC 1 dX3_nearest_18 rfl rfl ?_
            refine q_iload hC 4 dX3_nearest_19 rfl rfl ?_
            refine q_iand hC dX3_nearest_21 rfl ?_
            refine q_if_eq hC dX3_nearest_22 (t := 41) (n := 25) (by decide) rfl (fun h22_29 => ?_) (fun h22_29 => ?_)
            · refine q_iinc hC 3 dX3_nearest_41 rfl (v := 5) (by decide) (by decide) (ls' := [(0, _), (1, _), (2, _), (3, _), (4, _)]) rfl rfl ?_
              refine q_goto hC dX3_nearest_44 (n := 4) (by decide) ?_
              refine q_iload_n hC 3 dX3_nearest_4 rfl rfl ?_
              refine q_iconst hC dX3_nearest_5 (v := 5) (by decide) rfl ?_
              refine q_icmp_ge hC dX3_nearest_6 (t := 47) (n := 9) (by decide) rfl (fun _ => ?_) (fun h => absurd (by decide) h)
              refine q_iload_n hC 2 dX3_nearest_47 rfl rfl ?_
              refine q_iret hC dX3_nearest_48 rfl ⟨by decide, by decide⟩ ⟨_, rfl, ?_⟩
              exact ⟨by simp only [z_near, z_nst, if_true, if_false, *], rfl⟩
            · refine q_iload_n hC 2 dX3_nearest_25 rfl rfl ?_
              refine q_aload_n hC 0 dX3_nearest_26 rfl rfl ?_
              refine q_get_f hC f_X3_9 dX3_nearest_27 rfl rfl hi rfl ?_
              refine q_iload_n hC 3 dX3_nearest_30 rfl rfl ?_
              refine q_iald hC dX3_nearest_31 rfl hi (q_inl (by decide)) rfl ?_
              refine q_iload hC 4 dX3_nearest_32 rfl rfl ?_
              refine q_iconst hC dX3_nearest_34 (v := (-1)) (by decide) rfl ?_
              refine q_ixor hC dX3_nearest_35 rfl ?_
              refine q_iand hC dX3_nearest_36 rfl ?_
              refine q_iconst hC dX3_nearest_37 (v := (-1)) (by decide) rfl ?_
              refine q_ixor hC dX3_nearest_38 rfl ?_
              refine q_iand hC dX3_nearest_39 rfl ?_
              refine q_istore_n hC dX3_nearest_40 (by decide) (ls' := [(0, _), (1, _), (2, _), (3, _), (4, _)]) rfl rfl ?_
              refine q_iinc hC 3 dX3_nearest_41 rfl (v := 5) (by decide) (by decide) (ls' := [(0, _), (1, _), (2, _), (3, _), (4, _)]) rfl rfl ?_
              refine q_goto hC dX3_nearest_44 (n := 4) (by decide) ?_
              refine q_iload_n hC 3 dX3_nearest_4 rfl rfl ?_
              refine q_iconst hC dX3_nearest_5 (v := 5) (by decide) rfl ?_
              refine q_icmp_ge hC dX3_nearest_6 (t := 47) (n := 9) (by decide) rfl (fun _ => ?_) (fun h => absurd (by decide) h)
              refine q_iload_n hC 2 dX3_nearest_47 rfl rfl ?_
              refine q_iret hC dX3_nearest_48 rfl ⟨by decide, by decide⟩ ⟨_, rfl, ?_⟩
              exact ⟨by simp only [z_near, z_nst, if_true, if_false, *], rfl⟩
        · refine q_iload_n hC 2 dX3_nearest_25 rfl rfl ?_
          refine q_aload_n hC 0 dX3_nearest_26 rfl rfl ?_
          refine q_get_f hC f_X3_9 dX3_nearest_27 rfl rfl hi rfl ?_
          refine q_iload_n hC 3 dX3_nearest_30 rfl rfl ?_
          refine q_iald hC dX3_nearest_31 rfl hi (q_inl (by decide)) rfl ?_
          refine q_iload hC 4 dX3_nearest_32 rfl rfl ?_
          refine q_iconst hC dX3_nearest_34 (v := (-1)) (by decide) rfl ?_
          refine q_ixor hC dX3_nearest_35 rfl ?_
          refine q_iand hC dX3_nearest_36 rfl ?_
          refine q_iconst hC dX3_nearest_37 (v := (-1)) (by decide) rfl ?_
          refine q_ixor hC dX3_nearest_38 rfl ?_
          refine q_iand hC dX3_nearest_39 rfl ?_
          refine q_istore_n hC dX3_nearest_40 (by decide) (ls' := [(0, _), (1, _), (2, _), (3, _), (4, _)]) rfl rfl ?_
          refine q_iinc hC 3 dX3_nearest_41 rfl (v := 3) (by decide) (by decide) (ls' := [(0, _), (1, _), (2, _), (3, _), (4, _)]) rfl rfl ?_
          refine q_goto hC dX3_nearest_44 (n := 4) (by decide) ?_
          refine q_iload_n hC 3 dX3_nearest_4 rfl rfl ?_
          refine q_iconst hC dX3_nearest_5 (v := 5) (by decide) rfl ?_
          refine q_icmp_ge hC dX3_nearest_6 (t := 47) (n := 9) (by decide) rfl (fun h => absurd h (by decide)) (fun _ => ?_)
          refine q_iload_n hC 1 dX3_nearest_9 rfl rfl ?_
          refine q_if_eq hC dX3_nearest_10 (t := 47) (n := 13) (by decide) rfl (fun h => (by first | exact absurd h h10_1 | exact absurd h10_1 h)) (fun _ => ?_)
          refine q_iconst hC dX3_nearest_13 (v := 1) (by decide) rfl ?_
          refine q_iload_n hC 3 dX3_nearest_14 rfl rfl ?_
          refine q_ishl hC dX3_nearest_15 rfl ?_
          refine q_istore hC dX3_nearest_16 (by decide) (ls' := [(0, _), (1, _), (2, _), (3, _), (4, _)]) rfl rfl ?_
          refine q_iload_n hC 1 dX3_nearest_18 rfl rfl ?_
          refine q_iload hC 4 dX3_nearest_19 rfl rfl ?_
          refine q_iand hC dX3_nearest_21 rfl ?_
          refine q_if_eq hC dX3_nearest_22 (t := 41) (n := 25) (by decide) rfl (fun h22_30 => ?_) (fun h22_30 => ?_)
          · refine q_iinc hC 3 dX3_nearest_41 rfl (v := 4) (by decide) (by decide) (ls' := [(0, _), (1, _), (2, _), (3, _), (4, _)]) rfl rfl ?_
            refine q_goto hC dX3_nearest_44 (n := 4) (by decide) ?_
            refine q_iload_n hC 3 dX3_nearest_4 rfl rfl ?_
            refine q_iconst hC dX3_nearest_5 (v := 5) (by decide) rfl ?_
            refine q_icmp_ge hC dX3_nearest_6 (t := 47) (n := 9) (by decide) rfl (fun h => absurd h (by decide)) (fun _ => ?_)
            refine q_iload_n hC 1 dX3_nearest_9 rfl rfl ?_
            refine q_if_eq hC dX3_nearest_10 (t := 47) (n := 13) (by decide) rfl (fun h => (by first | exact absurd h h10_1 | exact absurd h10_1 h)) (fun _ => ?_)
            refine q_iconst hC dX3_nearest_13 (v := 1) (by decide) rfl ?_
            refine q_iload_n hC 3 dX3_nearest_14 rfl rfl ?_
            refine q_ishl hC dX3_nearest_15 rfl ?_
            refine q_istore hC dX3_nearest_16 (by decide) (ls' := [(0, _), (1, _), (2, _), (3, _), (4, _)]) rfl rfl ?_
            refine q_iload_n hC 1 dX3_nearest_18 rfl rfl ?_
            refine q_iload hC 4 dX3_nearest_19 rfl rfl ?_
            refine q_iand hC dX3_nearest_21 rfl ?_
            refine q_if_eq hC dX3_nearest_22 (t := 41) (n := 25) (by decide) rfl (fun h22_31 => ?_) (fun h22_31 => ?_)
            · refine q_iinc hC 3 dX3_nearest_41 rfl (v := 5) (by decide) (by decide) (ls' := [(0, _), (1, _), (2, _), (3, _), (4, _)]) rfl rfl ?_
              refine q_goto hC dX3_nearest_44 (n := 4) (by decide) ?_
              refine q_iload_n hC 3 dX3_nearest_4 rfl rfl ?_
              refine q_iconst hC dX3_nearest_5 (v := 5) (by decide) rfl ?_
              refine q_icmp_ge hC dX3_nearest_6 (t := 47) (n := 9) (by decide) rfl (fun _ => ?_) (fun h => absurd (by decide) h)
              refine q_iload_n hC 2 dX3_nearest_47 rfl rfl ?_
              refine q_iret hC dX3_nearest_48 rfl ⟨by decide, by decide⟩ ⟨_, rfl, ?_⟩
              exact ⟨by simp only [z_near, z_nst, if_true, if_false, *], rfl⟩
            · refine q_iload_n hC 2 dX3_nearest_25 rfl rfl ?_
              refine q_aload_n hC 0 dX3_nearest_26 rfl rfl ?_
              refine q_get_f hC f_X3_9 dX3_nearest_27 rfl rfl hi rfl ?_
              refine q_iload_n hC 3 dX3_nearest_30 rfl rfl ?_
              refine q_iald hC dX3_nearest_31 rfl hi (q_inl (by decide)) rfl ?_
              refine q_iload hC 4 dX3_nearest_32 rfl rfl ?_
              refine q_iconst hC dX3_nearest_34 (v := (-1)) (by decide) rfl ?_
              refine q_ixor hC dX3_nearest_35 rfl ?_
              refine q_iand hC dX3_nearest_36 rfl ?_
              refine q_iconst hC dX3_nearest_37 (v := (-1)) (by decide) rfl ?_
              refine q_ixor hC dX3_nearest_38 rfl ?_
              refine q_iand hC dX3_nearest_39 rfl ?_
              refine q_istore_n hC dX3_nearest_40 (by decide) (ls' := [(0, _), (1, _), (2, _), (3, _), (4, _)]) rfl rfl ?_
              refine q_iinc hC 3 dX3_nearest_41 rfl (v := 5) (by decide) (by decide) (ls' := [(0, _), (1, _), (2, _), (3, _), (4, _)]) rfl rfl ?_
              refine q_goto hC dX3_nearest_44 (n := 4) (by decide) ?_
              refine q_iload_n hC 3 dX3_nearest_4 rfl rfl ?_
              refine q_iconst hC dX3_nearest_5 (v := 5) (by decide) rfl ?_
              refine q_icmp_ge hC dX3_nearest_6 (t := 47) (n := 9) (by decide) rfl (fun _ => ?_) (fun h => absurd (by decide) h)
              refine q_iload_n hC 2 dX3_nearest_47 rfl rfl ?_
              refine q_iret hC dX3_nearest_48 rfl ⟨by decide, by decide⟩ ⟨_, rfl, ?_⟩
              exact ⟨by simp only [z_near, z_nst, if_true, if_false, *], rfl⟩
          · refine q_iload_n hC 2 dX3_nearest_25 rfl rfl ?_
            refine q_aload_n hC 0 dX3_nearest_26 rfl rfl ?_
            refine q_get_f hC f_X3_9 dX3_nearest_27 rfl rfl hi rfl ?_
            refine q_iload_n hC 3 dX3_nearest_30 rfl rfl ?_
            refine q_iald hC dX3_nearest_31 rfl hi (q_inl (by decide)) rfl ?_
            refine q_iload hC 4 dX3_nearest_32 rfl rfl ?_
            refine q_iconst hC dX3_nearest_34 (v := (-1)) (by decide) rfl ?_
            refine q_ixor hC dX3_nearest_35 rfl ?_
            refine q_iand hC dX3_nearest_36 rfl ?_
            refine q_iconst hC dX3_nearest_37 (v := (-1)) (by decide) rfl ?_
            refine q_ixor hC dX3_nearest_38 rfl ?_
            refine q_iand hC dX3_nearest_39 rfl ?_
            refine q_istore_n hC dX3_nearest_40 (by decide) (ls' := [(0, _), (1, _), (2, _), (3, _), (4, _)]) rfl rfl ?_
            refine q_iinc hC 3 dX3_nearest_41 rfl (v := 4) (by decide) (by decide) (ls' := [(0, _), (1, _), (2, _), (3, _), (4, _)]) rfl rfl ?_
            refine q_goto hC dX3_nearest_44 (n := 4) (by decide) ?_
            refine q_iload_n hC 3 dX3_nearest_4 rfl rfl ?_
            refine q_iconst hC dX3_nearest_5 (v := 5) (by decide) rfl ?_
            refine q_icmp_ge hC dX3_nearest_6 (t := 47) (n := 9) (by decide) rfl (fun h => absurd h (by decide)) (fun _ => ?_)
            refine q_iload_n hC 1 dX3_nearest_9 rfl rfl ?_
            refine q_if_eq hC dX3_nearest_10 (t := 47) (n := 13) (by decide) rfl (fun h => (by first | exact absurd h h10_1 | exact absurd h10_1 h)) (fun _ => ?_)
            refine q_iconst hC dX3_nearest_13 (v := 1) (by decide) rfl ?_
            refine q_iload_n hC 3 dX3_nearest_14 rfl rfl ?_
            refine q_ishl hC dX3_nearest_15 rfl ?_
            refine q_istore hC dX3_nearest_16 (by decide) (ls' := [(0, _), (1, _), (2, _), (3, _), (4, _)]) rfl rfl ?_
            refine q_iload_n hC 1 dX3_nearest_18 rfl rfl ?_
            refine q_iload hC 4 dX3_nearest_19 rfl rfl ?_
            refine q_iand hC dX3_nearest_21 rfl ?_
            refine q_if_eq hC dX3_nearest_22 (t := 41) (n := 25) (by decide) rfl (fun h22_32 => ?_) (fun h22_32 => ?_)
            · refine q_iinc hC 3 dX3_nearest_41 rfl (v := 5) (by decide) (by decide) (ls' := [(0, _), (1, _), (2, _), (3, _), (4, _)]) rfl rfl ?_
              refine q_goto hC dX3_nearest_44 (n := 4) (by decide) ?_
              refine q_iload_n hC 3 dX3_nearest_4 rfl rfl ?_
              refine q_iconst hC dX3_nearest_5 (v := 5) (by decide) rfl ?_
              refine q_icmp_ge hC dX3_nearest_6 (t := 47) (n := 9) (by decide) rfl (fun _ => ?_) (fun h => absurd (by decide) h)
              refine q_iload_n hC 2 dX3_nearest_47 rfl rfl ?_
              refine q_iret hC dX3_nearest_48 rfl ⟨by decide, by decide⟩ ⟨_, rfl, ?_⟩
              exact ⟨by simp only [z_near, z_nst, if_true, if_false, *], rfl⟩
            · refine q_iload_n hC 2 dX3_nearest_25 rfl rfl ?_
              refine q_aload_n hC 0 dX3_nearest_26 rfl rfl ?_
              refine q_get_f hC f_X3_9 dX3_nearest_27 rfl rfl hi rfl ?_
              refine q_iload_n hC 3 dX3_nearest_30 rfl rfl ?_
              refine q_iald hC dX3_nearest_31 rfl hi (q_inl (by decide)) rfl ?_
              refine q_iload hC 4 dX3_nearest_32 rfl rfl ?_
              refine q_iconst hC dX3_nearest_34 (v := (-1)) (by decide) rfl ?_
              refine q_ixor hC dX3_nearest_35 rfl ?_
              refine q_iand hC dX3_nearest_36 rfl ?_
              refine q_iconst hC dX3_nearest_37 (v := (-1)) (by decide) rfl ?_
              refine q_ixor hC dX3_nearest_38 rfl ?_
              refine q_iand hC dX3_nearest_39 rfl ?_
              refine q_istore_n hC dX3_nearest_40 (by decide) (ls' := [(0, _), (1, _), (2, _), (3, _), (4, _)]) rfl rfl ?_
              refine q_iinc hC 3 dX3_nearest_41 rfl (v := 5) (by decide) (by decide) (ls' := [(0, _), (1, _), (2, _), (3, _), (4, _)]) rfl rfl ?_
              refine q_goto hC dX3_nearest_44 (n := 4) (by decide) ?_
              refine q_iload_n hC 3 dX3_nearest_4 rfl rfl ?_
              refine q_iconst hC dX3_nearest_5 (v := 5) (by decide) rfl ?_
              refine q_icmp_ge hC dX3_nearest_6 (t := 47) (n := 9) (by decide) rfl (fun _ => ?_) (fun h => absurd (by decide) h)
              refine q_iload_n hC 2 dX3_nearest_47 rfl rfl ?_
              refine q_iret hC dX3_nearest_48 rfl ⟨by decide, by decide⟩ ⟨_, rfl, ?_⟩
              exact ⟨by simp only [z_near, z_nst, if_true, if_false, *], rfl⟩
def z_inhF (fi : Nat → Int32) (sup m : Int32) : Int32 := if sup = -1 then -1 else fi (z_pl sup m)
def z_inhS (fi : Nat → Int32) (itf m b : Int32) (rest : Int32) : Int32 := if z_bit itf b = 1 then (if fi (z_pl b m) = -1 then rest else fi (z_pl b m)) else rest
/-- the field that is found by interfaces, then by a superclass -/
def z_inh (fi : Nat → Int32) (itf sup m : Int32) : Int32 := z_inhS fi itf m 0 (z_inhS fi itf m 1 (z_inhS fi itf m 2 (z_inhS fi itf m 3 (z_inhS fi itf m 4 (z_inhF fi sup m)))))
abbrev rm_X3_inheritedField : Room := { frames := 0, cells := 0, slots := 0, locals := 0 }
set_option maxHeartbeats 4000000 in
set_option maxRecDepth 100000 in
theorem c_X3_inheritedField {L : qL} (hD : q_D L.2.2.2.1) : qCT L yX3_inheritedField cX3_inheritedField 5 (some .int) rm_X3_inheritedField (fun ad _ (x : Nat × Int32 × Int32 × Int32) => [.ref (ad 17 x.1), .int x.2.1, .int x.2.2.1, .int x.2.2.2]) (fun x _ => x.1 < 4 ∧ z_v5 x.2.2.1 ∧ z_lt x.2.2.2 6) (qPi (fun x S r S' => r = z_inh (S 25 x.1) x.2.1 x.2.2.1 x.2.2.2 ∧ S = S')) := by
  refine q_met hD (by decide) (fun _ => Nat.le_of_ble_eq_true rfl) (fun Γ x S hΓ hpre hC => ?_)
  subst hΓ
  obtain ⟨i, a, b, c⟩ := x
  obtain ⟨hi, hb, hc⟩ := hpre
  have hi : i < 4 := hi
  have hb : z_v5 b := hb
  have hc : z_lt c 6 := hc
  show qV Γ _ _ 0 [(0, .ref (q_ad Γ 17 i)), (1, .int a), (2, .int b), (3, .int c)] [] S (0, 0)
  refine q_iconst hC dX3_inheritedField_0 (v := 0) (by decide) rfl ?_
  refine q_istore hC dX3_inheritedField_1 (by decide) (ls' := [(0, _), (1, _), (2, _), (3, _), (4, _)]) rfl rfl ?_
  refine q_iload hC 4 dX3_inheritedField_3 rfl rfl ?_
  refine q_iconst hC dX3_inheritedField_5 (v := 5) (by decide) rfl ?_
  refine q_icmp_ge hC dX3_inheritedField_6 (t := 54) (n := 9) (by decide) rfl (fun h => absurd h (by decide)) (fun _ => ?_)
  refine q_iload_n hC 1 dX3_inheritedField_9 rfl rfl ?_
  refine q_iload hC 4 dX3_inheritedField_10 rfl rfl ?_
  refine q_ishr hC dX3_inheritedField_12 rfl ?_
  refine q_iconst hC dX3_inheritedField_13 (v := 1) (by decide) rfl ?_
  refine q_iand hC dX3_inheritedField_14 rfl ?_
  refine q_iconst hC dX3_inheritedField_15 (v := 1) (by decide) rfl ?_
  refine q_icmp_ne hC dX3_inheritedField_16 (t := 48) (n := 19) (by decide) rfl (fun h16_1 => ?_) (fun h16_1 => ?_)
  · refine q_iinc hC 4 dX3_inheritedField_48 rfl (v := 1) (by decide) (by decide) (ls' := [(0, _), (1, _), (2, _), (3, _), (4, _)]) rfl rfl ?_
    refine q_goto hC dX3_inheritedField_51 (n := 3) (by decide) ?_
    refine q_iload hC 4 dX3_inheritedField_3 rfl rfl ?_
    refine q_iconst hC dX3_inheritedField_5 (v := 5) (by decide) rfl ?_
    refine q_icmp_ge hC dX3_inheritedField_6 (t := 54) (n := 9) (by decide) rfl (fun h => absurd h (by decide)) (fun _ => ?_)
    refine q_iload_n hC 1 dX3_inheritedField_9 rfl rfl ?_
    refine q_iload hC 4 dX3_inheritedField_10 rfl rfl ?_
    refine q_ishr hC dX3_inheritedField_12 rfl ?_
    refine q_iconst hC dX3_inheritedField_13 (v := 1) (by decide) rfl ?_
    refine q_iand hC dX3_inheritedField_14 rfl ?_
    refine q_iconst hC dX3_inheritedField_15 (v := 1) (by decide) rfl ?_
    refine q_icmp_ne hC dX3_inheritedField_16 (t := 48) (n := 19) (by decide) rfl (fun h16_2 => ?_) (fun h16_2 => ?_)
    · refine q_iinc hC 4 dX3_inheritedField_48 rfl (v := 2) (by decide) (by decide) (ls' := [(0, _), (1, _), (2, _), (3, _), (4, _)]) rfl rfl ?_
      refine q_goto hC dX3_inheritedField_51 (n := 3) (by decide) ?_
      refine q_iload hC 4 dX3_inheritedField_3 rfl rfl ?_
      refine q_iconst hC dX3_inheritedField_5 (v := 5) (by decide) rfl ?_
      refine q_icmp_ge hC dX3_inheritedField_6 (t := 54) (n := 9) (by decide) rfl (fun h => absurd h (by decide)) (fun _ => ?_)
      refine q_iload_n hC 1 dX3_inheritedField_9 rfl rfl ?_
      refine q_iload hC 4 dX3_inheritedField_10 rfl rfl ?_
      refine q_ishr hC dX3_inheritedField_12 rfl ?_
      refine q_iconst hC dX3_inheritedField_13 (v := 1) (by decide) rfl ?_
      refine q_iand hC dX3_inheritedField_14 rfl ?_
      refine q_iconst hC dX3_inheritedField_15 (v := 1) (by decide) rfl ?_
      refine q_icmp_ne hC dX3_inheritedField_16 (t := 48) (n := 19) (by decide) rfl (fun h16_3 => ?_) (fun h16_3 => ?_)
      · refine q_iinc hC 4 dX3_inheritedField_48 rfl (v := 3) (by decide) (by decide) (ls' := [(0, _), (1, _), (2, _), (3, _), (4, _)]) rfl rfl ?_
        refine q_goto hC dX3_inheritedField_51 (n := 3) (by decide) ?_
        refine q_iload hC 4 dX3_inheritedField_3 rfl rfl ?_
        refine q_iconst hC dX3_inheritedField_5 (v := 5) (by decide) rfl ?_
        refine q_icmp_ge hC dX3_inheritedField_6 (t := 54) (n := 9) (by decide) rfl (fun h => absurd h (by decide)) (fun _ => ?_)
        refine q_iload_n hC 1 dX3_inheritedField_9 rfl rfl ?_
        refine q_iload hC 4 dX3_inheritedField_10 rfl rfl ?_
        refine q_ishr hC dX3_inheritedField_12 rfl ?_
        refine q_iconst hC dX3_inheritedField_13 (v := 1) (by decide) rfl ?_
        refine q_iand hC dX3_inheritedField_14 rfl ?_
        refine q_iconst hC dX3_inheritedField_15 (v := 1) (by decide) rfl ?_
        refine q_icmp_ne hC dX3_inheritedField_16 (t := 48) (n := 19) (by decide) rfl (fun h16_4 => ?_) (fun h16_4 => ?_)
        · refine q_iinc hC 4 dX3_inheritedField_48 rfl (v := 4) (by decide) (by decide) (ls' := [(0, _), (1, _), (2, _), (3, _), (4, _)]) rfl rfl ?_
          refine q_goto hC dX3_inheritedField_51 (n := 3) (by decide) ?_
          refine q_iload hC 4 dX3_inheritedField_3 rfl rfl ?_
          refine q_iconst hC dX3_inheritedField_5 (v := 5) (by decide) rfl ?_
          refine q_icmp_ge hC dX3_inheritedField_6 (t := 54) (n := 9) (by decide) rfl (fun h => absurd h (by decide)) (fun _ => ?_)
          refine q_iload_n hC 1 dX3_inheritedField_9 rfl rfl ?_
          refine q_iload hC 4 dX3_inheritedField_10 rfl rfl ?_
          refine q_ishr hC dX3_inheritedField_12 rfl ?_
          refine q_iconst hC dX3_inheritedField_13 (v := 1) (by decide) rfl ?_
          refine q_iand hC dX3_inheritedField_14 rfl ?_
          refine q_iconst hC dX3_inheritedField_15 (v := 1) (by decide) rfl ?_
          refine q_icmp_ne hC dX3_inheritedField_16 (t := 48) (n := 19) (by decide) rfl (fun h16_5 => ?_) (fun h16_5 => ?_)
          · refine q_iinc hC 4 dX3_inheritedField_48 rfl (v := 5) (by decide) (by decide) (ls' := [(0, _), (1, _), (2, _), (3, _), (4, _)]) rfl rfl ?_
            refine q_goto hC dX3_inheritedField_51 (n := 3) (by decide) ?_
            refine q_iload hC 4 dX3_inheritedField_3 rfl rfl ?_
            refine q_iconst hC dX3_inheritedField_5 (v := 5) (by decide) rfl ?_
            refine q_icmp_ge hC dX3_inheritedField_6 (t := 54) (n := 9) (by decide) rfl (fun _ => ?_) (fun h => absurd (by decide) h)
            refine q_iload_n hC 2 dX3_inheritedField_54 rfl rfl ?_
            refine q_iconst hC dX3_inheritedField_55 (v := (-1)) (by decide) rfl ?_
            refine q_icmp_ne hC dX3_inheritedField_56 (t := 63) (n := 59) (by decide) rfl (fun h56_6 => ?_) (fun h56_6 => ?_)
            · refine q_aload_n hC 0 dX3_inheritedField_63 rfl rfl ?_
              refine q_get_f hC f_X3_33 dX3_inheritedField_64 rfl rfl hi rfl ?_
              refine q_iload_n hC 2 dX3_inheritedField_67 rfl rfl ?_
              refine q_bipush hC dX3_inheritedField_68 (v := 6) (by decide) rfl ?_
              refine q_imul hC dX3_inheritedField_70 rfl ?_
              refine q_iload_n hC 3 dX3_inheritedField_71 rfl rfl ?_
              refine q_iadd hC dX3_inheritedField_72 rfl ?_
              refine q_iald hC dX3_inheritedField_73 rfl hi (z_in36 (hb.elim (fun z => absurd z (by assumption)) (fun z => z.elim fun j hj => ⟨j, by omega, hj.2⟩)) hc) rfl ?_
              refine q_iret hC dX3_inheritedField_74 rfl ⟨by decide, by decide⟩ ⟨_, rfl, ?_⟩
              exact ⟨by simp only [z_inh, z_inhS, z_inhF, z_bit, z_pl, if_true, if_false, *], rfl⟩
            · refine q_iconst hC dX3_inheritedField_59 (v := (-1)) (by decide) rfl ?_
              refine q_goto hC dX3_inheritedField_60 (n := 74) (by decide) ?_
              refine q_iret hC dX3_inheritedField_74 rfl ⟨by decide, by decide⟩ ⟨_, rfl, ?_⟩
              exact ⟨by simp only [z_inh, z_inhS, z_inhF, z_bit, z_pl, if_true, if_false, *], rfl⟩
          · refine q_aload_n hC 0 dX3_inheritedField_19 rfl rfl ?_
            refine q_get_f hC f_X3_33 dX3_inheritedField_20 rfl rfl hi rfl ?_
            refine q_iload hC 4 dX3_inheritedField_23 rfl rfl ?_
            refine q_bipush hC dX3_inheritedField_25 (v := 6) (by decide) rfl ?_
            refine q_imul hC dX3_inheritedField_27 rfl ?_
            refine q_iload_n hC 3 dX3_inheritedField_28 rfl rfl ?_
            refine q_iadd hC dX3_inheritedField_29 rfl ?_
            refine q_iald hC dX3_inheritedField_30 rfl hi (z_in36 ⟨_, by decide, rfl⟩ hc) rfl ?_
            refine q_iconst hC dX3_inheritedField_31 (v := (-1)) (by decide) rfl ?_
            refine q_icmp_eq hC dX3_inheritedField_32 (t := 48) (n := 35) (by decide) rfl (fun h32_7 => ?_) (fun h32_7 => ?_)
            · refine q_iinc hC 4 dX3_inheritedField_48 rfl (v := 5) (by decide) (by decide) (ls' := [(0, _), (1, _), (2, _), (3, _), (4, _)]) rfl rfl ?_
              refine q_goto hC dX3_inheritedField_51 (n := 3) (by decide) ?_
              refine q_iload hC 4 dX3_inheritedField_3 rfl rfl ?_
              refine q_iconst hC dX3_inheritedField_5 (v := 5) (by decide) rfl ?_
              refine q_icmp_ge hC dX3_inheritedField_6 (t := 54) (n := 9) (by decide) rfl (fun _ => ?_) (fun h => absurd (by decide) h)
              refine q_iload_n hC 2 dX3_inheritedField_54 rfl rfl ?_
              refine q_iconst hC dX3_inheritedField_55 (v := (-1)) (by decide) rfl ?_
              refine q_icmp_ne hC dX3_inheritedField_56 (t := 63) (n := 59) (by decide) rfl (fun h56_8 => ?_) (fun h56_8 => ?_)
              · refine q_aload_n hC 0 dX3_inheritedField_63 rfl rfl ?_
                refine q_get_f hC f_X3_33 dX3_inheritedField_64 rfl rfl hi rfl ?_
                refine q_iload_n hC 2 dX3_inheritedField_67 rfl rfl ?_
                refine q_bipush hC dX3_inheritedField_68 (v := 6) (by decide) rfl ?_
                refine q_imul hC dX3_inheritedField_70 rfl ?_
                refine q_iload_n hC 3 dX3_inheritedField_71 rfl rfl ?_
                refine q_iadd hC dX3_inheritedField_72 rfl ?_
                refine q_iald hC dX3_inheritedField_73 rfl hi (z_in36 (hb.elim (fun z => absurd z (by assumption)) (fun z => z.elim fun j hj => ⟨j, by omega, hj.2⟩)) hc) rfl ?_
                refine q_iret hC dX3_inheritedField_74 rfl ⟨by decide, by decide⟩ ⟨_, rfl, ?_⟩
                exact ⟨by simp only [z_inh, z_inhS, z_inhF, z_bit, z_pl, if_true, if_false, *], rfl⟩
              · refine q_iconst hC dX3_inheritedField_59 (v := (-1)) (by decide) rfl ?_
                refine q_goto hC dX3_inheritedField_60 (n := 74) (by decide) ?_
                refine q_iret hC dX3_inheritedField_74 rfl ⟨by decide, by decide⟩ ⟨_, rfl, ?_⟩
                exact ⟨by simp only [z_inh, z_inhS, z_inhF, z_bit, z_pl, if_true, if_false, *], rfl⟩
            · refine q_aload_n hC 0 dX3_inheritedField_35 rfl rfl ?_
              refine q_get_f hC f_X3_33 dX3_inheritedField_36 rfl rfl hi rfl ?_
              refine q_iload hC 4 dX3_inheritedField_39 rfl rfl ?_
              refine q_bipush hC dX3_inheritedField_41 (v := 6) (by decide) rfl ?_
              refine q_imul hC dX3_inheritedField_43 rfl ?_
              refine q_iload_n hC 3 dX3_inheritedField_44 rfl rfl ?_
              refine q_iadd hC dX3_inheritedField_45 rfl ?_
              refine q_iald hC dX3_inheritedField_46 rfl hi (z_in36 ⟨_, by decide, rfl⟩ hc) rfl ?_
              refine q_iret hC dX3_inheritedField_47 rfl ⟨by decide, by decide⟩ ⟨_, rfl, ?_⟩
              exact ⟨by simp only [z_inh, z_inhS, z_inhF, z_bit, z_pl, if_true, if_false, *], rfl⟩
        · refine q_aload_n hC 0 dX3_inheritedField_19 rfl rfl ?_
          refine q_get_f hC f_X3_33 dX3_inheritedField_20 rfl rfl hi rfl ?_
          refine q_iload hC 4 dX3_inheritedField_23 rfl rfl ?_
          refine q_bipush hC dX3_inheritedField_25 (v := 6) (by decide) rfl ?_
          refine q_imul hC dX3_inheritedField_27 rfl ?_
          refine q_iload_n hC 3 dX3_inheritedField_28 rfl rfl ?_
          refine q_iadd hC dX3_inheritedField_29 rfl ?_
          refine q_iald hC dX3_inheritedField_30 rfl hi (z_in36 ⟨_, by decide, rfl⟩ hc) rfl ?_
          refine q_iconst hC dX3_inheritedField_31 (v := (-1)) (by decide) rfl ?_
          refine q_icmp_eq hC dX3_inheritedField_32 (t := 48) (n := 35) (by decide) rfl (fun h32_9 => ?_) (fun h32_9 => ?_)
          · refine q_iinc hC 4 dX3_inheritedField_48 rfl (v := 4) (by decide) (by decide) (ls' := [(0, _), (1, _), (2, _), (3, _), (4, _)]) rfl rfl ?_
            refine q_goto hC dX3_inheritedField_51 (n := 3) (by decide) ?_
            refine q_iload hC 4 dX3_inheritedField_3 rfl rfl ?_
            refine q_iconst hC dX3_inheritedField_5 (v := 5) (by decide) rfl ?_
            refine q_icmp_ge hC dX3_inheritedField_6 (t := 54) (n := 9) (by decide) rfl (fun h => absurd h (by decide)) (fun _ => ?_)
            refine q_iload_n hC 1 dX3_inheritedField_9 rfl rfl ?_
            refine q_iload hC 4 dX3_inheritedField_10 rfl rfl ?_
            refine q_ishr hC dX3_inheritedField_12 rfl ?_
            refine q_iconst hC dX3_inheritedField_13 (v := 1) (by decide) rfl ?_
            refine q_iand hC dX3_inheritedField_14 rfl ?_
            refine q_iconst hC dX3_inheritedField_15 (v := 1) (by decide) rfl ?_
            refine q_icmp_ne hC dX3_inheritedField_16 (t := 48) (n := 19) (by decide) rfl (fun h16_10 => ?_) (fun h16_10 => ?_)
            · refine q_iinc hC 4 dX3_inheritedField_48 rfl (v := 5) (by decide) (by decide) (ls' := [(0, _), (1, _), (2, _), (3, _), (4, _)]) rfl rfl ?_
              refine q_goto hC dX3_inheritedField_51 (n := 3) (by decide) ?_
              refine q_iload hC 4 dX3_inheritedField_3 rfl rfl ?_
              refine q_iconst hC dX3_inheritedField_5 (v := 5) (by decide) rfl ?_
              refine q_icmp_ge hC dX3_inheritedField_6 (t := 54) (n := 9) (by decide) rfl (fun _ => ?_) (fun h => absurd (by decide) h)
              refine q_iload_n hC 2 dX3_inheritedField_54 rfl rfl ?_
              refine q_iconst hC dX3_inheritedField_55 (v := (-1)) (by decide) rfl ?_
              refine q_icmp_ne hC dX3_inheritedField_56 (t := 63) (n := 59) (by decide) rfl (fun h56_11 => ?_) (fun h56_11 => ?_)
              · refine q_aload_n hC 0 dX3_inheritedField_63 rfl rfl ?_
                refine q_get_f hC f_X3_33 dX3_inheritedField_64 rfl rfl hi rfl ?_
                refine q_iload_n hC 2 dX3_inheritedField_67 rfl rfl ?_
                refine q_bipush hC dX3_inheritedField_68 (v := 6) (by decide) rfl ?_
                refine q_imul hC dX3_inheritedField_70 rfl ?_
                refine q_iload_n hC 3 dX3_inheritedField_71 rfl rfl ?_
                refine q_iadd hC dX3_inheritedField_72 rfl ?_
                refine q_iald hC dX3_inheritedField_73 rfl hi (z_in36 (hb.elim (fun z => absurd z (by assumption)) (fun z => z.elim fun j hj => ⟨j, by omega, hj.2⟩)) hc) rfl ?_
                refine q_iret hC dX3_inheritedField_74 rfl ⟨by decide, by decide⟩ ⟨_, rfl, ?_⟩
                exact ⟨by simp only [z_inh, z_inhS, z_inhF, z_bit, z_pl, if_true, if_false, *], rfl⟩
              · refine q_iconst hC dX3_inheritedField_59 (v := (-1)) (by decide) rfl ?_
                refine q_goto hC dX3_inheritedField_60 (n := 74) (by decide) ?_
                refine q_iret hC dX3_inheritedField_74 rfl ⟨by decide, by decide⟩ ⟨_, rfl, ?_⟩
                exact ⟨by simp only [z_inh, z_inhS, z_inhF, z_bit, z_pl, if_true, if_false, *], rfl⟩
            · refine q_aload_n hC 0 dX3_inheritedField_19 rfl rfl ?_
              refine q_get_f hC f_X3_33 dX3_inheritedField_20 rfl rfl hi rfl ?_
              refine q_iload hC 4 dX3_inheritedField_23 rfl rfl ?_
              refine q_bipush hC dX3_inheritedField_25 (v := 6) (by decide) rfl ?_
              refine q_imul hC dX3_inheritedField_27 rfl ?_
              refine q_iload_n hC 3 dX3_inheritedField_28 rfl rfl ?_
              refine q_iadd hC dX3_inheritedField_29 rfl ?_
              refine q_iald hC dX3_inheritedField_30 rfl hi (z_in36 ⟨_, by decide, rfl⟩ hc) rfl ?_
              refine q_iconst hC dX3_inheritedField_31 (v := (-1)) (by decide) rfl ?_
              refine q_icmp_eq hC dX3_inheritedField_32 (t := 48) (n := 35) (by decide) rfl (fun h32_12 => ?_) (fun h32_12 => ?_)
              · refine q_iinc hC 4 dX3_inheritedField_48 rfl (v := 5) (by decide) (by decide) (ls' := [(0, _), (1, _), (2, _), (3, _), (4, _)]) rfl rfl ?_
                refine q_goto hC dX3_inheritedField_51 (n := 3) (by decide) ?_
                refine q_iload hC 4 dX3_inheritedField_3 rfl rfl ?_
                refine q_iconst hC dX3_inheritedField_5 (v := 5) (by decide) rfl ?_
                refine q_icmp_ge hC dX3_inheritedField_6 (t := 54) (n := 9) (by decide) rfl (fun _ => ?_) (fun h => absurd (by decide) h)
                refine q_iload_n hC 2 dX3_inheritedField_54 rfl rfl ?_
                refine q_iconst hC dX3_inheritedField_55 (v := (-1)) (by decide) rfl ?_
                refine q_icmp_ne hC dX3_inheritedField_56 (t := 63) (n := 59) (by decide) rfl (fun h56_13 => ?_) (fun h56_13 => ?_)
                · refine q_aload_n hC 0 dX3_inheritedField_63 rfl rfl ?_
                  refine q_get_f hC f_X3_33 dX3_inheritedField_64 rfl rfl hi rfl ?_
                  refine q_iload_n hC 2 dX3_inheritedField_67 rfl rfl ?_
                  refine q_bipush hC dX3_inheritedField_68 (v := 6) (by decide) rfl ?_
                  refine q_imul hC dX3_inheritedField_70 rfl ?_
                  refine q_iload_n hC 3 dX3_inheritedField_71 rfl rfl ?_
                  refine q_iadd hC dX3_inheritedField_72 rfl ?_
                  refine q_iald hC dX3_inheritedField_73 rfl hi (z_in36 (hb.elim (fun z => absurd z (by assumption)) (fun z => z.elim fun j hj => ⟨j, by omega, hj.2⟩)) hc) rfl ?_
                  refine q_iret hC dX3_inheritedField_74 rfl ⟨by decide, by decide⟩ ⟨_, rfl, ?_⟩
                  exact ⟨by simp only [z_inh, z_inhS, z_inhF, z_bit, z_pl, if_true, if_false, *], rfl⟩
                · refine q_iconst hC dX3_inheritedField_59 (v := (-1)) (by decide) rfl ?_
                  refine q_goto hC dX3_inheritedField_60 (n := 74) (by decide) ?_
                  refine q_iret hC dX3_inheritedField_74 rfl ⟨by decide, by decide⟩ ⟨_, rfl, ?_⟩
                  exact ⟨by simp only [z_inh, z_inhS, z_inhF, z_bit, z_pl, if_true, if_false, *], rfl⟩
              · refine q_aload_n hC 0 dX3_inheritedField_35 rfl rfl ?_
                refine q_get_f hC f_X3_33 dX3_inheritedField_36 rfl rfl hi rfl ?_
                refine q_iload hC 4 dX3_inheritedField_39 rfl rfl ?_
                refine q_bipush hC dX3_inheritedField_41 (v := 6) (by decide) rfl ?_
                refine q_imul hC dX3_inheritedField_43 rfl ?_
                refine q_iload_n hC 3 dX3_inheritedField_44 rfl rfl ?_
                refine q_iadd hC dX3_inheritedField_45 rfl ?_
                refine q_iald hC dX3_inheritedField_46 rfl hi (z_in36 ⟨_, by decide, rfl⟩ hc) rfl ?_
                refine q_iret hC dX3_inheritedField_47 rfl ⟨by decide, by decide⟩ ⟨_, rfl, ?_⟩
                exact ⟨by simp only [z_inh, z_inhS, z_inhF, z_bit, z_pl, if_true, if_false, *], rfl⟩
          · refine q_aload_n hC 0 dX3_inheritedField_35 rfl rfl ?_
            refine q_get_f hC f_X3_33 dX3_inheritedField_36 rfl rfl hi rfl ?_
            refine q_iload hC 4 dX3_inheritedField_39 rfl rfl ?_
            refine q_bipush hC dX3_inheritedField_41 (v := 6) (by decide) rfl ?_
            refine q_imul hC dX3_inheritedField_43 rfl ?_
            refine q_iload_n hC 3 dX3_inheritedField_44 rfl rfl ?_
            refine q_iadd hC dX3_inheritedField_45 rfl ?_
            refine q_iald hC dX3_inheritedField_46 rfl hi (z_in36 ⟨_, by decide, rfl⟩ hc) rfl ?_
            refine q_iret hC dX3_inheritedField_47 rfl ⟨by decide, by decide⟩ ⟨_, rfl, ?_⟩
            exact ⟨by simp only [z_inh, z_inhS, z_inhF, z_bit, z_pl, if_true, if_false, *], rfl⟩
      · refine q_aload_n hC 0 dX3_inheritedField_19 rfl rfl ?_
        refine q_get_f hC f_X3_33 dX3_inheritedField_20 rfl rfl hi rfl ?_
        refine q_iload hC 4 dX3_inheritedField_23 rfl rfl ?_
        refine q_bipush hC dX3_inheritedField_25 (v := 6) (by decide) rfl ?_
        refine q_imul hC dX3_inheritedField_27 rfl ?_
        refine q_iload_n hC 3 dX3_inheritedField_28 rfl rfl ?_
        refine q_iadd hC dX3_inheritedField_29 rfl ?_
        refine q_iald hC dX3_inheritedField_30 rfl hi (z_in36 ⟨_, by decide, rfl⟩ hc) rfl ?_
        refine q_iconst hC dX3_inheritedField_31 (v := (-1)) (by decide) rfl ?_
        refine q_icmp_eq hC dX3_inheritedField_32 (t := 48) (n := 35) (by decide) rfl (fun h32_14 => ?_) (fun h32_14 => ?_)
        · refine q_iinc hC 4 dX3_inheritedField_48 rfl (v := 3) (by decide) (by decide) (ls' := [(0, _), (1, _), (2, _), (3, _), (4, _)]) rfl rfl ?_
          refine q_goto hC dX3_inheritedField_51 (n := 3) (by decide) ?_
          refine q_iload hC 4 dX3_inheritedField_3 rfl rfl ?_
          refine q_iconst hC dX3_inheritedField_5 (v := 5) (by decide) rfl ?_
          refine q_icmp_ge hC dX3_inheritedField_6 (t := 54) (n := 9) (by decide) rfl (fun h => absurd h (by decide)) (fun _ => ?_)
          refine q_iload_n hC 1 dX3_inheritedField_9 rfl rfl ?_
          refine q_iload hC 4 dX3_inheritedField_10 rfl rfl ?_
          refine q_ishr hC dX3_inheritedField_12 rfl ?_
          refine q_iconst hC dX3_inheritedField_13 (v := 1) (by decide) rfl ?_
          refine q_iand hC dX3_inheritedField_14 rfl ?_
          refine q_iconst hC dX3_inheritedField_15 (v := 1) (by decide) rfl ?_
          refine q_icmp_ne hC dX3_inheritedField_16 (t := 48) (n := 19) (by decide) rfl (fun h16_15 => ?_) (fun h16_15 => ?_)
          · refine q_iinc hC 4 dX3_inheritedField_48 rfl (v := 4) (by decide) (by decide) (ls' := [(0, _), (1, _), (2, _), (3, _), (4, _)]) rfl rfl ?_
            refine q_goto hC dX3_inheritedField_51 (n := 3) (by decide) ?_
            refine q_iload hC 4 dX3_inheritedField_3 rfl rfl ?_
            refine q_iconst hC dX3_inheritedField_5 (v := 5) (by decide) rfl ?_
            refine q_icmp_ge hC dX3_inheritedField_6 (t := 54) (n := 9) (by decide) rfl (fun h => absurd h (by decide)) (fun _ => ?_)
            refine q_iload_n hC 1 dX3_inheritedField_9 rfl rfl ?_
            refine q_iload hC 4 dX3_inheritedField_10 rfl rfl ?_
            refine q_ishr hC dX3_inheritedField_12 rfl ?_
            refine q_iconst hC dX3_inheritedField_13 (v := 1) (by decide) rfl ?_
            refine q_iand hC dX3_inheritedField_14 rfl ?_
            refine q_iconst hC dX3_inheritedField_15 (v := 1) (by decide) rfl ?_
            refine q_icmp_ne hC dX3_inheritedField_16 (t := 48) (n := 19) (by decide) rfl (fun h16_16 => ?_) (fun h16_16 => ?_)
            · refine q_iinc hC 4 dX3_inheritedField_48 rfl (v := 5) (by decide) (by decide) (ls' := [(0, _), (1, _), (2, _), (3, _), (4, _)]) rfl rfl ?_
              refine q_goto hC dX3_inheritedField_51 (n := 3) (by decide) ?_
              refine q_iload hC 4 dX3_inheritedField_3 rfl rfl ?_
              refine q_iconst hC dX3_inheritedField_5 (v := 5) (by decide) rfl ?_
              refine q_icmp_ge hC dX3_inheritedField_6 (t := 54) (n := 9) (by decide) rfl (fun _ => ?_) (fun h => absurd (by decide) h)
              refine q_iload_n hC 2 dX3_inheritedField_54 rfl rfl ?_
              refine q_iconst hC dX3_inheritedField_55 (v := (-1)) (by decide) rfl ?_
              refine q_icmp_ne hC dX3_inheritedField_56 (t := 63) (n := 59) (by decide) rfl (fun h56_17 => ?_) (fun h56_17 => ?_)
              · refine q_aload_n hC 0 dX3_inheritedField_63 rfl rfl ?_
                refine q_get_f hC f_X3_33 dX3_inheritedField_64 rfl rfl hi rfl ?_
                refine q_iload_n hC 2 dX3_inheritedField_67 rfl rfl ?_
                refine q_bipush hC dX3_inheritedField_68 (v := 6) (by decide) rfl ?_
                refine q_imul hC dX3_inheritedField_70 rfl ?_
                refine q_iload_n hC 3 dX3_inheritedField_71 rfl rfl ?_
                refine q_iadd hC dX3_inheritedField_72 rfl ?_
                refine q_iald hC dX3_inheritedField_73 rfl hi (z_in36 (hb.elim (fun z => absurd z (by assumption)) (fun z => z.elim fun j hj => ⟨j, by omega, hj.2⟩)) hc) rfl ?_
                refine q_iret hC dX3_inheritedField_74 rfl ⟨by decide, by decide⟩ ⟨_, rfl, ?_⟩
                exact ⟨by simp only [z_inh, z_inhS, z_inhF, z_bit, z_pl, if_true, if_false, *], rfl⟩
              · refine q_iconst hC dX3_inheritedField_59 (v := (-1)) (by decide) rfl ?_
                refine q_goto hC dX3_inheritedField_60 (n := 74) (by decide) ?_
                refine q_iret hC dX3_inheritedField_74 rfl ⟨by decide, by decide⟩ ⟨_, rfl, ?_⟩
                exact ⟨by simp only [z_inh, z_inhS, z_inhF, z_bit, z_pl, if_true, if_false, *], rfl⟩
            · refine q_aload_n hC 0 dX3_inheritedField_19 rfl rfl ?_
              refine q_get_f hC f_X3_33 dX3_inheritedField_20 rfl rfl hi rfl ?_
              refine q_iload hC 4 dX3_inheritedField_23 rfl rfl ?_
              refine q_bipush hC dX3_inheritedField_25 (v := 6) (by decide) rfl ?_
              refine q_imul hC dX3_inheritedField_27 rfl ?_
              refine q_iload_n hC 3 dX3_inheritedField_28 rfl rfl ?_
              refine q_iadd hC dX3_inheritedField_29 rfl ?_
              refine q_iald hC dX3_inheritedField_30 rfl hi (z_in36 ⟨_, by decide, rfl⟩ hc) rfl ?_
              refine q_iconst hC dX3_inheritedField_31 (v := (-1)) (by decide) rfl ?_
              refine q_icmp_eq hC dX3_inheritedField_32 (t := 48) (n := 35) (by decide) rfl (fun h32_18 => ?_) (fun h32_18 => ?_)
              · refine q_iinc hC 4 dX3_inheritedField_48 rfl (v := 5) (by decide) (by decide) (ls' := [(0, _), (1, _), (2, _), (3, _), (4, _)]) rfl rfl ?_
                refine q_goto hC dX3_inheritedField_51 (n := 3) (by decide) ?_
                refine q_iload hC 4 dX3_inheritedField_3 rfl rfl ?_
                refine q_iconst hC dX3_inheritedField_5 (v := 5) (by decide) rfl ?_
                refine q_icmp_ge hC dX3_inheritedField_6 (t := 54) (n := 9) (by decide) rfl (fun _ => ?_) (fun h => absurd (by decide) h)
                refine q_iload_n hC 2 dX3_inheritedField_54 rfl rfl ?_
                refine q_iconst hC dX3_inheritedField_55 (v := (-1)) (by decide) rfl ?_
                refine q_icmp_ne hC dX3_inheritedField_56 (t := 63) (n := 59) (by decide) rfl (fun h56_19 => ?_) (fun h56_19 => ?_)
                · refine q_aload_n hC 0 dX3_inheritedField_63 rfl rfl ?_
                  refine q_get_f hC f_X3_33 dX3_inheritedField_64 rfl rfl hi rfl ?_
                  refine q_iload_n hC 2 dX3_inheritedField_67 rfl rfl ?_
                  refine q_bipush hC dX3_inheritedField_68 (v := 6) (by decide) rfl ?_
                  refine q_imul hC dX3_inheritedField_70 rfl ?_
                  refine q_iload_n hC 3 dX3_inheritedField_71 rfl rfl ?_
                  refine q_iadd hC dX3_inheritedField_72 rfl ?_
                  refine q_iald hC dX3_inheritedField_73 rfl hi (z_in36 (hb.elim (fun z => absurd z (by assumption)) (fun z => z.elim fun j hj => ⟨j, by omega, hj.2⟩)) hc) rfl ?_
                  refine q_iret hC dX3_inheritedField_74 rfl ⟨by decide, by decide⟩ ⟨_, rfl, ?_⟩
                  exact ⟨by simp only [z_inh, z_inhS, z_inhF, z_bit, z_pl, if_true, if_false, *], rfl⟩
                · refine q_iconst hC dX3_inheritedField_59 (v := (-1)) (by decide) rfl ?_
                  refine q_goto hC dX3_inheritedField_60 (n := 74) (by decide) ?_
                  refine q_iret hC dX3_inheritedField_74 rfl ⟨by decide, by decide⟩ ⟨_, rfl, ?_⟩
                  exact ⟨by simp only [z_inh, z_inhS, z_inhF, z_bit, z_pl, if_true, if_false, *], rfl⟩
              · refine q_aload_n hC 0 dX3_inheritedField_35 rfl rfl ?_
                refine q_get_f hC f_X3_33 dX3_inheritedField_36 rfl rfl hi rfl ?_
                refine q_iload hC 4 dX3_inheritedField_39 rfl rfl ?_
                refine q_bipush hC dX3_inheritedField_41 (v := 6) (by decide) rfl ?_
                refine q_imul hC dX3_inheritedField_43 rfl ?_
                refine q_iload_n hC 3 dX3_inheritedField_44 rfl rfl ?_
                refine q_iadd hC dX3_inheritedField_45 rfl ?_
                refine q_iald hC dX3_inheritedField_46 rfl hi (z_in36 ⟨_, by decide, rfl⟩ hc) rfl ?_
                refine q_iret hC dX3_inheritedField_47 rfl ⟨by decide, by decide⟩ ⟨_, rfl, ?_⟩
                exact ⟨by simp only [z_inh, z_inhS, z_inhF, z_bit, z_pl, if_true, if_false, *], rfl⟩
          · refine q_aload_n hC 0 dX3_inheritedField_19 rfl rfl ?_
            refine q_get_f hC f_X3_33 dX3_inheritedField_20 rfl rfl hi rfl ?_
            refine q_iload hC 4 dX3_inheritedField_23 rfl rfl ?_
            refine q_bipush hC dX3_inheritedField_25 (v := 6) (by decide) rfl ?_
            refine q_imul hC dX3_inheritedField_27 rfl ?_
            refine q_iload_n hC 3 dX3_inheritedField_28 rfl rfl ?_
            refine q_iadd hC dX3_inheritedField_29 rfl ?_
            refine q_iald hC dX3_inheritedField_30 rfl hi (z_in36 ⟨_, by decide, rfl⟩ hc) rfl ?_
            refine q_iconst hC dX3_inheritedField_31 (v := (-1)) (by decide) rfl ?_
            refine q_icmp_eq hC dX3_inheritedField_32 (t := 48) (n := 35) (by decide) rfl (fun h32_20 => ?_) (fun h32_20 => ?_)
            · refine q_iinc hC 4 dX3_inheritedField_48 rfl (v := 4) (by decide) (by decide) (ls' := [(0, _), (1, _), (2, _), (3, _), (4, _)]) rfl rfl ?_
              refine q_goto hC dX3_inheritedField_51 (n := 3) (by decide) ?_
              refine q_iload hC 4 dX3_inheritedField_3 rfl rfl ?_
              refine q_iconst hC dX3_inheritedField_5 (v := 5) (by decide) rfl ?_
              refine q_icmp_ge hC dX3_inheritedField_6 (t := 54) (n := 9) (by decide) rfl (fun h => absurd h (by decide)) (fun _ => ?_)
              refine q_iload_n hC 1 dX3_inheritedField_9 rfl rfl ?_
              refine q_iload hC 4 dX3_inheritedField_10 rfl rfl ?_
              refine q_ishr hC dX3_inheritedField_12 rfl ?_
              refine q_iconst hC dX3_inheritedField_13 (v := 1) (by decide) rfl ?_
              refine q_iand hC dX3_inheritedField_14 rfl ?_
              refine q_iconst hC dX3_inheritedField_15 (v := 1) (by decide) rfl ?_
              refine q_icmp_ne hC dX3_inheritedField_16 (t := 48) (n := 19) (by decide) rfl (fun h16_21 => ?_) (fun h16_21 => ?_)
              · refine q_iinc hC 4 dX3_inheritedField_48 rfl (v := 5) (by decide) (by decide) (ls' := [(0, _), (1, _), (2, _), (3, _), (4, _)]) rfl rfl ?_
                refine q_goto hC dX3_inheritedField_51 (n := 3) (by decide) ?_
                refine q_iload hC 4 dX3_inheritedField_3 rfl rfl ?_
                refine q_iconst hC dX3_inheritedField_5 (v := 5) (by decide) rfl ?_
                refine q_icmp_ge hC dX3_inheritedField_6 (t := 54) (n := 9) (by decide) rfl (fun _ => ?_) (fun h => absurd (by decide) h)
                refine q_iload_n hC 2 dX3_inheritedField_54 rfl rfl ?_
                refine q_iconst hC dX3_inheritedField_55 (v := (-1)) (by decide) rfl ?_
                refine q_icmp_ne hC dX3_inheritedField_56 (t := 63) (n := 59) (by decide) rfl (fun h56_22 => ?_) (fun h56_22 => ?_)
                · refine q_aload_n hC 0 dX3_inheritedField_63 rfl rfl ?_
                  refine q_get_f hC f_X3_33 dX3_inheritedField_64 rfl rfl hi rfl ?_
                  refine q_iload_n hC 2 dX3_inheritedField_67 rfl rfl ?_
                  refine q_bipush hC dX3_inheritedField_68 (v := 6) (by decide) rfl ?_
                  refine q_imul hC dX3_inheritedField_70 rfl ?_
                  refine q_iload_n hC 3 dX3_inheritedField_71 rfl rfl ?_
                  refine q_iadd hC dX3_inheritedField_72 rfl ?_
                  refine q_iald hC dX3_inheritedField_73 rfl hi (z_in36 (hb.elim (fun z => absurd z (by assumption)) (fun z => z.elim fun j hj => ⟨j, by omega, hj.2⟩)) hc) rfl ?_
                  refine q_iret hC dX3_inheritedField_74 rfl ⟨by decide, by decide⟩ ⟨_, rfl, ?_⟩
                  exact ⟨by simp only [z_inh, z_inhS, z_inhF, z_bit, z_pl, if_true, if_false, *], rfl⟩
                · refine q_iconst hC dX3_inheritedField_59 (v := (-1)) (by decide) rfl ?_
                  refine q_goto hC dX3_inheritedField_60 (n := 74) (by decide) ?_
                  refine q_iret hC dX3_inheritedField_74 rfl ⟨by decide, by decide⟩ ⟨_, rfl, ?_⟩
                  exact ⟨by simp only [z_inh, z_inhS, z_inhF, z_bit, z_pl, if_true, if_false, *], rfl⟩
              · refine q_aload_n hC 0 dX3_inheritedField_19 rfl rfl ?_
                refine q_get_f hC f_X3_33 dX3_inheritedField_20 rfl rfl hi rfl ?_
                refine q_iload hC 4 dX3_inheritedField_23 rfl rfl ?_
                refine q_bipush hC dX3_inheritedField_25 (v := 6) (by decide) rfl ?_
                refine q_imul hC dX3_inheritedField_27 rfl ?_
                refine q_iload_n hC 3 dX3_inheritedField_28 rfl rfl ?_
                refine q_iadd hC dX3_inheritedField_29 rfl ?_
                refine q_iald hC dX3_inheritedField_30 rfl hi (z_in36 ⟨_, by decide, rfl⟩ hc) rfl ?_
                refine q_iconst hC dX3_inheritedField_31 (v := (-1)) (by decide) rfl ?_
                refine q_icmp_eq hC dX3_inheritedField_32 (t := 48) (n := 35) (by decide) rfl (fun h32_23 => ?_) (fun h32_23 => ?_)
                · refine q_iinc hC 4 dX3_inheritedField_48 rfl (v := 5) (by decide) (by decide) (ls' := [(0, _), (1, _), (2, _), (3, _), (4, _)]) rfl rfl ?_
                  refine q_goto hC dX3_inheritedField_51 (n := 3) (by decide) ?_
                  refine q_iload hC 4 dX3_inheritedField_3 rfl rfl ?_
                  refine q_iconst hC dX3_inheritedField_5 (v := 5) (by decide) rfl ?_
                  refine q_icmp_ge hC dX3_inheritedField_6 (t := 54) (n := 9) (by decide) rfl (fun _ => ?_) (fun h => absurd (by decide) h)
                  refine q_iload_n hC 2 dX3_inheritedField_54 rfl rfl ?_
                  refine q_iconst hC dX3_inheritedField_55 (v := (-1)) (by decide) rfl ?_
                  refine q_icmp_ne hC dX3_inheritedField_56 (t := 63) (n := 59) (by decide) rfl (fun h56_24 => ?_) (fun h56_24 => ?_)
                  · refine q_aload_n hC 0 dX3_inheritedField_63 rfl rfl ?_
                    refine q_get_f hC f_X3_33 dX3_inheritedField_64 rfl rfl hi rfl ?_
                    refine q_iload_n hC 2 dX3_inheritedField_67 rfl rfl ?_
                    refine q_bipush hC dX3_inheritedField_68 (v := 6) (by decide) rfl ?_
                    refine q_imul hC dX3_inheritedField_70 rfl ?_
                    refine q_iload_n hC 3 dX3_inheritedField_71 rfl rfl ?_
                    refine q_iadd hC dX3_inheritedField_72 rfl ?_
                    refine q_iald hC dX3_inheritedField_73 rfl hi (z_in36 (hb.elim (fun z => absurd z (by assumption)) (fun z => z.elim fun j hj => ⟨j, by omega, hj.2⟩)) hc) rfl ?_
                    refine q_iret hC dX3_inheritedField_74 rfl ⟨by decide, by decide⟩ ⟨_, rfl, ?_⟩
                    exact ⟨by simp only [z_inh, z_inhS, z_inhF, z_bit, z_pl, if_true, if_false, *], rfl⟩
                  · refine q_iconst hC dX3_inheritedField_59 (v := (-1)) (by decide) rfl ?_
                    refine q_goto hC dX3_inheritedField_60 (n := 74) (by decide) ?_
                    refine q_iret hC dX3_inheritedField_74 rfl ⟨by decide, by decide⟩ ⟨_, rfl, ?_⟩
                    exact ⟨by simp only [z_inh, z_inhS, z_inhF, z_bit, z_pl, if_true, if_false, *], rfl⟩
                · refine q_aload_n hC 0 dX3_inheritedField_35 rfl rfl ?_
                  refine q_get_f hC f_X3_33 dX3_inheritedField_36 rfl rfl hi rfl ?_
                  refine q_iload hC 4 dX3_inheritedField_39 rfl rfl ?_
                  refine q_bipush hC dX3_inheritedField_41 (v := 6) (by decide) rfl ?_
                  refine q_imul hC dX3_inheritedField_43 rfl ?_
                  refine q_iload_n hC 3 dX3_inheritedField_44 rfl rfl ?_
                  refine q_iadd hC dX3_inheritedField_45 rfl ?_
                  refine q_iald hC dX3_inheritedField_46 rfl hi (z_in36 ⟨_, by decide, rfl⟩ hc) rfl ?_
                  refine q_iret hC dX3_inheritedField_47 rfl ⟨by decide, by decide⟩ ⟨_, rfl, ?_⟩
                  exact ⟨by simp only [z_inh, z_inhS, z_inhF, z_bit, z_pl, if_true, if_false, *], rfl⟩
            · refine q_aload_n hC 0 dX3_inheritedField_35 rfl rfl ?_
              refine q_get_f hC f_X3_33 dX3_inheritedField_36 rfl rfl hi rfl ?_
              refine q_iload hC 4 dX3_inheritedField_39 rfl rfl ?_
              refine q_bipush hC dX3_inheritedField_41 (v := 6) (by decide) rfl ?_
              refine q_imul hC dX3_inheritedField_43 rfl ?_
              refine q_iload_n hC 3 dX3_inheritedField_44 rfl rfl ?_
              refine q_iadd hC dX3_inheritedField_45 rfl ?_
              refine q_iald hC dX3_inheritedField_46 rfl hi (z_in36 ⟨_, by decide, rfl⟩ hc) rfl ?_
              refine q_iret hC dX3_inheritedField_47 rfl ⟨by decide, by decide⟩ ⟨_, rfl, ?_⟩
              exact ⟨by simp only [z_inh, z_inhS, z_inhF, z_bit, z_pl, if_true, if_false, *], rfl⟩
        · refine q_aload_n hC 0 dX3_inheritedField_35 rfl rfl ?_
          refine q_get_f hC f_X3_33 dX3_inheritedField_36 rfl rfl hi rfl ?_
          refine q_iload hC 4 dX3_inheritedField_39 rfl rfl ?_
          refine q_bipush hC dX3_inheritedField_41 (v := 6) (by decide) rfl ?_
          refine q_imul hC dX3_inheritedField_43 rfl ?_
          refine q_iload_n hC 3 dX3_inheritedField_44 rfl rfl ?_
          refine q_iadd hC dX3_inheritedField_45 rfl ?_
          refine q_iald hC dX3_inheritedField_46 rfl hi (z_in36 ⟨_, by decide, rfl⟩ hc) rfl ?_
          refine q_iret hC dX3_inheritedField_47 rfl ⟨by decide, by decide⟩ ⟨_, rfl, ?_⟩
          exact ⟨by simp only [z_inh, z_inhS, z_inhF, z_bit, z_pl, if_true, if_false, *], rfl⟩
    · refine q_aload_n hC 0 dX3_inheritedField_19 rfl rfl ?_
      refine q_get_f hC f_X3_33 dX3_inheritedField_20 rfl rfl hi rfl ?_
      refine q_iload hC 4 dX3_inheritedField_23 rfl rfl ?_
      refine q_bipush hC dX3_inheritedField_25 (v := 6) (by decide) rfl ?_
      refine q_imul hC dX3_inheritedField_27 rfl ?_
      refine q_iload_n hC 3 dX3_inheritedField_28 rfl rfl ?_
      refine q_iadd hC dX3_inheritedField_29 rfl ?_
      refine q_iald hC dX3_inheritedField_30 rfl hi (z_in36 ⟨_, by decide, rfl⟩ hc) rfl ?_
      refine q_iconst hC dX3_inheritedField_31 (v := (-1)) (by decide) rfl ?_
      refine q_icmp_eq hC dX3_inheritedField_32 (t := 48) (n := 35) (by decide) rfl (fun h32_25 => ?_) (fun h32_25 => ?_)
      · refine q_iinc hC 4 dX3_inheritedField_48 rfl (v := 2) (by decide) (by decide) (ls' := [(0, _), (1, _), (2, _), (3, _), (4, _)]) rfl rfl ?_
        refine q_goto hC dX3_inheritedField_51 (n := 3) (by decide) ?_
        refine q_iload hC 4 dX3_inheritedField_3 rfl rfl ?_
        refine q_iconst hC dX3_inheritedField_5 (v := 5) (by decide) rfl ?_
        refine q_icmp_ge hC dX3_inheritedField_6 (t := 54) (n := 9) (by decide) rfl (fun h => absurd h (by decide)) (fun _ => ?_)
        refine q_iload_n hC 1 dX3_inheritedField_9 rfl rfl ?_
        refine q_iload hC 4 dX3_inheritedField_10 rfl rfl ?_
        refine q_ishr hC dX3_inheritedField_12 rfl ?_
        refine q_iconst hC dX3_inheritedField_13 (v := 1) (by decide) rfl ?_
        refine q_iand hC dX3_inheritedField_14 rfl ?_
        refine q_iconst hC dX3_inheritedField_15 (v := 1) (by decide) rfl ?_
        refine q_icmp_ne hC dX3_inheritedField_16 (t := 48) (n := 19) (by decide) rfl (fun h16_26 => ?_) (fun h16_26 => ?_)
        · refine q_iinc hC 4 dX3_inheritedField_48 rfl (v := 3) (by decide) (by decide) (ls' := [(0, _), (1, _), (2, _), (3, _), (4, _)]) rfl rfl ?_
          refine q_goto hC dX3_inheritedField_51 (n := 3) (by decide) ?_
          refine q_iload hC 4 dX3_inheritedField_3 rfl rfl ?_
          refine q_iconst hC dX3_inheritedField_5 (v := 5) (by decide) rfl ?_
          refine q_icmp_ge hC dX3_inheritedField_6 (t := 54) (n := 9) (by decide) rfl (fun h => absurd h (by decide)) (fun _ => ?_)
          refine q_iload_n hC 1 dX3_inheritedField_9 rfl rfl ?_
          refine q_iload hC 4 dX3_inheritedField_10 rfl rfl ?_
          refine q_ishr hC dX3_inheritedField_12 rfl ?_
          refine q_iconst hC dX3_inheritedField_13 (v := 1) (by decide) rfl ?_
          refine q_iand hC dX3_inheritedField_14 rfl ?_
          refine q_iconst hC dX3_inheritedField_15 (v := 1) (by decide) rfl ?_
          refine q_icmp_ne hC dX3_inheritedField_16 (t := 48) (n := 19) (by decide) rfl (fun h16_27 => ?_) (fun h16_27 => ?_)
          · refine q_iinc hC 4 dX3_inheritedField_48 rfl (v := 4) (by decide) (by decide) (ls' := [(0, _), (1, _), (2, _), (3, _), (4, _)]) rfl rfl ?_
            refine q_goto hC dX3_inheritedField_51 (n := 3) (by decide) ?_
            refine q_iload hC 4 dX3_inheritedField_3 rfl rfl ?_
            refine q_iconst hC dX3_inheritedField_5 (v := 5) (by decide) rfl ?_
            refine q_icmp_ge hC dX3_inheritedField_6 (t := 54) (n := 9) (by decide) rfl (fun h => absurd h (by decide)) (fun _ => ?_)
            refine q_iload_n hC 1 dX3_inheritedField_9 rfl rfl ?_
            refine q_iload hC 4 dX3_inheritedField_10 rfl rfl ?_
            refine q_ishr hC dX3_inheritedField_12 rfl ?_
            refine q_iconst hC dX3_inheritedField_13 (v := 1) (by decide) rfl ?_
            refine q_iand hC dX3_inheritedField_14 rfl ?_
            refine q_iconst hC dX3_inheritedField_15 (v := 1) (by decide) rfl ?_
            refine q_icmp_ne hC dX3_inheritedField_16 (t := 48) (n := 19) (by decide) rfl (fun h16_28 => ?_) (fun h16_28 => ?_)
            · refine q_iinc hC 4 dX3_inheritedField_48 rfl (v := 5) (by decide) (by decide) (ls' := [(0, _), (1, _), (2, _), (3, _), (4, _)]) rfl rfl ?_
              refine q_goto hC dX3_inheritedField_51 (n := 3) (by decide) ?_
              refine q_iload hC 4 dX3_inheritedField_3 rfl rfl ?_
              refine q_iconst hC dX3_inheritedField_5 (v := 5) (by decide) rfl ?_
              refine q_icmp_ge hC dX3_inheritedField_6 (t := 54) (n := 9) (by decide) rfl (fun _ => ?_) (fun h => absurd (by decide) h)
              refine q_iload_n hC 2 dX3_inheritedField_54 rfl rfl ?_
              refine q_iconst hC dX3_inheritedField_55 (v := (-1)) (by decide) rfl ?_
              refine q_icmp_ne hC dX3_inheritedField_56 (t := 63) (n := 59) (by decide) rfl (fun h56_29 => ?_) (fun h56_29 => ?_)
              · refine q_aload_n hC 0 dX3_inheritedField_63 rfl rfl ?_
                refine q_get_f hC f_X3_33 dX3_inheritedField_64 rfl rfl hi rfl ?_
                refine q_iload_n hC 2 dX3_inheritedField_67 rfl rfl ?_
                refine q_bipush hC dX3_inheritedField_68 (v := 6) (by decide) rfl ?_
                refine q_imul hC dX3_inheritedField_70 rfl ?_
                refine q_iload_n hC 3 dX3_inheritedField_71 rfl rfl ?_
                refine q_iadd hC dX3_inheritedField_72 rfl ?_
                refine q_iald hC dX3_inheritedField_73 rfl hi (z_in36 (hb.elim (fun z => absurd z (by assumption)) (fun z => z.elim fun j hj => ⟨j, by omega, hj.2⟩)) hc) rfl ?_
                refine q_iret hC dX3_inheritedField_74 rfl ⟨by decide, by decide⟩ ⟨_, rfl, ?_⟩
                exact ⟨by simp only [z_inh, z_inhS, z_inhF, z_bit, z_pl, if_true, if_false, *], rfl⟩
              · refine q_iconst hC dX3_inheritedField_59 (v := (-1)) (by decide) rfl ?_
                refine q_goto hC dX3_inheritedField_60 (n := 74) (by decide) ?_
                refine q_iret hC dX3_inheritedField_74 rfl ⟨by decide, by decide⟩ ⟨_, rfl, ?_⟩
                exact ⟨by simp only [z_inh, z_inhS, z_inhF, z_bit, z_pl, if_true, if_false, *], rfl⟩
            · refine q_aload_n hC 0 dX3_inheritedField_19 rfl rfl ?_
              refine q_get_f hC f_X3_33 dX3_inheritedField_20 rfl rfl hi rfl ?_
              refine q_iload hC 4 dX3_inheritedField_23 rfl rfl ?_
              refine q_bipush hC dX3_inheritedField_25 (v := 6) (by decide) rfl ?_
              refine q_imul hC dX3_inheritedField_27 rfl ?_
              refine q_iload_n hC 3 dX3_inheritedField_28 rfl rfl ?_
              refine q_iadd hC dX3_inheritedField_29 rfl ?_
              refine q_iald hC dX3_inheritedField_30 rfl hi (z_in36 ⟨_, by decide, rfl⟩ hc) rfl ?_
              refine q_iconst hC dX3_inheritedField_31 (v := (-1)) (by decide) rfl ?_
              refine q_icmp_eq hC dX3_inheritedField_32 (t := 48) (n := 35) (by decide) rfl (fun h32_30 => ?_) (fun h32_30 => ?_)
              · refine q_iinc hC 4 dX3_inheritedField_48 rfl (v := 5) (by decide) (by decide) (ls' := [(0, _), (1, _), (2, _), (3, _), (4, _)]) rfl rfl ?_
                refine q_goto hC dX3_inheritedField_51 (n := 3) (by decide) ?_
                refine q_iload hC 4 dX3_inheritedField_3 rfl rfl ?_
                refine q_iconst hC dX3_inheritedField_5 (v := 5) (by decide) rfl ?_
                refine q_icmp_ge hC dX3_inheritedField_6 (t := 54) (n := 9) (by decide) rfl (fun _ => ?_) (fun h => absurd (by decide) h)
                refine q_iload_n hC 2 dX3_inheritedField_54 rfl rfl ?_
                refine q_iconst hC dX3_inheritedField_55 (v := (-1)) (by decide) rfl ?_
                refine q_icmp_ne hC dX3_inheritedField_56 (t := 63) (n := 59) (by decide) rfl (fun h56_31 => ?_) (fun h56_31 => ?_)
                · refine q_aload_n hC 0 dX3_inheritedField_63 rfl rfl ?_
                  refine q_get_f hC f_X3_33 dX3_inheritedField_64 rfl rfl hi rfl ?_
                  refine q_iload_n hC 2 dX3_inheritedField_67 rfl rfl ?_
                  refine q_bipush hC dX3_inheritedField_68 (v := 6) (by decide) rfl ?_
                  refine q_imul hC dX3_inheritedField_70 rfl ?_
                  refine q_iload_n hC 3 dX3_inheritedField_71 rfl rfl ?_
                  refine q_iadd hC dX3_inheritedField_72 rfl ?_
                  refine q_iald hC dX3_inheritedField_73 rfl hi (z_in36 (hb.elim (fun z => absurd z (by assumption)) (fun z => z.elim fun j hj => ⟨j, by omega, hj.2⟩)) hc) rfl ?_
                  refine q_iret hC dX3_inheritedField_74 rfl ⟨by decide, by decide⟩ ⟨_, rfl, ?_⟩
                  exact ⟨by simp only [z_inh, z_inhS, z_inhF, z_bit, z_pl, if_true, if_false, *], rfl⟩
                · refine q_iconst hC dX3_inheritedField_59 (v := (-1)) (by decide) rfl ?_
                  refine q_goto hC dX3_inheritedField_60 (n := 74) (by decide) ?_
                  refine q_iret hC dX3_inheritedField_74 rfl ⟨by decide, by decide⟩ ⟨_, rfl, ?_⟩
                  exact ⟨by simp only [z_inh, z_inhS, z_inhF, z_bit, z_pl, if_true, if_false, *], rfl⟩
              · refine q_aload_n hC 0 dX3_inheritedField_35 rfl rfl ?_
                refine q_get_f hC f_X3_33 dX3_inheritedField_36 rfl rfl hi rfl ?_
                refine q_iload hC 4 dX3_inheritedField_39 rfl rfl ?_
                refine q_bipush hC dX3_inheritedField_41 (v := 6) (by decide) rfl ?_
                refine q_imul hC dX3_inheritedField_43 rfl ?_
                refine q_iload_n hC 3 dX3_inheritedField_44 rfl rfl ?_
                refine q_iadd hC dX3_inheritedField_45 rfl ?_
                refine q_iald hC dX3_inheritedField_46 rfl hi (z_in36 ⟨_, by decide, rfl⟩ hc) rfl ?_
                refine q_iret hC dX3_inheritedField_47 rfl ⟨by decide, by decide⟩ ⟨_, rfl, ?_⟩
                exact ⟨by simp only [z_inh, z_inhS, z_inhF, z_bit, z_pl, if_true, if_false, *], rfl⟩
          · refine q_aload_n hC 0 dX3_inheritedField_19 rfl rfl ?_
            refine q_get_f hC f_X3_33 dX3_inheritedField_20 rfl rfl hi rfl ?_
            refine q_iload hC 4 dX3_inheritedField_23 rfl rfl ?_
            refine q_bipush hC dX3_inheritedField_25 (v := 6) (by decide) rfl ?_
            refine q_imul hC dX3_inheritedField_27 rfl ?_
            refine q_iload_n hC 3 dX3_inheritedField_28 rfl rfl ?_
            refine q_iadd hC dX3_inheritedField_29 rfl ?_
            refine q_iald hC dX3_inheritedField_30 rfl hi (z_in36 ⟨_, by decide, rfl⟩ hc) rfl ?_
            refine q_iconst hC dX3_inheritedField_31 (v := (-1)) (by decide) rfl ?_
            refine q_icmp_eq hC dX3_inheritedField_32 (t := 48) (n := 35) (by decide) rfl (fun h32_32 => ?_) (fun h32_32 => ?_)
            · refine q_iinc hC 4 dX3_inheritedField_48 rfl (v := 4) (by decide) (by decide) (ls' := [(0, _), (1, _), (2, _), (3, _), (4, _)]) rfl rfl ?_
              refine q_goto hC dX3_inheritedField_51 (n := 3) (by decide) ?_
              refine q_iload hC 4 dX3_inheritedField_3 rfl rfl ?_
              refine q_iconst hC dX3_inheritedField_5 (v := 5) (by decide) rfl ?_
              refine q_icmp_ge hC dX3_inheritedField_6 (t := 54) (n := 9) (by decide) rfl (fun h => absurd h (by decide)) (fun _ => ?_)
              refine q_iload_n hC 1 dX3_inheritedField_9 rfl rfl ?_
              refine q_iload hC 4 dX3_inheritedField_10 rfl rfl ?_
              refine q_ishr hC dX3_inheritedField_12 rfl ?_
              refine q_iconst hC dX3_inheritedField_13 (v := 1) (by decide) rfl ?_
              refine q_iand hC dX3_inheritedField_14 rfl ?_
              refine q_iconst hC dX3_inheritedField_15 (v := 1) (by decide) rfl ?_
              refine q_icmp_ne hC dX3_inheritedField_16 (t := 48) (n := 19) (by decide) rfl (fun h16_33 => ?_) (fun h16_33 => ?_)
              · refine q_iinc hC 4 dX3_inheritedField_48 rfl (v := 5) (by decide) (by decide) (ls' := [(0, _), (1, _), (2, _), (3, _), (4, _)]) rfl rfl ?_
                refine q_goto hC dX3_inheritedField_51 (n := 3) (by decide) ?_
                refine q_iload hC 4 dX3_inheritedField_3 rfl rfl ?_
                refine q_iconst hC dX3_inheritedField_5 (v := 5) (by decide) rfl ?_
                refine q_icmp_ge hC dX3_inheritedField_6 (t := 54) (n := 9) (by decide) rfl (fun _ => ?_) (fun h => absurd (by decide) h)
                refine q_iload_n hC 2 dX3_inheritedField_54 rfl rfl ?_
                refine q_iconst hC dX3_inheritedField_55 (v := (-1)) (by decide) rfl ?_
                refine q_icmp_ne hC dX3_inheritedField_56 (t := 63) (n := 59) (by decide) rfl (fun h56_34 => ?_) (fun h56_34 => ?_)
                · refine q_aload_n hC 0 dX3_inheritedField_63 rfl rfl ?_
                  refine q_get_f hC f_X3_33 dX3_inheritedField_64 rfl rfl hi rfl ?_
                  refine q_iload_n hC 2 dX3_inheritedField_67 rfl rfl ?_
                  refine q_bipush hC dX3_inheritedField_68 (v := 6) (by decide) rfl ?_
                  refine q_imul hC dX3_inheritedField_70 rfl ?_
                  refine q_iload_n hC 3 dX3_inheritedField_71 rfl rfl ?_
                  refine q_iadd hC dX3_inheritedField_72 rfl ?_
                  refine q_iald hC dX3_inheritedField_73 rfl hi (z_in36 (hb.elim (fun z => absurd z (by assumption)) (fun z => z.elim fun j hj => ⟨j, by omega, hj.2⟩)) hc) rfl ?_
                  refine q_iret hC dX3_inheritedField_74 rfl ⟨by decide, by decide⟩ ⟨_, rfl, ?_⟩
                  exact ⟨by simp only [z_inh, z_inhS, z_inhF, z_bit, z_pl, if_true, if_false, *], rfl⟩
                · refine q_iconst hC dX3_inheritedField_59 (v := (-1)) (by decide) rfl ?_
                  refine q_goto hC dX3_inheritedField_60 (n := 74) (by decide) ?_
                  refine q_iret hC dX3_inheritedField_74 rfl ⟨by decide, by decide⟩ ⟨_, rfl, ?_⟩
                  exact ⟨by simp only [z_inh, z_inhS, z_inhF, z_bit, z_pl, if_true, if_false, *], rfl⟩
              · refine q_aload_n hC 0 dX3_inheritedField_19 rfl rfl ?_
                refine q_get_f hC f_X3_33 dX3_inheritedField_20 rfl rfl hi rfl ?_
                refine q_iload hC 4 dX3_inheritedField_23 rfl rfl ?_
                refine q_bipush hC dX3_inheritedField_25 (v := 6) (by decide) rfl ?_
                refine q_imul hC dX3_inheritedField_27 rfl ?_
                refine q_iload_n hC 3 dX3_inheritedField_28 rfl rfl ?_
                refine q_iadd hC dX3_inheritedField_29 rfl ?_
                refine q_iald hC dX3_inheritedField_30 rfl hi (z_in36 ⟨_, by decide, rfl⟩ hc) rfl ?_
                refine q_iconst hC dX3_inheritedField_31 (v := (-1)) (by decide) rfl ?_
                refine q_icmp_eq hC dX3_inheritedField_32 (t := 48) (n := 35) (by decide) rfl (fun h32_35 => ?_) (fun h32_35 => ?_)
                · refine q_iinc hC 4 dX3_inheritedField_48 rfl (v := 5) (by decide) (by decide) (ls' := [(0, _), (1, _), (2, _), (3, _), (4, _)]) rfl rfl ?_
                  refine q_goto hC dX3_inheritedField_51 (n := 3) (by decide) ?_
                  refine q_iload hC 4 dX3_inheritedField_3 rfl rfl ?_
                  refine q_iconst hC dX3_inheritedField_5 (v := 5) (by decide) rfl ?_
                  refine q_icmp_ge hC dX3_inheritedField_6 (t := 54) (n := 9) (by decide) rfl (fun _ => ?_) (fun h => absurd (by decide) h)
                  refine q_iload_n hC 2 dX3_inheritedField_54 rfl rfl ?_
                  refine q_iconst hC dX3_inheritedField_55 (v := (-1)) (by decide) rfl ?_
                  refine q_icmp_ne hC dX3_inheritedField_56 (t := 63) (n := 59) (by decide) rfl (fun h56_36 => ?_) (fun h56_36 => ?_)
                  · refine q_aload_n hC 0 dX3_inheritedField_63 rfl rfl ?_
                    refine q_get_f hC f_X3_33 dX3_inheritedField_64 rfl rfl hi rfl ?_
                    refine q_iload_n hC 2 dX3_inheritedField_67 rfl rfl ?_
                    refine q_bipush hC dX3_inheritedField_68 (v := 6) (by decide) rfl ?_
                    refine q_imul hC dX3_inheritedField_70 rfl ?_
                    refine q_iload_n hC 3 dX3_inheritedField_71 rfl rfl ?_
                    refine q_iadd hC dX3_inheritedField_72 rfl ?_
                    refine q_iald hC dX3_inheritedField_73 rfl hi (z_in36 (hb.elim (fun z => absurd z (by assumption)) (fun z => z.elim fun j hj => ⟨j, by omega, hj.2⟩)) hc) rfl ?_
                    refine q_iret hC dX3_inheritedField_74 rfl ⟨by decide, by decide⟩ ⟨_, rfl, ?_⟩
                    exact ⟨by simp only [z_inh, z_inhS, z_inhF, z_bit, z_pl, if_true, if_false, *], rfl⟩
                  · refine q_iconst hC dX3_inheritedField_59 (v := (-1)) (by decide) rfl ?_
                    refine q_goto hC dX3_inheritedField_60 (n := 74) (by decide) ?_
                    refine q_iret hC dX3_inheritedField_74 rfl ⟨by decide, by decide⟩ ⟨_, rfl, ?_⟩
                    exact ⟨by simp only [z_inh, z_inhS, z_inhF, z_bit, z_pl, if_true, if_false, *], rfl⟩
                · refine q_aload_n hC 0 dX3_inheritedField_35 rfl rfl ?_
                  refine q_get_f hC f_X3_33 dX3_inheritedField_36 rfl rfl hi rfl ?_
                  refine q_iload hC 4 dX3_inheritedField_39 rfl rfl ?_
                  refine q_bipush hC dX3_inheritedField_41 (v := 6) (by decide) rfl ?_
                  refine q_imul hC dX3_inheritedField_43 rfl ?_
                  refine q_iload_n hC 3 dX3_inheritedField_44 rfl rfl ?_
                  refine q_iadd hC dX3_inheritedField_45 rfl ?_
                  refine q_iald hC dX3_inheritedField_46 rfl hi (z_in36 ⟨_, by decide, rfl⟩ hc) rfl ?_
                  refine q_iret hC dX3_inheritedField_47 rfl ⟨by decide, by decide⟩ ⟨_, rfl, ?_⟩
                  exact ⟨by simp only [z_inh, z_inhS, z_inhF, z_bit, z_pl, if_true, if_false, *], rfl⟩
            · refine q_aload_n hC 0 dX3_inheritedField_35 rfl rfl ?_
              refine q_get_f hC f_X3_33 dX3_inheritedField_36 rfl rfl hi rfl ?_
              refine q_iload hC 4 dX3_inheritedField_39 rfl rfl ?_
              refine q_bipush hC dX3_inheritedField_41 (v := 6) (by decide) rfl ?_
              refine q_imul hC dX3_inheritedField_43 rfl ?_
              refine q_iload_n hC 3 dX3_inheritedField_44 rfl rfl ?_
              refine q_iadd hC dX3_inheritedField_45 rfl ?_
              refine q_iald hC dX3_inheritedField_46 rfl hi (z_in36 ⟨_, by decide, rfl⟩ hc) rfl ?_
              refine q_iret hC dX3_inheritedField_47 rfl ⟨by decide, by decide⟩ ⟨_, rfl, ?_⟩
              exact ⟨by simp only [z_inh, z_inhS, z_inhF, z_bit, z_pl, if_true, if_false, *], rfl⟩
        · refine q_aload_n hC 0 dX3_inheritedField_19 rfl rfl ?_
          refine q_get_f hC f_X3_33 dX3_inheritedField_20 rfl rfl hi rfl ?_
          refine q_iload hC 4 dX3_inheritedField_23 rfl rfl ?_
          refine q_bipush hC dX3_inheritedField_25 (v := 6) (by decide) rfl ?_
          refine q_imul hC dX3_inheritedField_27 rfl ?_
          refine q_iload_n hC 3 dX3_inheritedField_28 rfl rfl ?_
          refine q_iadd hC dX3_inheritedField_29 rfl ?_
          refine q_iald hC dX3_inheritedField_30 rfl hi (z_in36 ⟨_, by decide, rfl⟩ hc) rfl ?_
          refine q_iconst hC dX3_inheritedField_31 (v := (-1)) (by decide) rfl ?_
          refine q_icmp_eq hC dX3_inheritedField_32 (t := 48) (n := 35) (by decide) rfl (fun h32_37 => ?_) (fun h32_37 => ?_)
          · refine q_iinc hC 4 dX3_inheritedField_48 rfl (v := 3) (by decide) (by decide) (ls' := [(0, _), (1, _), (2, _), (3, _), (4, _)]) rfl rfl ?_
            refine q_goto hC dX3_inheritedField_51 (n := 3) (by decide) ?_
            refine q_iload hC 4 dX3_inheritedField_3 rfl rfl ?_
            refine q_iconst hC dX3_inheritedField_5 (v := 5) (by decide) rfl ?_
            refine q_icmp_ge hC dX3_inheritedField_6 (t := 54) (n := 9) (by decide) rfl (fun h => absurd h (by decide)) (fun _ => ?_)
            refine q_iload_n hC 1 dX3_inheritedField_9 rfl rfl ?_
            refine q_iload hC 4 dX3_inheritedField_10 rfl rfl ?_
            refine q_ishr hC dX3_inheritedField_12 rfl ?_
            refine q_iconst hC dX3_inheritedField_13 (v := 1) (by decide) rfl ?_
            refine q_iand hC dX3_inheritedField_14 rfl ?_
            refine q_iconst hC dX3_inheritedField_15 (v := 1) (by decide) rfl ?_
            refine q_icmp_ne hC dX3_inheritedField_16 (t := 48) (n := 19) (by decide) rfl (fun h16_38 => ?_) (fun h16_38 => ?_)
            · refine q_iinc hC 4 dX3_inheritedField_48 rfl (v := 4) (by decide) (by decide) (ls' := [(0, _), (1, _), (2, _), (3, _), (4, _)]) rfl rfl ?_
              refine q_goto hC dX3_inheritedField_51 (n := 3) (by decide) ?_
              refine q_iload hC 4 dX3_inheritedField_3 rfl rfl ?_
              refine q_iconst hC dX3_inheritedField_5 (v := 5) (by decide) rfl ?_
              refine q_icmp_ge hC dX3_inheritedField_6 (t := 54) (n := 9) (by decide) rfl (fun h => absurd h (by decide)) (fun _ => ?_)
              refine q_iload_n hC 1 dX3_inheritedField_9 rfl rfl ?_
              refine q_iload hC 4 dX3_inheritedField_10 rfl rfl ?_
              refine q_ishr hC dX3_inheritedField_12 rfl ?_
              refine q_iconst hC dX3_inheritedField_13 (v := 1) (by decide) rfl ?_
              refine q_iand hC dX3_inheritedField_14 rfl ?_
              refine q_iconst hC dX3_inheritedField_15 (v := 1) (by decide) rfl ?_
              refine q_icmp_ne hC dX3_inheritedField_16 (t := 48) (n := 19) (by decide) rfl (fun h16_39 => ?_) (fun h16_39 => ?_)
              · refine q_iinc hC 4 dX3_inheritedField_48 rfl (v := 5) (by decide) (by decide) (ls' := [(0, _), (1, _), (2, _), (3, _), (4, _)]) rfl rfl ?_
                refine q_goto hC dX3_inheritedField_51 (n := 3) (by decide) ?_
                refine q_iload hC 4 dX3_inheritedField_3 rfl rfl ?_
                refine q_iconst hC dX3_inheritedField_5 (v := 5) (by decide) rfl ?_
                refine q_icmp_ge hC dX3_inheritedField_6 (t := 54) (n := 9) (by decide) rfl (fun _ => ?_) (fun h => absurd (by decide) h)
                refine q_iload_n hC 2 dX3_inheritedField_54 rfl rfl ?_
                refine q_iconst hC dX3_inheritedField_55 (v := (-1)) (by decide) rfl ?_
                refine q_icmp_ne hC dX3_inheritedField_56 (t := 63) (n := 59) (by decide) rfl (fun h56_40 => ?_) (fun h56_40 => ?_)
                · refine q_aload_n hC 0 dX3_inheritedField_63 rfl rfl ?_
                  refine q_get_f hC f_X3_33 dX3_inheritedField_64 rfl rfl hi rfl ?_
                  refine q_iload_n hC 2 dX3_inheritedField_67 rfl rfl ?_
                  refine q_bipush hC dX3_inheritedField_68 (v := 6) (by decide) rfl ?_
                  refine q_imul hC dX3_inheritedField_70 rfl ?_
                  refine q_iload_n hC 3 dX3_inheritedField_71 rfl rfl ?_
                  refine q_iadd hC dX3_inheritedField_72 rfl ?_
                  refine q_iald hC dX3_inheritedField_73 rfl hi (z_in36 (hb.elim (fun z => absurd z (by assumption)) (fun z => z.elim fun j hj => ⟨j, by omega, hj.2⟩)) hc) rfl ?_
                  refine q_iret hC dX3_inheritedField_74 rfl ⟨by decide, by decide⟩ ⟨_, rfl, ?_⟩
                  exact ⟨by simp only [z_inh, z_inhS, z_inhF, z_bit, z_pl, if_true, if_false, *], rfl⟩
                · refine q_iconst hC dX3_inheritedField_59 (v := (-1)) (by decide) rfl ?_
                  refine q_goto hC dX3_inheritedField_60 (n := 74) (by decide) ?_
                  refine q_iret hC dX3_inheritedField_74 rfl ⟨by decide, by decide⟩ ⟨_, rfl, ?_⟩
                  exact ⟨by simp only [z_inh, z_inhS, z_inhF, z_bit, z_pl, if_true, if_false, *], rfl⟩
              · refine q_aload_n hC 0 dX3_inheritedField_19 rfl rfl ?_
                refine q_get_f hC f_X3_33 dX3_inheritedField_20 rfl rfl hi rfl ?_
                refine q_iload hC 4 dX3_inheritedField_23 rfl rfl ?_
                refine q_bipush hC dX3_inheritedField_25 (v := 6) (by decide) rfl ?_
                refine q_imul hC dX3_inheritedField_27 rfl ?_
                refine q_iload_n hC 3 dX3_inheritedField_28 rfl rfl ?_
                refine q_iadd hC dX3_inheritedField_29 rfl ?_
                refine q_iald hC dX3_inheritedField_30 rfl hi (z_in36 ⟨_, by decide, rfl⟩ hc) rfl ?_
                refine q_iconst hC dX3_inheritedField_31 (v := (-1)) (by decide) rfl ?_
                refine q_icmp_eq hC dX3_inheritedField_32 (t := 48) (n := 35) (by decide) rfl (fun h32_41 => ?_) (fun h32_41 => ?_)
                · refine q_iinc hC 4 dX3_inheritedField_48 rfl (v := 5) (by decide) (by decide) (ls' := [(0, _), (1, _), (2, _), (3, _), (4, _)]) rfl rfl ?_
                  refine q_goto hC dX3_inheritedField_51 (n := 3) (by decide) ?_
                  refine q_iload hC 4 dX3_inheritedField_3 rfl rfl ?_
                  refine q_iconst hC dX3_inheritedField_5 (v := 5) (by decide) rfl ?_
                  refine q_icmp_ge hC dX3_inheritedField_6 (t := 54) (n := 9) (by decide) rfl (fun _ => ?_) (fun h => absurd (by decide) h)
                  refine q_iload_n hC 2 dX3_inheritedField_54 rfl rfl ?_
                  refine q_iconst hC dX3_inheritedField_55 (v := (-1)) (by decide) rfl ?_
                  refine q_icmp_ne hC dX3_inheritedField_56 (t := 63) (n := 59) (by decide) rfl (fun h56_42 => ?_) (fun h56_42 => ?_)
                  · refine q_aload_n hC 0 dX3_inheritedField_63 rfl rfl ?_
                    refine q_get_f hC f_X3_33 dX3_inheritedField_64 rfl rfl hi rfl ?_
                    refine q_iload_n hC 2 dX3_inheritedField_67 rfl rfl ?_
                    refine q_bipush hC dX3_inheritedField_68 (v := 6) (by decide) rfl ?_
                    refine q_imul hC dX3_inheritedField_70 rfl ?_
                    refine q_iload_n hC 3 dX3_inheritedField_71 rfl rfl ?_
                    refine q_iadd hC dX3_inheritedField_72 rfl ?_
                    refine q_iald hC dX3_inheritedField_73 rfl hi (z_in36 (hb.elim (fun z => absurd z (by assumption)) (fun z => z.elim fun j hj => ⟨j, by omega, hj.2⟩)) hc) rfl ?_
                    refine q_iret hC dX3_inheritedField_74 rfl ⟨by decide, by decide⟩ ⟨_, rfl, ?_⟩
                    exact ⟨by simp only [z_inh, z_inhS, z_inhF, z_bit, z_pl, if_true, if_false, *], rfl⟩
                  · refine q_iconst hC dX3_inheritedField_59 (v := (-1)) (by decide) rfl ?_
                    refine q_goto hC dX3_inheritedField_60 (n := 74) (by decide) ?_
                    refine q_iret hC dX3_inheritedField_74 rfl ⟨by decide, by decide⟩ ⟨_, rfl, ?_⟩
                    exact ⟨by simp only [z_inh, z_inhS, z_inhF, z_bit, z_pl, if_true, if_false, *], rfl⟩
                · refine q_aload_n hC 0 dX3_inheritedField_35 rfl rfl ?_
                  refine q_get_f hC f_X3_33 dX3_inheritedField_36 rfl rfl hi rfl ?_
                  refine q_iload hC 4 dX3_inheritedField_39 rfl rfl ?_
                  refine q_bipush hC dX3_inheritedField_41 (v := 6) (by decide) rfl ?_
                  refine q_imul hC dX3_inheritedField_43 rfl ?_
                  refine q_iload_n hC 3 dX3_inheritedField_44 rfl rfl ?_
                  refine q_iadd hC dX3_inheritedField_45 rfl ?_
                  refine q_iald hC dX3_inheritedField_46 rfl hi (z_in36 ⟨_, by decide, rfl⟩ hc) rfl ?_
                  refine q_iret hC dX3_inheritedField_47 rfl ⟨by decide, by decide⟩ ⟨_, rfl, ?_⟩
                  exact ⟨by simp only [z_inh, z_inhS, z_inhF, z_bit, z_pl, if_true, if_false, *], rfl⟩
            · refine q_aload_n hC 0 dX3_inheritedField_19 rfl rfl ?_
              refine q_get_f hC f_X3_33 dX3_inheritedField_20 rfl rfl hi rfl ?_
              refine q_iload hC 4 dX3_inheritedField_23 rfl rfl ?_
              refine q_bipush hC dX3_inheritedField_25 (v := 6) (by decide) rfl ?_
              refine q_imul hC dX3_inheritedField_27 rfl ?_
              refine q_iload_n hC 3 dX3_inheritedField_28 rfl rfl ?_
              refine q_iadd hC dX3_inheritedField_29 rfl ?_
              refine q_iald hC dX3_inheritedField_30 rfl hi (z_in36 ⟨_, by decide, rfl⟩ hc) rfl ?_
              refine q_iconst hC dX3_inheritedField_31 (v := (-1)) (by decide) rfl ?_
              refine q_icmp_eq hC dX3_inheritedField_32 (t := 48) (n := 35) (by decide) rfl (fun h32_43 => ?_) (fun h32_43 => ?_)
              · refine q_iinc hC 4 dX3_inheritedField_48 rfl (v := 4) (by decide) (by decide) (ls' := [(0, _), (1, _), (2, _), (3, _), (4, _)]) rfl rfl ?_
                refine q_goto hC dX3_inheritedField_51 (n := 3) (by decide) ?_
                refine q_iload hC 4 dX3_inheritedField_3 rfl rfl ?_
                refine q_iconst hC dX3_inheritedField_5 (v := 5) (by decide) rfl ?_
                refine q_icmp_ge hC dX3_inheritedField_6 (t := 54) (n := 9) (by decide) rfl (fun h => absurd h (by decide)) (fun _ => ?_)
                refine q_iload_n hC 1 dX3_inheritedField_9 rfl rfl ?_
                refine q_iload hC 4 dX3_inheritedField_10 rfl rfl ?_
                refine q_ishr hC dX3_inheritedField_12 rfl ?_
                refine q_iconst hC dX3_inheritedField_13 (v := 1) (by decide) rfl ?_
                refine q_iand hC dX3_inheritedField_14 rfl ?_
                refine q_iconst hC dX3_inheritedField_15 (v := 1) (by decide) rfl ?_
                refine q_icmp_ne hC dX3_inheritedField_16 (t := 48) (n := 19) (by decide) rfl (fun h16_44 => ?_) (fun h16_44 => ?_)
                · refine q_iinc hC 4 dX3_inheritedField_48 rfl (v := 5) (by decide) (by decide) (ls' := [(0, _), (1, _), (2, _), (3, _), (4, _)]) rfl rfl ?_
                  refine q_goto hC dX3_inheritedField_51 (n := 3) (by decide) ?_
                  refine q_iload hC 4 dX3_inheritedField_3 rfl rfl ?_
                  refine q_iconst hC dX3_inheritedField_5 (v := 5) (by decide) rfl ?_
                  refine q_icmp_ge hC dX3_inheritedField_6 (t := 54) (n := 9) (by decide) rfl (fun _ => ?_) (fun h => absurd (by decide) h)
                  refine q_iload_n hC 2 dX3_inheritedField_54 rfl rfl ?_
                  refine q_iconst hC dX3_inheritedField_55 (v := (-1)) (by decide) rfl ?_
                  refine q_icmp_ne hC dX3_inheritedField_56 (t := 63) (n := 59) (by decide) rfl (fun h56_45 => ?_) (fun h56_45 => ?_)
                  · refine q_aload_n hC 0 dX3_inheritedField_63 rfl rfl ?_
                    refine q_get_f hC f_X3_33 dX3_inheritedField_64 rfl rfl hi rfl ?_
                    refine q_iload_n hC 2 dX3_inheritedField_67 rfl rfl ?_
                    refine q_bipush hC dX3_inheritedField_68 (v := 6) (by decide) rfl ?_
                    refine q_imul hC dX3_inheritedField_70 rfl ?_
                    refine q_iload_n hC 3 dX3_inheritedField_71 rfl rfl ?_
                    refine q_iadd hC dX3_inheritedField_72 rfl ?_
                    refine q_iald hC dX3_inheritedField_73 rfl hi (z_in36 (hb.elim (fun z => absurd z (by assumption)) (fun z => z.elim fun j hj => ⟨j, by omega, hj.2⟩)) hc) rfl ?_
                    refine q_iret hC dX3_inheritedField_74 rfl ⟨by decide, by decide⟩ ⟨_, rfl, ?_⟩
                    exact ⟨by simp only [z_inh, z_inhS, z_inhF, z_bit, z_pl, if_true, if_false, *], rfl⟩
                  · refine q_iconst hC dX3_inheritedField_59 (v := (-1)) (by decide) rfl ?_
                    refine q_goto hC dX3_inheritedField_60 (n := 74) (by decide) ?_
                    refine q_iret hC dX3_inheritedField_74 rfl ⟨by decide, by decide⟩ ⟨_, rfl, ?_⟩
                    exact ⟨by simp only [z_inh, z_inhS, z_inhF, z_bit, z_pl, if_true, if_false, *], rfl⟩
                · refine q_aload_n hC 0 dX3_inheritedField_19 rfl rfl ?_
                  refine q_get_f hC f_X3_33 dX3_inheritedField_20 rfl rfl hi rfl ?_
                  refine q_iload hC 4 dX3_inheritedField_23 rfl rfl ?_
                  refine q_bipush hC dX3_inheritedField_25 (v := 6) (by decide) rfl ?_
                  refine q_imul hC dX3_inheritedField_27 rfl ?_
                  refine q_iload_n hC 3 dX3_inheritedField_28 rfl rfl ?_
                  refine q_iadd hC dX3_inheritedField_29 rfl ?_
                  refine q_iald hC dX3_inheritedField_30 rfl hi (z_in36 ⟨_, by decide, rfl⟩ hc) rfl ?_
                  refine q_iconst hC dX3_inheritedField_31 (v := (-1)) (by decide) rfl ?_
                  refine q_icmp_eq hC dX3_inheritedField_32 (t := 48) (n := 35) (by decide) rfl (fun h32_46 => ?_) (fun h32_46 => ?_)
                  · refine q_iinc hC 4 dX3_inheritedField_48 rfl (v := 5) (by decide) (by decide) (ls' := [(0, _), (1, _), (2, _), (3, _), (4, _)]) rfl rfl ?_
                    refine q_goto hC dX3_inheritedField_51 (n := 3) (by decide) ?_
                    refine q_iload hC 4 dX3_inheritedField_3 rfl rfl ?_
                    refine q_iconst hC dX3_inheritedField_5 (v := 5) (by decide) rfl ?_
                    refine q_icmp_ge hC dX3_inheritedField_6 (t := 54) (n := 9) (by decide) rfl (fun _ => ?_) (fun h => absurd (by decide) h)
                    refine q_iload_n hC 2 dX3_inheritedField_54 rfl rfl ?_
                    refine q_iconst hC dX3_inheritedField_55 (v := (-1)) (by decide) rfl ?_
                    refine q_icmp_ne hC dX3_inheritedField_56 (t := 63) (n := 59) (by decide) rfl (fun h56_47 => ?_) (fun h56_47 => ?_)
                    · refine q_aload_n hC 0 dX3_inheritedField_63 rfl rfl ?_
                      refine q_get_f hC f_X3_33 dX3_inheritedField_64 rfl rfl hi rfl ?_
                      refine q_iload_n hC 2 dX3_inheritedField_67 rfl rfl ?_
                      refine q_bipush hC dX3_inheritedField_68 (v := 6) (by decide) rfl ?_
                      refine q_imul hC dX3_inheritedField_70 rfl ?_
                      refine q_iload_n hC 3 dX3_inheritedField_71 rfl rfl ?_
                      refine q_iadd hC dX3_inheritedField_72 rfl ?_
                      refine q_iald hC dX3_inheritedField_73 rfl hi (z_in36 (hb.elim (fun z => absurd z (by assumption)) (fun z => z.elim fun j hj => ⟨j, by omega, hj.2⟩)) hc) rfl ?_
                      refine q_iret hC dX3_inheritedField_74 rfl ⟨by decide, by decide⟩ ⟨_, rfl, ?_⟩
                      exact ⟨by simp only [z_inh, z_inhS, z_inhF, z_bit, z_pl, if_true, if_false, *], rfl⟩
                    · refine q_iconst hC dX3_inheritedField_59 (v := (-1)) (by decide) rfl ?_
                      refine q_goto hC dX3_inheritedField_60 (n := 74) (by decide) ?_
                      refine q_iret hC dX3_inheritedField_74 rfl ⟨by decide, by decide⟩ ⟨_, rfl, ?_⟩
                      exact ⟨by simp only [z_inh, z_inhS, z_inhF, z_bit, z_pl, if_true, if_false, *], rfl⟩
                  · refine q_aload_n hC 0 dX3_inheritedField_35 rfl rfl ?_
                    refine q_get_f hC f_X3_33 dX3_inheritedField_36 rfl rfl hi rfl ?_
                    refine q_iload hC 4 dX3_inheritedField_39 rfl rfl ?_
                    refine q_bipush hC dX3_inheritedField_41 (v := 6) (by decide) rfl ?_
                    refine q_imul hC dX3_inheritedField_43 rfl ?_
                    refine q_iload_n hC 3 dX3_inheritedField_44 rfl rfl ?_
                    refine q_iadd hC dX3_inheritedField_45 rfl ?_
                    refine q_iald hC dX3_inheritedField_46 rfl hi (z_in36 ⟨_, by decide, rfl⟩ hc) rfl ?_
                    refine q_iret hC dX3_inheritedField_47 rfl ⟨by decide, by decide⟩ ⟨_, rfl, ?_⟩
                    exact ⟨by simp only [z_inh, z_inhS, z_inhF, z_bit, z_pl, if_true, if_false, *], rfl⟩
              · refine q_aload_n hC 0 dX3_inheritedField_35 rfl rfl ?_
                refine q_get_f hC f_X3_33 dX3_inheritedField_36 rfl rfl hi rfl ?_
                refine q_iload hC 4 dX3_inheritedField_39 rfl rfl ?_
                refine q_bipush hC dX3_inheritedField_41 (v := 6) (by decide) rfl ?_
                refine q_imul hC dX3_inheritedField_43 rfl ?_
                refine q_iload_n hC 3 dX3_inheritedField_44 rfl rfl ?_
                refine q_iadd hC dX3_inheritedField_45 rfl ?_
                refine q_iald hC dX3_inheritedField_46 rfl hi (z_in36 ⟨_, by decide, rfl⟩ hc) rfl ?_
                refine q_iret hC dX3_inheritedField_47 rfl ⟨by decide, by decide⟩ ⟨_, rfl, ?_⟩
                exact ⟨by simp only [z_inh, z_inhS, z_inhF, z_bit, z_pl, if_true, if_false, *], rfl⟩
          · refine q_aload_n hC 0 dX3_inheritedField_35 rfl rfl ?_
            refine q_get_f hC f_X3_33 dX3_inheritedField_36 rfl rfl hi rfl ?_
            refine q_iload hC 4 dX3_inheritedField_39 rfl rfl ?_
            refine q_bipush hC dX3_inheritedField_41 (v := 6) (by decide) rfl ?_
            refine q_imul hC dX3_inheritedField_43 rfl ?_
            refine q_iload_n hC 3 dX3_inheritedField_44 rfl rfl ?_
            refine q_iadd hC dX3_inheritedField_45 rfl ?_
            refine q_iald hC dX3_inheritedField_46 rfl hi (z_in36 ⟨_, by decide, rfl⟩ hc) rfl ?_
            refine q_iret hC dX3_inheritedField_47 rfl ⟨by decide, by decide⟩ ⟨_, rfl, ?_⟩
            exact ⟨by simp only [z_inh, z_inhS, z_inhF, z_bit, z_pl, if_true, if_false, *], rfl⟩
      · refine q_aload_n hC 0 dX3_inheritedField_35 rfl rfl ?_
        refine q_get_f hC f_X3_33 dX3_inheritedField_36 rfl rfl hi rfl ?_
        refine q_iload hC 4 dX3_inheritedField_39 rfl rfl ?_
        refine q_bipush hC dX3_inheritedField_41 (v := 6) (by decide) rfl ?_
        refine q_imul hC dX3_inheritedField_43 rfl ?_
        refine q_iload_n hC 3 dX3_inheritedField_44 rfl rfl ?_
        refine q_iadd hC dX3_inheritedField_45 rfl ?_
        refine q_iald hC dX3_inheritedField_46 rfl hi (z_in36 ⟨_, by decide, rfl⟩ hc) rfl ?_
        refine q_iret hC dX3_inheritedField_47 rfl ⟨by decide, by decide⟩ ⟨_, rfl, ?_⟩
        exact ⟨by simp only [z_inh, z_inhS, z_inhF, z_bit, z_pl, if_true, if_false, *], rfl⟩
  · refine q_aload_n hC 0 dX3_inheritedField_19 rfl rfl ?_
    refine q_get_f hC f_X3_33 dX3_inheritedField_20 rfl rfl hi rfl ?_
    refine q_iload hC 4 dX3_inheritedField_23 rfl rfl ?_
    refine q_bipush hC dX3_inheritedField_25 (v := 6) (by decide) rfl ?_
    refine q_imul hC dX3_inheritedField_27 rfl ?_
    refine q_iload_n hC 3 dX3_inheritedField_28 rfl rfl ?_
    refine q_iadd hC dX3_inheritedField_29 rfl ?_
    refine q_iald hC dX3_inheritedField_30 rfl hi (z_in36 ⟨_, by decide, rfl⟩ hc) rfl ?_
    refine q_iconst hC dX3_inheritedField_31 (v := (-1)) (by decide) rfl ?_
    refine q_icmp_eq hC dX3_inheritedField_32 (t := 48) (n := 35) (by decide) rfl (fun h32_48 => ?_) (fun h32_48 => ?_)
    · refine q_iinc hC 4 dX3_inheritedField_48 rfl (v := 1) (by decide) (by decide) (ls' := [(0, _), (1, _), (2, _), (3, _), (4, _)]) rfl rfl ?_
      refine q_goto hC dX3_inheritedField_51 (n := 3) (by decide) ?_
      refine q_iload hC 4 dX3_inheritedField_3 rfl rfl ?_
      refine q_iconst hC dX3_inheritedField_5 (v := 5) (by decide) rfl ?_
      refine q_icmp_ge hC dX3_inheritedField_6 (t := 54) (n := 9) (by decide) rfl (fun h => absurd h (by decide)) (fun _ => ?_)
      refine q_iload_n hC 1 dX3_inheritedField_9 rfl rfl ?_
      refine q_iload hC 4 dX3_inheritedField_10 rfl rfl ?_
      refine q_ishr hC dX3_inheritedField_12 rfl ?_
      refine q_iconst hC dX3_inheritedField_13 (v := 1) (by decide) rfl ?_
      refine q_iand hC dX3_inheritedField_14 rfl ?_
      refine q_iconst hC dX3_inheritedField_15 (v := 1) (by decide) rfl ?_
      refine q_icmp_ne hC dX3_inheritedField_16 (t := 48) (n := 19) (by decide) rfl (fun h16_49 => ?_) (fun h16_49 => ?_)
      · refine q_iinc hC 4 dX3_inheritedField_48 rfl (v := 2) (by decide) (by decide) (ls' := [(0, _), (1, _), (2, _), (3, _), (4, _)]) rfl rfl ?_
        refine q_goto hC dX3_inheritedField_51 (n := 3) (by decide) ?_
        refine q_iload hC 4 dX3_inheritedField_3 rfl rfl ?_
        refine q_iconst hC dX3_inheritedField_5 (v := 5) (by decide) rfl ?_
        refine q_icmp_ge hC dX3_inheritedField_6 (t := 54) (n := 9) (by decide) rfl (fun h => absurd h (by decide)) (fun _ => ?_)
        refine q_iload_n hC 1 dX3_inheritedField_9 rfl rfl ?_
        refine q_iload hC 4 dX3_inheritedField_10 rfl rfl ?_
        refine q_ishr hC dX3_inheritedField_12 rfl ?_
        refine q_iconst hC dX3_inheritedField_13 (v := 1) (by decide) rfl ?_
        refine q_iand hC dX3_inheritedField_14 rfl ?_
        refine q_iconst hC dX3_inheritedField_15 (v := 1) (by decide) rfl ?_
        refine q_icmp_ne hC dX3_inheritedField_16 (t := 48) (n := 19) (by decide) rfl (fun h16_50 => ?_) (fun h16_50 => ?_)
        · refine q_iinc hC 4 dX3_inheritedField_48 rfl (v := 3) (by decide) (by decide) (ls' := [(0, _), (1, _), (2, _), (3, _), (4, _)]) rfl rfl ?_
          refine q_goto hC dX3_inheritedField_51 (n := 3) (by decide) ?_
          refine q_iload hC 4 dX3_inheritedField_3 rfl rfl ?_
          refine q_iconst hC dX3_inheritedField_5 (v := 5) (by decide) rfl ?_
          refine q_icmp_ge hC dX3_inheritedField_6 (t := 54) (n := 9) (by decide) rfl (fun h => absurd h (by decide)) (fun _ => ?_)
          refine q_iload_n hC 1 dX3_inheritedField_9 rfl rfl ?_
          refine q_iload hC 4 dX3_inheritedField_10 rfl rfl ?_
          refine q_ishr hC dX3_inheritedField_12 rfl ?_
          refine q_iconst hC dX3_inheritedField_13 (v := 1) (by decide) rfl ?_
          refine q_iand hC dX3_inheritedField_14 rfl ?_
          refine q_iconst hC dX3_inheritedField_15 (v := 1) (by decide) rfl ?_
          refine q_icmp_ne hC dX3_inheritedField_16 (t := 48) (n := 19) (by decide) rfl (fun h16_51 => ?_) (fun h16_51 => ?_)
          · refine q_iinc hC 4 dX3_inheritedField_48 rfl (v := 4) (by decide) (by decide) (ls' := [(0, _), (1, _), (2, _), (3, _), (4, _)]) rfl rfl ?_
            refine q_goto hC dX3_inheritedField_51 (n := 3) (by decide) ?_
            refine q_iload hC 4 dX3_inheritedField_3 rfl rfl ?_
            refine q_iconst hC dX3_inheritedField_5 (v := 5) (by decide) rfl ?_
            refine q_icmp_ge hC dX3_inheritedField_6 (t := 54) (n := 9) (by decide) rfl (fun h => absurd h (by decide)) (fun _ => ?_)
            refine q_iload_n hC 1 dX3_inheritedField_9 rfl rfl ?_
            refine q_iload hC 4 dX3_inheritedField_10 rfl rfl ?_
            refine q_ishr hC dX3_inheritedField_12 rfl ?_
            refine q_iconst hC dX3_inheritedField_13 (v := 1) (by decide) rfl ?_
            refine q_iand hC dX3_inheritedField_14 rfl ?_
            refine q_iconst hC dX3_inheritedField_15 (v := 1) (by decide) rfl ?_
            refine q_icmp_ne hC dX3_inheritedField_16 (t := 48) (n := 19) (by decide) rfl (fun h16_52 => ?_) (fun h16_52 => ?_)
            · refine q_iinc hC 4 dX3_inheritedField_48 rfl (v := 5) (by decide) (by decide) (ls' := [(0, _), (1, _), (2, _), (3, _), (4, _)]) rfl rfl ?_
              refine q_goto hC dX3_inheritedField_51 (n := 3) (by decide) ?_
              refine q_iload hC 4 dX3_inheritedField_3 rfl rfl ?_
              refine q_iconst hC dX3_inheritedField_5 (v := 5) (by decide) rfl ?_
              refine q_icmp_ge hC dX3_inheritedField_6 (t := 54) (n := 9) (by decide) rfl (fun _ => ?_) (fun h => absurd (by decide) h)
              refine q_iload_n hC 2 dX3_inheritedField_54 rfl rfl ?_
              refine q_iconst hC dX3_inheritedField_55 (v := (-1)) (by decide) rfl ?_
              refine q_icmp_ne hC dX3_inheritedField_56 (t := 63) (n := 59) (by decide) rfl (fun h56_53 => ?_) (fun h56_53 => ?_)
              · refine q_aload_n hC 0 dX3_inheritedField_63 rfl rfl ?_
                refine q_get_f hC f_X3_33 dX3_inheritedField_64 rfl rfl hi rfl ?_
                refine q_iload_n hC 2 dX3_inheritedField_67 rfl rfl ?_
                refine q_bipush hC dX3_inheritedField_68 (v := 6) (by decide) rfl ?_
                refine q_imul hC dX3_inheritedField_70 rfl ?_
                refine q_iload_n hC 3 dX3_inheritedField_71 rfl rfl ?_
                refine q_iadd hC dX3_inheritedField_72 rfl ?_
                refine q_iald hC dX3_inheritedField_73 rfl hi (z_in36 (hb.elim (fun z => absurd z (by assumption)) (fun z => z.elim fun j hj => ⟨j, by omega, hj.2⟩)) hc) rfl ?_
                refine q_iret hC dX3_inheritedField_74 rfl ⟨by decide, by decide⟩ ⟨_, rfl, ?_⟩
                exact ⟨by simp only [z_inh, z_inhS, z_inhF, z_bit, z_pl, if_true, if_false, *], rfl⟩
              · refine q_iconst hC dX3_inheritedField_59 (v := (-1)) (by decide) rfl ?_
                refine q_goto hC dX3_inheritedField_60 (n := 74) (by decide) ?_
                refine q_iret hC dX3_inheritedField_74 rfl ⟨by decide, by decide⟩ ⟨_, rfl, ?_⟩
                exact ⟨by simp only [z_inh, z_inhS, z_inhF, z_bit, z_pl, if_true, if_false, *], rfl⟩
            · refine q_aload_n hC 0 dX3_inheritedField_19 rfl rfl ?_
              refine q_get_f hC f_X3_33 dX3_inheritedField_20 rfl rfl hi rfl ?_
              refine q_iload hC 4 dX3_inheritedField_23 rfl rfl ?_
              refine q_bipush hC dX3_inheritedField_25 (v := 6) (by decide) rfl ?_
              refine q_imul hC dX3_inheritedField_27 rfl ?_
              refine q_iload_n hC 3 dX3_inheritedField_28 rfl rfl ?_
              refine q_iadd hC dX3_inheritedField_29 rfl ?_
              refine q_iald hC dX3_inheritedField_30 rfl hi (z_in36 ⟨_, by decide, rfl⟩ hc) rfl ?_
              refine q_iconst hC dX3_inheritedField_31 (v := (-1)) (by decide) rfl ?_
              refine q_icmp_eq hC dX3_inheritedField_32 (t := 48) (n := 35) (by decide) rfl (fun h32_54 => ?_) (fun h32_54 => ?_)
              · refine q_iinc hC 4 dX3_inheritedField_48 rfl (v := 5) (by decide) (by decide) (ls' := [(0, _), (1, _), (2, _), (3, _), (4, _)]) rfl rfl ?_
                refine q_goto hC dX3_inheritedField_51 (n := 3) (by decide) ?_
                refine q_iload hC 4 dX3_inheritedField_3 rfl rfl ?_
                refine q_iconst hC dX3_inheritedField_5 (v := 5) (by decide) rfl ?_
                refine q_icmp_ge hC dX3_inheritedField_6 (t := 54) (n := 9) (by decide) rfl (fun _ => ?_) (fun h => absurd (by decide) h)
                refine q_iload_n hC 2 dX3_inheritedField_54 rfl rfl ?_
                refine q_iconst hC dX3_inheritedField_55 (v := (-1)) (by decide) rfl ?_
                refine q_icmp_ne hC dX3_inheritedField_56 (t := 63) (n := 59) (by decide) rfl (fun h56_55 => ?_) (fun h56_55 => ?_)
                · refine q_aload_n hC 0 dX3_inheritedField_63 rfl rfl ?_
                  refine q_get_f hC f_X3_33 dX3_inheritedField_64 rfl rfl hi rfl ?_
                  refine q_iload_n hC 2 dX3_inheritedField_67 rfl rfl ?_
                  refine q_bipush hC dX3_inheritedField_68 (v := 6) (by decide) rfl ?_
                  refine q_imul hC dX3_inheritedField_70 rfl ?_
                  refine q_iload_n hC 3 dX3_inheritedField_71 rfl rfl ?_
                  refine q_iadd hC dX3_inheritedField_72 rfl ?_
                  refine q_iald hC dX3_inheritedField_73 rfl hi (z_in36 (hb.elim (fun z => absurd z (by assumption)) (fun z => z.elim fun j hj => ⟨j, by omega, hj.2⟩)) hc) rfl ?_
                  refine q_iret hC dX3_inheritedField_74 rfl ⟨by decide, by decide⟩ ⟨_, rfl, ?_⟩
                  exact ⟨by simp only [z_inh, z_inhS, z_inhF, z_bit, z_pl, if_true, if_false, *], rfl⟩
                · refine q_iconst hC dX3_inheritedField_59 (v := (-1)) (by decide) rfl ?_
                  refine q_goto hC dX3_inheritedField_60 (n := 74) (by decide) ?_
                  refine q_iret hC dX3_inheritedField_74 rfl ⟨by decide, by decide⟩ ⟨_, rfl, ?_⟩
                  exact ⟨by simp only [z_inh, z_inhS, z_inhF, z_bit, z_pl, if_true, if_false, *], rfl⟩
              · refine q_aload_n hC 0 dX3_inheritedField_35 rfl rfl ?_
                refine q_get_f hC f_X3_33 dX3_inheritedField_36 rfl rfl hi rfl ?_
                refine q_iload hC 4 dX3_inheritedField_39 rfl rfl ?_
                refine q_bipush hC dX3_inheritedField_41 (v := 6) (by decide) rfl ?_
                refine q_imul hC dX3_inheritedField_43 rfl ?_
                refine q_iload_n hC 3 dX3_inheritedField_44 rfl rfl ?_
                refine q_iadd hC dX3_inheritedField_45 rfl ?_
                refine q_iald hC dX3_inheritedField_46 rfl hi (z_in36 ⟨_, by decide, rfl⟩ hc) rfl ?_
                refine q_iret hC dX3_inheritedField_47 rfl ⟨by decide, by decide⟩ ⟨_, rfl, ?_⟩
                exact ⟨by simp only [z_inh, z_inhS, z_inhF, z_bit, z_pl, if_true, if_false, *], rfl⟩
          · refine q_aload_n hC 0 dX3_inheritedField_19 rfl rfl ?_
            refine q_get_f hC f_X3_33 dX3_inheritedField_20 rfl rfl hi rfl ?_
            refine q_iload hC 4 dX3_inheritedField_23 rfl rfl ?_
            refine q_bipush hC dX3_inheritedField_25 (v := 6) (by decide) rfl ?_
            refine q_imul hC dX3_inheritedField_27 rfl ?_
            refine q_iload_n hC 3 dX3_inheritedField_28 rfl rfl ?_
            refine q_iadd hC dX3_inheritedField_29 rfl ?_
            refine q_iald hC dX3_inheritedField_30 rfl hi (z_in36 ⟨_, by decide, rfl⟩ hc) rfl ?_
            refine q_iconst hC dX3_inheritedField_31 (v := (-1)) (by decide) rfl ?_
            refine q_icmp_eq hC dX3_inheritedField_32 (t := 48) (n := 35) (by decide) rfl (fun h32_56 => ?_) (fun h32_56 => ?_)
            · refine q_iinc hC 4 dX3_inheritedField_48 rfl (v := 4) (by decide) (by decide) (ls' := [(0, _), (1, _), (2, _), (3, _), (4, _)]) rfl rfl ?_
              refine q_goto hC dX3_inheritedField_51 (n := 3) (by decide) ?_
              refine q_iload hC 4 dX3_inheritedField_3 rfl rfl ?_
              refine q_iconst hC dX3_inheritedField_5 (v := 5) (by decide) rfl ?_
              refine q_icmp_ge hC dX3_inheritedField_6 (t := 54) (n := 9) (by decide) rfl (fun h => absurd h (by decide)) (fun _ => ?_)
              refine q_iload_n hC 1 dX3_inheritedField_9 rfl rfl ?_
              refine q_iload hC 4 dX3_inheritedField_10 rfl rfl ?_
              refine q_ishr hC dX3_inheritedField_12 rfl ?_
              refine q_iconst hC dX3_inheritedField_13 (v := 1) (by decide) rfl ?_
              refine q_iand hC dX3_inheritedField_14 rfl ?_
              refine q_iconst hC dX3_inheritedField_15 (v := 1) (by decide) rfl ?_
              refine q_icmp_ne hC dX3_inheritedField_16 (t := 48) (n := 19) (by decide) rfl (fun h16_57 => ?_) (fun h16_57 => ?_)
              · refine q_iinc hC 4 dX3_inheritedField_48 rfl (v := 5) (by decide) (by decide) (ls' := [(0, _), (1, _), (2, _), (3, _), (4, _)]) rfl rfl ?_
                refine q_goto hC dX3_inheritedField_51 (n := 3) (by decide) ?_
                refine q_iload hC 4 dX3_inheritedField_3 rfl rfl ?_
                refine q_iconst hC dX3_inheritedField_5 (v := 5) (by decide) rfl ?_
                refine q_icmp_ge hC dX3_inheritedField_6 (t := 54) (n := 9) (by decide) rfl (fun _ => ?_) (fun h => absurd (by decide) h)
                refine q_iload_n hC 2 dX3_inheritedField_54 rfl rfl ?_
                refine q_iconst hC dX3_inheritedField_55 (v := (-1)) (by decide) rfl ?_
                refine q_icmp_ne hC dX3_inheritedField_56 (t := 63) (n := 59) (by decide) rfl (fun h56_58 => ?_) (fun h56_58 => ?_)
                · refine q_aload_n hC 0 dX3_inheritedField_63 rfl rfl ?_
                  refine q_get_f hC f_X3_33 dX3_inheritedField_64 rfl rfl hi rfl ?_
                  refine q_iload_n hC 2 dX3_inheritedField_67 rfl rfl ?_
                  refine q_bipush hC dX3_inheritedField_68 (v := 6) (by decide) rfl ?_
                  refine q_imul hC dX3_inheritedField_70 rfl ?_
                  refine q_iload_n hC 3 dX3_inheritedField_71 rfl rfl ?_
                  refine q_iadd hC dX3_inheritedField_72 rfl ?_
                  refine q_iald hC dX3_inheritedField_73 rfl hi (z_in36 (hb.elim (fun z => absurd z (by assumption)) (fun z => z.elim fun j hj => ⟨j, by omega, hj.2⟩)) hc) rfl ?_
                  refine q_iret hC dX3_inheritedField_74 rfl ⟨by decide, by decide⟩ ⟨_, rfl, ?_⟩
                  exact ⟨by simp only [z_inh, z_inhS, z_inhF, z_bit, z_pl, if_true, if_false, *], rfl⟩
                · refine q_iconst hC dX3_inheritedField_59 (v := (-1)) (by decide) rfl ?_
                  refine q_goto hC dX3_inheritedField_60 (n := 74) (by decide) ?_
                  refine q_iret hC dX3_inheritedField_74 rfl ⟨by decide, by decide⟩ ⟨_, rfl, ?_⟩
                  exact ⟨by simp only [z_inh, z_inhS, z_inhF, z_bit, z_pl, if_true, if_false, *], rfl⟩
              · refine q_aload_n hC 0 dX3_inheritedField_19 rfl rfl ?_
                refine q_get_f hC f_X3_33 dX3_inheritedField_20 rfl rfl hi rfl ?_
                refine q_iload hC 4 dX3_inheritedField_23 rfl rfl ?_
                refine q_bipush hC dX3_inheritedField_25 (v := 6) (by decide) rfl ?_
                refine q_imul hC dX3_inheritedField_27 rfl ?_
                refine q_iload_n hC 3 dX3_inheritedField_28 rfl rfl ?_
                refine q_iadd hC dX3_inheritedField_29 rfl ?_
                refine q_iald hC dX3_inheritedField_30 rfl hi (z_in36 ⟨_, by decide, rfl⟩ hc) rfl ?_
                refine q_iconst hC dX3_inheritedField_31 (v := (-1)) (by decide) rfl ?_
                refine q_icmp_eq hC dX3_inheritedField_32 (t := 48) (n := 35) (by decide) rfl (fun h32_59 => ?_) (fun h32_59 => ?_)
                · refine q_iinc hC 4 dX3_inheritedField_48 rfl (v := 5) (by decide) (by decide) (ls' := [(0, _), (1, _), (2, _), (3, _), (4, _)]) rfl rfl ?_
                  refine q_goto hC dX3_inheritedField_51 (n := 3) (by decide) ?_
                  refine q_iload hC 4 dX3_inheritedField_3 rfl rfl ?_
                  refine q_iconst hC dX3_inheritedField_5 (v := 5) (by decide) rfl ?_
                  refine q_icmp_ge hC dX3_inheritedField_6 (t := 54) (n := 9) (by decide) rfl (fun _ => ?_) (fun h => absurd (by decide) h)
                  refine q_iload_n hC 2 dX3_inheritedField_54 rfl rfl ?_
                  refine q_iconst hC dX3_inheritedField_55 (v := (-1)) (by decide) rfl ?_
                  refine q_icmp_ne hC dX3_inheritedField_56 (t := 63) (n := 59) (by decide) rfl (fun h56_60 => ?_) (fun h56_60 => ?_)
                  · refine q_aload_n hC 0 dX3_inheritedField_63 rfl rfl ?_
                    refine q_get_f hC f_X3_33 dX3_inheritedField_64 rfl rfl hi rfl ?_
                    refine q_iload_n hC 2 dX3_inheritedField_67 rfl rfl ?_
                    refine q_bipush hC dX3_inheritedField_68 (v := 6) (by decide) rfl ?_
                    refine q_imul hC dX3_inheritedField_70 rfl ?_
                    refine q_iload_n hC 3 dX3_inheritedField_71 rfl rfl ?_
                    refine q_iadd hC dX3_inheritedField_72 rfl ?_
                    refine q_iald hC dX3_inheritedField_73 rfl hi (z_in36 (hb.elim (fun z => absurd z (by assumption)) (fun z => z.elim fun j hj => ⟨j, by omega, hj.2⟩)) hc) rfl ?_
                    refine q_iret hC dX3_inheritedField_74 rfl ⟨by decide, by decide⟩ ⟨_, rfl, ?_⟩
                    exact ⟨by simp only [z_inh, z_inhS, z_inhF, z_bit, z_pl, if_true, if_false, *], rfl⟩
                  · refine q_iconst hC dX3_inheritedField_59 (v := (-1)) (by decide) rfl ?_
                    refine q_goto hC dX3_inheritedField_60 (n := 74) (by decide) ?_
                    refine q_iret hC dX3_inheritedField_74 rfl ⟨by decide, by decide⟩ ⟨_, rfl, ?_⟩
                    exact ⟨by simp only [z_inh, z_inhS, z_inhF, z_bit, z_pl, if_true, if_false, *], rfl⟩
                · refine q_aload_n hC 0 dX3_inheritedField_35 rfl rfl ?_
                  refine q_get_f hC f_X3_33 dX3_inheritedField_36 rfl rfl hi rfl ?_
                  refine q_iload hC 4 dX3_inheritedField_39 rfl rfl ?_
                  refine q_bipush hC dX3_inheritedField_41 (v := 6) (by decide) rfl ?_
                  refine q_imul hC dX3_inheritedField_43 rfl ?_
                  refine q_iload_n hC 3 dX3_inheritedField_44 rfl rfl ?_
                  refine q_iadd hC dX3_inheritedField_45 rfl ?_
                  refine q_iald hC dX3_inheritedField_46 rfl hi (z_in36 ⟨_, by decide, rfl⟩ hc) rfl ?_
                  refine q_iret hC dX3_inheritedField_47 rfl ⟨by decide, by decide⟩ ⟨_, rfl, ?_⟩
                  exact ⟨by simp only [z_inh, z_inhS, z_inhF, z_bit, z_pl, if_true, if_false, *], rfl⟩
            · refine q_aload_n hC 0 dX3_inheritedField_35 rfl rfl ?_
              refine q_get_f hC f_X3_33 dX3_inheritedField_36 rfl rfl hi rfl ?_
              refine q_iload hC 4 dX3_inheritedField_39 rfl rfl ?_
              refine q_bipush hC dX3_inheritedField_41 (v := 6) (by decide) rfl ?_
              refine q_imul hC dX3_inheritedField_43 rfl ?_
              refine q_iload_n hC 3 dX3_inheritedField_44 rfl rfl ?_
              refine q_iadd hC dX3_inheritedField_45 rfl ?_
              refine q_iald hC dX3_inheritedField_46 rfl hi (z_in36 ⟨_, by decide, rfl⟩ hc) rfl ?_
              refine q_iret hC dX3_inheritedField_47 rfl ⟨by decide, by decide⟩ ⟨_, rfl, ?_⟩
              exact ⟨by simp only [z_inh, z_inhS, z_inhF, z_bit, z_pl, if_true, if_false, *], rfl⟩
        · refine q_aload_n hC 0 dX3_inheritedField_19 rfl rfl ?_
          refine q_get_f hC f_X3_33 dX3_inheritedField_20 rfl rfl hi rfl ?_
          refine q_iload hC 4 dX3_inheritedField_23 rfl rfl ?_
          refine q_bipush hC dX3_inheritedField_25 (v := 6) (by decide) rfl ?_
          refine q_imul hC dX3_inheritedField_27 rfl ?_
          refine q_iload_n hC 3 dX3_inheritedField_28 rfl rfl ?_
          refine q_iadd hC dX3_inheritedField_29 rfl ?_
          refine q_iald hC dX3_inheritedField_30 rfl hi (z_in36 ⟨_, by decide, rfl⟩ hc) rfl ?_
          refine q_iconst hC dX3_inheritedField_31 (v := (-1)) (by decide) rfl ?_
          refine q_icmp_eq hC dX3_inheritedField_32 (t := 48) (n := 35) (by decide) rfl (fun h32_61 => ?_) (fun h32_61 => ?_)
          · refine q_iinc hC 4 dX3_inheritedField_48 rfl (v := 3) (by decide) (by decide) (ls' := [(0, _), (1, _), (2, _), (3, _), (4, _)]) rfl rfl ?_
            refine q_goto hC dX3_inheritedField_51 (n := 3) (by decide) ?_
            refine q_iload hC 4 dX3_inheritedField_3 rfl rfl ?_
            refine q_iconst hC dX3_inheritedField_5 (v := 5) (by decide) rfl ?_
            refine q_icmp_ge hC dX3_inheritedField_6 (t := 54) (n := 9) (by decide) rfl (fun h => absurd h (by decide)) (fun _ => ?_)
            refine q_iload_n hC 1 dX3_inheritedField_9 rfl rfl ?_
            refine q_iload hC 4 dX3_inheritedField_10 rfl rfl ?_
            refine q_ishr hC dX3_inheritedField_12 rfl ?_
            refine q_iconst hC dX3_inheritedField_13 (v := 1) (by decide) rfl ?_
            refine q_iand hC dX3_inheritedField_14 rfl ?_
            refine q_iconst hC dX3_inheritedField_15 (v := 1) (by decide) rfl ?_
            refine q_icmp_ne hC dX3_inheritedField_16 (t := 48) (n := 19) (by decide) rfl (fun h16_62 => ?_) (fun h16_62 => ?_)
            · refine q_iinc hC 4 dX3_inheritedField_48 rfl (v := 4) (by decide) (by decide) (ls' := [(0, _), (1, _), (2, _), (3, _), (4, _)]) rfl rfl ?_
              refine q_goto hC dX3_inheritedField_51 (n := 3) (by decide) ?_
              refine q_iload hC 4 dX3_inheritedField_3 rfl rfl ?_
              refine q_iconst hC dX3_inheritedField_5 (v := 5) (by decide) rfl ?_
              refine q_icmp_ge hC dX3_inheritedField_6 (t := 54) (n := 9) (by decide) rfl (fun h => absurd h (by decide)) (fun _ => ?_)
              refine q_iload_n hC 1 dX3_inheritedField_9 rfl rfl ?_
              refine q_iload hC 4 dX3_inheritedField_10 rfl rfl ?_
              refine q_ishr hC dX3_inheritedField_12 rfl ?_
              refine q_iconst hC dX3_inheritedField_13 (v := 1) (by decide) rfl ?_
              refine q_iand hC dX3_inheritedField_14 rfl ?_
              refine q_iconst hC dX3_inheritedField_15 (v := 1) (by decide) rfl ?_
              refine q_icmp_ne hC dX3_inheritedField_16 (t := 48) (n := 19) (by decide) rfl (fun h16_63 => ?_) (fun h16_63 => ?_)
              · refine q_iinc hC 4 dX3_inheritedField_48 rfl (v := 5) (by decide) (by decide) (ls' := [(0, _), (1, _), (2, _), (3, _), (4, _)]) rfl rfl ?_
                refine q_goto hC dX3_inheritedField_51 (n := 3) (by decide) ?_
                refine q_iload hC 4 dX3_inheritedField_3 rfl rfl ?_
                refine q_iconst hC dX3_inheritedField_5 (v := 5) (by decide) rfl ?_
                refine q_icmp_ge hC dX3_inheritedField_6 (t := 54) (n := 9) (by decide) rfl (fun _ => ?_) (fun h => absurd (by decide) h)
                refine q_iload_n hC 2 dX3_inheritedField_54 rfl rfl ?_
                refine q_iconst hC dX3_inheritedField_55 (v := (-1)) (by decide) rfl ?_
                refine q_icmp_ne hC dX3_inheritedField_56 (t := 63) (n := 59) (by decide) rfl (fun h56_64 => ?_) (fun h56_64 => ?_)
                · refine q_aload_n hC 0 dX3_inheritedField_63 rfl rfl ?_
                  refine q_get_f hC f_X3_33 dX3_inheritedField_64 rfl rfl hi rfl ?_
                  refine q_iload_n hC 2 dX3_inheritedField_67 rfl rfl ?_
                  refine q_bipush hC dX3_inheritedField_68 (v := 6) (by decide) rfl ?_
                  refine q_imul hC dX3_inheritedField_70 rfl ?_
                  refine q_iload_n hC 3 dX3_inheritedField_71 rfl rfl ?_
                  refine q_iadd hC dX3_inheritedField_72 rfl ?_
                  refine q_iald hC dX3_inheritedField_73 rfl hi (z_in36 (hb.elim (fun z => absurd z (by assumption)) (fun z => z.elim fun j hj => ⟨j, by omega, hj.2⟩)) hc) rfl ?_
                  refine q_iret hC dX3_inheritedField_74 rfl ⟨by decide, by decide⟩ ⟨_, rfl, ?_⟩
                  exact ⟨by simp only [z_inh, z_inhS, z_inhF, z_bit, z_pl, if_true, if_false, *], rfl⟩
                · refine q_iconst hC dX3_inheritedField_59 (v := (-1)) (by decide) rfl ?_
                  refine q_goto hC dX3_inheritedField_60 (n := 74) (by decide) ?_
                  refine q_iret hC dX3_inheritedField_74 rfl ⟨by decide, by decide⟩ ⟨_, rfl, ?_⟩
                  exact ⟨by simp only [z_inh, z_inhS, z_inhF, z_bit, z_pl, if_true, if_false, *], rfl⟩
              · refine q_aload_n hC 0 dX3_inheritedField_19 rfl rfl ?_
                refine q_get_f hC f_X3_33 dX3_inheritedField_20 rfl rfl hi rfl ?_
                refine q_iload hC 4 dX3_inheritedField_23 rfl rfl ?_
                refine q_bipush hC dX3_inheritedField_25 (v := 6) (by decide) rfl ?_
                refine q_imul hC dX3_inheritedField_27 rfl ?_
                refine q_iload_n hC 3 dX3_inheritedField_28 rfl rfl ?_
                refine q_iadd hC dX3_inheritedField_29 rfl ?_
                refine q_iald hC dX3_inheritedField_30 rfl hi (z_in36 ⟨_, by decide, rfl⟩ hc) rfl ?_
                refine q_iconst hC dX3_inheritedField_31 (v := (-1)) (by decide) rfl ?_
                refine q_icmp_eq hC dX3_inheritedField_32 (t := 48) (n := 35) (by decide) rfl (fun h32_65 => ?_) (fun h32_65 => ?_)
                · refine q_iinc hC 4 dX3_inheritedField_48 rfl (v := 5) (by decide) (by decide) (ls' := [(0, _), (1, _), (2, _), (3, _), (4, _)]) rfl rfl ?_
                  refine q_goto hC dX3_inheritedField_51 (n := 3) (by decide) ?_
                  refine q_iload hC 4 dX3_inheritedField_3 rfl rfl ?_
                  refine q_iconst hC dX3_inheritedField_5 (v := 5) (by decide) rfl ?_
                  refine q_icmp_ge hC dX3_inheritedField_6 (t := 54) (n := 9) (by decide) rfl (fun _ => ?_) (fun h => absurd (by decide) h)
                  refine q_iload_n hC 2 dX3_inheritedField_54 rfl rfl ?_
                  refine q_iconst hC dX3_inheritedField_55 (v := (-1)) (by decide) rfl ?_
                  refine q_icmp_ne hC dX3_inheritedField_56 (t := 63) (n := 59) (by decide) rfl (fun h56_66 => ?_) (fun h56_66 => ?_)
                  · refine q_aload_n hC 0 dX3_inheritedField_63 rfl rfl ?_
                    refine q_get_f hC f_X3_33 dX3_inheritedField_64 rfl rfl hi rfl ?_
                    refine q_iload_n hC 2 dX3_inheritedField_67 rfl rfl ?_
                    refine q_bipush hC dX3_inheritedField_68 (v := 6) (by decide) rfl ?_
                    refine q_imul hC dX3_inheritedField_70 rfl ?_
                    refine q_iload_n hC 3 dX3_inheritedField_71 rfl rfl ?_
                    refine q_iadd hC dX3_inheritedField_72 rfl ?_
                    refine q_iald hC dX3_inheritedField_73 rfl hi (z_in36 (hb.elim (fun z => absurd z (by assumption)) (fun z => z.elim fun j hj => ⟨j, by omega, hj.2⟩)) hc) rfl ?_
                    refine q_iret hC dX3_inheritedField_74 rfl ⟨by decide, by decide⟩ ⟨_, rfl, ?_⟩
                    exact ⟨by simp only [z_inh, z_inhS, z_inhF, z_bit, z_pl, if_true, if_false, *], rfl⟩
                  · refine q_iconst hC dX3_inheritedField_59 (v := (-1)) (by decide) rfl ?_
                    refine q_goto hC dX3_inheritedField_60 (n := 74) (by decide) ?_
                    refine q_iret hC dX3_inheritedField_74 rfl ⟨by decide, by decide⟩ ⟨_, rfl, ?_⟩
                    exact ⟨by simp only [z_inh, z_inhS, z_inhF, z_bit, z_pl, if_true, if_false, *], rfl⟩
                · refine q_aload_n hC 0 dX3_inheritedField_35 rfl rfl ?_
                  refine q_get_f hC f_X3_33 dX3_inheritedField_36 rfl rfl hi rfl ?_
                  refine q_iload hC 4 dX3_inheritedField_39 rfl rfl ?_
                  refine q_bipush hC dX3_inheritedField_41 (v := 6) (by decide) rfl ?_
                  refine q_imul hC dX3_inheritedField_43 rfl ?_
                  refine q_iload_n hC 3 dX3_inheritedField_44 rfl rfl ?_
                  refine q_iadd hC dX3_inheritedField_45 rfl ?_
                  refine q_iald hC dX3_inheritedField_46 rfl hi (z_in36 ⟨_, by decide, rfl⟩ hc) rfl ?_
                  refine q_iret hC dX3_inheritedField_47 rfl ⟨by decide, by decide⟩ ⟨_, rfl, ?_⟩
                  exact ⟨by simp only [z_inh, z_inhS, z_inhF, z_bit, z_pl, if_true, if_false, *], rfl⟩
            · refine q_aload_n hC 0 dX3_inheritedField_19 rfl rfl ?_
              refine q_get_f hC f_X3_33 dX3_inheritedField_20 rfl rfl hi rfl ?_
              refine q_iload hC 4 dX3_inheritedField_23 rfl rfl ?_
              refine q_bipush hC dX3_inheritedField_25 (v := 6) (by decide) rfl ?_
              refine q_imul hC dX3_inheritedField_27 rfl ?_
              refine q_iload_n hC 3 dX3_inheritedField_28 rfl rfl ?_
              refine q_iadd hC dX3_inheritedField_29 rfl ?_
              refine q_iald hC dX3_inheritedField_30 rfl hi (z_in36 ⟨_, by decide, rfl⟩ hc) rfl ?_
              refine q_iconst hC dX3_inheritedField_31 (v := (-1)) (by decide) rfl ?_
              refine q_icmp_eq hC dX3_inheritedField_32 (t := 48) (n := 35) (by decide) rfl (fun h32_67 => ?_) (fun h32_67 => ?_)
              · refine q_iinc hC 4 dX3_inheritedField_48 rfl (v := 4) (by decide) (by decide) (ls' := [(0, _), (1, _), (2, _), (3, _), (4, _)]) rfl rfl ?_
                refine q_goto hC dX3_inheritedField_51 (n := 3) (by decide) ?_
                refine q_iload hC 4 dX3_inheritedField_3 rfl rfl ?_
                refine q_iconst hC dX3_inheritedField_5 (v := 5) (by decide) rfl ?_
                refine q_icmp_ge hC dX3_inheritedField_6 (t := 54) (n := 9) (by decide) rfl (fun h => absurd h (by decide)) (fun _ => ?_)
                refine q_iload_n hC 1 dX3_inheritedField_9 rfl rfl ?_
                refine q_iload hC 4 dX3_inheritedField_10 rfl rfl ?_
                refine q_ishr hC dX3_inheritedField_12 rfl ?_
                refine q_iconst hC dX3_inheritedField_13 (v := 1) (by decide) rfl ?_
                refine q_iand hC dX3_inheritedField_14 rfl ?_
                refine q_iconst hC dX3_inheritedField_15 (v := 1) (by decide) rfl ?_
                refine q_icmp_ne hC dX3_inheritedField_16 (t := 48) (n := 19) (by decide) rfl (fun h16_68 => ?_) (fun h16_68 => ?_)
                · refine q_iinc hC 4 dX3_inheritedField_48 rfl (v := 5) (by decide) (by decide) (ls' := [(0, _), (1, _), (2, _), (3, _), (4, _)]) rfl rfl ?_
                  refine q_goto hC dX3_inheritedField_51 (n := 3) (by decide) ?_
                  refine q_iload hC 4 dX3_inheritedField_3 rfl rfl ?_
                  refine q_iconst hC dX3_inheritedField_5 (v := 5) (by decide) rfl ?_
                  refine q_icmp_ge hC dX3_inheritedField_6 (t := 54) (n := 9) (by decide) rfl (fun _ => ?_) (fun h => absurd (by decide) h)
                  refine q_iload_n hC 2 dX3_inheritedField_54 rfl rfl ?_
                  refine q_iconst hC dX3_inheritedField_55 (v := (-1)) (by decide) rfl ?_
                  refine q_icmp_ne hC dX3_inheritedField_56 (t := 63) (n := 59) (by decide) rfl (fun h56_69 => ?_) (fun h56_69 => ?_)
                  · refine q_aload_n hC 0 dX3_inheritedField_63 rfl rfl ?_
                    refine q_get_f hC f_X3_33 dX3_inheritedField_64 rfl rfl hi rfl ?_
                    refine q_iload_n hC 2 dX3_inheritedField_67 rfl rfl ?_
                    refine q_bipush hC dX3_inheritedField_68 (v := 6) (by decide) rfl ?_
                    refine q_imul hC dX3_inheritedField_70 rfl ?_
                    refine q_iload_n hC 3 dX3_inheritedField_71 rfl rfl ?_
                    refine q_iadd hC dX3_inheritedField_72 rfl ?_
                    refine q_iald hC dX3_inheritedField_73 rfl hi (z_in36 (hb.elim (fun z => absurd z (by assumption)) (fun z => z.elim fun j hj => ⟨j, by omega, hj.2⟩)) hc) rfl ?_
                    refine q_iret hC dX3_inheritedField_74 rfl ⟨by decide, by decide⟩ ⟨_, rfl, ?_⟩
                    exact ⟨by simp only [z_inh, z_inhS, z_inhF, z_bit, z_pl, if_true, if_false, *], rfl⟩
                  · refine q_iconst hC dX3_inheritedField_59 (v := (-1)) (by decide) rfl ?_
                    refine q_goto hC dX3_inheritedField_60 (n := 74) (by decide) ?_
                    refine q_iret hC dX3_inheritedField_74 rfl ⟨by decide, by decide⟩ ⟨_, rfl, ?_⟩
                    exact ⟨by simp only [z_inh, z_inhS, z_inhF, z_bit, z_pl, if_true, if_false, *], rfl⟩
                · refine q_aload_n hC 0 dX3_inheritedField_19 rfl rfl ?_
                  refine q_get_f hC f_X3_33 dX3_inheritedField_20 rfl rfl hi rfl ?_
                  refine q_iload hC 4 dX3_inheritedField_23 rfl rfl ?_
                  refine q_bipush hC dX3_inheritedField_25 (v := 6) (by decide) rfl ?_
                  refine q_imul hC dX3_inheritedField_27 rfl ?_
                  refine q_iload_n hC 3 dX3_inheritedField_28 rfl rfl ?_
                  refine q_iadd hC dX3_inheritedField_29 rfl ?_
                  refine q_iald hC dX3_inheritedField_30 rfl hi (z_in36 ⟨_, by decide, rfl⟩ hc) rfl ?_
                  refine q_iconst hC dX3_inheritedField_31 (v := (-1)) (by decide) rfl ?_
                  refine q_icmp_eq hC dX3_inheritedField_32 (t := 48) (n := 35) (by decide) rfl (fun h32_70 => ?_) (fun h32_70 => ?_)
                  · refine q_iinc hC 4 dX3_inheritedField_48 rfl (v := 5) (by decide) (by decide) (ls' := [(0, _), (1, _), (2, _), (3, _), (4, _)]) rfl rfl ?_
                    refine q_goto hC dX3_inheritedField_51 (n := 3) (by decide) ?_
                    refine q_iload hC 4 dX3_inheritedField_3 rfl rfl ?_
                    refine q_iconst hC dX3_inheritedField_5 (v := 5) (by decide) rfl ?_
                    refine q_icmp_ge hC dX3_inheritedField_6 (t := 54) (n := 9) (by decide) rfl (fun _ => ?_) (fun h => absurd (by decide) h)
                    refine q_iload_n hC 2 dX3_inheritedField_54 rfl rfl ?_
                    refine q_iconst hC dX3_inheritedField_55 (v := (-1)) (by decide) rfl ?_
                    refine q_icmp_ne hC dX3_inheritedField_56 (t := 63) (n := 59) (by decide) rfl (fun h56_71 => ?_) (fun h56_71 => ?_)
                    · refine q_aload_n hC 0 dX3_inheritedField_63 rfl rfl ?_
                      refine q_get_f hC f_X3_33 dX3_inheritedField_64 rfl rfl hi rfl ?_
                      refine q_iload_n hC 2 dX3_inheritedField_67 rfl rfl ?_
                      refine q_bipush hC dX3_inheritedField_68 (v := 6) (by decide) rfl ?_
                      refine q_imul hC dX3_inheritedField_70 rfl ?_
                      refine q_iload_n hC 3 dX3_inheritedField_71 rfl rfl ?_
                      refine q_iadd hC dX3_inheritedField_72 rfl ?_
                      refine q_iald hC dX3_inheritedField_73 rfl hi (z_in36 (hb.elim (fun z => absurd z (by assumption)) (fun z => z.elim fun j hj => ⟨j, by omega, hj.2⟩)) hc) rfl ?_
                      refine q_iret hC dX3_inheritedField_74 rfl ⟨by decide, by decide⟩ ⟨_, rfl, ?_⟩
                      exact ⟨by simp only [z_inh, z_inhS, z_inhF, z_bit, z_pl, if_true, if_false, *], rfl⟩
                    · refine q_iconst hC dX3_inheritedField_59 (v := (-1)) (by decide) rfl ?_
                      refine q_goto hC dX3_inheritedField_60 (n := 74) (by decide) ?_
                      refine q_iret hC dX3_inheritedField_74 rfl ⟨by decide, by decide⟩ ⟨_, rfl, ?_⟩
                      exact ⟨by simp only [z_inh, z_inhS, z_inhF, z_bit, z_pl, if_true, if_false, *], rfl⟩
                  · refine q_aload_n hC 0 dX3_inheritedField_35 rfl rfl ?_
                    refine q_get_f hC f_X3_33 dX3_inheritedField_36 rfl rfl hi rfl ?_
                    refine q_iload hC 4 dX3_inheritedField_39 rfl rfl ?_
                    refine q_bipush hC dX3_inheritedField_41 (v := 6) (by decide) rfl ?_
                    refine q_imul hC dX3_inheritedField_43 rfl ?_
                    refine q_iload_n hC 3 dX3_inheritedField_44 rfl rfl ?_
                    refine q_iadd hC dX3_inheritedField_45 rfl ?_
                    refine q_iald hC dX3_inheritedField_46 rfl hi (z_in36 ⟨_, by decide, rfl⟩ hc) rfl ?_
                    refine q_iret hC dX3_inheritedField_47 rfl ⟨by decide, by decide⟩ ⟨_, rfl, ?_⟩
                    exact ⟨by simp only [z_inh, z_inhS, z_inhF, z_bit, z_pl, if_true, if_false, *], rfl⟩
              · refine q_aload_n hC 0 dX3_inheritedField_35 rfl rfl ?_
                refine q_get_f hC f_X3_33 dX3_inheritedField_36 rfl rfl hi rfl ?_
                refine q_iload hC 4 dX3_inheritedField_39 rfl rfl ?_
                refine q_bipush hC dX3_inheritedField_41 (v := 6) (by decide) rfl ?_
                refine q_imul hC dX3_inheritedField_43 rfl ?_
                refine q_iload_n hC 3 dX3_inheritedField_44 rfl rfl ?_
                refine q_iadd hC dX3_inheritedField_45 rfl ?_
                refine q_iald hC dX3_inheritedField_46 rfl hi (z_in36 ⟨_, by decide, rfl⟩ hc) rfl ?_
                refine q_iret hC dX3_inheritedField_47 rfl ⟨by decide, by decide⟩ ⟨_, rfl, ?_⟩
                exact ⟨by simp only [z_inh, z_inhS, z_inhF, z_bit, z_pl, if_true, if_false, *], rfl⟩
          · refine q_aload_n hC 0 dX3_inheritedField_35 rfl rfl ?_
            refine q_get_f hC f_X3_33 dX3_inheritedField_36 rfl rfl hi rfl ?_
            refine q_iload hC 4 dX3_inheritedField_39 rfl rfl ?_
            refine q_bipush hC dX3_inheritedField_41 (v := 6) (by decide) rfl ?_
            refine q_imul hC dX3_inheritedField_43 rfl ?_
            refine q_iload_n hC 3 dX3_inheritedField_44 rfl rfl ?_
            refine q_iadd hC dX3_inheritedField_45 rfl ?_
            refine q_iald hC dX3_inheritedField_46 rfl hi (z_in36 ⟨_, by decide, rfl⟩ hc) rfl ?_
            refine q_iret hC dX3_inheritedField_47 rfl ⟨by decide, by decide⟩ ⟨_, rfl, ?_⟩
            exact ⟨by simp only [z_inh, z_inhS, z_inhF, z_bit, z_pl, if_true, if_false, *], rfl⟩
      · refine q_aload_n hC 0 dX3_inheritedField_19 rfl rfl ?_
        refine q_get_f hC f_X3_33 dX3_inheritedField_20 rfl rfl hi rfl ?_
        refine q_iload hC 4 dX3_inheritedField_23 rfl rfl ?_
        refine q_bipush hC dX3_inheritedField_25 (v := 6) (by decide) rfl ?_
        refine q_imul hC dX3_inheritedField_27 rfl ?_
        refine q_iload_n hC 3 dX3_inheritedField_28 rfl rfl ?_
        refine q_iadd hC dX3_inheritedField_29 rfl ?_
        refine q_iald hC dX3_inheritedField_30 rfl hi (z_in36 ⟨_, by decide, rfl⟩ hc) rfl ?_
        refine q_iconst hC dX3_inheritedField_31 (v := (-1)) (by decide) rfl ?_
        refine q_icmp_eq hC dX3_inheritedField_32 (t := 48) (n := 35) (by decide) rfl (fun h32_72 => ?_) (fun h32_72 => ?_)
        · refine q_iinc hC 4 dX3_inheritedField_48 rfl (v := 2) (by decide) (by decide) (ls' := [(0, _), (1, _), (2, _), (3, _), (4, _)]) rfl rfl ?_
          refine q_goto hC dX3_inheritedField_51 (n := 3) (by decide) ?_
          refine q_iload hC 4 dX3_inheritedField_3 rfl rfl ?_
          refine q_iconst hC dX3_inheritedField_5 (v := 5) (by decide) rfl ?_
          refine q_icmp_ge hC dX3_inheritedField_6 (t := 54) (n := 9) (by decide) rfl (fun h => absurd h (by decide)) (fun _ => ?_)
          refine q_iload_n hC 1 dX3_inheritedField_9 rfl rfl ?_
          refine q_iload hC 4 dX3_inheritedField_10 rfl rfl ?_
          refine q_ishr hC dX3_inheritedField_12 rfl ?_
          refine q_iconst hC dX3_inheritedField_13 (v := 1) (by decide) rfl ?_
          refine q_iand hC dX3_inheritedField_14 rfl ?_
          refine q_iconst hC dX3_inheritedField_15 (v := 1) (by decide) rfl ?_
          refine q_icmp_ne hC dX3_inheritedField_16 (t := 48) (n := 19) (by decide) rfl (fun h16_73 => ?_) (fun h16_73 => ?_)
          · refine q_iinc hC 4 dX3_inheritedField_48 rfl (v := 3) (by decide) (by decide) (ls' := [(0, _), (1, _), (2, _), (3, _), (4, _)]) rfl rfl ?_
            refine q_goto hC dX3_inheritedField_51 (n := 3) (by decide) ?_
            refine q_iload hC 4 dX3_inheritedField_3 rfl rfl ?_
            refine q_iconst hC dX3_inheritedField_5 (v := 5) (by decide) rfl ?_
            refine q_icmp_ge hC dX3_inheritedField_6 (t := 54) (n := 9) (by decide) rfl (fun h => absurd h (by decide)) (fun _ => ?_)
            refine q_iload_n hC 1 dX3_inheritedField_9 rfl rfl ?_
            refine q_iload hC 4 dX3_inheritedField_10 rfl rfl ?_
            refine q_ishr hC dX3_inheritedField_12 rfl ?_
            refine q_iconst hC dX3_inheritedField_13 (v := 1) (by decide) rfl ?_
            refine q_iand hC dX3_inheritedField_14 rfl ?_
            refine q_iconst hC dX3_inheritedField_15 (v := 1) (by decide) rfl ?_
            refine q_icmp_ne hC dX3_inheritedField_16 (t := 48) (n := 19) (by decide) rfl (fun h16_74 => ?_) (fun h16_74 => ?_)
            · refine q_iinc hC 4 dX3_inheritedField_48 rfl (v := 4) (by decide) (by decide) (ls' := [(0, _), (1, _), (2, _), (3, _), (4, _)]) rfl rfl ?_
              refine q_goto hC dX3_inheritedField_51 (n := 3) (by decide) ?_
              refine q_iload hC 4 dX3_inheritedField_3 rfl rfl ?_
              refine q_iconst hC dX3_inheritedField_5 (v := 5) (by decide) rfl ?_
              refine q_icmp_ge hC dX3_inheritedField_6 (t := 54) (n := 9) (by decide) rfl (fun h => absurd h (by decide)) (fun _ => ?_)
              refine q_iload_n hC 1 dX3_inheritedField_9 rfl rfl ?_
              refine q_iload hC 4 dX3_inheritedField_10 rfl rfl ?_
              refine q_ishr hC dX3_inheritedField_12 rfl ?_
              refine q_iconst hC dX3_inheritedField_13 (v := 1) (by decide) rfl ?_
              refine q_iand hC dX3_inheritedField_14 rfl ?_
              refine q_iconst hC dX3_inheritedField_15 (v := 1) (by decide) rfl ?_
              refine q_icmp_ne hC dX3_inheritedField_16 (t := 48) (n := 19) (by decide) rfl (fun h16_75 => ?_) (fun h16_75 => ?_)
              · refine q_iinc hC 4 dX3_inheritedField_48 rfl (v := 5) (by decide) (by decide) (ls' := [(0, _), (1, _), (2, _), (3, _), (4, _)]) rfl rfl ?_
                refine q_goto hC dX3_inheritedField_51 (n := 3) (by decide) ?_
                refine q_iload hC 4 dX3_inheritedField_3 rfl rfl ?_
                refine q_iconst hC dX3_inheritedField_5 (v := 5) (by decide) rfl ?_
                refine q_icmp_ge hC dX3_inheritedField_6 (t := 54) (n := 9) (by decide) rfl (fun _ => ?_) (fun h => absurd (by decide) h)
                refine q_iload_n hC 2 dX3_inheritedField_54 rfl rfl ?_
                refine q_iconst hC dX3_inheritedField_55 (v := (-1)) (by decide) rfl ?_
                refine q_icmp_ne hC dX3_inheritedField_56 (t := 63) (n := 59) (by decide) rfl (fun h56_76 => ?_) (fun h56_76 => ?_)
                · refine q_aload_n hC 0 dX3_inheritedField_63 rfl rfl ?_
                  refine q_get_f hC f_X3_33 dX3_inheritedField_64 rfl rfl hi rfl ?_
                  refine q_iload_n hC 2 dX3_inheritedField_67 rfl rfl ?_
                  refine q_bipush hC dX3_inheritedField_68 (v := 6) (by decide) rfl ?_
                  refine q_imul hC dX3_inheritedField_70 rfl ?_
                  refine q_iload_n hC 3 dX3_inheritedField_71 rfl rfl ?_
                  refine q_iadd hC dX3_inheritedField_72 rfl ?_
                  refine q_iald hC dX3_inheritedField_73 rfl hi (z_in36 (hb.elim (fun z => absurd z (by assumption)) (fun z => z.elim fun j hj => ⟨j, by omega, hj.2⟩)) hc) rfl ?_
                  refine q_iret hC dX3_inheritedField_74 rfl ⟨by decide, by decide⟩ ⟨_, rfl, ?_⟩
                  exact ⟨by simp only [z_inh, z_inhS, z_inhF, z_bit, z_pl, if_true, if_false, *], rfl⟩
                · refine q_iconst hC dX3_inheritedField_59 (v := (-1)) (by decide) rfl ?_
                  refine q_goto hC dX3_inheritedField_60 (n := 74) (by decide) ?_
                  refine q_iret hC dX3_inheritedField_74 rfl ⟨by decide, by decide⟩ ⟨_, rfl, ?_⟩
                  exact ⟨by simp only [z_inh, z_inhS, z_inhF, z_bit, z_pl, if_true, if_false, *], rfl⟩
              · refine q_aload_n hC 0 dX3_inheritedField_19 rfl rfl ?_
                refine q_get_f hC f_X3_33 dX3_inheritedField_20 rfl rfl hi rfl ?_
                refine q_iload hC 4 dX3_inheritedField_23 rfl rfl ?_
                refine q_bipush hC dX3_inheritedField_25 (v := 6) (by decide) rfl ?_
                refine q_imul hC dX3_inheritedField_27 rfl ?_
                refine q_iload_n hC 3 dX3_inheritedField_28 rfl rfl ?_
                refine q_iadd hC dX3_inheritedField_29 rfl ?_
                refine q_iald hC dX3_inheritedField_30 rfl hi (z_in36 ⟨_, by decide, rfl⟩ hc) rfl ?_
                refine q_iconst hC dX3_inheritedField_31 (v := (-1)) (by decide) rfl ?_
                refine q_icmp_eq hC dX3_inheritedField_32 (t := 48) (n := 35) (by decide) rfl (fun h32_77 => ?_) (fun h32_77 => ?_)
                · refine q_iinc hC 4 dX3_inheritedField_48 rfl (v := 5) (by decide) (by decide) (ls' := [(0, _), (1, _), (2, _), (3, _), (4, _)]) rfl rfl ?_
                  refine q_goto hC dX3_inheritedField_51 (n := 3) (by decide) ?_
                  refine q_iload hC 4 dX3_inheritedField_3 rfl rfl ?_
                  refine q_iconst hC dX3_inheritedField_5 (v := 5) (by decide) rfl ?_
                  refine q_icmp_ge hC dX3_inheritedField_6 (t := 54) (n := 9) (by decide) rfl (fun _ => ?_) (fun h => absurd (by decide) h)
                  refine q_iload_n hC 2 dX3_inheritedField_54 rfl rfl ?_
                  refine q_iconst hC dX3_inheritedField_55 (v := (-1)) (by decide) rfl ?_
                  refine q_icmp_ne hC dX3_inheritedField_56 (t := 63) (n := 59) (by decide) rfl (fun h56_78 => ?_) (fun h56_78 => ?_)
                  · refine q_aload_n hC 0 dX3_inheritedField_63 rfl rfl ?_
                    refine q_get_f hC f_X3_33 dX3_inheritedField_64 rfl rfl hi rfl ?_
                    refine q_iload_n hC 2 dX3_inheritedField_67 rfl rfl ?_
                    refine q_bipush hC dX3_inheritedField_68 (v := 6) (by decide) rfl ?_
                    refine q_imul hC dX3_inheritedField_70 rfl ?_
                    refine q_iload_n hC 3 dX3_inheritedField_71 rfl rfl ?_
                    refine q_iadd hC dX3_inheritedField_72 rfl ?_
                    refine q_iald hC dX3_inheritedField_73 rfl hi (z_in36 (hb.elim (fun z => absurd z (by assumption)) (fun z => z.elim fun j hj => ⟨j, by omega, hj.2⟩)) hc) rfl ?_
                    refine q_iret hC dX3_inheritedField_74 rfl ⟨by decide, by decide⟩ ⟨_, rfl, ?_⟩
                    exact ⟨by simp only [z_inh, z_inhS, z_inhF, z_bit, z_pl, if_true, if_false, *], rfl⟩
                  · refine q_iconst hC dX3_inheritedField_59 (v := (-1)) (by decide) rfl ?_
                    refine q_goto hC dX3_inheritedField_60 (n := 74) (by decide) ?_
                    refine q_iret hC dX3_inheritedField_74 rfl ⟨by decide, by decide⟩ ⟨_, rfl, ?_⟩
                    exact ⟨by simp only [z_inh, z_inhS, z_inhF, z_bit, z_pl, if_true, if_false, *], rfl⟩
                · refine q_aload_n hC 0 dX3_inheritedField_35 rfl rfl ?_
                  refine q_get_f hC f_X3_33 dX3_inheritedField_36 rfl rfl hi rfl ?_
                  refine q_iload hC 4 dX3_inheritedField_39 rfl rfl ?_
                  refine q_bipush hC dX3_inheritedField_41 (v := 6) (by decide) rfl ?_
                  refine q_imul hC dX3_inheritedField_43 rfl ?_
                  refine q_iload_n hC 3 dX3_inheritedField_44 rfl rfl ?_
                  refine q_iadd hC dX3_inheritedField_45 rfl ?_
                  refine q_iald hC dX3_inheritedField_46 rfl hi (z_in36 ⟨_, by decide, rfl⟩ hc) rfl ?_
                  refine q_iret hC dX3_inheritedField_47 rfl ⟨by decide, by decide⟩ ⟨_, rfl, ?_⟩
                  exact ⟨by simp only [z_inh, z_inhS, z_inhF, z_bit, z_pl, if_true, if_false, *], rfl⟩
            · refine q_aload_n hC 0 dX3_inheritedField_19 rfl rfl ?_
              refine q_get_f hC f_X3_33 dX3_inheritedField_20 rfl rfl hi rfl ?_
              refine q_iload hC 4 dX3_inheritedField_23 rfl rfl ?_
              refine q_bipush hC dX3_inheritedField_25 (v := 6) (by decide) rfl ?_
              refine q_imul hC dX3_inheritedField_27 rfl ?_
              refine q_iload_n hC 3 dX3_inheritedField_28 rfl rfl ?_
              refine q_iadd hC dX3_inheritedField_29 rfl ?_
              refine q_iald hC dX3_inheritedField_30 rfl hi (z_in36 ⟨_, by decide, rfl⟩ hc) rfl ?_
              refine q_iconst hC dX3_inheritedField_31 (v := (-1)) (by decide) rfl ?_
              refine q_icmp_eq hC dX3_inheritedField_32 (t := 48) (n := 35) (by decide) rfl (fun h32_79 => ?_) (fun h32_79 => ?_)
              · refine q_iinc hC 4 dX3_inheritedField_48 rfl (v := 4) (by decide) (by decide) (ls' := [(0, _), (1, _), (2, _), (3, _), (4, _)]) rfl rfl ?_
                refine q_goto hC dX3_inheritedField_51 (n := 3) (by decide) ?_
                refine q_iload hC 4 dX3_inheritedField_3 rfl rfl ?_
                refine q_iconst hC dX3_inheritedField_5 (v := 5) (by decide) rfl ?_
                refine q_icmp_ge hC dX3_inheritedField_6 (t := 54) (n := 9) (by decide) rfl (fun h => absurd h (by decide)) (fun _ => ?_)
                refine q_iload_n hC 1 dX3_inheritedField_9 rfl rfl ?_
                refine q_iload hC 4 dX3_inheritedField_10 rfl rfl ?_
                refine q_ishr hC dX3_inheritedField_12 rfl ?_
                refine q_iconst hC dX3_inheritedField_13 (v := 1) (by decide) rfl ?_
                refine q_iand hC dX3_inheritedField_14 rfl ?_
                refine q_iconst hC dX3_inheritedField_15 (v := 1) (by decide) rfl ?_
                refine q_icmp_ne hC dX3_inheritedField_16 (t := 48) (n := 19) (by decide) rfl (fun h16_80 => ?_) (fun h16_80 => ?_)
                · refine q_iinc hC 4 dX3_inheritedField_48 rfl (v := 5) (by decide) (by decide) (ls' := [(0, _), (1, _), (2, _), (3, _), (4, _)]) rfl rfl ?_
                  refine q_goto hC dX3_inheritedField_51 (n := 3) (by decide) ?_
                  refine q_iload hC 4 dX3_inheritedField_3 rfl rfl ?_
                  refine q_iconst hC dX3_inheritedField_5 (v := 5) (by decide) rfl ?_
                  refine q_icmp_ge hC dX3_inheritedField_6 (t := 54) (n := 9) (by decide) rfl (fun _ => ?_) (fun h => absurd (by decide) h)
                  refine q_iload_n hC 2 dX3_inheritedField_54 rfl rfl ?_
                  refine q_iconst hC dX3_inheritedField_55 (v := (-1)) (by decide) rfl ?_
                  refine q_icmp_ne hC dX3_inheritedField_56 (t := 63) (n := 59) (by decide) rfl (fun h56_81 => ?_) (fun h56_81 => ?_)
                  · refine q_aload_n hC 0 dX3_inheritedField_63 rfl rfl ?_
                    refine q_get_f hC f_X3_33 dX3_inheritedField_64 rfl rfl hi rfl ?_
                    refine q_iload_n hC 2 dX3_inheritedField_67 rfl rfl ?_
                    refine q_bipush hC dX3_inheritedField_68 (v := 6) (by decide) rfl ?_
                    refine q_imul hC dX3_inheritedField_70 rfl ?_
                    refine q_iload_n hC 3 dX3_inheritedField_71 rfl rfl ?_
                    refine q_iadd hC dX3_inheritedField_72 rfl ?_
                    refine q_iald hC dX3_inheritedField_73 rfl hi (z_in36 (hb.elim (fun z => absurd z (by assumption)) (fun z => z.elim fun j hj => ⟨j, by omega, hj.2⟩)) hc) rfl ?_
                    refine q_iret hC dX3_inheritedField_74 rfl ⟨by decide, by decide⟩ ⟨_, rfl, ?_⟩
                    exact ⟨by simp only [z_inh, z_inhS, z_inhF, z_bit, z_pl, if_true, if_false, *], rfl⟩
                  · refine q_iconst hC dX3_inheritedField_59 (v := (-1)) (by decide) rfl ?_
                    refine q_goto hC dX3_inheritedField_60 (n := 74) (by decide) ?_
                    refine q_iret hC dX3_inheritedField_74 rfl ⟨by decide, by decide⟩ ⟨_, rfl, ?_⟩
                    exact ⟨by simp only [z_inh, z_inhS, z_inhF, z_bit, z_pl, if_true, if_false, *], rfl⟩
                · refine q_aload_n hC 0 dX3_inheritedField_19 rfl rfl ?_
                  refine q_get_f hC f_X3_33 dX3_inheritedField_20 rfl rfl hi rfl ?_
                  refine q_iload hC 4 dX3_inheritedField_23 rfl rfl ?_
                  refine q_bipush hC dX3_inheritedField_25 (v := 6) (by decide) rfl ?_
                  refine q_imul hC dX3_inheritedField_27 rfl ?_
                  refine q_iload_n hC 3 dX3_inheritedField_28 rfl rfl ?_
                  refine q_iadd hC dX3_inheritedField_29 rfl ?_
                  refine q_iald hC dX3_inheritedField_30 rfl hi (z_in36 ⟨_, by decide, rfl⟩ hc) rfl ?_
                  refine q_iconst hC dX3_inheritedField_31 (v := (-1)) (by decide) rfl ?_
                  refine q_icmp_eq hC dX3_inheritedField_32 (t := 48) (n := 35) (by decide) rfl (fun h32_82 => ?_) (fun h32_82 => ?_)
                  · refine q_iinc hC 4 dX3_inheritedField_48 rfl (v := 5) (by decide) (by decide) (ls' := [(0, _), (1, _), (2, _), (3, _), (4, _)]) rfl rfl ?_
                    refine q_goto hC dX3_inheritedField_51 (n := 3) (by decide) ?_
                    refine q_iload hC 4 dX3_inheritedField_3 rfl rfl ?_
                    refine q_iconst hC dX3_inheritedField_5 (v := 5) (by decide) rfl ?_
                    refine q_icmp_ge hC dX3_inheritedField_6 (t := 54) (n := 9) (by decide) rfl (fun _ => ?_) (fun h => absurd (by decide) h)
                    refine q_iload_n hC 2 dX3_inheritedField_54 rfl rfl ?_
                    refine q_iconst hC dX3_inheritedField_55 (v := (-1)) (by decide) rfl ?_
                    refine q_icmp_ne hC dX3_inheritedField_56 (t := 63) (n := 59) (by decide) rfl (fun h56_83 => ?_) (fun h56_83 => ?_)
                    · refine q_aload_n hC 0 dX3_inheritedField_63 rfl rfl ?_
                      refine q_get_f hC f_X3_33 dX3_inheritedField_64 rfl rfl hi rfl ?_
                      refine q_iload_n hC 2 dX3_inheritedField_67 rfl rfl ?_
                      refine q_bipush hC dX3_inheritedField_68 (v := 6) (by decide) rfl ?_
                      refine q_imul hC dX3_inheritedField_70 rfl ?_
                      refine q_iload_n hC 3 dX3_inheritedField_71 rfl rfl ?_
                      refine q_iadd hC dX3_inheritedField_72 rfl ?_
                      refine q_iald hC dX3_inheritedField_73 rfl hi (z_in36 (hb.elim (fun z => absurd z (by assumption)) (fun z => z.elim fun j hj => ⟨j, by omega, hj.2⟩)) hc) rfl ?_
                      refine q_iret hC dX3_inheritedField_74 rfl ⟨by decide, by decide⟩ ⟨_, rfl, ?_⟩
                      exact ⟨by simp only [z_inh, z_inhS, z_inhF, z_bit, z_pl, if_true, if_false, *], rfl⟩
                    · refine q_iconst hC dX3_inheritedField_59 (v := (-1)) (by decide) rfl ?_
                      refine q_goto hC dX3_inheritedField_60 (n := 74) (by decide) ?_
                      refine q_iret hC dX3_inheritedField_74 rfl ⟨by decide, by decide⟩ ⟨_, rfl, ?_⟩
                      exact ⟨by simp only [z_inh, z_inhS, z_inhF, z_bit, z_pl, if_true, if_false, *], rfl⟩
                  · refine q_aload_n hC 0 dX3_inheritedField_35 rfl rfl ?_
                    refine q_get_f hC f_X3_33 dX3_inheritedField_36 rfl rfl hi rfl ?_
                    refine q_iload hC 4 dX3_inheritedField_39 rfl rfl ?_
                    refine q_bipush hC dX3_inheritedField_41 (v := 6) (by decide) rfl ?_
                    refine q_imul hC dX3_inheritedField_43 rfl ?_
                    refine q_iload_n hC 3 dX3_inheritedField_44 rfl rfl ?_
                    refine q_iadd hC dX3_inheritedField_45 rfl ?_
                    refine q_iald hC dX3_inheritedField_46 rfl hi (z_in36 ⟨_, by decide, rfl⟩ hc) rfl ?_
                    refine q_iret hC dX3_inheritedField_47 rfl ⟨by decide, by decide⟩ ⟨_, rfl, ?_⟩
                    exact ⟨by simp only [z_inh, z_inhS, z_inhF, z_bit, z_pl, if_true, if_false, *], rfl⟩
              · refine q_aload_n hC 0 dX3_inheritedField_35 rfl rfl ?_
                refine q_get_f hC f_X3_33 dX3_inheritedField_36 rfl rfl hi rfl ?_
                refine q_iload hC 4 dX3_inheritedField_39 rfl rfl ?_
                refine q_bipush hC dX3_inheritedField_41 (v := 6) (by decide) rfl ?_
                refine q_imul hC dX3_inheritedField_43 rfl ?_
                refine q_iload_n hC 3 dX3_inheritedField_44 rfl rfl ?_
                refine q_iadd hC dX3_inheritedField_45 rfl ?_
                refine q_iald hC dX3_inheritedField_46 rfl hi (z_in36 ⟨_, by decide, rfl⟩ hc) rfl ?_
                refine q_iret hC dX3_inheritedField_47 rfl ⟨by decide, by decide⟩ ⟨_, rfl, ?_⟩
                exact ⟨by simp only [z_inh, z_inhS, z_inhF, z_bit, z_pl, if_true, if_false, *], rfl⟩
          · refine q_aload_n hC 0 dX3_inheritedField_19 rfl rfl ?_
            refine q_get_f hC f_X3_33 dX3_inheritedField_20 rfl rfl hi rfl ?_
            refine q_iload hC 4 dX3_inheritedField_23 rfl rfl ?_
            refine q_bipush hC dX3_inheritedField_25 (v := 6) (by decide) rfl ?_
            refine q_imul hC dX3_inheritedField_27 rfl ?_
            refine q_iload_n hC 3 dX3_inheritedField_28 rfl rfl ?_
            refine q_iadd hC dX3_inheritedField_29 rfl ?_
            refine q_iald hC dX3_inheritedField_30 rfl hi (z_in36 ⟨_, by decide, rfl⟩ hc) rfl ?_
            refine q_iconst hC dX3_inheritedField_31 (v := (-1)) (by decide) rfl ?_
            refine q_icmp_eq hC dX3_inheritedField_32 (t := 48) (n := 35) (by decide) rfl (fun h32_84 => ?_) (fun h32_84 => ?_)
            · refine q_iinc hC 4 dX3_inheritedField_48 rfl (v := 3) (by decide) (by decide) (ls' := [(0, _), (1, _), (2, _), (3, _), (4, _)]) rfl rfl ?_
              refine q_goto hC dX3_inheritedField_51 (n := 3) (by decide) ?_
              refine q_iload hC 4 dX3_inheritedField_3 rfl rfl ?_
              refine q_iconst hC dX3_inheritedField_5 (v := 5) (by decide) rfl ?_
              refine q_icmp_ge hC dX3_inheritedField_6 (t := 54) (n := 9) (by decide) rfl (fun h => absurd h (by decide)) (fun _ => ?_)
              refine q_iload_n hC 1 dX3_inheritedField_9 rfl rfl ?_
              refine q_iload hC 4 dX3_inheritedField_10 rfl rfl ?_
              refine q_ishr hC dX3_inheritedField_12 rfl ?_
              refine q_iconst hC dX3_inheritedField_13 (v := 1) (by decide) rfl ?_
              refine q_iand hC dX3_inheritedField_14 rfl ?_
              refine q_iconst hC dX3_inheritedField_15 (v := 1) (by decide) rfl ?_
              refine q_icmp_ne hC dX3_inheritedField_16 (t := 48) (n := 19) (by decide) rfl (fun h16_85 => ?_) (fun h16_85 => ?_)
              · refine q_iinc hC 4 dX3_inheritedField_48 rfl (v := 4) (by decide) (by decide) (ls' := [(0, _), (1, _), (2, _), (3, _), (4, _)]) rfl rfl ?_
                refine q_goto hC dX3_inheritedField_51 (n := 3) (by decide) ?_
                refine q_iload hC 4 dX3_inheritedField_3 rfl rfl ?_
                refine q_iconst hC dX3_inheritedField_5 (v := 5) (by decide) rfl ?_
                refine q_icmp_ge hC dX3_inheritedField_6 (t := 54) (n := 9) (by decide) rfl (fun h => absurd h (by decide)) (fun _ => ?_)
                refine q_iload_n hC 1 dX3_inheritedField_9 rfl rfl ?_
                refine q_iload hC 4 dX3_inheritedField_10 rfl rfl ?_
                refine q_ishr hC dX3_inheritedField_12 rfl ?_
                refine q_iconst hC dX3_inheritedField_13 (v := 1) (by decide) rfl ?_
                refine q_iand hC dX3_inheritedField_14 rfl ?_
                refine q_iconst hC dX3_inheritedField_15 (v := 1) (by decide) rfl ?_
                refine q_icmp_ne hC dX3_inheritedField_16 (t := 48) (n := 19) (by decide) rfl (fun h16_86 => ?_) (fun h16_86 => ?_)
                · refine q_iinc hC 4 dX3_inheritedField_48 rfl (v := 5) (by decide) (by decide) (ls' := [(0, _), (1, _), (2, _), (3, _), (4, _)]) rfl rfl ?_
                  refine q_goto hC dX3_inheritedField_51 (n := 3) (by decide) ?_
                  refine q_iload hC 4 dX3_inheritedField_3 rfl rfl ?_
                  refine q_iconst hC dX3_inheritedField_5 (v := 5) (by decide) rfl ?_
                  refine q_icmp_ge hC dX3_inheritedField_6 (t := 54) (n := 9) (by decide) rfl (fun _ => ?_) (fun h => absurd (by decide) h)
                  refine q_iload_n hC 2 dX3_inheritedField_54 rfl rfl ?_
                  refine q_iconst hC dX3_inheritedField_55 (v := (-1)) (by decide) rfl ?_
                  refine q_icmp_ne hC dX3_inheritedField_56 (t := 63) (n := 59) (by decide) rfl (fun h56_87 => ?_) (fun h56_87 => ?_)
                  · refine q_aload_n hC 0 dX3_inheritedField_63 rfl rfl ?_
                    refine q_get_f hC f_X3_33 dX3_inheritedField_64 rfl rfl hi rfl ?_
                    refine q_iload_n hC 2 dX3_inheritedField_67 rfl rfl ?_
                    refine q_bipush hC dX3_inheritedField_68 (v := 6) (by decide) rfl ?_
                    refine q_imul hC dX3_inheritedField_70 rfl ?_
                    refine q_iload_n hC 3 dX3_inheritedField_71 rfl rfl ?_
                    refine q_iadd hC dX3_inheritedField_72 rfl ?_
                    refine q_iald hC dX3_inheritedField_73 rfl hi (z_in36 (hb.elim (fun z => absurd z (by assumption)) (fun z => z.elim fun j hj => ⟨j, by omega, hj.2⟩)) hc) rfl ?_
                    refine q_iret hC dX3_inheritedField_74 rfl ⟨by decide, by decide⟩ ⟨_, rfl, ?_⟩
                    exact ⟨by simp only [z_inh, z_inhS, z_inhF, z_bit, z_pl, if_true, if_false, *], rfl⟩
                  · refine q_iconst hC dX3_inheritedField_59 (v := (-1)) (by decide) rfl ?_
                    refine q_goto hC dX3_inheritedField_60 (n := 74) (by decide) ?_
                    refine q_iret hC dX3_inheritedField_74 rfl ⟨by decide, by decide⟩ ⟨_, rfl, ?_⟩
                    exact ⟨by simp only [z_inh, z_inhS, z_inhF, z_bit, z_pl, if_true, if_false, *], rfl⟩
                · refine q_aload_n hC 0 dX3_inheritedField_19 rfl rfl ?_
                  refine q_get_f hC f_X3_33 dX3_inheritedField_20 rfl rfl hi rfl ?_
                  refine q_iload hC 4 dX3_inheritedField_23 rfl rfl ?_
                  refine q_bipush hC dX3_inheritedField_25 (v := 6) (by decide) rfl ?_
                  refine q_imul hC dX3_inheritedField_27 rfl ?_
                  refine q_iload_n hC 3 dX3_inheritedField_28 rfl rfl ?_
                  refine q_iadd hC dX3_inheritedField_29 rfl ?_
                  refine q_iald hC dX3_inheritedField_30 rfl hi (z_in36 ⟨_, by decide, rfl⟩ hc) rfl ?_
                  refine q_iconst hC dX3_inheritedField_31 (v := (-1)) (by decide) rfl ?_
                  refine q_icmp_eq hC dX3_inheritedField_32 (t := 48) (n := 35) (by decide) rfl (fun h32_88 => ?_) (fun h32_88 => ?_)
                  · refine q_iinc hC 4 dX3_inheritedField_48 rfl (v := 5) (by decide) (by decide) (ls' := [(0, _), (1, _), (2, _), (3, _), (4, _)]) rfl rfl ?_
                    refine q_goto hC dX3_inheritedField_51 (n := 3) (by decide) ?_
                    refine q_iload hC 4 dX3_inheritedField_3 rfl rfl ?_
                    refine q_iconst hC dX3_inheritedField_5 (v := 5) (by decide) rfl ?_
                    refine q_icmp_ge hC dX3_inheritedField_6 (t := 54) (n := 9) (by decide) rfl (fun _ => ?_) (fun h => absurd (by decide) h)
                    refine q_iload_n hC 2 dX3_inheritedField_54 rfl rfl ?_
                    refine q_iconst hC dX3_inheritedField_55 (v := (-1)) (by decide) rfl ?_
                    refine q_icmp_ne hC dX3_inheritedField_56 (t := 63) (n := 59) (by decide) rfl (fun h56_89 => ?_) (fun h56_89 => ?_)
                    · refine q_aload_n hC 0 dX3_inheritedField_63 rfl rfl ?_
                      refine q_get_f hC f_X3_33 dX3_inheritedField_64 rfl rfl hi rfl ?_
                      refine q_iload_n hC 2 dX3_inheritedField_67 rfl rfl ?_
                      refine q_bipush hC dX3_inheritedField_68 (v := 6) (by decide) rfl ?_
                      refine q_imul hC dX3_inheritedField_70 rfl ?_
                      refine q_iload_n hC 3 dX3_inheritedField_71 rfl rfl ?_
                      refine q_iadd hC dX3_inheritedField_72 rfl ?_
                      refine q_iald hC dX3_inheritedField_73 rfl hi (z_in36 (hb.elim (fun z => absurd z (by assumption)) (fun z => z.elim fun j hj => ⟨j, by omega, hj.2⟩)) hc) rfl ?_
                      refine q_iret hC dX3_inheritedField_74 rfl ⟨by decide, by decide⟩ ⟨_, rfl, ?_⟩
                      exact ⟨by simp only [z_inh, z_inhS, z_inhF, z_bit, z_pl, if_true, if_false, *], rfl⟩
                    · refine q_iconst hC dX3_inheritedField_59 (v := (-1)) (by decide) rfl ?_
                      refine q_goto hC dX3_inheritedField_60 (n := 74) (by decide) ?_
                      refine q_iret hC dX3_inheritedField_74 rfl ⟨by decide, by decide⟩ ⟨_, rfl, ?_⟩
                      exact ⟨by simp only [z_inh, z_inhS, z_inhF, z_bit, z_pl, if_true, if_false, *], rfl⟩
                  · refine q_aload_n hC 0 dX3_inheritedField_35 rfl rfl ?_
                    refine q_get_f hC f_X3_33 dX3_inheritedField_36 rfl rfl hi rfl ?_
                    refine q_iload hC 4 dX3_inheritedField_39 rfl rfl ?_
                    refine q_bipush hC dX3_inheritedField_41 (v := 6) (by decide) rfl ?_
                    refine q_imul hC dX3_inheritedField_43 rfl ?_
                    refine q_iload_n hC 3 dX3_inheritedField_44 rfl rfl ?_
                    refine q_iadd hC dX3_inheritedField_45 rfl ?_
                    refine q_iald hC dX3_inheritedField_46 rfl hi (z_in36 ⟨_, by decide, rfl⟩ hc) rfl ?_
                    refine q_iret hC dX3_inheritedField_47 rfl ⟨by decide, by decide⟩ ⟨_, rfl, ?_⟩
                    exact ⟨by simp only [z_inh, z_inhS, z_inhF, z_bit, z_pl, if_true, if_false, *], rfl⟩
              · refine q_aload_n hC 0 dX3_inheritedField_19 rfl rfl ?_
                refine q_get_f hC f_X3_33 dX3_inheritedField_20 rfl rfl hi rfl ?_
                refine q_iload hC 4 dX3_inheritedField_23 rfl rfl ?_
                refine q_bipush hC dX3_inheritedField_25 (v := 6) (by decide) rfl ?_
                refine q_imul hC dX3_inheritedField_27 rfl ?_
                refine q_iload_n hC 3 dX3_inheritedField_28 rfl rfl ?_
                refine q_iadd hC dX3_inheritedField_29 rfl ?_
                refine q_iald hC dX3_inheritedField_30 rfl hi (z_in36 ⟨_, by decide, rfl⟩ hc) rfl ?_
                refine q_iconst hC dX3_inheritedField_31 (v := (-1)) (by decide) rfl ?_
                refine q_icmp_eq hC dX3_inheritedField_32 (t := 48) (n := 35) (by decide) rfl (fun h32_90 => ?_) (fun h32_90 => ?_)
                · refine q_iinc hC 4 dX3_inheritedField_48 rfl (v := 4) (by decide) (by decide) (ls' := [(0, _), (1, _), (2, _), (3, _), (4, _)]) rfl rfl ?_
                  refine q_goto hC dX3_inheritedField_51 (n := 3) (by decide) ?_
                  refine q_iload hC 4 dX3_inheritedField_3 rfl rfl ?_
                  refine q_iconst hC dX3_inheritedField_5 (v := 5) (by decide) rfl ?_
                  refine q_icmp_ge hC dX3_inheritedField_6 (t := 54) (n := 9) (by decide) rfl (fun h => absurd h (by decide)) (fun _ => ?_)
                  refine q_iload_n hC 1 dX3_inheritedField_9 rfl rfl ?_
                  refine q_iload hC 4 dX3_inheritedField_10 rfl rfl ?_
                  refine q_ishr hC dX3_inheritedField_12 rfl ?_
                  refine q_iconst hC dX3_inheritedField_13 (v := 1) (by decide) rfl ?_
                  refine q_iand hC dX3_inheritedField_14 rfl ?_
                  refine q_iconst hC dX3_inheritedField_15 (v := 1) (by decide) rfl ?_
                  refine q_icmp_ne hC dX3_inheritedField_16 (t := 48) (n := 19) (by decide) rfl (fun h16_91 => ?_) (fun h16_91 => ?_)
                  · refine q_iinc hC 4 dX3_inheritedField_48 rfl (v := 5) (by decide) (by decide) (ls' := [(0, _), (1, _), (2, _), (3, _), (4, _)]) rfl rfl ?_
                    refine q_goto hC dX3_inheritedField_51 (n := 3) (by decide) ?_
                    refine q_iload hC 4 dX3_inheritedField_3 rfl rfl ?_
                    refine q_iconst hC dX3_inheritedField_5 (v := 5) (by decide) rfl ?_
                    refine q_icmp_ge hC dX3_inheritedField_6 (t := 54) (n := 9) (by decide) rfl (fun _ => ?_) (fun h => absurd (by decide) h)
                    refine q_iload_n hC 2 dX3_inheritedField_54 rfl rfl ?_
                    refine q_iconst hC dX3_inheritedField_55 (v := (-1)) (by decide) rfl ?_
                    refine q_icmp_ne hC dX3_inheritedField_56 (t := 63) (n := 59) (by decide) rfl (fun h56_92 => ?_) (fun h56_92 => ?_)
                    · refine q_aload_n hC 0 dX3_inheritedField_63 rfl rfl ?_
                      refine q_get_f hC f_X3_33 dX3_inheritedField_64 rfl rfl hi rfl ?_
                      refine q_iload_n hC 2 dX3_inheritedField_67 rfl rfl ?_
                      refine q_bipush hC dX3_inheritedField_68 (v := 6) (by decide) rfl ?_
                      refine q_imul hC dX3_inheritedField_70 rfl ?_
                      refine q_iload_n hC 3 dX3_inheritedField_71 rfl rfl ?_
                      refine q_iadd hC dX3_inheritedField_72 rfl ?_
                      refine q_iald hC dX3_inheritedField_73 rfl hi (z_in36 (hb.elim (fun z => absurd z (by assumption)) (fun z => z.elim fun j hj => ⟨j, by omega, hj.2⟩)) hc) rfl ?_
                      refine q_iret hC dX3_inheritedField_74 rfl ⟨by decide, by decide⟩ ⟨_, rfl, ?_⟩
                      exact ⟨by simp only [z_inh, z_inhS, z_inhF, z_bit, z_pl, if_true, if_false, *], rfl⟩
                    · refine q_iconst hC dX3_inheritedField_59 (v := (-1)) (by decide) rfl ?_
                      refine q_goto hC dX3_inheritedField_60 (n := 74) (by decide) ?_
                      refine q_iret hC dX3_inheritedField_74 rfl ⟨by decide, by decide⟩ ⟨_, rfl, ?_⟩
                      exact ⟨by simp only [z_inh, z_inhS, z_inhF, z_bit, z_pl, if_true, if_false, *], rfl⟩
                  · refine q_aload_n hC 0 dX3_inheritedField_19 rfl rfl ?_
                    refine q_get_f hC f_X3_33 dX3_inheritedField_20 rfl rfl hi rfl ?_
                    refine q_iload hC 4 dX3_inheritedField_23 rfl rfl ?_
                    refine q_bipush hC dX3_inheritedField_25 (v := 6) (by decide) rfl ?_
                    refine q_imul hC dX3_inheritedField_27 rfl ?_
                    refine q_iload_n hC 3 dX3_inheritedField_28 rfl rfl ?_
                    refine q_iadd hC dX3_inheritedField_29 rfl ?_
                    refine q_iald hC dX3_inheritedField_30 rfl hi (z_in36 ⟨_, by decide, rfl⟩ hc) rfl ?_
                    refine q_iconst hC dX3_inheritedField_31 (v := (-1)) (by decide) rfl ?_
                    refine q_icmp_eq hC dX3_inheritedField_32 (t := 48) (n := 35) (by decide) rfl (fun h32_93 => ?_) (fun h32_93 => ?_)
                    · refine q_iinc hC 4 dX3_inheritedField_48 rfl (v := 5) (by decide) (by decide) (ls' := [(0, _), (1, _), (2, _), (3, _), (4, _)]) rfl rfl ?_
                      refine q_goto hC dX3_inheritedField_51 (n := 3) (by decide) ?_
                      refine q_iload hC 4 dX3_inheritedField_3 rfl rfl ?_
                      refine q_iconst hC dX3_inheritedField_5 (v := 5) (by decide) rfl ?_
                      refine q_icmp_ge hC dX3_inheritedField_6 (t := 54) (n := 9) (by decide) rfl (fun _ => ?_) (fun h => absurd (by decide) h)
                      refine q_iload_n hC 2 dX3_inheritedField_54 rfl rfl ?_
                      refine q_iconst hC dX3_inheritedField_55 (v := (-1)) (by decide) rfl ?_
                      refine q_icmp_ne hC dX3_inheritedField_56 (t := 63) (n := 59) (by decide) rfl (fun h56_94 => ?_) (fun h56_94 => ?_)
                      · refine q_aload_n hC 0 dX3_inheritedField_63 rfl rfl ?_
                        refine q_get_f hC f_X3_33 dX3_inheritedField_64 rfl rfl hi rfl ?_
                        refine q_iload_n hC 2 dX3_inheritedField_67 rfl rfl ?_
                        refine q_bipush hC dX3_inheritedField_68 (v := 6) (by decide) rfl ?_
                        refine q_imul hC dX3_inheritedField_70 rfl ?_
                        refine q_iload_n hC 3 dX3_inheritedField_71 rfl rfl ?_
                        refine q_iadd hC dX3_inheritedField_72 rfl ?_
                        refine q_iald hC dX3_inheritedField_73 rfl hi (z_in36 (hb.elim (fun z => absurd z (by assumption)) (fun z => z.elim fun j hj => ⟨j, by omega, hj.2⟩)) hc) rfl ?_
                        refine q_iret hC dX3_inheritedField_74 rfl ⟨by decide, by decide⟩ ⟨_, rfl, ?_⟩
                        exact ⟨by simp only [z_inh, z_inhS, z_inhF, z_bit, z_pl, if_true, if_false, *], rfl⟩
                      · refine q_iconst hC dX3_inheritedField_59 (v := (-1)) (by decide) rfl ?_
                        refine q_goto hC dX3_inheritedField_60 (n := 74) (by decide) ?_
                        refine q_iret hC dX3_inheritedField_74 rfl ⟨by decide, by decide⟩ ⟨_, rfl, ?_⟩
                        exact ⟨by simp only [z_inh, z_inhS, z_inhF, z_bit, z_pl, if_true, if_false, *], rfl⟩
                    · refine q_aload_n hC 0 dX3_inheritedField_35 rfl rfl ?_
                      refine q_get_f hC f_X3_33 dX3_inheritedField_36 rfl rfl hi rfl ?_
                      refine q_iload hC 4 dX3_inheritedField_39 rfl rfl ?_
                      refine q_bipush hC dX3_inheritedField_41 (v := 6) (by decide) rfl ?_
                      refine q_imul hC dX3_inheritedField_43 rfl ?_
                      refine q_iload_n hC 3 dX3_inheritedField_44 rfl rfl ?_
                      refine q_iadd hC dX3_inheritedField_45 rfl ?_
                      refine q_iald hC dX3_inheritedField_46 rfl hi (z_in36 ⟨_, by decide, rfl⟩ hc) rfl ?_
                      refine q_iret hC dX3_inheritedField_47 rfl ⟨by decide, by decide⟩ ⟨_, rfl, ?_⟩
                      exact ⟨by simp only [z_inh, z_inhS, z_inhF, z_bit, z_pl, if_true, if_false, *], rfl⟩
                · refine q_aload_n hC 0 dX3_inheritedField_35 rfl rfl ?_
                  refine q_get_f hC f_X3_33 dX3_inheritedField_36 rfl rfl hi rfl ?_
                  refine q_iload hC 4 dX3_inheritedField_39 rfl rfl ?_
                  refine q_bipush hC dX3_inheritedField_41 (v := 6) (by decide) rfl ?_
                  refine q_imul hC dX3_inheritedField_43 rfl ?_
                  refine q_iload_n hC 3 dX3_inheritedField_44 rfl rfl ?_
                  refine q_iadd hC dX3_inheritedField_45 rfl ?_
                  refine q_iald hC dX3_inheritedField_46 rfl hi (z_in36 ⟨_, by decide, rfl⟩ hc) rfl ?_
                  refine q_iret hC dX3_inheritedField_47 rfl ⟨by decide, by decide⟩ ⟨_, rfl, ?_⟩
                  exact ⟨by simp only [z_inh, z_inhS, z_inhF, z_bit, z_pl, if_true, if_false, *], rfl⟩
            · refine q_aload_n hC 0 dX3_inheritedField_35 rfl rfl ?_
              refine q_get_f hC f_X3_33 dX3_inheritedField_36 rfl rfl hi rfl ?_
              refine q_iload hC 4 dX3_inheritedField_39 rfl rfl ?_
              refine q_bipush hC dX3_inheritedField_41 (v := 6) (by decide) rfl ?_
              refine q_imul hC dX3_inheritedField_43 rfl ?_
              refine q_iload_n hC 3 dX3_inheritedField_44 rfl rfl ?_
              refine q_iadd hC dX3_inheritedField_45 rfl ?_
              refine q_iald hC dX3_inheritedField_46 rfl hi (z_in36 ⟨_, by decide, rfl⟩ hc) rfl ?_
              refine q_iret hC dX3_inheritedField_47 rfl ⟨by decide, by decide⟩ ⟨_, rfl, ?_⟩
              exact ⟨by simp only [z_inh, z_inhS, z_inhF, z_bit, z_pl, if_true, if_false, *], rfl⟩
        · refine q_aload_n hC 0 dX3_inheritedField_35 rfl rfl ?_
          refine q_get_f hC f_X3_33 dX3_inheritedField_36 rfl rfl hi rfl ?_
          refine q_iload hC 4 dX3_inheritedField_39 rfl rfl ?_
          refine q_bipush hC dX3_inheritedField_41 (v := 6) (by decide) rfl ?_
          refine q_imul hC dX3_inheritedField_43 rfl ?_
          refine q_iload_n hC 3 dX3_inheritedField_44 rfl rfl ?_
          refine q_iadd hC dX3_inheritedField_45 rfl ?_
          refine q_iald hC dX3_inheritedField_46 rfl hi (z_in36 ⟨_, by decide, rfl⟩ hc) rfl ?_
          refine q_iret hC dX3_inheritedField_47 rfl ⟨by decide, by decide⟩ ⟨_, rfl, ?_⟩
          exact ⟨by simp only [z_inh, z_inhS, z_inhF, z_bit, z_pl, if_true, if_false, *], rfl⟩
    · refine q_aload_n hC 0 dX3_inheritedField_35 rfl rfl ?_
      refine q_get_f hC f_X3_33 dX3_inheritedField_36 rfl rfl hi rfl ?_
      refine q_iload hC 4 dX3_inheritedField_39 rfl rfl ?_
      refine q_bipush hC dX3_inheritedField_41 (v := 6) (by decide) rfl ?_
      refine q_imul hC dX3_inheritedField_43 rfl ?_
      refine q_iload_n hC 3 dX3_inheritedField_44 rfl rfl ?_
      refine q_iadd hC dX3_inheritedField_45 rfl ?_
      refine q_iald hC dX3_inheritedField_46 rfl hi (z_in36 ⟨_, by decide, rfl⟩ hc) rfl ?_
      refine q_iret hC dX3_inheritedField_47 rfl ⟨by decide, by decide⟩ ⟨_, rfl, ?_⟩
      exact ⟨by simp only [z_inh, z_inhS, z_inhF, z_bit, z_pl, if_true, if_false, *], rfl⟩
