-- printed by wip/p36/gen_m2.py
def z_bar (S : qM) (i : Nat) (mem : Int32) : Nat → Int32 → Int32
  | 0, _ => 0
  | n + 1, a => if a = -1 then 0 else
    if (if S 10 i (a * 6 + mem).toNatClampNeg = 112 then 1 else if S 10 i (a * 6 + mem).toNatClampNeg = 111 then 1 else (0 : Int32)) = 0 then z_bar S i mem n (S 7 i a.toNatClampNeg)
    else if S 11 i (a * 6 + mem).toNatClampNeg = 102 then 1 else if S 11 i (a * 6 + mem).toNatClampNeg = 115 then 1 else z_bar S i mem n (S 7 i a.toNatClampNeg)
/-- the superclasses are types, or none -/
def z_sups (S : qM) (i : Nat) : Prop := ∀ t, t < 5 → z_v5 (S 7 i t)
theorem z_sups_at {S : qM} {i : Nat} (h : z_sups S i) {a : Int32} (ha : z_lt a 5) : z_v5 (S 7 i a.toNatClampNeg) := by
  obtain ⟨j, hj, rfl⟩ := ha
  rw [nI_clamp (by omega)]
  exact h j hj
abbrev rm_X5_isBarred : Room := { frames := 0, cells := 0, slots := 0, locals := 0 }
set_option maxHeartbeats 4000000 in
set_option maxRecDepth 100000 in
theorem c_X5_isBarred {L : qL} (hD : q_D L.2.2.2.1) : qCT L yX5_isBarred cX5_isBarred 7 (some .boolean) rm_X5_isBarred (fun ad _ (x : Nat × Int32 × Int32) => [.ref (ad 0 x.1), .int x.2.1, .int x.2.2]) (fun x S => x.1 < 4 ∧ z_v5 x.2.1 ∧ z_lt x.2.2 6 ∧ z_sups S x.1) (qPi (fun x S r S' => r = z_bar S x.1 x.2.2 5 x.2.1 ∧ S = S')) := by
  refine q_met hD (by decide) (fun _ => Nat.le_of_ble_eq_true rfl) (fun Γ x S hΓ hpre hC => ?_)
  subst hΓ
  obtain ⟨i, a, b⟩ := x
  obtain ⟨hi, ha, hb, hS⟩ := hpre
  have hi : i < 4 := hi
  have hb : z_lt b 6 := hb
  have hS : z_sups S i := hS
  have L : ∀ (n m : Nat) (t : Int32), m + n = 5 → z_v5 t → z_bar S i b n t = z_bar S i b 5 a → qV Γ rm_X5_isBarred 7 5 [(0, .ref (q_ad Γ 0 i)), (1, .int a), (2, .int b), (3, .int t), (4, .int (nI m))] [] S (0, 0) := by
    intro n
    induction n with
    | zero =>
      intro m t hmn ht hF
      obtain rfl : m = 5 := by omega
      refine q_iload hC 4 dX5_isBarred_5 rfl rfl ?_
      refine q_iconst hC dX5_isBarred_7 (v := 5) (by decide) rfl ?_
      refine q_icmp_ge hC dX5_isBarred_8 (t := 100) (n := 11) (by decide) rfl (fun h8 => ?_) (fun h8 => absurd (by decide) h8)
      refine q_iconst hC dX5_isBarred_100 (v := 0) (by decide) rfl ?_
      refine q_iret hC dX5_isBarred_101 rfl ⟨by decide, by decide⟩ ⟨_, rfl, ?_⟩
      exact ⟨by rw [← hF]; simp only [z_bar, if_true, z_e10, if_true, if_false], rfl⟩
    | succ n ih =>
      intro m t hmn ht hF
      have hm : m < 5 := by omega
      refine q_iload hC 4 dX5_isBarred_5 rfl rfl ?_
      refine q_iconst hC dX5_isBarred_7 (v := 5) (by decide) rfl ?_
      refine q_icmp_ge hC dX5_isBarred_8 (t := 100) (n := 11) (by decide) rfl (fun h8 => absurd h8 (nI_ge hm (by decide))) (fun h8 => ?_)
      refine q_iload_n hC 3 dX5_isBarred_11 rfl rfl ?_
      refine q_iconst hC dX5_isBarred_12 (v := (-1)) (by decide) rfl ?_
      refine q_icmp_eq hC dX5_isBarred_13 (t := 100) (n := 16) (by decide) rfl (fun h13 => ?_) (fun h13 => ?_)
      · refine q_iconst hC dX5_isBarred_100 (v := 0) (by decide) rfl ?_
        refine q_iret hC dX5_isBarred_101 rfl ⟨by decide, by decide⟩ ⟨_, rfl, ?_⟩
        exact ⟨by rw [← hF]; simp only [z_bar, if_pos h13, z_e10, if_true, if_false], rfl⟩
      · refine q_aload_n hC 0 dX5_isBarred_16 rfl rfl ?_
        refine q_get_f hC f_X5_12 dX5_isBarred_17 rfl rfl hi rfl ?_
        refine q_get_f hC f_X5_105 dX5_isBarred_20 rfl rfl hi rfl ?_
        refine q_get_f hC f_X5_109 dX5_isBarred_23 rfl rfl hi rfl ?_
        refine q_iload_n hC 3 dX5_isBarred_26 rfl rfl ?_
        refine q_bipush hC dX5_isBarred_27 (v := 6) (by decide) rfl ?_
        refine q_imul hC dX5_isBarred_29 rfl ?_
        refine q_iload_n hC 2 dX5_isBarred_30 rfl rfl ?_
        refine q_iadd hC dX5_isBarred_31 rfl ?_
        refine q_cald hC dX5_isBarred_32 rfl hi (z_in30 (z_v5n ht h13) hb) rfl ?_
        refine q_istore hC dX5_isBarred_33 (by decide) (ls' := [(0, _), (1, _), (2, _), (3, _), (4, _), (5, _)]) rfl rfl ?_
        refine q_aload_n hC 0 dX5_isBarred_35 rfl rfl ?_
        refine q_get_f hC f_X5_12 dX5_isBarred_36 rfl rfl hi rfl ?_
        refine q_get_f hC f_X5_105 dX5_isBarred_39 rfl rfl hi rfl ?_
        refine q_get_f hC f_X5_114 dX5_isBarred_42 rfl rfl hi rfl ?_
        refine q_iload_n hC 3 dX5_isBarred_45 rfl rfl ?_
        refine q_bipush hC dX5_isBarred_46 (v := 6) (by decide) rfl ?_
        refine q_imul hC dX5_isBarred_48 rfl ?_
        refine q_iload_n hC 2 dX5_isBarred_49 rfl rfl ?_
        refine q_iadd hC dX5_isBarred_50 rfl ?_
        refine q_cald hC dX5_isBarred_51 rfl hi (z_in30 (z_v5n ht h13) hb) rfl ?_
        refine q_istore hC dX5_isBarred_52 (by decide) (ls' := [(0, _), (1, _), (2, _), (3, _), (4, _), (5, _), (6, _)]) rfl rfl ?_
        refine q_iload hC 5 dX5_isBarred_54 rfl rfl ?_
        refine q_bipush hC dX5_isBarred_56 (v := 112) (by decide) rfl ?_
        refine q_icmp_eq hC dX5_isBarred_58 (t := 68) (n := 61) (by decide) rfl (fun h58 => ?_) (fun h58 => ?_)
        · refine q_iload hC 6 dX5_isBarred_68 rfl rfl ?_
          refine q_bipush hC dX5_isBarred_70 (v := 102) (by decide) rfl ?_
          refine q_icmp_eq hC dX5_isBarred_72 (t := 82) (n := 75) (by decide) rfl (fun h72 => ?_) (fun h72 => ?_)
          · refine q_iconst hC dX5_isBarred_82 (v := 1) (by decide) rfl ?_
            refine q_iret hC dX5_isBarred_83 rfl ⟨by decide, by decide⟩ ⟨_, rfl, ?_⟩
            exact ⟨by rw [← hF]; simp only [z_bar, if_neg h13, if_pos h58, if_pos h72, z_e10, if_true, if_false], rfl⟩
          · refine q_iload hC 6 dX5_isBarred_75 rfl rfl ?_
            refine q_bipush hC dX5_isBarred_77 (v := 115) (by decide) rfl ?_
            refine q_icmp_ne hC dX5_isBarred_79 (t := 84) (n := 82) (by decide) rfl (fun h79 => ?_) (fun h79 => ?_)
            · refine q_aload_n hC 0 dX5_isBarred_84 rfl rfl ?_
              refine q_get_f hC f_X5_12 dX5_isBarred_85 rfl rfl hi rfl ?_
              refine q_get_f hC f_X5_115 dX5_isBarred_88 rfl rfl hi rfl ?_
              refine q_iload_n hC 3 dX5_isBarred_91 rfl rfl ?_
              refine q_iald hC dX5_isBarred_92 rfl hi (z_in (z_v5n ht h13) (by decide)) rfl ?_
              refine q_istore_n hC dX5_isBarred_93 (by decide) (ls' := [(0, _), (1, _), (2, _), (3, _), (4, _), (5, _), (6, _)]) rfl rfl ?_
              refine q_iinc hC 4 dX5_isBarred_94 rfl (v := nI (m + 1)) (z_inc m) (by decide) (ls' := [(0, _), (1, _), (2, _), (3, _), (4, _), (5, _), (6, _)]) rfl rfl ?_
              refine q_goto hC dX5_isBarred_97 (n := 5) (by decide) ?_
              refine q_locp [0, 1, 2, 3, 4] (ls' := [(0, _), (1, _), (2, _), (3, _), (4, _)]) rfl ?_
              refine ih (m + 1) _ (by omega) (z_sups_at hS (z_v5n ht h13)) ?_
              rw [← hF]
              simp only [z_bar, if_neg h13, if_pos h58, if_neg h72, if_neg h79, z_e10, if_true, if_false]
            · refine q_iconst hC dX5_isBarred_82 (v := 1) (by decide) rfl ?_
              refine q_iret hC dX5_isBarred_83 rfl ⟨by decide, by decide⟩ ⟨_, rfl, ?_⟩
              exact ⟨by rw [← hF]; simp only [z_bar, if_neg h13, if_pos h58, if_neg h72, if_pos h79, z_e10, if_true, if_false], rfl⟩
        · refine q_iload hC 5 dX5_isBarred_61 rfl rfl ?_
          refine q_bipush hC dX5_isBarred_63 (v := 111) (by decide) rfl ?_
          refine q_icmp_ne hC dX5_isBarred_65 (t := 84) (n := 68) (by decide) rfl (fun h65 => ?_) (fun h65 => ?_)
          · refine q_aload_n hC 0 dX5_isBarred_84 rfl rfl ?_
            refine q_get_f hC f_X5_12 dX5_isBarred_85 rfl rfl hi rfl ?_
            refine q_get_f hC f_X5_115 dX5_isBarred_88 rfl rfl hi rfl ?_
            refine q_iload_n hC 3 dX5_isBarred_91 rfl rfl ?_
            refine q_iald hC dX5_isBarred_92 rfl hi (z_in (z_v5n ht h13) (by decide)) rfl ?_
            refine q_istore_n hC dX5_isBarred_93 (by decide) (ls' := [(0, _), (1, _), (2, _), (3, _), (4, _), (5, _), (6, _)]) rfl rfl ?_
            refine q_iinc hC 4 dX5_isBarred_94 rfl (v := nI (m + 1)) (z_inc m) (by decide) (ls' := [(0, _), (1, _), (2, _), (3, _), (4, _), (5, _), (6, _)]) rfl rfl ?_
            refine q_goto hC dX5_isBarred_97 (n := 5) (by decide) ?_
            refine q_locp [0, 1, 2, 3, 4] (ls' := [(0, _), (1, _), (2, _), (3, _), (4, _)]) rfl ?_
            refine ih (m + 1) _ (by omega) (z_sups_at hS (z_v5n ht h13)) ?_
            rw [← hF]
            simp only [z_bar, if_neg h13, if_neg h58, if_neg h65, z_e10, if_true, if_false]
          · refine q_iload hC 6 dX5_isBarred_68 rfl rfl ?_
            refine q_bipush hC dX5_isBarred_70 (v := 102) (by decide) rfl ?_
            refine q_icmp_eq hC dX5_isBarred_72 (t := 82) (n := 75) (by decide) rfl (fun h72 => ?_) (fun h72 => ?_)
            · refine q_iconst hC dX5_isBarred_82 (v := 1) (by decide) rfl ?_
              refine q_iret hC dX5_isBarred_83 rfl ⟨by decide, by decide⟩ ⟨_, rfl, ?_⟩
              exact ⟨by rw [← hF]; simp only [z_bar, if_neg h13, if_neg h58, if_pos h65, if_pos h72, z_e10, if_true, if_false], rfl⟩
            · refine q_iload hC 6 dX5_isBarred_75 rfl rfl ?_
              refine q_bipush hC dX5_isBarred_77 (v := 115) (by decide) rfl ?_
              refine q_icmp_ne hC dX5_isBarred_79 (t := 84) (n := 82) (by decide) rfl (fun h79 => ?_) (fun h79 => ?_)
              · refine q_aload_n hC 0 dX5_isBarred_84 rfl rfl ?_
                refine q_get_f hC f_X5_12 dX5_isBarred_85 rfl rfl hi rfl ?_
                refine q_get_f hC f_X5_115 dX5_isBarred_88 rfl rfl hi rfl ?_
                refine q_iload_n hC 3 dX5_isBarred_91 rfl rfl ?_
                refine q_iald hC dX5_isBarred_92 rfl hi (z_in (z_v5n ht h13) (by decide)) rfl ?_
                refine q_istore_n hC dX5_isBarred_93 (by decide) (ls' := [(0, _), (1, _), (2, _), (3, _), (4, _), (5, _), (6, _)]) rfl rfl ?_
                refine q_iinc hC 4 dX5_isBarred_94 rfl (v := nI (m + 1)) (z_inc m) (by decide) (ls' := [(0, _), (1, _), (2, _), (3, _), (4, _), (5, _), (6, _)]) rfl rfl ?_
                refine q_goto hC dX5_isBarred_97 (n := 5) (by decide) ?_
                refine q_locp [0, 1, 2, 3, 4] (ls' := [(0, _), (1, _), (2, _), (3, _), (4, _)]) rfl ?_
                refine ih (m + 1) _ (by omega) (z_sups_at hS (z_v5n ht h13)) ?_
                rw [← hF]
                simp only [z_bar, if_neg h13, if_neg h58, if_pos h65, if_neg h72, if_neg h79, z_e10, if_true, if_false]
              · refine q_iconst hC dX5_isBarred_82 (v := 1) (by decide) rfl ?_
                refine q_iret hC dX5_isBarred_83 rfl ⟨by decide, by decide⟩ ⟨_, rfl, ?_⟩
                exact ⟨by rw [← hF]; simp only [z_bar, if_neg h13, if_neg h58, if_pos h65, if_neg h72, if_pos h79, z_e10, if_true, if_false], rfl⟩
  show qV Γ _ _ 0 [(0, .ref (q_ad Γ 0 i)), (1, .int a), (2, .int b)] [] S (0, 0)
  refine q_iload_n hC 1 dX5_isBarred_0 rfl rfl ?_
  refine q_istore_n hC dX5_isBarred_1 (by decide) (ls' := [(0, _), (1, _), (2, _), (3, _)]) rfl rfl ?_
  refine q_iconst hC dX5_isBarred_2 (v := 0) (by decide) rfl ?_
  refine q_istore hC dX5_isBarred_3 (by decide) (ls' := [(0, _), (1, _), (2, _), (3, _), (4, _)]) rfl rfl ?_
  exact L 5 0 a (by omega) ha rfl
def z_lfS (S : qM) (i : Nat) (itf : Int32) (m : Nat) : Int32 := if z_has itf (nI m) = 0 then 45 else z_af S i (nI m) 1
def z_lf (S : qM) (i : Nat) (itf : Int32) : Nat → Nat → Int32 → Int32
  | 0, _, f => f
  | n + 1, m, f => if f = 45 then z_lf S i itf n (m + 1) (z_lfS S i itf m) else f
def z_ld2 (i j : Nat) (S : qM) : qM := q_up (q_up S 0 i (upd (S 0 i) 4 (S 28 j 0))) 0 i (upd (q_up S 0 i (upd (S 0 i) 4 (S 28 j 0)) 0 i) 5 (S 28 j 1))
/-- the faults of loading, ahead of the method's, and with it -/
def z_ldA (i j : Nat) (T : qM) : Int32 := z_lf T i (T 28 j 2) 5 0 (if T 28 j 1 = -1 then 45 else z_af T i (T 28 j 1) 0)
def z_ldB (i j : Nat) (T : qM) (f : Int32) : Int32 := if f = 45 then (if T 28 j 3 = -1 then f else if T 28 j 1 = -1 then f else if z_bar T i (T 28 j 3) 5 (T 28 j 1) = 0 then f else 86) else f
def z_ldC (i j : Nat) (T : qM) (f : Int32) : qM := if f = 45 then z_dcIt i 5 6 0 (z_seat i j T) else T
def z_loadF (i j : Nat) (S : qM) : Int32 := if (z_ld2 i j S) 28 j 0 = 0 then 45 else z_ldB i j (z_ld2 i j S) (z_ldA i j (z_ld2 i j S))
def z_loadS (i j : Nat) (S : qM) : qM := if (z_ld2 i j S) 28 j 0 = 0 then z_ld2 i j S else z_ldC i j (z_ld2 i j S) (z_loadF i j S)
/-- what a client's class holds -/
def z_own (S : qM) (j : Nat) : Prop := (S 28 j 0 = 0 ∨ S 28 j 0 = 1) ∧ z_v5 (S 28 j 1) ∧ z_v6 (S 28 j 3)
theorem z_5 : z_lt 5 6 := ⟨5, by decide, rfl⟩
theorem z_af_nar {S : qM} {i : Nat} {a b : Int32} : narrow .char (.int (z_af S i a b)) = .int (z_af S i a b) := by
  unfold z_af
  repeat' split
  all_goals rfl
theorem z_s1It_20 {i j : Nat} : ∀ (n m : Nat) (T : qM) (p : Nat), z_s1It i j n m T 20 i p = T 20 i p := by
  intro n
  induction n with
  | zero => intros; rfl
  | succ n ih =>
    intro m T p
    rw [show z_s1It i j (n + 1) m T = z_s1It i j n (m + 1) (z_s1Step i j m T) from rfl, ih]
    unfold z_s1Step
    split <;> simp [q_up]
theorem z_s1It_28 {i j : Nat} : ∀ (n m : Nat) (T : qM) (p : Nat), z_s1It i j n m T 28 j p = T 28 j p := by
  intro n
  induction n with
  | zero => intros; rfl
  | succ n ih =>
    intro m T p
    rw [show z_s1It i j (n + 1) m T = z_s1It i j n (m + 1) (z_s1Step i j m T) from rfl, ih]
    unfold z_s1Step
    split <;> simp [q_up]
theorem z_s2It_20 {i j : Nat} (hs : ∀ T : qM, True) : ∀ (n m : Nat) (T : qM), m + n ≤ 6 → z_v5 (T 28 j 1) → z_v6 (T 28 j 3) → (∀ p, p < 30 + m → z_v6 (T 20 i p)) → ∀ p, p < 30 + (m + n) → z_v6 (z_s2It i j n m T 20 i p) := by
  intro n
  induction n with
  | zero => intro m T h1 h2 h3 h4 p hp; exact h4 p hp
  | succ n ih =>
    intro m T h1 h2 h3 h4 p hp
    rw [show z_s2It i j (n + 1) m T = z_s2It i j n (m + 1) (z_s2Step i j m T) from rfl]
    refine ih (m + 1) _ (by omega) (by simpa [z_s2Step, q_up] using h2) (by simpa [z_s2Step, q_up] using h3) ?_ p (by omega)
    intro q hq
    have e : (30 + nI m).toNatClampNeg = 30 + m := by
      have : 30 + nI m = nI (30 + m) := by
        show nI 30 + nI m = _
        rw [nI_add]
      rw [this, nI_clamp (by omega)]
    simp only [z_s2Step, q_up]
    simp only [show ¬ ((20 : Nat) = 25) by decide, false_and, if_false, and_self, if_true, show ¬ ((20 : Nat) = 19) by decide, upd]
    rw [e]
    split
    · split
      · exact Or.inr ⟨5, by decide, rfl⟩
      · split
        · exact Or.inl rfl
        · rename_i hsup
          obtain ⟨t, ht, het⟩ := z_v5n h2 hsup
          have h9 := (z_pl_all t (by omega) m (by omega)).2
          unfold z_pl at h9
          rw [het, h9]
          exact h4 _ (by omega)
    · exact h4 q (by omega)
theorem z_seat_20 {i j : Nat} {T : qM} (h1 : z_v5 (T 28 j 1)) (h2 : z_v6 (T 28 j 3)) (h3 : ∀ p, p < 30 → z_v6 (T 20 i p)) : ∀ p, p < 36 → z_v6 (z_seat i j T 20 i p) := by
  unfold z_seat
  have e28 : ∀ p, (z_sup i j (z_s1It i j 5 0 (q_up T 18 i (upd (T 18 i) (5 : Int32).toNatClampNeg (T 28 j 2))))) 28 j p = T 28 j p := by
    intro p
    unfold z_sup
    split <;> simp [q_up, z_s1It_28]
  have e20 : ∀ p, (z_sup i j (z_s1It i j 5 0 (q_up T 18 i (upd (T 18 i) (5 : Int32).toNatClampNeg (T 28 j 2))))) 20 i p = T 20 i p := by
    intro p
    unfold z_sup
    split <;> simp [q_up, z_s1It_20]
  refine z_s2It_20 (fun _ => trivial) 6 0 _ (by omega) (by rw [e28]; exact h1) (by rw [e28]; exact h2) (fun p hp => by rw [e20]; exact h3 p hp)
abbrev rm_X5_load : Room := { frames := 2, cells := 0, slots := 0, locals := 52 }
set_option maxHeartbeats 4000000 in
set_option maxRecDepth 100000 in
theorem c_X5_load {L : qL} (hD : q_D L.2.2.2.1) : qCT L yX5_load cX5_load 4 (some .char) rm_X5_load (fun ad _ (x : Nat × Nat) => [.ref (ad 0 x.1), .ref (ad 28 x.2)]) (fun x S => x.1 < 4 ∧ x.2 < 6 ∧ z_own S x.2 ∧ z_sups S x.1 ∧ ∀ p, p < 30 → z_v6 (S 20 x.1 p)) (qPi (fun x S r S' => r = z_loadF x.1 x.2 S ∧ S' = z_loadS x.1 x.2 S)) := by
  refine q_met hD (by decide) (fun _ => Nat.le_of_ble_eq_true rfl) (fun Γ x S hΓ hpre hC => ?_)
  subst hΓ
  obtain ⟨i, j⟩ := x
  obtain ⟨hi, hj, hO, hS, hSn⟩ := hpre
  have hi : i < 4 := hi
  have hj : j < 6 := hj
  have hO : z_own S j := hO
  have hS : z_sups S i := hS
  have hSn0 : ∀ p, p < 30 → z_v6 (S 20 i p) := hSn
  show qV Γ _ _ 0 [(0, .ref (q_ad Γ 0 i)), (1, .ref (q_ad Γ 28 j))] [] S (0, 0)
  refine q_aload_n hC 0 dX5_load_0 rfl rfl ?_
  refine q_aload_n hC 1 dX5_load_1 rfl rfl ?_
  refine q_get_f hC f_X5_55 dX5_load_2 rfl rfl hj rfl ?_
  refine q_put_i hC fp_X5_33 dX5_load_5 rfl rfl (Nat.le_of_ble_eq_true rfl) (z_narZ hO.1).1 (z_narZ hO.1).2 hi rfl ?_
  refine q_aload_n hC 0 dX5_load_8 rfl rfl ?_
  refine q_aload_n hC 1 dX5_load_9 rfl rfl ?_
  refine q_get_f hC f_X5_60 dX5_load_10 rfl rfl hj rfl ?_
  refine q_put_i hC fp_X5_36 dX5_load_13 rfl rfl (Nat.le_of_ble_eq_true rfl) rfl rfl hi rfl ?_
  obtain ⟨T, hT⟩ : ∃ T, T = z_ld2 i j S := ⟨_, rfl⟩
  show qV Γ _ _ 16 _ [] (z_ld2 i j S) (0, 0)
  rw [← hT]
  have hO : z_own T j := by rw [hT]; simpa [z_own, z_ld2, q_up] using hO
  have hS : z_sups T i := by rw [hT]; simpa [z_sups, z_ld2, q_up] using hS
  have hSeen0 : ∀ p, p < 30 → z_v6 (T 20 i p) := by rw [hT]; simpa [z_ld2, q_up] using hSn0
  have hSeen : ∀ p, p < 36 → z_v6 ((z_seat i j T) 20 i p) := z_seat_20 hO.2.1 hO.2.2 hSeen0
  by_cases hth : T 28 j 0 = 0
  · refine q_aload_n hC 1 dX5_load_16 rfl rfl ?_
    refine q_get_f hC f_X5_55 dX5_load_17 rfl rfl hj rfl ?_
    refine q_if_ne hC dX5_load_20 (t := 26) (n := 23) (by decide) rfl (fun h20 => absurd hth h20) (fun h20 => ?_)
    refine q_bipush hC dX5_load_23 (v := 45) (by decide) rfl ?_
    refine q_iret hC dX5_load_25 rfl ⟨by decide, by decide⟩ ⟨_, rfl, ?_⟩
    exact ⟨by unfold z_loadF; rw [← hT, if_pos hth], by unfold z_loadS; rw [← hT, if_pos hth]⟩
  · have hthere : ¬ (z_ld2 i j S) 28 j 0 = 0 := by rw [← hT]; exact hth
    have hthere' : ¬ T 28 j 0 = 0 := hth
    have J131 : ∀ f : Int32, narrow .char (.int f) = .int f → f = z_loadF i j S → qV Γ rm_X5_load 4 131 [(0, .ref (q_ad Γ 0 i)), (1, .ref (q_ad Γ 28 j)), (2, .int f)] [] T (0, 0) := by
      intro f hN hf
      have hpost : ∀ U : qM, U = z_ldC i j T f → f = z_loadF i j S ∧ U = z_loadS i j S := fun U hU => ⟨hf, by rw [hU, hf, hT]; unfold z_loadS; rw [if_neg hthere]⟩
      refine q_iload_n hC 2 dX5_load_131 rfl rfl ?_
      refine q_bipush hC dX5_load_132 (v := 45) (by decide) rfl ?_
      refine q_icmp_ne hC dX5_load_134 (t := 157) (n := 137) (by decide) rfl (fun h134 => ?_) (fun h134 => ?_)
      · refine q_iload_n hC 2 dX5_load_157 rfl rfl ?_
        refine q_iret hC dX5_load_158 hN ⟨by decide, by decide⟩ ⟨_, rfl, ?_⟩
        exact hpost _ (by simp only [z_ldC, if_neg h134])
      · refine q_aload_n hC 0 dX5_load_137 rfl rfl ?_
        refine q_get_f hC f_X5_21 dX5_load_138 rfl rfl hi rfl ?_
        refine q_aload_n hC 1 dX5_load_141 rfl rfl ?_
        refine q_callV hC (c_X3_seat (q_hD hC)) m_X3_seat lk_X5_80 dX5_load_142 (i, j) rfl rfl rfl rfl rfl hi (Nat.le_of_ble_eq_true rfl) ⟨⟨by decide, by decide⟩, by decide, by decide⟩ rfl (k' := (0, 0)) rfl ⟨hi, hj, hO.2.1⟩ (fun v S' hp => ?_)
        obtain ⟨rfl, rfl⟩ := hp
        show qV Γ _ _ 145 _ _ _ _
        refine q_aload_n hC 0 dX5_load_145 rfl rfl ?_
        refine q_get_f hC f_X5_21 dX5_load_146 rfl rfl hi rfl ?_
        refine q_aload_n hC 0 dX5_load_149 rfl rfl ?_
        refine q_get_f hC f_X5_12 dX5_load_150 rfl rfl hi rfl ?_
        refine q_iconst hC dX5_load_153 (v := 5) (by decide) rfl ?_
        refine q_callV hC (c_X3_deriveChoices (q_hD hC)) m_X3_deriveChoices lk_X5_84 dX5_load_154 (i, 5) rfl rfl rfl rfl rfl hi (Nat.le_of_ble_eq_true rfl) ⟨⟨by decide, by decide⟩, by decide, by decide⟩ rfl (k' := (0, 0)) rfl ⟨hi, z_5, hSeen⟩ (fun v S' hp => ?_)
        obtain ⟨rfl, rfl⟩ := hp
        show qV Γ _ _ 157 _ _ _ _
        refine q_iload_n hC 2 dX5_load_157 rfl rfl ?_
        refine q_iret hC dX5_load_158 hN ⟨by decide, by decide⟩ ⟨_, rfl, ?_⟩
        exact hpost _ (by simp only [z_ldC, if_pos h134])
    have J91 : ∀ f : Int32, narrow .char (.int f) = .int f → f = z_ldA i j T → qV Γ rm_X5_load 4 91 [(0, .ref (q_ad Γ 0 i)), (1, .ref (q_ad Γ 28 j)), (2, .int f)] [] T (0, 0) := by
      intro f hN hf
      have hB : z_ldB i j T f = z_loadF i j S := by rw [hf]; unfold z_loadF; rw [← hT, if_neg hthere']
      refine q_iload_n hC 2 dX5_load_91 rfl rfl ?_
      refine q_bipush hC dX5_load_92 (v := 45) (by decide) rfl ?_
      refine q_icmp_ne hC dX5_load_94 (t := 131) (n := 97) (by decide) rfl (fun h94 => ?_) (fun h94 => ?_)
      · exact J131 _ (by first | exact hN | rfl) (by skip; rw [← hB]; simp only [z_ldB, if_neg h94])
      · refine q_aload_n hC 1 dX5_load_97 rfl rfl ?_
        refine q_get_f hC f_X5_74 dX5_load_98 rfl rfl hj rfl ?_
        refine q_iconst hC dX5_load_101 (v := (-1)) (by decide) rfl ?_
        refine q_icmp_eq hC dX5_load_102 (t := 131) (n := 105) (by decide) rfl (fun h102 => ?_) (fun h102 => ?_)
        · exact J131 _ (by first | exact hN | rfl) (by skip; rw [← hB]; simp only [z_ldB, if_pos h94, if_pos h102])
        · refine q_aload_n hC 1 dX5_load_105 rfl rfl ?_
          refine q_get_f hC f_X5_60 dX5_load_106 rfl rfl hj rfl ?_
          refine q_iconst hC dX5_load_109 (v := (-1)) (by decide) rfl ?_
          refine q_icmp_eq hC dX5_load_110 (t := 131) (n := 113) (by decide) rfl (fun h110 => ?_) (fun h110 => ?_)
          · exact J131 _ (by first | exact hN | rfl) (by skip; rw [← hB]; simp only [z_ldB, if_pos h94, if_neg h102, if_pos h110])
          · refine q_aload_n hC 0 dX5_load_113 rfl rfl ?_
            refine q_aload_n hC 1 dX5_load_114 rfl rfl ?_
            refine q_get_f hC f_X5_60 dX5_load_115 rfl rfl hj rfl ?_
            refine q_aload_n hC 1 dX5_load_118 rfl rfl ?_
            refine q_get_f hC f_X5_74 dX5_load_119 rfl rfl hj rfl ?_
            refine q_callV hC (c_X5_isBarred (q_hD hC)) m_X5_isBarred lk_X5_77 dX5_load_122 (i, T 28 j 1, T 28 j 3) rfl rfl rfl rfl rfl hi (Nat.le_of_ble_eq_true rfl) ⟨⟨by decide, by decide⟩, by decide, by decide⟩ rfl (k' := (0, 0)) rfl ⟨hi, hO.2.1, z_v6n hO.2.2 h102, hS⟩ (fun v S' hp => ?_)
            obtain ⟨r122_4, rfl, hr122_4, rfl⟩ := hp
            have hr122_4 : r122_4 = z_bar T i (T 28 j 3) 5 (T 28 j 1) := hr122_4
            show qV Γ _ _ 125 _ (.int _ :: _) _ _
            refine q_if_eq hC dX5_load_125 (t := 131) (n := 128) (by decide) rfl (fun h125 => ?_) (fun h125 => ?_)
            · exact J131 _ (by first | exact hN | rfl) (by subst hr122_4; rw [← hB]; simp only [z_ldB, if_pos h94, if_neg h102, if_neg h110, if_pos h125])
            · refine q_bipush hC dX5_load_128 (v := 86) (by decide) rfl ?_
              refine q_istore_n hC dX5_load_130 (by decide) (ls' := [(0, _), (1, _), (2, _)]) rfl rfl ?_
              exact J131 _ (by first | exact hN | rfl) (by subst hr122_4; rw [← hB]; simp only [z_ldB, if_pos h94, if_neg h102, if_neg h110, if_neg h125])
    have L51 : ∀ (n m : Nat) (f : Int32), m + n = 5 → narrow .char (.int f) = .int f → z_lf T i (T 28 j 2) n m f = z_ldA i j T → qV Γ rm_X5_load 4 51 [(0, .ref (q_ad Γ 0 i)), (1, .ref (q_ad Γ 28 j)), (2, .int f), (3, .int (nI m))] [] T (0, 0) := by
      intro n
      induction n with
      | zero =>
        intro m f hmn hN hF
        obtain rfl : m = 5 := by omega
        refine q_iload_n hC 3 dX5_load_51 rfl rfl ?_
        refine q_iconst hC dX5_load_52 (v := 5) (by decide) rfl ?_
        refine q_icmp_ge hC dX5_load_53 (t := 91) (n := 56) (by decide) rfl (fun h53 => ?_) (fun h53 => absurd (by decide) h53)
        refine q_locp [0, 1, 2] (ls' := [(0, _), (1, _), (2, _)]) rfl ?_
        exact J91 _ hN (by rw [← hF]; first | rfl | simp only [z_lf, if_true])
      | succ n ih =>
        intro m f hmn hN hF
        have hm : m < 5 := by omega
        refine q_iload_n hC 3 dX5_load_51 rfl rfl ?_
        refine q_iconst hC dX5_load_52 (v := 5) (by decide) rfl ?_
        refine q_icmp_ge hC dX5_load_53 (t := 91) (n := 56) (by decide) rfl (fun h53 => absurd h53 (nI_ge hm (by decide))) (fun h53 => ?_)
        refine q_iload_n hC 2 dX5_load_56 rfl rfl ?_
        refine q_bipush hC dX5_load_57 (v := 45) (by decide) rfl ?_
        refine q_icmp_ne hC dX5_load_59 (t := 91) (n := 62) (by decide) rfl (fun h59 => ?_) (fun h59 => ?_)
        · refine q_locp [0, 1, 2] (ls' := [(0, _), (1, _), (2, _)]) rfl ?_
          exact J91 _ hN (by rw [← hF]; first | rfl | simp only [z_lf, if_neg h59])
        · refine q_aload_n hC 1 dX5_load_62 rfl rfl ?_
          refine q_get_f hC f_X5_67 dX5_load_63 rfl rfl hj rfl ?_
          refine q_iload_n hC 3 dX5_load_66 rfl rfl ?_
          refine q_callSN hC (c_X9_has (q_hD hC)) m_X9_has ln_X5_70 dX5_load_67 (T 28 j 2, nI m) rfl rfl (Nat.le_of_ble_eq_true rfl) ⟨⟨by decide, by decide⟩, by decide, by decide⟩ rfl (k' := (0, 0)) rfl trivial (fun v S' hp => ?_)
          obtain ⟨r67_2, rfl, hr67_2, rfl⟩ := hp
          have hr67_2 : r67_2 = z_has (T 28 j 2) (nI m) := hr67_2
          show qV Γ _ _ 70 _ (.int _ :: _) _ _
          refine q_if_eq hC dX5_load_70 (t := 82) (n := 73) (by decide) rfl (fun h70 => ?_) (fun h70 => ?_)
          · refine q_bipush hC dX5_load_82 (v := 45) (by decide) rfl ?_
            refine q_istore_n hC dX5_load_84 (by decide) (ls' := [(0, _), (1, _), (2, _), (3, _)]) rfl rfl ?_
            refine q_iinc hC 3 dX5_load_85 rfl (v := nI (m + 1)) (z_inc m) (by decide) (ls' := [(0, _), (1, _), (2, _), (3, _)]) rfl rfl ?_
            refine q_goto hC dX5_load_88 (n := 51) (by decide) ?_
            exact ih (m + 1) _ (by omega) (by subst hr67_2; first | rfl | exact z_af_nar) (by subst hr67_2; rw [← hF]; simp only [z_lf, z_lfS, if_pos h59, if_pos h70])
          · refine q_aload_n hC 0 dX5_load_73 rfl rfl ?_
            refine q_iload_n hC 3 dX5_load_74 rfl rfl ?_
            refine q_iconst hC dX5_load_75 (v := 1) (by decide) rfl ?_
            refine q_callV hC (c_X5_aboveFault (q_hD hC)) m_X5_aboveFault lk_X5_63 dX5_load_76 (i, nI m, 1) rfl rfl rfl rfl rfl hi (Nat.le_of_ble_eq_true rfl) ⟨⟨by decide, by decide⟩, by decide, by decide⟩ rfl (k' := (0, 0)) rfl ⟨hi, z_ltn hm⟩ (fun v S' hp => ?_)
            obtain ⟨r76_4, rfl, hr76_4, rfl⟩ := hp
            have hr76_4 : r76_4 = z_af T i (nI m) 1 := hr76_4
            show qV Γ _ _ 79 _ (.int _ :: _) _ _
            refine q_goto hC dX5_load_79 (n := 84) (by decide) ?_
            refine q_istore_n hC dX5_load_84 (by decide) (ls' := [(0, _), (1, _), (2, _), (3, _)]) rfl rfl ?_
            refine q_iinc hC 3 dX5_load_85 rfl (v := nI (m + 1)) (z_inc m) (by decide) (ls' := [(0, _), (1, _), (2, _), (3, _)]) rfl rfl ?_
            refine q_goto hC dX5_load_88 (n := 51) (by decide) ?_
            exact ih (m + 1) _ (by omega) (by subst hr67_2 hr76_4; first | rfl | exact z_af_nar) (by subst hr67_2 hr76_4; rw [← hF]; simp only [z_lf, z_lfS, if_pos h59, if_neg h70])
    refine q_aload_n hC 1 dX5_load_16 rfl rfl ?_
    refine q_get_f hC f_X5_55 dX5_load_17 rfl rfl hj rfl ?_
    refine q_if_ne hC dX5_load_20 (t := 26) (n := 23) (by decide) rfl (fun h20 => ?_) (fun h20 => absurd h20 hth)
    refine q_aload_n hC 1 dX5_load_26 rfl rfl ?_
    refine q_get_f hC f_X5_60 dX5_load_27 rfl rfl hj rfl ?_
    refine q_iconst hC dX5_load_30 (v := (-1)) (by decide) rfl ?_
    refine q_icmp_ne hC dX5_load_31 (t := 39) (n := 34) (by decide) rfl (fun h31 => ?_) (fun h31 => ?_)
    · refine q_aload_n hC 0 dX5_load_39 rfl rfl ?_
      refine q_aload_n hC 1 dX5_load_40 rfl rfl ?_
      refine q_get_f hC f_X5_60 dX5_load_41 rfl rfl hj rfl ?_
      refine q_iconst hC dX5_load_44 (v := 0) (by decide) rfl ?_
      refine q_callV hC (c_X5_aboveFault (q_hD hC)) m_X5_aboveFault lk_X5_63 dX5_load_45 (i, T 28 j 1, 0) rfl rfl rfl rfl rfl hi (Nat.le_of_ble_eq_true rfl) ⟨⟨by decide, by decide⟩, by decide, by decide⟩ rfl (k' := (0, 0)) rfl ⟨hi, z_v5n hO.2.1 (by assumption)⟩ (fun v S' hp => ?_)
      obtain ⟨r45_2, rfl, hr45_2, rfl⟩ := hp
      show qV Γ _ _ 48 _ (.int _ :: _) _ _
      refine q_istore_n hC dX5_load_48 (by decide) (ls' := [(0, _), (1, _), (2, _)]) rfl rfl ?_
      refine q_iconst hC dX5_load_49 (v := 0) (by decide) rfl ?_
      refine q_istore_n hC dX5_load_50 (by decide) (ls' := [(0, _), (1, _), (2, _), (3, _)]) rfl rfl ?_
      refine L51 5 0 _ (by omega) (by subst hr45_2; first | rfl | exact z_af_nar) (by subst hr45_2; simp only [z_ldA, if_neg h31])
    · refine q_bipush hC dX5_load_34 (v := 45) (by decide) rfl ?_
      refine q_goto hC dX5_load_36 (n := 48) (by decide) ?_
      refine q_istore_n hC dX5_load_48 (by decide) (ls' := [(0, _), (1, _), (2, _)]) rfl rfl ?_
      refine q_iconst hC dX5_load_49 (v := 0) (by decide) rfl ?_
      refine q_istore_n hC dX5_load_50 (by decide) (ls' := [(0, _), (1, _), (2, _), (3, _)]) rfl rfl ?_
      refine L51 5 0 _ (by omega) (by skip; first | rfl | exact z_af_nar) (by skip; simp only [z_ldA, if_pos h31])
