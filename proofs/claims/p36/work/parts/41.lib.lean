-- printed by wip/p36/gen_m2.py
def z_chr (x : Int32) : Prop := ∃ n, n < 128 ∧ x = nI n
theorem z_chr_all : ∀ n, n < 128 → narrow .char (.int (nI n)) = .int (nI n) ∧ vp_nar .char (nI n) = nI n ∧ fits .char (.int (nI n)) = true := by decide +kernel
theorem z_chr_n {x : Int32} (h : z_chr x) : narrow .char (.int x) = .int x := by
  obtain ⟨n, hn, rfl⟩ := h
  exact (z_chr_all n hn).1
theorem z_chr_v {x : Int32} (h : z_chr x) : vp_nar .char x = x := by
  obtain ⟨n, hn, rfl⟩ := h
  exact (z_chr_all n hn).2.1
theorem z_chr_f {x : Int32} (h : z_chr x) : fits .char (.int x) = true := by
  obtain ⟨n, hn, rfl⟩ := h
  exact (z_chr_all n hn).2.2
theorem z_sg4_c {x : Int32} (h : z_sg4 x) : z_chr x := by
  rcases h with rfl | rfl | rfl | rfl
  · exact ⟨112, by decide, rfl⟩
  · exact ⟨111, by decide, rfl⟩
  · exact ⟨107, by decide, rfl⟩
  · exact ⟨118, by decide, rfl⟩
theorem z_mk4_c {x : Int32} (h : z_mk4 x) : z_chr x := by
  rcases h with rfl | rfl | rfl | rfl
  · exact ⟨110, by decide, rfl⟩
  · exact ⟨115, by decide, rfl⟩
  · exact ⟨97, by decide, rfl⟩
  · exact ⟨102, by decide, rfl⟩
theorem z_fk4_c {x : Int32} (h : z_fk4 x) : z_chr x := by
  rcases h with rfl | rfl | rfl | rfl
  · exact ⟨110, by decide, rfl⟩
  · exact ⟨115, by decide, rfl⟩
  · exact ⟨102, by decide, rfl⟩
  · exact ⟨70, by decide, rfl⟩
theorem z_c45 : z_chr 45 := ⟨45, by decide, rfl⟩
theorem z_bool_f {x : Int32} (h : z_bool x) : fits .boolean (.int x) = true ∧ narrow .boolean (.int x) = .int x ∧ vp_nar .boolean x = x := by
  rcases h with rfl | rfl
  · exact ⟨by decide, by decide, by decide⟩
  · exact ⟨by decide, by decide, by decide⟩
/-- a member is put: place p of the table t -/
def z_mp (S T : qM) (t i p : Nat) (sg kd : Int32) : Prop := (∀ k' i', ¬ ((k' = t + 1 ∨ k' = t + 2 ∨ k' = t + 3) ∧ i' = i) → T k' i' = S k' i') ∧ (∀ q, ¬ q = p → T (t + 1) i q = S (t + 1) i q ∧ T (t + 2) i q = S (t + 2) i q) ∧ T (t + 1) i p = sg ∧ T (t + 2) i p = (if sg = 45 then 45 else kd) ∧ ∀ q, T (t + 3) i q = S (t + 3) i q ∨ ¬ T (t + 3) i q < 0
theorem z_mp_u {S : qM} {t i p : Nat} {sg kd x a b : Int32} (ha : a = sg) (hb : b = if sg = 45 then 45 else kd) (hx : ¬ x < 0) : z_mp S (q_up (q_up (q_up S (t + 1) i (upd (S (t + 1) i) p a)) (t + 2) i (upd (q_up S (t + 1) i (upd (S (t + 1) i) p a) (t + 2) i) p b)) (t + 3) i (upd (q_up (q_up S (t + 1) i (upd (S (t + 1) i) p a)) (t + 2) i (upd (q_up S (t + 1) i (upd (S (t + 1) i) p a) (t + 2) i) p b) (t + 3) i) p x)) t i p sg kd := by
  subst ha; subst hb
  have n1 : ¬ t + 1 = t + 3 := by omega
  have n2 : ¬ t + 2 = t + 3 := by omega
  have n3 : ¬ t + 1 = t + 2 := by omega
  have n4 : ¬ t + 2 = t + 1 := by omega
  refine ⟨fun k' i' hk => ?_, fun q hq => ⟨?_, ?_⟩, ?_, ?_, fun q => ?_⟩
  · simp only [q_up]; rw [if_neg (by omega), if_neg (by omega), if_neg (by omega)]
  · simp only [q_up, n1, n3, and_self, false_and, if_true, if_false, upd, if_neg hq]
  · simp only [q_up, n2, n4, and_self, false_and, if_true, if_false, upd, if_neg hq]
  · simp only [q_up, n1, n3, and_self, false_and, if_true, if_false, upd]
  · simp only [q_up, n2, and_self, false_and, if_true, if_false, upd]
  · have m1 : ¬ t + 3 = t + 1 := by omega
    have m2 : ¬ t + 3 = t + 2 := by omega
    by_cases e : q = p
    · exact Or.inr (by simp only [q_up, and_self, if_true, upd, e]; exact hx)
    · exact Or.inl (by simp only [q_up, m1, m2, and_self, false_and, if_true, if_false, upd, if_neg e])
abbrev rm_X6_put : Room := { frames := 0, cells := 0, slots := 0, locals := 0 }
set_option maxHeartbeats 4000000 in
set_option maxRecDepth 100000 in
theorem c_X6_put {L : qL} (hD : q_D L.2.2.2.1) : qCT L yX6_put cX6_put 7 (some .char) rm_X6_put (fun ad _ (x : Nat × Nat × Nat × Int32 × Int32 × Int32) => [.ref (ad x.1 x.2.1), .int (nI x.2.2.1), .int x.2.2.2.1, .int x.2.2.2.2.1, .int x.2.2.2.2.2]) (fun x S => (x.1 = 9 ∨ x.1 = 13) ∧ x.2.1 < 4 ∧ x.2.2.1 < 30 ∧ z_chr x.2.2.2.1 ∧ z_chr x.2.2.2.2.1 ∧ ¬ x.2.2.2.2.2 < 0 ∧ z_chr (S (x.1 + 1) x.2.1 x.2.2.1)) (qPi (fun x S r S' => r = S (x.1 + 1) x.2.1 x.2.2.1 ∧ z_mp S S' x.1 x.2.1 x.2.2.1 x.2.2.2.1 x.2.2.2.2.1)) := by
  refine q_met hD (by decide) (fun _ => Nat.le_of_ble_eq_true rfl) (fun Γ x S hΓ hpre hC => ?_)
  subst hΓ
  obtain ⟨t, i, p, sg, kd, nu⟩ := x
  obtain ⟨ht, hi, hp30, hsg, hkd, hnu, hold⟩ := hpre
  have hnu : ¬ nu < 0 := hnu
  have hi : i < 4 := hi
  have hp30 : p < 30 := hp30
  have hv : vp_in (nI p) 30 := vp_in_nI hp30 (by decide)
  have ec : (nI p).toNatClampNeg = p := nI_clamp (by omega)
  have hsg : z_chr sg := hsg
  have hkd : z_chr kd := hkd
  have hold : z_chr (S (t + 1) i p) := hold
  have ht : t = 9 ∨ t = 13 := ht
  have hold' : narrow .char (.int (S (t + 1) i (nI p).toNatClampNeg)) = .int (S (t + 1) i (nI p).toNatClampNeg) := by rw [ec]; exact z_chr_n hold
  rcases ht with rfl | rfl
  · show qV Γ _ _ 0 [(0, .ref (q_ad Γ 9 i)), (1, .int (nI p)), (2, .int sg), (3, .int kd), (4, .int nu)] [] S (0, 0)
    refine q_aload_n hC 0 dX6_put_0 rfl rfl ?_
    refine q_get_f hC f_X6_9 dX6_put_1 rfl rfl hi rfl ?_
    refine q_iload_n hC 1 dX6_put_4 rfl rfl ?_
    refine q_cald hC dX6_put_5 rfl hi hv rfl ?_
    refine q_istore hC dX6_put_6 (by decide) (ls' := [(0, _), (1, _), (2, _), (3, _), (4, _), (5, _)]) rfl rfl ?_
    refine q_iload_n hC 2 dX6_put_8 rfl rfl ?_
    refine q_bipush hC dX6_put_9 (v := 45) (by decide) rfl ?_
    refine q_icmp_ne hC dX6_put_11 (t := 18) (n := 14) (by decide) rfl (fun h11 => ?_) (fun h11 => ?_)
    · refine q_iconst hC dX6_put_18 (v := 0) (by decide) rfl ?_
      refine q_istore hC dX6_put_19 (by decide) (ls' := [(0, _), (1, _), (2, _), (3, _), (4, _), (5, _), (6, _)]) rfl rfl ?_
      refine q_aload_n hC 0 dX6_put_21 rfl rfl ?_
      refine q_get_f hC f_X6_9 dX6_put_22 rfl rfl hi rfl ?_
      refine q_iload_n hC 1 dX6_put_25 rfl rfl ?_
      refine q_iload_n hC 2 dX6_put_26 rfl rfl ?_
      refine q_cast hC dX6_put_27 (fun _ => rfl) hi hv rfl ?_
      refine q_aload_n hC 0 dX6_put_28 rfl rfl ?_
      refine q_get_f hC f_X6_15 dX6_put_29 rfl rfl hi rfl ?_
      refine q_iload_n hC 1 dX6_put_32 rfl rfl ?_
      refine q_iload hC 6 dX6_put_33 rfl rfl ?_
      refine q_if_eq hC dX6_put_35 (t := 43) (n := 38) (by decide) rfl (fun _ => ?_) (fun h => absurd (by decide) h)
      refine q_iload_n hC 3 dX6_put_43 rfl rfl ?_
      refine q_cast hC dX6_put_44 (fun _ => rfl) hi hv rfl ?_
      refine q_aload_n hC 0 dX6_put_45 rfl rfl ?_
      refine q_get_f hC f_X6_18 dX6_put_46 rfl rfl hi rfl ?_
      refine q_iload_n hC 1 dX6_put_49 rfl rfl ?_
      refine q_iload hC 6 dX6_put_50 rfl rfl ?_
      refine q_if_eq hC dX6_put_52 (t := 59) (n := 55) (by decide) rfl (fun _ => ?_) (fun h => absurd (by decide) h)
      refine q_iload hC 4 dX6_put_59 rfl rfl ?_
      refine q_iast hC dX6_put_61 (fun _ => rfl) hi hv rfl ?_
      refine q_iload hC 5 dX6_put_62 rfl rfl ?_
      refine q_iret hC dX6_put_64 hold' ⟨by decide, by decide⟩ ⟨_, rfl, ?_⟩
      refine ⟨by rw [ec], ?_⟩
      rw [ec]
      first
        | exact z_mp_u (z_chr_v hsg) ((z_chr_v hkd).trans (if_neg h11).symm) hnu
        | exact z_mp_u (z_chr_v hsg) ((z_chr_v z_c45).trans (if_pos h11).symm) (by decide)
    · refine q_iconst hC dX6_put_14 (v := 1) (by decide) rfl ?_
      refine q_goto hC dX6_put_15 (n := 19) (by decide) ?_
      refine q_istore hC dX6_put_19 (by decide) (ls' := [(0, _), (1, _), (2, _), (3, _), (4, _), (5, _), (6, _)]) rfl rfl ?_
      refine q_aload_n hC 0 dX6_put_21 rfl rfl ?_
      refine q_get_f hC f_X6_9 dX6_put_22 rfl rfl hi rfl ?_
      refine q_iload_n hC 1 dX6_put_25 rfl rfl ?_
      refine q_iload_n hC 2 dX6_put_26 rfl rfl ?_
      refine q_cast hC dX6_put_27 (fun _ => rfl) hi hv rfl ?_
      refine q_aload_n hC 0 dX6_put_28 rfl rfl ?_
      refine q_get_f hC f_X6_15 dX6_put_29 rfl rfl hi rfl ?_
      refine q_iload_n hC 1 dX6_put_32 rfl rfl ?_
      refine q_iload hC 6 dX6_put_33 rfl rfl ?_
      refine q_if_eq hC dX6_put_35 (t := 43) (n := 38) (by decide) rfl (fun h => absurd h (by decide)) (fun _ => ?_)
      refine q_bipush hC dX6_put_38 (v := 45) (by decide) rfl ?_
      refine q_goto hC dX6_put_40 (n := 44) (by decide) ?_
      refine q_cast hC dX6_put_44 (fun _ => rfl) hi hv rfl ?_
      refine q_aload_n hC 0 dX6_put_45 rfl rfl ?_
      refine q_get_f hC f_X6_18 dX6_put_46 rfl rfl hi rfl ?_
      refine q_iload_n hC 1 dX6_put_49 rfl rfl ?_
      refine q_iload hC 6 dX6_put_50 rfl rfl ?_
      refine q_if_eq hC dX6_put_52 (t := 59) (n := 55) (by decide) rfl (fun h => absurd h (by decide)) (fun _ => ?_)
      refine q_iconst hC dX6_put_55 (v := 0) (by decide) rfl ?_
      refine q_goto hC dX6_put_56 (n := 61) (by decide) ?_
      refine q_iast hC dX6_put_61 (fun _ => rfl) hi hv rfl ?_
      refine q_iload hC 5 dX6_put_62 rfl rfl ?_
      refine q_iret hC dX6_put_64 hold' ⟨by decide, by decide⟩ ⟨_, rfl, ?_⟩
      refine ⟨by rw [ec], ?_⟩
      rw [ec]
      first
        | exact z_mp_u (z_chr_v hsg) ((z_chr_v hkd).trans (if_neg h11).symm) hnu
        | exact z_mp_u (z_chr_v hsg) ((z_chr_v z_c45).trans (if_pos h11).symm) (by decide)
  · show qV Γ _ _ 0 [(0, .ref (q_ad Γ 13 i)), (1, .int (nI p)), (2, .int sg), (3, .int kd), (4, .int nu)] [] S (0, 0)
    refine q_aload_n hC 0 dX6_put_0 rfl rfl ?_
    refine q_get_f hC f_X6_9 dX6_put_1 rfl rfl hi rfl ?_
    refine q_iload_n hC 1 dX6_put_4 rfl rfl ?_
    refine q_cald hC dX6_put_5 rfl hi hv rfl ?_
    refine q_istore hC dX6_put_6 (by decide) (ls' := [(0, _), (1, _), (2, _), (3, _), (4, _), (5, _)]) rfl rfl ?_
    refine q_iload_n hC 2 dX6_put_8 rfl rfl ?_
    refine q_bipush hC dX6_put_9 (v := 45) (by decide) rfl ?_
    refine q_icmp_ne hC dX6_put_11 (t := 18) (n := 14) (by decide) rfl (fun h11 => ?_) (fun h11 => ?_)
    · refine q_iconst hC dX6_put_18 (v := 0) (by decide) rfl ?_
      refine q_istore hC dX6_put_19 (by decide) (ls' := [(0, _), (1, _), (2, _), (3, _), (4, _), (5, _), (6, _)]) rfl rfl ?_
      refine q_aload_n hC 0 dX6_put_21 rfl rfl ?_
      refine q_get_f hC f_X6_9 dX6_put_22 rfl rfl hi rfl ?_
      refine q_iload_n hC 1 dX6_put_25 rfl rfl ?_
      refine q_iload_n hC 2 dX6_put_26 rfl rfl ?_
      refine q_cast hC dX6_put_27 (fun _ => rfl) hi hv rfl ?_
      refine q_aload_n hC 0 dX6_put_28 rfl rfl ?_
      refine q_get_f hC f_X6_15 dX6_put_29 rfl rfl hi rfl ?_
      refine q_iload_n hC 1 dX6_put_32 rfl rfl ?_
      refine q_iload hC 6 dX6_put_33 rfl rfl ?_
      refine q_if_eq hC dX6_put_35 (t := 43) (n := 38) (by decide) rfl (fun _ => ?_) (fun h => absurd (by decide) h)
      refine q_iload_n hC 3 dX6_put_43 rfl rfl ?_
      refine q_cast hC dX6_put_44 (fun _ => rfl) hi hv rfl ?_
      refine q_aload_n hC 0 dX6_put_45 rfl rfl ?_
      refine q_get_f hC f_X6_18 dX6_put_46 rfl rfl hi rfl ?_
      refine q_iload_n hC 1 dX6_put_49 rfl rfl ?_
      refine q_iload hC 6 dX6_put_50 rfl rfl ?_
      refine q_if_eq hC dX6_put_52 (t := 59) (n := 55) (by decide) rfl (fun _ => ?_) (fun h => absurd (by decide) h)
      refine q_iload hC 4 dX6_put_59 rfl rfl ?_
      refine q_iast hC dX6_put_61 (fun _ => rfl) hi hv rfl ?_
      refine q_iload hC 5 dX6_put_62 rfl rfl ?_
      refine q_iret hC dX6_put_64 hold' ⟨by decide, by decide⟩ ⟨_, rfl, ?_⟩
      refine ⟨by rw [ec], ?_⟩
      rw [ec]
      first
        | exact z_mp_u (z_chr_v hsg) ((z_chr_v hkd).trans (if_neg h11).symm) hnu
        | exact z_mp_u (z_chr_v hsg) ((z_chr_v z_c45).trans (if_pos h11).symm) (by decide)
    · refine q_iconst hC dX6_put_14 (v := 1) (by decide) rfl ?_
      refine q_goto hC dX6_put_15 (n := 19) (by decide) ?_
      refine q_istore hC dX6_put_19 (by decide) (ls' := [(0, _), (1, _), (2, _), (3, _), (4, _), (5, _), (6, _)]) rfl rfl ?_
      refine q_aload_n hC 0 dX6_put_21 rfl rfl ?_
      refine q_get_f hC f_X6_9 dX6_put_22 rfl rfl hi rfl ?_
      refine q_iload_n hC 1 dX6_put_25 rfl rfl ?_
      refine q_iload_n hC 2 dX6_put_26 rfl rfl ?_
      refine q_cast hC dX6_put_27 (fun _ => rfl) hi hv rfl ?_
      refine q_aload_n hC 0 dX6_put_28 rfl rfl ?_
      refine q_get_f hC f_X6_15 dX6_put_29 rfl rfl hi rfl ?_
      refine q_iload_n hC 1 dX6_put_32 rfl rfl ?_
      refine q_iload hC 6 dX6_put_33 rfl rfl ?_
      refine q_if_eq hC dX6_put_35 (t := 43) (n := 38) (by decide) rfl (fun h => absurd h (by decide)) (fun _ => ?_)
      refine q_bipush hC dX6_put_38 (v := 45) (by decide) rfl ?_
      refine q_goto hC dX6_put_40 (n := 44) (by decide) ?_
      refine q_cast hC dX6_put_44 (fun _ => rfl) hi hv rfl ?_
      refine q_aload_n hC 0 dX6_put_45 rfl rfl ?_
      refine q_get_f hC f_X6_18 dX6_put_46 rfl rfl hi rfl ?_
      refine q_iload_n hC 1 dX6_put_49 rfl rfl ?_
      refine q_iload hC 6 dX6_put_50 rfl rfl ?_
      refine q_if_eq hC dX6_put_52 (t := 59) (n := 55) (by decide) rfl (fun h => absurd h (by decide)) (fun _ => ?_)
      refine q_iconst hC dX6_put_55 (v := 0) (by decide) rfl ?_
      refine q_goto hC dX6_put_56 (n := 61) (by decide) ?_
      refine q_iast hC dX6_put_61 (fun _ => rfl) hi hv rfl ?_
      refine q_iload hC 5 dX6_put_62 rfl rfl ?_
      refine q_iret hC dX6_put_64 hold' ⟨by decide, by decide⟩ ⟨_, rfl, ?_⟩
      refine ⟨by rw [ec], ?_⟩
      rw [ec]
      first
        | exact z_mp_u (z_chr_v hsg) ((z_chr_v hkd).trans (if_neg h11).symm) hnu
        | exact z_mp_u (z_chr_v hsg) ((z_chr_v z_c45).trans (if_pos h11).symm) (by decide)
/-- the members of a type are taken away, up to place m -/
def z_mc (S T : qM) (t i r m : Nat) : Prop := (∀ k' i', ¬ ((k' = t + 1 ∨ k' = t + 2 ∨ k' = t + 3) ∧ i' = i) → T k' i' = S k' i') ∧ (∀ q, (q < r * 6 ∨ r * 6 + m ≤ q) → T (t + 1) i q = S (t + 1) i q ∧ T (t + 2) i q = S (t + 2) i q) ∧ (∀ q, q < m → T (t + 1) i (r * 6 + q) = 45 ∧ T (t + 2) i (r * 6 + q) = 45) ∧ ∀ q, T (t + 3) i q = S (t + 3) i q ∨ ¬ T (t + 3) i q < 0
theorem z_mc_s {S T U : qM} {t i r m : Nat} (h : z_mc S T t i r m) (g : z_mp T U t i (r * 6 + m) 45 45) : z_mc S U t i r (m + 1) := by
  obtain ⟨g1, g2, g3, g4, g5⟩ := g
  refine ⟨fun k' i' hk => (g1 k' i' hk).trans (h.1 k' i' hk), fun q hq => ?_, fun q hq => ?_, fun q => ?_⟩
  · obtain ⟨a, b⟩ := g2 q (by omega)
    obtain ⟨c, d⟩ := h.2.1 q (by omega)
    exact ⟨a.trans c, b.trans d⟩
  · by_cases e : q = m
    · subst e
      exact ⟨g3, by rw [g4, if_pos rfl]⟩
    · obtain ⟨a, b⟩ := g2 (r * 6 + q) (by omega)
      obtain ⟨c, d⟩ := h.2.2.1 q (by omega)
      exact ⟨a.trans c, b.trans d⟩
  · rcases g5 q with e | e
    · rcases h.2.2.2 q with e9 | e9
      · exact Or.inl (e.trans e9)
      · exact Or.inr (by rw [e]; exact e9)
    · exact Or.inr e
theorem z_row6 (r m : Nat) : nI r * 6 + nI m = nI (r * 6 + m) := by
  show nI r * nI 6 + nI m = _
  rw [pk_mul, nI_add]
abbrev rm_X6_clear : Room := { frames := 1, cells := 0, slots := 0, locals := 26 }
set_option maxHeartbeats 4000000 in
set_option maxRecDepth 100000 in
theorem c_X6_clear {L : qL} (hD : q_D L.2.2.2.1) : qCT L yX6_clear cX6_clear 3 none rm_X6_clear (fun ad _ (x : Nat × Nat × Nat) => [.ref (ad x.1 x.2.1), .int (nI x.2.2)]) (fun x S => (x.1 = 9 ∨ x.1 = 13) ∧ x.2.1 < 4 ∧ x.2.2 < 5 ∧ ∀ q, q < 30 → z_chr (S (x.1 + 1) x.2.1 q)) (qPv (fun x S S' => z_mc S S' x.1 x.2.1 x.2.2 6)) := by
  refine q_met hD (by decide) (fun _ => Nat.le_of_ble_eq_true rfl) (fun Γ x S hΓ hpre hC => ?_)
  subst hΓ
  obtain ⟨t, i, r⟩ := x
  obtain ⟨ht, hi, hr, hold⟩ := hpre
  have hi : i < 4 := hi
  have hr : r < 5 := hr
  have ht : t = 9 ∨ t = 13 := ht
  have hold : ∀ q, q < 30 → z_chr (S (t + 1) i q) := hold
  rcases ht with rfl | rfl
  · have L1 : ∀ (n m : Nat) (T : qM), m + n = 6 → z_mc S T 9 i r m → qV Γ rm_X6_clear 3 2 [(0, .ref (q_ad Γ 9 i)), (1, .int (nI r)), (2, .int (nI m))] [] T (0, 0) := by
      intro n
      induction n with
      | zero =>
        intro m T hmn hI
        obtain rfl : m = 6 := by omega
        refine q_iload_n hC 2 dX6_clear_2 rfl rfl ?_
        refine q_bipush hC dX6_clear_3 (v := 6) (by decide) rfl ?_
        refine q_icmp_ge hC dX6_clear_5 (t := 30) (n := 8) (by decide) rfl (fun h5 => ?_) (fun h5 => absurd (by decide) h5)
        refine q_vret hC dX6_clear_30 ⟨by decide, by decide⟩ ⟨rfl, ?_⟩
        exact hI
      | succ n ih =>
        intro m T hmn hI
        have hm : m < 6 := by omega
        refine q_iload_n hC 2 dX6_clear_2 rfl rfl ?_
        refine q_bipush hC dX6_clear_3 (v := 6) (by decide) rfl ?_
        refine q_icmp_ge hC dX6_clear_5 (t := 30) (n := 8) (by decide) rfl (fun h5 => absurd h5 (nI_ge hm (by decide))) (fun h5 => ?_)
        refine q_aload_n hC 0 dX6_clear_8 rfl rfl ?_
        refine q_iload_n hC 1 dX6_clear_9 rfl rfl ?_
        refine q_bipush hC dX6_clear_10 (v := 6) (by decide) rfl ?_
        refine q_imul hC dX6_clear_12 rfl ?_
        refine q_iload_n hC 2 dX6_clear_13 rfl rfl ?_
        refine q_iadd hC dX6_clear_14 rfl ?_
        refine q_bipush hC dX6_clear_15 (v := 45) (by decide) rfl ?_
        refine q_bipush hC dX6_clear_17 (v := 45) (by decide) rfl ?_
        refine q_iconst hC dX6_clear_19 (v := 0) (by decide) rfl ?_
        rw [z_row6]
        refine q_callV hC (c_X6_put (q_hD hC)) m_X6_put lk_X6_22 dX6_clear_20 (9, i, r * 6 + m, 45, 45, 0) rfl rfl rfl rfl rfl hi (Nat.le_of_ble_eq_true rfl) ⟨⟨by decide, by decide⟩, by decide, by decide⟩ rfl (k' := (0, 0)) rfl ⟨Or.inl rfl, hi, (show r * 6 + m < 30 by omega), z_c45, z_c45, (show ¬ (0 : Int32) < 0 by decide), by rw [(hI.2.1 (r * 6 + m) (by omega)).1]; exact hold _ (by omega)⟩ (fun v S' hp => ?_)
        obtain ⟨rr, rfl, -, hmp⟩ := hp
        show qV Γ _ _ 23 _ (.int _ :: _) _ _
        refine q_pop hC dX6_clear_23 rfl rfl ?_
        refine q_iinc hC 2 dX6_clear_24 rfl (v := nI (m + 1)) (z_inc m) (by decide) (ls' := [(0, _), (1, _), (2, _)]) rfl rfl ?_
        refine q_goto hC dX6_clear_27 (n := 2) (by decide) ?_
        exact ih (m + 1) _ (by omega) (z_mc_s hI hmp)
    show qV Γ _ _ 0 [(0, .ref (q_ad Γ 9 i)), (1, .int (nI r))] [] S (0, 0)
    refine q_iconst hC dX6_clear_0 (v := 0) (by decide) rfl ?_
    refine q_istore_n hC dX6_clear_1 (by decide) (ls' := [(0, _), (1, _), (2, _)]) rfl rfl ?_
    exact L1 6 0 S (by omega) ⟨fun _ _ _ => rfl, fun _ _ => ⟨rfl, rfl⟩, fun q hq => absurd hq (by omega), fun _ => Or.inl rfl⟩
  · have L1 : ∀ (n m : Nat) (T : qM), m + n = 6 → z_mc S T 13 i r m → qV Γ rm_X6_clear 3 2 [(0, .ref (q_ad Γ 13 i)), (1, .int (nI r)), (2, .int (nI m))] [] T (0, 0) := by
      intro n
      induction n with
      | zero =>
        intro m T hmn hI
        obtain rfl : m = 6 := by omega
        refine q_iload_n hC 2 dX6_clear_2 rfl rfl ?_
        refine q_bipush hC dX6_clear_3 (v := 6) (by decide) rfl ?_
        refine q_icmp_ge hC dX6_clear_5 (t := 30) (n := 8) (by decide) rfl (fun h5 => ?_) (fun h5 => absurd (by decide) h5)
        refine q_vret hC dX6_clear_30 ⟨by decide, by decide⟩ ⟨rfl, ?_⟩
        exact hI
      | succ n ih =>
        intro m T hmn hI
        have hm : m < 6 := by omega
        refine q_iload_n hC 2 dX6_clear_2 rfl rfl ?_
        refine q_bipush hC dX6_clear_3 (v := 6) (by decide) rfl ?_
        refine q_icmp_ge hC dX6_clear_5 (t := 30) (n := 8) (by decide) rfl (fun h5 => absurd h5 (nI_ge hm (by decide))) (fun h5 => ?_)
        refine q_aload_n hC 0 dX6_clear_8 rfl rfl ?_
        refine q_iload_n hC 1 dX6_clear_9 rfl rfl ?_
        refine q_bipush hC dX6_clear_10 (v := 6) (by decide) rfl ?_
        refine q_imul hC dX6_clear_12 rfl ?_
        refine q_iload_n hC 2 dX6_clear_13 rfl rfl ?_
        refine q_iadd hC dX6_clear_14 rfl ?_
        refine q_bipush hC dX6_clear_15 (v := 45) (by decide) rfl ?_
        refine q_bipush hC dX6_clear_17 (v := 45) (by decide) rfl ?_
        refine q_iconst hC dX6_clear_19 (v := 0) (by decide) rfl ?_
        rw [z_row6]
        refine q_callV hC (c_X6_put (q_hD hC)) m_X6_put lk_X6_22 dX6_clear_20 (13, i, r * 6 + m, 45, 45, 0) rfl rfl rfl rfl rfl hi (Nat.le_of_ble_eq_true rfl) ⟨⟨by decide, by decide⟩, by decide, by decide⟩ rfl (k' := (0, 0)) rfl ⟨Or.inr rfl, hi, (show r * 6 + m < 30 by omega), z_c45, z_c45, (show ¬ (0 : Int32) < 0 by decide), by rw [(hI.2.1 (r * 6 + m) (by omega)).1]; exact hold _ (by omega)⟩ (fun v S' hp => ?_)
        obtain ⟨rr, rfl, -, hmp⟩ := hp
        show qV Γ _ _ 23 _ (.int _ :: _) _ _
        refine q_pop hC dX6_clear_23 rfl rfl ?_
        refine q_iinc hC 2 dX6_clear_24 rfl (v := nI (m + 1)) (z_inc m) (by decide) (ls' := [(0, _), (1, _), (2, _)]) rfl rfl ?_
        refine q_goto hC dX6_clear_27 (n := 2) (by decide) ?_
        exact ih (m + 1) _ (by omega) (z_mc_s hI hmp)
    show qV Γ _ _ 0 [(0, .ref (q_ad Γ 13 i)), (1, .int (nI r))] [] S (0, 0)
    refine q_iconst hC dX6_clear_0 (v := 0) (by decide) rfl ?_
    refine q_istore_n hC dX6_clear_1 (by decide) (ls' := [(0, _), (1, _), (2, _)]) rfl rfl ?_
    exact L1 6 0 S (by omega) ⟨fun _ _ _ => rfl, fun _ _ => ⟨rfl, rfl⟩, fun q hq => absurd hq (by omega), fun _ => Or.inl rfl⟩
