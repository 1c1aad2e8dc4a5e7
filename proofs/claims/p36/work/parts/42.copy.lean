-- printed by wip/p36/gen_m2.py
theorem lk_X2_49 : Cond.methodLink RX2 49 arraycopyName ∈ qw := qw_mem (i := 520) (by decide +kernel) rfl
theorem lk_X6_26 : Cond.methodLink RX6 26 arraycopyName ∈ qw := qw_mem (i := 527) (by decide +kernel) rfl
theorem lk_ac_s : Cond.static arraycopyName ∈ qw := qw_mem (i := 521) (by decide +kernel) rfl
theorem lk_ac_n : Cond.native arraycopyName ∈ qw := qw_mem (i := 522) (by decide +kernel) rfl
theorem lk_ac_i : Cond.initialized "java/lang/System" ∈ qw := qw_mem (i := 53) (by decide +kernel) rfl
section QCOPY
variable {Γ : qG} {cc : ByteArray} {own : String} {nL : Nat} {rt : Option FieldType} {R : Room} {po : Option Value → qM → Prop} {pc n : Nat} {ls ls' : List (Nat × Value)} {st : List Value} {S : qM} {k : Nat × Nat}
theorem q_copyP {a N t i t2 i2 idx : Nat} {ty : FieldType} {w : Int32} (hC : qC Γ cc own nL rt R po) (hlk : Cond.methodLink own idx arraycopyName ∈ qw) (hd : decode cc pc = .ok (.invokestatic idx, 3)) (hty : (q_tys Γ.1.2.2.1)[a]? = some (Γ.1.2.2.1 a, ty)) (hprim : refKind ty = false)
    (he : q_enc (q_ad Γ) Γ.1.2.2.1 (S t i) t i = .inl (Γ.1.2.2.1 a, N, .inl (S t i))) (he2 : ∀ f, q_enc (q_ad Γ) Γ.1.2.2.1 f t2 i2 = .inl (Γ.1.2.2.1 a, N, .inl f)) (hi : i < q_cnt t) (hi2 : i2 < q_cnt t2) (hfit : ∀ j, j < N → fits ty (.int (S t i j)) = true) (hw : w = nI N) (hN : N < 2 ^ 31)
    (hfr : 1 ≤ R.frames) (hlo : (st.map fun v => v.category).sum + (nativeFrameWords "java/lang/System" "arraycopy" 5 + 11) ≤ R.locals) (hn : pc + 3 = n) (kk : qV Γ R nL n ls st (q_up S t2 i2 (va_cpy (S t i) (S t2 i2) 0 0 N)) k) : qV Γ R nL pc ls (.int w :: .int 0 :: .ref (q_ad Γ t2 i2) :: .int 0 :: .ref (q_ad Γ t i) :: st) S k := by
  obtain ⟨⟨l, D, cy, ad, o⟩, ⟨p, e, s⟩, ⟨m, args, below, meth, c⟩, Q⟩ := Γ
  subst hn; subst hw
  intro H locs la hP hS hl
  obtain ⟨h1, h2, h3, h4, h5, h6, h7, h8, h9, h10, h11, h12⟩ := hC
  obtain ⟨q0, hq0, hq1⟩ := q_get (ad := ad) (cy := cy) (S := S) hi
  obtain ⟨r0, hr0, hr1⟩ := q_get (ad := ad) (cy := cy) (S := S) hi2
  rw [show q_enc ad cy (S t i) t i = .inl (cy a, N, .inl (S t i)) from he] at hq1
  rw [show q_enc ad cy (S t2 i2) t2 i2 = .inl (cy a, N, .inl (S t2 i2)) from he2 _] at hr1
  have z0 : (0 : Int32).toNatClampNeg = 0 := rfl
  have zN : (nI N).toNatClampNeg = N := nI_clamp hN
  refine va_copyi h1 h2 (h3.trans hl.1.symm) h4 (h5 _ hlk) (h5 _ lk_ac_n) (h5 _ lk_ac_s) (h5 _ lk_ac_i) h8 hP (q_WD h9 q_AA) hS q0 r0 a a hq1 hr1 hty hty hprim (by decide) (by decide) (nI_pos hN) (by rw [z0, zN]; omega) (by rw [z0, zN]; omega) (fun j hj => by rw [z0, Nat.zero_add]; exact hfit j (by rw [zN] at hj; exact hj)) hfr hlo hd (fun H1 locs1 hP1 hD1 hS1 => ?_)
  rw [z0, zN] at hP1
  rw [← show q_enc ad cy (va_cpy (S t i) (S t2 i2) 0 0 N) t2 i2 = .inl (cy a, N, .inl (va_cpy (S t i) (S t2 i2) 0 0 N)) from he2 _, q_set hr0] at hP1
  exact kk H1 locs1 la hP1 hS1 hl
theorem q_aret {rt' : FieldType} (hC : qC Γ cc own nL (some (.array rt')) R po) {x : Nat} (hd : decode cc pc = .ok (.areturn, 1)) (hk : k.1 ≤ R.cells ∧ k.2 ≤ R.slots) (hpo : po (some (.ref x)) S) : qV Γ R nL pc ls [.ref x] S k := by
  obtain ⟨⟨l, D, cy, ad, o⟩, ⟨p, e, s⟩, ⟨m, args, below, meth, c⟩, Q⟩ := Γ
  obtain ⟨h1, h2, h3, h4, h5, h6, h7, h8, h9, h10, h11, h12⟩ := hC
  intro H locs la hP hS hl
  refine W.widen hk.1 hk.2 ?_
  refine q_Wimp h12 ?_
  exact W.aret h1 h2 h6 (Or.inr ⟨_, rfl⟩) (Or.inr ⟨_, rfl⟩) (fun t ht hW => ⟨⟨_, S, rfl, hpo, by rw [ht]; exact hP⟩, hS.F ht⟩) hS.2.2 hd h7
end QCOPY
theorem z_cpy {f g : Nat → Int32} {N p : Nat} (hp : p < N) : va_cpy f g 0 0 N p = f p := by
  unfold va_cpy
  rw [if_pos (by omega)]
  congr 1
  omega
/-- a library like another one -/
def z_lb (S T : qM) (d s : Nat) : Prop := (∀ k' i', ¬ ((1 < k' ∧ k' < 17) ∧ i' = d) → T k' i' = S k' i') ∧ (∀ k, 1 < k → k < 9 → ∀ p, p < 5 → T k d p = S k s p) ∧ ∀ k, 9 < k → k < 17 → ¬ k = 13 → ∀ p, p < 30 → T k d p = S k s p
theorem z_lb_raw {S T : qM} {d s : Nat} (h : z_lb S T d s) (hr : z_raw S s) : z_raw T d := by
  obtain ⟨-, a, b⟩ := h
  obtain ⟨r1, r2, r3, r4, r5, r6, r7, r8⟩ := hr
  refine ⟨fun t ht => ?_, fun t ht => ?_, fun t ht => ?_, fun t ht => ?_, fun t ht => ?_, fun p hp => ?_, fun p hp => ?_, fun p hp => ?_⟩
  · rw [a 2 (by omega) (by omega) t ht]; exact r1 t ht
  · rw [a 3 (by omega) (by omega) t ht, a 4 (by omega) (by omega) t ht, a 5 (by omega) (by omega) t ht]; exact r2 t ht
  · rw [a 6 (by omega) (by omega) t ht]; exact r3 t ht
  · rw [a 7 (by omega) (by omega) t ht]; exact r4 t ht
  · rw [a 8 (by omega) (by omega) t ht]; exact r5 t ht
  · rw [b 10 (by omega) (by omega) (by omega) p hp, b 11 (by omega) (by omega) (by omega) p hp]; exact r6 p hp
  · rw [b 14 (by omega) (by omega) (by omega) p hp, b 15 (by omega) (by omega) (by omega) p hp]; exact r7 p hp
  · rw [b 12 (by omega) (by omega) (by omega) p hp, b 16 (by omega) (by omega) (by omega) p hp]; exact r8 p hp
/-- members like other ones -/
def z_mb (S T : qM) (t d s : Nat) : Prop := (∀ k' i', ¬ ((k' = t + 1 ∨ k' = t + 2 ∨ k' = t + 3) ∧ i' = d) → T k' i' = S k' i') ∧ ∀ k, (k = t + 1 ∨ k = t + 2 ∨ k = t + 3) → ∀ p, p < 30 → T k d p = S k s p
theorem z_kc {x : Int32} (h : x = 45 ∨ x = 99 ∨ x = 105) : z_chr x := by
  rcases h with rfl | rfl | rfl
  · exact ⟨45, by decide, rfl⟩
  · exact ⟨99, by decide, rfl⟩
  · exact ⟨105, by decide, rfl⟩
theorem z_pc {x : Int32} (h : x = 0 ∨ z_sg4 x) : z_chr x := by
  rcases h with rfl | h
  · exact ⟨0, by decide, rfl⟩
  · exact z_sg4_c h
theorem z_rM_c {S : qM} {i : Nat} (h : z_rM S i) : ∀ p, p < 30 → z_chr (S 10 i p) ∧ z_chr (S 11 i p) := by
  intro p hp
  rcases h p hp with g | g
  · rw [g.1, g.2]; exact ⟨z_c45, z_c45⟩
  · exact ⟨z_sg4_c g.1, z_mk4_c g.2⟩
theorem z_rF_c {S : qM} {i : Nat} (h : z_rF S i) : ∀ p, p < 30 → z_chr (S 14 i p) ∧ z_chr (S 15 i p) := by
  intro p hp
  rcases h p hp with g | g
  · rw [g.1, g.2]; exact ⟨z_c45, z_c45⟩
  · exact ⟨z_sg4_c g.1, z_fk4_c g.2⟩
abbrev rm_X6_become : Room := { frames := 1, cells := 0, slots := 0, locals := 18 }
set_option maxHeartbeats 4000000 in
set_option maxRecDepth 100000 in
theorem c_X6_become {L : qL} (hD : q_D L.2.2.2.1) : qCT L yX6_become cX6_become 2 none rm_X6_become (fun ad _ (x : Nat × Nat × Nat) => [.ref (ad x.1 x.2.1), .ref (ad x.1 x.2.2)]) (fun x S => (x.1 = 9 ∨ x.1 = 13) ∧ x.2.1 < 4 ∧ x.2.2 < 4 ∧ ¬ x.2.2 = x.2.1 ∧ (∀ p, p < 30 → z_chr (S (x.1 + 1) x.2.2 p)) ∧ ∀ p, p < 30 → z_chr (S (x.1 + 2) x.2.2 p)) (qPv (fun x S S' => z_mb S S' x.1 x.2.1 x.2.2)) := by
  refine q_met hD (by decide) (fun _ => Nat.le_of_ble_eq_true rfl) (fun Γ x S hΓ hpre hC => ?_)
  subst hΓ
  obtain ⟨t, d, s⟩ := x
  obtain ⟨ht, hd, hs, hne, h1, h2⟩ := hpre
  have hd : d < 4 := hd
  have hs : s < 4 := hs
  have hne : ¬ s = d := hne
  have h1 : ∀ p, p < 30 → z_chr (S (t + 1) s p) := h1
  have h2 : ∀ p, p < 30 → z_chr (S (t + 2) s p) := h2
  have ht : t = 9 ∨ t = 13 := ht
  rcases ht with rfl | rfl
  · show qV Γ _ _ 0 [(0, .ref (q_ad Γ 9 d)), (1, .ref (q_ad Γ 9 s))] [] S (0, 0)
    refine q_aload_n hC 1 dX6_become_0 rfl rfl ?_
    refine q_get_f hC f_X6_9 dX6_become_1 rfl rfl hs rfl ?_
    refine q_iconst hC dX6_become_4 (v := 0) (by decide) rfl ?_
    refine q_aload_n hC 0 dX6_become_5 rfl rfl ?_
    refine q_get_f hC f_X6_9 dX6_become_6 rfl rfl hd rfl ?_
    refine q_iconst hC dX6_become_9 (v := 0) (by decide) rfl ?_
    refine q_aload_n hC 0 dX6_become_10 rfl rfl ?_
    refine q_get_f hC f_X6_9 dX6_become_11 rfl rfl hd rfl ?_
    refine q_alen hC (a := 1) dX6_become_14 rfl rfl rfl hd rfl ?_
    refine q_copyP (a := 1) (N := 30) hC lk_X6_26 dX6_become_15 rfl rfl rfl (fun _ => rfl) hs hd (fun j hj => z_chr_f (h1 j hj)) rfl (by decide) (by decide) (by decide) rfl ?_
    refine q_aload_n hC 1 dX6_become_18 rfl rfl ?_
    refine q_get_f hC f_X6_15 dX6_become_19 rfl rfl hs rfl ?_
    refine q_iconst hC dX6_become_22 (v := 0) (by decide) rfl ?_
    refine q_aload_n hC 0 dX6_become_23 rfl rfl ?_
    refine q_get_f hC f_X6_15 dX6_become_24 rfl rfl hd rfl ?_
    refine q_iconst hC dX6_become_27 (v := 0) (by decide) rfl ?_
    refine q_aload_n hC 0 dX6_become_28 rfl rfl ?_
    refine q_get_f hC f_X6_15 dX6_become_29 rfl rfl hd rfl ?_
    refine q_alen hC (a := 1) dX6_become_32 rfl rfl rfl hd rfl ?_
    refine q_copyP (a := 1) (N := 30) hC lk_X6_26 dX6_become_33 rfl rfl rfl (fun _ => rfl) hs hd (fun j hj => by simp (config := {decide := true}) only [q_up, false_and, if_false]; exact z_chr_f (h2 j hj)) rfl (by decide) (by decide) (by decide) rfl ?_
    refine q_aload_n hC 1 dX6_become_36 rfl rfl ?_
    refine q_get_f hC f_X6_18 dX6_become_37 rfl rfl hs rfl ?_
    refine q_iconst hC dX6_become_40 (v := 0) (by decide) rfl ?_
    refine q_aload_n hC 0 dX6_become_41 rfl rfl ?_
    refine q_get_f hC f_X6_18 dX6_become_42 rfl rfl hd rfl ?_
    refine q_iconst hC dX6_become_45 (v := 0) (by decide) rfl ?_
    refine q_aload_n hC 0 dX6_become_46 rfl rfl ?_
    refine q_get_f hC f_X6_18 dX6_become_47 rfl rfl hd rfl ?_
    refine q_alen hC (a := 0) dX6_become_50 rfl rfl rfl hd rfl ?_
    refine q_copyP (a := 0) (N := 30) hC lk_X6_26 dX6_become_51 rfl rfl rfl (fun _ => rfl) hs hd (fun _ _ => rfl) rfl (by decide) (by decide) (by decide) rfl ?_
    refine q_vret hC dX6_become_54 ⟨by decide, by decide⟩ ⟨rfl, ?_⟩
    show z_mb S _ 9 d s
    refine ⟨fun k' i' hk => ?_, fun k hk p hp => ?_⟩
    · simp only [q_up]
      rw [if_neg (by omega), if_neg (by omega), if_neg (by omega)]
    · rcases hk with rfl | rfl | rfl
      · simp (config := {decide := true}) only [q_up, and_self, if_true, if_false, false_and, z_cpy hp]
      · simp (config := {decide := true}) only [q_up, and_self, if_true, if_false, false_and, hne, and_false, z_cpy hp]
      · simp (config := {decide := true}) only [q_up, and_self, if_true, if_false, false_and, hne, and_false, z_cpy hp]
  · show qV Γ _ _ 0 [(0, .ref (q_ad Γ 13 d)), (1, .ref (q_ad Γ 13 s))] [] S (0, 0)
    refine q_aload_n hC 1 dX6_become_0 rfl rfl ?_
    refine q_get_f hC f_X6_9 dX6_become_1 rfl rfl hs rfl ?_
    refine q_iconst hC dX6_become_4 (v := 0) (by decide) rfl ?_
    refine q_aload_n hC 0 dX6_become_5 rfl rfl ?_
    refine q_get_f hC f_X6_9 dX6_become_6 rfl rfl hd rfl ?_
    refine q_iconst hC dX6_become_9 (v := 0) (by decide) rfl ?_
    refine q_aload_n hC 0 dX6_become_10 rfl rfl ?_
    refine q_get_f hC f_X6_9 dX6_become_11 rfl rfl hd rfl ?_
    refine q_alen hC (a := 1) dX6_become_14 rfl rfl rfl hd rfl ?_
    refine q_copyP (a := 1) (N := 30) hC lk_X6_26 dX6_become_15 rfl rfl rfl (fun _ => rfl) hs hd (fun j hj => z_chr_f (h1 j hj)) rfl (by decide) (by decide) (by decide) rfl ?_
    refine q_aload_n hC 1 dX6_become_18 rfl rfl ?_
    refine q_get_f hC f_X6_15 dX6_become_19 rfl rfl hs rfl ?_
    refine q_iconst hC dX6_become_22 (v := 0) (by decide) rfl ?_
    refine q_aload_n hC 0 dX6_become_23 rfl rfl ?_
    refine q_get_f hC f_X6_15 dX6_become_24 rfl rfl hd rfl ?_
    refine q_iconst hC dX6_become_27 (v := 0) (by decide) rfl ?_
    refine q_aload_n hC 0 dX6_become_28 rfl rfl ?_
    refine q_get_f hC f_X6_15 dX6_become_29 rfl rfl hd rfl ?_
    refine q_alen hC (a := 1) dX6_become_32 rfl rfl rfl hd rfl ?_
    refine q_copyP (a := 1) (N := 30) hC lk_X6_26 dX6_become_33 rfl rfl rfl (fun _ => rfl) hs hd (fun j hj => by simp (config := {decide := true}) only [q_up, false_and, if_false]; exact z_chr_f (h2 j hj)) rfl (by decide) (by decide) (by decide) rfl ?_
    refine q_aload_n hC 1 dX6_become_36 rfl rfl ?_
    refine q_get_f hC f_X6_18 dX6_become_37 rfl rfl hs rfl ?_
    refine q_iconst hC dX6_become_40 (v := 0) (by decide) rfl ?_
    refine q_aload_n hC 0 dX6_become_41 rfl rfl ?_
    refine q_get_f hC f_X6_18 dX6_become_42 rfl rfl hd rfl ?_
    refine q_iconst hC dX6_become_45 (v := 0) (by decide) rfl ?_
    refine q_aload_n hC 0 dX6_become_46 rfl rfl ?_
    refine q_get_f hC f_X6_18 dX6_become_47 rfl rfl hd rfl ?_
    refine q_alen hC (a := 0) dX6_become_50 rfl rfl rfl hd rfl ?_
    refine q_copyP (a := 0) (N := 30) hC lk_X6_26 dX6_become_51 rfl rfl rfl (fun _ => rfl) hs hd (fun _ _ => rfl) rfl (by decide) (by decide) (by decide) rfl ?_
    refine q_vret hC dX6_become_54 ⟨by decide, by decide⟩ ⟨rfl, ?_⟩
    show z_mb S _ 13 d s
    refine ⟨fun k' i' hk => ?_, fun k hk p hp => ?_⟩
    · simp only [q_up]
      rw [if_neg (by omega), if_neg (by omega), if_neg (by omega)]
    · rcases hk with rfl | rfl | rfl
      · simp (config := {decide := true}) only [q_up, and_self, if_true, if_false, false_and, z_cpy hp]
      · simp (config := {decide := true}) only [q_up, and_self, if_true, if_false, false_and, hne, and_false, z_cpy hp]
      · simp (config := {decide := true}) only [q_up, and_self, if_true, if_false, false_and, hne, and_false, z_cpy hp]
