-- printed by wip/p36/gen_m2.py
/-! a client as the law makes it: its own class, then its acts -/
def z_as (c : Nat) (S T : qM) (f : Nat → Int32) : Prop := (∀ k i, ¬ (26 < k ∧ k < 33 ∧ i = c) → T k i = S k i) ∧ T 27 c 1 = 0 ∧ ∀ p, p < 4 → T 28 c p = f p
theorem z_clr_fn {c : Nat} {T : qM} : ∀ p, p < 4 → z_clr c T 28 c p = z_fn p := by
  intro p hp
  rcases (by omega : p = 0 ∨ p = 1 ∨ p = 2 ∨ p = 3) with rfl | rfl | rfl | rfl <;> simp (config := {decide := true}) only [z_clr, q_up, upd, z_fn, and_self, if_true, if_false]
theorem z_as_clr {c : Nat} {S : qM} : z_as c S (z_cclr c S) z_fn := by
  refine ⟨fun k i h => ?_, ?_, fun p hp => ?_⟩
  · unfold z_cclr z_clr
    simp only [q_up]
    rw [if_neg (by omega), if_neg (by omega)]
  · unfold z_cclr
    simp only [q_up, and_self, if_true, upd]
  · unfold z_cclr
    rw [q_up_k (by omega)]
    exact z_clr_fn p hp
theorem z_as_z {c : Nat} {S T : qM} {f : Nat → Int32} (h : z_as c S T f) : z_as c S (z_clr c T) z_fn := by
  refine ⟨fun k i hn => ?_, ?_, z_clr_fn⟩
  · unfold z_clr
    simp only [q_up]
    rw [if_neg (by omega)]; exact h.1 k i hn
  · unfold z_clr
    rw [q_up_k (by omega)]; exact h.2.1
theorem z_as_up {c j : Nat} {S T : qM} {f g : Nat → Int32} {w : Int32} (h : z_as c S T f) (hw : g j = w) (hg : ∀ p, p < 4 → ¬ p = j → g p = f p) : z_as c S (q_up T 28 c (upd (T 28 c) j w)) g := by
  refine ⟨fun k i hn => ?_, ?_, fun p hp => ?_⟩
  · simp only [q_up]
    rw [if_neg (by omega)]; exact h.1 k i hn
  · rw [q_up_k (by omega)]; exact h.2.1
  · rw [q_up_same]
    by_cases e : p = j
    · subst e; simp only [upd, if_true]; exact hw.symm
    · simp only [upd, if_neg e]; rw [h.2.2 p hp]; exact (hg p hp e).symm
theorem z_fx1 {u u' p m : Nat} : ∀ q, q < 4 → ¬ q = 1 → z_fx u p m q = z_fx u' p m q := by
  intro q hq h
  rcases (by omega : q = 0 ∨ q = 2 ∨ q = 3) with rfl | rfl | rfl <;> rfl
theorem z_fx2 {u p p' m : Nat} : ∀ q, q < 4 → ¬ q = 2 → z_fx u p m q = z_fx u p' m q := by
  intro q hq h
  rcases (by omega : q = 0 ∨ q = 1 ∨ q = 3) with rfl | rfl | rfl <;> rfl
theorem z_fx3 {u p m m' : Nat} : ∀ q, q < 4 → ¬ q = 3 → z_fx u p m q = z_fx u p m' q := by
  intro q hq h
  rcases (by omega : q = 0 ∨ q = 1 ∨ q = 2) with rfl | rfl | rfl <;> rfl
theorem z_fx0 : ∀ q, q < 4 → ¬ q = 0 → z_fx 0 0 0 q = z_fn q := by decide +kernel
def z_uix (w : Nat) : Nat := if w = 0 then 1 else if w = 1 then 6 else if w = 2 then 10 else if w = 3 then 13 else 15
theorem z_uix_p : ∀ w, w < 5 → z_uix w < 16 ∧ q_pairs (z_uix w) = nI (2 ^ w) := by decide +kernel
theorem z_sz_0 : ∀ w, w < 5 → z_sz (w + 1) 0 = 3 := by decide
theorem z_sz_s : ∀ u, u < 6 → ∀ w, w < 5 → z_sz u (z_uix w) = z_sz u 0 + 1 := by decide
theorem z_tc_ch : ∀ k, k < 6 → z_tc (q_ch 6 k) := by
  intro k hk
  by_cases h : k < 5
  · exact Or.inr ⟨k, h, (show ∀ k, k < 5 → q_ch 6 k = nI (65 + k) by decide +kernel) k h⟩
  · obtain rfl : k = 5 := by omega
    exact Or.inl (by decide +kernel)
def z_acl (c : Nat) (S T : qM) (f : Nat → Int32) (L N : Nat) : Prop := (∀ k i, ¬ (26 < k ∧ k < 33 ∧ i = c) → T k i = S k i) ∧ T 27 c 1 = nI N ∧ (∀ p, p < 4 → T 28 c p = f p) ∧
  ∀ j, j < N → ∃ k t m o, z_V L k t m o ∧ T 29 c j = nI k ∧ T 30 c j = z_c t ∧ T 31 c j = z_c m ∧ T 32 c j = z_c o
theorem z_acl_0 {c L : Nat} {S T : qM} {f : Nat → Int32} (h : z_as c S T f) : z_acl c S T f L 0 := ⟨h.1, h.2.1, h.2.2, fun j hj => absurd hj (Nat.not_lt_zero _)⟩
theorem z_acl_add {c L N k t m o : Nat} {S T : qM} {f : Nat → Int32} (h : z_acl c S T f L N) (hN : N < 8) (hv : z_V L k t m o) : z_acl c S (z_add c (nI k) (z_c t) (z_c m) (z_c o) T) f L (N + 1) := by
  have e : (T 27 c 1).toNatClampNeg = N := by rw [h.2.1]; exact nI_clamp (by omega)
  have hlt : T 27 c 1 < 8 := by rw [h.2.1]; exact nI_lt (b := 8) hN (by decide)
  obtain ⟨U, hU⟩ : ∃ U, U = z_add c (nI k) (z_c t) (z_c m) (z_c o) T := ⟨_, rfl⟩
  rw [← hU]
  unfold z_add at hU
  rw [if_pos hlt, e] at hU
  have fr : ∀ k i, ¬ (26 < k ∧ k < 33 ∧ i = c) → U k i = S k i := by
    intro k i hn
    rw [hU]
    simp only [q_up]
    rw [if_neg (by omega), if_neg (by omega), if_neg (by omega), if_neg (by omega), if_neg (by omega)]
    exact h.1 k i hn
  have u27 : U 27 c 1 = nI (N + 1) := by
    rw [hU]
    simp only [q_up, and_self, if_true, upd]
    rw [h.2.1, nI_succ]
  have u28 : U 28 c = T 28 c := by rw [hU, q_up_k (by omega), q_up_k (by omega), q_up_k (by omega), q_up_k (by omega), q_up_k (by omega)]
  have u29 : U 29 c = upd (T 29 c) N (nI k) := by rw [hU, q_up_k (by omega), q_up_k (by omega), q_up_k (by omega), q_up_k (by omega), q_up_same]
  have u30 : U 30 c = upd (T 30 c) N (z_c t) := by rw [hU, q_up_k (by omega), q_up_k (by omega), q_up_k (by omega), q_up_same]
  have u31 : U 31 c = upd (T 31 c) N (z_c m) := by rw [hU, q_up_k (by omega), q_up_k (by omega), q_up_same]
  have u32 : U 32 c = upd (T 32 c) N (z_c o) := by rw [hU, q_up_k (by omega), q_up_same]
  refine ⟨fr, u27, fun p hp => by rw [u28]; exact h.2.2.1 p hp, fun j hj => ?_⟩
  rw [u29, u30, u31, u32]
  by_cases ej : j = N
  · subst ej
    exact ⟨k, t, m, o, hv, by simp only [upd, if_true], by simp only [upd, if_true], by simp only [upd, if_true], by simp only [upd, if_true]⟩
  · obtain ⟨k', t', m', o', h1, h2, h3, h4, h5⟩ := h.2.2.2 j (by omega)
    exact ⟨k', t', m', o', h1, by simp only [upd, if_neg ej]; exact h2, by simp only [upd, if_neg ej]; exact h3, by simp only [upd, if_neg ej]; exact h4, by simp only [upd, if_neg ej]; exact h5⟩
abbrev rm_L_asks : Room := { frames := 9, cells := 3, slots := 18, locals := 169 }
set_option maxHeartbeats 4000000 in
set_option maxRecDepth 100000 in
theorem c_L_asks {L : qL} (hD : q_D L.2.2.2.1) (hs : L.2.2.2.2.1.2.1 ≤ 260) (hl : L.1.stackTraces = false) : qCT L yL_asks cL_asks 9 (some .int) rm_L_asks (fun ad o (x : Nat × Nat × Nat) => [.ref (ad 36 0), .int (nI x.1), .ref o.1.1, .int (nI x.2.1), .int (nI x.2.2)]) (fun x S => x.1 < 4 ∧ x.2.1 < 1000 ∧ x.2.2 ≤ 3) (qPi (fun x S r S' => ∃ f L s N, r = nI (s - 1) ∧ N ≤ 3 ∧ z_Xs f L s ∧ z_acl x.1 S S' f L N)) := by
  refine q_met hD (by decide) (fun _ => Nat.le_of_ble_eq_true rfl) (fun Γ x S hΓ hpre hC => ?_)
  subst hΓ
  obtain ⟨c, f, A⟩ := x
  obtain ⟨hc, hf, hA⟩ := hpre
  have hc : c < 4 := hc
  have hf : f < 1000 := hf
  have hA : A ≤ 3 := hA
  have D : ∀ (a d : Nat), a < 2 ^ 31 → 0 < d → d < 2 ^ 31 → (nI a : Int32) / nI d = nI (a / d) := fun a d h1 h2 h3 => pk_div h1 h2 h3
  have M : ∀ (a d : Nat), a < 2 ^ 31 → 0 < d → d < 2 ^ 31 → (nI a : Int32) - nI a / nI d * nI d = nI (a % d) := fun a d h1 h2 h3 => pk_rem h1 h2 h3
  have LA : ∀ (v g : Nat) (F : Nat → Int32) (l s : Nat), z_Xs F l s → g + 1 = s → ∀ (n m N : Nat) (T : qM), m + n = A → N ≤ m → z_acl c S T F l N → qV Γ rm_L_asks 9 139 [(0, .ref (q_ad Γ 36 0)), (1, .int (nI c)), (2, .ref (q_o Γ).1.1), (3, .int (nI f)), (4, .int (nI A)), (5, .int (nI v)), (6, .int (nI g)), (7, .int (nI m))] [] T (m * 1, m * 6) := by
    intro v g F l s hX hg n
    induction n with
    | zero =>
      intro m N T hmn hN hT
      obtain rfl : m = A := by omega
      refine q_iload hC 7 dL_asks_139 rfl rfl ?_
      refine q_iload hC 4 dL_asks_141 rfl rfl ?_
      refine q_icmp_ge hC dL_asks_143 (t := 247) (n := 146) (by decide) rfl (fun h143 => ?_) (fun h143 => absurd (Int32.le_refl _) h143)
      refine q_iload hC 6 dL_asks_247 rfl rfl ?_
      refine q_iret hC dL_asks_249 rfl ⟨(show m * 1 ≤ 3 by omega), (show m * 6 ≤ 18 by omega)⟩ ⟨_, rfl, ?_⟩
      exact ⟨F, l, s, N, by rw [← hg]; rfl, by omega, hX, hT⟩
    | succ n ih =>
      intro m N T hmn hN hT
      have hm : m < A := by omega
      have hL : l = if F 0 = 0 then 5 else 6 := z_Xs_L hX
      have hb : z_bool (T 28 c 0) := by rw [hT.2.2.1 0 (by omega)]; exact (z_Xs_own hX).1
      refine q_iload hC 7 dL_asks_139 rfl rfl ?_
      refine q_iload hC 4 dL_asks_141 rfl rfl ?_
      refine q_icmp_ge hC dL_asks_143 (t := 247) (n := 146) (by decide) rfl (fun h143 => absurd h143 (nI_ge hm (by omega))) (fun h143 => ?_)
      refine q_aload_n hC 2 dL_asks_146 rfl rfl ?_
      refine q_iload_n hC 3 dL_asks_147 rfl rfl ?_
      refine q_iconst hC dL_asks_148 (v := 1) (by decide) rfl ?_
      refine q_iadd hC dL_asks_149 rfl ?_
      refine q_iload hC 7 dL_asks_150 rfl rfl ?_
      refine q_iadd hC dL_asks_152 rfl ?_
      rw [show (nI f + 1 + nI m : Int32) = nI (f + 1 + m) from by rw [show (nI f + 1 : Int32) = nI (f + 1) from nI_add f 1, nI_add]]
      refine q_callS hC (c_L_cell (q_hD hC) hs) m_L_cell lk_L_113 dL_asks_153 (f + 1 + m, ()) rfl rfl (Nat.le_of_ble_eq_true rfl) ⟨⟨by decide, by decide⟩, (show m * 1 + 0 ≤ 3 by omega), (show m * 6 + 0 ≤ 18 by omega)⟩ rfl (k' := (m * 1, m * 6)) rfl (show f + 1 + m < 2 ^ 31 by omega) (fun v S' hp => ?_)
      obtain ⟨rc, rfl, rfl⟩ := hp
      show qV Γ _ _ 156 _ (.int _ :: _) _ _
      refine q_sipush hC dL_asks_156 (v := 7919) (by decide) rfl ?_
      refine q_iload_n hC 3 dL_asks_159 rfl rfl ?_
      refine q_iload hC 7 dL_asks_160 rfl rfl ?_
      refine q_iadd hC dL_asks_162 rfl ?_
      refine q_imul hC dL_asks_163 rfl ?_
      refine q_iadd hC dL_asks_164 rfl ?_
      refine q_ldc hC dL_asks_165 cn_L_170 rfl ?_
      refine q_callS hC (c_L_chosen (q_hD hC)) m_L_chosen lk_L_117 dL_asks_167 (rc + 7919 * (nI f + nI m), 100000000) rfl rfl (Nat.le_of_ble_eq_true rfl) ⟨⟨by decide, by decide⟩, (show m * 1 + 0 ≤ 3 by omega), (show m * 6 + 0 ≤ 18 by omega)⟩ rfl (k' := (m * 1, m * 6)) rfl ⟨(show 1 ≤ 100000000 by decide), (show 100000000 < 2 ^ 31 by decide)⟩ (fun v S' hp => ?_)
      obtain ⟨r9, rfl, ⟨w, hw, rfl⟩, rfl⟩ := hp
      have hw : w < 100000000 := hw
      show qV Γ _ _ 170 _ (.int _ :: _) _ _
      refine q_istore hC dL_asks_170 (by decide) (ls' := [(0, _), (1, _), (2, _), (3, _), (4, _), (5, _), (6, _), (7, _), (8, _)]) rfl rfl ?_
      refine q_aload_n hC 0 dL_asks_172 rfl rfl ?_
      refine q_iload_n hC 1 dL_asks_173 rfl rfl ?_
      refine q_ldcS 5 hC dL_asks_174 (by decide) rfl rfl ?_
      refine q_iload hC 8 dL_asks_176 rfl rfl ?_
      refine q_bipush hC dL_asks_178 (v := 9) (by decide) rfl ?_
      refine q_irem hC dL_asks_180 (by decide) rfl ?_
      rw [show (nI (w) : Int32) - nI (w) / 9 * 9 = nI ((w) % 9) from M (w) 9 (by omega) (by decide) (by decide)]
      refine q_callT hC (c_J0_charAt_5068e (q_hD hC)) m_J0_charAt_5068e rfl lk_L_130 dL_asks_181 (5, w % 9) (show 5 < 7 by decide) rfl rfl rfl (Nat.le_of_ble_eq_true rfl) ⟨⟨by decide, by decide⟩, (show m * 1 + 0 ≤ 3 by omega), (show m * 6 + 0 ≤ 18 by omega)⟩ rfl (k' := (m * 1, m * 6)) rfl ⟨(show 5 < 7 by decide), (show w % 9 < 9 by omega)⟩ (fun v S' hp => ?_)
      obtain ⟨rk, rfl, -, rfl⟩ := hp
      show qV Γ _ _ 184 _ (.int _ :: _) _ _
      refine q_ldcS 6 hC dL_asks_184 (by decide) rfl rfl ?_
      refine q_iload hC 8 dL_asks_186 rfl rfl ?_
      refine q_bipush hC dL_asks_188 (v := 9) (by decide) rfl ?_
      refine q_idiv hC dL_asks_190 (by decide) rfl ?_
      rw [show (nI (w) : Int32) / 9 = nI ((w) / 9) from D (w) 9 (by omega) (by decide) (by decide)]
      refine q_bipush hC dL_asks_191 (v := 6) (by decide) rfl ?_
      refine q_irem hC dL_asks_193 (by decide) rfl ?_
      rw [show (nI (w / 9) : Int32) - nI (w / 9) / 6 * 6 = nI ((w / 9) % 6) from M (w / 9) 6 (by omega) (by decide) (by decide)]
      refine q_callT hC (c_J0_charAt_5068e (q_hD hC)) m_J0_charAt_5068e rfl lk_L_130 dL_asks_194 (6, w / 9 % 6) (show 6 < 7 by decide) rfl rfl rfl (Nat.le_of_ble_eq_true rfl) ⟨⟨by decide, by decide⟩, (show m * 1 + 0 ≤ 3 by omega), (show m * 6 + 0 ≤ 18 by omega)⟩ rfl (k' := (m * 1, m * 6)) rfl ⟨(show 6 < 7 by decide), (show w / 9 % 6 < 6 by omega)⟩ (fun v S' hp => ?_)
      obtain ⟨rt, rfl, hrt, rfl⟩ := hp
      have hrt : rt = q_ch 6 (w / 9 % 6) := hrt
      show qV Γ _ _ 197 _ (.int _ :: _) _ _
      refine q_bipush hC dL_asks_197 (v := 97) (by decide) rfl ?_
      refine q_iload hC 8 dL_asks_199 rfl rfl ?_
      refine q_bipush hC dL_asks_201 (v := 54) (by decide) rfl ?_
      refine q_idiv hC dL_asks_203 (by decide) rfl ?_
      rw [show (nI (w) : Int32) / 54 = nI ((w) / 54) from D (w) 54 (by omega) (by decide) (by decide)]
      refine q_iconst hC dL_asks_204 (v := 2) (by decide) rfl ?_
      refine q_irem hC dL_asks_205 (by decide) rfl ?_
      rw [show (nI (w / 54) : Int32) - nI (w / 54) / 2 * 2 = nI ((w / 54) % 2) from M (w / 54) 2 (by omega) (by decide) (by decide)]
      refine q_iadd hC dL_asks_206 rfl ?_
      refine q_i2c hC dL_asks_207 rfl ?_
      rw [z_a97 (w / 54 % 2) (by omega)]
      refine q_iload hC 8 dL_asks_208 rfl rfl ?_
      refine q_bipush hC dL_asks_210 (v := 108) (by decide) rfl ?_
      refine q_idiv hC dL_asks_212 (by decide) rfl ?_
      rw [show (nI (w) : Int32) / 108 = nI ((w) / 108) from D (w) 108 (by omega) (by decide) (by decide)]
      refine q_iconst hC dL_asks_213 (v := 5) (by decide) rfl ?_
      refine q_irem hC dL_asks_214 (by decide) rfl ?_
      rw [show (nI (w / 108) : Int32) - nI (w / 108) / 5 * 5 = nI ((w / 108) % 5) from M (w / 108) 5 (by omega) (by decide) (by decide)]
      refine q_if_ne hC dL_asks_215 (t := 222) (n := 218) (by decide) rfl (fun h215 => ?_) (fun h215 => ?_)
      · refine q_iconst hC dL_asks_222 (v := 0) (by decide) rfl ?_
        refine q_ldcS 6 hC dL_asks_223 (by decide) rfl rfl ?_
        refine q_iload hC 8 dL_asks_225 rfl rfl ?_
        refine q_sipush hC dL_asks_227 (v := 540) (by decide) rfl ?_
        refine q_idiv hC dL_asks_230 (by decide) rfl ?_
        rw [show (nI (w) : Int32) / 540 = nI ((w) / 540) from D (w) 540 (by omega) (by decide) (by decide)]
        refine q_bipush hC dL_asks_231 (v := 6) (by decide) rfl ?_
        refine q_irem hC dL_asks_233 (by decide) rfl ?_
        rw [show (nI (w / 540) : Int32) - nI (w / 540) / 6 * 6 = nI ((w / 540) % 6) from M (w / 540) 6 (by omega) (by decide) (by decide)]
        refine q_callT hC (c_J0_charAt_5068e (q_hD hC)) m_J0_charAt_5068e rfl lk_L_130 dL_asks_234 (6, w / 540 % 6) (show 6 < 7 by decide) rfl rfl rfl (Nat.le_of_ble_eq_true rfl) ⟨⟨by decide, by decide⟩, (show m * 1 + 0 ≤ 3 by omega), (show m * 6 + 0 ≤ 18 by omega)⟩ rfl (k' := (m * 1, m * 6)) rfl ⟨(show 6 < 7 by decide), (show w / 540 % 6 < 6 by omega)⟩ (fun v S' hp => ?_)
        obtain ⟨ro, rfl, hro, rfl⟩ := hp
        have hro : ro = q_ch 6 (w / 540 % 6) := hro
        show qV Γ _ _ 237 _ (.int _ :: _) _ _
        refine q_callSW hC (cw_L_act (q_hD hC) hl) mw_L_act lk_L_187 dL_asks_237 (c, rk, rt, w / 54 % 2, 0, ro, N) rfl rfl (Nat.le_of_ble_eq_true rfl) ⟨⟨by decide, by decide⟩, (show m * 1 + 1 ≤ 3 by omega), (show m * 6 + 6 ≤ 18 by omega)⟩ rfl (k' := ((m + 1) * 1, (m + 1) * 6)) (Prod.ext (show m * 1 + 1 = (m + 1) * 1 by omega) (show m * 6 + 6 = (m + 1) * 6 by omega)) ⟨hc, (by rw [hrt]; exact z_tc_ch _ (by omega)), (show w / 54 % 2 < 3 by omega), (show 0 < 2 by decide), (by rw [hro]; exact z_tc_ch _ (by omega)), (show N < 8 by omega), hT.2.1, hb⟩ (fun v S' hp => ?_)
        obtain ⟨r9, rfl, hact⟩ := hp
        show qV Γ _ _ 240 _ (.long _ :: _) _ _
        refine q_pop2 hC dL_asks_240 rfl rfl ?_
        refine q_iinc hC 7 dL_asks_241 rfl (v := nI (m + 1)) (z_inc m) (by decide) (ls' := [(0, _), (1, _), (2, _), (3, _), (4, _), (5, _), (6, _), (7, _), (8, _)]) rfl rfl ?_
        refine q_goto hC dL_asks_244 (n := 139) (by decide) ?_
        refine q_locp [0, 1, 2, 3, 4, 5, 6, 7] (ls' := [(0, _), (1, _), (2, _), (3, _), (4, _), (5, _), (6, _), (7, _)]) rfl ?_
        rcases hact with ⟨k, t, m', o, hv, rfl⟩ | rfl
        · have hv : z_V (if T 28 c 0 = 0 then 5 else 6) k t m' o := hv
          rw [hT.2.2.1 0 (by omega), ← hL] at hv
          exact ih (m + 1) (N + 1) _ (by omega) (by omega) (z_acl_add hT (by omega) hv)
        · exact ih (m + 1) N _ (by omega) (by omega) hT
      · refine q_iconst hC dL_asks_218 (v := 1) (by decide) rfl ?_
        refine q_goto hC dL_asks_219 (n := 223) (by decide) ?_
        refine q_ldcS 6 hC dL_asks_223 (by decide) rfl rfl ?_
        refine q_iload hC 8 dL_asks_225 rfl rfl ?_
        refine q_sipush hC dL_asks_227 (v := 540) (by decide) rfl ?_
        refine q_idiv hC dL_asks_230 (by decide) rfl ?_
        rw [show (nI (w) : Int32) / 540 = nI ((w) / 540) from D (w) 540 (by omega) (by decide) (by decide)]
        refine q_bipush hC dL_asks_231 (v := 6) (by decide) rfl ?_
        refine q_irem hC dL_asks_233 (by decide) rfl ?_
        rw [show (nI (w / 540) : Int32) - nI (w / 540) / 6 * 6 = nI ((w / 540) % 6) from M (w / 540) 6 (by omega) (by decide) (by decide)]
        refine q_callT hC (c_J0_charAt_5068e (q_hD hC)) m_J0_charAt_5068e rfl lk_L_130 dL_asks_234 (6, w / 540 % 6) (show 6 < 7 by decide) rfl rfl rfl (Nat.le_of_ble_eq_true rfl) ⟨⟨by decide, by decide⟩, (show m * 1 + 0 ≤ 3 by omega), (show m * 6 + 0 ≤ 18 by omega)⟩ rfl (k' := (m * 1, m * 6)) rfl ⟨(show 6 < 7 by decide), (show w / 540 % 6 < 6 by omega)⟩ (fun v S' hp => ?_)
        obtain ⟨ro, rfl, hro, rfl⟩ := hp
        have hro : ro = q_ch 6 (w / 540 % 6) := hro
        show qV Γ _ _ 237 _ (.int _ :: _) _ _
        refine q_callSW hC (cw_L_act (q_hD hC) hl) mw_L_act lk_L_187 dL_asks_237 (c, rk, rt, w / 54 % 2, 1, ro, N) rfl rfl (Nat.le_of_ble_eq_true rfl) ⟨⟨by decide, by decide⟩, (show m * 1 + 1 ≤ 3 by omega), (show m * 6 + 6 ≤ 18 by omega)⟩ rfl (k' := ((m + 1) * 1, (m + 1) * 6)) (Prod.ext (show m * 1 + 1 = (m + 1) * 1 by omega) (show m * 6 + 6 = (m + 1) * 6 by omega)) ⟨hc, (by rw [hrt]; exact z_tc_ch _ (by omega)), (show w / 54 % 2 < 3 by omega), (show 1 < 2 by decide), (by rw [hro]; exact z_tc_ch _ (by omega)), (show N < 8 by omega), hT.2.1, hb⟩ (fun v S' hp => ?_)
        obtain ⟨r9, rfl, hact⟩ := hp
        show qV Γ _ _ 240 _ (.long _ :: _) _ _
        refine q_pop2 hC dL_asks_240 rfl rfl ?_
        refine q_iinc hC 7 dL_asks_241 rfl (v := nI (m + 1)) (z_inc m) (by decide) (ls' := [(0, _), (1, _), (2, _), (3, _), (4, _), (5, _), (6, _), (7, _), (8, _)]) rfl rfl ?_
        refine q_goto hC dL_asks_244 (n := 139) (by decide) ?_
        refine q_locp [0, 1, 2, 3, 4, 5, 6, 7] (ls' := [(0, _), (1, _), (2, _), (3, _), (4, _), (5, _), (6, _), (7, _)]) rfl ?_
        rcases hact with ⟨k, t, m', o, hv, rfl⟩ | rfl
        · have hv : z_V (if T 28 c 0 = 0 then 5 else 6) k t m' o := hv
          rw [hT.2.2.1 0 (by omega), ← hL] at hv
          exact ih (m + 1) (N + 1) _ (by omega) (by omega) (z_acl_add hT (by omega) hv)
        · exact ih (m + 1) N _ (by omega) (by omega) hT
  have J136 : ∀ (v g : Nat) (F : Nat → Int32) (l s : Nat) (T : qM), z_Xs F l s → g + 1 = s → z_as c S T F → qV Γ rm_L_asks 9 136 [(0, .ref (q_ad Γ 36 0)), (1, .int (nI c)), (2, .ref (q_o Γ).1.1), (3, .int (nI f)), (4, .int (nI A)), (5, .int (nI v)), (6, .int (nI g))] [] T (0, 0) := by
    intro v g F l s T hX hg hT
    refine q_iconst hC dL_asks_136 (v := 0) (by decide) rfl ?_
    refine q_istore hC dL_asks_137 (by decide) (ls' := [(0, _), (1, _), (2, _), (3, _), (4, _), (5, _), (6, _), (7, _)]) rfl rfl ?_
    exact LA v g F l s hX hg A 0 0 _ (Nat.zero_add _) (Nat.le_refl _) (z_acl_0 hT)
  have J103 : ∀ (v g u p : Nat) (T : qM), v < 100000000 → u < 6 → p < 16 → g + 1 = z_sz u p → z_as c S T (z_fx u p 0) → qV Γ rm_L_asks 9 103 [(0, .ref (q_ad Γ 36 0)), (1, .int (nI c)), (2, .ref (q_o Γ).1.1), (3, .int (nI f)), (4, .int (nI A)), (5, .int (nI v)), (6, .int (nI g))] [] T (0, 0) := by
    intro v g u p T hv hu hp' hg hT
    refine q_iload hC 5 dL_asks_103 rfl rfl ?_
    refine q_sipush hC dL_asks_105 (v := 450) (by decide) rfl ?_
    refine q_idiv hC dL_asks_108 (by decide) rfl ?_
    rw [show (nI (v) : Int32) / 450 = nI ((v) / 450) from D (v) 450 (by omega) (by decide) (by decide)]
    refine q_iconst hC dL_asks_109 (v := 3) (by decide) rfl ?_
    refine q_irem hC dL_asks_110 (by decide) rfl ?_
    rw [show (nI (v / 450) : Int32) - nI (v / 450) / 3 * 3 = nI ((v / 450) % 3) from M (v / 450) 3 (by omega) (by decide) (by decide)]
    refine q_if_ne hC dL_asks_111 (t := 136) (n := 114) (by decide) rfl (fun h111 => ?_) (fun h111 => ?_)
    · exact J136 v g _ 6 _ _ (Or.inr ⟨u, p, 0, hu, hp', (by omega), rfl, rfl, rfl⟩) (by rw [if_pos rfl]; exact hg) hT
    · refine q_aload_n hC 0 dL_asks_114 rfl rfl ?_
      refine q_iload_n hC 1 dL_asks_115 rfl rfl ?_
      refine q_bipush hC dL_asks_116 (v := 97) (by decide) rfl ?_
      refine q_iload hC 5 dL_asks_118 rfl rfl ?_
      refine q_sipush hC dL_asks_120 (v := 1350) (by decide) rfl ?_
      refine q_idiv hC dL_asks_123 (by decide) rfl ?_
      rw [show (nI (v) : Int32) / 1350 = nI ((v) / 1350) from D (v) 1350 (by omega) (by decide) (by decide)]
      refine q_iconst hC dL_asks_124 (v := 2) (by decide) rfl ?_
      refine q_irem hC dL_asks_125 (by decide) rfl ?_
      rw [show (nI (v / 1350) : Int32) - nI (v / 1350) / 2 * 2 = nI ((v / 1350) % 2) from M (v / 1350) 2 (by omega) (by decide) (by decide)]
      refine q_iadd hC dL_asks_126 rfl ?_
      refine q_i2c hC dL_asks_127 rfl ?_
      rw [z_a97 (v / 1350 % 2) (by omega)]
      refine q_iconst hC dL_asks_128 (v := 0) (by decide) rfl ?_
      refine q_callSW hC (cw_L_ownMethod (q_hD hC)) mw_L_ownMethod lk_L_180 dL_asks_129 (c, v / 1350 % 2) rfl rfl (Nat.le_of_ble_eq_true rfl) ⟨⟨by decide, by decide⟩, by decide, by decide⟩ rfl (k' := (0, 0)) rfl ⟨hc, (show v / 1350 % 2 < 3 by omega), (by rw [hT.2.2 0 (by omega)]; exact (show ¬ (1 : Int32) = 0 by decide)), (by rw [hT.2.2 3 (by omega)]; exact Or.inl (show z_c 0 = -1 by decide))⟩ (fun v S' hp => ?_)
      obtain ⟨r9, rfl, rfl⟩ := hp
      show qV Γ _ _ 132 _ (.long _ :: _) _ _
      refine q_pop2 hC dL_asks_132 rfl rfl ?_
      refine q_iinc hC 6 dL_asks_133 rfl (v := nI (g + 1)) (z_inc g) (by decide) (ls' := [(0, _), (1, _), (2, _), (3, _), (4, _), (5, _), (6, _)]) rfl rfl ?_
      exact J136 v (g + 1) _ 6 _ _ (Or.inr ⟨u, p, v / 1350 % 2 * 2 + 1, hu, hp', (by omega), rfl, rfl, rfl⟩) (by rw [if_neg (by omega)]; omega) (z_as_up hT (z_cs _) z_fx3)
  have J72 : ∀ (v g u : Nat) (T : qM), v < 100000000 → u < 6 → g + 1 = z_sz u 0 → z_as c S T (z_fx u 0 0) → qV Γ rm_L_asks 9 72 [(0, .ref (q_ad Γ 36 0)), (1, .int (nI c)), (2, .ref (q_o Γ).1.1), (3, .int (nI f)), (4, .int (nI A)), (5, .int (nI v)), (6, .int (nI g))] [] T (0, 0) := by
    intro v g u T hv hu hg hT
    refine q_iload hC 5 dL_asks_72 rfl rfl ?_
    refine q_bipush hC dL_asks_74 (v := 30) (by decide) rfl ?_
    refine q_idiv hC dL_asks_76 (by decide) rfl ?_
    rw [show (nI (v) : Int32) / 30 = nI ((v) / 30) from D (v) 30 (by omega) (by decide) (by decide)]
    refine q_iconst hC dL_asks_77 (v := 3) (by decide) rfl ?_
    refine q_irem hC dL_asks_78 (by decide) rfl ?_
    rw [show (nI (v / 30) : Int32) - nI (v / 30) / 3 * 3 = nI ((v / 30) % 3) from M (v / 30) 3 (by omega) (by decide) (by decide)]
    refine q_if_ne hC dL_asks_79 (t := 103) (n := 82) (by decide) rfl (fun h79 => ?_) (fun h79 => ?_)
    · exact J103 v g u 0 _ hv hu (by decide) hg hT
    · refine q_aload_n hC 0 dL_asks_82 rfl rfl ?_
      refine q_iload_n hC 1 dL_asks_83 rfl rfl ?_
      refine q_bipush hC dL_asks_84 (v := 65) (by decide) rfl ?_
      refine q_iload hC 5 dL_asks_86 rfl rfl ?_
      refine q_bipush hC dL_asks_88 (v := 90) (by decide) rfl ?_
      refine q_idiv hC dL_asks_90 (by decide) rfl ?_
      rw [show (nI (v) : Int32) / 90 = nI ((v) / 90) from D (v) 90 (by omega) (by decide) (by decide)]
      refine q_iconst hC dL_asks_91 (v := 5) (by decide) rfl ?_
      refine q_irem hC dL_asks_92 (by decide) rfl ?_
      rw [show (nI (v / 90) : Int32) - nI (v / 90) / 5 * 5 = nI ((v / 90) % 5) from M (v / 90) 5 (by omega) (by decide) (by decide)]
      refine q_iadd hC dL_asks_93 rfl ?_
      refine q_i2c hC dL_asks_94 rfl ?_
      rw [z_a65 (v / 90 % 5) (by omega)]
      refine q_iconst hC dL_asks_95 (v := 1) (by decide) rfl ?_
      refine q_callSW hC (cw_L_ownUnder (q_hD hC)) mw_L_ownUnder lk_L_177 dL_asks_96 (c, v / 90 % 5) rfl rfl (Nat.le_of_ble_eq_true rfl) ⟨⟨by decide, by decide⟩, by decide, by decide⟩ rfl (k' := (0, 0)) rfl ⟨hc, (show v / 90 % 5 < 5 by omega), (by rw [hT.2.2 0 (by omega)]; exact (show ¬ (1 : Int32) = 0 by decide)), (by rw [hT.2.2 2 (by omega)]; exact (show q_pairs 0 = 0 by decide))⟩ (fun v S' hp => ?_)
      obtain ⟨r9, rfl, rfl⟩ := hp
      show qV Γ _ _ 99 _ (.long _ :: _) _ _
      refine q_pop2 hC dL_asks_99 rfl rfl ?_
      refine q_iinc hC 6 dL_asks_100 rfl (v := nI (g + 1)) (z_inc g) (by decide) (ls' := [(0, _), (1, _), (2, _), (3, _), (4, _), (5, _), (6, _)]) rfl rfl ?_
      exact J103 v (g + 1) u (z_uix (v / 90 % 5)) _ hv hu (z_uix_p _ (by omega)).1 (by rw [z_sz_s u hu _ (by omega)]; omega) (z_as_up hT (z_uix_p _ (by omega)).2 z_fx2)
  show qV Γ _ _ 0 [(0, .ref (q_ad Γ 36 0)), (1, .int (nI c)), (2, .ref (q_o Γ).1.1), (3, .int (nI f)), (4, .int (nI A))] [] S (0, 0)
  refine q_aload_n hC 0 dL_asks_0 rfl rfl ?_
  refine q_iload_n hC 1 dL_asks_1 rfl rfl ?_
  refine q_callSW hC (cw_L_wipe (q_hD hC)) mw_L_wipe lk_L_167 dL_asks_2 (c, ()) rfl rfl (Nat.le_of_ble_eq_true rfl) ⟨⟨by decide, by decide⟩, by decide, by decide⟩ rfl (k' := (0, 0)) rfl hc (fun v S' hp => ?_)
  obtain ⟨r9, rfl, rfl⟩ := hp
  show qV Γ _ _ 5 _ (.long _ :: _) _ _
  refine q_pop2 hC dL_asks_5 rfl rfl ?_
  refine q_aload_n hC 2 dL_asks_6 rfl rfl ?_
  refine q_iload_n hC 3 dL_asks_7 rfl rfl ?_
  refine q_callS hC (c_L_cell (q_hD hC) hs) m_L_cell lk_L_113 dL_asks_8 (f, ()) rfl rfl (Nat.le_of_ble_eq_true rfl) ⟨⟨by decide, by decide⟩, by decide, by decide⟩ rfl (k' := (0, 0)) rfl (show f < 2 ^ 31 by omega) (fun v S' hp => ?_)
  obtain ⟨rc, rfl, rfl⟩ := hp
  show qV Γ _ _ 11 _ (.int _ :: _) _ _
  refine q_ldc hC dL_asks_11 cn_L_169 rfl ?_
  refine q_iload_n hC 3 dL_asks_13 rfl rfl ?_
  refine q_imul hC dL_asks_14 rfl ?_
  refine q_iadd hC dL_asks_15 rfl ?_
  refine q_ldc hC dL_asks_16 cn_L_170 rfl ?_
  refine q_callS hC (c_L_chosen (q_hD hC)) m_L_chosen lk_L_117 dL_asks_18 (rc + 104729 * nI f, 100000000) rfl rfl (Nat.le_of_ble_eq_true rfl) ⟨⟨by decide, by decide⟩, by decide, by decide⟩ rfl (k' := (0, 0)) rfl ⟨(show 1 ≤ 100000000 by decide), (show 100000000 < 2 ^ 31 by decide)⟩ (fun v S' hp => ?_)
  obtain ⟨r9, rfl, ⟨v, hv, rfl⟩, rfl⟩ := hp
  have hv : v < 100000000 := hv
  have hT0 : z_as c S (z_cclr c S) z_fn := z_as_clr
  show qV Γ _ _ 21 _ (.int _ :: _) _ _
  refine q_istore hC dL_asks_21 (by decide) (ls' := [(0, _), (1, _), (2, _), (3, _), (4, _), (5, _)]) rfl rfl ?_
  refine q_iconst hC dL_asks_23 (v := 0) (by decide) rfl ?_
  refine q_istore hC dL_asks_24 (by decide) (ls' := [(0, _), (1, _), (2, _), (3, _), (4, _), (5, _), (6, _)]) rfl rfl ?_
  refine q_iload hC 5 dL_asks_26 rfl rfl ?_
  refine q_iconst hC dL_asks_28 (v := 3) (by decide) rfl ?_
  refine q_irem hC dL_asks_29 (by decide) rfl ?_
  rw [show (nI (v) : Int32) - nI (v) / 3 * 3 = nI ((v) % 3) from M (v) 3 (by omega) (by decide) (by decide)]
  refine q_if_le hC dL_asks_30 (t := 136) (n := 33) (by decide) rfl (fun h30 => ?_) (fun h30 => ?_)
  · exact J136 v 0 _ 5 1 _ (Or.inl ⟨rfl, rfl, rfl⟩) rfl hT0
  · refine q_aload_n hC 0 dL_asks_33 rfl rfl ?_
    refine q_iload_n hC 1 dL_asks_34 rfl rfl ?_
    refine q_iconst hC dL_asks_35 (v := 1) (by decide) rfl ?_
    refine q_callSW hC (cw_L_own (q_hD hC)) mw_L_own lk_L_171 dL_asks_36 (c, ()) rfl rfl (Nat.le_of_ble_eq_true rfl) ⟨⟨by decide, by decide⟩, by decide, by decide⟩ rfl (k' := (0, 0)) rfl ⟨hc, hT0.2.1, (by rw [hT0.2.2 0 (by omega)]; rfl)⟩ (fun v S' hp => ?_)
    obtain ⟨r9, rfl, rfl⟩ := hp
    have hT1 := z_as_up (g := z_fx 0 0 0) (j := 0) (w := 1) (z_as_z hT0) rfl z_fx0
    show qV Γ _ _ 39 _ (.long _ :: _) _ _
    refine q_pop2 hC dL_asks_39 rfl rfl ?_
    refine q_iconst hC dL_asks_40 (v := 1) (by decide) rfl ?_
    refine q_istore hC dL_asks_41 (by decide) (ls' := [(0, _), (1, _), (2, _), (3, _), (4, _), (5, _), (6, _)]) rfl rfl ?_
    refine q_iload hC 5 dL_asks_43 rfl rfl ?_
    refine q_iconst hC dL_asks_45 (v := 3) (by decide) rfl ?_
    refine q_idiv hC dL_asks_46 (by decide) rfl ?_
    rw [show (nI (v) : Int32) / 3 = nI ((v) / 3) from D (v) 3 (by omega) (by decide) (by decide)]
    refine q_iconst hC dL_asks_47 (v := 2) (by decide) rfl ?_
    refine q_irem hC dL_asks_48 (by decide) rfl ?_
    rw [show (nI (v / 3) : Int32) - nI (v / 3) / 2 * 2 = nI ((v / 3) % 2) from M (v / 3) 2 (by omega) (by decide) (by decide)]
    refine q_if_ne hC dL_asks_49 (t := 72) (n := 52) (by decide) rfl (fun h49 => ?_) (fun h49 => ?_)
    · exact J72 v 1 0 _ hv (by decide) (by decide) hT1
    · refine q_aload_n hC 0 dL_asks_52 rfl rfl ?_
      refine q_iload_n hC 1 dL_asks_53 rfl rfl ?_
      refine q_bipush hC dL_asks_54 (v := 65) (by decide) rfl ?_
      refine q_iload hC 5 dL_asks_56 rfl rfl ?_
      refine q_bipush hC dL_asks_58 (v := 6) (by decide) rfl ?_
      refine q_idiv hC dL_asks_60 (by decide) rfl ?_
      rw [show (nI (v) : Int32) / 6 = nI ((v) / 6) from D (v) 6 (by omega) (by decide) (by decide)]
      refine q_iconst hC dL_asks_61 (v := 5) (by decide) rfl ?_
      refine q_irem hC dL_asks_62 (by decide) rfl ?_
      rw [show (nI (v / 6) : Int32) - nI (v / 6) / 5 * 5 = nI ((v / 6) % 5) from M (v / 6) 5 (by omega) (by decide) (by decide)]
      refine q_iadd hC dL_asks_63 rfl ?_
      refine q_i2c hC dL_asks_64 rfl ?_
      rw [z_a65 (v / 6 % 5) (by omega)]
      refine q_callSW hC (cw_L_ownAbove (q_hD hC)) mw_L_ownAbove lk_L_174 dL_asks_65 (c, v / 6 % 5) rfl rfl (Nat.le_of_ble_eq_true rfl) ⟨⟨by decide, by decide⟩, by decide, by decide⟩ rfl (k' := (0, 0)) rfl ⟨hc, (show v / 6 % 5 < 5 by omega), (by rw [hT1.2.2 0 (by omega)]; exact (show ¬ (1 : Int32) = 0 by decide)), (by rw [hT1.2.2 1 (by omega)]; exact Or.inl (show z_c 0 = -1 by decide))⟩ (fun v S' hp => ?_)
      obtain ⟨r9, rfl, rfl⟩ := hp
      show qV Γ _ _ 68 _ (.long _ :: _) _ _
      refine q_pop2 hC dL_asks_68 rfl rfl ?_
      refine q_iinc hC 6 dL_asks_69 rfl (v := 2) (by decide) (by decide) (ls' := [(0, _), (1, _), (2, _), (3, _), (4, _), (5, _), (6, _)]) rfl rfl ?_
      exact J72 v 2 (v / 6 % 5 + 1) _ hv (by omega) (z_sz_0 _ (by omega)).symm (z_as_up hT1 (z_cs _) z_fx1)
