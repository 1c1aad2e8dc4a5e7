-- printed by wip/p36/gen_m2.py
def z_m6 (x : Int32) : Prop := ∃ w, w < 64 ∧ x = nI w
theorem z_m6_or_all : ∀ w, w < 64 → ∀ v, v < 64 → (nI w ||| nI v) = nI (w ||| v) ∧ (w ||| v) < 64 := by decide +kernel
theorem z_m6_or {x y : Int32} (hx : z_m6 x) (hy : z_m6 y) : z_m6 (x ||| y) := by
  obtain ⟨w, hw, rfl⟩ := hx
  obtain ⟨v, hv, rfl⟩ := hy
  exact ⟨_, (z_m6_or_all w hw v hv).2, (z_m6_or_all w hw v hv).1⟩
theorem z_m6_0 : z_m6 0 := ⟨0, by decide, rfl⟩
/-- the bit of a place's member -/
def z_bt (b : Nat) : Int32 := 1 <<< ((nI b - nI b / 6 * 6) &&& 31)
theorem z_bt_all : ∀ b, b < 30 → z_bt b = nI (2 ^ (b % 6)) ∧ 2 ^ (b % 6) < 64 ∧ ∀ w, w < 64 → ¬ z_has (nI w ||| nI (2 ^ (b % 6))) (nI (b % 6)) = 0 := by decide +kernel
theorem z_bt_m6 {b : Nat} (hb : b < 30) : z_m6 (z_bt b) := ⟨_, (z_bt_all b hb).2.1, (z_bt_all b hb).1⟩
theorem z_bt_has {b : Nat} (hb : b < 30) {x : Int32} (hx : z_m6 x) : ¬ z_has (x ||| z_bt b) (nI (b % 6)) = 0 := by
  obtain ⟨w, hw, rfl⟩ := hx
  rw [(z_bt_all b hb).1]
  exact (z_bt_all b hb).2.2 w hw
theorem z_m6_has {x y : Int32} {q : Nat} (hx : z_m6 x) (hy : z_m6 y) (hq : q < 6) (h : ¬ z_has x (nI q) = 0) : ¬ z_has (x ||| y) (nI q) = 0 := by
  obtain ⟨w, hw, rfl⟩ := hx
  obtain ⟨v, hv, rfl⟩ := hy
  have dec : ∀ q, q < 6 → ∀ w, w < 64 → ∀ v, v < 64 → ¬ z_has (nI w) (nI q) = 0 → ¬ z_has (nI w ||| nI v) (nI q) = 0 := by decide +kernel
  exact dec q hq w hw v hv h
theorem z_far0 {x : Int32} (h : z_far x = 0) : ¬ (x = 112 ∨ x = 111) := by
  intro g
  rcases g with rfl | rfl
  · exact absurd h (by decide)
  · exact absurd h (by decide)
/-- which row of the usable ones (0: the known ones) a place writes -/
def z_uc (S : qM) (i p k : Nat) : Prop := (k = 0 ∧ ¬ S 10 i p = 45) ∨ (k = 1 ∧ ¬ z_far (S 10 i p) = 0 ∧ S 11 i p = 115) ∨ (k = 2 ∧ ¬ z_far (S 10 i p) = 0 ∧ ¬ S 11 i p = 115) ∨
  (k = 5 ∧ ¬ z_far (S 14 i p) = 0 ∧ (S 15 i p = 115 ∨ S 15 i p = 70)) ∨ (k = 6 ∧ ¬ z_far (S 14 i p) = 0 ∧ S 15 i p = 115) ∨ (k = 7 ∧ ¬ z_far (S 14 i p) = 0 ∧ (S 15 i p = 110 ∨ S 15 i p = 102)) ∨ (k = 8 ∧ ¬ z_far (S 14 i p) = 0 ∧ S 15 i p = 110)
def z_uk (T : qM) (i k : Nat) : Int32 := if k = 0 then T 17 i 10 else T 26 i k
def z_ui (S T : qM) (i b c : Nat) : Prop := (∀ k' i', ¬ ((k' = 26 ∨ k' = 17) ∧ i' = i) → T k' i' = S k' i') ∧ (∀ p, ¬ p = 10 → T 17 i p = S 17 i p) ∧ (∀ k, k < 9 → z_m6 (z_uk T i k)) ∧
  ∀ k, k < 9 → ∀ p, p < 30 → z_uc S i p k → (p < b ∨ p = b ∧ k < c) → ¬ z_has (z_uk T i k) (nI (p % 6)) = 0
theorem z_ui_skip {S T : qM} {i b c : Nat} (h : z_ui S T i b c) (hc : ¬ z_uc S i b c) : z_ui S T i b (c + 1) := by
  refine ⟨h.1, h.2.1, h.2.2.1, fun k hk p hp hu hl => ?_⟩
  rcases hl with hl | ⟨rfl, hl⟩
  · exact h.2.2.2 k hk p hp hu (Or.inl hl)
  · by_cases e : k = c
    · subst e; exact absurd hu hc
    · exact h.2.2.2 k hk p hp hu (Or.inr ⟨rfl, by omega⟩)
theorem z_ui_next {S T : qM} {i b : Nat} (h : z_ui S T i b 9) : z_ui S T i (b + 1) 0 := by
  refine ⟨h.1, h.2.1, h.2.2.1, fun k hk p hp hu hl => h.2.2.2 k hk p hp hu ?_⟩
  rcases hl with hl | ⟨-, hl⟩
  · by_cases e : p = b
    · exact Or.inr ⟨e, hk⟩
    · exact Or.inl (by omega)
  · omega
theorem z_ui_one {S T U : qM} {i b c : Nat} {y : Int32} (h : z_ui S T i b c) (hb : b < 30) (hc9 : c < 9) (hy : z_m6 y) (hc : z_uc S i b c → y = z_bt b) (h1 : ∀ k' i', ¬ ((k' = 26 ∨ k' = 17) ∧ i' = i) → U k' i' = T k' i')
    (h2 : ∀ p, ¬ p = 10 → U 17 i p = T 17 i p) (h3 : z_uk U i c = z_uk T i c ||| y) (h4 : ∀ k, k < 9 → ¬ k = c → z_uk U i k = z_uk T i k) : z_ui S U i b (c + 1) := by
  refine ⟨fun k' i' hk => (h1 k' i' hk).trans (h.1 k' i' hk), fun p hp => (h2 p hp).trans (h.2.1 p hp), fun k hk => ?_, fun k hk p hp hu hl => ?_⟩
  · by_cases e : k = c
    · subst e; rw [h3]; exact z_m6_or (h.2.2.1 k hk) hy
    · rw [h4 k hk e]; exact h.2.2.1 k hk
  · by_cases e : k = c
    · subst e
      rw [h3]
      rcases hl with hl | ⟨rfl, hl⟩
      · exact z_m6_has (h.2.2.1 k hk) hy (Nat.mod_lt _ (by decide)) (h.2.2.2 k hk p hp hu (Or.inl hl))
      · rw [hc hu]; exact z_bt_has hb (h.2.2.1 k hk)
    · rw [h4 k hk e]
      refine h.2.2.2 k hk p hp hu ?_
      rcases hl with hl | ⟨rfl, hl⟩
      · exact Or.inl hl
      · exact Or.inr ⟨rfl, by omega⟩
theorem z_ui_or {S T : qM} {i b c : Nat} {x y : Int32} (h : z_ui S T i b c) (hb : b < 30) (h1 : 1 ≤ c) (h9 : c < 9) (hx : x.toNatClampNeg = c) (hy : z_m6 y) (hc : z_uc S i b c → y = z_bt b) :
    z_ui S (q_up T 26 i (upd (T 26 i) x.toNatClampNeg (T 26 i x.toNatClampNeg ||| y))) i b (c + 1) := by
  rw [hx]
  refine z_ui_one h hb h9 hy hc (fun k' i' hk => ?_) (fun p hp => ?_) ?_ (fun k hk e => ?_)
  · simp only [q_up]; rw [if_neg (by omega)]
  · simp (config := {decide := true}) only [q_up, false_and, if_false]
  · unfold z_uk
    rw [if_neg (by omega), if_neg (by omega)]
    simp only [q_up, and_self, if_true, upd]
  · unfold z_uk
    by_cases e0 : k = 0
    · rw [if_pos e0, if_pos e0]
      simp (config := {decide := true}) only [q_up, false_and, if_false]
    · rw [if_neg e0, if_neg e0]
      simp only [q_up, and_self, if_true, upd, if_neg e]
theorem z_ui_kn {S T : qM} {i b : Nat} {y : Int32} (h : z_ui S T i b 0) (hb : b < 30) (hy : z_m6 y) (hc : z_uc S i b 0 → y = z_bt b) :
    z_ui S (q_up T 17 i (upd (T 17 i) 10 (T 17 i 10 ||| y))) i b 1 := by
  refine z_ui_one h hb (by decide) hy hc (fun k' i' hk => ?_) (fun p hp => ?_) ?_ (fun k hk e => ?_)
  · simp only [q_up]; rw [if_neg (by omega)]
  · simp only [q_up, and_self, if_true, upd, if_neg hp]
  · simp only [z_uk, q_up, and_self, if_true, upd]
  · unfold z_uk
    rw [if_neg e, if_neg e]
    simp (config := {decide := true}) only [q_up, false_and, if_false]
theorem z_uc0 {S : qM} {i p : Nat} (h : z_uc S i p 0) : ¬ S 10 i p = 45 := by simpa [z_uc] using h
theorem z_uc1 {S : qM} {i p : Nat} (h : z_uc S i p 1) : ¬ z_far (S 10 i p) = 0 ∧ S 11 i p = 115 := by simpa [z_uc] using h
theorem z_uc2 {S : qM} {i p : Nat} (h : z_uc S i p 2) : ¬ z_far (S 10 i p) = 0 ∧ ¬ S 11 i p = 115 := by simpa [z_uc] using h
theorem z_uc3 {S : qM} {i p : Nat} : ¬ z_uc S i p 3 := by simp [z_uc]
theorem z_uc4 {S : qM} {i p : Nat} : ¬ z_uc S i p 4 := by simp [z_uc]
theorem z_uc5 {S : qM} {i p : Nat} (h : z_uc S i p 5) : ¬ z_far (S 14 i p) = 0 ∧ (S 15 i p = 115 ∨ S 15 i p = 70) := by simpa [z_uc] using h
theorem z_uc6 {S : qM} {i p : Nat} (h : z_uc S i p 6) : ¬ z_far (S 14 i p) = 0 ∧ S 15 i p = 115 := by simpa [z_uc] using h
theorem z_uc7 {S : qM} {i p : Nat} (h : z_uc S i p 7) : ¬ z_far (S 14 i p) = 0 ∧ (S 15 i p = 110 ∨ S 15 i p = 102) := by simpa [z_uc] using h
theorem z_uc8 {S : qM} {i p : Nat} (h : z_uc S i p 8) : ¬ z_far (S 14 i p) = 0 ∧ S 15 i p = 110 := by simpa [z_uc] using h
theorem z_ui_0 {S T : qM} {i : Nat} (f1 : ∀ k' i', ¬ (k' = 26 ∧ i' = i) → T k' i' = S k' i') (f2 : ∀ p, p < 9 → T 26 i p = 0) : z_ui S (q_up T 17 i (upd (T 17 i) 10 0)) i 0 0 := by
  refine ⟨fun k' i' hk => ?_, fun p hp => ?_, fun k hk => ?_, fun k hk p hp hu hl => absurd hl (by omega)⟩
  · simp only [q_up]; rw [if_neg (by omega)]; exact f1 k' i' (by omega)
  · simp only [q_up, and_self, if_true, upd, if_neg hp]
    rw [f1 17 i (by omega)]
  · unfold z_uk
    by_cases e : k = 0
    · rw [if_pos e]; simp only [q_up, and_self, if_true, upd]; exact z_m6_0
    · rw [if_neg e]; simp (config := {decide := true}) only [q_up, false_and, if_false]; rw [f2 k hk]; exact z_m6_0
def z_du (S S' : qM) (i : Nat) : Prop := ∃ U, z_ui S U i 30 0 ∧ S' = q_up (q_up U 26 i (upd (U 26 i) 3 (U 26 i 2))) 26 i (upd (q_up U 26 i (upd (U 26 i) 3 (U 26 i 2)) 26 i) 4 (q_up U 26 i (upd (U 26 i) 3 (U 26 i 2)) 26 i 2))
abbrev rm_X3_deriveUsable : Room := { frames := 1, cells := 0, slots := 0, locals := 23 }
set_option maxHeartbeats 4000000 in
set_option maxRecDepth 100000 in
theorem c_X3_deriveUsable {L : qL} (hD : q_D L.2.2.2.1) : qCT L yX3_deriveUsable cX3_deriveUsable 5 none rm_X3_deriveUsable (fun ad _ (x : Nat × Unit) => [.ref (ad 17 x.1), .ref (ad 1 x.1)]) (fun x S => x.1 < 4) (qPv (fun x S S' => z_du S S' x.1)) := by
  refine q_met hD (by decide) (fun _ => Nat.le_of_ble_eq_true rfl) (fun Γ x S hΓ hpre hC => ?_)
  subst hΓ
  obtain ⟨i, u⟩ := x
  have hi : i < 4 := hpre
  have L : ∀ (n b : Nat) (T : qM), b + n = 30 → z_ui S T i b 0 → qV Γ rm_X3_deriveUsable 5 15 [(0, .ref (q_ad Γ 17 i)), (1, .ref (q_ad Γ 1 i)), (2, .int (nI b))] [] T (0, 0) := by
    intro n
    induction n with
    | zero =>
      intro b T hmn hI
      obtain rfl : b = 30 := by omega
      refine q_iload_n hC 2 dX3_deriveUsable_15 rfl rfl ?_
      refine q_bipush hC dX3_deriveUsable_16 (v := 30) (by decide) rfl ?_
      refine q_icmp_ge hC dX3_deriveUsable_18 (t := 265) (n := 21) (by decide) rfl (fun h18 => ?_) (fun h18 => absurd (by decide) h18)
      refine q_aload_n hC 0 dX3_deriveUsable_265 rfl rfl ?_
      refine q_get_f hC f_X3_40 dX3_deriveUsable_266 rfl rfl hi rfl ?_
      refine q_iconst hC dX3_deriveUsable_269 (v := 3) (by decide) rfl ?_
      refine q_aload_n hC 0 dX3_deriveUsable_270 rfl rfl ?_
      refine q_get_f hC f_X3_40 dX3_deriveUsable_271 rfl rfl hi rfl ?_
      refine q_iconst hC dX3_deriveUsable_274 (v := 2) (by decide) rfl ?_
      refine q_iald hC dX3_deriveUsable_275 rfl hi (q_inl (by decide)) rfl ?_
      refine q_iast hC dX3_deriveUsable_276 (fun _ => rfl) hi (q_inl (by decide)) rfl ?_
      refine q_aload_n hC 0 dX3_deriveUsable_277 rfl rfl ?_
      refine q_get_f hC f_X3_40 dX3_deriveUsable_278 rfl rfl hi rfl ?_
      refine q_iconst hC dX3_deriveUsable_281 (v := 4) (by decide) rfl ?_
      refine q_aload_n hC 0 dX3_deriveUsable_282 rfl rfl ?_
      refine q_get_f hC f_X3_40 dX3_deriveUsable_283 rfl rfl hi rfl ?_
      refine q_iconst hC dX3_deriveUsable_286 (v := 2) (by decide) rfl ?_
      refine q_iald hC dX3_deriveUsable_287 rfl hi (q_inl (by decide)) rfl ?_
      refine q_iast hC dX3_deriveUsable_288 (fun _ => rfl) hi (q_inl (by decide)) rfl ?_
      refine q_vret hC dX3_deriveUsable_289 ⟨by decide, by decide⟩ ⟨rfl, ?_⟩
      exact ⟨T, hI, rfl⟩
    | succ n ih =>
      intro b T0 hmn hI0
      have hb : b < 30 := by omega
      have ec : (nI b).toNatClampNeg = b := nI_clamp (by omega)
      have J259 : ∀ T : qM, z_ui S T i b 9 → qV Γ rm_X3_deriveUsable 5 259 [(0, .ref (q_ad Γ 17 i)), (1, .ref (q_ad Γ 1 i)), (2, .int (nI b)), (3, .int (z_bt b))] [] T (0, 0) := by
        intro T hI
        refine q_iinc hC 2 dX3_deriveUsable_259 rfl (v := nI (b + 1)) (z_inc b) (by decide) (ls' := [(0, _), (1, _), (2, _), (3, _)]) rfl rfl ?_
        refine q_goto hC dX3_deriveUsable_262 (n := 15) (by decide) ?_
        refine q_locp [0, 1, 2] (ls' := [(0, _), (1, _), (2, _)]) rfl ?_
        exact ih (b + 1) _ (by omega) (z_ui_next hI)
      have J237 : ∀ T : qM, z_ui S T i b 8 → qV Γ rm_X3_deriveUsable 5 237 [(0, .ref (q_ad Γ 17 i)), (1, .ref (q_ad Γ 1 i)), (2, .int (nI b)), (3, .int (z_bt b)), (4, .int (S 15 i b))] [] T (0, 0) := by
        intro T hI
        refine q_aload_n hC 0 dX3_deriveUsable_237 rfl rfl ?_
        refine q_get_f hC f_X3_40 dX3_deriveUsable_238 rfl rfl hi rfl ?_
        refine q_bipush hC dX3_deriveUsable_241 (v := 8) (by decide) rfl ?_
        refine q_dup2 hC dX3_deriveUsable_243 rfl rfl rfl ?_
        refine q_iald hC dX3_deriveUsable_244 rfl hi (q_inl (by decide)) rfl ?_
        refine q_iload hC 4 dX3_deriveUsable_245 rfl rfl ?_
        refine q_bipush hC dX3_deriveUsable_247 (v := 110) (by decide) rfl ?_
        refine q_icmp_ne hC dX3_deriveUsable_249 (t := 256) (n := 252) (by decide) rfl (fun h249 => ?_) (fun h249 => ?_)
        · refine q_iconst hC dX3_deriveUsable_256 (v := 0) (by decide) rfl ?_
          refine q_ior hC dX3_deriveUsable_257 rfl ?_
          refine q_iast hC dX3_deriveUsable_258 (fun _ => rfl) hi (q_inl (by decide)) rfl ?_
          refine q_locp [0, 1, 2, 3] (ls' := [(0, _), (1, _), (2, _), (3, _)]) rfl ?_
          exact J259 _ (z_ui_or hI hb (by decide) (by decide) (by decide) z_m6_0 (fun h => absurd (z_uc8 h).2 h249))
        · refine q_iload_n hC 3 dX3_deriveUsable_252 rfl rfl ?_
          refine q_goto hC dX3_deriveUsable_253 (n := 257) (by decide) ?_
          refine q_ior hC dX3_deriveUsable_257 rfl ?_
          refine q_iast hC dX3_deriveUsable_258 (fun _ => rfl) hi (q_inl (by decide)) rfl ?_
          refine q_locp [0, 1, 2, 3] (ls' := [(0, _), (1, _), (2, _), (3, _)]) rfl ?_
          exact J259 _ (z_ui_or hI hb (by decide) (by decide) (by decide) (z_bt_m6 hb) (fun _ => rfl))
      have J208 : ∀ T : qM, z_ui S T i b 7 → qV Γ rm_X3_deriveUsable 5 208 [(0, .ref (q_ad Γ 17 i)), (1, .ref (q_ad Γ 1 i)), (2, .int (nI b)), (3, .int (z_bt b)), (4, .int (S 15 i b))] [] T (0, 0) := by
        intro T hI
        refine q_aload_n hC 0 dX3_deriveUsable_208 rfl rfl ?_
        refine q_get_f hC f_X3_40 dX3_deriveUsable_209 rfl rfl hi rfl ?_
        refine q_bipush hC dX3_deriveUsable_212 (v := 7) (by decide) rfl ?_
        refine q_dup2 hC dX3_deriveUsable_214 rfl rfl rfl ?_
        refine q_iald hC dX3_deriveUsable_215 rfl hi (q_inl (by decide)) rfl ?_
        refine q_iload hC 4 dX3_deriveUsable_216 rfl rfl ?_
        refine q_bipush hC dX3_deriveUsable_218 (v := 110) (by decide) rfl ?_
        refine q_icmp_eq hC dX3_deriveUsable_220 (t := 230) (n := 223) (by decide) rfl (fun h220 => ?_) (fun h220 => ?_)
        · refine q_iload_n hC 3 dX3_deriveUsable_230 rfl rfl ?_
          refine q_goto hC dX3_deriveUsable_231 (n := 235) (by decide) ?_
          refine q_ior hC dX3_deriveUsable_235 rfl ?_
          refine q_iast hC dX3_deriveUsable_236 (fun _ => rfl) hi (q_inl (by decide)) rfl ?_
          exact J237 _ (z_ui_or hI hb (by decide) (by decide) (by decide) (z_bt_m6 hb) (fun _ => rfl))
        · refine q_iload hC 4 dX3_deriveUsable_223 rfl rfl ?_
          refine q_bipush hC dX3_deriveUsable_225 (v := 102) (by decide) rfl ?_
          refine q_icmp_ne hC dX3_deriveUsable_227 (t := 234) (n := 230) (by decide) rfl (fun h227 => ?_) (fun h227 => ?_)
          · refine q_iconst hC dX3_deriveUsable_234 (v := 0) (by decide) rfl ?_
            refine q_ior hC dX3_deriveUsable_235 rfl ?_
            refine q_iast hC dX3_deriveUsable_236 (fun _ => rfl) hi (q_inl (by decide)) rfl ?_
            exact J237 _ (z_ui_or hI hb (by decide) (by decide) (by decide) z_m6_0 (fun h => (z_uc7 h).2.elim (fun e => absurd e h220) (fun e => absurd e h227)))
          · refine q_iload_n hC 3 dX3_deriveUsable_230 rfl rfl ?_
            refine q_goto hC dX3_deriveUsable_231 (n := 235) (by decide) ?_
            refine q_ior hC dX3_deriveUsable_235 rfl ?_
            refine q_iast hC dX3_deriveUsable_236 (fun _ => rfl) hi (q_inl (by decide)) rfl ?_
            exact J237 _ (z_ui_or hI hb (by decide) (by decide) (by decide) (z_bt_m6 hb) (fun _ => rfl))
      have J186 : ∀ T : qM, z_ui S T i b 6 → qV Γ rm_X3_deriveUsable 5 186 [(0, .ref (q_ad Γ 17 i)), (1, .ref (q_ad Γ 1 i)), (2, .int (nI b)), (3, .int (z_bt b)), (4, .int (S 15 i b))] [] T (0, 0) := by
        intro T hI
        refine q_aload_n hC 0 dX3_deriveUsable_186 rfl rfl ?_
        refine q_get_f hC f_X3_40 dX3_deriveUsable_187 rfl rfl hi rfl ?_
        refine q_bipush hC dX3_deriveUsable_190 (v := 6) (by decide) rfl ?_
        refine q_dup2 hC dX3_deriveUsable_192 rfl rfl rfl ?_
        refine q_iald hC dX3_deriveUsable_193 rfl hi (q_inl (by decide)) rfl ?_
        refine q_iload hC 4 dX3_deriveUsable_194 rfl rfl ?_
        refine q_bipush hC dX3_deriveUsable_196 (v := 115) (by decide) rfl ?_
        refine q_icmp_ne hC dX3_deriveUsable_198 (t := 205) (n := 201) (by decide) rfl (fun h198 => ?_) (fun h198 => ?_)
        · refine q_iconst hC dX3_deriveUsable_205 (v := 0) (by decide) rfl ?_
          refine q_ior hC dX3_deriveUsable_206 rfl ?_
          refine q_iast hC dX3_deriveUsable_207 (fun _ => rfl) hi (q_inl (by decide)) rfl ?_
          exact J208 _ (z_ui_or hI hb (by decide) (by decide) (by decide) z_m6_0 (fun h => absurd (z_uc6 h).2 h198))
        · refine q_iload_n hC 3 dX3_deriveUsable_201 rfl rfl ?_
          refine q_goto hC dX3_deriveUsable_202 (n := 206) (by decide) ?_
          refine q_ior hC dX3_deriveUsable_206 rfl ?_
          refine q_iast hC dX3_deriveUsable_207 (fun _ => rfl) hi (q_inl (by decide)) rfl ?_
          exact J208 _ (z_ui_or hI hb (by decide) (by decide) (by decide) (z_bt_m6 hb) (fun _ => rfl))
      have J158 : ∀ T : qM, z_ui S T i b 5 → qV Γ rm_X3_deriveUsable 5 158 [(0, .ref (q_ad Γ 17 i)), (1, .ref (q_ad Γ 1 i)), (2, .int (nI b)), (3, .int (z_bt b)), (4, .int (S 15 i b))] [] T (0, 0) := by
        intro T hI
        refine q_aload_n hC 0 dX3_deriveUsable_158 rfl rfl ?_
        refine q_get_f hC f_X3_40 dX3_deriveUsable_159 rfl rfl hi rfl ?_
        refine q_iconst hC dX3_deriveUsable_162 (v := 5) (by decide) rfl ?_
        refine q_dup2 hC dX3_deriveUsable_163 rfl rfl rfl ?_
        refine q_iald hC dX3_deriveUsable_164 rfl hi (q_inl (by decide)) rfl ?_
        refine q_iload hC 4 dX3_deriveUsable_165 rfl rfl ?_
        refine q_bipush hC dX3_deriveUsable_167 (v := 115) (by decide) rfl ?_
        refine q_icmp_eq hC dX3_deriveUsable_169 (t := 179) (n := 172) (by decide) rfl (fun h169 => ?_) (fun h169 => ?_)
        · refine q_iload_n hC 3 dX3_deriveUsable_179 rfl rfl ?_
          refine q_goto hC dX3_deriveUsable_180 (n := 184) (by decide) ?_
          refine q_ior hC dX3_deriveUsable_184 rfl ?_
          refine q_iast hC dX3_deriveUsable_185 (fun _ => rfl) hi (q_inl (by decide)) rfl ?_
          exact J186 _ (z_ui_or hI hb (by decide) (by decide) (by decide) (z_bt_m6 hb) (fun _ => rfl))
        · refine q_iload hC 4 dX3_deriveUsable_172 rfl rfl ?_
          refine q_bipush hC dX3_deriveUsable_174 (v := 70) (by decide) rfl ?_
          refine q_icmp_ne hC dX3_deriveUsable_176 (t := 183) (n := 179) (by decide) rfl (fun h176 => ?_) (fun h176 => ?_)
          · refine q_iconst hC dX3_deriveUsable_183 (v := 0) (by decide) rfl ?_
            refine q_ior hC dX3_deriveUsable_184 rfl ?_
            refine q_iast hC dX3_deriveUsable_185 (fun _ => rfl) hi (q_inl (by decide)) rfl ?_
            exact J186 _ (z_ui_or hI hb (by decide) (by decide) (by decide) z_m6_0 (fun h => (z_uc5 h).2.elim (fun e => absurd e h169) (fun e => absurd e h176)))
          · refine q_iload_n hC 3 dX3_deriveUsable_179 rfl rfl ?_
            refine q_goto hC dX3_deriveUsable_180 (n := 184) (by decide) ?_
            refine q_ior hC dX3_deriveUsable_184 rfl ?_
            refine q_iast hC dX3_deriveUsable_185 (fun _ => rfl) hi (q_inl (by decide)) rfl ?_
            exact J186 _ (z_ui_or hI hb (by decide) (by decide) (by decide) (z_bt_m6 hb) (fun _ => rfl))
      have J131 : ∀ T : qM, z_ui S T i b 5 → qV Γ rm_X3_deriveUsable 5 131 [(0, .ref (q_ad Γ 17 i)), (1, .ref (q_ad Γ 1 i)), (2, .int (nI b)), (3, .int (z_bt b))] [] T (0, 0) := by
        intro T hI
        have e14 : T 14 i (nI b).toNatClampNeg = S 14 i b := by rw [hI.1 14 i (by omega), ec]
        have e15 : T 15 i (nI b).toNatClampNeg = S 15 i b := by rw [hI.1 15 i (by omega), ec]
        refine q_aload_n hC 0 dX3_deriveUsable_131 rfl rfl ?_
        refine q_aload_n hC 1 dX3_deriveUsable_132 rfl rfl ?_
        refine q_get_f hC f_X3_131 dX3_deriveUsable_133 rfl rfl hi rfl ?_
        refine q_get_f hC f_X3_97 dX3_deriveUsable_136 rfl rfl hi rfl ?_
        refine q_iload_n hC 2 dX3_deriveUsable_139 rfl rfl ?_
        refine q_cald hC dX3_deriveUsable_140 rfl hi (vp_in_nI hb (by decide)) rfl ?_
        refine q_callV hC (c_X3_isFarSeen (q_hD hC)) m_X3_isFarSeen lk_X3_141 dX3_deriveUsable_141 (i, T 14 i (nI b).toNatClampNeg) rfl rfl rfl rfl rfl hi (Nat.le_of_ble_eq_true rfl) ⟨⟨by decide, by decide⟩, by decide, by decide⟩ rfl (k' := (0, 0)) rfl hi (fun v S' hp => ?_)
        obtain ⟨r141_1, rfl, hr141_1, rfl⟩ := hp
        show qV Γ _ _ 144 _ (.int _ :: _) _ _
        refine q_if_eq hC dX3_deriveUsable_144 (t := 259) (n := 147) (by decide) rfl (fun h144 => ?_) (fun h144 => ?_)
        · have hz : z_far (S 14 i b) = 0 := by
            rw [← e14]
            exact hr141_1.symm.trans h144
          exact J259 _ (z_ui_skip (z_ui_skip (z_ui_skip (z_ui_skip hI (fun h => (z_uc5 h).1 hz)) (fun h => (z_uc6 h).1 hz)) (fun h => (z_uc7 h).1 hz)) (fun h => (z_uc8 h).1 hz))
        · refine q_aload_n hC 1 dX3_deriveUsable_147 rfl rfl ?_
          refine q_get_f hC f_X3_131 dX3_deriveUsable_148 rfl rfl hi rfl ?_
          refine q_get_f hC f_X3_90 dX3_deriveUsable_151 rfl rfl hi rfl ?_
          refine q_iload_n hC 2 dX3_deriveUsable_154 rfl rfl ?_
          refine q_cald hC dX3_deriveUsable_155 rfl hi (vp_in_nI hb (by decide)) rfl ?_
          refine q_istore hC dX3_deriveUsable_156 (by decide) (ls' := [(0, _), (1, _), (2, _), (3, _), (4, _)]) rfl rfl ?_
          rw [e15]
          exact J158 _ hI
      have J56 : ∀ T : qM, z_ui S T i b 1 → qV Γ rm_X3_deriveUsable 5 56 [(0, .ref (q_ad Γ 17 i)), (1, .ref (q_ad Γ 1 i)), (2, .int (nI b)), (3, .int (z_bt b))] [] T (0, 0) := by
        intro T hI
        have e10 : T 10 i (nI b).toNatClampNeg = S 10 i b := by rw [hI.1 10 i (by omega), ec]
        have e11 : T 11 i (nI b).toNatClampNeg = S 11 i b := by rw [hI.1 11 i (by omega), ec]
        refine q_aload_n hC 0 dX3_deriveUsable_56 rfl rfl ?_
        refine q_aload_n hC 1 dX3_deriveUsable_57 rfl rfl ?_
        refine q_get_f hC f_X3_59 dX3_deriveUsable_58 rfl rfl hi rfl ?_
        refine q_get_f hC f_X3_97 dX3_deriveUsable_61 rfl rfl hi rfl ?_
        refine q_iload_n hC 2 dX3_deriveUsable_64 rfl rfl ?_
        refine q_cald hC dX3_deriveUsable_65 rfl hi (vp_in_nI hb (by decide)) rfl ?_
        refine q_callV hC (c_X3_isFarSeen (q_hD hC)) m_X3_isFarSeen lk_X3_141 dX3_deriveUsable_66 (i, T 10 i (nI b).toNatClampNeg) rfl rfl rfl rfl rfl hi (Nat.le_of_ble_eq_true rfl) ⟨⟨by decide, by decide⟩, by decide, by decide⟩ rfl (k' := (0, 0)) rfl hi (fun v S' hp => ?_)
        obtain ⟨r66_1, rfl, hr66_1, rfl⟩ := hp
        show qV Γ _ _ 69 _ (.int _ :: _) _ _
        refine q_if_eq hC dX3_deriveUsable_69 (t := 131) (n := 72) (by decide) rfl (fun h69 => ?_) (fun h69 => ?_)
        · have hz : z_far (S 10 i b) = 0 := by
            rw [← e10]
            exact hr66_1.symm.trans h69
          exact J131 _ (z_ui_skip (z_ui_skip (z_ui_skip (z_ui_skip hI (fun h => (z_uc1 h).1 hz)) (fun h => (z_uc2 h).1 hz)) z_uc3) z_uc4)
        · refine q_aload_n hC 1 dX3_deriveUsable_72 rfl rfl ?_
          refine q_get_f hC f_X3_59 dX3_deriveUsable_73 rfl rfl hi rfl ?_
          refine q_get_f hC f_X3_90 dX3_deriveUsable_76 rfl rfl hi rfl ?_
          refine q_iload_n hC 2 dX3_deriveUsable_79 rfl rfl ?_
          refine q_cald hC dX3_deriveUsable_80 rfl hi (vp_in_nI hb (by decide)) rfl ?_
          refine q_bipush hC dX3_deriveUsable_81 (v := 115) (by decide) rfl ?_
          refine q_icmp_ne hC dX3_deriveUsable_83 (t := 90) (n := 86) (by decide) rfl (fun h83 => ?_) (fun h83 => ?_)
          · refine q_iconst hC dX3_deriveUsable_90 (v := 0) (by decide) rfl ?_
            refine q_istore hC dX3_deriveUsable_91 (by decide) (ls' := [(0, _), (1, _), (2, _), (3, _), (4, _)]) rfl rfl ?_
            refine q_aload_n hC 0 dX3_deriveUsable_93 rfl rfl ?_
            refine q_get_f hC f_X3_40 dX3_deriveUsable_94 rfl rfl hi rfl ?_
            refine q_iconst hC dX3_deriveUsable_97 (v := 1) (by decide) rfl ?_
            refine q_dup2 hC dX3_deriveUsable_98 rfl rfl rfl ?_
            refine q_iald hC dX3_deriveUsable_99 rfl hi (q_inl (by decide)) rfl ?_
            refine q_iload hC 4 dX3_deriveUsable_100 rfl rfl ?_
            refine q_if_eq hC dX3_deriveUsable_102 (t := 109) (n := 105) (by decide) rfl (fun _ => ?_) (fun h => absurd (by decide) h)
            refine q_iconst hC dX3_deriveUsable_109 (v := 0) (by decide) rfl ?_
            refine q_ior hC dX3_deriveUsable_110 rfl ?_
            refine q_iast hC dX3_deriveUsable_111 (fun _ => rfl) hi (q_inl (by decide)) rfl ?_
            refine q_aload_n hC 0 dX3_deriveUsable_112 rfl rfl ?_
            refine q_get_f hC f_X3_40 dX3_deriveUsable_113 rfl rfl hi rfl ?_
            refine q_iconst hC dX3_deriveUsable_116 (v := 2) (by decide) rfl ?_
            refine q_dup2 hC dX3_deriveUsable_117 rfl rfl rfl ?_
            refine q_iald hC dX3_deriveUsable_118 rfl hi (q_inl (by decide)) rfl ?_
            refine q_iload hC 4 dX3_deriveUsable_119 rfl rfl ?_
            refine q_if_eq hC dX3_deriveUsable_121 (t := 128) (n := 124) (by decide) rfl (fun _ => ?_) (fun h => absurd (by decide) h)
            refine q_iload_n hC 3 dX3_deriveUsable_128 rfl rfl ?_
            refine q_ior hC dX3_deriveUsable_129 rfl ?_
            refine q_iast hC dX3_deriveUsable_130 (fun _ => rfl) hi (q_inl (by decide)) rfl ?_
            refine q_locp [0, 1, 2, 3] (ls' := [(0, _), (1, _), (2, _), (3, _)]) rfl ?_
            have hk : ¬ S 11 i b = 115 := by
              rw [← e11]
              exact h83
            exact J131 _ (z_ui_skip (z_ui_skip (z_ui_or (z_ui_or hI hb (by decide) (by decide) (by decide) z_m6_0 (fun h => absurd (z_uc1 h).2 hk)) hb (by decide) (by decide) (by decide) (z_bt_m6 hb) (fun _ => rfl)) z_uc3) z_uc4)
          · refine q_iconst hC dX3_deriveUsable_86 (v := 1) (by decide) rfl ?_
            refine q_goto hC dX3_deriveUsable_87 (n := 91) (by decide) ?_
            refine q_istore hC dX3_deriveUsable_91 (by decide) (ls' := [(0, _), (1, _), (2, _), (3, _), (4, _)]) rfl rfl ?_
            refine q_aload_n hC 0 dX3_deriveUsable_93 rfl rfl ?_
            refine q_get_f hC f_X3_40 dX3_deriveUsable_94 rfl rfl hi rfl ?_
            refine q_iconst hC dX3_deriveUsable_97 (v := 1) (by decide) rfl ?_
            refine q_dup2 hC dX3_deriveUsable_98 rfl rfl rfl ?_
            refine q_iald hC dX3_deriveUsable_99 rfl hi (q_inl (by decide)) rfl ?_
            refine q_iload hC 4 dX3_deriveUsable_100 rfl rfl ?_
            refine q_if_eq hC dX3_deriveUsable_102 (t := 109) (n := 105) (by decide) rfl (fun h => absurd h (by decide)) (fun _ => ?_)
            refine q_iload_n hC 3 dX3_deriveUsable_105 rfl rfl ?_
            refine q_goto hC dX3_deriveUsable_106 (n := 110) (by decide) ?_
            refine q_ior hC dX3_deriveUsable_110 rfl ?_
            refine q_iast hC dX3_deriveUsable_111 (fun _ => rfl) hi (q_inl (by decide)) rfl ?_
            refine q_aload_n hC 0 dX3_deriveUsable_112 rfl rfl ?_
            refine q_get_f hC f_X3_40 dX3_deriveUsable_113 rfl rfl hi rfl ?_
            refine q_iconst hC dX3_deriveUsable_116 (v := 2) (by decide) rfl ?_
            refine q_dup2 hC dX3_deriveUsable_117 rfl rfl rfl ?_
            refine q_iald hC dX3_deriveUsable_118 rfl hi (q_inl (by decide)) rfl ?_
            refine q_iload hC 4 dX3_deriveUsable_119 rfl rfl ?_
            refine q_if_eq hC dX3_deriveUsable_121 (t := 128) (n := 124) (by decide) rfl (fun h => absurd h (by decide)) (fun _ => ?_)
            refine q_iconst hC dX3_deriveUsable_124 (v := 0) (by decide) rfl ?_
            refine q_goto hC dX3_deriveUsable_125 (n := 129) (by decide) ?_
            refine q_ior hC dX3_deriveUsable_129 rfl ?_
            refine q_iast hC dX3_deriveUsable_130 (fun _ => rfl) hi (q_inl (by decide)) rfl ?_
            refine q_locp [0, 1, 2, 3] (ls' := [(0, _), (1, _), (2, _), (3, _)]) rfl ?_
            have hk : S 11 i b = 115 := by
              rw [← e11]
              exact h83
            exact J131 _ (z_ui_skip (z_ui_skip (z_ui_or (z_ui_or hI hb (by decide) (by decide) (by decide) (z_bt_m6 hb) (fun _ => rfl)) hb (by decide) (by decide) (by decide) z_m6_0 (fun h => absurd hk (z_uc2 h).2)) z_uc3) z_uc4)
      refine q_iload_n hC 2 dX3_deriveUsable_15 rfl rfl ?_
      refine q_bipush hC dX3_deriveUsable_16 (v := 30) (by decide) rfl ?_
      refine q_icmp_ge hC dX3_deriveUsable_18 (t := 265) (n := 21) (by decide) rfl (fun h18 => absurd h18 (nI_ge hb (by decide))) (fun h18 => ?_)
      refine q_iconst hC dX3_deriveUsable_21 (v := 1) (by decide) rfl ?_
      refine q_iload_n hC 2 dX3_deriveUsable_22 rfl rfl ?_
      refine q_bipush hC dX3_deriveUsable_23 (v := 6) (by decide) rfl ?_
      refine q_irem hC dX3_deriveUsable_25 (by decide) rfl ?_
      refine q_ishl hC dX3_deriveUsable_26 rfl ?_
      refine q_istore_n hC dX3_deriveUsable_27 (by decide) (ls' := [(0, _), (1, _), (2, _), (3, _)]) rfl rfl ?_
      refine q_aload_n hC 0 dX3_deriveUsable_28 rfl rfl ?_
      refine q_dup hC dX3_deriveUsable_29 rfl rfl ?_
      refine q_get_f hC f_X3_138 dX3_deriveUsable_30 rfl rfl hi rfl ?_
      refine q_aload_n hC 1 dX3_deriveUsable_33 rfl rfl ?_
      refine q_get_f hC f_X3_59 dX3_deriveUsable_34 rfl rfl hi rfl ?_
      refine q_get_f hC f_X3_97 dX3_deriveUsable_37 rfl rfl hi rfl ?_
      refine q_iload_n hC 2 dX3_deriveUsable_40 rfl rfl ?_
      refine q_cald hC dX3_deriveUsable_41 rfl hi (vp_in_nI hb (by decide)) rfl ?_
      refine q_bipush hC dX3_deriveUsable_42 (v := 45) (by decide) rfl ?_
      refine q_icmp_ne hC dX3_deriveUsable_44 (t := 51) (n := 47) (by decide) rfl (fun h44 => ?_) (fun h44 => ?_)
      · refine q_iload_n hC 3 dX3_deriveUsable_51 rfl rfl ?_
        refine q_ior hC dX3_deriveUsable_52 rfl ?_
        refine q_put_i hC fp_X3_138 dX3_deriveUsable_53 rfl rfl (Nat.le_of_ble_eq_true rfl) rfl rfl hi rfl ?_
        exact J56 _ (z_ui_kn hI0 hb (z_bt_m6 hb) (fun _ => rfl))
      · refine q_iconst hC dX3_deriveUsable_47 (v := 0) (by decide) rfl ?_
        refine q_goto hC dX3_deriveUsable_48 (n := 52) (by decide) ?_
        refine q_ior hC dX3_deriveUsable_52 rfl ?_
        refine q_put_i hC fp_X3_138 dX3_deriveUsable_53 rfl rfl (Nat.le_of_ble_eq_true rfl) rfl rfl hi rfl ?_
        have hk : S 10 i b = 45 := by
          rw [← ec, ← hI0.1 10 i (by omega)]
          exact h44
        exact J56 _ (z_ui_kn hI0 hb z_m6_0 (fun h => absurd hk (z_uc0 h)))
  show qV Γ _ _ 0 [(0, .ref (q_ad Γ 17 i)), (1, .ref (q_ad Γ 1 i))] [] S (0, 0)
  refine q_aload_n hC 0 dX3_deriveUsable_0 rfl rfl ?_
  refine q_get_f hC f_X3_40 dX3_deriveUsable_1 rfl rfl hi rfl ?_
  refine q_iconst hC dX3_deriveUsable_4 (v := 0) (by decide) rfl ?_
  refine q_callS hC (c_J7_fill_53178 (q_hD hC)) m_J7_fill_53178 lk_X3_84 dX3_deriveUsable_5 (26, i, 0) rfl rfl (Nat.le_of_ble_eq_true rfl) ⟨⟨by decide, by decide⟩, by decide, by decide⟩ rfl (k' := (0, 0)) rfl ⟨Or.inr (Or.inr rfl), hi⟩ (fun v S' hp => ?_)
  obtain ⟨rfl, f1, f2⟩ := hp
  have f1 : ∀ k' i', ¬ (k' = 26 ∧ i' = i) → S' k' i' = S k' i' := f1
  have f2 : ∀ p, p < 9 → S' 26 i p = 0 := f2
  show qV Γ _ _ 8 _ _ _ _
  refine q_aload_n hC 0 dX3_deriveUsable_8 rfl rfl ?_
  refine q_iconst hC dX3_deriveUsable_9 (v := 0) (by decide) rfl ?_
  refine q_put_i hC fp_X3_138 dX3_deriveUsable_10 rfl rfl (Nat.le_of_ble_eq_true rfl) rfl rfl hi rfl ?_
  refine q_iconst hC dX3_deriveUsable_13 (v := 0) (by decide) rfl ?_
  refine q_istore_n hC dX3_deriveUsable_14 (by decide) (ls' := [(0, _), (1, _), (2, _)]) rfl rfl ?_
  exact L 30 0 _ (by omega) (z_ui_0 f1 f2)
