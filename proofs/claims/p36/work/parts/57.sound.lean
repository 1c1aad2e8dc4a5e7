/-! ===== THE ROWS OF FITTING, as they grow ===== -/
def z_st (B T : qM) (i : Nat) : Prop := (¬ T 0 i 2 = 0 ∧ (T 0 i 3 = -1 → z_lib B i ∧ z_cur B T i)) ∨ (T 0 i 2 = 0 ∧ z_J T i)
def z_frow (B T : qM) (x n : Nat) : Prop := ∃ w, w < 16 ∧ T 39 0 x = nI w ∧ ∀ c, c < 4 → (¬ z_has (nI w) (nI c) = 0 ↔ c < n ∧ z_rdy T x ∧ z_rdy T c ∧ z_Fit B x c)
def z_sH (B T : qM) (x : Nat) : Prop := (∀ i, i < 4 → z_st B T i) ∧ z_rdy T 0 ∧ (∀ c, c < 4 → 1 ≤ x → ¬ T 0 c 2 = 0) ∧ ∀ x', x' < x → z_frow B T x' 4
def z_sI (B T : qM) (x y : Nat) : Prop := (∀ i, i < 4 → z_st B T i) ∧ z_rdy T 0 ∧ (∀ c, c < 4 → (c < y ∨ 1 ≤ x) → ¬ T 0 c 2 = 0) ∧ (∀ x', x' < x → z_frow B T x' 4) ∧ z_frow B T x y
theorem z_st_rdy {B T : qM} {i : Nat} (h : z_st B T i) (hr : z_rdy T i) : z_lib B i ∧ z_cur B T i := by
  rcases h with h | h
  · exact h.2 hr.2
  · exact absurd h.1 hr.1
theorem z_frow_out {B T U : qM} {x n : Nat} (h39 : U 39 0 x = T 39 0 x) (hr : ∀ i, i < 4 → (z_rdy U i ↔ z_rdy T i)) (hx : x < 4) (h : z_frow B T x n) : z_frow B U x n := by
  obtain ⟨w, hw, e, hc⟩ := h
  refine ⟨w, hw, h39.trans e, fun c hc4 => ?_⟩
  rw [hc c hc4, hr x hx, hr c hc4]
theorem z_sI_out {B T U : qM} {x y : Nat} (hx : x < 4) (hst : ∀ i, i < 4 → z_st B U i) (h39 : U 39 0 = T 39 0) (h2 : ∀ i, i < 4 → U 0 i 2 = T 0 i 2 ∧ U 0 i 3 = T 0 i 3) (h : z_sI B T x y) : z_sI B U x y := by
  obtain ⟨a1, a2, a3, a4, a5⟩ := h
  have hr : ∀ i, i < 4 → (z_rdy U i ↔ z_rdy T i) := fun i hi => by unfold z_rdy; rw [(h2 i hi).1, (h2 i hi).2]
  refine ⟨hst, (hr 0 (by omega)).mpr a2, fun c hc h => by rw [(h2 c hc).1]; exact a3 c hc h, fun x' hx' => z_frow_out (by rw [h39]) hr (by omega) (a4 x' hx'), z_frow_out (by rw [h39]) hr hx a5⟩
theorem z_sI_skip {B T : qM} {x y : Nat} (h : z_sI B T x y) (hn : ¬ (z_rdy T x ∧ z_rdy T y ∧ z_Fit B x y)) (hy : ¬ T 0 y 2 = 0) : z_sI B T x (y + 1) := by
  obtain ⟨a1, a2, a3, a4, w, hw, e, hc⟩ := h
  refine ⟨a1, a2, fun c hc4 h => ?_, a4, w, hw, e, fun c hc4 => ?_⟩
  · by_cases ec : c = y
    · subst ec; exact hy
    · exact a3 c hc4 (by omega)
  · rw [hc c hc4]
    constructor
    · rintro ⟨h1, h2⟩; exact ⟨by omega, h2⟩
    · rintro ⟨h1, h2⟩
      by_cases ec : c = y
      · subst ec; exact absurd h2 hn
      · exact ⟨by omega, h2⟩
theorem z_bit16 : ∀ w, w < 16 → ∀ y, y < 4 → ∃ v, v < 16 ∧ (nI w ||| ((1 : Int32) <<< (nI y &&& 31))) = nI v ∧ ∀ c, c < 4 → (¬ z_has (nI v) (nI c) = 0 ↔ (c = y ∨ ¬ z_has (nI w) (nI c) = 0)) := by
  have key : ∀ w, w < 16 → ∀ y, y < 4 → (nI w ||| ((1 : Int32) <<< (nI y &&& 31))) = nI (w ||| 2 ^ y) ∧ (w ||| 2 ^ y) < 16 ∧ ∀ c, c < 4 → (¬ z_has (nI (w ||| 2 ^ y)) (nI c) = 0 ↔ (c = y ∨ ¬ z_has (nI w) (nI c) = 0)) := by decide +kernel
  intro w hw y hy
  obtain ⟨h1, h2, h3⟩ := key w hw y hy
  exact ⟨_, h2, h1, h3⟩
theorem z_sI_bit {B T : qM} {x y : Nat} (hx : x < 4) (hy : y < 4) (h : z_sI B T x y) (rx : z_rdy T x) (ry : z_rdy T y) (hf : z_Fit B x y) :
    z_sI B (q_up T 39 0 (upd (T 39 0) x (T 39 0 x ||| ((1 : Int32) <<< (nI y &&& 31))))) x (y + 1) := by
  obtain ⟨a1, a2, a3, a4, w, hw, e, hc⟩ := h
  obtain ⟨v, hv, ev, hvc⟩ := z_bit16 w hw y hy
  obtain ⟨U, hU⟩ : ∃ U, U = q_up T 39 0 (upd (T 39 0) x (T 39 0 x ||| ((1 : Int32) <<< (nI y &&& 31)))) := ⟨_, rfl⟩
  rw [← hU]
  have u0 : ∀ k i, k < 27 → U k i = T k i := fun k i hk => by rw [hU]; simp only [q_up]; rw [if_neg (by omega)]
  have hr : ∀ i, z_rdy U i ↔ z_rdy T i := fun i => by unfold z_rdy; rw [u0 0 i (by omega)]
  have hst : ∀ i, i < 4 → z_st B U i := by
    intro i hi
    unfold z_st
    rw [u0 0 i (by omega)]
    rcases a1 i hi with ⟨g1, g2⟩ | ⟨g1, g2⟩
    · exact Or.inl ⟨g1, fun g3 => ⟨(g2 g3).1, z_cur_out (g2 g3).2 (fun k hk => u0 k i hk)⟩⟩
    · exact Or.inr ⟨g1, z_J_of (fun k _ hk => u0 k i hk) (by rw [u0 0 i (by omega)]) (z_raw_congr (fun k _ hk => u0 k i (by omega)) g2.1) g2⟩
  refine ⟨hst, (hr 0).mpr a2, fun c hc4 h => ?_, fun x' hx' => ?_, v, hv, ?_, fun c hc4 => ?_⟩
  · rw [u0 0 c (by omega)]
    by_cases ec : c = y
    · subst ec; exact ry.1
    · exact a3 c hc4 (by omega)
  · refine z_frow_out (T := T) ?_ (fun i _ => hr i) (by omega) (a4 x' hx')
    rw [hU]; simp only [q_up, and_self, if_true, upd]; rw [if_neg (by omega)]
  · rw [hU]; simp only [q_up, and_self, if_true, upd]; rw [e, ev]
  · rw [hvc c hc4, hc c hc4, hr x, hr c]
    constructor
    · rintro (rfl | ⟨h1, h2⟩)
      · exact ⟨by omega, rx, ry, hf⟩
      · exact ⟨by omega, h2⟩
    · rintro ⟨h1, h2⟩
      by_cases ec : c = y
      · exact Or.inl ec
      · exact Or.inr ⟨by omega, h2⟩
theorem z_sI_0 {B T : qM} {x : Nat} (hx : x < 4) (h : z_sH B T x) : z_sI B (q_up T 39 0 (upd (T 39 0) x 0)) x 0 := by
  obtain ⟨a1, a2, a3, a4⟩ := h
  obtain ⟨U, hU⟩ : ∃ U, U = q_up T 39 0 (upd (T 39 0) x 0) := ⟨_, rfl⟩
  rw [← hU]
  have u0 : ∀ k i, k < 27 → U k i = T k i := fun k i hk => by rw [hU]; simp only [q_up]; rw [if_neg (by omega)]
  have hr : ∀ i, z_rdy U i ↔ z_rdy T i := fun i => by unfold z_rdy; rw [u0 0 i (by omega)]
  have hst : ∀ i, i < 4 → z_st B U i := by
    intro i hi
    unfold z_st
    rw [u0 0 i (by omega)]
    rcases a1 i hi with ⟨g1, g2⟩ | ⟨g1, g2⟩
    · exact Or.inl ⟨g1, fun g3 => ⟨(g2 g3).1, z_cur_out (g2 g3).2 (fun k hk => u0 k i hk)⟩⟩
    · exact Or.inr ⟨g1, z_J_of (fun k _ hk => u0 k i hk) (by rw [u0 0 i (by omega)]) (z_raw_congr (fun k _ hk => u0 k i (by omega)) g2.1) g2⟩
  refine ⟨hst, (hr 0).mpr a2, fun c hc4 h => ?_, fun x' hx' => ?_, 0, by omega, ?_, fun c hc4 => ?_⟩
  · rw [u0 0 c (by omega)]; exact a3 c hc4 (by omega)
  · refine z_frow_out (T := T) ?_ (fun i _ => hr i) (by omega) (a4 x' hx')
    rw [hU]; simp only [q_up, and_self, if_true, upd]; rw [if_neg (by omega)]
  · rw [hU]; simp only [q_up, and_self, if_true, upd]; rfl
  · have key : ∀ c, c < 4 → z_has (nI 0) (nI c) = 0 := by decide
    constructor
    · intro h; exact absurd (key c hc4) h
    · rintro ⟨h, -⟩; omega
theorem z_sI_end {B T : qM} {x : Nat} (hx : x < 4) (h : z_sI B T x 4) : z_sH B T (x + 1) := by
  obtain ⟨a1, a2, a3, a4, a5⟩ := h
  refine ⟨a1, a2, fun c hc _ => a3 c hc (by omega), fun x' hx' => ?_⟩
  by_cases e : x' = x
  · subst e; exact a5
  · exact a4 x' (by omega)
theorem z_sI_x {B T : qM} {x y : Nat} (hx : x < 4) (h : z_sI B T x y) : ¬ T 0 x 2 = 0 := by
  by_cases e : x = 0
  · subst e; exact h.2.1.1
  · exact h.2.2.1 x hx (by omega)
/-- law() of the second library -/
theorem z_sI_law {B T U : qM} {x y : Nat} (hx : x < 4) (hy : y < 4) (h : z_sI B T x y) (hq : z_lawQ T U y) : ∃ B', z_sI B' U x y ∧ ¬ U 0 y 2 = 0 := by
  rcases hq with ⟨h2, rfl⟩ | ⟨h2, l1, l2, l3, l4, l5, l6, -, l8⟩
  · exact ⟨B, h, h2⟩
  · have x0 : x = 0 := by
      by_cases e : x = 0
      · exact e
      · exact absurd h2 (h.2.2.1 y hy (by omega))
    subst x0
    obtain ⟨a1, a2, a3, a4, w, hw, ew, hc⟩ := h
    have y0 : ¬ y = 0 := fun e => a2.1 (by rw [e] at h2; exact h2)
    have hJ : z_J T y := by
      rcases a1 y hy with g | g
      · exact absurd h2 g.1
      · exact g.2
    have ui : ∀ i, ¬ i = y → ∀ k, U k i = T k i := fun i hi k => l1 k i (fun z => hi z.2)
    have u39 : U 39 0 = T 39 0 := l1 39 0 (by omega)
    obtain ⟨B', hB'⟩ : ∃ B' : qM, B' = fun k i => if i = y then U k i else B k i := ⟨_, rfl⟩
    have by' : ∀ k, B' k y = U k y := fun k => by rw [hB']; simp only [if_true]
    have bi : ∀ i, ¬ i = y → ∀ k, B' k i = B k i := fun i hi k => by rw [hB']; simp only [if_neg hi]
    have hrN : z_rN U y := fun p hp => by rw [l1 12 y (by omega), l1 16 y (by omega)]; exact hJ.1.2.2.2.2.2.2.2 p hp
    have hcur : ∀ i, ¬ i = y → z_cur B T i → z_cur B' U i := by
      intro i hi g
      refine ⟨?_, z_wf_out (fun k _ => ui i hi k) g.2⟩
      refine (z_bs_out (i := i) (T := B') (U := B) (fun k _ => (bi i hi k).symm)).tr (g.1.tr (z_bs_out (fun k _ => ui i hi k)))
    have hlib : ∀ i, ¬ i = y → z_lib B i → z_lib B' i := by
      intro i hi g
      refine ⟨z_tb_congr (fun k _ _ => bi i hi k) (by rw [bi i hi 0]) g.1, ?_, ?_⟩
      · have := g.2.1
        unfold z_n24 at *
        rw [bi i hi 24]; exact this
      · have := g.2.2
        unfold z_rN at *
        rw [bi i hi 12, bi i hi 16]; exact this
    have hst : ∀ i, i < 4 → z_st B' U i := by
      intro i hi
      by_cases e : i = y
      · subst e
        refine Or.inl ⟨by rw [l3]; decide, fun g => ?_⟩
        refine ⟨⟨z_tb_congr (fun k _ _ => by' k) (by rw [by' 0]) (l6 g), ?_, ?_⟩, z_bs_out (fun k _ => (by' k).symm), l4⟩
        · unfold z_n24 at *
          rw [by' 24]; exact l8
        · unfold z_rN at *
          rw [by' 12, by' 16]; exact hrN
      · unfold z_st
        rw [ui i e 0]
        rcases a1 i hi with ⟨g1, g2⟩ | ⟨g1, g2⟩
        · exact Or.inl ⟨g1, fun g3 => ⟨hlib i e (g2 g3).1, hcur i e (g2 g3).2⟩⟩
        · exact Or.inr ⟨g1, z_J_of (fun k _ hk => ui i e k) (by rw [ui i e 0]) (z_raw_congr (fun k _ hk => ui i e k) g2.1) g2⟩
    have hr : ∀ i, ¬ i = y → (z_rdy U i ↔ z_rdy T i) := fun i hi => by unfold z_rdy; rw [ui i hi 0]
    have hfit : ∀ c, ¬ c = y → (z_Fit B' 0 c ↔ z_Fit B 0 c) := by
      intro c hcy
      have b0 : z_bs 0 B B' := z_bs_out (fun k _ => bi 0 (fun e => y0 e.symm) k)
      have bc : z_bs c B B' := z_bs_out (fun k _ => bi c hcy k)
      constructor
      · intro g f L s hX k t m o hv ht
        exact g f L s hX k t m o hv ((z_tells_bs b0 bc hX hv).mpr ht)
      · intro g f L s hX k t m o hv ht
        exact g f L s hX k t m o hv ((z_tells_bs b0 bc hX hv).mp ht)
    refine ⟨B', ⟨hst, (hr 0 (fun e => y0 e.symm)).mpr a2, fun c hc4 g => ?_, fun x' hx' => absurd hx' (by omega), w, hw, by rw [u39]; exact ew, fun c hc4 => ?_⟩, by rw [l3]; decide⟩
    · by_cases e : c = y
      · subst e; rw [l3]; decide
      · rw [ui c e 0]; exact a3 c hc4 g
    · by_cases e : c = y
      · subst e
        rw [hc c hc4]
        constructor
        · rintro ⟨g, -⟩; omega
        · rintro ⟨g, -⟩; omega
      · rw [hc c hc4, hr 0 (fun e => y0 e.symm), hr c e, hfit c e]
/-- a look from the first library to the second -/
theorem z_sI_find {B T U : qM} {x y : Nat} {r : Int32} (hx : x < 4) (hy : y < 4) (h : z_sI B T x y) (rx : z_rdy T x) (ry : z_rdy T y) (hf : z_findP (z_set35 x y T) x y r U) : z_sI B U x y ∧ z_rdy U x ∧ z_rdy U y ∧ z_Told B x y r U ∧ z_lib B x ∧ z_lib B y ∧ z_cur B U x ∧ z_cur B U y := by
  obtain ⟨lx, cx⟩ := z_st_rdy (h.1 x hx) rx
  obtain ⟨ly, cy⟩ := z_st_rdy (h.1 y hy) ry
  obtain ⟨ux, uy, fr, -, ht⟩ := z_look lx ly cx cy hf
  have e2 : ∀ i, i < 4 → U 0 i 2 = T 0 i 2 ∧ U 0 i 3 = T 0 i 3 := by
    intro i hi
    by_cases e : i = x
    · subst e
      rw [ux.1.2.1 2 (by omega) (by omega), ux.1.2.1 3 (by omega) (by omega), cx.1.2.1 2 (by omega) (by omega), cx.1.2.1 3 (by omega) (by omega)]
      exact ⟨rfl, rfl⟩
    · by_cases e' : i = y
      · subst e'
        rw [uy.1.2.1 2 (by omega) (by omega), uy.1.2.1 3 (by omega) (by omega), cy.1.2.1 2 (by omega) (by omega), cy.1.2.1 3 (by omega) (by omega)]
        exact ⟨rfl, rfl⟩
      · rw [fr 0 i (fun _ => ⟨e, e'⟩) (by omega) (by omega) (by omega) (by omega)]
        exact ⟨rfl, rfl⟩
  have ui : ∀ i, ¬ i = x → ¬ i = y → ∀ k, k < 27 → U k i = T k i := fun i h1 h2 k hk => fr k i (fun _ => ⟨h1, h2⟩) (by omega) (by omega) (by omega) (by omega)
  have hst : ∀ i, i < 4 → z_st B U i := by
    intro i hi
    unfold z_st
    rw [(e2 i hi).1, (e2 i hi).2]
    by_cases e : i = x
    · subst e; exact Or.inl ⟨rx.1, fun _ => ⟨lx, ux⟩⟩
    · by_cases e' : i = y
      · subst e'; exact Or.inl ⟨ry.1, fun _ => ⟨ly, uy⟩⟩
      · rcases h.1 i hi with ⟨g1, g2⟩ | ⟨g1, g2⟩
        · exact Or.inl ⟨g1, fun g3 => ⟨(g2 g3).1, z_cur_out (g2 g3).2 (ui i e e')⟩⟩
        · exact Or.inr ⟨g1, z_J_of (fun k _ hk => ui i e e' k hk) (by rw [ui i e e' 0 (by omega)]) (z_raw_congr (fun k _ hk => ui i e e' k (by omega)) g2.1) g2⟩
  refine ⟨z_sI_out hx hst (fr 39 0 (by omega) (by omega) (by omega) (by omega) (by omega)) e2 h, ?_, ?_, ht, lx, ly, ux, uy⟩
  · unfold z_rdy; rw [(e2 x hx).1, (e2 x hx).2]; exact rx
  · unfold z_rdy; rw [(e2 y hy).1, (e2 y hy).2]; exact ry
/-- a run of the least client by both -/
def z_ltP (B S T : qM) (x y : Nat) : Prop := z_cur B T x ∧ z_cur B T y ∧ ∀ k i, (k < 27 → i ≠ x ∧ i ≠ y) → ¬ ((k = 33 ∨ k = 34) ∧ i = 1) → T k i = S k i
theorem z_sI_lt {B T U : qM} {x y : Nat} (hx : x < 4) (hy : y < 4) (h : z_sI B T x y) (rx : z_rdy T x) (ry : z_rdy T y) (cx : z_cur B T x) (cy : z_cur B T y) (lx : z_lib B x) (ly : z_lib B y) (hl : z_ltP B T U x y) : z_sI B U x y ∧ z_rdy U x ∧ z_rdy U y := by
  obtain ⟨ux, uy, fr⟩ := hl
  have e2 : ∀ i, i < 4 → U 0 i 2 = T 0 i 2 ∧ U 0 i 3 = T 0 i 3 := by
    intro i hi
    by_cases e : i = x
    · subst e
      rw [ux.1.2.1 2 (by omega) (by omega), ux.1.2.1 3 (by omega) (by omega), cx.1.2.1 2 (by omega) (by omega), cx.1.2.1 3 (by omega) (by omega)]
      exact ⟨rfl, rfl⟩
    · by_cases e' : i = y
      · subst e'
        rw [uy.1.2.1 2 (by omega) (by omega), uy.1.2.1 3 (by omega) (by omega), cy.1.2.1 2 (by omega) (by omega), cy.1.2.1 3 (by omega) (by omega)]
        exact ⟨rfl, rfl⟩
      · rw [fr 0 i (fun _ => ⟨e, e'⟩) (by omega)]
        exact ⟨rfl, rfl⟩
  have ui : ∀ i, ¬ i = x → ¬ i = y → ∀ k, k < 27 → U k i = T k i := fun i h1 h2 k hk => fr k i (fun _ => ⟨h1, h2⟩) (by omega)
  have hst : ∀ i, i < 4 → z_st B U i := by
    intro i hi
    unfold z_st
    rw [(e2 i hi).1, (e2 i hi).2]
    by_cases e : i = x
    · subst e; exact Or.inl ⟨rx.1, fun _ => ⟨lx, ux⟩⟩
    · by_cases e' : i = y
      · subst e'; exact Or.inl ⟨ry.1, fun _ => ⟨ly, uy⟩⟩
      · rcases h.1 i hi with ⟨g1, g2⟩ | ⟨g1, g2⟩
        · exact Or.inl ⟨g1, fun g3 => ⟨(g2 g3).1, z_cur_out (g2 g3).2 (ui i e e')⟩⟩
        · exact Or.inr ⟨g1, z_J_of (fun k _ hk => ui i e e' k hk) (by rw [ui i e e' 0 (by omega)]) (z_raw_congr (fun k _ hk => ui i e e' k (by omega)) g2.1) g2⟩
  refine ⟨z_sI_out hx hst (fr 39 0 (by omega) (by omega)) e2 h, ?_, ?_⟩
  · unfold z_rdy; rw [(e2 x hx).1, (e2 x hx).2]; exact rx
  · unfold z_rdy; rw [(e2 y hy).1, (e2 y hy).2]; exact ry
/-- fitting goes on -/
theorem z_goes_on {B T : qM} {x y : Nat} (hx : x < 4) (hy : y < 4) (h : z_sH B T 4) (hh : ¬ z_has (T 39 0 x) (nI y) = 0) : T 39 0 y &&& (T 39 0 x ^^^ (-1)) = 0 := by
  obtain ⟨w, hw, ew, hwc⟩ := h.2.2.2 x hx
  obtain ⟨v, hv, ev, hvc⟩ := h.2.2.2 y hy
  rw [ew] at hh
  obtain ⟨-, rx, ry, fxy⟩ := (hwc y hy).mp hh
  rw [ew, ev]
  have key : ∀ w, w < 16 → ∀ v, v < 16 → (∀ c, c < 4 → ¬ z_has (nI v) (nI c) = 0 → ¬ z_has (nI w) (nI c) = 0) → (nI v &&& (nI w ^^^ (-1)) : Int32) = 0 := by decide +kernel
  refine key w hw v hv (fun c hc g => ?_)
  obtain ⟨g1, -, g3, g4⟩ := (hvc c hc).mp g
  exact (hwc c hc).mpr ⟨g1, rx, g3, z_Fit_tr fxy g4⟩
def z_cl1 (S : qM) (f : Nat → Int32) (k t m o : Nat) : Prop := (∀ p, p < 4 → S 28 4 p = f p) ∧ S 27 4 1 = nI 1 ∧ S 29 4 0 = nI k ∧ S 30 4 0 = z_c t ∧ S 31 4 0 = z_c m ∧ S 32 4 0 = z_c o
theorem z_cl1_run {B S : qM} {i L s k t m o : Nat} {f : Nat → Int32} (li : z_lib B i) (ci : z_cur B S i) (hX : z_Xs f L s) (hv : z_V L k t m o) (hc : z_cl1 S f k t m o) :
    z_own S 4 ∧ z_acts S 4 1 ∧ z_runP B S (z_folIt 1 4 i 1 0 (z_f0 1 4 i S)) 1 4 i f 1 := by
  obtain ⟨c1, c2, c3, c4, c5, c6⟩ := hc
  obtain ⟨h1, h2⟩ := z_V_act (z_Xs_L hX) hv
  have ho := z_Xs_own hX
  have hA : z_acts S 4 1 := by
    refine ⟨c2, fun j hj => ?_⟩
    obtain rfl : j = 0 := by omega
    rw [c3, c4, c5, c6]; exact h1
  refine ⟨⟨by rw [c1 0 (by omega)]; exact ho.1, by rw [c1 1 (by omega)]; exact ho.2.1, by rw [c1 3 (by omega)]; exact ho.2.2⟩, hA, ?_⟩
  refine z_run ci.1 ci.2 li.2.1 li.2.2 c1 ho hA (fun j hj => ?_)
  obtain rfl : j = 0 := by omega
  rw [c3, c4, c6]; exact h2
/-- behind the run by the first, and by the second -/
theorem z_cl1_goes {B S T : qM} {i k t m o : Nat} {f : Nat → Int32} (hc : z_cl1 S f k t m o) (hr : z_runP B S T 1 4 i f 1) : (z_pass B i f (nI k) (z_c t) (z_c m) (z_c o) → T 33 1 2 = 45) ∧ (¬ z_pass B i f (nI k) (z_c t) (z_c m) (z_c o) → ¬ T 33 1 2 = 45) ∧ z_cl1 T f k t m o ∧ z_cur B T i := by
  obtain ⟨r1, r2, r3, -, -, w, -, hw⟩ := hr
  obtain ⟨c1, c2, c3, c4, c5, c6⟩ := hc
  have e : ∀ k, 26 < k → k < 33 → T k 4 = S k 4 := fun k h1 h2 => r3 k 4 (by omega) (by omega)
  refine ⟨fun hp => ?_, fun hp => ?_, ⟨fun p hp => by rw [e 28 (by omega) (by omega)]; exact c1 p hp, by rw [e 27 (by omega) (by omega)]; exact c2, by rw [e 29 (by omega) (by omega)]; exact c3, by rw [e 30 (by omega) (by omega)]; exact c4, by rw [e 31 (by omega) (by omega)]; exact c5, by rw [e 32 (by omega) (by omega)]; exact c6⟩, r1, r2⟩
  · rcases hw with hw | ⟨-, -, hw⟩
    · exact hw.1
    · rcases hw with hw | ⟨j, hj, hw⟩
      · exact absurd hp.1 hw
      · obtain rfl : j = 0 := by omega
        rw [c3, c4, c5, c6] at hw
        exact absurd hp hw
  · rcases hw with ⟨-, -, -, hw⟩ | hw
    · have := hw 0 (by omega)
      rw [c3, c4, c5, c6] at this
      exact absurd this hp
    · exact hw.1
