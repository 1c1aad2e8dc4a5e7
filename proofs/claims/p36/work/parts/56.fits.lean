/-! ===== WHAT THE LOOKER'S ANSWER SAYS of all clients of one act ===== -/
/-- X, or none: its cells, the last type of its client, the client's size -/
def z_Xs (f : Nat → Int32) (L s : Nat) : Prop := (f = z_fn ∧ L = 5 ∧ s = 1) ∨ ∃ u p m, u < 6 ∧ p < 16 ∧ m ≤ 6 ∧ f = z_fx u p m ∧ L = 6 ∧ s = z_sz u p + (if m = 0 then 0 else 1)
theorem z_Xs_own {f : Nat → Int32} {L s : Nat} (h : z_Xs f L s) : z_ownf f := by
  rcases h with ⟨rfl, -, -⟩ | ⟨u, p, m, hu, hp, hm, rfl, -, -⟩
  · exact z_fn_own
  · exact z_fx_own (by omega) hm
theorem z_Xs_L {f : Nat → Int32} {L s : Nat} (h : z_Xs f L s) : L = (if f 0 = 0 then 5 else 6) := by
  rcases h with ⟨rfl, rfl, -⟩ | ⟨u, p, m, hu, hp, hm, rfl, rfl, -⟩
  · rfl
  · rfl
theorem z_sz_r : ∀ u, u < 6 → ∀ p, p < 16 → 2 ≤ z_sz u p ∧ z_sz u p ≤ 5 := by decide
theorem z_Xs_sz {f : Nat → Int32} {L s : Nat} (h : z_Xs f L s) : 1 ≤ s ∧ s ≤ 6 := by
  rcases h with ⟨-, -, rfl⟩ | ⟨u, p, m, hu, hp, hm, -, -, rfl⟩
  · exact ⟨by omega, by omega⟩
  · have := z_sz_r u hu p hp
    split <;> omega
/-- no client of one act tells; none of a lesser size does -/
def z_Fit (S : qM) (a b : Nat) : Prop := ∀ f L s, z_Xs f L s → ∀ k t m o, z_V L k t m o → ¬ z_tells S a b f (nI k) (z_c t) (z_c m) (z_c o)
def z_Min (S : qM) (a b n : Nat) : Prop := ∀ f L s, z_Xs f L s → s < n → ∀ k t m o, z_V L k t m o → ¬ z_tells S a b f (nI k) (z_c t) (z_c m) (z_c o)
theorem z_Min_of {S : qM} {a b n : Nat} (ta : z_tb S a) (tb : z_tb S b) (h1 : z_no S a b z_fn) (hs : ∀ s', 2 ≤ s' → s' < n → z_NoS S a b s') : z_Min S a b n := by
  intro f L s hX hn k t m o hv
  rcases hX with ⟨rfl, rfl, rfl⟩ | ⟨u, p, mm, hu, hp, hm, rfl, rfl, rfl⟩
  · exact z_comp1 ta h1 hv
  · have hz := z_sz_r u hu p hp
    by_cases e : mm = 0
    · subst e
      rw [if_pos rfl] at hn
      exact z_comp2 ta tb h1 hu hp (hs _ hz.1 (by omega)) hv
    · rw [if_neg e] at hn
      obtain ⟨q, rfl⟩ : ∃ q, mm = q + 1 := ⟨mm - 1, by omega⟩
      exact z_comp3 ta tb h1 hu hp (by omega) (hs _ hz.1 (by omega)) (hs _ (by omega) (by omega)) hv
theorem z_E_V {S : qM} {f : Nat → Int32} {a L k t m o : Nat} {br : Int32} (hL : L = if f 0 = 0 then 5 else 6) (h : z_E (z_put S f) a br k t m o) : z_V L k t m o := by
  have h28 : z_put S f 28 5 0 = f 0 := by rw [(z_put_o (S := S) (f := f)).2]
  have hX : f 0 = 0 → ¬ nI k = 4 := fun e => (z_E_X (by rw [h28]; exact e) h).2.2
  obtain ⟨hk, ⟨h1, h2⟩, ⟨h3, h4, -⟩, h5, h6⟩ := h
  have hl : z_lt9 (z_put S f) + 1 = L := by
    unfold z_lt9
    rw [h28, hL]
    split <;> rfl
  refine ⟨hk, ?_, ?_, ?_, fun e e4 => ?_⟩
  · unfold z_ts at h1
    unfold z_te at h2
    split
    · rename_i e; rw [if_pos e] at h2; omega
    · rename_i e; rw [if_neg e] at h1 h2; omega
  · unfold z_ms at h3
    unfold z_me at h4
    split
    · rename_i e; rw [if_pos e] at h4; omega
    · rename_i e; rw [if_neg e] at h3 h4; omega
  · unfold z_os at h5
    unfold z_oe at h6
    split
    · rename_i e; rw [if_pos e] at h6; omega
    · rename_i e; rw [if_neg e] at h5 h6; omega
  · subst e4
    have f0 : f 0 = 0 := by
      by_cases e0 : f 0 = 0
      · exact e0
      · rw [if_neg e0] at hL; omega
    exact hX f0 rfl
theorem z_rest_sz : ∀ s, s < 7 → ∀ u, u < 6 → ∀ p, p < 16 → (z_rest s u p = 0 → s = z_sz u p) ∧ (z_rest s u p = 1 → s = z_sz u p + 1) := by decide +kernel
/-- what a look tells -/
def z_Told (S : qM) (a b : Nat) (r : Int32) (T : qM) : Prop := (r = 0 ∧ z_Fit S a b) ∨
  ∃ s, 1 ≤ s ∧ s ≤ 6 ∧ r = nI s ∧ z_Min S a b s ∧ ∃ f L k t m o, z_Xs f L s ∧ z_V L k t m o ∧ z_tells S a b f (nI k) (z_c t) (z_c m) (z_c o) ∧ z_found T f k t m o
theorem z_told {S T : qM} {a b : Nat} {r : Int32} (ta : z_tb S a) (tb : z_tb S b) (h : z_findP S a b r T) : z_Told S a b r T := by
  obtain ⟨-, ⟨hr, h1, hs⟩ | ⟨s, hs1, hs6, hr, h⟩⟩ := h
  · refine Or.inl ⟨hr, fun f L s hX => ?_⟩
    have := z_Xs_sz hX
    exact z_Min_of (n := 7) ta tb h1 (fun s' h2 h7 => hs s' h2 (by omega)) f L s hX (by omega)
  · refine Or.inr ⟨s, hs1, hs6, hr, ?_⟩
    rcases h with ⟨rfl, k, t, m, o, hE, ht, hf⟩ | ⟨h2, ⟨u, p, mm, k, t, m, o, hu, hp, hc, hE, ht, hf⟩, h1, hs⟩
    · refine ⟨fun f L s hX hn => absurd hn (by have := z_Xs_sz hX; omega), z_fn, 5, k, t, m, o, Or.inl ⟨rfl, rfl, rfl⟩, z_E_V rfl hE, ht, hf⟩
    · refine ⟨z_Min_of ta tb h1 hs, z_fx u p mm, 6, k, t, m, o, ?_, z_E_V rfl hE, ht, hf⟩
      obtain ⟨g1, g2⟩ := z_rest_sz s (by omega) u hu p hp
      rcases hc.2.1 with ⟨e1, e2⟩ | ⟨e1, e2, e3⟩
      · exact Or.inr ⟨u, p, mm, hu, hp, by omega, rfl, rfl, by rw [if_pos e2]; exact g1 e1⟩
      · exact Or.inr ⟨u, p, mm, hu, hp, e3, rfl, rfl, by rw [if_neg (by omega)]; exact g2 e1⟩
/-! .. of the machines' own cells as they were -/
theorem z_tb_bs {S T : qM} {i : Nat} (hb : z_bs i S T) (hw : z_wf T i) (h : z_tb S i) : z_tb T i := by
  obtain ⟨b1, b2, b3, b4⟩ := hb
  have e : ∀ k, 0 < k → k < 27 → ¬ (k = 18 ∨ k = 19 ∨ k = 20 ∨ k = 23 ∨ k = 24 ∨ k = 25) → T k i = S k i := b1
  refine ⟨hw, ?_, ⟨?_, ?_⟩, ?_, ?_⟩
  · have := h.2.1
    unfold z_use at *
    rw [e 10 (by omega) (by omega) (by omega), e 11 (by omega) (by omega) (by omega), e 14 (by omega) (by omega) (by omega), e 15 (by omega) (by omega) (by omega), e 26 (by omega) (by omega) (by omega)]
    exact this
  · rw [e 17 (by omega) (by omega) (by omega)]; exact h.2.2.1.1
  · intro r q hr hq hh
    rw [e 10 (by omega) (by omega) (by omega), b4 23 (by omega) (r * 6 + q) (by omega)] at hh
    rw [e 17 (by omega) (by omega) (by omega)]
    exact h.2.2.1.2 r q hr hq hh
  · have := h.2.2.2.1
    unfold z_ext z_af at *
    rw [e 2 (by omega) (by omega) (by omega), e 3 (by omega) (by omega) (by omega), e 5 (by omega) (by omega) (by omega), e 17 (by omega) (by omega) (by omega)]
    exact this
  · intro t ht
    rw [b3 t (by omega)]
    exact h.2.2.2.2 t ht
theorem z_V_act {L k t m o : Nat} {f : Nat → Int32} (hL : L = if f 0 = 0 then 5 else 6) (hv : z_V L k t m o) : z_actR (nI k) (z_c t) (z_c m) (z_c o) ∧ z_actX f (nI k) (z_c t) (z_c o) :=
  ⟨(z_V_r (by rw [hL]; split <;> omega) hv).2.2.2, z_pass_actX hL hv⟩
theorem z_tells_bs {S T : qM} {a b L s k t m o : Nat} {f : Nat → Int32} (ha : z_bs a S T) (hb : z_bs b S T) (hX : z_Xs f L s) (hv : z_V L k t m o) : z_tells T a b f (nI k) (z_c t) (z_c m) (z_c o) ↔ z_tells S a b f (nI k) (z_c t) (z_c m) (z_c o) := by
  obtain ⟨h1, h2⟩ := z_V_act (z_Xs_L hX) hv
  unfold z_tells
  rw [z_pass_bs ha (z_Xs_own hX) h1 h2, z_pass_bs hb (z_Xs_own hX) h1 h2]
/-- a library that is lawful, as it was when its tables were made; as it is -/
def z_lib (B : qM) (i : Nat) : Prop := z_tb B i ∧ z_n24 B i ∧ z_rN B i
def z_cur (B T : qM) (i : Nat) : Prop := z_bs i B T ∧ z_wf T i
theorem z_cur_out {B T U : qM} {i : Nat} (h : z_cur B T i) (hk : ∀ k, k < 27 → U k i = T k i) : z_cur B U i := ⟨h.1.tr (z_bs_out hk), z_wf_out hk h.2⟩
theorem z_set35_o {a b : Nat} {S : qM} : ∀ k i, ¬ (k = 35 ∧ i = 0) → z_set35 a b S k i = S k i := fun k i h => by unfold z_set35; simp only [q_up, if_neg h]
/-- what a look leaves alone -/
def z_lkf (a b : Nat) (S T : qM) : Prop := ∀ k i, (k < 27 → i ≠ a ∧ i ≠ b) → k ≠ 35 → ¬ (k = 28 ∧ (i = 4 ∨ i = 5)) → ¬ (k = 27 ∧ i = 4) → ¬ (28 < k ∧ k < 33 ∧ i = 4) → T k i = S k i
theorem z_look {B S T : qM} {a b : Nat} {r : Int32} (la : z_lib B a) (lb : z_lib B b) (ca : z_cur B S a) (cb : z_cur B S b) (h : z_findP (z_set35 a b S) a b r T) :
    z_cur B T a ∧ z_cur B T b ∧ z_lkf a b S T ∧ z_bool (T 28 5 0) ∧ z_Told B a b r T := by
  have ca' : z_cur B (z_set35 a b S) a := z_cur_out ca (fun k hk => z_set35_o k a (by omega))
  have cb' : z_cur B (z_set35 a b S) b := z_cur_out cb (fun k hk => z_set35_o k b (by omega))
  have hT := z_told (z_tb_bs ca'.1 ca'.2 la.1) (z_tb_bs cb'.1 cb'.2 lb.1) h
  obtain ⟨⟨⟨f1, f2, f3, f4⟩, w1, w2, hbo⟩, -⟩ := h
  refine ⟨⟨ca'.1.tr f1, w1⟩, ⟨cb'.1.tr f2, w2⟩, fun k i h1 h2 h3 h4 h5 => by rw [f3 k i h1 h2 h3 h4 h5, z_set35_o k i (by omega)], hbo, ?_⟩
  rcases hT with ⟨hr, hf⟩ | ⟨s, s1, s6, hr, hm, f, L, k, t, m, o, hX, hv, ht, hf⟩
  · exact Or.inl ⟨hr, fun f L s hX k t m o hv ht => hf f L s hX k t m o hv ((z_tells_bs ca'.1 cb'.1 hX hv).mpr ht)⟩
  · exact Or.inr ⟨s, s1, s6, hr, fun f L s' hX hs k t m o hv ht => hm f L s' hX hs k t m o hv ((z_tells_bs ca'.1 cb'.1 hX hv).mpr ht), f, L, k, t, m, o, hX, hv, (z_tells_bs ca'.1 cb'.1 hX hv).mp ht, hf⟩
theorem z_Fit_tr {B : qM} {a b c : Nat} (h1 : z_Fit B a b) (h2 : z_Fit B b c) : z_Fit B a c := by
  intro f L s hX k t m o hv ht
  by_cases hb : z_pass B b f (nI k) (z_c t) (z_c m) (z_c o)
  · exact h2 f L s hX k t m o hv ⟨hb, ht.2⟩
  · exact h1 f L s hX k t m o hv ⟨ht.1, hb⟩
theorem z_Told_same {B T : qM} {a : Nat} {r : Int32} (h : z_Told B a a r T) : r = 0 := by
  rcases h with ⟨hr, -⟩ | ⟨s, -, -, -, -, f, L, k, t, m, o, -, -, ht, -⟩
  · exact hr
  · exact absurd ht.1 ht.2
