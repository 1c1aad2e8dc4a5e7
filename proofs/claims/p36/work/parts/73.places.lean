-- printed by wip/p36/gen_n3.py
set_option maxHeartbeats 4000000 in
set_option maxRecDepth 100000 in
theorem n_mach {cy : Nat → ClassId} {h : Nat} {w : va_W} (hp : po_X5 cy h w) : ∃ (a : Nat → Nat) (g : Nat → Nat → Int32), a 0 = h ∧ w.length = 27 ∧ (∀ (ad : Nat → Nat → Nat) (i : Nat), (∀ k, k < 27 → ad k i = a k) → ∀ k, k < 27 → w[k]? = some (a k, q_enc ad cy (g k) k i)) ∧ ∀ (S : qM) (i : Nat), (∀ k, k < 27 → S k i = g k) → S 0 i 2 = 0 ∧ z_J S i := by
  obtain ⟨m5, m16, w1, w2, ⟨l6, l13, l20, l27, l34, l41, l48, l54, l65, w3, w4, f, g, ⟨a7, a15, a23, f1, g1, hf1, hg1, rfl⟩, ⟨b7, b15, b23, f2, g2, hf2, hg2, rfl⟩, hf, hg, rfl⟩, ⟨c7, c15, c23, c31, c39, c47, c55, c63, c73, rfl⟩, rfl⟩ := hp
  refine ⟨fun k => [h, m5, l6, l13, l20, l27, l34, l41, l48, l54, a7, a15, a23, l65, b7, b15, b23, m16, c7, c15, c23, c31, c39, c47, c55, c63, c73].getD k 0, fun k => if k = 0 then (fun j => if j = 3 then -1 else if j = 5 then -1 else 0) else if k = 2 then f else if k = 7 then g else if k = 10 then f1 else if k = 11 then g1 else if k = 14 then f2 else if k = 15 then g2 else fun _ => 0, rfl, rfl, fun ad i had k hk => ?_, fun S i hS => ?_⟩
  · rcases (by omega : k = 0 ∨ k = 1 ∨ k = 2 ∨ k = 3 ∨ k = 4 ∨ k = 5 ∨ k = 6 ∨ k = 7 ∨ k = 8 ∨ k = 9 ∨ k = 10 ∨ k = 11 ∨ k = 12 ∨ k = 13 ∨ k = 14 ∨ k = 15 ∨ k = 16 ∨ k = 17 ∨ k = 18 ∨ k = 19 ∨ k = 20 ∨ k = 21 ∨ k = 22 ∨ k = 23 ∨ k = 24 ∨ k = 25 ∨ k = 26) with rfl | rfl | rfl | rfl | rfl | rfl | rfl | rfl | rfl | rfl | rfl | rfl | rfl | rfl | rfl | rfl | rfl | rfl | rfl | rfl | rfl | rfl | rfl | rfl | rfl | rfl | rfl
    · show _ = some (_, Sum.inr (4, [Value.ref (ad 1 i), Value.ref (ad 17 i), Value.int 0, Value.int (-1), Value.int 0, Value.int (-1)]))
      rw [had 1 (by decide), had 17 (by decide)]; rfl
    · show _ = some (_, Sum.inr (1, [Value.ref (ad 2 i), Value.ref (ad 3 i), Value.ref (ad 4 i), Value.ref (ad 5 i), Value.ref (ad 6 i), Value.ref (ad 7 i), Value.ref (ad 8 i), Value.ref (ad 9 i), Value.ref (ad 13 i)]))
      rw [had 2 (by decide), had 3 (by decide), had 4 (by decide), had 5 (by decide), had 6 (by decide), had 7 (by decide), had 8 (by decide), had 9 (by decide), had 13 (by decide)]; rfl
    · rfl
    · rfl
    · rfl
    · rfl
    · rfl
    · rfl
    · rfl
    · show _ = some (_, Sum.inr (5, [Value.ref (ad 10 i), Value.ref (ad 11 i), Value.ref (ad 12 i)]))
      rw [had 10 (by decide), had 11 (by decide), had 12 (by decide)]; rfl
    · rfl
    · rfl
    · rfl
    · show _ = some (_, Sum.inr (5, [Value.ref (ad 14 i), Value.ref (ad 15 i), Value.ref (ad 16 i)]))
      rw [had 14 (by decide), had 15 (by decide), had 16 (by decide)]; rfl
    · rfl
    · rfl
    · rfl
    · show _ = some (_, Sum.inr (2, [Value.int 0, Value.int 0, Value.ref (ad 18 i), Value.ref (ad 19 i), Value.ref (ad 20 i), Value.ref (ad 21 i), Value.ref (ad 22 i), Value.ref (ad 23 i), Value.ref (ad 24 i), Value.ref (ad 25 i), Value.int 0, Value.int 0, Value.int 0, Value.ref (ad 26 i)]))
      rw [had 18 (by decide), had 19 (by decide), had 20 (by decide), had 21 (by decide), had 22 (by decide), had 23 (by decide), had 24 (by decide), had 25 (by decide), had 26 (by decide)]; rfl
    · rfl
    · rfl
    · rfl
    · rfl
    · rfl
    · rfl
    · rfl
    · rfl
    · rfl
  · have e : ∀ k, k < 27 → S k i = _ := hS
    have z0 : ∀ x : Int32, x = 0 → z_v5 x := fun x hx => Or.inr ⟨0, by decide, hx⟩
    have z6 : ∀ x : Int32, x = 0 → z_v6 x := fun x hx => Or.inr ⟨0, by decide, hx⟩
    have c : ∀ k, k < 27 → ¬ k = 0 → ¬ k = 2 → ¬ k = 7 → ¬ k = 10 → ¬ k = 11 → ¬ k = 14 → ¬ k = 15 → ∀ p, S k i p = 0 := by
      intro k hk h0 h2 h7 h10 h11 h14 h15 p
      rw [e k hk]
      simp only [if_neg h0, if_neg h2, if_neg h7, if_neg h10, if_neg h11, if_neg h14, if_neg h15]
    have s0 : S 0 i = fun j => if j = 3 then -1 else if j = 5 then -1 else 0 := e 0 (by decide)
    have s2 : S 2 i = f := e 2 (by decide)
    have s7 : S 7 i = g := e 7 (by decide)
    have s10 : S 10 i = f1 := e 10 (by decide)
    have s11 : S 11 i = g1 := e 11 (by decide)
    have s14 : S 14 i = f2 := e 14 (by decide)
    have s15 : S 15 i = g2 := e 15 (by decide)
    have hsup : z_sups S i := fun t ht => Or.inl (by rw [s7]; exact hg t ht)
    refine ⟨by rw [s0]; rfl, ⟨?_, ?_, ?_, hsup, ?_, ?_, ?_, ?_⟩, ⟨hsup, ?_, ?_, ?_, ?_, ⟨?_, ?_, ?_⟩, ?_⟩, ?_⟩
    · intro t ht; rw [s2]; exact Or.inl (hf t ht)
    · intro t ht; exact ⟨Or.inl (c 3 (by decide) (by decide) (by decide) (by decide) (by decide) (by decide) (by decide) (by decide) t), Or.inl (c 4 (by decide) (by decide) (by decide) (by decide) (by decide) (by decide) (by decide) (by decide) t), Or.inl (c 5 (by decide) (by decide) (by decide) (by decide) (by decide) (by decide) (by decide) (by decide) t)⟩
    · intro t ht; exact Or.inl (c 6 (by decide) (by decide) (by decide) (by decide) (by decide) (by decide) (by decide) (by decide) t)
    · intro t ht; rw [c 8 (by decide) (by decide) (by decide) (by decide) (by decide) (by decide) (by decide) (by decide) t]; exact ⟨0, by decide, rfl⟩
    · intro p hp; rw [s10, s11]; exact Or.inl ⟨hf1 p hp, hg1 p hp⟩
    · intro p hp; rw [s14, s15]; exact Or.inl ⟨hf2 p hp, hg2 p hp⟩
    · intro p hp; rw [c 12 (by decide) (by decide) (by decide) (by decide) (by decide) (by decide) (by decide) (by decide) p, c 16 (by decide) (by decide) (by decide) (by decide) (by decide) (by decide) (by decide) (by decide) p]; decide
    · intro p hp; exact z0 _ (c 19 (by decide) (by decide) (by decide) (by decide) (by decide) (by decide) (by decide) (by decide) p)
    · intro p hp; exact z0 _ (c 20 (by decide) (by decide) (by decide) (by decide) (by decide) (by decide) (by decide) (by decide) p)
    · intro p hp; exact z0 _ (c 23 (by decide) (by decide) (by decide) (by decide) (by decide) (by decide) (by decide) (by decide) p)
    · intro p hp; exact Or.inr ⟨0, by decide, c 24 (by decide) (by decide) (by decide) (by decide) (by decide) (by decide) (by decide) (by decide) p⟩
    · intro p hp; exact z6 _ (c 23 (by decide) (by decide) (by decide) (by decide) (by decide) (by decide) (by decide) (by decide) p)
    · intro p hp; rw [c 24 (by decide) (by decide) (by decide) (by decide) (by decide) (by decide) (by decide) (by decide) p]; exact Or.inr ⟨0, by decide, rfl⟩
    · intro p hp; exact z0 _ (c 25 (by decide) (by decide) (by decide) (by decide) (by decide) (by decide) (by decide) (by decide) p)
    · rw [s0]; exact Or.inl rfl
    · intro p hp; exact z6 _ (c 20 (by decide) (by decide) (by decide) (by decide) (by decide) (by decide) (by decide) (by decide) p)
theorem n_cli {cy : Nat → ClassId} {h : Nat} {w : va_W} (hp : po_X0 cy h w) : ∃ (a : Nat → Nat) (g : Nat → Nat → Int32), a 0 = h ∧ w.length = 6 ∧ ∀ (ad : Nat → Nat → Nat) (i : Nat), (∀ k, k < 6 → ad (27 + k) i = a k) → ∀ k, k < 6 → w[k]? = some (a k, q_enc ad cy (g k) (27 + k) i) := by
  obtain ⟨q5, q23, q31, q39, q47, w1, hw1, rfl⟩ := hp
  obtain rfl : w1 = _ := hw1
  refine ⟨fun k => [h, q5, q23, q31, q39, q47].getD k 0, fun k => if k = 1 then (fun j => if j = 1 then -1 else if j = 3 then -1 else 0) else fun _ => 0, rfl, rfl, fun ad i had k hk => ?_⟩
  rcases (by omega : k = 0 ∨ k = 1 ∨ k = 2 ∨ k = 3 ∨ k = 4 ∨ k = 5) with rfl | rfl | rfl | rfl | rfl | rfl
  · show _ = some (_, Sum.inr (0, [Value.ref (ad 28 i), Value.int 0, Value.ref (ad 29 i), Value.ref (ad 30 i), Value.ref (ad 31 i), Value.ref (ad 32 i)]))
    rw [had 1 (by decide), had 2 (by decide), had 3 (by decide), had 4 (by decide), had 5 (by decide)]; rfl
  · rfl
  · rfl
  · rfl
  · rfl
  · rfl
theorem n_run {cy : Nat → ClassId} {h : Nat} {w : va_W} (hp : po_X8 cy h w) : ∃ (a : Nat → Nat) (g : Nat → Nat → Int32), a 0 = h ∧ w.length = 2 ∧ ∀ (ad : Nat → Nat → Nat) (i : Nat), (∀ k, k < 2 → ad (33 + k) i = a k) → ∀ k, k < 2 → w[k]? = some (a k, q_enc ad cy (g k) (33 + k) i) := by
  obtain ⟨q23, rfl⟩ := hp
  refine ⟨fun k => [h, q23].getD k 0, fun k => if k = 0 then (fun j => if j = 2 then 45 else 0) else fun _ => 0, rfl, rfl, fun ad i had k hk => ?_⟩
  rcases (by omega : k = 0 ∨ k = 1) with rfl | rfl
  · show _ = some (_, Sum.inr (7, [Value.int 0, Value.int 0, Value.int 45, Value.ref (ad 34 i)]))
    rw [had 1 (by decide)]; rfl
  · rfl
