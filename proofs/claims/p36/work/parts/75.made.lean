-- printed by wip/p36/gen_n5.py
theorem n_arr4 {c : ClassId} {F G : Nat → Option Nat} (h : ∀ j, j < 4 → F j = G j) : vp_cell c (4, .inr (.inr (.inr (.inr F)))) = vp_cell c (4, .inr (.inr (.inr (.inr G)))) := by
  rw [vp_cell_q, vp_cell_q]
  unfold arrV
  congr 1
  congr 1
  funext j
  show va_rf (F j.val) = va_rf (G j.val)
  rw [h j.val j.isLt]
theorem n_pool_lt : ∀ x ∈ q_pool, x.1 < 40 ∧ x.2 < q_cnt x.1 := by decide +kernel
set_option maxHeartbeats 4000000 in
set_option maxRecDepth 100000 in
theorem n_made {A : Nat → Prop} {D : va_G} {cy : Nat → ClassId} {h : Nat} {ws : va_W} {H : Heap} (hp : po_X9 cy h ws) (hD : va_D A ws) (hP : va_P D q_cl ws H) : ∃ (ad : Nat → Nat → Nat) (S : qM), q_D ad ∧ (∀ x ∈ q_pool, A (ad x.1 x.2)) ∧ va_P D q_cl (q_W ad cy S) H ∧ ad 36 0 = h ∧ (∀ i, i < 4 → S 0 i 2 = 0 ∧ z_J S i) ∧ S 36 0 8 = 0 := by
  obtain ⟨q6, q14, q23, q32, q38, q49, q60, q94, q94_2, q94_3, q94_4, q120, q120_2, q120_3, q120_4, q147, q147_2, q147_3, q147_4, q147_5, q147_6, q147_7, q147_8, q72, w1, w2, w3, w4, w5, w6, w7, w8, w9, w10, w11, w12, w13, w14, w15, w16, w17, w18, w19, hw1, hw2, hw3, hw4, hw5, hw6, hw7, hw8, hw9, hw10, hw11, hw12, hw13, hw14, hw15, hw16, hw17, hw18, hw19, rfl⟩ := hp
  obtain ⟨r1, s1, er1, -, hr1⟩ := n_run hw1
  obtain ⟨r2, s2, er2, -, hr2⟩ := n_run hw2
  obtain ⟨lc, lo, wc, wo, hlc, hlo, rfl⟩ := hw3
  obtain rfl : wo = _ := hlo
  obtain ⟨al, gl, el, lwc, hal⟩ := n_cli hlc
  obtain ⟨a4, g4, e4, -, hm4, hj4⟩ := n_mach hw4
  obtain ⟨a5, g5, e5, -, hm5, hj5⟩ := n_mach hw5
  obtain ⟨a6, g6, e6, -, hm6, hj6⟩ := n_mach hw6
  obtain ⟨a7, g7, e7, -, hm7, hj7⟩ := n_mach hw7
  obtain ⟨a8, g8, e8, -, hc8⟩ := n_cli hw8
  obtain ⟨a9, g9, e9, -, hc9⟩ := n_cli hw9
  obtain ⟨a10, g10, e10, -, hc10⟩ := n_cli hw10
  obtain ⟨a11, g11, e11, -, hc11⟩ := n_cli hw11
  obtain ⟨ad, had⟩ : ∃ ad : Nat → Nat → Nat, ad = fun k i => if k < 27 then (if i = 0 then a4 k else if i = 1 then a5 k else if i = 2 then a6 k else a7 k) else if k < 33 then (if i = 0 then a8 (k - 27) else if i = 1 then a9 (k - 27) else if i = 2 then a10 (k - 27) else if i = 3 then a11 (k - 27) else if i = 4 then al (k - 27) else lo) else if k < 35 then (if i = 0 then r1 (k - 33) else r2 (k - 33)) else if k = 35 then q60 else if k = 36 then h else if k = 37 then q6 else if k = 38 then q14 else if k = 39 then q72 else if k = 40 then q32 else q23 := ⟨_, rfl⟩
  obtain ⟨S, hS⟩ : ∃ S : qM, S = fun k i => if k < 27 then (if i = 0 then g4 k else if i = 1 then g5 k else if i = 2 then g6 k else g7 k) else if k < 33 then (if i = 0 then g8 (k - 27) else if i = 1 then g9 (k - 27) else if i = 2 then g10 (k - 27) else if i = 3 then g11 (k - 27) else if i = 4 then gl (k - 27) else fun j => if j = 1 then -1 else if j = 3 then -1 else 0) else if k < 35 then (if i = 0 then s1 (k - 33) else s2 (k - 33)) else if k = 35 then (fun j => if j = 2 then -1 else if j = 3 then -1 else if j = 4 then 1048576 else 0) else fun _ => 0 := ⟨_, rfl⟩
  obtain ⟨parts, hparts⟩ : ∃ parts : List va_W, parts = [[(h, .inr (8, [.ref q6, .ref q14, .ref q23, .ref q32, .ref q38, .ref q49, .ref q60, .ref q72, .int 0])), (q6, .inl (cy 3, 4, .inr (.inr (.inr (.inr (va_up (va_up (va_up (va_up (fun _ => none) 0 (some q94)) 1 (some q94_2)) 2 (some q94_3)) 3 (some q94_4))))))), (q14, .inl (cy 4, 4, .inr (.inr (.inr (.inr (va_up (va_up (va_up (va_up (fun _ => none) 0 (some q120)) 1 (some q120_2)) 2 (some q120_3)) 3 (some q120_4))))))), (q23, .inl (cy 3, 8, .inr (.inr (.inr (.inr (va_up (va_up (va_up (va_up (va_up (va_up (va_up (va_up (fun _ => none) 0 (some q147)) 1 (some q147_2)) 2 (some q147_3)) 3 (some q147_4)) 4 (some q147_5)) 5 (some q147_6)) 6 (some q147_7)) 7 (some q147_8))))))), (q32, .inl (cy 0, 24, .inl (fun _ => 0)))], w1, w2, ([(q60, .inr (3, [.ref lc, .ref lo, .null, .null, .int 1048576]))] ++ wc ++ [(lo, .inr (6, [.int 0, .int (-1), .int 0, .int (-1)]))]), [(q72, .inl (cy 0, 4, .inl (fun _ => 0)))], w4, w5, w6, w7, w8, w9, w10, w11, w12, w13, w14, w15, w16, w17, w18, w19] := ⟨_, rfl⟩
  have hfl : [(h, .inr (8, [.ref q6, .ref q14, .ref q23, .ref q32, .ref q38, .ref q49, .ref q60, .ref q72, .int 0])), (q6, .inl (cy 3, 4, .inr (.inr (.inr (.inr (va_up (va_up (va_up (va_up (fun _ => none) 0 (some q94)) 1 (some q94_2)) 2 (some q94_3)) 3 (some q94_4))))))), (q14, .inl (cy 4, 4, .inr (.inr (.inr (.inr (va_up (va_up (va_up (va_up (fun _ => none) 0 (some q120)) 1 (some q120_2)) 2 (some q120_3)) 3 (some q120_4))))))), (q23, .inl (cy 3, 8, .inr (.inr (.inr (.inr (va_up (va_up (va_up (va_up (va_up (va_up (va_up (va_up (fun _ => none) 0 (some q147)) 1 (some q147_2)) 2 (some q147_3)) 3 (some q147_4)) 4 (some q147_5)) 5 (some q147_6)) 6 (some q147_7)) 7 (some q147_8))))))), (q32, .inl (cy 0, 24, .inl (fun _ => 0)))] ++ (w1 ++ w2 ++ ([(q60, .inr (3, [.ref lc, .ref lo, .null, .null, .int 1048576]))] ++ wc ++ [(lo, .inr (6, [.int 0, .int (-1), .int 0, .int (-1)]))]) ++ [(q72, .inl (cy 0, 4, .inl (fun _ => 0)))] ++ w4 ++ w5 ++ w6 ++ w7 ++ w8 ++ w9 ++ w10 ++ w11 ++ w12 ++ w13 ++ w14 ++ w15 ++ w16 ++ w17 ++ w18 ++ w19) = parts.flatten := by
    rw [hparts]
    simp only [List.flatten_cons, List.flatten_nil, List.append_assoc, List.append_nil]
  rw [hfl] at hD hP
  have dm0 : ∀ k, k < 27 → ad k 0 = a4 k ∧ S k 0 = g4 k := fun k hk => by rw [had, hS]; exact ⟨by simp only [if_pos hk]; rfl, by simp only [if_pos hk]; rfl⟩
  have dm1 : ∀ k, k < 27 → ad k 1 = a5 k ∧ S k 1 = g5 k := fun k hk => by rw [had, hS]; exact ⟨by simp only [if_pos hk]; rfl, by simp only [if_pos hk]; rfl⟩
  have dm2 : ∀ k, k < 27 → ad k 2 = a6 k ∧ S k 2 = g6 k := fun k hk => by rw [had, hS]; exact ⟨by simp only [if_pos hk]; rfl, by simp only [if_pos hk]; rfl⟩
  have dm3 : ∀ k, k < 27 → ad k 3 = a7 k ∧ S k 3 = g7 k := fun k hk => by rw [had, hS]; exact ⟨by simp only [if_pos hk]; rfl, by simp only [if_pos hk]; rfl⟩
  have dc0 : ∀ k, k < 6 → ad (27 + k) 0 = a8 k ∧ S (27 + k) 0 = g8 k := fun k hk => by rw [had, hS]; exact ⟨by simp only [if_neg (show ¬ 27 + k < 27 by omega), if_pos (show 27 + k < 33 by omega), Nat.add_sub_cancel_left]; rfl, by simp only [if_neg (show ¬ 27 + k < 27 by omega), if_pos (show 27 + k < 33 by omega), Nat.add_sub_cancel_left]; rfl⟩
  have dc1 : ∀ k, k < 6 → ad (27 + k) 1 = a9 k ∧ S (27 + k) 1 = g9 k := fun k hk => by rw [had, hS]; exact ⟨by simp only [if_neg (show ¬ 27 + k < 27 by omega), if_pos (show 27 + k < 33 by omega), Nat.add_sub_cancel_left]; rfl, by simp only [if_neg (show ¬ 27 + k < 27 by omega), if_pos (show 27 + k < 33 by omega), Nat.add_sub_cancel_left]; rfl⟩
  have dc2 : ∀ k, k < 6 → ad (27 + k) 2 = a10 k ∧ S (27 + k) 2 = g10 k := fun k hk => by rw [had, hS]; exact ⟨by simp only [if_neg (show ¬ 27 + k < 27 by omega), if_pos (show 27 + k < 33 by omega), Nat.add_sub_cancel_left]; rfl, by simp only [if_neg (show ¬ 27 + k < 27 by omega), if_pos (show 27 + k < 33 by omega), Nat.add_sub_cancel_left]; rfl⟩
  have dc3 : ∀ k, k < 6 → ad (27 + k) 3 = a11 k ∧ S (27 + k) 3 = g11 k := fun k hk => by rw [had, hS]; exact ⟨by simp only [if_neg (show ¬ 27 + k < 27 by omega), if_pos (show 27 + k < 33 by omega), Nat.add_sub_cancel_left]; rfl, by simp only [if_neg (show ¬ 27 + k < 27 by omega), if_pos (show 27 + k < 33 by omega), Nat.add_sub_cancel_left]; rfl⟩
  have dc4 : ∀ k, k < 6 → ad (27 + k) 4 = al k ∧ S (27 + k) 4 = gl k := fun k hk => by rw [had, hS]; exact ⟨by simp only [if_neg (show ¬ 27 + k < 27 by omega), if_pos (show 27 + k < 33 by omega), Nat.add_sub_cancel_left]; rfl, by simp only [if_neg (show ¬ 27 + k < 27 by omega), if_pos (show 27 + k < 33 by omega), Nat.add_sub_cancel_left]; rfl⟩
  have dr0 : ∀ k, k < 2 → ad (33 + k) 0 = r1 k ∧ S (33 + k) 0 = s1 k := fun k hk => by rw [had, hS]; exact ⟨by simp only [if_neg (show ¬ 33 + k < 27 by omega), if_neg (show ¬ 33 + k < 33 by omega), if_pos (show 33 + k < 35 by omega), Nat.add_sub_cancel_left]; rfl, by simp only [if_neg (show ¬ 33 + k < 27 by omega), if_neg (show ¬ 33 + k < 33 by omega), if_pos (show 33 + k < 35 by omega), Nat.add_sub_cancel_left]; rfl⟩
  have dr1 : ∀ k, k < 2 → ad (33 + k) 1 = r2 k ∧ S (33 + k) 1 = s2 k := fun k hk => by rw [had, hS]; exact ⟨by simp only [if_neg (show ¬ 33 + k < 27 by omega), if_neg (show ¬ 33 + k < 33 by omega), if_pos (show 33 + k < 35 by omega), Nat.add_sub_cancel_left]; rfl, by simp only [if_neg (show ¬ 33 + k < 27 by omega), if_neg (show ¬ 33 + k < 33 by omega), if_pos (show 33 + k < 35 by omega), Nat.add_sub_cancel_left]; rfl⟩
  have main := n_pool_of (ad := ad) (S := S) (cy := cy) hD hP (fun x hx => ?_)
  · refine ⟨ad, S, main.1, main.2.1, main.2.2, by rw [had]; rfl, fun i hi => ?_, by rw [hS]; rfl⟩
    rcases (by omega : i = 0 ∨ i = 1 ∨ i = 2 ∨ i = 3) with rfl | rfl | rfl | rfl
    · exact hj4 S 0 (fun k hk => (dm0 k hk).2)
    · exact hj5 S 1 (fun k hk => (dm1 k hk).2)
    · exact hj6 S 2 (fun k hk => (dm2 k hk).2)
    · exact hj7 S 3 (fun k hk => (dm3 k hk).2)
  · obtain ⟨k, i⟩ := x
    obtain ⟨hk40, hi⟩ := n_pool_lt (k, i) hx
    have hk40 : k < 40 := hk40
    have hi : i < q_cnt k := hi
    show ∃ (w : va_W) (e : va_E), parts[n_ow k i]? = some w ∧ w[n_lo k i]? = some (ad k i, e) ∧ (va_at D q_cl (ad k i, e) H → va_at D q_cl (ad k i, q_enc ad cy (S k i) k i) H)
    by_cases k27 : k < 27
    · rw [show q_cnt k = 4 from if_pos k27] at hi
      rcases (by omega : i = 0 ∨ i = 1 ∨ i = 2 ∨ i = 3) with rfl | rfl | rfl | rfl
      · exact ⟨w4, _, by rw [show n_ow k 0 = 5 from if_pos k27, hparts]; rfl, by rw [show n_lo k 0 = k from if_pos k27, (dm0 k k27).1]; exact hm4 ad 0 (fun k hk => (dm0 k hk).1) k k27, fun hh => by rw [(dm0 k k27).2]; exact hh⟩
      · exact ⟨w5, _, by rw [show n_ow k 1 = 6 from if_pos k27, hparts]; rfl, by rw [show n_lo k 1 = k from if_pos k27, (dm1 k k27).1]; exact hm5 ad 1 (fun k hk => (dm1 k hk).1) k k27, fun hh => by rw [(dm1 k k27).2]; exact hh⟩
      · exact ⟨w6, _, by rw [show n_ow k 2 = 7 from if_pos k27, hparts]; rfl, by rw [show n_lo k 2 = k from if_pos k27, (dm2 k k27).1]; exact hm6 ad 2 (fun k hk => (dm2 k hk).1) k k27, fun hh => by rw [(dm2 k k27).2]; exact hh⟩
      · exact ⟨w7, _, by rw [show n_ow k 3 = 8 from if_pos k27, hparts]; rfl, by rw [show n_lo k 3 = k from if_pos k27, (dm3 k k27).1]; exact hm7 ad 3 (fun k hk => (dm3 k hk).1) k k27, fun hh => by rw [(dm3 k k27).2]; exact hh⟩
    · by_cases k33 : k < 33
      · obtain ⟨j, rfl⟩ : ∃ j, k = 27 + j := ⟨k - 27, by omega⟩
        have hj : j < 6 := by omega
        have i6 : i < 6 := Nat.lt_of_lt_of_le hi ((show ∀ j, j < 6 → q_cnt (27 + j) ≤ 6 by decide) j hj)
        have i5 : i = 5 → j = 1 := fun e => (show ∀ j, j < 6 → 5 < q_cnt (27 + j) → j = 1 by decide) j hj (by rw [← e]; exact hi)
        rcases (by omega : i = 0 ∨ i = 1 ∨ i = 2 ∨ i = 3 ∨ i = 4 ∨ i = 5) with rfl | rfl | rfl | rfl | rfl | rfl
        · exact ⟨w8, _, by rw [show n_ow (27 + j) 0 = 9 from (show ∀ j, j < 6 → n_ow (27 + j) 0 = 9 by decide) j hj, hparts]; rfl, by rw [show n_lo (27 + j) 0 = j from (show ∀ j, j < 6 → n_lo (27 + j) 0 = j by decide) j hj, (dc0 j hj).1]; exact hc8 ad 0 (fun k hk => (dc0 k hk).1) j hj, fun hh => by rw [(dc0 j hj).2]; exact hh⟩
        · exact ⟨w9, _, by rw [show n_ow (27 + j) 1 = 10 from (show ∀ j, j < 6 → n_ow (27 + j) 1 = 10 by decide) j hj, hparts]; rfl, by rw [show n_lo (27 + j) 1 = j from (show ∀ j, j < 6 → n_lo (27 + j) 1 = j by decide) j hj, (dc1 j hj).1]; exact hc9 ad 1 (fun k hk => (dc1 k hk).1) j hj, fun hh => by rw [(dc1 j hj).2]; exact hh⟩
        · exact ⟨w10, _, by rw [show n_ow (27 + j) 2 = 11 from (show ∀ j, j < 6 → n_ow (27 + j) 2 = 11 by decide) j hj, hparts]; rfl, by rw [show n_lo (27 + j) 2 = j from (show ∀ j, j < 6 → n_lo (27 + j) 2 = j by decide) j hj, (dc2 j hj).1]; exact hc10 ad 2 (fun k hk => (dc2 k hk).1) j hj, fun hh => by rw [(dc2 j hj).2]; exact hh⟩
        · exact ⟨w11, _, by rw [show n_ow (27 + j) 3 = 12 from (show ∀ j, j < 6 → n_ow (27 + j) 3 = 12 by decide) j hj, hparts]; rfl, by rw [show n_lo (27 + j) 3 = j from (show ∀ j, j < 6 → n_lo (27 + j) 3 = j by decide) j hj, (dc3 j hj).1]; exact hc11 ad 3 (fun k hk => (dc3 k hk).1) j hj, fun hh => by rw [(dc3 j hj).2]; exact hh⟩
        · refine ⟨([(q60, .inr (3, [.ref lc, .ref lo, .null, .null, .int 1048576]))] ++ wc ++ [(lo, .inr (6, [.int 0, .int (-1), .int 0, .int (-1)]))]), _, by rw [show n_ow (27 + j) 4 = 3 from (show ∀ j, j < 6 → n_ow (27 + j) 4 = 3 by decide) j hj, hparts]; rfl, by rw [show n_lo (27 + j) 4 = 1 + j from (show ∀ j, j < 6 → n_lo (27 + j) 4 = 1 + j by decide) j hj, (dc4 j hj).1, List.getElem?_append_left (by simp only [List.length_append, List.length_cons, List.length_nil, lwc]; omega), List.getElem?_append_right (by simp only [List.length_cons, List.length_nil]; omega), show 1 + j - [((q60, Sum.inr (3, [Value.ref lc, .ref lo, .null, .null, .int 1048576])) : Nat × va_E)].length = j by simp only [List.length_cons, List.length_nil]; omega]; exact hal ad 4 (fun k hk => (dc4 k hk).1) j hj, fun hh => by rw [(dc4 j hj).2]; exact hh⟩
        · obtain rfl := i5 rfl
          refine ⟨([(q60, .inr (3, [.ref lc, .ref lo, .null, .null, .int 1048576]))] ++ wc ++ [(lo, .inr (6, [.int 0, .int (-1), .int 0, .int (-1)]))]), .inr (6, [.int 0, .int (-1), .int 0, .int (-1)]), by rw [hparts]; rfl, ?_, fun hh => by rw [hS]; exact hh⟩
          show _ = some (ad 28 5, _)
          rw [show ad 28 5 = lo by rw [had]; rfl, show n_lo (27 + 1) 5 = 7 from rfl, List.getElem?_append_right (by simp only [List.length_append, List.length_cons, List.length_nil, lwc]; omega)]
          simp only [List.length_append, List.length_cons, List.length_nil, lwc]
          rfl
      · by_cases k35 : k < 35
        · obtain ⟨j, rfl⟩ : ∃ j, k = 33 + j := ⟨k - 33, by omega⟩
          have hj : j < 2 := by omega
          have i2 : i < 2 := Nat.lt_of_lt_of_le hi ((show ∀ j, j < 2 → q_cnt (33 + j) ≤ 2 by decide) j hj)
          rcases (by omega : i = 0 ∨ i = 1) with rfl | rfl
          · exact ⟨w1, _, by rw [show n_ow (33 + j) 0 = 1 from (show ∀ j, j < 2 → n_ow (33 + j) 0 = 1 by decide) j hj, hparts]; rfl, by rw [show n_lo (33 + j) 0 = j from (show ∀ j, j < 2 → n_lo (33 + j) 0 = j by decide) j hj, (dr0 j hj).1]; exact hr1 ad 0 (fun k hk => (dr0 k hk).1) j hj, fun hh => by rw [(dr0 j hj).2]; exact hh⟩
          · exact ⟨w2, _, by rw [show n_ow (33 + j) 1 = 2 from (show ∀ j, j < 2 → n_ow (33 + j) 1 = 2 by decide) j hj, hparts]; rfl, by rw [show n_lo (33 + j) 1 = j from (show ∀ j, j < 2 → n_lo (33 + j) 1 = j by decide) j hj, (dr1 j hj).1]; exact hr2 ad 1 (fun k hk => (dr1 k hk).1) j hj, fun hh => by rw [(dr1 j hj).2]; exact hh⟩
        · have i1 : i < 1 := Nat.lt_of_lt_of_le hi ((show ∀ k, k < 40 → ¬ k < 35 → q_cnt k ≤ 1 by decide) k hk40 k35)
          obtain rfl : i = 0 := by omega
          have x33 : ad 33 0 = q38 := (dr0 0 (by decide)).1.trans er1
          have x33' : ad 33 1 = q49 := (dr1 0 (by decide)).1.trans er2
          have x27 : ad 27 4 = lc := (dc4 0 (by decide)).1.trans el
          have x28 : ad 28 5 = lo := by rw [had]; rfl
          have x35 : ad 35 0 = q60 := by rw [had]; rfl
          have x37 : ad 37 0 = q6 := by rw [had]; rfl
          have x38 : ad 38 0 = q14 := by rw [had]; rfl
          have x39 : ad 39 0 = q72 := by rw [had]; rfl
          have x40 : ad 40 0 = q32 := by rw [had]; rfl
          have x41 : ad 41 0 = q23 := by rw [had]; rfl
          have x36 : ad 36 0 = h := by rw [had]; rfl
          rcases (by omega : k = 35 ∨ k = 36 ∨ k = 37 ∨ k = 38 ∨ k = 39) with rfl | rfl | rfl | rfl | rfl
          · refine ⟨([(q60, .inr (3, [.ref lc, .ref lo, .null, .null, .int 1048576]))] ++ wc ++ [(lo, .inr (6, [.int 0, .int (-1), .int 0, .int (-1)]))]), _, by rw [hparts]; rfl, by rw [x35]; rfl, fun hh => ?_⟩
            have hq : q_enc ad cy (S 35 0) 35 0 = .inr (3, [.ref (ad 27 4), .ref (ad 28 5), .null, .null, .int 1048576]) := by rw [hS]; rfl
            rw [hq, x27, x28]; exact hh
          · refine ⟨[(h, .inr (8, [.ref q6, .ref q14, .ref q23, .ref q32, .ref q38, .ref q49, .ref q60, .ref q72, .int 0])), (q6, .inl (cy 3, 4, .inr (.inr (.inr (.inr (va_up (va_up (va_up (va_up (fun _ => none) 0 (some q94)) 1 (some q94_2)) 2 (some q94_3)) 3 (some q94_4))))))), (q14, .inl (cy 4, 4, .inr (.inr (.inr (.inr (va_up (va_up (va_up (va_up (fun _ => none) 0 (some q120)) 1 (some q120_2)) 2 (some q120_3)) 3 (some q120_4))))))), (q23, .inl (cy 3, 8, .inr (.inr (.inr (.inr (va_up (va_up (va_up (va_up (va_up (va_up (va_up (va_up (fun _ => none) 0 (some q147)) 1 (some q147_2)) 2 (some q147_3)) 3 (some q147_4)) 4 (some q147_5)) 5 (some q147_6)) 6 (some q147_7)) 7 (some q147_8))))))), (q32, .inl (cy 0, 24, .inl (fun _ => 0)))], _, by rw [hparts]; rfl, by rw [x36]; rfl, fun hh => ?_⟩
            have hq : q_enc ad cy (S 36 0) 36 0 = .inr (8, [.ref (ad 37 0), .ref (ad 38 0), .ref (ad 41 0), .ref (ad 40 0), .ref (ad 33 0), .ref (ad 33 1), .ref (ad 35 0), .ref (ad 39 0), .int 0]) := by rw [hS]; rfl
            rw [hq, x37, x38, x41, x40, x33, x33', x35, x39]; exact hh
          · refine ⟨[(h, .inr (8, [.ref q6, .ref q14, .ref q23, .ref q32, .ref q38, .ref q49, .ref q60, .ref q72, .int 0])), (q6, .inl (cy 3, 4, .inr (.inr (.inr (.inr (va_up (va_up (va_up (va_up (fun _ => none) 0 (some q94)) 1 (some q94_2)) 2 (some q94_3)) 3 (some q94_4))))))), (q14, .inl (cy 4, 4, .inr (.inr (.inr (.inr (va_up (va_up (va_up (va_up (fun _ => none) 0 (some q120)) 1 (some q120_2)) 2 (some q120_3)) 3 (some q120_4))))))), (q23, .inl (cy 3, 8, .inr (.inr (.inr (.inr (va_up (va_up (va_up (va_up (va_up (va_up (va_up (va_up (fun _ => none) 0 (some q147)) 1 (some q147_2)) 2 (some q147_3)) 3 (some q147_4)) 4 (some q147_5)) 5 (some q147_6)) 6 (some q147_7)) 7 (some q147_8))))))), (q32, .inl (cy 0, 24, .inl (fun _ => 0)))], _, by rw [hparts]; rfl, by rw [x37]; rfl, fun hh => ?_⟩
            refine (show _ = _ from hh).trans (congrArg some (n_arr4 (fun j hj => ?_)))
            show _ = some (ad 0 j)
            rcases (by omega : j = 0 ∨ j = 1 ∨ j = 2 ∨ j = 3) with rfl | rfl | rfl | rfl
            · rw [show ad 0 0 = q94 from (dm0 0 (by decide)).1.trans e4]; rfl
            · rw [show ad 0 1 = q94_2 from (dm1 0 (by decide)).1.trans e5]; rfl
            · rw [show ad 0 2 = q94_3 from (dm2 0 (by decide)).1.trans e6]; rfl
            · rw [show ad 0 3 = q94_4 from (dm3 0 (by decide)).1.trans e7]; rfl
          · refine ⟨[(h, .inr (8, [.ref q6, .ref q14, .ref q23, .ref q32, .ref q38, .ref q49, .ref q60, .ref q72, .int 0])), (q6, .inl (cy 3, 4, .inr (.inr (.inr (.inr (va_up (va_up (va_up (va_up (fun _ => none) 0 (some q94)) 1 (some q94_2)) 2 (some q94_3)) 3 (some q94_4))))))), (q14, .inl (cy 4, 4, .inr (.inr (.inr (.inr (va_up (va_up (va_up (va_up (fun _ => none) 0 (some q120)) 1 (some q120_2)) 2 (some q120_3)) 3 (some q120_4))))))), (q23, .inl (cy 3, 8, .inr (.inr (.inr (.inr (va_up (va_up (va_up (va_up (va_up (va_up (va_up (va_up (fun _ => none) 0 (some q147)) 1 (some q147_2)) 2 (some q147_3)) 3 (some q147_4)) 4 (some q147_5)) 5 (some q147_6)) 6 (some q147_7)) 7 (some q147_8))))))), (q32, .inl (cy 0, 24, .inl (fun _ => 0)))], _, by rw [hparts]; rfl, by rw [x38]; rfl, fun hh => ?_⟩
            refine (show _ = _ from hh).trans (congrArg some (n_arr4 (fun j hj => ?_)))
            show _ = some (ad 27 j)
            rcases (by omega : j = 0 ∨ j = 1 ∨ j = 2 ∨ j = 3) with rfl | rfl | rfl | rfl
            · rw [show ad 27 0 = q120 from (dc0 0 (by decide)).1.trans e8]; rfl
            · rw [show ad 27 1 = q120_2 from (dc1 0 (by decide)).1.trans e9]; rfl
            · rw [show ad 27 2 = q120_3 from (dc2 0 (by decide)).1.trans e10]; rfl
            · rw [show ad 27 3 = q120_4 from (dc3 0 (by decide)).1.trans e11]; rfl
          · exact ⟨[(q72, .inl (cy 0, 4, .inl (fun _ => 0)))], _, by rw [hparts]; rfl, by rw [x39]; rfl, fun hh => by rw [hS]; exact hh⟩
