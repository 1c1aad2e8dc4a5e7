/-! ===== THE START: the classes, the end ===== -/
theorem n_known {s : State} {args : Array Value} (hts : ∀ w ∈ qw, w.before args s = true) (ho5 : (Cond.arrayOver (.object RX5)).before args s = true) (ho0 : (Cond.arrayOver (.object RX0)).before args s = true) : ∃ (D : va_G) (cy : Nat → ClassId), va_K D q_cl (q_tys cy) s := by
  have h : ∀ c : Nat, ∃ x : ClassId × (Nat → Nat), ∀ q, q_cl[c]? = some q → u_Kn s q.1 q.2.1 q.2.2 x.1 x.2 := by
    intro c
    by_cases hc : c < 9
    · rcases (by omega : c = 0 ∨ c = 1 ∨ c = 2 ∨ c = 3 ∨ c = 4 ∨ c = 5 ∨ c = 6 ∨ c = 7 ∨ c = 8) with rfl | rfl | rfl | rfl | rfl | rfl | rfl | rfl | rfl
      · obtain ⟨a, b, h⟩ := u_known hts in_X0 (hts _ ins_X0); exact ⟨(a, b), fun q hq => by cases hq; exact h⟩
      · obtain ⟨a, b, h⟩ := u_known hts in_X2 (hts _ ins_X2); exact ⟨(a, b), fun q hq => by cases hq; exact h⟩
      · obtain ⟨a, b, h⟩ := u_known hts in_X3 (hts _ ins_X3); exact ⟨(a, b), fun q hq => by cases hq; exact h⟩
      · obtain ⟨a, b, h⟩ := u_known hts in_X4 (hts _ ins_X4); exact ⟨(a, b), fun q hq => by cases hq; exact h⟩
      · obtain ⟨a, b, h⟩ := u_known hts in_X5 (hts _ ins_X5); exact ⟨(a, b), fun q hq => by cases hq; exact h⟩
      · obtain ⟨a, b, h⟩ := u_known hts in_X6 (hts _ ins_X6); exact ⟨(a, b), fun q hq => by cases hq; exact h⟩
      · obtain ⟨a, b, h⟩ := u_known hts in_X7 (hts _ ins_X7); exact ⟨(a, b), fun q hq => by cases hq; exact h⟩
      · obtain ⟨a, b, h⟩ := u_known hts in_X8 (hts _ ins_X8); exact ⟨(a, b), fun q hq => by cases hq; exact h⟩
      · obtain ⟨a, b, h⟩ := u_known hts in_X9 (hts _ ins_X9); exact ⟨(a, b), fun q hq => by cases hq; exact h⟩
    · exact ⟨(0, fun _ => 0), fun q hq => absurd (List.getElem?_eq_some_iff.mp hq).1 hc⟩
  obtain ⟨F, hF⟩ := Classical.axiomOfChoice h
  obtain ⟨cI, kI, pI, hI1, hI2, hI3⟩ := Cond.arrayClass_spec (hts _ ac_int)
  obtain ⟨cC, kC, pC, hC1, hC2, hC3⟩ := Cond.arrayClass_spec (hts _ ac_char)
  obtain ⟨cZ, kZ, pZ, hZ1, hZ2, hZ3⟩ := Cond.arrayClass_spec (hts _ ac_boolean)
  obtain ⟨p5, c5, k5, h51, -, h53, h54, h55⟩ := Cond.arrayOver_spec ho5
  obtain ⟨p0, c0, k0, h01, -, h03, h04, h05⟩ := Cond.arrayOver_spec ho0
  refine ⟨(fun c => (F c).1, fun c => (F c).2), fun k => if k = 0 then cI else if k = 1 then cC else if k = 2 then cZ else if k = 3 then c5 else c0, fun c q hq => hF c q hq, fun k q hk => ?_⟩
  have hlt : k < 5 := (List.getElem?_eq_some_iff.mp hk).1
  rcases (by omega : k = 0 ∨ k = 1 ∨ k = 2 ∨ k = 3 ∨ k = 4) with rfl | rfl | rfl | rfl | rfl
  · cases hk; exact ⟨fun n z => ⟨(fun k h => by cases h), kI, hI2, pI, hI3⟩, hI1⟩
  · cases hk; exact ⟨fun n z => ⟨(fun k h => by cases h), kC, hC2, pC, hC3⟩, hC1⟩
  · cases hk; exact ⟨fun n z => ⟨(fun k h => by cases h), kZ, hZ2, pZ, hZ3⟩, hZ1⟩
  · cases hk; exact ⟨fun n z => ⟨(fun k h => by cases h), k5, h53, p5, h54⟩, k5, p5, h53, h54, h51, h55⟩
  · cases hk; exact ⟨fun n z => ⟨(fun k h => by cases h), k0, h03, p0, h04⟩, k0, p0, h03, h04, h01, h05⟩
theorem n_end {below : List Frame} {a : Array Value} {s t : State} {L : qL} {A : Nat → Prop} {mc ms : Nat} (hA : ∀ q, A q → s.heap.size ≤ q) (h : MQ below (qQc L A (fun v _ => ∃ r : Int32, v = some (.int r) ∧ r = 1)) a s mc ms A t) :
    ∃ o, t.status = .running ∧ Ended t below o ∧ o = .returned (some (.int 1)) ∧ Framed s o t [] mc ms := by
  obtain ⟨o, h1, h2, ⟨⟨v, S, rfl, ⟨r, rfl, rfl⟩, -⟩, -⟩, Ls, hF, hf⟩ := h
  exact ⟨_, h1, h2, rfl, hF.1, hF.2.1, State.sameButNew.drop_fresh (L := []) (J := Ls) hF.2.2 (fun x hx => hA _ (hf x hx))⟩
