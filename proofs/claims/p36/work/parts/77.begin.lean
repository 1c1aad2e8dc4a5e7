/-! ===== THE LAW FROM ITS ENTRY ===== -/
set_option maxHeartbeats 4000000 in
set_option maxRecDepth 100000 in
theorem n_law {p : Program} {l : Launch} {e : Env} {s : State} {m : MethodId} {below : List Frame} {meth : Method} {c : Code} {D : va_G} {cy : Nat → ClassId} {o : qO} {Q : State → Prop} {la : Array Slot} (hs : o.1.2.1 ≤ 260) (hl : l.stackTraces = false) (h1 : p.tables.exec = Jvm.exec) (h2 : c.code = cL_law) (h3 : c.maxLocals = 13) (h4 : s.vm.findClass RL = some m.cls)
    (h5 : ∀ w ∈ qw, w.before #[.ref o.1.1] s = true) (h6 : meth.sig.returnType = some .boolean) (h7 : meth.locks = false) (h8 : va_K D q_cl (q_tys cy) s) (h10 : qN o s) (h11 : ∀ A : Nat → Prop, (∀ q, A q → s.heap.size ≤ q) → qT o A s s.heap) (hO : va_AO RX5 s ∧ va_AO RX0 s)
    (hQ : ∀ t, (∃ oc, t.status = .running ∧ Ended t below oc ∧ oc = .returned (some (.int 1)) ∧ Framed s oc t [] 600192 7294824) → Q t) (hla : lv_has la 13 [(0, .ref o.1.1)]) :
    W p l e rm_L_law s m #[.ref o.1.1] below meth c s.heap [] 0 0 Q (F0 m 0 la []) := by
  have hA0 : ∀ q, s.heap.size ≤ q → (fun q => s.heap.size ≤ q) q := fun q h => h
  refine va_new (ws := []) (A := fun q => s.heap.size ≤ q) (ci := 8) (C := RX9) (T := TX9) (N := 9) (fs := [.null, .null, .null, .null, .null, .null, .null, .null, .int 0]) h1 h2 h5 in_X9 tyX9 tyX9_ok h4 (h5 _ cw_L_12) (h5 _ ins_X9) (h5 _ ini_X9) h8 (fun k q hk => by simp at hk) ⟨(fun i j p q hi _ _ => by simp at hi), (fun k q hk => by simp at hk)⟩ va_S.rf hA0 rfl nfs_X9 (Nat.le_of_ble_eq_true rfl) (Nat.le_of_ble_eq_true rfl) dL_law_0 (fun q H hP hD hS => ?_)
  have hP : va_P D q_cl [(q, .inr (8, [.null, .null, .null, .null, .null, .null, .null, .null, .int 0]))] H := hP
  have hD : va_D (fun q => s.heap.size ≤ q) [(q, .inr (8, [.null, .null, .null, .null, .null, .null, .null, .null, .int 0]))] := hD
  refine lv_dup h1 h2 dL_law_3 rfl ?_
  have hF := va_free (wc := [(q, .inr (8, [.null, .null, .null, .null, .null, .null, .null, .null, .int 0]))]) hD hS hA0 [0] rfl
  obtain ⟨m1, m2, m3, m4, m5⟩ := mi_X9_init
  have h11' := h11 (fun q => s.heap.size ≤ q) (fun q h => h)
  have hK9 : nK o (fun q => s.heap.size ≤ q) s s.heap := h11'.2.1
  refine va_callv (va_runI (As := []) (rest := [.ref q]) ⟨h1, h2, h3, h4, h5⟩ (c_X9_init ⟨l, D, cy, fun _ _ => 0, o⟩ q H.size) (cwI 0 h5 (qw_goodIn m3) rfl rfl rfl (h5 _ m2) (h5 _ lk_L_190) (h5 _ m1) m4 m5 ⟨Nat.le_of_ble_eq_true rfl, Nat.le_of_ble_eq_true rfl⟩)
    ⟨fun a U g mk qq => by
      obtain ⟨q0, q1, qP, qK, qn, qk, qo1, qo2⟩ := qq
      exact ⟨q0, q1, qP, va_K.moved (u := U) (U := U.calling g mk a) (Vm.Alike.refl U.vm) qK, qN.same (u := U) (U := U.calling g mk a) rfl qn, nK.moved (u := U) (U := U.calling g mk a) (Vm.Alike.refl U.vm) qk, va_AO.moved (u := U) (U := U.calling g mk a) (Vm.Alike.refl U.vm) qo1, va_AO.moved (u := U) (U := U.calling g mk a) (Vm.Alike.refl U.vm) qo2⟩,
     fun U hU hW => ⟨rfl, by rw [hU], by rw [hU]; exact hP, va_K.moved hW.alike h8, qN.warm hW h10, by rw [hU]; exact nK.moved hW.alike ((hK9.kept hS.2.1).narrow hF), va_AO.moved hW.alike hO.1, va_AO.moved hW.alike hO.2⟩⟩ rfl rfl hla.1 rfl (lv_room (Nat.le_of_ble_eq_true rfl)) dL_law_4 ⟨Nat.le_of_ble_eq_true rfl, Nat.le_of_ble_eq_true rfl⟩)
    hS (fun x _ h => hF x h) hF (fun u t H1 locs1 ht hvm hu hB hz1 hk1 hS1 => ?_)
  obtain ⟨hP1, hD1⟩ := hB
  rw [ht] at hP1
  obtain ⟨ad, S, g1, g2, g3, g4, g5, g6⟩ := n_made (cy := cy) hu hD1 hP1
  have hqA : ∀ x, q_A ad s.heap.size x → s.heap.size ≤ x := by
    rintro x (⟨y, hy, rfl⟩ | hx)
    · exact hF _ (g2 y hy)
    · exact hx
  refine lv_astore_n h1 h2 dL_law_7 rfl hla (by decide) rfl (fun la' hla' => ?_)
  have hS2 : va_S (q_A ad s.heap.size) s.heap H1 locs1 := ⟨hS1.1, fun x hx hn => hS1.2.1 x hx (fun h => absurd hx (Nat.not_lt.mpr h)), fun x hx => Or.inr (hS1.2.2 x hx)⟩
  have hV := t_L_law (Γ := ⟨⟨l, D, cy, ad, o⟩, ⟨p, e, s⟩, ⟨m, #[.ref o.1.1], below, meth, c⟩, Q⟩) (S := S) (a := 0 + 1 + 365) (b := 0 + 9 + 5771)
    ⟨h1, h2, h3, h4, h5, h6, h7, h8, g1, h10, h11 _ hqA, fun t ht => hQ t (n_end hqA ht)⟩ hs hl g5 g6 (by decide) (by decide)
  have hla2 : lv_has la' 13 [(0, .ref o.1.1), (1, .ref (ad 36 0))] := by rw [g4]; exact q_has hla'
  exact hV H1 locs1 la' g3 hS2 hla2
