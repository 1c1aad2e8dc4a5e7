/-! ===== CONSTRUCTORS' CONTRACTS ===== -/
def nPc (L : qL) (h sz : Nat) (e0 : va_E) : Array Value → State → Prop := va_Pc [.ref h] (fun U => U.heap.size = sz ∧ va_P L.2.1 q_cl [(h, e0)] U.heap ∧ va_K L.2.1 q_cl (q_tys L.2.2.1) U ∧ qN L.2.2.2.2 U ∧ nK L.2.2.2.2 (va_A [(h, e0)] sz) U U.heap ∧ va_AO RX5 U ∧ va_AO RX0 U)
def nCT (L : qL) (y : MethodName) (cc : ByteArray) (nL : Nat) (rm : Room) (e0 : va_E) (po : Nat → va_W → Prop) : Prop :=
  ∀ (h sz : Nat), Met L.1 y (Cond.code y cc nL none :: qw) rm (nPc L h sz e0) (va_Qv (po h) (nB L (va_A [(h, e0)] sz)) (va_A [(h, e0)] sz)) rm.cells rm.slots (va_A [(h, e0)] sz)
theorem n_D1 {h sz : Nat} {e0 : va_E} : va_D (va_A [(h, e0)] sz) [(h, e0)] := by
  refine ⟨fun i j p q hi hj _ => ?_, fun k q hk => va_A.in hk⟩
  have h1 := (List.getElem?_eq_some_iff.mp hi).1
  have h2 := (List.getElem?_eq_some_iff.mp hj).1
  simp only [List.length_cons, List.length_nil] at h1 h2
  omega
theorem n_met {L : qL} {y : MethodName} {cc : ByteArray} {nL : Nat} {rm : Room} {e0 : va_E} {po : Nat → va_W → Prop} (hy : plainName y.cls = true) (hin : y.name = "<init>") (hlen : 1 ≤ nL)
    (body : ∀ (Γ : qG) (A : Nat → Prop) (h : Nat), Γ.1 = L → nC Γ A cc y.cls nL rm (po h) → nV Γ A rm nL 0 [(0, .ref h)] [] [(h, e0)] (0, 0)) : nCT L y cc nL rm e0 po := by
  obtain ⟨l, D, cy, ad, o⟩ := L
  intro h sz
  refine Met.ofW (cc := cc) (maxL := nL) (ret := none) hy rfl ?_
  intro p e s m args below meth c s₁ B hml hv
  obtain ⟨rfl, hsz, hP, hK, hN, hT, hO⟩ := hv
  dsimp only at hsz hP hK hN hT hO
  subst hsz
  have hts := atoms_spec (ws := Cond.code y cc nL none :: qw) B.pre
  have hown : s.vm.findClass y.cls = some m.cls := findClass_of_methodNamed B.named
  have hin2 : meth.name = "<init>" := (name_of_methodNamed B.named B.method).1.trans hin
  have hb := body ⟨⟨l, D, cy, ad, o⟩, ⟨p, e, s⟩, ⟨m, ([.ref h] : List Value).toArray, below, meth, c⟩, MQ below (va_Qv (po h) (nB ⟨l, D, cy, ad, o⟩ (va_A [(h, e0)] s.heap.size)) (va_A [(h, e0)] s.heap.size)) ([.ref h] : List Value).toArray s rm.cells rm.slots (va_A [(h, e0)] s.heap.size)⟩ (va_A [(h, e0)] s.heap.size) h rfl
    ⟨B.exec, B.bytes, hml, hown, fun w hw => hts w (List.mem_cons_of_mem _ hw), B.returns, B.notSynchronized, hK, hin2, hN, hT, hO, fun q hq => Or.inr hq, fun _ h => h⟩
  have hl := lv_entry ([.ref h] : List Value) (n := nL) hlen
  rw [lg_entry_eq]
  exact hb s.heap [] _ hP n_D1 va_S.rf hl
theorem n_join {A0 : Nat → Prop} {D : va_G} {cl : List vw_C} {ws w1 : va_W} {h : Nat} {e0 : va_E} {H H1 : Heap} (hP : va_P D cl (ws ++ [(h, e0)]) H) (hD : va_D A0 (ws ++ [(h, e0)]))
    (hk : ∀ q : Nat, q < H.size → ¬ va_A [(h, e0)] H.size q → H1[q]? = H[q]?) (hF : ∀ q, va_A [(h, e0)] H.size q → A0 q) (hP1 : va_P D cl w1 H1) (hD1 : va_D (va_A [(h, e0)] H.size) w1) : va_P D cl (ws ++ w1) H1 ∧ va_D A0 (ws ++ w1) := by
  have hin : ∀ (k : Nat) (q : Nat × va_E), ws[k]? = some q → (ws ++ [(h, e0)])[k]? = some q := fun k q hq => by rw [List.getElem?_append_left (List.getElem?_eq_some_iff.mp hq).1]; exact hq
  have hlast : (ws ++ [(h, e0)])[ws.length]? = some (h, e0) := by rw [List.getElem?_append_right (Nat.le_refl _)]; simp
  have hPs : va_P D cl ws H := fun k q hq => hP k q (hin k q hq)
  have hno : ∀ (k : Nat) (q : Nat × va_E), ws[k]? = some q → q.1 < H.size ∧ ¬ va_A [(h, e0)] H.size q.1 := by
    intro k q hq
    have hlt := (hPs k q hq).lt
    refine ⟨hlt, ?_⟩
    rintro (⟨k', e, hk'⟩ | hge)
    · have h1 := (List.getElem?_eq_some_iff.mp hk').1
      simp only [List.length_cons, List.length_nil] at h1
      obtain rfl : k' = 0 := by omega
      cases hk'
      have := hD.1 k ws.length q _ (hin k q hq) hlast rfl
      have h2 := (List.getElem?_eq_some_iff.mp hq).1
      omega
    · omega
  refine ⟨(hPs.kept fun k x hx => hk x.1 (hno k x hx).1 (hno k x hx).2).app hP1, fun i j p q hi hj e => ?_, fun k q hq => ?_⟩
  · by_cases h1 : i < ws.length
    · rw [List.getElem?_append_left h1] at hi
      by_cases h2 : j < ws.length
      · rw [List.getElem?_append_left h2] at hj
        exact hD.1 i j p q (hin i p hi) (hin j q hj) e
      · rw [List.getElem?_append_right (by omega)] at hj
        exact absurd (hD1.2 _ q hj) (by rw [← e]; exact (hno i p hi).2)
    · rw [List.getElem?_append_right (by omega)] at hi
      by_cases h2 : j < ws.length
      · rw [List.getElem?_append_left h2] at hj
        exact absurd (hD1.2 _ p hi) (by rw [e]; exact (hno j q hj).2)
      · rw [List.getElem?_append_right (by omega)] at hj
        have := hD1.1 _ _ p q hi hj e
        omega
  · by_cases h1 : k < ws.length
    · rw [List.getElem?_append_left h1] at hq
      exact hD.2 k q (hin k q hq)
    · rw [List.getElem?_append_right (by omega)] at hq
      exact hF _ (hD1.2 _ q hq)
def nMi (y : MethodName) (cc : ByteArray) (nL : Nat) : Prop := Cond.instanceMethod y ∈ qw ∧ Cond.initialized y.cls ∈ qw ∧ Cond.code y cc nL none ∈ qw ∧ y.name = "<init>" ∧ y.cls ≠ "java/lang/invoke/MethodHandle" ∧ y.cls ≠ "java/lang/invoke/VarHandle" ∧ (parseMethodDescriptor y.desc).map (fun d => d.parameters.length) = some 0
theorem n_call {Γ : qG} {A : Nat → Prop} {cc : ByteArray} {own : String} {nL : Nat} {R : Room} {po : va_W → Prop} {pc n : Nat} {ls : List (Nat × Value)} {st : List Value} {ws : va_W} {k k' : Nat × Nat} (hC : nC Γ A cc own nL R po) {y : MethodName} {c2 : ByteArray} {nL2 idx q : Nat} {rm : Room} {e0 : va_E} {po2 : Nat → va_W → Prop}
    (hM : nCT Γ.1 y c2 nL2 rm e0 po2) (hms : nMi y c2 nL2) (hlk : Cond.methodLink own idx y ∈ qw) (hd : decode cc pc = .ok (.invokespecial idx, 3)) (hcat : (st.map fun v => v.category).sum ≤ 8) (hR : qRm rm R nL2 k) (hn : pc + 3 = n) (hk' : (k.1 + rm.cells, k.2 + rm.slots) = k')
    (kk : ∀ w1 : va_W, po2 q w1 → nV Γ A R nL n ls st (ws ++ w1) k') : nV Γ A R nL pc ls (.ref q :: st) (ws ++ [(q, e0)]) k := by
  obtain ⟨⟨l, D, cy, ad, o⟩, ⟨p, e, s⟩, ⟨m, args, below, meth, c⟩, Q⟩ := Γ
  obtain ⟨h1, h2, h3, h4, h5, h6, h7, h8, h9, h10, h11, h12, h13, h14⟩ := hC
  obtain ⟨m1, m2, m3, m4, m5⟩ := hms
  subst hn; subst hk'
  intro H locs la hP hD hS hl
  have hF := va_free (wc := [(q, e0)]) hD hS h13 [ws.length] (by simp)
  have hPc : va_P D q_cl [(q, e0)] H := hP.sub [ws.length] (by simp)
  refine va_callv (va_runI (As := []) (rest := st) ⟨h1, h2, h3, h4, h5⟩ (hM q H.size) (cwI 0 h5 (qw_goodIn m3) rfl rfl rfl (h5 _ m2) (h5 _ hlk) (h5 _ m1) m4 m5 hR.1)
    ⟨fun a U g mk qq => by
      obtain ⟨q0, q1, qP, qK, qn, qk, qo1, qo2⟩ := qq
      exact ⟨q0, q1, qP, va_K.moved (u := U) (U := U.calling g mk a) (Vm.Alike.refl U.vm) qK, qN.same (u := U) (U := U.calling g mk a) rfl qn, nK.moved (u := U) (U := U.calling g mk a) (Vm.Alike.refl U.vm) qk, va_AO.moved (u := U) (U := U.calling g mk a) (Vm.Alike.refl U.vm) qo1, va_AO.moved (u := U) (U := U.calling g mk a) (Vm.Alike.refl U.vm) qo2⟩,
     fun U hU hW => ⟨rfl, by rw [hU], by rw [hU]; exact hPc, va_K.moved hW.alike h8, qN.warm hW h10, by rw [hU]; exact nK.moved hW.alike ((h11.kept hS.2.1).narrow hF), va_AO.moved hW.alike h12.1, va_AO.moved hW.alike h12.2⟩⟩ rfl rfl hl.1 rfl (lv_room hcat) hd hR.2)
    hS (fun x _ h => hF x h) hF (fun u t H1 locs1 ht hvm hu hB hz1 hk1 hS1 => ?_)
  obtain ⟨hP1, hD1⟩ := hB
  rw [ht] at hP1
  obtain ⟨hP2, hD2⟩ := n_join hP hD hk1 hF hP1 hD1
  exact kk u hu H1 locs1 la hP2 hD2 hS1 hl
theorem n_callN {host : String} {Γ : qG} {A : Nat → Prop} {cc : ByteArray} {own : String} {nL : Nat} {R : Room} {po : va_W → Prop} {pc n : Nat} {ls : List (Nat × Value)} {st : List Value} {ws : va_W} {k k' : Nat × Nat} (hC : nC Γ A cc own nL R po) {y : MethodName} {c2 : ByteArray} {nL2 idx q : Nat} {rm : Room} {e0 : va_E} {po2 : Nat → va_W → Prop}
    (hM : nCT Γ.1 y c2 nL2 rm e0 po2) (hms : nMi y c2 nL2) (hlk : Cond.methodLinkNest own idx y host ∈ q_nest) (hd : decode cc pc = .ok (.invokespecial idx, 3)) (hcat : (st.map fun v => v.category).sum ≤ 8) (hR : qRm rm R nL2 k) (hn : pc + 3 = n) (hk' : (k.1 + rm.cells, k.2 + rm.slots) = k')
    (kk : ∀ w1 : va_W, po2 q w1 → nV Γ A R nL n ls st (ws ++ w1) k') : nV Γ A R nL pc ls (.ref q :: st) (ws ++ [(q, e0)]) k := by
  obtain ⟨⟨l, D, cy, ad, o⟩, ⟨p, e, s⟩, ⟨m, args, below, meth, c⟩, Q⟩ := Γ
  obtain ⟨h1, h2, h3, h4, h5, h6, h7, h8, h9, h10, h11, h12, h13, h14⟩ := hC
  obtain ⟨m1, m2, m3, m4, m5⟩ := hms
  subst hn; subst hk'
  intro H locs la hP hD hS hl
  have hF := va_free (wc := [(q, e0)]) hD hS h13 [ws.length] (by simp)
  have hPc : va_P D q_cl [(q, e0)] H := hP.sub [ws.length] (by simp)
  refine va_callv (va_runIN (host := host) (As := []) (rest := st) ⟨h1, h2, h3, h4, h5⟩ (hM q H.size) ⟨va_cnB 0 h5 (qw_goodIn m3) rfl rfl rfl (h10.1 _ hlk) (h5 _ m2) m5 hR.1, m4, h5 _ m1⟩
    ⟨fun a U g mk qq => by
      obtain ⟨q0, q1, qP, qK, qn, qk, qo1, qo2⟩ := qq
      exact ⟨q0, q1, qP, va_K.moved (u := U) (U := U.calling g mk a) (Vm.Alike.refl U.vm) qK, qN.same (u := U) (U := U.calling g mk a) rfl qn, nK.moved (u := U) (U := U.calling g mk a) (Vm.Alike.refl U.vm) qk, va_AO.moved (u := U) (U := U.calling g mk a) (Vm.Alike.refl U.vm) qo1, va_AO.moved (u := U) (U := U.calling g mk a) (Vm.Alike.refl U.vm) qo2⟩,
     fun U hU hW => ⟨rfl, by rw [hU], by rw [hU]; exact hPc, va_K.moved hW.alike h8, qN.warm hW h10, by rw [hU]; exact nK.moved hW.alike ((h11.kept hS.2.1).narrow hF), va_AO.moved hW.alike h12.1, va_AO.moved hW.alike h12.2⟩⟩ rfl rfl hl.1 rfl (lv_room hcat) hd hR.2)
    hS (fun x _ h => hF x h) hF (fun u t H1 locs1 ht hvm hu hB hz1 hk1 hS1 => ?_)
  obtain ⟨hP1, hD1⟩ := hB
  rw [ht] at hP1
  obtain ⟨hP2, hD2⟩ := n_join hP hD hk1 hF hP1 hD1
  exact kk u hu H1 locs1 la hP2 hD2 hS1 hl
