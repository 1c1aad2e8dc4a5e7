-- printed by wip/p36/gen_x.py: methods that throw, methods with handlers, the law's texts
def RJ1 : String := "java/lang/StringLatin1"
abbrev cJ1_charAt_3b067 : ByteArray := prog_29_method_2_code
def yJ1_charAt_3b067 : MethodName := ⟨RJ1, "charAt", "([BI)C"⟩
def RJ10 : String := "java/lang/System"
def RJ3 : String := "jdk/internal/util/Preconditions"
abbrev cJ3_checkIndex_8e157 : ByteArray := prog_38_method_11_code
def yJ3_checkIndex_8e157 : MethodName := ⟨RJ3, "checkIndex", "(IILjava/util/function/BiFunction;)I"⟩
theorem dJ1_charAt_3b067_0 : decode cJ1_charAt_3b067 0 = .ok (.iload_n 1, 1) := by decide +kernel
theorem dJ1_charAt_3b067_1 : decode cJ1_charAt_3b067 1 = .ok (.aload_n 0, 1) := by decide +kernel
theorem dJ1_charAt_3b067_2 : decode cJ1_charAt_3b067 2 = .ok (.arraylength, 1) := by decide +kernel
theorem dJ1_charAt_3b067_3 : decode cJ1_charAt_3b067 3 = .ok (.invokestatic 9, 3) := by decide +kernel
theorem dJ1_charAt_3b067_6 : decode cJ1_charAt_3b067 6 = .ok (.aload_n 0, 1) := by decide +kernel
theorem dJ1_charAt_3b067_7 : decode cJ1_charAt_3b067 7 = .ok (.iload_n 1, 1) := by decide +kernel
theorem dJ1_charAt_3b067_8 : decode cJ1_charAt_3b067 8 = .ok (.baload, 1) := by decide +kernel
theorem dJ1_charAt_3b067_9 : decode cJ1_charAt_3b067 9 = .ok (.sipush 255, 3) := by decide +kernel
theorem dJ1_charAt_3b067_12 : decode cJ1_charAt_3b067 12 = .ok (.iand, 1) := by decide +kernel
theorem dJ1_charAt_3b067_13 : decode cJ1_charAt_3b067 13 = .ok (.i2c, 1) := by decide +kernel
theorem dJ1_charAt_3b067_14 : decode cJ1_charAt_3b067 14 = .ok (.ireturn, 1) := by decide +kernel
theorem dJ3_checkIndex_8e157_0 : decode cJ3_checkIndex_8e157 0 = .ok (.iload_n 0, 1) := by decide +kernel
theorem dJ3_checkIndex_8e157_1 : decode cJ3_checkIndex_8e157 1 = .ok (.ifCond .lt 8, 3) := by decide +kernel
theorem dJ3_checkIndex_8e157_4 : decode cJ3_checkIndex_8e157 4 = .ok (.iload_n 0, 1) := by decide +kernel
theorem dJ3_checkIndex_8e157_5 : decode cJ3_checkIndex_8e157 5 = .ok (.iload_n 1, 1) := by decide +kernel
theorem dJ3_checkIndex_8e157_6 : decode cJ3_checkIndex_8e157 6 = .ok (.if_icmp .lt 10, 3) := by decide +kernel
theorem dJ3_checkIndex_8e157_9 : decode cJ3_checkIndex_8e157 9 = .ok (.aload_n 2, 1) := by decide +kernel
theorem dJ3_checkIndex_8e157_10 : decode cJ3_checkIndex_8e157 10 = .ok (.iload_n 0, 1) := by decide +kernel
theorem dJ3_checkIndex_8e157_11 : decode cJ3_checkIndex_8e157 11 = .ok (.iload_n 1, 1) := by decide +kernel
theorem dJ3_checkIndex_8e157_12 : decode cJ3_checkIndex_8e157 12 = .ok (.invokestatic 95, 3) := by decide +kernel
theorem dJ3_checkIndex_8e157_15 : decode cJ3_checkIndex_8e157 15 = .ok (.athrow, 1) := by decide +kernel
theorem dJ3_checkIndex_8e157_16 : decode cJ3_checkIndex_8e157 16 = .ok (.iload_n 0, 1) := by decide +kernel
theorem dJ3_checkIndex_8e157_17 : decode cJ3_checkIndex_8e157 17 = .ok (.ireturn, 1) := by decide +kernel
theorem q_in1 {ws B : List Cond} (ps : List Nat) (hp : ws = ps.filterMap (fun i => lw_tbl[i]?)) (hg : ws.all (fun w => decide (w ∈ B) || goodWord w) = true) : ∀ w ∈ ws, w ∈ B ∨ w ∈ qw := by
  intro w hw
  have h1 := List.all_eq_true.mp hg w hw
  rw [hp] at hw
  obtain ⟨i, -, hi⟩ := List.mem_filterMap.mp hw
  simp only [Bool.or_eq_true, decide_eq_true_eq] at h1
  rcases h1 with h1 | h1
  · exact Or.inl h1
  · exact Or.inr (qw_mem hi h1)
theorem q_castR {args : Array Value} {s : State} {E : String} {n : Nat} (h : (Cond.instantiable E n).before args s = true) : (Cond.castable E E).before args s = true := by
  obtain ⟨c, k, h1, -⟩ := Cond.instantiable_spec h
  simp [Cond.before, Cond.holds, Cond.value, h1, va_asg]
theorem q_declR {args : Array Value} {s : State} {x : MethodName} {cc : ByteArray} {nL : Nat} {ret : Option FieldType} (h1 : (Cond.instanceMethod x).before args s = true) (h2 : (Cond.code x cc nL ret).before args s = true) : (Cond.declares x).before args s = true := by
  obtain ⟨m, meth, hn, hm, hs, -⟩ := Cond.instanceMethod_spec h1
  obtain ⟨meth9, c, g1, -, -, -, -, -, -, g8⟩ := Cond.code_spec hn h2
  cases Option.some.inj (hm.symm.trans g1)
  simp [Cond.before, Cond.holds, Cond.value, hn, hm, hs, g8]
theorem im_rte : Cond.instanceMethod ⟨"java/lang/RuntimeException", "<init>", "()V"⟩ ∈ qw := qw_mem (i := 504) (by decide +kernel) rfl
theorem ic_rte : Cond.code ⟨"java/lang/RuntimeException", "<init>", "()V"⟩ prog_27_method_1_code 1 none ∈ qw := qw_mem (i := 505) (by decide +kernel) rfl
theorem im_exc : Cond.instanceMethod ⟨"java/lang/Exception", "<init>", "()V"⟩ ∈ qw := qw_mem (i := 507) (by decide +kernel) rfl
theorem ic_exc : Cond.code ⟨"java/lang/Exception", "<init>", "()V"⟩ prog_22_method_1_code 1 none ∈ qw := qw_mem (i := 508) (by decide +kernel) rfl
theorem im_thr : Cond.instanceMethod ⟨"java/lang/Throwable", "<init>", "()V"⟩ ∈ qw := qw_mem (i := 476) (by decide +kernel) rfl
theorem ic_thr : Cond.code ⟨"java/lang/Throwable", "<init>", "()V"⟩ prog_32_method_1_code 1 none ∈ qw := qw_mem (i := 477) (by decide +kernel) rfl
def q_dcl (E : String) : List Cond := [.castable E E, .declares (Bundle.init0 "java/lang/RuntimeException"), .declares (Bundle.init0 "java/lang/Exception"), .declares (Bundle.init0 "java/lang/Throwable")]
theorem q_dcl_ok {args : Array Value} {s : State} {E : String} (h : ∀ w ∈ qw, w.before args s = true) (hE : Cond.instantiable E 6 ∈ qw) : ∀ w ∈ q_dcl E, w.before args s = true := by
  intro w hw
  simp only [q_dcl, List.mem_cons, List.not_mem_nil, or_false] at hw
  rcases hw with rfl | rfl | rfl | rfl
  · exact q_castR (h _ hE)
  · exact q_declR (h _ im_rte) (h _ ic_rte)
  · exact q_declR (h _ im_exc) (h _ ic_exc)
  · exact q_declR (h _ im_thr) (h _ ic_thr)
theorem q_dcl_ot {E : String} : ∀ w ∈ q_dcl E, vx_ot w = true := by
  intro w hw
  simp only [q_dcl, List.mem_cons, List.not_mem_nil, or_false] at hw
  rcases hw with rfl | rfl | rfl | rfl <;> rfl
def q_nms : List String := ["java/lang/RuntimeException", "java/lang/Exception"]
set_option maxRecDepth 100000 in
theorem at0_nsee : ∀ w ∈ vx_at0 RX9 312 q_nsee q_nms, w ∈ q_dcl q_nsee ∨ w ∈ qw := q_in1 [39, 475, 427, 435, 438, 440, 476, 477, 62, 63, 421, 426, 436, 443, 469, 444, 470, 445, 471, 422, 424, 472, 733, 734, 735, 504, 462, 504, 505, 506, 507, 464, 507, 508, 509, 476, 466, 732, 724, 725, 726, 434, 727, 728, 729, 730, 441, 473, 731] (by decide +kernel) (by decide +kernel)
theorem ck_nsee : Cond.classLink RX9 310 q_nsee ∈ qw := qw_mem (i := 723) (by decide +kernel) rfl
theorem ini_nsee : Cond.initialized q_nsee ∈ qw := qw_mem (i := 49) (by decide +kernel) rfl
theorem ins_nsee : Cond.instantiable q_nsee 6 ∈ qw := qw_mem (i := 724) (by decide +kernel) rfl
set_option maxRecDepth 100000 in
theorem at0_iae : ∀ w ∈ vx_at0 RX9 309 q_iae q_nms, w ∈ q_dcl q_iae ∨ w ∈ qw := q_in1 [39, 475, 427, 435, 438, 440, 476, 477, 62, 63, 421, 426, 436, 443, 469, 444, 470, 445, 471, 422, 424, 472, 874, 875, 876, 504, 462, 504, 505, 506, 507, 464, 507, 508, 509, 476, 466, 873, 865, 866, 867, 430, 868, 869, 870, 871, 441, 473, 872] (by decide +kernel) (by decide +kernel)
theorem ck_iae : Cond.classLink RX9 307 q_iae ∈ qw := qw_mem (i := 864) (by decide +kernel) rfl
theorem ini_iae : Cond.initialized q_iae ∈ qw := qw_mem (i := 45) (by decide +kernel) rfl
theorem ins_iae : Cond.instantiable q_iae 6 ∈ qw := qw_mem (i := 865) (by decide +kernel) rfl
theorem cl_ioobe : Cond.classLink RL 17 q_ioobe ∈ qw := qw_mem (i := 405) (by decide +kernel) rfl
theorem cl_iae : Cond.classLink RL 23 q_iae ∈ qw := qw_mem (i := 853) (by decide +kernel) rfl
theorem cl_nsee : Cond.classLink RL 31 q_nsee ∈ qw := qw_mem (i := 715) (by decide +kernel) rfl
theorem cl_uoe : Cond.classLink RL 66 q_uoe ∈ qw := qw_mem (i := 536) (by decide +kernel) rfl
/-! ===== METHODS THAT THROW: always, under their pre, one class; what they leave, by post ===== -/
def qXC (L : qL) (A : Nat → Prop) (E : String) (po : qM → Prop) : String → State → State → Prop := fun E' st t =>
  E' = E ∧ (∃ S : qM, po S ∧ va_P L.2.1 q_cl (q_W L.2.2.2.1 L.2.2.1 S) t.heap) ∧ va_F A st t
def qNo : Option Value → qM → Prop := fun _ _ => False
def qCX (L : qL) (y : MethodName) (cc : ByteArray) (nL : Nat) (ret : Option FieldType) (rm : Room) {α : Type} (ar : (Nat → Nat → Nat) → qO → α → List Value) (pre : α → qM → Prop) (E : String) (post : α → qM → qM → Prop) : Prop :=
  ∀ (x : α) (S : qM) (sz : Nat), pre x S → vx_Met L.1 y (Cond.code y cc nL ret :: qw) rm
    (va_Pc (ar L.2.2.2.1 L.2.2.2.2 x) (fun U => U.heap.size = sz ∧ va_P L.2.1 q_cl (q_W L.2.2.2.1 L.2.2.1 S) U.heap ∧ va_K L.2.1 q_cl (q_tys L.2.2.1) U ∧ qN L.2.2.2.2 U ∧ qT L.2.2.2.2 (q_A L.2.2.2.1 sz) U U.heap))
    (fun _ _ _ _ => False) (qXC L (q_A L.2.2.2.1 sz) E (post x S)) rm.cells rm.slots (q_A L.2.2.2.1 sz)
def qX (Γ : qG) (R : Room) (E : String) (po : qM → Prop) : Prop :=
  match Γ with
  | ⟨⟨l, D, cy, ad, o⟩, ⟨_, _, s⟩, ⟨_, args, below, _, c⟩, Q⟩ =>
    (∀ x ∈ c.exceptionTable.toList, False) ∧ ∃ Qc, Q = vx_MQ below Qc (qXC ⟨l, D, cy, ad, o⟩ (q_A ad s.heap.size) E po) args s R.cells R.slots (q_A ad s.heap.size)
theorem q_metX {L : qL} {y : MethodName} {cc : ByteArray} {nL : Nat} {ret : Option FieldType} {rm : Room} {α : Type} {ar : (Nat → Nat → Nat) → qO → α → List Value} {pre : α → qM → Prop} {E : String} {post : α → qM → qM → Prop}
    (hD : q_D L.2.2.2.1) (hy : plainName y.cls = true) (hlen : ∀ x, (lg_sl (ar L.2.2.2.1 L.2.2.2.2 x)).length ≤ nL)
    (body : ∀ (Γ : qG) (x : α) (S : qM), Γ.1 = L → pre x S → qC Γ cc y.cls nL ret rm qNo → qX Γ rm E (post x S) → qV Γ rm nL 0 (lv_args 0 (ar (q_ad Γ) (q_o Γ) x)) [] S (0, 0)) : qCX L y cc nL ret rm ar pre E post := by
  obtain ⟨l, D, cy, ad, o⟩ := L
  intro x S sz hpre
  refine vx_ofW (cc := cc) (maxL := nL) (ret := ret) hy rfl ?_
  intro p e s m args below meth c s₁ B hml htab hv
  obtain ⟨rfl, hsz, hP, hK, hN, hT⟩ := hv
  dsimp only at hsz hP hK hN hT hD
  subst hsz
  have hts := atoms_spec (ws := Cond.code y cc nL ret :: qw) B.pre
  have hown : s.vm.findClass y.cls = some m.cls := findClass_of_methodNamed B.named
  have hb := body ⟨⟨l, D, cy, ad, o⟩, ⟨p, e, s⟩, ⟨m, (ar ad o x).toArray, below, meth, c⟩, vx_MQ below (fun _ _ _ _ => False) (qXC ⟨l, D, cy, ad, o⟩ (q_A ad s.heap.size) E (post x S)) (ar ad o x).toArray s rm.cells rm.slots (q_A ad s.heap.size)⟩ x S rfl hpre
    ⟨B.exec, B.bytes, hml, hown, fun w hw => hts w (List.mem_cons_of_mem _ hw), B.returns, B.notSynchronized, hK, hD, hN, hT, fun t ht => by
      obtain ⟨o1, -, -, ⟨⟨v1, S1, -, hf, -⟩, -⟩, -⟩ := ht
      exact hf.elim⟩ ⟨htab, _, rfl⟩
  have hl := lv_entry (ar ad o x) (n := nL) (hlen x)
  rw [lg_entry_eq]
  exact hb s.heap [] _ hP va_S.rf hl
/-! .. that return or throw -/
def qCB (L : qL) (y : MethodName) (cc : ByteArray) (nL : Nat) (ret : Option FieldType) (rm : Room) {α : Type} (ar : (Nat → Nat → Nat) → qO → α → List Value) (pre : α → qM → Prop) (post : α → qM → Option Value → qM → Prop) (E : String) (px : α → qM → qM → Prop) : Prop :=
  ∀ (x : α) (S : qM) (sz : Nat), pre x S → vx_Met L.1 y (Cond.code y cc nL ret :: qw) rm
    (va_Pc (ar L.2.2.2.1 L.2.2.2.2 x) (fun U => U.heap.size = sz ∧ va_P L.2.1 q_cl (q_W L.2.2.2.1 L.2.2.1 S) U.heap ∧ va_K L.2.1 q_cl (q_tys L.2.2.1) U ∧ qN L.2.2.2.2 U ∧ qT L.2.2.2.2 (q_A L.2.2.2.1 sz) U U.heap))
    (qQc L (q_A L.2.2.2.1 sz) (post x S)) (qXC L (q_A L.2.2.2.1 sz) E (px x S)) rm.cells rm.slots (q_A L.2.2.2.1 sz)
theorem q_metB {L : qL} {y : MethodName} {cc : ByteArray} {nL : Nat} {ret : Option FieldType} {rm : Room} {α : Type} {ar : (Nat → Nat → Nat) → qO → α → List Value} {pre : α → qM → Prop} {post : α → qM → Option Value → qM → Prop} {E : String} {px : α → qM → qM → Prop}
    (hD : q_D L.2.2.2.1) (hy : plainName y.cls = true) (hlen : ∀ x, (lg_sl (ar L.2.2.2.1 L.2.2.2.2 x)).length ≤ nL)
    (body : ∀ (Γ : qG) (x : α) (S : qM), Γ.1 = L → pre x S → qC Γ cc y.cls nL ret rm (post x S) → qX Γ rm E (px x S) → qV Γ rm nL 0 (lv_args 0 (ar (q_ad Γ) (q_o Γ) x)) [] S (0, 0)) : qCB L y cc nL ret rm ar pre post E px := by
  obtain ⟨l, D, cy, ad, o⟩ := L
  intro x S sz hpre
  refine vx_ofW (cc := cc) (maxL := nL) (ret := ret) hy rfl ?_
  intro p e s m args below meth c s₁ B hml htab hv
  obtain ⟨rfl, hsz, hP, hK, hN, hT⟩ := hv
  dsimp only at hsz hP hK hN hT hD
  subst hsz
  have hts := atoms_spec (ws := Cond.code y cc nL ret :: qw) B.pre
  have hown : s.vm.findClass y.cls = some m.cls := findClass_of_methodNamed B.named
  have hb := body ⟨⟨l, D, cy, ad, o⟩, ⟨p, e, s⟩, ⟨m, (ar ad o x).toArray, below, meth, c⟩, vx_MQ below (qQc ⟨l, D, cy, ad, o⟩ (q_A ad s.heap.size) (post x S)) (qXC ⟨l, D, cy, ad, o⟩ (q_A ad s.heap.size) E (px x S)) (ar ad o x).toArray s rm.cells rm.slots (q_A ad s.heap.size)⟩ x S rfl hpre
    ⟨B.exec, B.bytes, hml, hown, fun w hw => hts w (List.mem_cons_of_mem _ hw), B.returns, B.notSynchronized, hK, hD, hN, hT, fun t ht => by
      obtain ⟨o1, b1, b2, b3, b4⟩ := ht
      exact ⟨o1, b1, b2, Or.inl ⟨b3, b4⟩⟩⟩ ⟨htab, _, rfl⟩
  have hl := lv_entry (ar ad o x) (n := nL) (hlen x)
  rw [lg_entry_eq]
  exact hb s.heap [] _ hP va_S.rf hl
section QX
variable {Γ : qG} {cc : ByteArray} {own : String} {nL : Nat} {rt : Option FieldType} {R : Room} {po : Option Value → qM → Prop} {pc n : Nat} {ls ls' : List (Nat × Value)} {st : List Value} {S : qM} {k : Nat × Nat}
variable {y : MethodName} {c2 : ByteArray} {nL2 idx : Nat} {ret : Option FieldType} {rm : Room} {α : Type} {ar : (Nat → Nat → Nat) → qO → α → List Value} {pre : α → qM → Prop} {E : String} {post : α → qM → qM → Prop} {pox : qM → Prop}
theorem q_mono {k' : Nat × Nat} (h1 : k.1 ≤ k'.1) (h2 : k.2 ≤ k'.2) (kk : qV Γ R nL pc ls st S k') : qV Γ R nL pc ls st S k := by
  obtain ⟨⟨l, D, cy, ad, o⟩, ⟨p, e, s⟩, ⟨m, args, below, meth, c⟩, Q⟩ := Γ
  exact fun H locs la hP hS hl => W.widen h1 h2 (kk H locs la hP hS hl)
/-- a static call of a method that throws, not caught here -/
theorem q_xS {na : Nat} (hC : qC Γ cc own nL rt R po) (hX : qX Γ R E pox) (hM : qCX Γ.1 y c2 nL2 ret rm ar pre E post) (hms : qMs y c2 nL2 ret na) (hlk : Cond.methodLink own idx y ∈ qw) (hd : decode cc pc = .ok (.invokestatic idx, 3)) (x : α) {st2 : List Value} (hs : (ar (q_ad Γ) (q_o Γ) x).reverse ++ st2 = st) (has : (ar (q_ad Γ) (q_o Γ) x).length = na)
    (hcat : (st2.map fun v => v.category).sum ≤ 8) (hR : qRm rm R nL2 k) (hpre : pre x S) (hpost : ∀ S', post x S S' → pox S') : qV Γ R nL pc ls st S k := by
  obtain ⟨⟨l, D, cy, ad, o⟩, ⟨p, e, s⟩, ⟨m, args, below, meth, c⟩, Q⟩ := Γ
  obtain ⟨h1, h2, h3, h4, h5, h6, h7, h8, h9, h10, h11, h12⟩ := hC
  obtain ⟨m1, m2, m3, m4, m5, m6⟩ := hms
  obtain ⟨htab, Qc, hQ⟩ := hX
  subst hQ
  intro H locs la hP hS hl
  have hr := vx_runS (Ts := qw) (l := l) (e := e) (below := below) (meth := meth) (locs := locs) (cells := k.1) (slots := k.2) ⟨h1, h2, h3, h4, h5⟩ (hM x S H.size hpre) ⟨callB_of na h5 (qw_goodIn m3) rfl rfl rfl (h5 _ m2) (h5 _ hlk) ⟨m4, m5, m6⟩ hR.1, h5 _ m1⟩
    ⟨q_blind, fun U hU hW => ⟨rfl, by rw [hU], by rw [hU]; exact hP, va_K.moved hW.alike h8, qN.warm hW h10, q_TC h11 hS hU hW⟩⟩ (g := F0 m pc la st) rfl has hl.1 hs.symm (lv_room hcat) hd hR.2
  intro T hT X
  rcases hr T hT X with ⟨v, st₀, t, T', L, h0, X', hL, e1, e2, hf, stp⟩ | ⟨q, st₀, t, T', L, E', ce, h0, X', hL, e1, e2, ⟨hE9, ⟨S', hp, hP'⟩, hF⟩, hce, hcv, hcl, stp⟩
  · exact hf.elim
  · rw [hE9] at hcl
    obtain ⟨k1, k2, k3⟩ := vx_keep (A0 := q_A ad s.heap.size) h0 e1 hS (fun q _ z => q_AF hS.1 q z) (fun q z => q_AF hS.1 q z) hL hF
    obtain ⟨t2, a1, b1⟩ := vx_out (pc := pc) (ls := la) (rest := st2) (Qc := Qc) (mc := R.cells) (ms := R.slots) (free := q_A ad s.heap.size) (H := T'.heap) (locs := locs ++ L) (fun z hz => (htab z hz).elim) h7 (by rw [e1]; exact hce) hcv hcl
      (XC := qXC ⟨l, D, cy, ad, o⟩ (q_A ad s.heap.size) E pox) (fun t3 ht3 _ => ⟨rfl, ⟨S', hpost S' hp, by rw [ht3, e1]; exact hP'⟩, k3.F ht3⟩) k3.2.2 hR.2.1 hR.2.2 T' rfl X'
    exact ⟨t2, stp.trans a1, b1⟩
/-- new X() thrown -/
theorem q_throw0 {ik ic : Nat} (hC : qC Γ cc own nL rt R po) (hX : qX Γ R E pox) (hl0 : Γ.1.1.stackTraces = false) (hE : Bundle.fit E = true) (hk : Cond.classLink own ik E ∈ qw) (hini : Cond.initialized E ∈ qw) (hat : ∀ w ∈ vx_at0 own ic E q_nms, w ∈ q_dcl E ∨ w ∈ qw) (hins : Cond.instantiable E 6 ∈ qw)
    (d0 : decode cc pc = .ok (.new ik, 3)) (d3 : decode cc (pc + 3) = .ok (.dup, 1)) (d4 : decode cc (pc + 4) = .ok (.invokespecial ic, 3)) (d7 : decode cc (pc + 7) = .ok (.athrow, 1))
    (hRf : 5 < R.frames) (hRl : (st.map fun v => v.category).sum + 81 ≤ R.locals) (hc : k.1 + 1 ≤ R.cells) (hs : k.2 + 6 ≤ R.slots) (hpo : pox S) : qV Γ R nL pc ls st S k := by
  obtain ⟨⟨l, D, cy, ad, o⟩, ⟨p, e, s⟩, ⟨m, args, below, meth, c⟩, Q⟩ := Γ
  obtain ⟨h1, h2, h3, h4, h5, h6, h7, h8, h9, h10, h11, h12⟩ := hC
  obtain ⟨htab, Qc, hQ⟩ := hX
  subst hQ
  intro H locs la hP hS hl
  have hg : ∀ w ∈ qw, vx_ot w = true := fun w hw => by
    have := (List.mem_filter.mp hw).2
    simp only [vx_ot, this, Bool.or_true]
  refine vx_throw0 (A := q_A ad s.heap.size) (names := q_nms) h1 h2 hl0 h4 hE (by decide) (h5 _ hk) (h5 _ hini) (fun w hw => (hat w hw).elim (fun z => q_dcl_ok h5 hins w z) (fun z => h5 w z)) (fun w hw => ?_) h11.2.2.2.1.1 h11.2.2.2.1.2 hS (hl.1.trans h3.symm) d0 d3 d4 d7 (fun z hz => (htab z hz).elim) hRf hRl hc hs h7 (fun t hv hz hq => ⟨rfl, ⟨S, hpo, hP.kept fun i q hi => hq _ (hP i q hi).lt⟩, ?_⟩) hS.2.2 hc hs
  · rcases List.mem_cons.mp hw with rfl | hw
    · exact hg _ hk
    · rcases List.mem_cons.mp hw with rfl | hw
      · exact hg _ hini
      · rcases hat w hw with z | z
        · exact q_dcl_ot w z
        · exact hg _ z
  · exact ⟨Nat.le_trans hS.1 hz, fun q h1 h2 => by rw [hq q (Nat.lt_of_lt_of_le h1 hS.1)]; exact hS.2.1 q h1 h2⟩
/-! ===== METHODS WITH HANDLERS ===== -/
def qCW (L : qL) (y : MethodName) (cc : ByteArray) (nL : Nat) (ret : Option FieldType) (hh : List (Nat × Nat × Nat × Nat)) (rm : Room) {α : Type} (ar : (Nat → Nat → Nat) → qO → α → List Value) (pre : α → qM → Prop) (post : α → qM → Option Value → qM → Prop) : Prop :=
  ∀ (x : α) (S : qM) (sz : Nat), pre x S → Met L.1 y (Cond.codeWith y cc nL ret hh :: qw) rm
    (va_Pc (ar L.2.2.2.1 L.2.2.2.2 x) (fun U => U.heap.size = sz ∧ va_P L.2.1 q_cl (q_W L.2.2.2.1 L.2.2.1 S) U.heap ∧ va_K L.2.1 q_cl (q_tys L.2.2.1) U ∧ qN L.2.2.2.2 U ∧ qT L.2.2.2.2 (q_A L.2.2.2.1 sz) U U.heap))
    (qQc L (q_A L.2.2.2.1 sz) (post x S)) rm.cells rm.slots (q_A L.2.2.2.1 sz)
def qTb (Γ : qG) (hh : List (Nat × Nat × Nat × Nat)) : Prop := Γ.2.2.1.2.2.2.2.exceptionTable.toList = tableOf hh
theorem q_metW {L : qL} {y : MethodName} {cc : ByteArray} {nL : Nat} {ret : Option FieldType} {hh : List (Nat × Nat × Nat × Nat)} {rm : Room} {α : Type} {ar : (Nat → Nat → Nat) → qO → α → List Value} {pre : α → qM → Prop} {post : α → qM → Option Value → qM → Prop}
    (hD : q_D L.2.2.2.1) (hy : plainName y.cls = true) (hlen : ∀ x, (lg_sl (ar L.2.2.2.1 L.2.2.2.2 x)).length ≤ nL)
    (body : ∀ (Γ : qG) (x : α) (S : qM), Γ.1 = L → pre x S → qC Γ cc y.cls nL ret rm (post x S) → qTb Γ hh → qV Γ rm nL 0 (lv_args 0 (ar (q_ad Γ) (q_o Γ) x)) [] S (0, 0)) : qCW L y cc nL ret hh rm ar pre post := by
  obtain ⟨l, D, cy, ad, o⟩ := L
  intro x S sz hpre
  refine va_MetW (cc := cc) (maxL := nL) (ret := ret) (hh := hh) hy rfl ?_
  intro p e s m args below meth c s₁ B hml hv
  obtain ⟨rfl, hsz, hP, hK, hN, hT⟩ := hv
  dsimp only at hsz hP hK hN hT hD
  subst hsz
  have hts := atoms_spec (ws := Cond.codeWith y cc nL ret hh :: qw) B.pre
  have hown : s.vm.findClass y.cls = some m.cls := findClass_of_methodNamed B.named
  have hb := body ⟨⟨l, D, cy, ad, o⟩, ⟨p, e, s⟩, ⟨m, (ar ad o x).toArray, below, meth, c⟩, MQ below (qQc ⟨l, D, cy, ad, o⟩ (q_A ad s.heap.size) (post x S)) (ar ad o x).toArray s rm.cells rm.slots (q_A ad s.heap.size)⟩ x S rfl hpre
    ⟨B.exec, B.bytes, hml, hown, fun w hw => hts w (List.mem_cons_of_mem _ hw), B.returns, B.notSynchronized, hK, hD, hN, hT, fun _ h => h⟩ (vx_table (x := y) B (hts _ List.mem_cons_self))
  have hl := lv_entry (ar ad o x) (n := nL) (hlen x)
  rw [lg_entry_eq]
  exact hb s.heap [] _ hP va_S.rf hl
def qMw (y : MethodName) (cc : ByteArray) (nL : Nat) (ret : Option FieldType) (n : Nat) (hh : List (Nat × Nat × Nat × Nat)) : Prop :=
  Cond.static y ∈ qw ∧ Cond.initialized y.cls ∈ qw ∧ Cond.codeWith y cc nL ret hh ∈ qw ∧ y.cls ≠ "java/lang/invoke/MethodHandle" ∧ y.cls ≠ "java/lang/invoke/VarHandle" ∧ (parseMethodDescriptor y.desc).map (fun d => d.parameters.length) = some n
theorem qw_goodW {hh : List (Nat × Nat × Nat × Nat)} {nL : Nat} {y : MethodName} {cc : ByteArray} {ret : Option FieldType} {own : String} {idx : Nat} (h : Cond.codeWith y cc nL ret hh ∈ qw) (h1 : Cond.methodLink own idx y ∈ qw) (h2 : Cond.static y ∈ qw) (h3 : Cond.initialized y.cls ∈ qw) : GoodIn qw (va_wsS own idx y (Cond.codeWith y cc nL ret hh :: qw)) := by
  intro w hw
  have hm : w ∈ qw := by
    simp only [va_wsS, List.mem_append, List.mem_cons, List.not_mem_nil, or_false] at hw
    rcases hw with hw | hw
    · rcases hw with rfl | rfl | rfl <;> assumption
    · rcases hw with rfl | hw
      · exact h
      · exact hw
  exact ⟨hm, good_of_word (List.mem_filter.mp hm).2⟩
theorem q_callSW {na : Nat} {hh : List (Nat × Nat × Nat × Nat)} {postv : α → qM → Option Value → qM → Prop} {k' : Nat × Nat} (hC : qC Γ cc own nL rt R po) (hM : qCW Γ.1 y c2 nL2 ret hh rm ar pre postv) (hms : qMw y c2 nL2 ret na hh) (hlk : Cond.methodLink own idx y ∈ qw) (hd : decode cc pc = .ok (.invokestatic idx, 3)) (x : α) {st2 : List Value} (hs : (ar (q_ad Γ) (q_o Γ) x).reverse ++ st2 = st) (has : (ar (q_ad Γ) (q_o Γ) x).length = na)
    (hcat : (st2.map fun v => v.category).sum ≤ 8) (hR : qRm rm R nL2 k) (hn : pc + 3 = n) (hk' : (k.1 + rm.cells, k.2 + rm.slots) = k') (hpre : pre x S) (kk : ∀ (v : Option Value) (S' : qM), postv x S v S' → qV Γ R nL n ls (v.toList ++ st2) S' k') : qV Γ R nL pc ls st S k := by
  refine q_goon (rm := rm) (post := postv) (x := x) (args9 := (ar (q_ad Γ) (q_o Γ) x).toArray) (fun H locs la hP hS hl => ?_) hn hk' kk
  obtain ⟨⟨l, D, cy, ad, o⟩, ⟨p, e, s⟩, ⟨m, args, below, meth, c⟩, Q⟩ := Γ
  obtain ⟨h1, h2, h3, h4, h5, h6, h7, h8, h9, h10, h11, h12⟩ := hC
  obtain ⟨m1, m2, m3, m4, m5, m6⟩ := hms
  exact vx_runSW (Ts := qw) ⟨h1, h2, h3, h4, h5⟩ (hM x S H.size hpre) (vx_cwSW na h5 (qw_goodW m3 hlk m1 m2) rfl rfl rfl ⟨m4, m5, m6⟩ hR.1)
    ⟨q_blind, fun U hU hW => ⟨rfl, by rw [hU], by rw [hU]; exact hP, va_K.moved hW.alike h8, qN.warm hW h10, q_TC h11 hS hU hW⟩⟩ rfl has hl.1 hs.symm (lv_room hcat) hd hR.2
/-- a call of an instance method that throws E, caught here by the row x of the table, the rows ahead naming other classes -/
theorem q_xcV {na t i ci hp ct : Nat} {fs As : List Value} {hh : List (Nat × Nat × Nat × Nat)} {k' : Nat × Nat} (hC : qC Γ cc own nL rt R po) (hTb : qTb Γ hh) (hM : qCX Γ.1 y c2 nL2 ret rm ar pre E post) (hms : qMv y c2 nL2 ret na) (hlk : Cond.methodLink own idx y ∈ qw) (hd : decode cc pc = .ok (.invokevirtual idx, 3)) (x : α) (hx : ar (q_ad Γ) (q_o Γ) x = .ref (q_ad Γ t i) :: As) {st2 : List Value} (hs : As.reverse ++ .ref (q_ad Γ t i) :: st2 = st) (has : As.length = na)
    (he : q_enc (q_ad Γ) Γ.1.2.2.1 (S t i) t i = .inr (ci, fs)) (hci : (q_cl[ci]?).map (fun q => q.1) = some y.cls) (hi : i < q_cnt t)
    (hcat : (st2.map fun v => v.category).sum ≤ 8) (hR : qRm rm R nL2 k) (hpre : pre x S)
    (hpa : List (Nat × Nat × Nat × Nat)) (hsu : List (Nat × Nat × Nat × Nat)) (a b : Nat) (hsp : hh = hpa ++ (a, b, hp, ct) :: hsu) (hpass : ∀ z ∈ hpa, z.2.2.2 ≠ 0 ∧ ∃ nm : String, Cond.classLink own z.2.2.2 nm ∈ qw ∧ ∀ U, qN (q_o Γ) U → va_Nc E nm U) (hcov : covers ⟨a, b, hp, ct⟩ pc = true) (h0 : ct ≠ 0)
    (hcl : Cond.classLink own ct E ∈ qw) (hins : Cond.instantiable E 6 ∈ qw) (hk' : (k.1 + rm.cells, k.2 + rm.slots) = k') (kk : ∀ (q : Nat) (S' : qM), post x S S' → qV Γ R nL hp ls [.ref q] S' k') : qV Γ R nL pc ls st S k := by
  obtain ⟨⟨l, D, cy, ad, o⟩, ⟨p, e, s⟩, ⟨m, args, below, meth, c⟩, Q⟩ := Γ
  obtain ⟨h1, h2, h3, h4, h5, h6, h7, h8, h9, h10, h11, h12⟩ := hC
  obtain ⟨m0, m1, m2, m3, m4, m5, m6⟩ := hms
  have hTb : c.exceptionTable.toList = tableOf hh := hTb
  subst hk'
  intro H locs la hP hS hl
  obtain ⟨q0, hq0, hq1⟩ := q_get (ad := ad) (cy := cy) (S := S) hi
  rw [show q_enc ad cy (S t i) t i = .inr (ci, fs) from he] at hq1
  have hx' : ar ad o x = .ref (ad t i) :: As := hx
  cases hc0 : q_cl[ci]? with
  | none => rw [hc0] at hci; cases hci
  | some q =>
    rw [hc0] at hci
    have hcl' : q.1 = y.cls := Option.some.inj hci
    have hrec := va_recv h8 hP hc0 hq1
    rw [hcl'] at hrec
    have hr := vx_runV (Ts := qw) (C := y.cls) (l := l) (e := e) (below := below) (meth := meth) (locs := locs) (cells := k.1) (slots := k.2) ⟨h1, h2, h3, h4, h5⟩ (hM x S H.size hpre) ⟨callB_of na h5 (qw_goodIn m3) rfl rfl rfl (h5 _ m2) (h5 _ hlk) ⟨m4, m5, m6⟩ hR.1, h5 _ m0, h5 _ m1⟩
      ⟨q_blind, hrec, fun U hU hW => ⟨(congrArg List.toArray hx').symm, by rw [hU], by rw [hU]; exact hP, va_K.moved hW.alike h8, qN.warm hW h10, q_TC h11 hS hU hW⟩⟩ (g := F0 m pc la st) rfl has hl.1 hs.symm (lv_room hcat) hd hR.2
    intro T hT X
    rcases hr T hT X with ⟨v, st₀, t, T', L, h0', X', hL, e1, e2, hf, stp⟩ | ⟨q9, st₀, t, T', L, E', ce, h0', X', hL, e1, e2, ⟨hE9, ⟨S', hp', hP'⟩, hF⟩, hce, hcv, hcl9, stp⟩
    · exact hf.elim
    · rw [hE9] at hcl9
      obtain ⟨k1, k2, k3⟩ := vx_keep (A0 := q_A ad s.heap.size) h0' e1 hS (fun q _ z => q_AF hS.1 q z) (fun q z => q_AF hS.1 q z) hL hF
      have hcat := vx_catch (p := p) (l := l) (e := e) (R := R) (s := s) (m := m) (args := args) (below := below) (meth := meth) (c := c) (H := T'.heap) (locs := locs ++ L) (cells := k.1 + rm.cells) (slots := k.2 + rm.slots) (Q := Q) (pc := pc) (ls := la) (rest := st2) (own := own) (name := E) (E := E) (ce := ce) (q := q9) h4 (tableOf hpa) ⟨a, b, hp, ct⟩ (tableOf hsu)
        (by rw [hTb, hsp]; simp [tableOf]) (fun z hz => by
          obtain ⟨w, hw, rfl⟩ := List.mem_map.mp hz
          obtain ⟨z1, nm, z2, z3⟩ := hpass w hw
          exact Or.inr ⟨z1, nm, h5 _ z2, z3 s h10⟩) hcov h0 (h5 _ hcl) (q_castR (h5 _ hins)) (by rw [e1]; exact hce) hcv hcl9
        (kk q9 S' hp' T'.heap (locs ++ L) la (by rw [e1]; exact hP') k3 hl)
      obtain ⟨t2, a1, b1⟩ := hcat T' rfl X'
      exact ⟨t2, stp.trans a1, b1⟩
/-- .. that returns or throws E -/
theorem q_xbV {postv : α → qM → Option Value → qM → Prop} {na t i ci hp ct : Nat} {fs As : List Value} {hh : List (Nat × Nat × Nat × Nat)} {k' : Nat × Nat} (hC : qC Γ cc own nL rt R po) (hTb : qTb Γ hh) (hM : qCB Γ.1 y c2 nL2 ret rm ar pre postv E post) (hms : qMv y c2 nL2 ret na) (hlk : Cond.methodLink own idx y ∈ qw) (hd : decode cc pc = .ok (.invokevirtual idx, 3)) (x : α) (hx : ar (q_ad Γ) (q_o Γ) x = .ref (q_ad Γ t i) :: As) {st2 : List Value} (hs : As.reverse ++ .ref (q_ad Γ t i) :: st2 = st) (has : As.length = na)
    (he : q_enc (q_ad Γ) Γ.1.2.2.1 (S t i) t i = .inr (ci, fs)) (hci : (q_cl[ci]?).map (fun q => q.1) = some y.cls) (hi : i < q_cnt t)
    (hcat : (st2.map fun v => v.category).sum ≤ 8) (hR : qRm rm R nL2 k) (hpre : pre x S)
    (hpa : List (Nat × Nat × Nat × Nat)) (hsu : List (Nat × Nat × Nat × Nat)) (a b : Nat) (hsp : hh = hpa ++ (a, b, hp, ct) :: hsu) (hpass : ∀ z ∈ hpa, z.2.2.2 ≠ 0 ∧ ∃ nm : String, Cond.classLink own z.2.2.2 nm ∈ qw ∧ ∀ U, qN (q_o Γ) U → va_Nc E nm U) (hcov : covers ⟨a, b, hp, ct⟩ pc = true) (h0 : ct ≠ 0)
    (hcl : Cond.classLink own ct E ∈ qw) (hins : Cond.instantiable E 6 ∈ qw) (hk' : (k.1 + rm.cells, k.2 + rm.slots) = k') (kk : ∀ (q : Nat) (S' : qM), post x S S' → qV Γ R nL hp ls [.ref q] S' k') (hn : pc + 3 = n) (kr : ∀ (v : Option Value) (S' : qM), postv x S v S' → qV Γ R nL n ls (v.toList ++ st2) S' k') : qV Γ R nL pc ls st S k := by
  obtain ⟨⟨l, D, cy, ad, o⟩, ⟨p, e, s⟩, ⟨m, args, below, meth, c⟩, Q⟩ := Γ
  obtain ⟨h1, h2, h3, h4, h5, h6, h7, h8, h9, h10, h11, h12⟩ := hC
  obtain ⟨m0, m1, m2, m3, m4, m5, m6⟩ := hms
  have hTb : c.exceptionTable.toList = tableOf hh := hTb
  subst hk'
  subst hn
  intro H locs la hP hS hl
  obtain ⟨q0, hq0, hq1⟩ := q_get (ad := ad) (cy := cy) (S := S) hi
  rw [show q_enc ad cy (S t i) t i = .inr (ci, fs) from he] at hq1
  have hx' : ar ad o x = .ref (ad t i) :: As := hx
  cases hc0 : q_cl[ci]? with
  | none => rw [hc0] at hci; cases hci
  | some q =>
    rw [hc0] at hci
    have hcl' : q.1 = y.cls := Option.some.inj hci
    have hrec := va_recv h8 hP hc0 hq1
    rw [hcl'] at hrec
    have hr := vx_runV (Ts := qw) (C := y.cls) (l := l) (e := e) (below := below) (meth := meth) (locs := locs) (cells := k.1) (slots := k.2) ⟨h1, h2, h3, h4, h5⟩ (hM x S H.size hpre) ⟨callB_of na h5 (qw_goodIn m3) rfl rfl rfl (h5 _ m2) (h5 _ hlk) ⟨m4, m5, m6⟩ hR.1, h5 _ m0, h5 _ m1⟩
      ⟨q_blind, hrec, fun U hU hW => ⟨(congrArg List.toArray hx').symm, by rw [hU], by rw [hU]; exact hP, va_K.moved hW.alike h8, qN.warm hW h10, q_TC h11 hS hU hW⟩⟩ (g := F0 m pc la st) rfl has hl.1 hs.symm (lv_room hcat) hd hR.2
    intro T hT X
    rcases hr T hT X with ⟨v, st₀, t, T', L, h0', X', hL, e1, e2, ⟨⟨v', S', hv, hp', hP'⟩, hz, hkq⟩, stp⟩ | ⟨q9, st₀, t, T', L, E', ce, h0', X', hL, e1, e2, ⟨hE9, ⟨S', hp', hP'⟩, hF⟩, hce, hcv, hcl9, stp⟩
    · cases hv
      rw [h0'] at hz hkq
      have hS' : va_S (q_A ad s.heap.size) s.heap T'.heap (locs ++ L) := by
        refine ⟨Nat.le_trans hS.1 (by rw [e1]; exact hz), fun q h1 h2 => ?_, fun q hq => ?_⟩
        · rw [e1, hkq q (Nat.lt_of_lt_of_le h1 hS.1) (fun z => h2 (q_AF hS.1 q z))]
          exact hS.2.1 q h1 h2
        · rcases List.mem_append.mp hq with h | h
          · exact hS.2.2 q h
          · exact q_AF hS.1 _ (hL q h)
      obtain ⟨t2, a1, b1⟩ := kr v S' hp' T'.heap (locs ++ L) la (by rw [e1]; exact hP') hS' hl T' rfl X'
      exact ⟨t2, stp t2 a1, b1⟩
    · rw [hE9] at hcl9
      obtain ⟨k1, k2, k3⟩ := vx_keep (A0 := q_A ad s.heap.size) h0' e1 hS (fun q _ z => q_AF hS.1 q z) (fun q z => q_AF hS.1 q z) hL hF
      have hcat := vx_catch (p := p) (l := l) (e := e) (R := R) (s := s) (m := m) (args := args) (below := below) (meth := meth) (c := c) (H := T'.heap) (locs := locs ++ L) (cells := k.1 + rm.cells) (slots := k.2 + rm.slots) (Q := Q) (pc := pc) (ls := la) (rest := st2) (own := own) (name := E) (E := E) (ce := ce) (q := q9) h4 (tableOf hpa) ⟨a, b, hp, ct⟩ (tableOf hsu)
        (by rw [hTb, hsp]; simp [tableOf]) (fun z hz => by
          obtain ⟨w, hw, rfl⟩ := List.mem_map.mp hz
          obtain ⟨z1, nm, z2, z3⟩ := hpass w hw
          exact Or.inr ⟨z1, nm, h5 _ z2, z3 s h10⟩) hcov h0 (h5 _ hcl) (q_castR (h5 _ hins)) (by rw [e1]; exact hce) hcv hcl9
        (kk q9 S' hp' T'.heap (locs ++ L) la (by rw [e1]; exact hP') k3 hl)
      obtain ⟨t2, a1, b1⟩ := hcat T' rfl X'
      exact ⟨t2, stp.trans a1, b1⟩
end QX
def hh_L_above : List (Nat × Nat × Nat × Nat) := [(0, 8, 9, 17), (0, 8, 15, 23), (0, 8, 21, 31)]
theorem mw_L_above : qMw yL_above cL_above 5 (some .long) 4 hh_L_above := ⟨qw_mem (i := 941) (by decide +kernel) rfl, qw_mem (i := 29) (by decide +kernel) rfl, qw_mem (i := 942) (by decide +kernel) rfl, by decide, by decide, by decide +kernel⟩
def hh_L_act : List (Nat × Nat × Nat × Nat) := [(0, 14, 15, 17), (0, 14, 21, 23), (0, 14, 27, 76)]
theorem mw_L_act : qMw yL_act cL_act 8 (some .long) 7 hh_L_act := ⟨qw_mem (i := 1099) (by decide +kernel) rfl, qw_mem (i := 29) (by decide +kernel) rfl, qw_mem (i := 1100) (by decide +kernel) rfl, by decide, by decide, by decide +kernel⟩
def hh_L_check : List (Nat × Nat × Nat × Nat) := [(0, 6, 7, 17)]
theorem mw_L_check : qMw yL_check cL_check 3 (some .long) 2 hh_L_check := ⟨qw_mem (i := 1017) (by decide +kernel) rfl, qw_mem (i := 29) (by decide +kernel) rfl, qw_mem (i := 1018) (by decide +kernel) rfl, by decide, by decide, by decide +kernel⟩
def hh_L_copy : List (Nat × Nat × Nat × Nat) := [(0, 7, 8, 17)]
theorem mw_L_copy : qMw yL_copy cL_copy 4 (some .long) 3 hh_L_copy := ⟨qw_mem (i := 403) (by decide +kernel) rfl, qw_mem (i := 29) (by decide +kernel) rfl, qw_mem (i := 404) (by decide +kernel) rfl, by decide, by decide, by decide +kernel⟩
def hh_L_fault : List (Nat × Nat × Nat × Nat) := [(0, 5, 6, 31)]
theorem mw_L_fault : qMw yL_fault cL_fault 2 (some .long) 1 hh_L_fault := ⟨qw_mem (i := 713) (by decide +kernel) rfl, qw_mem (i := 29) (by decide +kernel) rfl, qw_mem (i := 714) (by decide +kernel) rfl, by decide, by decide, by decide +kernel⟩
def hh_L_field : List (Nat × Nat × Nat × Nat) := [(0, 16, 17, 17), (0, 16, 23, 23), (0, 16, 29, 31)]
theorem mw_L_field : qMw yL_field cL_field 9 (some .long) 8 hh_L_field := ⟨qw_mem (i := 987) (by decide +kernel) rfl, qw_mem (i := 29) (by decide +kernel) rfl, qw_mem (i := 988) (by decide +kernel) rfl, by decide, by decide, by decide +kernel⟩
def hh_L_fits : List (Nat × Nat × Nat × Nat) := [(0, 14, 15, 17), (0, 14, 20, 66)]
theorem mw_L_fits : qMw yL_fits cL_fits 4 (some .long) 3 hh_L_fits := ⟨qw_mem (i := 739) (by decide +kernel) rfl, qw_mem (i := 29) (by decide +kernel) rfl, qw_mem (i := 740) (by decide +kernel) rfl, by decide, by decide, by decide +kernel⟩
def hh_L_flag : List (Nat × Nat × Nat × Nat) := [(0, 17, 18, 17), (0, 17, 24, 23), (0, 17, 30, 31)]
theorem mw_L_flag : qMw yL_flag cL_flag 6 (some .long) 5 hh_L_flag := ⟨qw_mem (i := 995) (by decide +kernel) rfl, qw_mem (i := 29) (by decide +kernel) rfl, qw_mem (i := 996) (by decide +kernel) rfl, by decide, by decide, by decide +kernel⟩
def hh_L_maker : List (Nat × Nat × Nat × Nat) := [(0, 8, 9, 17), (0, 8, 15, 23), (0, 8, 21, 31)]
theorem mw_L_maker : qMw yL_maker cL_maker 5 (some .long) 4 hh_L_maker := ⟨qw_mem (i := 1006) (by decide +kernel) rfl, qw_mem (i := 29) (by decide +kernel) rfl, qw_mem (i := 1007) (by decide +kernel) rfl, by decide, by decide, by decide +kernel⟩
def hh_L_method : List (Nat × Nat × Nat × Nat) := [(0, 16, 17, 17), (0, 16, 23, 23), (0, 16, 29, 31)]
theorem mw_L_method : qMw yL_method cL_method 9 (some .long) 8 hh_L_method := ⟨qw_mem (i := 965) (by decide +kernel) rfl, qw_mem (i := 29) (by decide +kernel) rfl, qw_mem (i := 966) (by decide +kernel) rfl, by decide, by decide, by decide +kernel⟩
def hh_L_own : List (Nat × Nat × Nat × Nat) := [(0, 14, 15, 17), (0, 14, 20, 66)]
theorem mw_L_own : qMw yL_own cL_own 4 (some .long) 3 hh_L_own := ⟨qw_mem (i := 1044) (by decide +kernel) rfl, qw_mem (i := 29) (by decide +kernel) rfl, qw_mem (i := 1045) (by decide +kernel) rfl, by decide, by decide, by decide +kernel⟩
def hh_L_ownAbove : List (Nat × Nat × Nat × Nat) := [(0, 7, 8, 17), (0, 7, 13, 23), (0, 7, 18, 66)]
theorem mw_L_ownAbove : qMw yL_ownAbove cL_ownAbove 4 (some .long) 3 hh_L_ownAbove := ⟨qw_mem (i := 1052) (by decide +kernel) rfl, qw_mem (i := 29) (by decide +kernel) rfl, qw_mem (i := 1053) (by decide +kernel) rfl, by decide, by decide, by decide +kernel⟩
def hh_L_ownMethod : List (Nat × Nat × Nat × Nat) := [(0, 8, 9, 17), (0, 8, 15, 23), (0, 8, 21, 66)]
theorem mw_L_ownMethod : qMw yL_ownMethod cL_ownMethod 5 (some .long) 4 hh_L_ownMethod := ⟨qw_mem (i := 1087) (by decide +kernel) rfl, qw_mem (i := 29) (by decide +kernel) rfl, qw_mem (i := 1088) (by decide +kernel) rfl, by decide, by decide, by decide +kernel⟩
def hh_L_ownUnder : List (Nat × Nat × Nat × Nat) := [(0, 15, 16, 17), (0, 15, 22, 23), (0, 15, 28, 66), (0, 15, 34, 76)]
theorem mw_L_ownUnder : qMw yL_ownUnder cL_ownUnder 5 (some .long) 4 hh_L_ownUnder := ⟨qw_mem (i := 1059) (by decide +kernel) rfl, qw_mem (i := 29) (by decide +kernel) rfl, qw_mem (i := 1060) (by decide +kernel) rfl, by decide, by decide, by decide +kernel⟩
def hh_L_run : List (Nat × Nat × Nat × Nat) := [(0, 7, 8, 17), (0, 7, 13, 66)]
theorem mw_L_run : qMw yL_run cL_run 4 (some .long) 3 hh_L_run := ⟨qw_mem (i := 534) (by decide +kernel) rfl, qw_mem (i := 29) (by decide +kernel) rfl, qw_mem (i := 535) (by decide +kernel) rfl, by decide, by decide, by decide +kernel⟩
def hh_L_type : List (Nat × Nat × Nat × Nat) := [(0, 8, 9, 17), (0, 8, 15, 23)]
theorem mw_L_type : qMw yL_type cL_type 5 (some .long) 4 hh_L_type := ⟨qw_mem (i := 851) (by decide +kernel) rfl, qw_mem (i := 29) (by decide +kernel) rfl, qw_mem (i := 852) (by decide +kernel) rfl, by decide, by decide, by decide +kernel⟩
def hh_L_under : List (Nat × Nat × Nat × Nat) := [(0, 17, 18, 17), (0, 17, 24, 23), (0, 17, 30, 31)]
theorem mw_L_under : qMw yL_under cL_under 6 (some .long) 5 hh_L_under := ⟨qw_mem (i := 954) (by decide +kernel) rfl, qw_mem (i := 29) (by decide +kernel) rfl, qw_mem (i := 955) (by decide +kernel) rfl, by decide, by decide, by decide +kernel⟩
def hh_L_wipe : List (Nat × Nat × Nat × Nat) := [(0, 6, 7, 17)]
theorem mw_L_wipe : qMw yL_wipe cL_wipe 3 (some .long) 2 hh_L_wipe := ⟨qw_mem (i := 1030) (by decide +kernel) rfl, qw_mem (i := 29) (by decide +kernel) rfl, qw_mem (i := 1031) (by decide +kernel) rfl, by decide, by decide, by decide +kernel⟩
def hh_L_witness : List (Nat × Nat × Nat × Nat) := [(0, 8, 9, 17), (0, 8, 15, 66), (0, 8, 21, 31)]
theorem mw_L_witness : qMw yL_witness cL_witness 5 (some .long) 4 hh_L_witness := ⟨qw_mem (i := 802) (by decide +kernel) rfl, qw_mem (i := 29) (by decide +kernel) rfl, qw_mem (i := 803) (by decide +kernel) rfl, by decide, by decide, by decide +kernel⟩
theorem m_J0_charAt_5068e : qMv yJ0_charAt_5068e cJ0_charAt_5068e 2 (some .char) 1 := ⟨qw_mem (i := 901) (by decide +kernel) rfl, qw_mem (i := 902) (by decide +kernel) rfl, qw_mem (i := 44) (by decide +kernel) rfl, qw_mem (i := 903) (by decide +kernel) rfl, by decide, by decide, by decide +kernel⟩
theorem m_J0_checkIndex_df160 : qMs yJ0_checkIndex_df160 cJ0_checkIndex_df160 2 none 2 := ⟨qw_mem (i := 914) (by decide +kernel) rfl, qw_mem (i := 44) (by decide +kernel) rfl, qw_mem (i := 915) (by decide +kernel) rfl, by decide, by decide, by decide +kernel⟩
theorem m_J0_isLatin1_aae02 : qMv yJ0_isLatin1_aae02 cJ0_isLatin1_aae02 1 (some .boolean) 0 := ⟨qw_mem (i := 905) (by decide +kernel) rfl, qw_mem (i := 906) (by decide +kernel) rfl, qw_mem (i := 44) (by decide +kernel) rfl, qw_mem (i := 907) (by decide +kernel) rfl, by decide, by decide, by decide +kernel⟩
theorem m_J1_charAt_3b067 : qMs yJ1_charAt_3b067 cJ1_charAt_3b067 2 (some .char) 2 := ⟨qw_mem (i := 911) (by decide +kernel) rfl, qw_mem (i := 46) (by decide +kernel) rfl, qw_mem (i := 912) (by decide +kernel) rfl, by decide, by decide, by decide +kernel⟩
theorem m_J3_checkIndex_8e157 : qMs yJ3_checkIndex_8e157 cJ3_checkIndex_8e157 3 (some .int) 3 := ⟨qw_mem (i := 919) (by decide +kernel) rfl, qw_mem (i := 47) (by decide +kernel) rfl, qw_mem (i := 920) (by decide +kernel) rfl, by decide, by decide, by decide +kernel⟩
theorem lk_J0_492 : Cond.methodLink RJ0 492 yJ0_isLatin1_aae02 ∈ qw := qw_mem (i := 904) (by decide +kernel) rfl
theorem lk_J0_495 : Cond.methodLink RJ0 495 yJ1_charAt_3b067 ∈ qw := qw_mem (i := 910) (by decide +kernel) rfl
theorem lk_J0_1059 : Cond.methodLink RJ0 1059 yJ3_checkIndex_8e157 ∈ qw := qw_mem (i := 918) (by decide +kernel) rfl
theorem lk_J1_9 : Cond.methodLink RJ1 9 yJ0_checkIndex_df160 ∈ qw := qw_mem (i := 913) (by decide +kernel) rfl
theorem lk_J2_414 : Cond.methodLink RJ2 414 yJ0_checkIndex_df160 ∈ qw := qw_mem (i := 930) (by decide +kernel) rfl
theorem fj_J0_9 : Cond.fieldLink RJ0 9 "java/lang/String" "value" "[B" ∈ qw := qw_mem (i := 1137) (by decide +kernel) rfl
theorem fj_J0_15 : Cond.fieldLink RJ0 15 "java/lang/String" "coder" "B" ∈ qw := qw_mem (i := 1136) (by decide +kernel) rfl
theorem fj_J0_38 : Cond.fieldLink RJ0 38 "java/lang/String" "COMPACT_STRINGS" "Z" ∈ qw := qw_mem (i := 908) (by decide +kernel) rfl
theorem fj_J0_1053 : Cond.fieldLink RJ0 1053 "jdk/internal/util/Preconditions" "SIOOBE_FORMATTER" "Ljava/util/function/BiFunction;" ∈ qw := qw_mem (i := 916) (by decide +kernel) rfl
theorem fj_J2_44 : Cond.fieldLink RJ2 44 "java/lang/StringUTF16" "$assertionsDisabled" "Z" ∈ qw := qw_mem (i := 934) (by decide +kernel) rfl
theorem fj_J2_59 : Cond.fieldLink RJ2 59 "java/lang/StringUTF16" "HI_BYTE_SHIFT" "I" ∈ qw := qw_mem (i := 936) (by decide +kernel) rfl
theorem fj_J2_63 : Cond.fieldLink RJ2 63 "java/lang/StringUTF16" "LO_BYTE_SHIFT" "I" ∈ qw := qw_mem (i := 938) (by decide +kernel) rfl
/-! ===== THE LAW'S TEXTS ===== -/
section QTX
variable {Γ : qG} {cc : ByteArray} {own : String} {nL : Nat} {rt : Option FieldType} {R : Room} {po : Option Value → qM → Prop} {pc n : Nat} {ls ls' : List (Nat × Value)} {st : List Value} {S : qM} {k : Nat × Nat}
variable {y : MethodName} {c2 : ByteArray} {nL2 idx : Nat} {ret : Option FieldType} {rm : Room} {α : Type} {ar : (Nat → Nat → Nat) → qO → α → List Value} {pre : α → qM → Prop} {post : α → qM → Option Value → qM → Prop} {x : α} {k' : Nat × Nat}
abbrev q_sK (Γ : qG) (j : Nat) : Nat := (q_o Γ).1.2.2.2.1 j
abbrev q_sV (Γ : qG) (j : Nat) : Nat := (q_o Γ).1.2.2.2.2 j
theorem q_ldcS {i : Nat} (j : Nat) (hC : qC Γ cc "LinkwitnessLaw" nL rt R po) (hd : decode cc pc = .ok (.ldc i, 2)) (hj : j < 7) (hi : q_sidx j = i) (hn : pc + 2 = n) (kk : qV Γ R nL n ls (.ref (q_sK Γ j) :: st) S k) : qV Γ R nL pc ls st S k := by
  obtain ⟨⟨l, D, cy, ad, o⟩, ⟨p, e, s⟩, ⟨m, args, below, meth, c⟩, Q⟩ := Γ
  subst hn
  subst hi
  obtain ⟨h1, h2, h3, h4, h5, h6, h7, h8, h9, h10, h11, h12⟩ := hC
  exact fun H locs la hP hS hl => va_ldcS h1 h2 h4 (h10.2.1 j hj) hd (kk H locs la hP hS hl)
/-- a call by a text -/
theorem q_callT {na j : Nat} {As : List Value} (hC : qC Γ cc own nL rt R po) (hM : qCT Γ.1 y c2 nL2 ret rm ar pre post) (hms : qMv y c2 nL2 ret na) (hycls : y.cls = "java/lang/String") (hlk : Cond.methodLink own idx y ∈ qw) (hd : decode cc pc = .ok (.invokevirtual idx, 3)) (x : α) (hj : j < 7) (hx : ar (q_ad Γ) (q_o Γ) x = .ref (q_sK Γ j) :: As) {st2 : List Value} (hs : As.reverse ++ .ref (q_sK Γ j) :: st2 = st) (has : As.length = na)
    (hcat : (st2.map fun v => v.category).sum ≤ 8) (hR : qRm rm R nL2 k) (hn : pc + 3 = n) (hk' : (k.1 + rm.cells, k.2 + rm.slots) = k') (hpre : pre x S) (kk : ∀ (v : Option Value) (S' : qM), post x S v S' → qV Γ R nL n ls (v.toList ++ st2) S' k') : qV Γ R nL pc ls st S k := by
  refine q_goon (rm := rm) (post := post) (x := x) (args9 := (Value.ref (q_sK Γ j) :: As).toArray) (fun H locs la hP hS hl => ?_) hn hk' kk
  obtain ⟨⟨l, D, cy, ad, o⟩, ⟨p, e, s⟩, ⟨m, args, below, meth, c⟩, Q⟩ := Γ
  obtain ⟨h1, h2, h3, h4, h5, h6, h7, h8, h9, h10, h11, h12⟩ := hC
  obtain ⟨m0, m1, m2, m3, m4, m5, m6⟩ := hms
  have hx' : ar ad o x = .ref (o.1.2.2.2.1 j) :: As := hx
  have hrec := vk_recv h11.2.2.2.2.2 hj hS
  exact va_runV (Ts := qw) (C := y.cls) ⟨h1, h2, h3, h4, h5⟩ (hM x S H.size hpre) ⟨callB_of na h5 (qw_goodIn m3) rfl rfl rfl (h5 _ m2) (h5 _ hlk) ⟨m4, m5, m6⟩ hR.1, h5 _ m0, h5 _ m1⟩
    ⟨q_blind, by rw [hycls]; exact hrec, fun U hU hW => ⟨(congrArg List.toArray hx').symm, by rw [hU], by rw [hU]; exact hP, va_K.moved hW.alike h8, qN.warm hW h10, q_TC h11 hS hU hW⟩⟩ rfl has hl.1 hs.symm (lv_room hcat) hd hR.2
theorem q_sCoder {j : Nat} (hC : qC Γ cc own nL rt R po) (hj : j < 7) (hlk : Cond.fieldLink own idx "java/lang/String" "coder" "B" ∈ qw) (hd : decode cc pc = .ok (.getfield idx, 3)) (hn : pc + 3 = n) (kk : qV Γ R nL n ls (.int 0 :: st) S k) : qV Γ R nL pc ls (.ref (q_sK Γ j) :: st) S k := by
  obtain ⟨⟨l, D, cy, ad, o⟩, ⟨p, e, s⟩, ⟨m, args, below, meth, c⟩, Q⟩ := Γ
  subst hn
  obtain ⟨h1, h2, h3, h4, h5, h6, h7, h8, h9, h10, h11, h12⟩ := hC
  exact fun H locs la hP hS hl => vk_getf h1 h2 (h11.2.2.2.2.2.1 j hj).2.1 hS h4 (h5 _ hlk) (fun _ h => h) hd (kk H locs la hP hS hl)
theorem q_sValue {j : Nat} (hC : qC Γ cc own nL rt R po) (hj : j < 7) (hlk : Cond.fieldLink own idx "java/lang/String" "value" "[B" ∈ qw) (hd : decode cc pc = .ok (.getfield idx, 3)) (hn : pc + 3 = n) (kk : qV Γ R nL n ls (.ref (q_sV Γ j) :: st) S k) : qV Γ R nL pc ls (.ref (q_sK Γ j) :: st) S k := by
  obtain ⟨⟨l, D, cy, ad, o⟩, ⟨p, e, s⟩, ⟨m, args, below, meth, c⟩, Q⟩ := Γ
  subst hn
  obtain ⟨h1, h2, h3, h4, h5, h6, h7, h8, h9, h10, h11, h12⟩ := hC
  exact fun H locs la hP hS hl => vk_getf h1 h2 (h11.2.2.2.2.2.1 j hj).2.2.1 hS h4 (h5 _ hlk) (fun _ h => h) hd (kk H locs la hP hS hl)
theorem q_sLen {j : Nat} (hC : qC Γ cc own nL rt R po) (hj : j < 7) (hd : decode cc pc = .ok (.arraylength, 1)) (hn : pc + 1 = n) (kk : qV Γ R nL n ls (.int (nI (q_sln.getD j 0)) :: st) S k) : qV Γ R nL pc ls (.ref (q_sV Γ j) :: st) S k := by
  obtain ⟨⟨l, D, cy, ad, o⟩, ⟨p, e, s⟩, ⟨m, args, below, meth, c⟩, Q⟩ := Γ
  subst hn
  obtain ⟨h1, h2, h3, h4, h5, h6, h7, h8, h9, h10, h11, h12⟩ := hC
  exact fun H locs la hP hS hl => va_tlen h1 h2 (h11.2.2.2.2.2.1 j hj).2.2.2 hS rfl hd (kk H locs la hP hS hl)
theorem q_sByte {j : Nat} {i : Int32} (hC : qC Γ cc own nL rt R po) (hj : j < 7) (hin : vp_in i (q_sln.getD j 0)) (hd : decode cc pc = .ok (.baload, 1)) (hn : pc + 1 = n) (kk : qV Γ R nL n ls (.int ((q_sbyt.getD j []).getD i.toNatClampNeg 0) :: st) S k) : qV Γ R nL pc ls (.int i :: .ref (q_sV Γ j) :: st) S k := by
  obtain ⟨⟨l, D, cy, ad, o⟩, ⟨p, e, s⟩, ⟨m, args, below, meth, c⟩, Q⟩ := Γ
  subst hn
  obtain ⟨h1, h2, h3, h4, h5, h6, h7, h8, h9, h10, h11, h12⟩ := hC
  exact fun H locs la hP hS hl => va_tb h1 h2 (h11.2.2.2.2.2.1 j hj).2.2.2 hS hin rfl hd (kk H locs la hP hS hl)
theorem q_getsCS (hC : qC Γ cc own nL rt R po) (hlk : Cond.fieldLink own idx "java/lang/String" "COMPACT_STRINGS" "Z" ∈ qw) (hd : decode cc pc = .ok (.getstatic idx, 3)) (hn : pc + 3 = n) (kk : qV Γ R nL n ls (.int 1 :: st) S k) : qV Γ R nL pc ls st S k := by
  obtain ⟨⟨l, D, cy, ad, o⟩, ⟨p, e, s⟩, ⟨m, args, below, meth, c⟩, Q⟩ := Γ
  subst hn
  obtain ⟨h1, h2, h3, h4, h5, h6, h7, h8, h9, h10, h11, h12⟩ := hC
  exact fun H locs la hP hS hl => va_gets h1 h2 h11.2.2.2.2.1.1 hS h4 (h5 _ hlk) (fun _ h => h) hd (kk H locs la hP hS hl)
theorem q_getsFM (hC : qC Γ cc own nL rt R po) (hlk : Cond.fieldLink own idx "jdk/internal/util/Preconditions" "SIOOBE_FORMATTER" "Ljava/util/function/BiFunction;" ∈ qw) (hd : decode cc pc = .ok (.getstatic idx, 3)) (hn : pc + 3 = n) (kk : ∀ v : Value, v = .null ∨ (∃ t, v = .ref t) → qV Γ R nL n ls (v :: st) S k) : qV Γ R nL pc ls st S k := by
  obtain ⟨⟨l, D, cy, ad, o⟩, ⟨p, e, s⟩, ⟨m, args, below, meth, c⟩, Q⟩ := Γ
  subst hn
  obtain ⟨h1, h2, h3, h4, h5, h6, h7, h8, h9, h10, h11, h12⟩ := hC
  rcases h11.2.2.2.2.1.2 with hz | ⟨t, hz⟩
  · exact fun H locs la hP hS hl => va_gets h1 h2 hz hS h4 (h5 _ hlk) (fun _ h => h) hd (kk _ (Or.inl rfl) H locs la hP hS hl)
  · exact fun H locs la hP hS hl => va_gets h1 h2 hz hS h4 (h5 _ hlk) (fun _ h => h) hd (kk _ (Or.inr ⟨t, rfl⟩) H locs la hP hS hl)
end QTX
