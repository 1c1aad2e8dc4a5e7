section
-- pasted from the claim's printed text (kit): exceptions and their catching
/-! ===== BEGIN words of one list among another's, by their places ===== -/
theorem goodIn_r {big : List Cond} (ws : List Cond) (ps : List Nat) (hp : ws = ps.filterMap (fun i => big[i]?)) (h : ws.all goodWord = true) : GoodIn big ws := by
  intro w hw
  have h1 := List.all_eq_true.mp h w hw
  rw [hp] at hw
  obtain ⟨i, -, hi⟩ := List.mem_filterMap.mp hw
  have hm : w ∈ big := by first | exact List.mem_of_getElem? hi | exact List.getElem?_mem hi
  exact ⟨hm, good_of_word h1⟩
theorem goodIn_app {big a b : List Cond} (ha : GoodIn big a) (hb : GoodIn big b) : GoodIn big (a ++ b) := fun w h => (List.mem_append.mp h).elim (ha w) (hb w)
theorem goodIn_ca {big a b : List Cond} {c : Cond} (ha : GoodIn big (c :: a)) (hb : GoodIn big b) : GoodIn big (c :: (a ++ b)) := fun w h => (List.mem_cons.mp h).elim (fun e => ha w (List.mem_cons.mpr (Or.inl e))) (fun h => (List.mem_append.mp h).elim (fun h => ha w (List.mem_cons.mpr (Or.inr h))) (hb w))
theorem goodIn_sub {big ws : List Cond} (hm : ∀ w ∈ ws, w ∈ big) (h : ws.all goodWord = true) : GoodIn big ws := fun w hw => ⟨hm w hw, good_of_word (List.all_eq_true.mp h w hw)⟩
/-! ===== END ===== -/

/-! ===== BEGIN exceptions that leave a method, and their catching by the caller (launches without stack traces) ===== -/
section VXA
/-! The laws vx_back, vx_callV, vx_callS, vx_callSW, vx_throw0, vx_throwS follow proofs of the library, with one case more: JvmDerived/Free/Laws.lean (Back.of_free), Shelf42/LK1.lean (callV, callS), Shelf/KitTraced.lean (throwNew0V, throwNewS). -/
/-- where a method has thrown q: the class by its name, the cell, what was written, the world -/
def vx_T (XC : String → State → State → Prop) (st : State) (q : Addr) (t : State) (mc ms : Nat) (free : Addr → Prop) : Prop :=
  ∃ (E : String) (ce : Cell) (L : List Loc), XC E st t ∧ t.heap[q]? = some ce ∧ ce.vm = .none ∧ st.vm.findClass E = some ce.cls ∧ st.WarmedH t.vm ∧ st.sameButNew ({ t with vm := st.vm } : State) L mc ms ∧ ∀ z ∈ L, free z.base
def vx_Q (Qc : Array Value → State → Outcome → State → Prop) (XC : String → State → State → Prop) (mc ms : Nat) (free : Addr → Prop) : Array Value → State → Outcome → State → Prop := fun a st o t =>
  (Qc a st o t ∧ ∃ L, FrameEnd st o t L mc ms ∧ ∀ q ∈ L, free q.base) ∨ ∃ q, o = .threw q ∧ vx_T XC st q t mc ms free
/-- a callee that returns or throws -/
def vx_Met (l : Launch) (y : MethodName) (ws : List Cond) (rm : Room) (Pc : Array Value → State → Prop) (Qc : Array Value → State → Outcome → State → Prop) (XC : String → State → State → Prop) (mc ms : Nat) (free : Addr → Prop) : Prop :=
  MetFree l y (headSpec ws rm) Pc (fun _ _ _ _ _ => True) (vx_Q Qc XC mc ms free)
def vx_Post (XC : String → State → State → Prop) (mc ms : Nat) (free : Addr → Prop) : Pt → Array Value → Addr → Pt → Prop := fun A a q B =>
  ∃ (g : JFrame) (mk : MethodId) (t : State) (L : List Loc) (E : String) (ce : Cell), B.U.heap = t.heap ∧ B.U.vm = t.vm ∧ XC E (A.U.calling g mk a) t ∧ t.heap[q]? = some ce ∧ ce.vm = .none ∧ A.U.vm.findClass E = some ce.cls ∧ B.locs = A.locs ++ L ∧ (∀ z ∈ L, free z.base) ∧ B.cells = A.cells + mc ∧ B.slots = A.slots + ms
def vx_Back (l : Launch) (R : Room) (p : Program) (e : Env) (below : List Frame) (s : State) (sargs : Array Value) (y : MethodName) (len W9 : Nat)
    (Pre : Pt → Array Value → Prop) (Post : Pt → Array Value → Option Value → Pt → Prop) (PostX : Pt → Array Value → Addr → Pt → Prop) : Prop :=
  ∀ (m : MethodId) (meth : Method) (c : Code) (A : Pt) (g : JFrame) (ig : Instr) (mk : MethodId) (a : Array Value),
    Stand p l e R s m sargs below meth c A.U A.locs A.cells A.slots → g.method = m → g.locals.size = c.maxLocals → decode c.code g.pc = .ok (ig, len) →
    2 * g.monitorRoom + (g.stack.map fun v => v.category).sum ≤ W9 → A.U.methodNamed? y = some mk → Pre A a →
    (∃ (v : Option Value) (B : Pt), Stand p l e R s m sargs below meth c B.U B.locs B.cells B.slots ∧ Post A a v B ∧
      Steps p.tables e below (doInvoke e (A.U.setTop g) [] mk a).1 (B.U.setTop { g with pc := g.pc + len, stack := v.toList ++ g.stack })) ∨
    (∃ (q : Addr) (B : Pt), Stand p l e R s m sargs below meth c B.U B.locs B.cells B.slots ∧ PostX A a q B ∧
      Steps p.tables e below (doInvoke e (A.U.setTop g) [] mk a).1 ((B.U.setTop g).pushFrame (.throwing q)))
section Payer
variable {l : Launch} {R : Room} {p : Program} {e : Env} {below : List Frame} {s : State} {sargs : Array Value} {y : MethodName} {len W9 : Nat}
theorem vx_back {ws : List Cond} {rm : Room} {Pc : Array Value → State → Prop} {Qc : Array Value → State → Outcome → State → Prop} {XC : String → State → State → Prop} {mc ms : Nat} {free : Addr → Prop} {bytes : ByteArray} {maxL : Nat} {ret : Option FieldType}
    (hM : vx_Met l y ws rm Pc Qc XC mc ms free) (hblind : FrameBlind Pc) (hrc : rm.cells = mc) (hrs : rm.slots = ms)
    (hframes : rm.frames + 1 ≤ R.frames) (hlocals : W9 + (maxL + 11) + rm.locals ≤ R.locals)
    (hws : ∀ w ∈ ws, ∀ a' U, s.WarmedH U.vm → w.before a' U = true) (hcode : Cond.code y bytes maxL ret ∈ ws) (hinit : ∀ a' U, s.WarmedH U.vm → (Cond.initialized y.cls).before a' U = true) :
    vx_Back l R p e below s sargs y len W9 (PreOf R mc ms Pc) (PostOf Qc mc ms free) (vx_Post XC mc ms free) := by
  intro m meth c A g ig mk a X hg hsize hdg hW hn hp
  have h1 : (headSpec ws rm).pre.before a A.U = true := atoms_intro fun w hw => hws w hw _ _ X.warmed
  have h2 : (Cond.code y bytes maxL ret).before a A.U = true := hws _ hcode _ _ X.warmed
  have h3 : (Cond.initialized y.cls).before a A.U = true := hinit _ _ X.warmed
  have h4 : A.cells + (headSpec ws rm).room.cells ≤ R.cells := by rw [show (headSpec ws rm).room.cells = mc from hrc]; exact hp.1
  have h5 : A.slots + (headSpec ws rm).room.slots ≤ R.slots := by rw [show (headSpec ws rm).room.slots = ms from hrs]; exact hp.2.1
  have hPc : Pc a (A.U.calling g mk a) := hblind _ _ _ _ hp.2.2
  obtain ⟨U, Ls, c0, s0⟩ := A
  dsimp only [Pt.U, Pt.locs, Pt.cells, Pt.slots] at h1 h2 h3 h4 h5 X hn hPc ⊢
  obtain ⟨methY, cY, hmY, hcY, -, hlY, -, -, -, -⟩ := Cond.code_spec hn h2
  obtain ⟨kY, hkY, -⟩ := className_of_methodNamed hn
  have hinitY : kY.init = .initialized := Cond.initialized_spec (findClass_of_methodNamed hn) hkY h3
  have h : At U g.method c below := by rw [hg]; exact X.here
  have hlocals9 : W9 + (maxL + 11) + (headSpec ws rm).room.locals ≤ R.locals := hlocals
  have happ : (headSpec ws rm).appliesLoose y e.platform (U.calling g mk a) = true :=
    Spec.appliesLoose_calling (g := g) h hdg hn hkY hinitY
      (X.room_calling (g := g) (R' := (headSpec ws rm).room) hsize hmY hcY hframes (by rw [hlY]; omega) h4 h5) h1
  obtain ⟨mid, hmid⟩ := h.above
  have hfr : (U.setTop g).frames = (.java g :: mid) ++ below := by rw [State.frames_setTop' g h.top, hmid]; rfl
  obtain ⟨o, s₂, hsteps, -, hend, hq⟩ := Steps.callFree hM p X.admits X.cas X.clock (acts := []) hfr happ hPc trivial
  have hq' : vx_Q Qc XC mc ms free a (U.calling g mk a) o s₂ := hq
  rw [State.frames_setTop' g h.top] at hend
  obtain ⟨g₀, hg0⟩ := Option.isSome_iff_exists.mp h.top
  obtain ⟨r, hr⟩ := State.topJava?_eq_some.mp hg0
  have hr' : (({ U with heap := s₂.heap, slotsUsed := s₂.slotsUsed } : State).setVm s₂.vm).frames = .java g₀ :: r := hr
  rcases hq' with ⟨hqc, L, hfe, hL⟩ | ⟨q, rfl, E, ce, L, hx, hce, hcv, hcl, hW₂, hsm, hL⟩
  · obtain ⟨⟨v, rfl⟩, hW₂, e2, q2, q3, q4, q5, q6⟩ := id hfe
    have e3 : s₂ = ({ (U.calling g mk a).setFrames s₂.frames with heap := s₂.heap, slotsUsed := s₂.slotsUsed } : State).setVm s₂.vm := by
      have : s₂ = ({ s₂ with vm := (U.calling g mk a).vm } : State).setVm s₂.vm := rfl
      rw [e2] at this
      exact this
    obtain ⟨c₂, i₂, len₂, hc₂, hd₂, hf₂⟩ := hend
    have hW' : U.WarmedH s₂.vm := hW₂
    have hcc : c₂ = c := by
      have h1 : s₂.code? g.method = U.code? g.method := by
        rw [State.code?_eq, State.code?_eq, hW'.alike.method?]
      exact Option.some.inj (hc₂.symm.trans (h1.trans h.code))
    subst hcc
    have hlen : len₂ = len := by rw [hdg] at hd₂; cases hd₂; rfl
    subst hlen
    have hs₂ : s₂ = (({ U with heap := s₂.heap, slotsUsed := s₂.slotsUsed } : State).setVm s₂.vm).setTop { g with pc := g.pc + len₂, stack := v.toList ++ g.stack } := by
      refine e3.trans ?_
      rw [hf₂, State.calling_eq h.top, State.setFrames_setFrames, State.setTop_of_frames _ hr', hr]
      rfl
    have hsame : U.sameButNew ({ U with heap := s₂.heap, slotsUsed := s₂.slotsUsed } : State) L mc ms := by
      refine ⟨?_, q2, q3, q4, q5, q6⟩
      obtain ⟨t, ht, -⟩ := State.frames_cons hr
      show ({ U with heap := s₂.heap, slotsUsed := s₂.slotsUsed } : State) = { U.setFrames U.frames with heap := s₂.heap, slotsUsed := s₂.slotsUsed }
      rw [State.setFrames_self ht]
    subst hg
    refine Or.inl ⟨v, ⟨(({ U with heap := s₂.heap, slotsUsed := s₂.slotsUsed } : State).setVm s₂.vm), Ls ++ L, c0 + mc, s0 + ms⟩,
      ⟨X.admits, X.cas, X.clock, X.frames, X.room, X.hears, X.method, X.code, (X.here.setHeapUsed s₂.heap s₂.slotsUsed).setVm hW'.alike, X.tail, State.WarmedH.trans X.warmed hW', X.limits, X.bytes, X.same.trans (hsame.setVm s.vm)⟩,
      ⟨g, mk, s₂, L, rfl, rfl, hqc, rfl, hL, rfl, rfl⟩, ?_⟩
    show Steps p.tables e below _ ((({ U with heap := s₂.heap, slotsUsed := s₂.slotsUsed } : State).setVm s₂.vm).setTop { g with pc := g.pc + len₂, stack := v.toList ++ g.stack })
    rw [← hs₂]
    exact hsteps
  · obtain ⟨e2, q2, q3, q4, q5, q6⟩ := id hsm
    have e3 : s₂ = ({ (U.calling g mk a).setFrames s₂.frames with heap := s₂.heap, slotsUsed := s₂.slotsUsed } : State).setVm s₂.vm := by
      have : s₂ = ({ s₂ with vm := (U.calling g mk a).vm } : State).setVm s₂.vm := rfl
      rw [e2] at this
      exact this
    have hf₂ : s₂.frames = .throwing q :: .java g :: U.frames.tail := hend
    have hW' : U.WarmedH s₂.vm := hW₂
    have hs₂ : s₂ = ((({ U with heap := s₂.heap, slotsUsed := s₂.slotsUsed } : State).setVm s₂.vm).setTop g).pushFrame (.throwing q) := by
      refine e3.trans ?_
      rw [hf₂, State.calling_eq h.top, State.setFrames_setFrames, State.pushFrame, State.frames_setTop _ hr', State.setTop_of_frames _ hr', State.setFrames_setFrames, hr]
      rfl
    have hsame : U.sameButNew ({ U with heap := s₂.heap, slotsUsed := s₂.slotsUsed } : State) L mc ms := by
      refine ⟨?_, q2, q3, q4, q5, q6⟩
      obtain ⟨t, ht, -⟩ := State.frames_cons hr
      show ({ U with heap := s₂.heap, slotsUsed := s₂.slotsUsed } : State) = { U.setFrames U.frames with heap := s₂.heap, slotsUsed := s₂.slotsUsed }
      rw [State.setFrames_self ht]
    subst hg
    refine Or.inr ⟨q, ⟨(({ U with heap := s₂.heap, slotsUsed := s₂.slotsUsed } : State).setVm s₂.vm), Ls ++ L, c0 + mc, s0 + ms⟩,
      ⟨X.admits, X.cas, X.clock, X.frames, X.room, X.hears, X.method, X.code, (X.here.setHeapUsed s₂.heap s₂.slotsUsed).setVm hW'.alike, X.tail, State.WarmedH.trans X.warmed hW', X.limits, X.bytes, X.same.trans (hsame.setVm s.vm)⟩,
      ⟨g, mk, s₂, L, E, ce, rfl, rfl, hx, hce, hcv, hcl, rfl, hL, rfl, rfl⟩, ?_⟩
    show Steps p.tables e below _ (((({ U with heap := s₂.heap, slotsUsed := s₂.slotsUsed } : State).setVm s₂.vm).setTop g).pushFrame (.throwing q))
    rw [← hs₂]
    exact hsteps
end Payer
section Calls
variable {p : Program} {l : Launch} {e : Env} {R : Room} {s : State} {m : MethodId} {args : Array Value} {below : List Frame} {meth : Method} {c : Code} {T : State} {locs : List Loc} {cells slots : Nat}
theorem vx_callV (X : Stand p l e R s m args below meth c T locs cells slots) (hexec : p.tables.exec = Jvm.exec) {own C : String} {index : Nat} {y : MethodName} {bytes : ByteArray} {maxL : Nat} {ret : Option FieldType}
    (hown : s.vm.findClass own = some m.cls) (hlink : (Cond.methodLink own index y).before args s = true) (hinst : (Cond.instanceMethod y).before args s = true) (hsel : (Cond.selects C y y).before args s = true)
    (hcode : (Cond.code y bytes maxL ret).before args s = true) (hy : y.cls ≠ "java/lang/invoke/MethodHandle" ∧ y.cls ≠ "java/lang/invoke/VarHandle")
    {W9 : Nat} {Pre : Pt → Array Value → Prop} {Post : Pt → Array Value → Option Value → Pt → Prop} {PostX : Pt → Array Value → Addr → Pt → Prop} (hK : vx_Back l R p e below s args y 3 W9 Pre Post PostX)
    {b : Addr} {cellB : Cell} (hcell : T.heap[b]? = some cellB) (hobj : cellB.vm.isStatics = false) (hcls : s.vm.findClass C = some cellB.cls)
    {g : JFrame} (hg : g.method = m) (hsize : g.locals.size = c.maxLocals) {argsL rest : List Value} (hlen : ∀ sig, parseMethodDescriptor y.desc = some sig → argsL.length = sig.parameters.length)
    (hstack : g.stack = argsL.reverse ++ .ref b :: rest) (hW : 2 * g.monitorRoom + (rest.map fun v => v.category).sum ≤ W9) (hdg : decode c.code g.pc = .ok (.invokevirtual index, 3))
    (hpre : ∀ vm₁, s.WarmedH vm₁ → Pre ⟨T.setVm vm₁, locs, cells, slots⟩ (Value.ref b :: argsL).toArray) :
    (∃ (v : Option Value) (vm₁ : Vm) (B : Pt), s.WarmedH vm₁ ∧ Stand p l e R s m args below meth c B.U B.locs B.cells B.slots ∧ Post ⟨T.setVm vm₁, locs, cells, slots⟩ (Value.ref b :: argsL).toArray v B ∧
      ∀ target, Steps p.tables e below (B.U.setTop { g with pc := g.pc + 3, stack := v.toList ++ rest }) target → Steps p.tables e below (T.setTop g) target) ∨
    (∃ (q : Addr) (vm₁ : Vm) (B : Pt), s.WarmedH vm₁ ∧ Stand p l e R s m args below meth c B.U B.locs B.cells B.slots ∧ PostX ⟨T.setVm vm₁, locs, cells, slots⟩ (Value.ref b :: argsL).toArray q B ∧
      Steps p.tables e below (T.setTop g) ((B.U.setTop { g with stack := rest }).pushFrame (.throwing q))) := by
  obtain ⟨mk, methM, hnamed, hmethM, hstM, habM⟩ := Cond.instanceMethod_spec hinst
  obtain ⟨methM', cM, hmethM', -, -, -, -, -, -, hsigM⟩ := Cond.code_spec hnamed hcode
  cases hmethM.symm.trans hmethM'
  obtain ⟨c2, r2, m2, q1, q2, q3, q4, kP, hkP, hkPi⟩ := Cond.selects_spec hsel
  cases hcls.symm.trans q1
  cases (State.methodFound?_of_named hnamed hy).symm.trans q2
  cases hnamed.symm.trans q3
  have hselP : selectMethod e.platform s.vm cellB.cls mk = .method mk := by rw [Launch.admits_selectMethod X.admits]; exact q4
  obtain ⟨vm₁, X₁, hstep₁⟩ := X.invokevirtual hexec hown hlink hnamed hmethM hstM hkP hkPi hy (a := b) (cell := cellB) hcell
    (fun z h => by rw [h] at hobj; cases hobj) hselP hmethM habM hkP hkPi (g := g) hg (argsL := argsL) (rest := rest) (hlen _ hsigM) hstack hdg
  rcases hK m meth c ⟨T.setVm vm₁, locs, cells, slots⟩ { g with stack := rest } (.invokevirtual index) mk (Value.ref b :: argsL).toArray X₁ hg hsize hdg hW (X₁.named hnamed) (hpre vm₁ X₁.warmed) with ⟨v, B, X', hpost, hsteps⟩ | ⟨q, B, X', hpost, hsteps⟩
  · exact Or.inl ⟨v, vm₁, B, X₁.warmed, X', hpost, fun target h => hstep₁ _ fun acts => by rw [doInvoke_state]; exact hsteps.trans h⟩
  · exact Or.inr ⟨q, vm₁, B, X₁.warmed, X', hpost, hstep₁ _ fun acts => by rw [doInvoke_state]; exact hsteps⟩
theorem vx_callS (X : Stand p l e R s m args below meth c T locs cells slots) (hexec : p.tables.exec = Jvm.exec) {own : String} {index : Nat} {y : MethodName} {bytes : ByteArray} {maxL : Nat} {ret : Option FieldType}
    (hown : s.vm.findClass own = some m.cls) (hlink : (Cond.methodLink own index y).before args s = true) (hstat : (Cond.static y).before args s = true) (hinit : (Cond.initialized y.cls).before args s = true)
    (hcode : (Cond.code y bytes maxL ret).before args s = true) (hy : y.cls ≠ "java/lang/invoke/MethodHandle" ∧ y.cls ≠ "java/lang/invoke/VarHandle")
    {W9 : Nat} {Pre : Pt → Array Value → Prop} {Post : Pt → Array Value → Option Value → Pt → Prop} {PostX : Pt → Array Value → Addr → Pt → Prop} (hK : vx_Back l R p e below s args y 3 W9 Pre Post PostX)
    {g : JFrame} (hg : g.method = m) (hsize : g.locals.size = c.maxLocals) {argsL rest : List Value} (hlen : ∀ sig, parseMethodDescriptor y.desc = some sig → argsL.length = sig.parameters.length)
    (hstack : g.stack = argsL.reverse ++ rest) (hW : 2 * g.monitorRoom + (rest.map fun v => v.category).sum ≤ W9) (hdg : decode c.code g.pc = .ok (.invokestatic index, 3))
    (hpre : ∀ vm₁, s.WarmedH vm₁ → Pre ⟨T.setVm vm₁, locs, cells, slots⟩ argsL.toArray) :
    (∃ (v : Option Value) (vm₁ : Vm) (B : Pt), s.WarmedH vm₁ ∧ Stand p l e R s m args below meth c B.U B.locs B.cells B.slots ∧ Post ⟨T.setVm vm₁, locs, cells, slots⟩ argsL.toArray v B ∧
      ∀ target, Steps p.tables e below (B.U.setTop { g with pc := g.pc + 3, stack := v.toList ++ rest }) target → Steps p.tables e below (T.setTop g) target) ∨
    (∃ (q : Addr) (vm₁ : Vm) (B : Pt), s.WarmedH vm₁ ∧ Stand p l e R s m args below meth c B.U B.locs B.cells B.slots ∧ PostX ⟨T.setVm vm₁, locs, cells, slots⟩ argsL.toArray q B ∧
      Steps p.tables e below (T.setTop g) ((B.U.setTop { g with stack := rest }).pushFrame (.throwing q))) := by
  obtain ⟨mk, hnamed⟩ := Cond.code_named hcode
  obtain ⟨methM, cM, hmethM, -, -, -, -, -, -, hsigM⟩ := Cond.code_spec hnamed hcode
  have hstatic : methM.isStatic = true := Cond.static_spec hnamed hmethM hstat
  obtain ⟨kP, hkP, -⟩ := className_of_methodNamed hnamed
  have hinitP : kP.init = .initialized := Cond.initialized_spec (findClass_of_methodNamed hnamed) hkP hinit
  obtain ⟨vm₁, X₁, hstep₁⟩ := X.invokestatic hexec hown hlink hnamed hmethM hstatic hkP hinitP hy (g := g) hg (argsL := argsL) (rest := rest) (hlen _ hsigM) hstack hdg
  rcases hK m meth c ⟨T.setVm vm₁, locs, cells, slots⟩ { g with stack := rest } (.invokestatic index) mk argsL.toArray X₁ hg hsize hdg hW (X₁.named hnamed) (hpre vm₁ X₁.warmed) with ⟨v, B, X', hpost, hsteps⟩ | ⟨q, B, X', hpost, hsteps⟩
  · exact Or.inl ⟨v, vm₁, B, X₁.warmed, X', hpost, fun target h => hstep₁ _ fun acts => by rw [doInvoke_state]; exact hsteps.trans h⟩
  · exact Or.inr ⟨q, vm₁, B, X₁.warmed, X', hpost, hstep₁ _ fun acts => by rw [doInvoke_state]; exact hsteps⟩
end Calls
theorem vx_cls {s : State} {T : State} {vm₁ : Vm} {E : String} {k : ClassId} (hW : s.WarmedH vm₁) (h : (T.setVm vm₁).vm.findClass E = some k) : s.vm.findClass E = some k := by
  have h1 : vm₁.findClass E = some k := h
  rw [hW.alike.findClass] at h1
  exact h1
/-- the method's frame g, with q thrown over it -/
def vx_W (p : Program) (l : Launch) (e : Env) (R : Room) (s : State) (m : MethodId) (args : Array Value) (below : List Frame) (meth : Method) (c : Code) (H : Heap) (locs : List Loc) (cells slots : Nat) (Q : State → Prop) (g : JFrame) (q : Addr) : Prop :=
  ∀ T : State, T.heap = H → Stand p l e R s m args below meth c T locs cells slots → ∃ t, Steps p.tables e below ((T.setTop g).pushFrame (.throwing q)) t ∧ Q t
def vx_Run (p : Program) (l : Launch) (e : Env) (R : Room) (s : State) (m : MethodId) (args : Array Value) (below : List Frame) (meth : Method) (c : Code) (H : Heap) (locs : List Loc) (cells slots mc ms : Nat) (g : JFrame) (rest : List Value) (Qa : State → Outcome → State → Prop) (XC : String → State → State → Prop) (free : Addr → Prop) : Prop :=
  ∀ T : State, T.heap = H → Stand p l e R s m args below meth c T locs cells slots →
    (∃ (v : Option Value) (st₀ t T' : State) (L : List Loc), st₀.heap = H ∧ Stand p l e R s m args below meth c T' (locs ++ L) (cells + mc) (slots + ms) ∧ (∀ q ∈ L, free q.base) ∧ T'.heap = t.heap ∧ T'.vm = t.vm ∧ Qa st₀ (.returned v) t ∧
      Goes p e below T g T' { g with pc := g.pc + 3, stack := v.toList ++ rest }) ∨
    (∃ (q : Addr) (st₀ t T' : State) (L : List Loc) (E : String) (ce : Cell), st₀.heap = H ∧ Stand p l e R s m args below meth c T' (locs ++ L) (cells + mc) (slots + ms) ∧ (∀ z ∈ L, free z.base) ∧ T'.heap = t.heap ∧ T'.vm = t.vm ∧ XC E st₀ t ∧ t.heap[q]? = some ce ∧ ce.vm = .none ∧ s.vm.findClass E = some ce.cls ∧
      Steps p.tables e below (T.setTop g) ((T'.setTop { g with stack := rest }).pushFrame (.throwing q)))
def vx_X {S : Type} (px : S → Prop) (B : String → S → State → Prop) (A : Nat → Prop) : String → State → State → Prop := fun E st t => ∃ u : S, px u ∧ B E u t ∧ va_F A st t
section Runs
variable {p : Program} {l : Launch} {e : Env} {R : Room} {s : State} {m : MethodId} {args : Array Value} {below : List Frame} {meth : Method} {c : Code} {H : Heap} {locs : List Loc} {cells slots : Nat}
variable {y : MethodName} {bytes cc : ByteArray} {maxL nL mc ms n index : Nat} {ret : Option FieldType} {ws : List Cond} {rm : Room} {Pc : Array Value → State → Prop} {Qc : Array Value → State → Outcome → State → Prop} {XC : String → State → State → Prop} {free : Addr → Prop} {Ts : List Cond} {own C : String} {b : Addr} {As rest : List Value} {g : JFrame}
theorem vx_callBack (cb : CallB R s args own index y bytes maxL ret ws rm mc ms n) (hM : vx_Met l y ws rm Pc Qc XC mc ms free) (hbl : FrameBlind Pc) : vx_Back l R p e below s args y 3 8 (PreOf R mc ms Pc) (PostOf Qc mc ms free) (vx_Post XC mc ms free) := by
  obtain ⟨hrc, hrs, hfr, hlo, hws, hcw, -, hini, -⟩ := cb
  exact vx_back (bytes := bytes) (maxL := maxL) (ret := ret) hM hbl hrc hrs hfr hlo hws hcw (fun a' U hW => word_at hW (Or.inl (by first | rfl | simp [Cond.onTables, Cond.keeps, Cond.steady])) hini)
theorem vx_runV (S : CallFix p m c cc nL s args Ts own) (hM : vx_Met l y ws rm Pc Qc XC mc ms free) (cw : CallW R s args own C index y bytes maxL ret ws rm mc ms n) (hp : PreV s H C b Pc As)
    (hg : g.method = m) (hn : As.length = n) (hsize : g.locals.size = nL) (hstack : g.stack = As.reverse ++ .ref b :: rest) (hW : 2 * g.monitorRoom + (rest.map fun v => v.category).sum ≤ 8) (hdg : decode cc g.pc = .ok (.invokevirtual index, 3)) (hf : cells + mc ≤ R.cells ∧ slots + ms ≤ R.slots) :
    vx_Run p l e R s m args below meth c H locs cells slots mc ms g rest (Qc (Value.ref b :: As).toArray) XC free := by
  have hK : vx_Back l R p e below s args y 3 8 (PreOf R mc ms Pc) (PostOf Qc mc ms free) (vx_Post XC mc ms free) := vx_callBack cw.1 hM hp.1
  obtain ⟨⟨-, -, -, -, -, -, hcode, -, hy, hlen, hl⟩, hin, hse⟩ := cw
  obtain ⟨hx, hb, hml, ho, -⟩ := S
  obtain ⟨-, ⟨cellB, hcB, hoB, hclB⟩, hPc⟩ := hp
  intro T hT X
  rcases vx_callV X hx (C := C) (bytes := bytes) (maxL := maxL) (ret := ret) ho hl hin hse hcode hy hK (by rw [hT]; exact hcB) hoB hclB hg (hsize.trans hml.symm) (argsL := As) (rest := rest) (fun sig h => hn.trans (hlen sig h)) hstack hW (by rw [hb]; exact hdg)
    (fun vm₁ hW₁ => ⟨hf.1, hf.2, hPc (T.setVm vm₁) hT hW₁⟩) with ⟨v, vm₁, ⟨U', l2, c2, s2⟩, hW₁, X', ⟨g', mk, t, L, e1, e2, hq, h1, hL, h2, h3⟩, st⟩ | ⟨q, vm₁, ⟨U', l2, c2, s2⟩, hW₁, X', ⟨g', mk, t, L, E, ce, e1, e2, hq, hce, hcv, hcl, h1, hL, h2, h3⟩, st⟩
  · dsimp only [Pt.U, Pt.locs, Pt.cells, Pt.slots] at X' e1 e2 h1 h2 h3 st
    subst h1; subst h2; subst h3
    exact Or.inl ⟨v, (T.setVm vm₁).calling g' mk (Value.ref b :: As).toArray, t, U', L, hT, X', hL, e1, e2, hq, st⟩
  · dsimp only [Pt.U, Pt.locs, Pt.cells, Pt.slots] at X' e1 e2 h1 h2 h3 st hcl
    subst h1; subst h2; subst h3
    exact Or.inr ⟨q, (T.setVm vm₁).calling g' mk (Value.ref b :: As).toArray, t, U', L, E, ce, hT, X', hL, e1, e2, hq, hce, hcv, vx_cls hW₁ hcl, st⟩
theorem vx_runS (S : CallFix p m c cc nL s args Ts own) (hM : vx_Met l y ws rm Pc Qc XC mc ms free) (cw : CallB R s args own index y bytes maxL ret ws rm mc ms n ∧ (Cond.static y).before args s = true) (hp : PreS s H Pc As)
    (hg : g.method = m) (hn : As.length = n) (hsize : g.locals.size = nL) (hstack : g.stack = As.reverse ++ rest) (hW : 2 * g.monitorRoom + (rest.map fun v => v.category).sum ≤ 8) (hdg : decode cc g.pc = .ok (.invokestatic index, 3)) (hf : cells + mc ≤ R.cells ∧ slots + ms ≤ R.slots) :
    vx_Run p l e R s m args below meth c H locs cells slots mc ms g rest (Qc As.toArray) XC free := by
  have hK : vx_Back l R p e below s args y 3 8 (PreOf R mc ms Pc) (PostOf Qc mc ms free) (vx_Post XC mc ms free) := vx_callBack cw.1 hM hp.1
  obtain ⟨⟨-, -, -, -, -, -, hcode, hini, hy, hlen, hl⟩, hstt⟩ := cw
  obtain ⟨hx, hb, hml, ho, -⟩ := S
  intro T hT X
  rcases vx_callS X hx (bytes := bytes) (maxL := maxL) (ret := ret) ho hl hstt hini hcode hy hK hg (hsize.trans hml.symm) (argsL := As) (rest := rest) (fun sig h => hn.trans (hlen sig h)) hstack hW (by rw [hb]; exact hdg)
    (fun vm₁ hW₁ => ⟨hf.1, hf.2, hp.2 (T.setVm vm₁) hT hW₁⟩) with ⟨v, vm₁, ⟨U', l2, c2, s2⟩, hW₁, X', ⟨g', mk, t, L, e1, e2, hq, h1, hL, h2, h3⟩, st⟩ | ⟨q, vm₁, ⟨U', l2, c2, s2⟩, hW₁, X', ⟨g', mk, t, L, E, ce, e1, e2, hq, hce, hcv, hcl, h1, hL, h2, h3⟩, st⟩
  · dsimp only [Pt.U, Pt.locs, Pt.cells, Pt.slots] at X' e1 e2 h1 h2 h3 st
    subst h1; subst h2; subst h3
    exact Or.inl ⟨v, (T.setVm vm₁).calling g' mk As.toArray, t, U', L, hT, X', hL, e1, e2, hq, st⟩
  · dsimp only [Pt.U, Pt.locs, Pt.cells, Pt.slots] at X' e1 e2 h1 h2 h3 st hcl
    subst h1; subst h2; subst h3
    exact Or.inr ⟨q, (T.setVm vm₁).calling g' mk As.toArray, t, U', L, E, ce, hT, X', hL, e1, e2, hq, hce, hcv, vx_cls hW₁ hcl, st⟩
end Runs
section Rows
variable {p : Program} {l : Launch} {e : Env} {R : Room} {s : State} {m : MethodId} {args : Array Value} {below : List Frame} {meth : Method} {c : Code} {H : Heap} {locs : List Loc} {cells slots : Nat} {Q : State → Prop}
variable {mc ms : Nat} {free : Addr → Prop} {A0 A1 : Nat → Prop} {H0 : Heap} {a : Array Value} {pc : Nat} {ls : Array Slot} {st0 rest : List Value}
theorem vx_keep {st₀ t T' : State} {L : List Loc} (h0 : st₀.heap = H) (e1 : T'.heap = t.heap) (hS : va_S A0 H0 H locs) (hA : ∀ q, q < H.size → A1 q → A0 q) (hf : ∀ q, free q → A0 q) (hL : ∀ q ∈ L, free q.base) (hF : va_F A1 st₀ t) :
    H.size ≤ T'.heap.size ∧ (∀ q : Nat, q < H.size → ¬ A1 q → T'.heap[q]? = H[q]?) ∧ va_S A0 H0 T'.heap (locs ++ L) := by
  obtain ⟨hz, hk⟩ := hF
  rw [h0] at hz hk
  exact ⟨by rw [e1]; exact hz, fun q h1 h2 => by rw [e1]; exact hk q h1 h2,
    ⟨Nat.le_trans hS.1 (by rw [e1]; exact hz), fun q h1 h2 => by rw [e1, hk q (Nat.lt_of_lt_of_le h1 hS.1) (fun z => h2 (hA q (Nat.lt_of_lt_of_le h1 hS.1) z))]; exact hS.2.1 q h1 h2, fun q hq => by
      rcases List.mem_append.mp hq with h | h
      · exact hS.2.2 q h
      · exact hf _ (hL q h)⟩⟩
theorem vx_calli {S SX : Type} {post : Int32 → S → Prop} {px : SX → Prop} {B : S → State → Prop} {BX : String → SX → State → Prop} {AX : Nat → Prop} (hr : vx_Run p l e R s m args below meth c H locs cells slots mc ms (F0 m pc ls st0) rest (va_Qi post B A1 a) (vx_X px BX AX) free) (hS : va_S A0 H0 H locs) (hA : ∀ q, q < H.size → A1 q → A0 q) (hf : ∀ q, free q → A0 q) (hAX : ∀ q, q < H.size → AX q → A0 q)
    (kx : ∀ (E : String) (ce : Cell) (q9 : Addr) (u : SX) (t : State) (H1 : Heap) (locs1 : List Loc), t.heap = H1 → s.vm.Alike t.vm → px u → BX E u t → H.size ≤ H1.size → (∀ q : Nat, q < H.size → ¬ AX q → H1[q]? = H[q]?) → va_S A0 H0 H1 locs1 → H1[q9]? = some ce → ce.vm = .none → s.vm.findClass E = some ce.cls → vx_W p l e R s m args below meth c H1 locs1 (cells + mc) (slots + ms) Q (F0 m pc ls rest) q9)
    (kk : ∀ (r : Int32) (u : S) (t : State) (H1 : Heap) (locs1 : List Loc), t.heap = H1 → s.vm.Alike t.vm → post r u → B u t → H.size ≤ H1.size → (∀ q : Nat, q < H.size → ¬ A1 q → H1[q]? = H[q]?) → va_S A0 H0 H1 locs1 → W p l e R s m args below meth c H1 locs1 (cells + mc) (slots + ms) Q (F0 m (pc + 3) ls (.int r :: rest))) : W p l e R s m args below meth c H locs cells slots Q (F0 m pc ls st0) := by
  intro T hT X
  rcases hr T hT X with ⟨v, st₀, t, T', L, h0, X', hL, e1, e2, ⟨⟨r, u, hv, hp, hb⟩, hF⟩, st⟩ | ⟨q, st₀, t, T', L, E, ce, h0, X', hL, e1, e2, ⟨u, hp, hb, hF⟩, hce, hcv, hcl, st⟩
  · cases hv
    obtain ⟨k1, k2, k3⟩ := vx_keep h0 e1 hS hA hf hL hF
    obtain ⟨t2, a1, b1⟩ := kk r u t T'.heap (locs ++ L) e1.symm (by rw [← e2]; exact X'.warmed.alike) hp hb k1 k2 k3 T' rfl X'
    exact ⟨t2, st t2 a1, b1⟩
  · obtain ⟨k1, k2, k3⟩ := vx_keep h0 e1 hS hAX hf hL hF
    obtain ⟨t2, a1, b1⟩ := kx E ce q u t T'.heap (locs ++ L) e1.symm (by rw [← e2]; exact X'.warmed.alike) hp hb k1 k2 k3 (by rw [e1]; exact hce) hcv hcl T' rfl X'
    exact ⟨t2, st.trans a1, b1⟩
theorem vx_calll {S SX : Type} {post : Int64 → S → Prop} {px : SX → Prop} {B : S → State → Prop} {BX : String → SX → State → Prop} {AX : Nat → Prop} (hr : vx_Run p l e R s m args below meth c H locs cells slots mc ms (F0 m pc ls st0) rest (va_Ql post B A1 a) (vx_X px BX AX) free) (hS : va_S A0 H0 H locs) (hA : ∀ q, q < H.size → A1 q → A0 q) (hf : ∀ q, free q → A0 q) (hAX : ∀ q, q < H.size → AX q → A0 q)
    (kx : ∀ (E : String) (ce : Cell) (q9 : Addr) (u : SX) (t : State) (H1 : Heap) (locs1 : List Loc), t.heap = H1 → s.vm.Alike t.vm → px u → BX E u t → H.size ≤ H1.size → (∀ q : Nat, q < H.size → ¬ AX q → H1[q]? = H[q]?) → va_S A0 H0 H1 locs1 → H1[q9]? = some ce → ce.vm = .none → s.vm.findClass E = some ce.cls → vx_W p l e R s m args below meth c H1 locs1 (cells + mc) (slots + ms) Q (F0 m pc ls rest) q9)
    (kk : ∀ (r : Int64) (u : S) (t : State) (H1 : Heap) (locs1 : List Loc), t.heap = H1 → s.vm.Alike t.vm → post r u → B u t → H.size ≤ H1.size → (∀ q : Nat, q < H.size → ¬ A1 q → H1[q]? = H[q]?) → va_S A0 H0 H1 locs1 → W p l e R s m args below meth c H1 locs1 (cells + mc) (slots + ms) Q (F0 m (pc + 3) ls (.long r :: rest))) : W p l e R s m args below meth c H locs cells slots Q (F0 m pc ls st0) := by
  intro T hT X
  rcases hr T hT X with ⟨v, st₀, t, T', L, h0, X', hL, e1, e2, ⟨⟨r, u, hv, hp, hb⟩, hF⟩, st⟩ | ⟨q, st₀, t, T', L, E, ce, h0, X', hL, e1, e2, ⟨u, hp, hb, hF⟩, hce, hcv, hcl, st⟩
  · cases hv
    obtain ⟨k1, k2, k3⟩ := vx_keep h0 e1 hS hA hf hL hF
    obtain ⟨t2, a1, b1⟩ := kk r u t T'.heap (locs ++ L) e1.symm (by rw [← e2]; exact X'.warmed.alike) hp hb k1 k2 k3 T' rfl X'
    exact ⟨t2, st t2 a1, b1⟩
  · obtain ⟨k1, k2, k3⟩ := vx_keep h0 e1 hS hAX hf hL hF
    obtain ⟨t2, a1, b1⟩ := kx E ce q u t T'.heap (locs ++ L) e1.symm (by rw [← e2]; exact X'.warmed.alike) hp hb k1 k2 k3 (by rw [e1]; exact hce) hcv hcl T' rfl X'
    exact ⟨t2, st.trans a1, b1⟩
theorem vx_callf {S SX : Type} {post : UInt32 → S → Prop} {px : SX → Prop} {B : S → State → Prop} {BX : String → SX → State → Prop} {AX : Nat → Prop} (hr : vx_Run p l e R s m args below meth c H locs cells slots mc ms (F0 m pc ls st0) rest (va_Qf post B A1 a) (vx_X px BX AX) free) (hS : va_S A0 H0 H locs) (hA : ∀ q, q < H.size → A1 q → A0 q) (hf : ∀ q, free q → A0 q) (hAX : ∀ q, q < H.size → AX q → A0 q)
    (kx : ∀ (E : String) (ce : Cell) (q9 : Addr) (u : SX) (t : State) (H1 : Heap) (locs1 : List Loc), t.heap = H1 → s.vm.Alike t.vm → px u → BX E u t → H.size ≤ H1.size → (∀ q : Nat, q < H.size → ¬ AX q → H1[q]? = H[q]?) → va_S A0 H0 H1 locs1 → H1[q9]? = some ce → ce.vm = .none → s.vm.findClass E = some ce.cls → vx_W p l e R s m args below meth c H1 locs1 (cells + mc) (slots + ms) Q (F0 m pc ls rest) q9)
    (kk : ∀ (r : UInt32) (u : S) (t : State) (H1 : Heap) (locs1 : List Loc), t.heap = H1 → s.vm.Alike t.vm → post r u → B u t → H.size ≤ H1.size → (∀ q : Nat, q < H.size → ¬ A1 q → H1[q]? = H[q]?) → va_S A0 H0 H1 locs1 → W p l e R s m args below meth c H1 locs1 (cells + mc) (slots + ms) Q (F0 m (pc + 3) ls (.float r :: rest))) : W p l e R s m args below meth c H locs cells slots Q (F0 m pc ls st0) := by
  intro T hT X
  rcases hr T hT X with ⟨v, st₀, t, T', L, h0, X', hL, e1, e2, ⟨⟨r, u, hv, hp, hb⟩, hF⟩, st⟩ | ⟨q, st₀, t, T', L, E, ce, h0, X', hL, e1, e2, ⟨u, hp, hb, hF⟩, hce, hcv, hcl, st⟩
  · cases hv
    obtain ⟨k1, k2, k3⟩ := vx_keep h0 e1 hS hA hf hL hF
    obtain ⟨t2, a1, b1⟩ := kk r u t T'.heap (locs ++ L) e1.symm (by rw [← e2]; exact X'.warmed.alike) hp hb k1 k2 k3 T' rfl X'
    exact ⟨t2, st t2 a1, b1⟩
  · obtain ⟨k1, k2, k3⟩ := vx_keep h0 e1 hS hAX hf hL hF
    obtain ⟨t2, a1, b1⟩ := kx E ce q u t T'.heap (locs ++ L) e1.symm (by rw [← e2]; exact X'.warmed.alike) hp hb k1 k2 k3 (by rw [e1]; exact hce) hcv hcl T' rfl X'
    exact ⟨t2, st.trans a1, b1⟩
theorem vx_calld {S SX : Type} {post : UInt64 → S → Prop} {px : SX → Prop} {B : S → State → Prop} {BX : String → SX → State → Prop} {AX : Nat → Prop} (hr : vx_Run p l e R s m args below meth c H locs cells slots mc ms (F0 m pc ls st0) rest (va_Qd post B A1 a) (vx_X px BX AX) free) (hS : va_S A0 H0 H locs) (hA : ∀ q, q < H.size → A1 q → A0 q) (hf : ∀ q, free q → A0 q) (hAX : ∀ q, q < H.size → AX q → A0 q)
    (kx : ∀ (E : String) (ce : Cell) (q9 : Addr) (u : SX) (t : State) (H1 : Heap) (locs1 : List Loc), t.heap = H1 → s.vm.Alike t.vm → px u → BX E u t → H.size ≤ H1.size → (∀ q : Nat, q < H.size → ¬ AX q → H1[q]? = H[q]?) → va_S A0 H0 H1 locs1 → H1[q9]? = some ce → ce.vm = .none → s.vm.findClass E = some ce.cls → vx_W p l e R s m args below meth c H1 locs1 (cells + mc) (slots + ms) Q (F0 m pc ls rest) q9)
    (kk : ∀ (r : UInt64) (u : S) (t : State) (H1 : Heap) (locs1 : List Loc), t.heap = H1 → s.vm.Alike t.vm → post r u → B u t → H.size ≤ H1.size → (∀ q : Nat, q < H.size → ¬ A1 q → H1[q]? = H[q]?) → va_S A0 H0 H1 locs1 → W p l e R s m args below meth c H1 locs1 (cells + mc) (slots + ms) Q (F0 m (pc + 3) ls (.double r :: rest))) : W p l e R s m args below meth c H locs cells slots Q (F0 m pc ls st0) := by
  intro T hT X
  rcases hr T hT X with ⟨v, st₀, t, T', L, h0, X', hL, e1, e2, ⟨⟨r, u, hv, hp, hb⟩, hF⟩, st⟩ | ⟨q, st₀, t, T', L, E, ce, h0, X', hL, e1, e2, ⟨u, hp, hb, hF⟩, hce, hcv, hcl, st⟩
  · cases hv
    obtain ⟨k1, k2, k3⟩ := vx_keep h0 e1 hS hA hf hL hF
    obtain ⟨t2, a1, b1⟩ := kk r u t T'.heap (locs ++ L) e1.symm (by rw [← e2]; exact X'.warmed.alike) hp hb k1 k2 k3 T' rfl X'
    exact ⟨t2, st t2 a1, b1⟩
  · obtain ⟨k1, k2, k3⟩ := vx_keep h0 e1 hS hAX hf hL hF
    obtain ⟨t2, a1, b1⟩ := kx E ce q u t T'.heap (locs ++ L) e1.symm (by rw [← e2]; exact X'.warmed.alike) hp hb k1 k2 k3 (by rw [e1]; exact hce) hcv hcl T' rfl X'
    exact ⟨t2, st.trans a1, b1⟩
theorem vx_callv {S SX : Type} {post : S → Prop} {px : SX → Prop} {B : S → State → Prop} {BX : String → SX → State → Prop} {AX : Nat → Prop} (hr : vx_Run p l e R s m args below meth c H locs cells slots mc ms (F0 m pc ls st0) rest (va_Qv post B A1 a) (vx_X px BX AX) free) (hS : va_S A0 H0 H locs) (hA : ∀ q, q < H.size → A1 q → A0 q) (hf : ∀ q, free q → A0 q) (hAX : ∀ q, q < H.size → AX q → A0 q)
    (kx : ∀ (E : String) (ce : Cell) (q9 : Addr) (u : SX) (t : State) (H1 : Heap) (locs1 : List Loc), t.heap = H1 → s.vm.Alike t.vm → px u → BX E u t → H.size ≤ H1.size → (∀ q : Nat, q < H.size → ¬ AX q → H1[q]? = H[q]?) → va_S A0 H0 H1 locs1 → H1[q9]? = some ce → ce.vm = .none → s.vm.findClass E = some ce.cls → vx_W p l e R s m args below meth c H1 locs1 (cells + mc) (slots + ms) Q (F0 m pc ls rest) q9)
    (kk : ∀ (u : S) (t : State) (H1 : Heap) (locs1 : List Loc), t.heap = H1 → s.vm.Alike t.vm → post u → B u t → H.size ≤ H1.size → (∀ q : Nat, q < H.size → ¬ A1 q → H1[q]? = H[q]?) → va_S A0 H0 H1 locs1 → W p l e R s m args below meth c H1 locs1 (cells + mc) (slots + ms) Q (F0 m (pc + 3) ls (rest))) : W p l e R s m args below meth c H locs cells slots Q (F0 m pc ls st0) := by
  intro T hT X
  rcases hr T hT X with ⟨v, st₀, t, T', L, h0, X', hL, e1, e2, ⟨⟨u, hv, hp, hb⟩, hF⟩, st⟩ | ⟨q, st₀, t, T', L, E, ce, h0, X', hL, e1, e2, ⟨u, hp, hb, hF⟩, hce, hcv, hcl, st⟩
  · cases hv
    obtain ⟨k1, k2, k3⟩ := vx_keep h0 e1 hS hA hf hL hF
    obtain ⟨t2, a1, b1⟩ := kk u t T'.heap (locs ++ L) e1.symm (by rw [← e2]; exact X'.warmed.alike) hp hb k1 k2 k3 T' rfl X'
    exact ⟨t2, st t2 a1, b1⟩
  · obtain ⟨k1, k2, k3⟩ := vx_keep h0 e1 hS hAX hf hL hF
    obtain ⟨t2, a1, b1⟩ := kx E ce q u t T'.heap (locs ++ L) e1.symm (by rw [← e2]; exact X'.warmed.alike) hp hb k1 k2 k3 (by rw [e1]; exact hce) hcv hcl T' rfl X'
    exact ⟨t2, st.trans a1, b1⟩
/-- caught by the row x of this method's table; the rows ahead don't take it -/
theorem vx_catch {own name : String} {E : String} {ce : Cell} {q : Addr} (hown : s.vm.findClass own = some m.cls) (pre : List ExceptionTableEntry) (x : ExceptionTableEntry) (suf : List ExceptionTableEntry) (hsplit : c.exceptionTable.toList = pre ++ x :: suf)
    (hpass : ∀ z ∈ pre, covers z pc = false ∨ (z.catchType ≠ 0 ∧ ∃ nm : String, (Cond.classLink own z.catchType nm).before args s = true ∧ va_Nc E nm s)) (hx : covers x pc = true) (h0 : x.catchType ≠ 0)
    (hlink : (Cond.classLink own x.catchType name).before args s = true) (hcast : (Cond.castable E name).before args s = true) (hcell : H[q]? = some ce) (hv : ce.vm = .none) (hcl : s.vm.findClass E = some ce.cls)
    (kk : W p l e R s m args below meth c H locs cells slots Q (F0 m x.handlerPc ls [.ref q])) : vx_W p l e R s m args below meth c H locs cells slots Q (F0 m pc ls rest) q := by
  intro T hT X
  have hpl : e.platform.magicAccessors = ({} : Platform).magicAccessors := by rw [X.admits.platform]
  obtain ⟨c3, c4, hc3, hc4, hasg⟩ := Cond.castable_spec hcast
  cases Option.some.inj (hc3.symm.trans hcl)
  obtain ⟨c5, hc5, hcl5⟩ := Cond.classLink_spec hown hlink e.platform hpl
  cases Option.some.inj (hc4.symm.trans hc5)
  obtain ⟨vm', X', st⟩ := X.thenCaughtThrough q (g := F0 m pc ls rest) rfl (Steps.refl _) (by rw [hT]; exact hcell) (by rw [hv]; rfl) (by obtain ⟨k9, h9, -⟩ := Vm.findClass_spec hcl; exact ⟨k9, h9⟩) pre x suf hsplit
    (fun z hz => by
      rcases hpass z hz with h | ⟨hz0, nm, hl1, hn1⟩
      · exact Or.inl h
      · obtain ⟨c6, hc6, hcl6⟩ := Cond.classLink_spec hown hl1 e.platform hpl
        obtain ⟨a8, b8, h1, h2, h3⟩ := hn1
        cases Option.some.inj (h1.symm.trans hcl)
        cases Option.some.inj (h2.symm.trans hc6)
        exact Or.inr ⟨hz0, _, hcl6, h3⟩) hx (Or.inr ⟨h0, c4, hcl5, hasg⟩)
  obtain ⟨t, a1, b1⟩ := kk (T.setVm vm') hT X'
  exact ⟨t, st.trans a1, b1⟩
end Rows
section Ends
variable {p : Program} {l : Launch} {e : Env} {R : Room} {s : State} {m : MethodId} {args : Array Value} {below : List Frame} {meth : Method} {c : Code} {H : Heap} {locs : List Loc} {cells slots : Nat} {Q : State → Prop}
variable {mc ms : Nat} {free : Addr → Prop} {A0 A1 : Nat → Prop} {H0 : Heap} {a : Array Value} {ls : Array Slot} {st0 rest : List Value}
variable {Qc : Array Value → State → Outcome → State → Prop} {XC : String → State → State → Prop}
/-- what a body that may throw owes at its end -/
def vx_MQ (below : List Frame) (Qc : Array Value → State → Outcome → State → Prop) (XC : String → State → State → Prop) (a : Array Value) (s : State) (mc ms : Nat) (free : Addr → Prop) : State → Prop := fun t =>
  ∃ o, t.status = .running ∧ Ended t below o ∧ vx_Q Qc XC mc ms free a s o t
theorem vx_ret {g : JFrame} {mc ms : Nat} (k : W p l e R s m args below meth c H locs cells slots (MQ below Qc args s mc ms free) g) : W p l e R s m args below meth c H locs cells slots (vx_MQ below Qc XC args s mc ms free) g := by
  intro T hT X
  obtain ⟨t, a1, o, b1, b2, b3, b4⟩ := k T hT X
  exact ⟨t, a1, o, b1, b2, Or.inl ⟨b3, b4⟩⟩
/-- not caught here: it goes on to the caller -/
theorem vx_widen {g : JFrame} {q : Addr} {k n : Nat} (h1 : cells ≤ k) (h2 : slots ≤ n) (kk : vx_W p l e R s m args below meth c H locs k n Q g q) : vx_W p l e R s m args below meth c H locs cells slots Q g q := fun T hT X => kk T hT (stand_widen X h1 h2)
theorem vx_out {pc : Nat} {E : String} {ce : Cell} {q : Addr} {mc ms : Nat} (hout : ∀ x ∈ c.exceptionTable.toList, covers x pc = false) (hlocks : meth.locks = false) (hcell : H[q]? = some ce) (hv : ce.vm = .none) (hcl : s.vm.findClass E = some ce.cls)
    (hx : ∀ t : State, t.heap = H → s.vm.Alike t.vm → XC E s t) (hf : ∀ z ∈ locs, free z.base) (hc : cells ≤ mc) (hs : slots ≤ ms) :
    vx_W p l e R s m args below meth c H locs cells slots (vx_MQ below Qc XC args s mc ms free) (F0 m pc ls rest) q := by
  intro T hT X
  obtain ⟨st1, hrun, hend, hW, hsm⟩ := X.leaveThrown q (g := F0 m pc ls rest) rfl rfl rfl hout hlocks
  have hcell9 : (T.setFrames (.throwing q :: below)).heap[q]? = some ce := by
    show T.heap[q]? = some ce
    rw [hT]; exact hcell
  exact ⟨_, st1, .threw q, hrun, hend, Or.inr ⟨q, rfl, E, ce, locs, hx _ hT hW.alike, hcell9, hv, hcl, hW, hsm.mono hc hs, hf⟩⟩
theorem vx_frame {U : State} {k n : Nat} (h : s.sameButNew ({ U with vm := s.vm } : State) locs k n) : s.heap.size ≤ U.heap.size ∧ ∀ q : Nat, q < s.heap.size → (∀ z ∈ locs, z.base ≠ q) → U.heap[q]? = s.heap[q]? := by
  obtain ⟨-, h2, -, -, -, h6⟩ := h
  refine ⟨h2, fun q hq hz => ?_⟩
  obtain ⟨c9, e1, e2, e3, e4⟩ := h6 q _ (Array.getElem?_eq_getElem hq)
  have hs : c9.slots = (s.heap[q]).slots := Array.ext_getElem? fun i => e4 i fun hm => hz _ hm rfl
  have h9 : c9 = s.heap[q] := by
    rw [hs] at e2
    exact e2
  have e5 : U.heap[q]? = some c9 := e1
  rw [e5, h9, Array.getElem?_eq_getElem hq]
/-- the words of a throw but the four that speak of the heap -/
def vx_no (w : Cond) : Bool := decide (w ≠ .isRef (.static Bundle.tN "UNASSIGNED_STACK" Bundle.steD)) && decide (w ≠ .isRef (.static Bundle.tN "SUPPRESSED_SENTINEL" Bundle.listD)) && decide (w ≠ .laysStatic Bundle.tN "UNASSIGNED_STACK" Bundle.steD) && decide (w ≠ .laysStatic Bundle.tN "SUPPRESSED_SENTINEL" Bundle.listD)
def vx_at0 (own : String) (ic : Nat) (X : String) (names : List String) : List Cond := (Bundle.ownAtoms0 own ic X names).filter vx_no
def vx_atS (own : String) (ic : Nat) (X : String) (names : List String) : List Cond := (Bundle.ownAtoms own ic X names).filter vx_no
/-- a word that the tables alone decide, or a good one -/
def vx_ot (w : Cond) : Bool := w.onTables || goodWord w
theorem vx_ot_at {args a' : Array Value} {s U : State} {w : Cond} (hW : s.WarmedH U.vm) (hvm : s.vm = U.vm) (hg : vx_ot w = true) (h : w.before args s = true) : w.before a' U = true := by
  simp only [vx_ot, Bool.or_eq_true] at hg
  rcases hg with hg | hg
  · exact va_tabs hg hvm h
  · exact word_at hW (good_of_word hg) h
/-- a list's words: the good ones out of the method's own list, the others by premises of their own -/
theorem vx_hat {args : Array Value} {s : State} {L B : List Cond} (h1 : ∀ w ∈ L.filter goodWord, w.before args s = true) (h2 : ∀ w ∈ L.filter (fun w => !goodWord w), w ∈ B) (h3 : ∀ w ∈ B, w.before args s = true) : ∀ w ∈ L, w.before args s = true := by
  intro w hw
  by_cases g : goodWord w = true
  · exact h1 w (List.mem_filter.mpr ⟨hw, g⟩)
  · refine h3 w (h2 w (List.mem_filter.mpr ⟨hw, ?_⟩))
    show (!goodWord w) = true
    cases hgw : goodWord w
    · rfl
    · exact absurd hgw g
theorem vx_c {args : Array Value} {s : State} {w : Cond} {B : List Cond} (h : w.before args s = true) (t : ∀ w ∈ B, w.before args s = true) : ∀ w' ∈ w :: B, w'.before args s = true := fun w' h' => (List.mem_cons.mp h').elim (fun e => by rw [e]; exact h) (t w')
theorem vx_n {args : Array Value} {s : State} : ∀ w ∈ ([] : List Cond), w.before args s = true := fun _ h => nomatch h
theorem vx_own {args : Array Value} {s : State} {L : List Cond} (h1 : ∀ w ∈ L.filter vx_no, w.before args s = true)
    (hU : (Cond.isRef (.static Bundle.tN "UNASSIGNED_STACK" Bundle.steD)).before args s = true) (hN : (Cond.isRef (.static Bundle.tN "SUPPRESSED_SENTINEL" Bundle.listD)).before args s = true)
    (lU : (Cond.laysStatic Bundle.tN "UNASSIGNED_STACK" Bundle.steD).before args s = true) (lN : (Cond.laysStatic Bundle.tN "SUPPRESSED_SENTINEL" Bundle.listD).before args s = true) : ∀ w ∈ L, w.before args s = true := by
  intro w hw
  by_cases e1 : w = .isRef (.static Bundle.tN "UNASSIGNED_STACK" Bundle.steD)
  · rw [e1]; exact hU
  · by_cases e2 : w = .isRef (.static Bundle.tN "SUPPRESSED_SENTINEL" Bundle.listD)
    · rw [e2]; exact hN
    · by_cases e3 : w = .laysStatic Bundle.tN "UNASSIGNED_STACK" Bundle.steD
      · rw [e3]; exact lU
      · by_cases e4 : w = .laysStatic Bundle.tN "SUPPRESSED_SENTINEL" Bundle.listD
        · rw [e4]; exact lN
        · exact h1 w (List.mem_filter.mpr ⟨hw, by unfold vx_no; rw [decide_eq_true e1, decide_eq_true e2, decide_eq_true e3, decide_eq_true e4]; rfl⟩)
/-- where a static field lies, its class's statics cell in H -/
def vx_L (C n d : String) (A : Nat → Prop) (U : State) (H : Heap) : Prop := ∃ (c : ClassId) (k : Class) (i : Nat) (f : Field) (a : Nat) (cell : Cell), U.vm.findClass C = some c ∧ U.fieldFound? C n d = some (c, k, i, f) ∧ f.isStatic = true ∧ k.statics = some a ∧ H[a]? = some cell ∧ cell.vm.isStatics = true ∧ cell.cls = c ∧ f.slot < cell.slots.size ∧ k.staticTypes[f.slot]? = some f.type ∧ ¬ A a
theorem vx_L.moved {C n d : String} {A : Nat → Prop} {u U : State} {H : Heap} (hvm : u.vm.Alike U.vm) (h : vx_L C n d A u H) : vx_L C n d A U H := by
  obtain ⟨c, k, i, f, a, cell, h1, h2, h3, h4, h5, h6, h7, h8, h9, h10⟩ := h
  obtain ⟨k', hi', he⟩ := State.fieldFound?_setVm hvm h2
  exact ⟨c, k', i, f, a, cell, by rw [hvm.findClass]; exact h1, hi', h3, by rw [he]; exact h4, h5, h6, h7, h8, by rw [he]; exact h9, h10⟩
theorem vx_L.kept {C n d : String} {A : Nat → Prop} {U : State} {H H1 : Heap} (h : vx_L C n d A U H) (hq : ∀ a : Nat, a < H.size → ¬ A a → H1[a]? = H[a]?) : vx_L C n d A U H1 := by
  obtain ⟨c, k, i, f, a, cell, h1, h2, h3, h4, h5, h6, h7, h8, h9, h10⟩ := h
  exact ⟨c, k, i, f, a, cell, h1, h2, h3, h4, by rw [hq a (Array.getElem?_eq_some_iff.mp h5).1 h10]; exact h5, h6, h7, h8, h9, h10⟩
theorem vx_L.narrow {C n d : String} {A B : Nat → Prop} {U : State} {H : Heap} (h : vx_L C n d A U H) (hAB : ∀ q, B q → A q) : vx_L C n d B U H := by
  obtain ⟨c, k, i, f, a, cell, h1, h2, h3, h4, h5, h6, h7, h8, h9, h10⟩ := h
  exact ⟨c, k, i, f, a, cell, h1, h2, h3, h4, h5, h6, h7, h8, h9, fun z => h10 (hAB _ z)⟩
theorem vx_L.word {C n d : String} {A : Nat → Prop} {s : State} {args : Array Value} (h : vx_L C n d A s s.heap) : (Cond.laysStatic C n d).before args s = true := by
  obtain ⟨c, k, i, f, a, cell, h1, h2, h3, h4, h5, h6, h7, h8, h9, -⟩ := h
  show (Cond.laysStatic C n d).holds args s none s [] = true
  exact Cond.laysStatic_of h1 h2 h3 h4 h5 h6 h7 h8 h9
/-- .. and what it holds: null or some reference -/
def vx_Zq (C n d : String) (A : Nat → Prop) (U : State) (H : Heap) : Prop := va_Zq C n d A U H ∧ vx_L C n d A U H
theorem vx_Zq.moved {C n d : String} {A : Nat → Prop} {u U : State} {H : Heap} (hvm : u.vm.Alike U.vm) (h : vx_Zq C n d A u H) : vx_Zq C n d A U H := ⟨va_Zq.moved hvm h.1, vx_L.moved hvm h.2⟩
theorem vx_Zq.kept {C n d : String} {A : Nat → Prop} {U : State} {H H1 : Heap} (h : vx_Zq C n d A U H) (hq : ∀ a : Nat, a < H.size → ¬ A a → H1[a]? = H[a]?) : vx_Zq C n d A U H1 := ⟨va_Zq.kept h.1 hq, vx_L.kept h.2 hq⟩
theorem vx_Zq.narrow {C n d : String} {A B : Nat → Prop} {U : State} {H : Heap} (h : vx_Zq C n d A U H) (hAB : ∀ q, B q → A q) : vx_Zq C n d B U H := ⟨va_Zq.narrow h.1 hAB, vx_L.narrow h.2 hAB⟩
theorem vx_Zqof {args : Array Value} {s : State} {C n d : String} {A : Nat → Prop} (hl : (Cond.laysStatic C n d).before args s = true) (hini : (Cond.initialized C).before args s = true) (h : (Cond.isRef (.static C n d)).before args s = true) (hA : ∀ a : Nat, a < s.heap.size → ¬ A a) : vx_Zq C n d A s s.heap := by
  refine ⟨va_Zqof hl hini h hA, ?_⟩
  obtain ⟨c, k, i, f, a, cell, h1, h2, h3, h4, h5, h6, h7, h8, h9⟩ := Cond.laysStatic_spec hl
  exact ⟨c, k, i, f, a, cell, h1, h2, h3, h4, h5, h6, h7, h8, h9, hA a (Array.getElem?_eq_some_iff.mp h5).1⟩
theorem vx_isRef {C n d : String} {v : Value} {A : Nat → Prop} {s : State} {args : Array Value} (h : va_Z C n d v A s s.heap) (hv : v.isRef = true) : (Cond.isRef (.static C n d)).before args s = true := by
  obtain ⟨cf, kf, fi, f, a, cell, h1, h2, h3, h4, h5, h6, h7, -⟩ := h
  have he : (Term.static C n d).eval args s none [] s = some v := by
    simp [Term.eval, State.fieldNamed?, h1, h2, h4, h5, h6, h7]
  simp only [Cond.before, Cond.holds, Cond.value, he]
  cases v <;> simp_all [Value.isRef]
theorem vx_isRefq {C n d : String} {A : Nat → Prop} {s : State} {args : Array Value} (h : va_Zq C n d A s s.heap) : (Cond.isRef (.static C n d)).before args s = true := by
  rcases h with h | ⟨t, h⟩
  · exact vx_isRef h rfl
  · exact vx_isRef h rfl
/-- the same frame, seen from here: as if the method were called anew in this heap -/
theorem vx_rebase {T : State} (X : Stand p l e R s m args below meth c T locs cells slots) {R' : Room} (hf : R'.frames ≤ R.frames) (hl : R'.locals ≤ R.locals) (hc : cells + R'.cells ≤ R.cells) (hs : slots + R'.slots ≤ R.slots) :
    Stand p l e R' ((T.setVm s.vm).setFrames (.invoking m args :: below)) m args below meth c T [] 0 0 := by
  have htop : (T.setVm s.vm).topJava?.isSome := X.here.top
  have hF : ((T.setVm s.vm).setFrames (.invoking m args :: below)).frames = .invoking m args :: below := State.frames_setFrames _ (State.cur_lt_of_top htop)
  obtain ⟨g₀, hg0⟩ := Option.isSome_iff_exists.mp htop
  obtain ⟨r, hr⟩ := State.topJava?_eq_some.mp hg0
  have hl9 : e.platform.stackLimits (T.setVm s.vm).me = e.platform.stackLimits s.me := X.limits
  have hb9 : (T.setVm s.vm).me.stackBytes = s.me.stackBytes := X.bytes
  refine ⟨X.admits, X.cas, X.clock, hF, ?_, X.hears, X.method, X.code, X.here, X.tail, X.warmed, ?_, ?_, ?_⟩
  · have h := X.room
    have hU : ((T.setVm s.vm).setFrames (.invoking m args :: below)).localsInUse = s.localsInUse := by
      rw [State.localsInUse_invoking hF (meth := meth) (c := c) X.method X.code, State.localsInUse_invoking X.frames X.method X.code]
    simp only [State.hasRoom, Bool.and_eq_true, decide_eq_true_eq] at h ⊢
    obtain ⟨⟨⟨⟨h1, h2, h3, h4, h5, h6⟩, h7⟩, h8⟩, h9⟩ := h
    rw [X.frames, List.length_cons] at h2 h3
    have q1 := X.heapSize
    have q2 := X.used
    simp only [hF, hU, List.length_cons, State.stackLimits_setFrames, State.stackBytes_setFrames, hl9, hb9]
    refine ⟨⟨⟨⟨by omega, by omega, by omega, by omega, by omega, h6⟩, ?_⟩, ?_⟩, X.book⟩
    · show T.heap.size + R'.cells ≤ e.platform.maxCells
      omega
    · show T.slotsUsed + R'.slots ≤ e.platform.maxSlots
      omega
  · rw [State.stackLimits_setFrames]; rfl
  · rw [State.stackBytes_setFrames]; rfl
  · refine ⟨?_, Nat.le_refl _, Nat.le_refl _, ?_, ?_, fun a c9 h9 => ⟨c9, h9, rfl, rfl, fun _ _ => rfl⟩⟩
    · obtain ⟨t, ht, -⟩ := State.frames_cons hr
      show T.setVm s.vm = { ((T.setVm s.vm).setFrames (.invoking m args :: below)).setFrames (T.setVm s.vm).frames with heap := T.heap, slotsUsed := T.slotsUsed }
      rw [State.setFrames_setFrames, State.setFrames_self ht]
      rfl
    · show T.slotsUsed = T.slotsUsed + ((T.heap.toList.drop T.heap.size).map (·.slots.size)).sum
      rw [List.drop_eq_nil_of_le (Nat.le_of_eq Array.length_toList)]
      rfl
    · show ((T.heap.toList.drop T.heap.size).map (·.slots.size)).sum ≤ 0
      rw [List.drop_eq_nil_of_le (Nat.le_of_eq Array.length_toList)]
      exact Nat.le_refl _
/-- 'throw new E()': new; dup; invokespecial; athrow -/
theorem vx_throw0 {cc : ByteArray} {pc : Nat} (hexec : p.tables.exec = Jvm.exec) (hb : c.code = cc) (hl : l.stackTraces = false) {own cls : String} {names : List String} {ik ic mc ms : Nat} {A : Nat → Prop}
    (hown : s.vm.findClass own = some m.cls) (hcls : Bundle.fit cls = true) (hnames : ∀ n ∈ names, Bundle.fit n = true)
    (hk : (Cond.classLink own ik cls).before args s = true) (hini : (Cond.initialized cls).before args s = true) (hat : ∀ w ∈ vx_at0 own ic cls names, w.before args s = true)
    (hgood : ∀ w ∈ Cond.classLink own ik cls :: Cond.initialized cls :: vx_at0 own ic cls names, vx_ot w = true)
    (hU : vx_Zq Bundle.tN "UNASSIGNED_STACK" Bundle.steD A s s.heap) (hN : vx_Zq Bundle.tN "SUPPRESSED_SENTINEL" Bundle.listD A s s.heap) (hS : va_S A s.heap H locs) (hsize : ls.size = c.maxLocals)
    (d0 : decode cc pc = .ok (.new ik, 3)) (d3 : decode cc (pc + 3) = .ok (.dup, 1)) (d4 : decode cc (pc + 4) = .ok (.invokespecial ic, 3)) (d7 : decode cc (pc + 7) = .ok (.athrow, 1))
    (hout : ∀ x ∈ c.exceptionTable.toList, covers x (pc + 7) = false)
    (hRframes : names.length + 3 < R.frames) (hRlocals : (rest.map fun v => v.category).sum + (13 * (names.length + 1) + 42) ≤ R.locals) (hRcells : cells + 1 ≤ R.cells) (hRslots : slots + 6 ≤ R.slots) (hlocks : meth.locks = false)
    (hx : ∀ t : State, s.vm.Alike t.vm → H.size ≤ t.heap.size → (∀ q : Nat, q < H.size → t.heap[q]? = H[q]?) → XC cls s t)
    (hf : ∀ z ∈ locs, free z.base) (hc : cells + 1 ≤ mc) (hs : slots + 6 ≤ ms) :
    W p l e R s m args below meth c H locs cells slots (vx_MQ below Qc XC args s mc ms free) (F0 m pc ls rest) := by
  intro T hT X
  have htr : e.platform.stackTraces = false := (show e.platform.stackTraces = l.stackTraces by rw [X.admits.platform]).trans hl
  have Y := vx_rebase X (R' := { frames := R.frames, locals := R.locals, cells := 1, slots := 6 }) (Nat.le_refl _) (Nat.le_refl _) hRcells hRslots
  obtain ⟨s', hA⟩ : ∃ z, z = (T.setVm s.vm).setFrames (.invoking m args :: below) := ⟨_, rfl⟩
  rw [← hA] at Y
  have hvm : s'.vm = s.vm := by rw [hA]; rfl
  have hhp : s'.heap = H := by rw [hA]; exact hT
  have hW0 : s.WarmedH s'.vm := by rw [hvm]; exact State.WarmedH.refl s
  have hat' : ∀ w ∈ vx_at0 own ic cls names, w.before args s' = true := fun w hw => vx_ot_at hW0 hvm.symm (hgood w (List.mem_cons_of_mem _ (List.mem_cons_of_mem _ hw))) (hat w hw)
  have hk' : (Cond.classLink own ik cls).before args s' = true := vx_ot_at hW0 hvm.symm (hgood _ List.mem_cons_self) hk
  have hini' : (Cond.initialized cls).before args s' = true := vx_ot_at hW0 hvm.symm (hgood _ (List.mem_cons_of_mem _ List.mem_cons_self)) hini
  have hU' : vx_Zq Bundle.tN "UNASSIGNED_STACK" Bundle.steD A s' s'.heap := by rw [hhp]; exact vx_Zq.moved hW0.alike (hU.kept hS.2.1)
  have hN' : vx_Zq Bundle.tN "SUPPRESSED_SENTINEL" Bundle.listD A s' s'.heap := by rw [hhp]; exact vx_Zq.moved hW0.alike (hN.kept hS.2.1)
  have h : ∀ w ∈ Bundle.ownAtoms0 own ic cls names, w.before args s' = true := vx_own hat' (vx_isRefq hU'.1) (vx_isRefq hN'.1) hU'.2.word hN'.2.word
  have hown' : s'.vm.findClass own = some m.cls := by rw [hvm]; exact hown
  have hins : (Cond.instantiable cls 6).before args s' = true := h _ (by simp [Bundle.ownAtoms0])
  obtain ⟨vm₁, cX, kX, hfX, hkX, -, -, X₁, st1⟩ := Y.newCold hexec (own := own) (C := cls) (index := ik) (n := 6) hown' hk' hins hini'
    (g := F0 m pc ls rest) rfl (by rw [hb]; exact d0) (Nat.le_refl _) (Nat.le_refl _)
  generalize hT1 : (T.setVm vm₁).pushCell { cls := cX, slots := kX.instanceTypes.map defaultValue, vm := .none } = T1 at X₁ st1
  have hcat : (Value.ref T.heap.size).category = 1 := rfl
  have hcellA : T1.heap[T.heap.size]? = some (freshCell cX kX) := by rw [← hT1]; exact State.heap_pushCell_size _ _
  have d3' : decode c.code (pc + 3) = .ok (.dup, 1) := by rw [hb]; exact d3
  obtain ⟨U, hsteps, hrun, hend, hW, hsame, ce, hce, hO⟩ := X₁.ctorThrow0 hexec htr (own := own) (cls := cls) (names := names) (ic := ic) hown' hcls hnames h (fun x hx => nomatch hx) hfX hkX hcellA (by rw [hhp, hT]; exact Nat.le_refl _)
    (g := { method := m, pc := pc + 4, locals := ls, stack := .ref T.heap.size :: .ref T.heap.size :: rest, locked := none }) rfl hsize rfl rfl (rest := rest) rfl
    (by rw [hb]; exact d4) (by rw [hb]; exact d7) hout hRframes (by simp only [List.map_cons, List.sum_cons, hcat]; omega) hlocks
  obtain ⟨f1, f2⟩ := vx_frame hsame
  rw [hhp] at f1 f2
  have hWs : s.WarmedH U.vm := State.WarmedH.trans hW0 hW
  have hcl : s.vm.findClass cls = some ce.cls := by
    have h9 := hO.cls
    rw [hvm] at h9
    exact h9
  have hall : s.sameButNew ({ U with vm := s.vm } : State) locs mc ms := by
    subst hA
    obtain ⟨e1, e2⟩ := hsame
    rw [State.setFrames_setFrames] at e1
    have h2 : (T.setVm s.vm).sameButNew ({ U with vm := s.vm } : State) [] (0 + 1) (0 + 6) := ⟨e1, e2⟩
    have h3 := X.same.trans h2
    rw [List.append_nil] at h3
    exact h3.mono hc hs
  refine ⟨U, ?_, .threw T.heap.size, hrun, hend, Or.inr ⟨T.heap.size, rfl, cls, ce, locs, hx U hWs.alike f1 (fun q hq => f2 q hq (fun z hz => nomatch hz)), hce, hO.vm, hcl, hWs, hall, hf⟩⟩
  refine st1 _ ?_
  show Steps p.tables e below (T1.setTop { method := m, pc := pc + 3, locals := ls, stack := .ref T.heap.size :: rest, locked := none }) _
  jvm_step X₁.here [X₁.here.top, hexec, d3', Value.category]
  exact hsteps
/-- 'throw new E("text")': new; dup; ldc; invokespecial; athrow -/
theorem vx_throwS {cc : ByteArray} {pc : Nat} (hexec : p.tables.exec = Jvm.exec) (hb : c.code = cc) (hl : l.stackTraces = false) {own cls text : String} {names : List String} {ik is ic mc ms sa : Nat} {A : Nat → Prop}
    (hown : s.vm.findClass own = some m.cls) (hcls : Bundle.fit cls = true) (hnames : ∀ n ∈ names, Bundle.fit n = true)
    (hk : (Cond.classLink own ik cls).before args s = true) (hini : (Cond.initialized cls).before args s = true) (hstr : vk_R own is text sa s) (hat : ∀ w ∈ vx_atS own ic cls names, w.before args s = true)
    (hgood : ∀ w ∈ Cond.classLink own ik cls :: Cond.initialized cls :: vx_atS own ic cls names, vx_ot w = true)
    (hU : vx_Zq Bundle.tN "UNASSIGNED_STACK" Bundle.steD A s s.heap) (hN : vx_Zq Bundle.tN "SUPPRESSED_SENTINEL" Bundle.listD A s s.heap) (hS : va_S A s.heap H locs) (hsize : ls.size = c.maxLocals)
    (d0 : decode cc pc = .ok (.new ik, 3)) (d3 : decode cc (pc + 3) = .ok (.dup, 1)) (d4 : decode cc (pc + 4) = .ok (.ldc is, 2)) (d6 : decode cc (pc + 6) = .ok (.invokespecial ic, 3)) (d9 : decode cc (pc + 9) = .ok (.athrow, 1))
    (hout : ∀ x ∈ c.exceptionTable.toList, covers x (pc + 9) = false)
    (hRframes : names.length + 3 < R.frames) (hRlocals : (rest.map fun v => v.category).sum + (13 * (names.length + 1) + 43) ≤ R.locals) (hRcells : cells + 1 ≤ R.cells) (hRslots : slots + 6 ≤ R.slots) (hlocks : meth.locks = false)
    (hx : ∀ t : State, s.vm.Alike t.vm → H.size ≤ t.heap.size → (∀ q : Nat, q < H.size → t.heap[q]? = H[q]?) → XC cls s t)
    (hf : ∀ z ∈ locs, free z.base) (hc : cells + 1 ≤ mc) (hs : slots + 6 ≤ ms) :
    W p l e R s m args below meth c H locs cells slots (vx_MQ below Qc XC args s mc ms free) (F0 m pc ls rest) := by
  intro T hT X
  have htr : e.platform.stackTraces = false := (show e.platform.stackTraces = l.stackTraces by rw [X.admits.platform]).trans hl
  have Y := vx_rebase X (R' := { frames := R.frames, locals := R.locals, cells := 1, slots := 6 }) (Nat.le_refl _) (Nat.le_refl _) hRcells hRslots
  obtain ⟨s', hA⟩ : ∃ z, z = (T.setVm s.vm).setFrames (.invoking m args :: below) := ⟨_, rfl⟩
  rw [← hA] at Y
  have hvm : s'.vm = s.vm := by rw [hA]; rfl
  have hhp : s'.heap = H := by rw [hA]; exact hT
  have hW0 : s.WarmedH s'.vm := by rw [hvm]; exact State.WarmedH.refl s
  have hat' : ∀ w ∈ vx_atS own ic cls names, w.before args s' = true := fun w hw => vx_ot_at hW0 hvm.symm (hgood w (List.mem_cons_of_mem _ (List.mem_cons_of_mem _ hw))) (hat w hw)
  have hk' : (Cond.classLink own ik cls).before args s' = true := vx_ot_at hW0 hvm.symm (hgood _ List.mem_cons_self) hk
  have hini' : (Cond.initialized cls).before args s' = true := vx_ot_at hW0 hvm.symm (hgood _ (List.mem_cons_of_mem _ List.mem_cons_self)) hini
  have hU' : vx_Zq Bundle.tN "UNASSIGNED_STACK" Bundle.steD A s' s'.heap := by rw [hhp]; exact vx_Zq.moved hW0.alike (hU.kept hS.2.1)
  have hN' : vx_Zq Bundle.tN "SUPPRESSED_SENTINEL" Bundle.listD A s' s'.heap := by rw [hhp]; exact vx_Zq.moved hW0.alike (hN.kept hS.2.1)
  have h : ∀ w ∈ Bundle.ownAtoms own ic cls names, w.before args s' = true := vx_own hat' (vx_isRefq hU'.1) (vx_isRefq hN'.1) hU'.2.word hN'.2.word
  have hown' : s'.vm.findClass own = some m.cls := by rw [hvm]; exact hown
  have hins : (Cond.instantiable cls 6).before args s' = true := h _ (by simp [Bundle.ownAtoms])
  obtain ⟨vm₁, cX, kX, hfX, hkX, -, -, X₁, st1⟩ := Y.newCold hexec (own := own) (C := cls) (index := ik) (n := 6) hown' hk' hins hini'
    (g := F0 m pc ls rest) rfl (by rw [hb]; exact d0) (Nat.le_refl _) (Nat.le_refl _)
  generalize hT1 : (T.setVm vm₁).pushCell { cls := cX, slots := kX.instanceTypes.map defaultValue, vm := .none } = T1 at X₁ st1
  have hcat : (Value.ref T.heap.size).category = 1 := rfl
  have hcellA : T1.heap[T.heap.size]? = some (freshCell cX kX) := by rw [← hT1]; exact State.heap_pushCell_size _ _
  have d3' : decode c.code (pc + 3) = .ok (.dup, 1) := by rw [hb]; exact d3
  have d4' : decode c.code (pc + 4) = .ok (.ldc is, 2) := by rw [hb]; exact d4
  have hstr' : vk_R own is text sa s' := vk_R.warm hW0 hstr
  obtain ⟨U, hsteps, hrun, hend, hW, hsame, ce, hce, hO⟩ := X₁.ctorThrowS hexec htr (own := own) (cls := cls) (names := names) (ic := ic) hown' hcls hnames h (fun x hx => nomatch hx) hfX hkX hcellA (by rw [hhp, hT]; exact Nat.le_refl _) (msg := .ref sa) rfl
    (g := { method := m, pc := pc + 6, locals := ls, stack := .ref sa :: .ref T.heap.size :: .ref T.heap.size :: rest, locked := none }) rfl hsize rfl rfl (rest := rest) rfl
    (by rw [hb]; exact d6) (by rw [hb]; exact d9) hout hRframes (by simp only [List.map_cons, List.sum_cons, hcat]; omega) hlocks
  obtain ⟨f1, f2⟩ := vx_frame hsame
  rw [hhp] at f1 f2
  have hWs : s.WarmedH U.vm := State.WarmedH.trans hW0 hW
  have hcl : s.vm.findClass cls = some ce.cls := by
    have h9 := hO.cls
    rw [hvm] at h9
    exact h9
  have hall : s.sameButNew ({ U with vm := s.vm } : State) locs mc ms := by
    subst hA
    obtain ⟨e1, e2⟩ := hsame
    rw [State.setFrames_setFrames] at e1
    have h2 : (T.setVm s.vm).sameButNew ({ U with vm := s.vm } : State) [] (0 + 1) (0 + 6) := ⟨e1, e2⟩
    have h3 := X.same.trans h2
    rw [List.append_nil] at h3
    exact h3.mono hc hs
  refine ⟨U, ?_, .threw T.heap.size, hrun, hend, Or.inr ⟨T.heap.size, rfl, cls, ce, locs, hx U hWs.alike f1 (fun q hq => f2 q hq (fun z hz => nomatch hz)), hce, hO.vm, hcl, hWs, hall, hf⟩⟩
  refine st1 _ ?_
  show Steps p.tables e below (T1.setTop { method := m, pc := pc + 3, locals := ls, stack := .ref T.heap.size :: rest, locked := none }) _
  jvm_step X₁.here [X₁.here.top, hexec, d3', Value.category]
  exact X₁.ldcString hexec (own := own) (text := text) (index := is) (a := sa) hown' hstr'.1 hstr'.2
    (g := { method := m, pc := pc + 4, locals := ls, stack := .ref T.heap.size :: .ref T.heap.size :: rest, locked := none }) rfl d4' _ hsteps
/-- 'throw new E("text")', the text by a wide index -/
theorem vx_throwSW {cc : ByteArray} {pc : Nat} (hexec : p.tables.exec = Jvm.exec) (hb : c.code = cc) (hl : l.stackTraces = false) {own cls text : String} {names : List String} {ik is ic mc ms sa : Nat} {A : Nat → Prop}
    (hown : s.vm.findClass own = some m.cls) (hcls : Bundle.fit cls = true) (hnames : ∀ n ∈ names, Bundle.fit n = true)
    (hk : (Cond.classLink own ik cls).before args s = true) (hini : (Cond.initialized cls).before args s = true) (hstr : vk_R own is text sa s) (hat : ∀ w ∈ vx_atS own ic cls names, w.before args s = true)
    (hgood : ∀ w ∈ Cond.classLink own ik cls :: Cond.initialized cls :: vx_atS own ic cls names, vx_ot w = true)
    (hU : vx_Zq Bundle.tN "UNASSIGNED_STACK" Bundle.steD A s s.heap) (hN : vx_Zq Bundle.tN "SUPPRESSED_SENTINEL" Bundle.listD A s s.heap) (hS : va_S A s.heap H locs) (hsize : ls.size = c.maxLocals)
    (d0 : decode cc pc = .ok (.new ik, 3)) (d3 : decode cc (pc + 3) = .ok (.dup, 1)) (d4 : decode cc (pc + 4) = .ok (.ldc_w is, 3)) (d7 : decode cc (pc + 7) = .ok (.invokespecial ic, 3)) (d10 : decode cc (pc + 10) = .ok (.athrow, 1))
    (hout : ∀ x ∈ c.exceptionTable.toList, covers x (pc + 10) = false)
    (hRframes : names.length + 3 < R.frames) (hRlocals : (rest.map fun v => v.category).sum + (13 * (names.length + 1) + 43) ≤ R.locals) (hRcells : cells + 1 ≤ R.cells) (hRslots : slots + 6 ≤ R.slots) (hlocks : meth.locks = false)
    (hx : ∀ t : State, s.vm.Alike t.vm → H.size ≤ t.heap.size → (∀ q : Nat, q < H.size → t.heap[q]? = H[q]?) → XC cls s t)
    (hf : ∀ z ∈ locs, free z.base) (hc : cells + 1 ≤ mc) (hs : slots + 6 ≤ ms) :
    W p l e R s m args below meth c H locs cells slots (vx_MQ below Qc XC args s mc ms free) (F0 m pc ls rest) := by
  intro T hT X
  have htr : e.platform.stackTraces = false := (show e.platform.stackTraces = l.stackTraces by rw [X.admits.platform]).trans hl
  have Y := vx_rebase X (R' := { frames := R.frames, locals := R.locals, cells := 1, slots := 6 }) (Nat.le_refl _) (Nat.le_refl _) hRcells hRslots
  obtain ⟨s', hA⟩ : ∃ z, z = (T.setVm s.vm).setFrames (.invoking m args :: below) := ⟨_, rfl⟩
  rw [← hA] at Y
  have hvm : s'.vm = s.vm := by rw [hA]; rfl
  have hhp : s'.heap = H := by rw [hA]; exact hT
  have hW0 : s.WarmedH s'.vm := by rw [hvm]; exact State.WarmedH.refl s
  have hat' : ∀ w ∈ vx_atS own ic cls names, w.before args s' = true := fun w hw => vx_ot_at hW0 hvm.symm (hgood w (List.mem_cons_of_mem _ (List.mem_cons_of_mem _ hw))) (hat w hw)
  have hk' : (Cond.classLink own ik cls).before args s' = true := vx_ot_at hW0 hvm.symm (hgood _ List.mem_cons_self) hk
  have hini' : (Cond.initialized cls).before args s' = true := vx_ot_at hW0 hvm.symm (hgood _ (List.mem_cons_of_mem _ List.mem_cons_self)) hini
  have hU' : vx_Zq Bundle.tN "UNASSIGNED_STACK" Bundle.steD A s' s'.heap := by rw [hhp]; exact vx_Zq.moved hW0.alike (hU.kept hS.2.1)
  have hN' : vx_Zq Bundle.tN "SUPPRESSED_SENTINEL" Bundle.listD A s' s'.heap := by rw [hhp]; exact vx_Zq.moved hW0.alike (hN.kept hS.2.1)
  have h : ∀ w ∈ Bundle.ownAtoms own ic cls names, w.before args s' = true := vx_own hat' (vx_isRefq hU'.1) (vx_isRefq hN'.1) hU'.2.word hN'.2.word
  have hown' : s'.vm.findClass own = some m.cls := by rw [hvm]; exact hown
  have hins : (Cond.instantiable cls 6).before args s' = true := h _ (by simp [Bundle.ownAtoms])
  obtain ⟨vm₁, cX, kX, hfX, hkX, -, -, X₁, st1⟩ := Y.newCold hexec (own := own) (C := cls) (index := ik) (n := 6) hown' hk' hins hini'
    (g := F0 m pc ls rest) rfl (by rw [hb]; exact d0) (Nat.le_refl _) (Nat.le_refl _)
  generalize hT1 : (T.setVm vm₁).pushCell { cls := cX, slots := kX.instanceTypes.map defaultValue, vm := .none } = T1 at X₁ st1
  have hcat : (Value.ref T.heap.size).category = 1 := rfl
  have hcellA : T1.heap[T.heap.size]? = some (freshCell cX kX) := by rw [← hT1]; exact State.heap_pushCell_size _ _
  have d3' : decode c.code (pc + 3) = .ok (.dup, 1) := by rw [hb]; exact d3
  have d4' : decode c.code (pc + 4) = .ok (.ldc_w is, 3) := by rw [hb]; exact d4
  have hstr' : vk_R own is text sa s' := vk_R.warm hW0 hstr
  obtain ⟨U, hsteps, hrun, hend, hW, hsame, ce, hce, hO⟩ := X₁.ctorThrowS hexec htr (own := own) (cls := cls) (names := names) (ic := ic) hown' hcls hnames h (fun x hx => nomatch hx) hfX hkX hcellA (by rw [hhp, hT]; exact Nat.le_refl _) (msg := .ref sa) rfl
    (g := { method := m, pc := pc + 7, locals := ls, stack := .ref sa :: .ref T.heap.size :: .ref T.heap.size :: rest, locked := none }) rfl hsize rfl rfl (rest := rest) rfl
    (by rw [hb]; exact d7) (by rw [hb]; exact d10) hout hRframes (by simp only [List.map_cons, List.sum_cons, hcat]; omega) hlocks
  obtain ⟨f1, f2⟩ := vx_frame hsame
  rw [hhp] at f1 f2
  have hWs : s.WarmedH U.vm := State.WarmedH.trans hW0 hW
  have hcl : s.vm.findClass cls = some ce.cls := by
    have h9 := hO.cls
    rw [hvm] at h9
    exact h9
  have hall : s.sameButNew ({ U with vm := s.vm } : State) locs mc ms := by
    subst hA
    obtain ⟨e1, e2⟩ := hsame
    rw [State.setFrames_setFrames] at e1
    have h2 : (T.setVm s.vm).sameButNew ({ U with vm := s.vm } : State) [] (0 + 1) (0 + 6) := ⟨e1, e2⟩
    have h3 := X.same.trans h2
    rw [List.append_nil] at h3
    exact h3.mono hc hs
  refine ⟨U, ?_, .threw T.heap.size, hrun, hend, Or.inr ⟨T.heap.size, rfl, cls, ce, locs, hx U hWs.alike f1 (fun q hq => f2 q hq (fun z hz => nomatch hz)), hce, hO.vm, hcl, hWs, hall, hf⟩⟩
  refine st1 _ ?_
  show Steps p.tables e below (T1.setTop { method := m, pc := pc + 3, locals := ls, stack := .ref T.heap.size :: rest, locked := none }) _
  jvm_step X₁.here [X₁.here.top, hexec, d3', Value.category]
  exact X₁.ldcStringW hexec (own := own) (text := text) (index := is) (a := sa) hown' hstr'.1 hstr'.2
    (g := { method := m, pc := pc + 4, locals := ls, stack := .ref T.heap.size :: .ref T.heap.size :: rest, locked := none }) rfl d4' _ hsteps
end Ends
section Bodies
variable {l : Launch}
theorem vx_ofW {y : MethodName} {ws ws' : List Cond} {rm : Room} {Pc : Array Value → State → Prop} {Qc : Array Value → State → Outcome → State → Prop} {XC : String → State → State → Prop} {mc ms : Nat} {free : Addr → Prop} {cc : ByteArray} {maxL : Nat} {ret : Option FieldType}
    (hy : plainName y.cls = true) (hw : ws = Cond.code y cc maxL ret :: ws')
    (body : ∀ p e s m args below meth c s₁, BodyLoose p l y (headSpec ws rm) cc maxL ret e s m args below meth c s₁ → c.maxLocals = maxL → (∀ x ∈ c.exceptionTable.toList, False) → Pc args s →
      W p l e (headSpec ws rm).room s m args below meth c s.heap [] 0 0 (vx_MQ below Qc XC args s mc ms free) (entryFrame m args maxL)) : vx_Met l y ws rm Pc Qc XC mc ms free := by
  refine MetFree.of_bodyS (code := cc) (maxLocals := maxL) (ret := ret) hy ?_ ?_
  · intro args s m h hn
    obtain ⟨meth, c, h1, h2, h3, h4, h5, h6, -, -⟩ := Cond.code_spec hn (atoms_spec (ws := ws) h _ (by rw [hw]; exact List.mem_cons_self))
    exact ⟨meth, c, h1, h2, h3, h4, h5, h6⟩
  · intro p e s m args below meth c s₁ B hml hP _
    have hh0 : s₁.heap = s.heap := by rw [B.state]; rfl
    have ht : ∀ x ∈ c.exceptionTable.toList, False := by
      obtain ⟨meth9, c9, h1, h2, -, -, -, -, h7, -⟩ := Cond.code_spec B.named (atoms_spec (ws := ws) B.pre _ (by rw [hw]; exact List.mem_cons_self))
      cases Option.some.inj (h1.symm.trans B.method)
      cases Option.some.inj (h2.symm.trans (Stand.of_body B).code)
      intro x hx
      rw [Array.isEmpty_iff.mp h7] at hx
      cases hx
    obtain ⟨t, a1, o, b1, b2, b3⟩ := body p e s m args below meth c s₁ B hml ht hP s₁ hh0 (Stand.of_body B)
    exact ⟨t, o, a1, b1, b2, b3⟩
/-- the table of a body with handlers -/
theorem vx_table {p : Program} {x y : MethodName} {S : Spec} {cc bytes : ByteArray} {maxL maxL' : Nat} {ret ret' : Option FieldType} {e : Env} {s s₁ : State} {m : MethodId} {args : Array Value} {below : List Frame} {meth : Method} {c : Code} {hh : List (Nat × Nat × Nat × Nat)}
    (B : BodyLoose p l y S cc maxL ret e s m args below meth c s₁) (h : (Cond.codeWith y bytes maxL' ret' hh).before args s = true) : c.exceptionTable.toList = tableOf hh := by
  obtain ⟨m9, meth9, c9, hn9, h1, h2, -, -, h6, -⟩ := Cond.codeWith_spec h
  cases Option.some.inj (hn9.symm.trans B.named)
  cases Option.some.inj (h1.symm.trans B.method)
  cases Option.some.inj (h2.symm.trans (Stand.of_body B).code)
  rw [← h6, table_eq]
end Bodies
end VXA
/-! ===== END ===== -/
/-! ===== BEGIN a static call of a method with an exception table ===== -/
section VXS
variable {p : Program} {l : Launch} {e : Env} {R : Room} {s : State} {m : MethodId} {args : Array Value} {below : List Frame} {meth : Method} {c : Code} {T : State} {H : Heap} {locs : List Loc} {cells slots : Nat}
abbrev vx_CSW (R : Room) (s : State) (args : Array Value) (own : String) (index : Nat) (y : MethodName) (bytes : ByteArray) (maxL : Nat) (ret : Option FieldType) (hh : List (Nat × Nat × Nat × Nat)) (ws : List Cond) (rm : Room) (mc ms n : Nat) : Prop :=
  (rm.cells = mc ∧ rm.slots = ms ∧ rm.frames + 1 ≤ R.frames ∧ 8 + (maxL + 11) + rm.locals ≤ R.locals ∧ (∀ w ∈ ws, ∀ (a' : Array Value) (U : State), s.WarmedH U.vm → w.before a' U = true) ∧ Cond.codeWith y bytes maxL ret hh ∈ ws) ∧
  (Cond.codeWith y bytes maxL ret hh).before args s = true ∧ (Cond.initialized y.cls).before args s = true ∧ (y.cls ≠ "java/lang/invoke/MethodHandle" ∧ y.cls ≠ "java/lang/invoke/VarHandle") ∧
  (∀ sig, parseMethodDescriptor y.desc = some sig → n = sig.parameters.length) ∧ (Cond.methodLink own index y).before args s = true ∧ (Cond.static y).before args s = true
theorem vx_cwSW {own : String} {index maxL mc ms : Nat} {y : MethodName} {bytes : ByteArray} {ret : Option FieldType} {hh : List (Nat × Nat × Nat × Nat)} {Ts ws ws' : List Cond} {rm : Room} (n : Nat) (ht : ∀ w ∈ Ts, w.before args s = true) (hT : GoodIn Ts (va_wsS own index y ws)) (hw : ws = Cond.codeWith y bytes maxL ret hh :: ws') (hrc : rm.cells = mc) (hrs : rm.slots = ms)
    (hd : y.cls ≠ "java/lang/invoke/MethodHandle" ∧ y.cls ≠ "java/lang/invoke/VarHandle" ∧ (parseMethodDescriptor y.desc).map (fun d => d.parameters.length) = some n) (hR : rm.frames + 1 ≤ R.frames ∧ 8 + (maxL + 11) + rm.locals ≤ R.locals) :
    vx_CSW R s args own index y bytes maxL ret hh ws rm mc ms n := by
  have ok : ∀ w ∈ va_wsS own index y ws, w.before args s = true := fun w h => ht w (hT w h).1
  have hG : GoodIn Ts ws := fun w h => hT w (by unfold va_wsS; exact List.mem_append_right _ h)
  have hc : Cond.codeWith y bytes maxL ret hh ∈ ws := by rw [hw]; exact List.mem_cons_self
  refine ⟨⟨hrc, hrs, hR.1, hR.2, pay_in ht hG, hc⟩, ht _ (hG _ hc).1, ok _ (by simp [va_wsS]), ⟨hd.1, hd.2.1⟩, fun sig h => ?_, ok _ (by simp [va_wsS]), ok _ (by simp [va_wsS])⟩
  have h2 := hd.2.2
  rw [h] at h2
  exact (Option.some.inj h2).symm
theorem vx_callSW (X : Stand p l e R s m args below meth c T locs cells slots) (hexec : p.tables.exec = Jvm.exec) {own : String} {index : Nat} {y : MethodName} {bytes : ByteArray} {maxL : Nat} {ret : Option FieldType} {hh : List (Nat × Nat × Nat × Nat)}
    (hown : s.vm.findClass own = some m.cls) (hlink : (Cond.methodLink own index y).before args s = true) (hstat : (Cond.static y).before args s = true) (hinit : (Cond.initialized y.cls).before args s = true)
    (hcode : (Cond.codeWith y bytes maxL ret hh).before args s = true) (hy : y.cls ≠ "java/lang/invoke/MethodHandle" ∧ y.cls ≠ "java/lang/invoke/VarHandle")
    {W9 : Nat} {Pre : Pt → Array Value → Prop} {Post : Pt → Array Value → Option Value → Pt → Prop} (hK : Back l R p e below s args y 3 W9 Pre Post)
    {g : JFrame} (hg : g.method = m) (hsize : g.locals.size = c.maxLocals) {argsL rest : List Value} (hlen : ∀ sig, parseMethodDescriptor y.desc = some sig → argsL.length = sig.parameters.length)
    (hstack : g.stack = argsL.reverse ++ rest) (hW : 2 * g.monitorRoom + (rest.map fun v => v.category).sum ≤ W9) (hdg : decode c.code g.pc = .ok (.invokestatic index, 3))
    (hpre : ∀ vm₁, s.WarmedH vm₁ → Pre ⟨T.setVm vm₁, locs, cells, slots⟩ argsL.toArray) :
    ∃ (v : Option Value) (vm₁ : Vm) (B : Pt), s.WarmedH vm₁ ∧ Stand p l e R s m args below meth c B.U B.locs B.cells B.slots ∧ Post ⟨T.setVm vm₁, locs, cells, slots⟩ argsL.toArray v B ∧
      ∀ target, Steps p.tables e below (B.U.setTop { g with pc := g.pc + 3, stack := v.toList ++ rest }) target → Steps p.tables e below (T.setTop g) target := by
  obtain ⟨mk, methM, cM, hnamed, hmethM, -, -, -, -, -, -, hsigM⟩ := Cond.codeWith_spec hcode
  have hstatic : methM.isStatic = true := Cond.static_spec hnamed hmethM hstat
  obtain ⟨kP, hkP, -⟩ := className_of_methodNamed hnamed
  have hinitP : kP.init = .initialized := Cond.initialized_spec (findClass_of_methodNamed hnamed) hkP hinit
  obtain ⟨vm₁, X₁, hstep₁⟩ := X.invokestatic hexec hown hlink hnamed hmethM hstatic hkP hinitP hy (g := g) hg (argsL := argsL) (rest := rest) (hlen _ hsigM) hstack hdg
  obtain ⟨v, B, X', hpost, hsteps⟩ := hK m meth c ⟨T.setVm vm₁, locs, cells, slots⟩ { g with stack := rest } (.invokestatic index) mk argsL.toArray X₁ hg hsize hdg hW (X₁.named hnamed) (hpre vm₁ X₁.warmed)
  exact ⟨v, vm₁, B, X₁.warmed, X', hpost, fun target h => hstep₁ _ fun acts => by rw [doInvoke_state]; exact hsteps.trans h⟩
theorem vx_runSW {y : MethodName} {bytes cc : ByteArray} {maxL nL mc ms n index : Nat} {ret : Option FieldType} {hh : List (Nat × Nat × Nat × Nat)} {ws : List Cond} {rm : Room} {Pc : Array Value → State → Prop} {Qc : Array Value → State → Outcome → State → Prop} {free : Addr → Prop} {Ts : List Cond} {own : String} {As rest : List Value} {g : JFrame}
    (S : CallFix p m c cc nL s args Ts own) (hM : Met l y ws rm Pc Qc mc ms free) (cw : vx_CSW R s args own index y bytes maxL ret hh ws rm mc ms n) (hp : PreS s H Pc As)
    (hg : g.method = m) (hn : As.length = n) (hsize : g.locals.size = nL) (hstack : g.stack = As.reverse ++ rest) (hW : 2 * g.monitorRoom + (rest.map fun v => v.category).sum ≤ 8) (hdg : decode cc g.pc = .ok (.invokestatic index, 3)) (hf : cells + mc ≤ R.cells ∧ slots + ms ≤ R.slots) :
    va_Run p l e R s m args below meth c H locs cells slots mc ms g rest (Qc As.toArray) (free) := by
  obtain ⟨⟨hrc, hrs, hfr, hlo, hws, hcw⟩, hcode, hini, hy, hlen, hl, hstt⟩ := cw
  have hK : Back l R p e below s args y 3 8 (PreOf R mc ms Pc) (PostOf Qc mc ms free) := va_backW (hh := hh) (bytes := bytes) (maxL := maxL) (ret := ret) hM hp.1 hrc hrs hfr hlo hws hcw (fun a' U hW => word_at hW (Or.inl (by first | rfl | simp [Cond.onTables, Cond.keeps, Cond.steady])) hini)
  obtain ⟨hx, hb, hml, ho, -⟩ := S
  intro T hT X
  obtain ⟨v, vm₁, ⟨U', l2, c2, s2⟩, hW₁, X', ⟨g', mk, t, L, e1, e2, hq, h1, hL, h2, h3⟩, st⟩ := vx_callSW X hx (hh := hh) (bytes := bytes) (maxL := maxL) (ret := ret) ho hl hstt hini hcode hy hK hg (hsize.trans hml.symm) (argsL := As) (rest := rest) (fun sig h => hn.trans (hlen sig h)) hstack hW (by rw [hb]; exact hdg)
    (fun vm₁ hW₁ => ⟨hf.1, hf.2, hp.2 (T.setVm vm₁) hT hW₁⟩)
  dsimp only [Pt.U, Pt.locs, Pt.cells, Pt.slots] at X' e1 e2 h1 h2 h3 st
  subst h1; subst h2; subst h3
  exact ⟨v, (T.setVm vm₁).calling g' mk As.toArray, t, U', L, hT, X', hL, e1, e2, hq, st⟩
/-- not caught here, past rows that name other classes: it goes on to the caller -/
theorem vx_outP {p : Program} {l : Launch} {e : Env} {R : Room} {s : State} {m : MethodId} {args : Array Value} {below : List Frame} {meth : Method} {c : Code} {H : Heap} {locs : List Loc} {cells slots : Nat} {free : Addr → Prop} {ls : Array Slot} {rest : List Value} {Qc : Array Value → State → Outcome → State → Prop} {XC : String → State → State → Prop}
    {pc : Nat} {own E : String} {ce : Cell} {q : Addr} {mc ms : Nat} (hown : s.vm.findClass own = some m.cls) (hlocks : meth.locks = false)
    (hpass : ∀ z ∈ c.exceptionTable.toList, covers z pc = false ∨ (z.catchType ≠ 0 ∧ ∃ nm : String, (Cond.classLink own z.catchType nm).before args s = true ∧ va_Nc E nm s)) (hcell : H[q]? = some ce) (hv : ce.vm = .none) (hcl : s.vm.findClass E = some ce.cls)
    (hx : ∀ t : State, t.heap = H → s.vm.Alike t.vm → XC E s t) (hf : ∀ z ∈ locs, free z.base) (hc : cells ≤ mc) (hs : slots ≤ ms) :
    vx_W p l e R s m args below meth c H locs cells slots (vx_MQ below Qc XC args s mc ms free) (F0 m pc ls rest) q := by
  intro T hT X
  have hpl : e.platform.magicAccessors = ({} : Platform).magicAccessors := by rw [X.admits.platform]
  obtain ⟨vm', hW', X', st⟩ := X.outThrough hlocks q (g := F0 m pc ls rest) rfl rfl rfl (cell := ce) (by rw [hT]; exact hcell) (by rw [hv]; rfl)
    (by obtain ⟨k9, h9, -⟩ := Vm.findClass_spec hcl; exact ⟨k9, h9⟩) (fun z hz => by
      rcases hpass z hz with h | ⟨hz0, nm, hl1, hn1⟩
      · exact Or.inl h
      · obtain ⟨c6, hc6, hcl6⟩ := Cond.classLink_spec hown hl1 e.platform hpl
        obtain ⟨a8, b8, h1, h2, h3⟩ := hn1
        cases Option.some.inj (h1.symm.trans hcl)
        cases Option.some.inj (h2.symm.trans hc6)
        exact Or.inr ⟨hz0, _, hcl6, h3⟩)
  obtain ⟨g₀, hfr⟩ := X'.frames_eq
  have hcell9 : ((T.setVm vm').setFrames (.throwing q :: below)).heap[q]? = some ce := by
    show T.heap[q]? = some ce
    rw [hT]; exact hcell
  have hend : Ended ((T.setVm vm').setFrames (.throwing q :: below)) below (.threw q) := State.frames_setFrames _ (State.cur_lt_of_frames hfr)
  refine ⟨(T.setVm vm').setFrames (.throwing q :: below), ?_, .threw q, X'.here.running, hend, Or.inr ⟨q, rfl, E, ce, locs, hx _ hT (X'.ends _).1.alike, hcell9, hv, hcl, (X'.ends _).1, (X'.ends _).2.mono hc hs, hf⟩⟩
  rw [X.pushThrowing_eq]
  exact st
/-- a thing of a world lies in the heap -/
theorem vx_lt {D : va_G} {cl : List vw_C} {ws : va_W} {H1 : Heap} (h : va_P D cl ws H1) {k : Nat} {q : Nat × va_E} (hk : ws[k]? = some q) : q.1 < H1.size := (h k q hk).lt
end VXS
/-! ===== END ===== -/
/-! ===== BEGIN methods with a table of their own: called by a name, returning or throwing ===== -/
section VXH
/-! vx_backW, vx_callVX, vx_callSX, vx_callVW, vx_runVW, vx_runVX, vx_runSX, vx_ofWH follow the same proofs as their sisters above (Free/Laws.lean, Shelf42/LK1.lean); vx_outP calls Shelf42/NT130.lean (outThrough). -/
section
variable {l : Launch} {R : Room} {p : Program} {e : Env} {below : List Frame} {s : State} {sargs : Array Value} {y : MethodName} {len W9 : Nat}
theorem vx_backW {ws : List Cond} {rm : Room} {Pc : Array Value → State → Prop} {Qc : Array Value → State → Outcome → State → Prop} {XC : String → State → State → Prop} {mc ms : Nat} {free : Addr → Prop} {bytes : ByteArray} {maxL : Nat} {ret : Option FieldType} {hh : List (Nat × Nat × Nat × Nat)}
    (hM : vx_Met l y ws rm Pc Qc XC mc ms free) (hblind : FrameBlind Pc) (hrc : rm.cells = mc) (hrs : rm.slots = ms)
    (hframes : rm.frames + 1 ≤ R.frames) (hlocals : W9 + (maxL + 11) + rm.locals ≤ R.locals)
    (hws : ∀ w ∈ ws, ∀ a' U, s.WarmedH U.vm → w.before a' U = true) (hcode : Cond.codeWith y bytes maxL ret hh ∈ ws) (hinit : ∀ a' U, s.WarmedH U.vm → (Cond.initialized y.cls).before a' U = true) :
    vx_Back l R p e below s sargs y len W9 (PreOf R mc ms Pc) (PostOf Qc mc ms free) (vx_Post XC mc ms free) := by
  intro m meth c A g ig mk a X hg hsize hdg hW hn hp
  have h1 : (headSpec ws rm).pre.before a A.U = true := atoms_intro fun w hw => hws w hw _ _ X.warmed
  have h2 : (Cond.codeWith y bytes maxL ret hh).before a A.U = true := hws _ hcode _ _ X.warmed
  have h3 : (Cond.initialized y.cls).before a A.U = true := hinit _ _ X.warmed
  have h4 : A.cells + (headSpec ws rm).room.cells ≤ R.cells := by rw [show (headSpec ws rm).room.cells = mc from hrc]; exact hp.1
  have h5 : A.slots + (headSpec ws rm).room.slots ≤ R.slots := by rw [show (headSpec ws rm).room.slots = ms from hrs]; exact hp.2.1
  have hPc : Pc a (A.U.calling g mk a) := hblind _ _ _ _ hp.2.2
  obtain ⟨U, Ls, c0, s0⟩ := A
  dsimp only [Pt.U, Pt.locs, Pt.cells, Pt.slots] at h1 h2 h3 h4 h5 X hn hPc ⊢
  obtain ⟨m9, methY, cY, hn9, hmY, hcY, -, hlY, -⟩ := Cond.codeWith_spec h2
  cases Option.some.inj (hn9.symm.trans hn)
  obtain ⟨kY, hkY, -⟩ := className_of_methodNamed hn
  have hinitY : kY.init = .initialized := Cond.initialized_spec (findClass_of_methodNamed hn) hkY h3
  have h : At U g.method c below := by rw [hg]; exact X.here
  have hlocals9 : W9 + (maxL + 11) + (headSpec ws rm).room.locals ≤ R.locals := hlocals
  have happ : (headSpec ws rm).appliesLoose y e.platform (U.calling g mk a) = true :=
    Spec.appliesLoose_calling (g := g) h hdg hn hkY hinitY
      (X.room_calling (g := g) (R' := (headSpec ws rm).room) hsize hmY hcY hframes (by rw [hlY]; omega) h4 h5) h1
  obtain ⟨mid, hmid⟩ := h.above
  have hfr : (U.setTop g).frames = (.java g :: mid) ++ below := by rw [State.frames_setTop' g h.top, hmid]; rfl
  obtain ⟨o, s₂, hsteps, -, hend, hq⟩ := Steps.callFree hM p X.admits X.cas X.clock (acts := []) hfr happ hPc trivial
  have hq' : vx_Q Qc XC mc ms free a (U.calling g mk a) o s₂ := hq
  rw [State.frames_setTop' g h.top] at hend
  obtain ⟨g₀, hg0⟩ := Option.isSome_iff_exists.mp h.top
  obtain ⟨r, hr⟩ := State.topJava?_eq_some.mp hg0
  have hr' : (({ U with heap := s₂.heap, slotsUsed := s₂.slotsUsed } : State).setVm s₂.vm).frames = .java g₀ :: r := hr
  rcases hq' with ⟨hqc, L, hfe, hL⟩ | ⟨q, rfl, E, ce, L, hx, hce, hcv, hcl, hW₂, hsm, hL⟩
  · obtain ⟨⟨v, rfl⟩, hW₂, e2, q2, q3, q4, q5, q6⟩ := id hfe
    have e3 : s₂ = ({ (U.calling g mk a).setFrames s₂.frames with heap := s₂.heap, slotsUsed := s₂.slotsUsed } : State).setVm s₂.vm := by
      have : s₂ = ({ s₂ with vm := (U.calling g mk a).vm } : State).setVm s₂.vm := rfl
      rw [e2] at this
      exact this
    obtain ⟨c₂, i₂, len₂, hc₂, hd₂, hf₂⟩ := hend
    have hW' : U.WarmedH s₂.vm := hW₂
    have hcc : c₂ = c := by
      have h1 : s₂.code? g.method = U.code? g.method := by
        rw [State.code?_eq, State.code?_eq, hW'.alike.method?]
      exact Option.some.inj (hc₂.symm.trans (h1.trans h.code))
    subst hcc
    have hlen : len₂ = len := by rw [hdg] at hd₂; cases hd₂; rfl
    subst hlen
    have hs₂ : s₂ = (({ U with heap := s₂.heap, slotsUsed := s₂.slotsUsed } : State).setVm s₂.vm).setTop { g with pc := g.pc + len₂, stack := v.toList ++ g.stack } := by
      refine e3.trans ?_
      rw [hf₂, State.calling_eq h.top, State.setFrames_setFrames, State.setTop_of_frames _ hr', hr]
      rfl
    have hsame : U.sameButNew ({ U with heap := s₂.heap, slotsUsed := s₂.slotsUsed } : State) L mc ms := by
      refine ⟨?_, q2, q3, q4, q5, q6⟩
      obtain ⟨t, ht, -⟩ := State.frames_cons hr
      show ({ U with heap := s₂.heap, slotsUsed := s₂.slotsUsed } : State) = { U.setFrames U.frames with heap := s₂.heap, slotsUsed := s₂.slotsUsed }
      rw [State.setFrames_self ht]
    subst hg
    refine Or.inl ⟨v, ⟨(({ U with heap := s₂.heap, slotsUsed := s₂.slotsUsed } : State).setVm s₂.vm), Ls ++ L, c0 + mc, s0 + ms⟩,
      ⟨X.admits, X.cas, X.clock, X.frames, X.room, X.hears, X.method, X.code, (X.here.setHeapUsed s₂.heap s₂.slotsUsed).setVm hW'.alike, X.tail, State.WarmedH.trans X.warmed hW', X.limits, X.bytes, X.same.trans (hsame.setVm s.vm)⟩,
      ⟨g, mk, s₂, L, rfl, rfl, hqc, rfl, hL, rfl, rfl⟩, ?_⟩
    show Steps p.tables e below _ ((({ U with heap := s₂.heap, slotsUsed := s₂.slotsUsed } : State).setVm s₂.vm).setTop { g with pc := g.pc + len₂, stack := v.toList ++ g.stack })
    rw [← hs₂]
    exact hsteps
  · obtain ⟨e2, q2, q3, q4, q5, q6⟩ := id hsm
    have e3 : s₂ = ({ (U.calling g mk a).setFrames s₂.frames with heap := s₂.heap, slotsUsed := s₂.slotsUsed } : State).setVm s₂.vm := by
      have : s₂ = ({ s₂ with vm := (U.calling g mk a).vm } : State).setVm s₂.vm := rfl
      rw [e2] at this
      exact this
    have hf₂ : s₂.frames = .throwing q :: .java g :: U.frames.tail := hend
    have hW' : U.WarmedH s₂.vm := hW₂
    have hs₂ : s₂ = ((({ U with heap := s₂.heap, slotsUsed := s₂.slotsUsed } : State).setVm s₂.vm).setTop g).pushFrame (.throwing q) := by
      refine e3.trans ?_
      rw [hf₂, State.calling_eq h.top, State.setFrames_setFrames, State.pushFrame, State.frames_setTop _ hr', State.setTop_of_frames _ hr', State.setFrames_setFrames, hr]
      rfl
    have hsame : U.sameButNew ({ U with heap := s₂.heap, slotsUsed := s₂.slotsUsed } : State) L mc ms := by
      refine ⟨?_, q2, q3, q4, q5, q6⟩
      obtain ⟨t, ht, -⟩ := State.frames_cons hr
      show ({ U with heap := s₂.heap, slotsUsed := s₂.slotsUsed } : State) = { U.setFrames U.frames with heap := s₂.heap, slotsUsed := s₂.slotsUsed }
      rw [State.setFrames_self ht]
    subst hg
    refine Or.inr ⟨q, ⟨(({ U with heap := s₂.heap, slotsUsed := s₂.slotsUsed } : State).setVm s₂.vm), Ls ++ L, c0 + mc, s0 + ms⟩,
      ⟨X.admits, X.cas, X.clock, X.frames, X.room, X.hears, X.method, X.code, (X.here.setHeapUsed s₂.heap s₂.slotsUsed).setVm hW'.alike, X.tail, State.WarmedH.trans X.warmed hW', X.limits, X.bytes, X.same.trans (hsame.setVm s.vm)⟩,
      ⟨g, mk, s₂, L, E, ce, rfl, rfl, hx, hce, hcv, hcl, rfl, hL, rfl, rfl⟩, ?_⟩
    show Steps p.tables e below _ (((({ U with heap := s₂.heap, slotsUsed := s₂.slotsUsed } : State).setVm s₂.vm).setTop g).pushFrame (.throwing q))
    rw [← hs₂]
    exact hsteps
end
variable {p : Program} {l : Launch} {e : Env} {R : Room} {s : State} {m : MethodId} {args : Array Value} {below : List Frame} {meth : Method} {c : Code} {T : State} {H : Heap} {locs : List Loc} {cells slots : Nat}
theorem vx_callVX (X : Stand p l e R s m args below meth c T locs cells slots) (hexec : p.tables.exec = Jvm.exec) {own C : String} {index : Nat} {y : MethodName} {bytes : ByteArray} {maxL : Nat} {ret : Option FieldType} {hh : List (Nat × Nat × Nat × Nat)}
    (hown : s.vm.findClass own = some m.cls) (hlink : (Cond.methodLink own index y).before args s = true) (hinst : (Cond.instanceMethod y).before args s = true) (hsel : (Cond.selects C y y).before args s = true)
    (hcode : (Cond.codeWith y bytes maxL ret hh).before args s = true) (hy : y.cls ≠ "java/lang/invoke/MethodHandle" ∧ y.cls ≠ "java/lang/invoke/VarHandle")
    {W9 : Nat} {Pre : Pt → Array Value → Prop} {Post : Pt → Array Value → Option Value → Pt → Prop} {PostX : Pt → Array Value → Addr → Pt → Prop} (hK : vx_Back l R p e below s args y 3 W9 Pre Post PostX)
    {b : Addr} {cellB : Cell} (hcell : T.heap[b]? = some cellB) (hobj : cellB.vm.isStatics = false) (hcls : s.vm.findClass C = some cellB.cls)
    {g : JFrame} (hg : g.method = m) (hsize : g.locals.size = c.maxLocals) {argsL rest : List Value} (hlen : ∀ sig, parseMethodDescriptor y.desc = some sig → argsL.length = sig.parameters.length)
    (hstack : g.stack = argsL.reverse ++ .ref b :: rest) (hW : 2 * g.monitorRoom + (rest.map fun v => v.category).sum ≤ W9) (hdg : decode c.code g.pc = .ok (.invokevirtual index, 3))
    (hpre : ∀ vm₁, s.WarmedH vm₁ → Pre ⟨T.setVm vm₁, locs, cells, slots⟩ (Value.ref b :: argsL).toArray) :
    (∃ (v : Option Value) (vm₁ : Vm) (B : Pt), s.WarmedH vm₁ ∧ Stand p l e R s m args below meth c B.U B.locs B.cells B.slots ∧ Post ⟨T.setVm vm₁, locs, cells, slots⟩ (Value.ref b :: argsL).toArray v B ∧
      ∀ target, Steps p.tables e below (B.U.setTop { g with pc := g.pc + 3, stack := v.toList ++ rest }) target → Steps p.tables e below (T.setTop g) target) ∨
    (∃ (q : Addr) (vm₁ : Vm) (B : Pt), s.WarmedH vm₁ ∧ Stand p l e R s m args below meth c B.U B.locs B.cells B.slots ∧ PostX ⟨T.setVm vm₁, locs, cells, slots⟩ (Value.ref b :: argsL).toArray q B ∧
      Steps p.tables e below (T.setTop g) ((B.U.setTop { g with stack := rest }).pushFrame (.throwing q))) := by
  obtain ⟨mk, methM, hnamed, hmethM, hstM, habM⟩ := Cond.instanceMethod_spec hinst
  obtain ⟨m8, methM', cM, hn8, hmethM', -, -, -, -, -, -, hsigM⟩ := Cond.codeWith_spec hcode
  cases Option.some.inj (hn8.symm.trans hnamed)
  cases hmethM.symm.trans hmethM'
  obtain ⟨c2, r2, m2, q1, q2, q3, q4, kP, hkP, hkPi⟩ := Cond.selects_spec hsel
  cases hcls.symm.trans q1
  cases (State.methodFound?_of_named hnamed hy).symm.trans q2
  cases hnamed.symm.trans q3
  have hselP : selectMethod e.platform s.vm cellB.cls mk = .method mk := by rw [Launch.admits_selectMethod X.admits]; exact q4
  obtain ⟨vm₁, X₁, hstep₁⟩ := X.invokevirtual hexec hown hlink hnamed hmethM hstM hkP hkPi hy (a := b) (cell := cellB) hcell
    (fun z h => by rw [h] at hobj; cases hobj) hselP hmethM habM hkP hkPi (g := g) hg (argsL := argsL) (rest := rest) (hlen _ hsigM) hstack hdg
  rcases hK m meth c ⟨T.setVm vm₁, locs, cells, slots⟩ { g with stack := rest } (.invokevirtual index) mk (Value.ref b :: argsL).toArray X₁ hg hsize hdg hW (X₁.named hnamed) (hpre vm₁ X₁.warmed) with ⟨v, B, X', hpost, hsteps⟩ | ⟨q, B, X', hpost, hsteps⟩
  · exact Or.inl ⟨v, vm₁, B, X₁.warmed, X', hpost, fun target h => hstep₁ _ fun acts => by rw [doInvoke_state]; exact hsteps.trans h⟩
  · exact Or.inr ⟨q, vm₁, B, X₁.warmed, X', hpost, hstep₁ _ fun acts => by rw [doInvoke_state]; exact hsteps⟩
theorem vx_callSX (X : Stand p l e R s m args below meth c T locs cells slots) (hexec : p.tables.exec = Jvm.exec) {own : String} {index : Nat} {y : MethodName} {bytes : ByteArray} {maxL : Nat} {ret : Option FieldType} {hh : List (Nat × Nat × Nat × Nat)}
    (hown : s.vm.findClass own = some m.cls) (hlink : (Cond.methodLink own index y).before args s = true) (hstat : (Cond.static y).before args s = true) (hinit : (Cond.initialized y.cls).before args s = true)
    (hcode : (Cond.codeWith y bytes maxL ret hh).before args s = true) (hy : y.cls ≠ "java/lang/invoke/MethodHandle" ∧ y.cls ≠ "java/lang/invoke/VarHandle")
    {W9 : Nat} {Pre : Pt → Array Value → Prop} {Post : Pt → Array Value → Option Value → Pt → Prop} {PostX : Pt → Array Value → Addr → Pt → Prop} (hK : vx_Back l R p e below s args y 3 W9 Pre Post PostX)
    {g : JFrame} (hg : g.method = m) (hsize : g.locals.size = c.maxLocals) {argsL rest : List Value} (hlen : ∀ sig, parseMethodDescriptor y.desc = some sig → argsL.length = sig.parameters.length)
    (hstack : g.stack = argsL.reverse ++ rest) (hW : 2 * g.monitorRoom + (rest.map fun v => v.category).sum ≤ W9) (hdg : decode c.code g.pc = .ok (.invokestatic index, 3))
    (hpre : ∀ vm₁, s.WarmedH vm₁ → Pre ⟨T.setVm vm₁, locs, cells, slots⟩ argsL.toArray) :
    (∃ (v : Option Value) (vm₁ : Vm) (B : Pt), s.WarmedH vm₁ ∧ Stand p l e R s m args below meth c B.U B.locs B.cells B.slots ∧ Post ⟨T.setVm vm₁, locs, cells, slots⟩ argsL.toArray v B ∧
      ∀ target, Steps p.tables e below (B.U.setTop { g with pc := g.pc + 3, stack := v.toList ++ rest }) target → Steps p.tables e below (T.setTop g) target) ∨
    (∃ (q : Addr) (vm₁ : Vm) (B : Pt), s.WarmedH vm₁ ∧ Stand p l e R s m args below meth c B.U B.locs B.cells B.slots ∧ PostX ⟨T.setVm vm₁, locs, cells, slots⟩ argsL.toArray q B ∧
      Steps p.tables e below (T.setTop g) ((B.U.setTop { g with stack := rest }).pushFrame (.throwing q))) := by
  obtain ⟨mk, methM, cM, hnamed, hmethM, -, -, -, -, -, -, hsigM⟩ := Cond.codeWith_spec hcode
  have hstatic : methM.isStatic = true := Cond.static_spec hnamed hmethM hstat
  obtain ⟨kP, hkP, -⟩ := className_of_methodNamed hnamed
  have hinitP : kP.init = .initialized := Cond.initialized_spec (findClass_of_methodNamed hnamed) hkP hinit
  obtain ⟨vm₁, X₁, hstep₁⟩ := X.invokestatic hexec hown hlink hnamed hmethM hstatic hkP hinitP hy (g := g) hg (argsL := argsL) (rest := rest) (hlen _ hsigM) hstack hdg
  rcases hK m meth c ⟨T.setVm vm₁, locs, cells, slots⟩ { g with stack := rest } (.invokestatic index) mk argsL.toArray X₁ hg hsize hdg hW (X₁.named hnamed) (hpre vm₁ X₁.warmed) with ⟨v, B, X', hpost, hsteps⟩ | ⟨q, B, X', hpost, hsteps⟩
  · exact Or.inl ⟨v, vm₁, B, X₁.warmed, X', hpost, fun target h => hstep₁ _ fun acts => by rw [doInvoke_state]; exact hsteps.trans h⟩
  · exact Or.inr ⟨q, vm₁, B, X₁.warmed, X', hpost, hstep₁ _ fun acts => by rw [doInvoke_state]; exact hsteps⟩
theorem vx_callVW (X : Stand p l e R s m args below meth c T locs cells slots) (hexec : p.tables.exec = Jvm.exec) {own C : String} {index : Nat} {y : MethodName} {bytes : ByteArray} {maxL : Nat} {ret : Option FieldType} {hh : List (Nat × Nat × Nat × Nat)}
    (hown : s.vm.findClass own = some m.cls) (hlink : (Cond.methodLink own index y).before args s = true) (hinst : (Cond.instanceMethod y).before args s = true) (hsel : (Cond.selects C y y).before args s = true)
    (hcode : (Cond.codeWith y bytes maxL ret hh).before args s = true) (hy : y.cls ≠ "java/lang/invoke/MethodHandle" ∧ y.cls ≠ "java/lang/invoke/VarHandle")
    {W9 : Nat} {Pre : Pt → Array Value → Prop} {Post : Pt → Array Value → Option Value → Pt → Prop} (hK : Back l R p e below s args y 3 W9 Pre Post)
    {b : Addr} {cellB : Cell} (hcell : T.heap[b]? = some cellB) (hobj : cellB.vm.isStatics = false) (hcls : s.vm.findClass C = some cellB.cls)
    {g : JFrame} (hg : g.method = m) (hsize : g.locals.size = c.maxLocals) {argsL rest : List Value} (hlen : ∀ sig, parseMethodDescriptor y.desc = some sig → argsL.length = sig.parameters.length)
    (hstack : g.stack = argsL.reverse ++ .ref b :: rest) (hW : 2 * g.monitorRoom + (rest.map fun v => v.category).sum ≤ W9) (hdg : decode c.code g.pc = .ok (.invokevirtual index, 3))
    (hpre : ∀ vm₁, s.WarmedH vm₁ → Pre ⟨T.setVm vm₁, locs, cells, slots⟩ (Value.ref b :: argsL).toArray) :
    ∃ (v : Option Value) (vm₁ : Vm) (B : Pt), s.WarmedH vm₁ ∧ Stand p l e R s m args below meth c B.U B.locs B.cells B.slots ∧ Post ⟨T.setVm vm₁, locs, cells, slots⟩ (Value.ref b :: argsL).toArray v B ∧
      ∀ target, Steps p.tables e below (B.U.setTop { g with pc := g.pc + 3, stack := v.toList ++ rest }) target → Steps p.tables e below (T.setTop g) target := by
  obtain ⟨mk, methM, hnamed, hmethM, hstM, habM⟩ := Cond.instanceMethod_spec hinst
  obtain ⟨m8, methM', cM, hn8, hmethM', -, -, -, -, -, -, hsigM⟩ := Cond.codeWith_spec hcode
  cases Option.some.inj (hn8.symm.trans hnamed)
  cases hmethM.symm.trans hmethM'
  obtain ⟨c2, r2, m2, q1, q2, q3, q4, kP, hkP, hkPi⟩ := Cond.selects_spec hsel
  cases hcls.symm.trans q1
  cases (State.methodFound?_of_named hnamed hy).symm.trans q2
  cases hnamed.symm.trans q3
  have hselP : selectMethod e.platform s.vm cellB.cls mk = .method mk := by rw [Launch.admits_selectMethod X.admits]; exact q4
  obtain ⟨vm₁, X₁, hstep₁⟩ := X.invokevirtual hexec hown hlink hnamed hmethM hstM hkP hkPi hy (a := b) (cell := cellB) hcell
    (fun z h => by rw [h] at hobj; cases hobj) hselP hmethM habM hkP hkPi (g := g) hg (argsL := argsL) (rest := rest) (hlen _ hsigM) hstack hdg
  obtain ⟨v, B, X', hpost, hsteps⟩ := hK m meth c ⟨T.setVm vm₁, locs, cells, slots⟩ { g with stack := rest } (.invokevirtual index) mk (Value.ref b :: argsL).toArray X₁ hg hsize hdg hW (X₁.named hnamed) (hpre vm₁ X₁.warmed)
  exact ⟨v, vm₁, B, X₁.warmed, X', hpost, fun target h => hstep₁ _ fun acts => by rw [doInvoke_state]; exact hsteps.trans h⟩
abbrev vx_CVW (R : Room) (s : State) (args : Array Value) (own C : String) (index : Nat) (y : MethodName) (bytes : ByteArray) (maxL : Nat) (ret : Option FieldType) (hh : List (Nat × Nat × Nat × Nat)) (ws : List Cond) (rm : Room) (mc ms n : Nat) : Prop :=
  (rm.cells = mc ∧ rm.slots = ms ∧ rm.frames + 1 ≤ R.frames ∧ 8 + (maxL + 11) + rm.locals ≤ R.locals ∧ (∀ w ∈ ws, ∀ (a' : Array Value) (U : State), s.WarmedH U.vm → w.before a' U = true) ∧ Cond.codeWith y bytes maxL ret hh ∈ ws) ∧
  (Cond.codeWith y bytes maxL ret hh).before args s = true ∧ (Cond.initialized y.cls).before args s = true ∧ (y.cls ≠ "java/lang/invoke/MethodHandle" ∧ y.cls ≠ "java/lang/invoke/VarHandle") ∧
  (∀ sig, parseMethodDescriptor y.desc = some sig → n = sig.parameters.length) ∧ (Cond.methodLink own index y).before args s = true ∧ (Cond.instanceMethod y).before args s = true ∧ (Cond.selects C y y).before args s = true
theorem vx_cwVW {own C : String} {index maxL mc ms : Nat} {y : MethodName} {bytes : ByteArray} {ret : Option FieldType} {hh : List (Nat × Nat × Nat × Nat)} {Ts ws ws' : List Cond} {rm : Room} (n : Nat) (ht : ∀ w ∈ Ts, w.before args s = true) (hT : GoodIn Ts (wsV own index C y ws)) (hw : ws = Cond.codeWith y bytes maxL ret hh :: ws') (hrc : rm.cells = mc) (hrs : rm.slots = ms)
    (hd : y.cls = C ∧ y.cls ≠ "java/lang/invoke/MethodHandle" ∧ y.cls ≠ "java/lang/invoke/VarHandle" ∧ (parseMethodDescriptor y.desc).map (fun d => d.parameters.length) = some n) (hR : rm.frames + 1 ≤ R.frames ∧ 8 + (maxL + 11) + rm.locals ≤ R.locals) :
    vx_CVW R s args own C index y bytes maxL ret hh ws rm mc ms n := by
  obtain ⟨hC, hd⟩ := hd
  subst hC
  have ok : ∀ w ∈ wsV own index y.cls y ws, w.before args s = true := fun w h => ht w (hT w h).1
  have hG : GoodIn Ts ws := fun w h => hT w (by unfold wsV; exact List.mem_append_right _ h)
  have hc : Cond.codeWith y bytes maxL ret hh ∈ ws := by rw [hw]; exact List.mem_cons_self
  refine ⟨⟨hrc, hrs, hR.1, hR.2, pay_in ht hG, hc⟩, ht _ (hG _ hc).1, ok _ (by simp [wsV]), ⟨hd.1, hd.2.1⟩, fun sig h => ?_, ok _ (by simp [wsV]), ok _ (by simp [wsV]), ok _ (by simp [wsV])⟩
  have h2 := hd.2.2
  rw [h] at h2
  exact (Option.some.inj h2).symm
theorem vx_runVW {y : MethodName} {bytes cc : ByteArray} {maxL nL mc ms n index : Nat} {ret : Option FieldType} {hh : List (Nat × Nat × Nat × Nat)} {ws : List Cond} {rm : Room} {Pc : Array Value → State → Prop} {Qc : Array Value → State → Outcome → State → Prop} {free : Addr → Prop} {Ts : List Cond} {own C : String} {b : Addr} {As rest : List Value} {g : JFrame}
    (S : CallFix p m c cc nL s args Ts own) (hM : Met l y ws rm Pc Qc mc ms free) (cw : vx_CVW R s args own C index y bytes maxL ret hh ws rm mc ms n) (hp : PreV s H C b Pc As)
    (hg : g.method = m) (hn : As.length = n) (hsize : g.locals.size = nL) (hstack : g.stack = As.reverse ++ .ref b :: rest) (hW : 2 * g.monitorRoom + (rest.map fun v => v.category).sum ≤ 8) (hdg : decode cc g.pc = .ok (.invokevirtual index, 3)) (hf : cells + mc ≤ R.cells ∧ slots + ms ≤ R.slots) :
    va_Run p l e R s m args below meth c H locs cells slots mc ms g rest (Qc (Value.ref b :: As).toArray) free := by
  obtain ⟨⟨hrc, hrs, hfr, hlo, hws, hcw⟩, hcode, hini, hy, hlen, hl, hin, hse⟩ := cw
  have hK : Back l R p e below s args y 3 8 (PreOf R mc ms Pc) (PostOf Qc mc ms free) := va_backW (hh := hh) (bytes := bytes) (maxL := maxL) (ret := ret) hM hp.1 hrc hrs hfr hlo hws hcw (fun a' U hW => word_at hW (Or.inl (by first | rfl | simp [Cond.onTables, Cond.keeps, Cond.steady])) hini)
  obtain ⟨hx, hb, hml, ho, -⟩ := S
  obtain ⟨-, ⟨cellB, hcB, hoB, hclB⟩, hPc⟩ := hp
  intro T hT X
  obtain ⟨v, vm₁, ⟨U', l2, c2, s2⟩, hW₁, X', ⟨g', mk, t, L, e1, e2, hq, h1, hL, h2, h3⟩, st⟩ := vx_callVW X hx (C := C) (hh := hh) (bytes := bytes) (maxL := maxL) (ret := ret) ho hl hin hse hcode hy hK (by rw [hT]; exact hcB) hoB hclB hg (hsize.trans hml.symm) (argsL := As) (rest := rest) (fun sig h => hn.trans (hlen sig h)) hstack hW (by rw [hb]; exact hdg)
    (fun vm₁ hW₁ => ⟨hf.1, hf.2, hPc (T.setVm vm₁) hT hW₁⟩)
  dsimp only [Pt.U, Pt.locs, Pt.cells, Pt.slots] at X' e1 e2 h1 h2 h3 st
  subst h1; subst h2; subst h3
  exact ⟨v, (T.setVm vm₁).calling g' mk (Value.ref b :: As).toArray, t, U', L, hT, X', hL, e1, e2, hq, st⟩
section
variable {y : MethodName} {bytes cc : ByteArray} {maxL nL mc ms n index : Nat} {ret : Option FieldType} {ws : List Cond} {rm : Room} {Pc : Array Value → State → Prop} {Qc : Array Value → State → Outcome → State → Prop} {XC : String → State → State → Prop} {free : Addr → Prop} {Ts : List Cond} {own C : String} {b : Addr} {As rest : List Value} {g : JFrame}
theorem vx_runVX {hh : List (Nat × Nat × Nat × Nat)} (S : CallFix p m c cc nL s args Ts own) (hM : vx_Met l y ws rm Pc Qc XC mc ms free) (cw : vx_CVW R s args own C index y bytes maxL ret hh ws rm mc ms n) (hp : PreV s H C b Pc As)
    (hg : g.method = m) (hn : As.length = n) (hsize : g.locals.size = nL) (hstack : g.stack = As.reverse ++ .ref b :: rest) (hW : 2 * g.monitorRoom + (rest.map fun v => v.category).sum ≤ 8) (hdg : decode cc g.pc = .ok (.invokevirtual index, 3)) (hf : cells + mc ≤ R.cells ∧ slots + ms ≤ R.slots) :
    vx_Run p l e R s m args below meth c H locs cells slots mc ms g rest (Qc (Value.ref b :: As).toArray) XC free := by
  obtain ⟨⟨hrc, hrs, hfr, hlo, hws, hcw⟩, hcode, hini, hy, hlen, hl, hin, hse⟩ := cw
  have hK : vx_Back l R p e below s args y 3 8 (PreOf R mc ms Pc) (PostOf Qc mc ms free) (vx_Post XC mc ms free) := vx_backW (hh := hh) (bytes := bytes) (maxL := maxL) (ret := ret) hM hp.1 hrc hrs hfr hlo hws hcw (fun a' U hW => word_at hW (Or.inl (by first | rfl | simp [Cond.onTables, Cond.keeps, Cond.steady])) hini)
  obtain ⟨hx, hb, hml, ho, -⟩ := S
  obtain ⟨-, ⟨cellB, hcB, hoB, hclB⟩, hPc⟩ := hp
  intro T hT X
  rcases vx_callVX X hx (C := C) (hh := hh) (bytes := bytes) (maxL := maxL) (ret := ret) ho hl hin hse hcode hy hK (by rw [hT]; exact hcB) hoB hclB hg (hsize.trans hml.symm) (argsL := As) (rest := rest) (fun sig h => hn.trans (hlen sig h)) hstack hW (by rw [hb]; exact hdg)
    (fun vm₁ hW₁ => ⟨hf.1, hf.2, hPc (T.setVm vm₁) hT hW₁⟩) with ⟨v, vm₁, ⟨U', l2, c2, s2⟩, hW₁, X', ⟨g', mk, t, L, e1, e2, hq, h1, hL, h2, h3⟩, st⟩ | ⟨q, vm₁, ⟨U', l2, c2, s2⟩, hW₁, X', ⟨g', mk, t, L, E, ce, e1, e2, hq, hce, hcv, hcl, h1, hL, h2, h3⟩, st⟩
  · dsimp only [Pt.U, Pt.locs, Pt.cells, Pt.slots] at X' e1 e2 h1 h2 h3 st
    subst h1; subst h2; subst h3
    exact Or.inl ⟨v, (T.setVm vm₁).calling g' mk (Value.ref b :: As).toArray, t, U', L, hT, X', hL, e1, e2, hq, st⟩
  · dsimp only [Pt.U, Pt.locs, Pt.cells, Pt.slots] at X' e1 e2 h1 h2 h3 st hcl
    subst h1; subst h2; subst h3
    exact Or.inr ⟨q, (T.setVm vm₁).calling g' mk (Value.ref b :: As).toArray, t, U', L, E, ce, hT, X', hL, e1, e2, hq, hce, hcv, vx_cls hW₁ hcl, st⟩
theorem vx_runSX {hh : List (Nat × Nat × Nat × Nat)} (S : CallFix p m c cc nL s args Ts own) (hM : vx_Met l y ws rm Pc Qc XC mc ms free) (cw : vx_CSW R s args own index y bytes maxL ret hh ws rm mc ms n) (hp : PreS s H Pc As)
    (hg : g.method = m) (hn : As.length = n) (hsize : g.locals.size = nL) (hstack : g.stack = As.reverse ++ rest) (hW : 2 * g.monitorRoom + (rest.map fun v => v.category).sum ≤ 8) (hdg : decode cc g.pc = .ok (.invokestatic index, 3)) (hf : cells + mc ≤ R.cells ∧ slots + ms ≤ R.slots) :
    vx_Run p l e R s m args below meth c H locs cells slots mc ms g rest (Qc As.toArray) XC free := by
  obtain ⟨⟨hrc, hrs, hfr, hlo, hws, hcw⟩, hcode, hini, hy, hlen, hl, hstt⟩ := cw
  have hK : vx_Back l R p e below s args y 3 8 (PreOf R mc ms Pc) (PostOf Qc mc ms free) (vx_Post XC mc ms free) := vx_backW (hh := hh) (bytes := bytes) (maxL := maxL) (ret := ret) hM hp.1 hrc hrs hfr hlo hws hcw (fun a' U hW => word_at hW (Or.inl (by first | rfl | simp [Cond.onTables, Cond.keeps, Cond.steady])) hini)
  obtain ⟨hx, hb, hml, ho, -⟩ := S
  intro T hT X
  rcases vx_callSX X hx (hh := hh) (bytes := bytes) (maxL := maxL) (ret := ret) ho hl hstt hini hcode hy hK hg (hsize.trans hml.symm) (argsL := As) (rest := rest) (fun sig h => hn.trans (hlen sig h)) hstack hW (by rw [hb]; exact hdg)
    (fun vm₁ hW₁ => ⟨hf.1, hf.2, hp.2 (T.setVm vm₁) hT hW₁⟩) with ⟨v, vm₁, ⟨U', l2, c2, s2⟩, hW₁, X', ⟨g', mk, t, L, e1, e2, hq, h1, hL, h2, h3⟩, st⟩ | ⟨q, vm₁, ⟨U', l2, c2, s2⟩, hW₁, X', ⟨g', mk, t, L, E, ce, e1, e2, hq, hce, hcv, hcl, h1, hL, h2, h3⟩, st⟩
  · dsimp only [Pt.U, Pt.locs, Pt.cells, Pt.slots] at X' e1 e2 h1 h2 h3 st
    subst h1; subst h2; subst h3
    exact Or.inl ⟨v, (T.setVm vm₁).calling g' mk As.toArray, t, U', L, hT, X', hL, e1, e2, hq, st⟩
  · dsimp only [Pt.U, Pt.locs, Pt.cells, Pt.slots] at X' e1 e2 h1 h2 h3 st hcl
    subst h1; subst h2; subst h3
    exact Or.inr ⟨q, (T.setVm vm₁).calling g' mk As.toArray, t, U', L, E, ce, hT, X', hL, e1, e2, hq, hce, hcv, vx_cls hW₁ hcl, st⟩
end
end VXH
theorem vx_ofWH {l : Launch} {y : MethodName} {ws ws' : List Cond} {rm : Room} {Pc : Array Value → State → Prop} {Qc : Array Value → State → Outcome → State → Prop} {XC : String → State → State → Prop} {mc ms : Nat} {free : Addr → Prop} {cc : ByteArray} {maxL : Nat} {ret : Option FieldType} {hh : List (Nat × Nat × Nat × Nat)}
    (hy : plainName y.cls = true) (hw : ws = Cond.codeWith y cc maxL ret hh :: ws')
    (body : ∀ p e s m args below meth c s₁, BodyLoose p l y (headSpec ws rm) cc maxL ret e s m args below meth c s₁ → c.maxLocals = maxL → Pc args s →
      W p l e (headSpec ws rm).room s m args below meth c s.heap [] 0 0 (vx_MQ below Qc XC args s mc ms free) (entryFrame m args maxL)) : vx_Met l y ws rm Pc Qc XC mc ms free := by
  refine MetFree.of_bodyS (code := cc) (maxLocals := maxL) (ret := ret) hy ?_ ?_
  · intro args s m h hn
    obtain ⟨m9, meth, c, hn9, h1, h2, h3, h4, -, h5, h6, -⟩ := Cond.codeWith_spec (atoms_spec (ws := ws) h _ (by rw [hw]; exact List.mem_cons_self))
    cases hn.symm.trans hn9
    exact ⟨meth, c, h1, h2, h3, h4, h5, h6⟩
  · intro p e s m args below meth c s₁ B hml hP _
    have hh0 : s₁.heap = s.heap := by rw [B.state]; rfl
    obtain ⟨t, a1, o, b1, b2, b3⟩ := body p e s m args below meth c s₁ B hml hP s₁ hh0 (Stand.of_body B)
    exact ⟨t, o, a1, b1, b2, b3⟩
/-! ===== END ===== -/

/-! ===== BEGIN what the machine throws by itself, no traces kept ===== -/
section VXM
set_option maxHeartbeats 1000000 in
/-- the machine throws cls with the message text, no traces kept: from its note over the frame g to 'throwing' over the same frame (follows the proofs of Stand.vmThrowsMessage, Shelf/KitTracedVmS.lean, and Stand.throwsMessageColdBareV, StandMessageColdV.lean, without the step out of the frame) -/
theorem vx_vmAt {p : Program} {l : Launch} {e : Env} {R : Room} {s : State} {m₀ : MethodId} {args : Array Value} {below : List Frame} {meth : Method} {c : Code} {W : State} {locs : List Loc} {cells slots : Nat}
    (X : Stand p l e R s m₀ args below meth c W locs cells slots) (hexec : p.tables.exec = Jvm.exec) (htr : e.platform.stackTraces = false) {cls : String} {names : List String} {text : String}
    (hcls : Bundle.fit cls = true) (hnames : ∀ n ∈ names, Bundle.fit n = true) (hsoe : (cls == "java/lang/StackOverflowError") = false) (hoom : (cls == "java/lang/OutOfMemoryError") = false)
    (h : ∀ a ∈ Bundle.messageArmAtoms cls names, a.before args s = true)
    (hlocs : ∀ x ∈ locs, ∀ cell, s.heap[x.base]? = some cell → cell.vm.isStatics = false)
    (htext : (text == notModelled) = false) (hlimit : ¬ (stringBytes (stringToUtf16 text)).size > e.platform.arrayLengthLimit) (hheap : ¬ (stringBytes (stringToUtf16 text)).size * componentBytes .byte > e.platform.maxHeapBytes)
    {g : JFrame} (hg : g.method = m₀) (hsize : g.locals.size = c.maxLocals)
    (hRframes : names.length + 4 < R.frames) (hRlocals : 2 * g.monitorRoom + (g.stack.map fun v => v.category).sum + 10240 ≤ R.locals) (hshort : 13 * names.length + 55 ≤ 10240)
    (hRcells : cells + 3 ≤ R.cells) (hRslots : slots + ((stringBytes (stringToUtf16 text)).size + 4 + 6) ≤ R.slots) (hlocks : meth.locks = false) :
    ∃ (S : State) (q : Addr) (ce : Cell), (∀ target, Steps p.tables e below ((S.setTop g).pushFrame (.throwing q)) target → Steps p.tables e below ((W.setTop g).pushFrame (.throwNew cls (some text) none)) target) ∧
      Stand p l e R s m₀ args below meth c S locs (cells + 3) (slots + ((stringBytes (stringToUtf16 text)).size + 4 + 6)) ∧ S.heap[q]? = some ce ∧ s.vm.findClass cls = some ce.cls ∧ ce.vm = .none := by
  have howns : e.platform.frameOwnsMonitors = true := by rw [X.admits.platform]
  have hfin : e.platform.finalization = false := by rw [X.admits.platform]
  have hpl : e.platform.magicAccessors = ({} : Platform).magicAccessors := by rw [X.admits.platform]
  have a : ∀ x, x ∈ Bundle.messageArmAtoms cls names → x.holds args s none s [] = true := fun x hx => h x hx
  obtain ⟨T, Z0, L, -, Y⟩ := ThrowableC.of_atoms (args := args) howns hfin hpl (fun x hx => h x (by simp [Bundle.messageArmAtoms, hx]))
  obtain ⟨Z, M, LZ, LM, hnZ⟩ := Init0T.ofS_atoms (args := args) hpl L Y (fun x hx => h x (by simp [Bundle.messageArmAtoms, hx]))
  obtain ⟨P1, Ps, hlen, L1, hL, hP1m, hlink1, hlink⟩ := Bundle.chainS (args := args) hpl hnZ names cls hcls hnames (fun x hx => h x (by simp [Bundle.messageArmAtoms, hx]))
  obtain ⟨Zs, LZs, hn4, hfitv, hfitc⟩ := StringT.of_atoms (args := args) (fun x hx => h x (by simp [Bundle.messageArmAtoms, hx]))
  have hfound : s.vm.findClass cls = some P1.m.cls := findClass_of_methodNamed hP1m
  obtain ⟨c1, kX, hc1, hk, hord, -, -, hn6⟩ := Cond.instantiable_spec (a (.instantiable cls 6) (by simp [Bundle.messageArmAtoms]))
  cases Option.some.inj (hc1.symm.trans hfound)
  have hinit := Cond.initialized_spec hfound hk (a (.initialized cls) (by simp [Bundle.messageArmAtoms]))
  have hctor : kX.findMethod "<init>" "(Ljava/lang/String;)V" = some P1.m.idx := findMethod_of_methodNamed hP1m hk
  have hsel0 : selectMethod e.platform s.vm P1.m.cls T.fill0 = .method T.fill0 := by
    obtain ⟨c2, r2, m2, q1, q2, q3, q4, -⟩ := Cond.selects_spec (a (.selects cls Bundle.tFill0 Bundle.tFill0) (by simp [Bundle.messageArmAtoms]))
    cases Option.some.inj (q1.symm.trans hfound)
    cases Option.some.inj (q2.symm.trans (State.methodFound?_of_named Y.fill0 (by decide)))
    cases Option.some.inj (q3.symm.trans Y.fill0)
    rw [Launch.admits_selectMethod X.admits]; exact q4
  have hselF : selectMethod e.platform s.vm P1.m.cls T.fill = .method T.fill := by
    obtain ⟨c2, r2, m2, q1, q2, q3, q4, -⟩ := Cond.selects_spec (a (.selects cls Bundle.tFill Bundle.tFill) (by simp [Bundle.messageArmAtoms]))
    cases Option.some.inj (q1.symm.trans hfound)
    cases Option.some.inj (q2.symm.trans (State.methodFound?_of_named Y.fill (by decide)))
    cases Option.some.inj (q3.symm.trans Y.fill)
    rw [Launch.admits_selectMethod X.admits]; exact q4
  obtain ⟨cellS0, hcS0, hiss⟩ := Y.statics
  obtain ⟨u0, hu0⟩ := Cond.staticRefV Y.unassigned L.unassignedStatic L.statics hcS0 hiss (a (.isRef (.static Bundle.tN "UNASSIGNED_STACK" Bundle.steD)) (by simp [Bundle.messageArmAtoms]))
  obtain ⟨sen, hsen⟩ := Cond.staticRefV Y.sentinel L.sentinelStatic L.statics hcS0 hiss (a (.isRef (.static Bundle.tN "SUPPRESSED_SENTINEL" Bundle.listD)) (by simp [Bundle.messageArmAtoms]))
  obtain ⟨ci198, i198, fB, hk198, hg198, ha198, hsB, -, hnB, htB, hffB⟩ := Cond.ownField (t := .object "java/lang/Object") Y.found L.cls (by decide +kernel) (a (.fieldLink Bundle.tN 198 Bundle.tN "backtrace" "Ljava/lang/Object;") (by simp [Bundle.messageArmAtoms])) (a (.lays Bundle.tN Bundle.tN "backtrace" "Ljava/lang/Object;") (by simp [Bundle.messageArmAtoms])) e.platform hpl
  obtain ⟨cellS, hcS', heS, -, hkeep⟩ := X.same.2.2.2.2.2 T.aS cellS0 hcS0
  have hcellS : W.heap[T.aS]? = some cellS := hcS'
  have hout' : ∀ i, (⟨T.aS, i⟩ : Loc) ∉ locs := fun i hmem => by
    have := hlocs _ hmem cellS0 hcS0
    rw [hiss] at this; cases this
  have hknownS : cellS.vm ≠ .unknown := by
    rw [heS]; intro hu
    rw [show cellS0.vm = .unknown from hu] at hiss
    cases hiss
  have hvU : cellS.slots[T.fUnassigned.slot]? = some u0.v := by rw [hkeep _ (hout' _)]; exact hu0
  have hvSen : cellS.slots[T.fSentinel.slot]? = some sen.v := by rw [hkeep _ (hout' _)]; exact hsen
  obtain ⟨iM, hffM⟩ := Y.msg
  obtain ⟨tyC, dC, hdC, hdnC⟩ := Cond.laysAt hfound hk Y.cause (a (.lays cls Bundle.tN "cause" "Ljava/lang/Throwable;") (by simp [Bundle.messageArmAtoms]))
  obtain ⟨tyS, dS, hdS, hdnS⟩ := Cond.laysAt hfound hk Y.stack (a (.lays cls Bundle.tN "stackTrace" Bundle.steD) (by simp [Bundle.messageArmAtoms]))
  obtain ⟨tyP, dP, hdP, hdnP⟩ := Cond.laysAt hfound hk Y.supp (a (.lays cls Bundle.tN "suppressedExceptions" Bundle.listD) (by simp [Bundle.messageArmAtoms]))
  obtain ⟨tyM, dM, hdM, hdnM⟩ := Cond.laysAt hfound hk hffM (a (.lays cls Bundle.tN "detailMessage" "Ljava/lang/String;") (by simp [Bundle.messageArmAtoms]))
  obtain ⟨tyB, dB, hdB, hdnB⟩ := Cond.laysAt hfound hk hffB (a (.lays cls Bundle.tN "backtrace" "Ljava/lang/Object;") (by simp [Bundle.messageArmAtoms]))
  have bC := Cond.laysApart hdB hdC hdnB hdnC (by rw [hnB, Y.causeName]; decide)
  have bS := Cond.laysApart hdB hdS hdnB hdnS (by rw [hnB, Y.stackName]; decide)
  have bP := Cond.laysApart hdB hdP hdnB hdnP (by rw [hnB, Y.suppName]; decide)
  have hbk : ((preparedCellV T.toThrowableT (freshCell P1.m.cls kX) (W.heap.size + 2) u0 sen).withEntry W.cur).slots[fB.slot]? = some .null := by
    have := fresh_default (c := P1.m.cls) tyB
    rw [htB] at this
    simpa [preparedCellV, Cell.setSlot, Cell.withEntry, Array.getElem?_setIfInBounds, bC, bS, bP, bC.symm, bS.symm, bP.symm, defaultValue] using this
  have tkC := Takes.of_laid (v := .ref (W.heap.size + 2)) hk hord tyC (by rw [Y.causeType]; rfl)
  have tkS := Takes.of_laid (v := u0.v) hk hord tyS (by rw [Y.stackType]; exact fits_refV_array _ u0)
  have tkP := Takes.of_laid (v := sen.v) hk hord tyP (by rw [Y.suppType]; exact fits_refV_object _ sen)
  have tkM := Takes.of_laid (v := .ref (W.heap.size + 1)) hk hord tyM (by rw [Y.msgType]; rfl)
  have hskip : SkipFacts T e.platform s (fun u => u) u0 ((preparedCellV T.toThrowableT (freshCell P1.m.cls kX) (W.heap.size + 2) u0 sen).withEntry W.cur) := ⟨{ ci198 := ci198, i198 := i198, fBack := fB }, ⟨hk198, hg198, ha198, hsB⟩, hbk, fun _ _ => rfl⟩
  have h0 : At W g.method c below := by rw [hg]; exact X.here
  obtain ⟨hbeyond, hfreeW⟩ := X.vmMayThrow hsize (.throwNew cls (some text) none) (fun f hf => by cases hf) rfl hRlocals
  have hfr' : W.frames.length + Ps.length + 4 < (e.platform.stackLimits W.me).1 := by have := X.framesAbove hRframes; omega
  have hwd' : (stackUse (.java g :: W.frames.tail)).2 + 13 * Ps.length + 55 ≤ (e.platform.stackLimits W.me).2 := by have := X.stackAbove hsize (K := 13 * Ps.length + 55) (by omega); omega
  have hslots : W.slotsUsed + (stringBytes (stringToUtf16 text)).size + Zs.kS.instanceTypes.size + kX.instanceTypes.size ≤ e.platform.maxSlots := by
    have := X.slotsAbove hRslots
    rw [hn4, hn6]
    omega
  obtain ⟨vm', hW', st⟩ := Steps.vmThrowsMessageColdByV p (s₀ := s) (S := W) (g := g) h0 hexec T L Z LZ M LM X.warmed (t := W.cur) rfl Zs LZs P1 L1 Ps hL hlink1 hlink hsoe hoom hfound hk hinit hord hctor
    (Launch.admits_hotImplicitExceptions X.admits) hbeyond hfreeW htext hlimit hheap (X.cellsAbove hRcells) hslots (hfitv _) (hfitc _)
    (Nn := fun u => u) heapOnly_id (fun _ _ => rfl) (fun _ => rfl) (fun u x y => setCell_twice _ _ _ _) (fun _ => Nat.le_refl _) (cN := ((preparedCellV T.toThrowableT (freshCell P1.m.cls kX) (W.heap.size + 2) u0 sen).withEntry W.cur))
    hsel0 hcellS hknownS hvU tkS (fun _ hu => hu) (fun _ hu => hu) rfl rfl rfl (by simp [preparedCellV, Cell.setSlot, Cell.withEntry]) hskip (fun _ _ hA hW _ hroom _ hrest => L.nativeOff p htr hA hW hroom hrest) hselF hvSen tkC tkP tkM Y.objLocals rfl hfr' hwd'
  rw [plainBareV_eq T.toThrowableT (W.heap.size + 2) u0 sen (.ref (W.heap.size + 1)) W.cur rfl rfl] at st
  obtain ⟨-, -, w3, w4, -, -, -⟩ := withThrown_facts e.platform W Zs text P1.m.cls kX
  have X3 := ((X.pushed (bytesOf Zs.cB (stringToUtf16 text))).pushed (stringAt Zs.cS Zs.kS Zs.fv Zs.fc (stringToUtf16 text) W.heap.size)).pushed (freshCell P1.m.cls kX)
  rw [← withString_eq] at X3
  have X4 := X3.noted hW'
  have ha : (W.heap.size + 2) < ((withThrown W Zs text P1.m.cls kX).setVm vm').heap.size := by show _ < (withThrown W Zs text P1.m.cls kX).heap.size; rw [w3]; omega
  have hcell : ((withThrown W Zs text P1.m.cls kX).setVm vm').heap[(W.heap.size + 2)]? = some (freshCell P1.m.cls kX) := w4
  have X5 := ((((X4.stored hcell T.fCause.slot (.ref (W.heap.size + 2))).storedAgain ha T.fStack.slot u0.v).storedAgain ha T.fSupp.slot sen.v).storedAgain ha T.fStack.slot u0.v).storedAgain ha T.fMsg.slot (.ref (W.heap.size + 1))
  obtain ⟨g₁, hfrM⟩ := X5.frames_eq
  have hU : ((((withThrown W Zs text P1.m.cls kX).setVm vm').setCell (W.heap.size + 2) (plainBareV T.toThrowableT (freshCell P1.m.cls kX) (W.heap.size + 2) u0 sen (.ref (W.heap.size + 1)))).setTop g).pushFrame (.throwing (W.heap.size + 2)) = (((withThrown W Zs text P1.m.cls kX).setVm vm').setCell (W.heap.size + 2) (plainBareV T.toThrowableT (freshCell P1.m.cls kX) (W.heap.size + 2) u0 sen (.ref (W.heap.size + 1)))).setFrames (.throwing (W.heap.size + 2) :: .java g :: below) := by
    rw [State.pushFrame, State.frames_setTop _ hfrM, State.setTop_of_frames _ hfrM, State.setFrames_setFrames]
  have b1 : (bytesOf Zs.cB (stringToUtf16 text)).slots.size = (stringBytes (stringToUtf16 text)).size := by
    rw [(Cell.writeAll_facts _ _).2.2]; simp [bytes0]
  have b2 : (stringAt Zs.cS Zs.kS Zs.fv Zs.fc (stringToUtf16 text) W.heap.size).slots.size = 4 := by simp [string0, Cell.setSlot, hn4]
  have b3 : (freshCell P1.m.cls kX).slots.size = 6 := by simp [hn6]
  rw [b1, b2, b3] at X5
  have e9 : slots + (stringBytes (stringToUtf16 text)).size + 4 + 6 = slots + ((stringBytes (stringToUtf16 text)).size + 4 + 6) := by omega
  rw [e9] at X5
  simp only [List.append_assoc, List.cons_append, List.nil_append] at X5
  refine ⟨((withThrown W Zs text P1.m.cls kX).setVm vm').setCell (W.heap.size + 2) (plainBareV T.toThrowableT (freshCell P1.m.cls kX) (W.heap.size + 2) u0 sen (.ref (W.heap.size + 1))), W.heap.size + 2, _, fun target ht => st _ (by rw [X.tail, ← hU]; exact ht),
    X5.forget (fun y hy => ?_), heapAt_setCell_self _ ha, hfound, rfl⟩
  simp only [List.mem_cons, List.not_mem_nil, or_false] at hy
  have hge : s.heap.size ≤ W.heap.size := X.same.2.1
  rcases hy with rfl | rfl | rfl | rfl | rfl <;> exact Nat.le_trans hge (Nat.le_add_right _ 2)
set_option maxHeartbeats 1000000 in
/-- the machine throws NullPointerException, no traces kept: from its note over the frame g to 'throwing' over the same frame (follows the proof of Stand.vmThrowsNpe, Shelf42/KT2.lean; throwsNpeColdBareVAt, Shelf42/NT91.lean, called) -/
theorem vx_npeAt {p : Program} {l : Launch} {e : Env} {R : Room} {s : State} {m₀ : MethodId} {args : Array Value} {below : List Frame} {meth : Method} {c : Code} {W : State} {locs : List Loc} {cells slots : Nat}
    (X : Stand p l e R s m₀ args below meth c W locs cells slots) (hexec : p.tables.exec = Jvm.exec) (htr : e.platform.stackTraces = false) {n : Nat}
    (h : ∀ a ∈ Bundle.npeArmAtoms n, a.before args s = true)
    (hlocs : ∀ x ∈ locs, ∀ cell, s.heap[x.base]? = some cell → cell.vm.isStatics = false)
    {g : JFrame} (hg : g.method = m₀) (hsize : g.locals.size = c.maxLocals)
    (hRframes : 7 < R.frames) (hRlocals : 2 * g.monitorRoom + (g.stack.map fun v => v.category).sum + 10240 ≤ R.locals)
    (hRcells : cells + 1 ≤ R.cells) (hRslots : slots + n ≤ R.slots) (hlocks : meth.locks = false) :
    ∃ (S : State) (q : Addr) (ce : Cell), (∀ target, Steps p.tables e below ((S.setTop g).pushFrame (.throwing q)) target → Steps p.tables e below ((W.setTop g).pushFrame (.throwNew "java/lang/NullPointerException" none none)) target) ∧
      Stand p l e R s m₀ args below meth c S locs (cells + 1) (slots + n) ∧ S.heap[q]? = some ce ∧ s.vm.findClass "java/lang/NullPointerException" = some ce.cls ∧ ce.vm = .none := by
  have howns : e.platform.frameOwnsMonitors = true := by rw [X.admits.platform]
  have hfin : e.platform.finalization = false := by rw [X.admits.platform]
  have hpl : e.platform.magicAccessors = ({} : Platform).magicAccessors := by rw [X.admits.platform]
  have hpl2 : e.platform.arrayCloneIsPublic = true := by rw [X.admits.platform]
  have a' : ∀ x, x ∈ Bundle.npeArmAtoms n → x.holds args s none s [] = true := fun x hx => h x hx
  obtain ⟨T, Z, L, LZ, Y⟩ := ThrowableC.of_atoms (args := args) howns hfin hpl (fun x hx => h x (by simp [Bundle.npeArmAtoms, hx]))
  obtain ⟨N, LN, hcN, hnNF, hordN, hffS⟩ := NpeC.of_atoms (args := args) hpl hpl2 L Y (fun x hx => h x (by simp [Bundle.npeArmAtoms, hx]))
  obtain ⟨P1, L1, hP1m, hP1s⟩ := PassC.of_atoms (args := args) (s := s) hpl (X := Bundle.nN) (Y := Bundle.rN) (by decide) (by decide) LibCode.NullPointerException.Init0.at_0 LibCode.NullPointerException.Init0.at_1 LibCode.NullPointerException.Init0.at_4 (fun x hx => h x (by simp [Bundle.npeArmAtoms, hx]))
  obtain ⟨PR, LR, hPRm, hPRs⟩ := PassC.of_atoms (args := args) (s := s) hpl (X := Bundle.rN) (Y := Bundle.eN) (by decide) (by decide) LibCode.RuntimeException.Init0.at_0 LibCode.RuntimeException.Init0.at_1 LibCode.RuntimeException.Init0.at_4 (fun x hx => h x (by simp [Bundle.npeArmAtoms, hx]))
  obtain ⟨PE, LEx, hPEm, hPEs⟩ := PassC.of_atoms (args := args) (s := s) hpl (X := Bundle.eN) (Y := Bundle.tN) (by decide) (by decide) LibCode.Exception.Init0.at_0 LibCode.Exception.Init0.at_1 LibCode.Exception.Init0.at_4 (fun x hx => h x (by simp [Bundle.npeArmAtoms, hx]))
  have hfound : s.vm.findClass Bundle.nN = some P1.m.cls := findClass_of_methodNamed hP1m
  have ecls : N.cN = P1.m.cls := Option.some.inj (hcN.symm.trans hfound)
  have hk : s.vm.classes[P1.m.cls]? = some N.kN := by rw [← ecls]; exact LN.cls
  have hinit := Cond.initialized_spec hfound hk (a' (.initialized Bundle.nN) (by simp [Bundle.npeArmAtoms]))
  have hctor : N.kN.findMethod "<init>" "()V" = some P1.m.idx := findMethod_of_methodNamed hP1m hk
  obtain ⟨c1, k1, hc1, hk1, -, -, -, hn⟩ := Cond.instantiable_spec (a' (.instantiable Bundle.nN n) (by simp [Bundle.npeArmAtoms]))
  cases Option.some.inj (hc1.symm.trans hfound)
  cases Option.some.inj (hk1.symm.trans hk)
  have hfsz : (freshCell P1.m.cls N.kN).slots.size = n := by simp [hn]
  have hlink1 : P1.sup = PR.m := Option.some.inj (hP1s.symm.trans hPRm)
  have hlinkR : PR.sup = PE.m := Option.some.inj (hPRs.symm.trans hPEm)
  have hlinkE : PE.sup = Z.m T.toThrowableT := Option.some.inj (hPEs.symm.trans Y.init0)
  have hLs : ∀ P, P ∈ [PR, PE] → P.Links0 e.platform s := fun P hP => by
    simp only [List.mem_cons, List.not_mem_nil, or_false] at hP
    rcases hP with rfl | rfl
    · exact LR
    · exact LEx
  have hsel0 : selectMethod e.platform s.vm P1.m.cls T.fill0 = .method T.fill0 := by
    obtain ⟨c2, r2, m2, q1, q2, q3, q4, -⟩ := Cond.selects_spec (a' (.selects Bundle.nN Bundle.tFill0 Bundle.tFill0) (by simp [Bundle.npeArmAtoms]))
    cases Option.some.inj (q1.symm.trans hfound)
    cases Option.some.inj (q2.symm.trans (State.methodFound?_of_named Y.fill0 (by decide)))
    cases Option.some.inj (q3.symm.trans Y.fill0)
    rw [Launch.admits_selectMethod X.admits]; exact q4
  have hselF : selectMethod e.platform s.vm P1.m.cls T.fill = .method N.fill := by
    obtain ⟨c2, r2, m2, q1, q2, q3, q4, -⟩ := Cond.selects_spec (a' (.selects Bundle.nN Bundle.tFill Bundle.nFill) (by simp [Bundle.npeArmAtoms]))
    cases Option.some.inj (q1.symm.trans hfound)
    cases Option.some.inj (q2.symm.trans (State.methodFound?_of_named Y.fill (by decide)))
    cases Option.some.inj (q3.symm.trans hnNF)
    rw [Launch.admits_selectMethod X.admits]; exact q4
  obtain ⟨cellS0, hcS0, hiss⟩ := Y.statics
  obtain ⟨u0, hu0⟩ := Cond.staticRefV Y.unassigned L.unassignedStatic L.statics hcS0 hiss (a' (.isRef (.static Bundle.tN "UNASSIGNED_STACK" Bundle.steD)) (by simp [Bundle.npeArmAtoms]))
  obtain ⟨sen, hsen⟩ := Cond.staticRefV Y.sentinel L.sentinelStatic L.statics hcS0 hiss (a' (.isRef (.static Bundle.tN "SUPPRESSED_SENTINEL" Bundle.listD)) (by simp [Bundle.npeArmAtoms]))
  obtain ⟨ci198, i198, fB, hk198, hg198, ha198, hsB, -, hnB, htB, hffB⟩ := Cond.ownField (t := .object "java/lang/Object") Y.found L.cls (by decide +kernel) (a' (.fieldLink Bundle.tN 198 Bundle.tN "backtrace" Bundle.objD) (by simp [Bundle.npeArmAtoms])) (a' (.lays Bundle.tN Bundle.tN "backtrace" Bundle.objD) (by simp [Bundle.npeArmAtoms])) e.platform hpl
  obtain ⟨cellS, hcS', heS, -, hkeep⟩ := X.same.2.2.2.2.2 T.aS cellS0 hcS0
  have hcellS : W.heap[T.aS]? = some cellS := hcS'
  have hout' : ∀ i, (⟨T.aS, i⟩ : Loc) ∉ locs := fun i hmem => by
    have := hlocs _ hmem cellS0 hcS0
    rw [hiss] at this; cases this
  have hknownS : cellS.vm ≠ .unknown := by
    rw [heS]; intro hu
    rw [show cellS0.vm = .unknown from hu] at hiss
    cases hiss
  have hvU : cellS.slots[T.fUnassigned.slot]? = some u0.v := by rw [hkeep _ (hout' _)]; exact hu0
  have hvSen : cellS.slots[T.fSentinel.slot]? = some sen.v := by rw [hkeep _ (hout' _)]; exact hsen
  obtain ⟨tyC, dC, hdC, hdnC⟩ := Cond.laysAt hfound hk Y.cause (a' (.lays Bundle.nN Bundle.tN "cause" "Ljava/lang/Throwable;") (by simp [Bundle.npeArmAtoms]))
  obtain ⟨tyS, dS, hdS, hdnS⟩ := Cond.laysAt hfound hk Y.stack (a' (.lays Bundle.nN Bundle.tN "stackTrace" Bundle.steD) (by simp [Bundle.npeArmAtoms]))
  obtain ⟨tyP, dP, hdP, hdnP⟩ := Cond.laysAt hfound hk Y.supp (a' (.lays Bundle.nN Bundle.tN "suppressedExceptions" Bundle.listD) (by simp [Bundle.npeArmAtoms]))
  obtain ⟨tyX, dX, hdX, hdnX⟩ := Cond.laysAt hfound hk hffS (a' (.lays Bundle.nN Bundle.nN "extendedMessageState" "I") (by simp [Bundle.npeArmAtoms, Bundle.npeAtoms]))
  obtain ⟨hnX, htX⟩ := State.fieldFound?_type hffS (t := .int) (by decide +kernel)
  have xC := Cond.laysApart hdC hdX hdnC hdnX (by rw [hnX, Y.causeName]; decide)
  have xS := Cond.laysApart hdS hdX hdnS hdnX (by rw [hnX, Y.stackName]; decide)
  have xP := Cond.laysApart hdP hdX hdnP hdnX (by rw [hnX, Y.suppName]; decide)
  have hv0 : (freshCell P1.m.cls N.kN).slots[N.fState.slot]? = some (.int 0) := by
    have := fresh_default (c := P1.m.cls) tyX
    rw [htX] at this; exact this
  obtain ⟨tyB, dB, hdB, hdnB⟩ := Cond.laysAt hfound hk hffB (a' (.lays Bundle.nN Bundle.tN "backtrace" Bundle.objD) (by simp [Bundle.npeArmAtoms]))
  have bC := Cond.laysApart hdB hdC hdnB hdnC (by rw [hnB, Y.causeName]; decide)
  have bS := Cond.laysApart hdB hdS hdnB hdnS (by rw [hnB, Y.stackName]; decide)
  have bP := Cond.laysApart hdB hdP hdnB hdnP (by rw [hnB, Y.suppName]; decide)
  have bX := Cond.laysApart hdB hdX hdnB hdnX (by rw [hnB, hnX]; decide)
  have hbk : ((npeCell N.toNpeT (preparedCellV T.toThrowableT (freshCell P1.m.cls N.kN) W.heap.size u0 sen) W.cur).withEntry W.cur).slots[fB.slot]? = some .null := by
    have := fresh_default (c := P1.m.cls) tyB
    rw [htB] at this
    simpa [npeCell, preparedCellV, Cell.setSlot, Cell.withEntry, Array.getElem?_setIfInBounds, bC, bS, bP, bX, bC.symm, bS.symm, bP.symm, bX.symm, defaultValue] using this
  have tkC := Takes.of_laid (v := .ref W.heap.size) hk hordN tyC (by rw [Y.causeType]; rfl)
  have tkS := Takes.of_laid (v := u0.v) hk hordN tyS (by rw [Y.stackType]; exact fits_refV_array _ u0)
  have tkP := Takes.of_laid (v := sen.v) hk hordN tyP (by rw [Y.suppType]; exact fits_refV_object _ sen)
  have tkX := Takes.of_laid (v := .int 1) hk hordN tyX (by rw [htX]; rfl)
  have hskip : SkipFacts T e.platform s (fun u => u) u0 ((npeCell N.toNpeT (preparedCellV T.toThrowableT (freshCell P1.m.cls N.kN) W.heap.size u0 sen) W.cur).withEntry W.cur) := ⟨{ ci198 := ci198, i198 := i198, fBack := fB }, ⟨hk198, hg198, ha198, hsB⟩, hbk, fun _ _ => rfl⟩
  obtain ⟨vm', X3, st, -⟩ := X.throwsNpeColdBareVAt hexec hg hsize T L Z LZ N LN P1 L1 [PR, PE] hLs hlink1 ⟨hlinkR, hlinkE, trivial⟩ hfound hk hinit hordN hctor hsel0 hselF hcellS hknownS hvU hvSen
    hv0 xC xS xP tkC tkS tkP tkX Y.objLocals hskip (fun _ _ hA hW _ hroom _ hrest => L.nativeOff p htr hA hW hroom hrest) (by simpa using hRframes) hRlocals (by simp) hRcells (by rw [hn]; exact hRslots)
  have hlt : W.heap.size < ((W.pushCell (freshCell P1.m.cls N.kN)).setVm vm').heap.size := by
    show W.heap.size < (W.pushCell (freshCell P1.m.cls N.kN)).heap.size
    rw [State.heap_size_pushCell]; omega
  rw [hfsz] at X3
  obtain ⟨g₁, hfrM⟩ := X3.frames_eq
  have hU : ((((W.pushCell (freshCell P1.m.cls N.kN)).setVm vm').setCell W.heap.size (npeBareV T.toThrowableT N.toNpeT (freshCell P1.m.cls N.kN) W.heap.size u0 sen)).setTop g).pushFrame (.throwing W.heap.size) = (((W.pushCell (freshCell P1.m.cls N.kN)).setVm vm').setCell W.heap.size (npeBareV T.toThrowableT N.toNpeT (freshCell P1.m.cls N.kN) W.heap.size u0 sen)).setFrames (.throwing W.heap.size :: .java g :: below) := by
    rw [State.pushFrame, State.frames_setTop _ hfrM, State.setTop_of_frames _ hfrM, State.setFrames_setFrames]
  refine ⟨_, W.heap.size, _, fun target ht => st.trans (by rw [← hU]; exact ht), X3.forget (fun y hy => ?_), heapAt_setCell_self _ hlt, hfound, rfl⟩
  simp only [List.mem_cons, List.not_mem_nil, or_false] at hy
  have hge : s.heap.size ≤ W.heap.size := X.same.2.1
  rcases hy with rfl | rfl | rfl | rfl | rfl <;> exact hge
/-- the words of a machine's NullPointerException, but the four that speak of the heap -/
def vx_atN (n : Nat) : List Cond := (Bundle.npeArmAtoms n).filter vx_no
/-- the words of a machine's throw with a message, but the four that speak of the heap -/
def vx_atM (X : String) (names : List String) : List Cond := (Bundle.messageArmAtoms X names).filter vx_no
section
variable {p : Program} {l : Launch} {e : Env} {R : Room} {s : State} {m : MethodId} {args : Array Value} {below : List Frame} {meth : Method} {c : Code} {H : Heap} {locs : List Loc} {cells slots : Nat}
/-- a frame seen from a rebased start, seen from the first start again -/
theorem vx_back9 {T S : State} {R' : Room} {k n : Nat} (X : Stand p l e R s m args below meth c T locs cells slots) (Y : Stand p l e R' ((T.setVm s.vm).setFrames (.invoking m args :: below)) m args below meth c T [] 0 0) (Z : Stand p l e R' ((T.setVm s.vm).setFrames (.invoking m args :: below)) m args below meth c S [] k n) :
    Stand p l e R s m args below meth c S locs (cells + k) (slots + n) := by
  have hW0 : s.WarmedH ((T.setVm s.vm).setFrames (.invoking m args :: below)).vm := State.WarmedH.refl s
  refine { admits := X.admits, cas := X.cas, clock := X.clock, frames := X.frames, room := X.room, hears := X.hears, method := X.method, code := X.code, here := Z.here, tail := Z.tail, warmed := State.WarmedH.trans hW0 Z.warmed, limits := Z.limits.trans (Y.limits.symm.trans X.limits), bytes := Z.bytes.trans (Y.bytes.symm.trans X.bytes), same := ?_ }
  obtain ⟨e1, e2⟩ := Z.same
  rw [State.setFrames_setFrames] at e1
  have h2 : (T.setVm s.vm).sameButNew (S.setVm s.vm) [] k n := ⟨e1, e2⟩
  have h3 := X.same.trans h2
  rw [List.append_nil] at h3
  exact h3
/-- from the machine's note that E is thrown here with this text -/
def vx_Note (p : Program) (l : Launch) (e : Env) (R : Room) (s : State) (m : MethodId) (args : Array Value) (below : List Frame) (meth : Method) (c : Code) (H : Heap) (locs : List Loc) (cells slots : Nat) (Q : State → Prop) (g : JFrame) (E text : String) : Prop :=
  ∀ T : State, T.heap = H → Stand p l e R s m args below meth c T locs cells slots → ∃ t, Steps p.tables e below ((T.setTop g).pushFrame (.throwNew E (some text) none)) t ∧ Q t
theorem vx_vm {pc : Nat} {ls : Array Slot} {rest : List Value} {Q : State → Prop} (hexec : p.tables.exec = Jvm.exec) (hl : l.stackTraces = false) {cls text : String} {names : List String} {nb : Nat} {A : Nat → Prop}
    (hcls : Bundle.fit cls = true) (hnames : ∀ n ∈ names, Bundle.fit n = true) (hsoe : (cls == "java/lang/StackOverflowError") = false) (hoom : (cls == "java/lang/OutOfMemoryError") = false)
    (hat : ∀ w ∈ vx_atM cls names, w.before args s = true) (hgood : ∀ w ∈ vx_atM cls names, vx_ot w = true)
    (hU : vx_Zq Bundle.tN "UNASSIGNED_STACK" Bundle.steD A s s.heap) (hN : vx_Zq Bundle.tN "SUPPRESSED_SENTINEL" Bundle.listD A s s.heap) (hS : va_S A s.heap H locs) (hsize : ls.size = c.maxLocals)
    (htext : (text == notModelled) = false) (hnb : (stringBytes (stringToUtf16 text)).size ≤ nb) (hnb1 : nb ≤ 1000)
    (hRframes : names.length + 4 < R.frames) (hRlocals : (rest.map fun v => v.category).sum + 10240 ≤ R.locals) (hshort : 13 * names.length + 55 ≤ 10240) (hRcells : cells + 3 ≤ R.cells) (hRslots : slots + (nb + 10) ≤ R.slots) (hlocks : meth.locks = false)
    (k : ∀ (H1 : Heap) (q9 : Addr) (ce : Cell), H.size ≤ H1.size → (∀ q : Nat, q < H.size → H1[q]? = H[q]?) → va_S A s.heap H1 locs → H1[q9]? = some ce → ce.vm = .none → s.vm.findClass cls = some ce.cls → vx_W p l e R s m args below meth c H1 locs (cells + 3) (slots + (nb + 10)) Q (F0 m pc ls rest) q9) :
    vx_Note p l e R s m args below meth c H locs cells slots Q (F0 m pc ls rest) cls text := by
  intro T hT X
  have htr : e.platform.stackTraces = false := (show e.platform.stackTraces = l.stackTraces by rw [X.admits.platform]).trans hl
  have Y := vx_rebase X (R' := { frames := R.frames, locals := R.locals, cells := 3, slots := nb + 10 }) (Nat.le_refl _) (Nat.le_refl _) hRcells hRslots
  have hhp : ((T.setVm s.vm).setFrames (.invoking m args :: below)).heap = H := hT
  have hW0 : s.WarmedH ((T.setVm s.vm).setFrames (.invoking m args :: below)).vm := State.WarmedH.refl s
  have hat' : ∀ w ∈ vx_atM cls names, w.before args ((T.setVm s.vm).setFrames (.invoking m args :: below)) = true := fun w hw => vx_ot_at hW0 rfl (hgood w hw) (hat w hw)
  have hU' : vx_Zq Bundle.tN "UNASSIGNED_STACK" Bundle.steD A ((T.setVm s.vm).setFrames (.invoking m args :: below)) ((T.setVm s.vm).setFrames (.invoking m args :: below)).heap := by rw [hhp]; exact vx_Zq.moved hW0.alike (hU.kept hS.2.1)
  have hN' : vx_Zq Bundle.tN "SUPPRESSED_SENTINEL" Bundle.listD A ((T.setVm s.vm).setFrames (.invoking m args :: below)) ((T.setVm s.vm).setFrames (.invoking m args :: below)).heap := by rw [hhp]; exact vx_Zq.moved hW0.alike (hN.kept hS.2.1)
  obtain ⟨S, q, ce, st, Z, hce, hcl', hv⟩ := vx_vmAt Y hexec htr (cls := cls) (names := names) (text := text) hcls hnames hsoe hoom (vx_own hat' (vx_isRefq hU'.1) (vx_isRefq hN'.1) hU'.2.word hN'.2.word) (fun x hx => nomatch hx) htext
    (by rw [Launch.admits_arrayLengthLimit X.admits]; omega) (by rw [Launch.admits_maxHeapBytes X.admits]; simp only [componentBytes]; omega)
    (g := F0 m pc ls rest) rfl hsize hRframes (by show 2 * 0 + (rest.map fun v => v.category).sum + 10240 ≤ R.locals; omega) hshort (by show 0 + 3 ≤ 3; omega) (by show 0 + (_ + 4 + 6) ≤ nb + 10; omega) hlocks
  obtain ⟨f1, f2⟩ := vx_frame Z.same
  have f1' : H.size ≤ S.heap.size := by rw [← hT]; exact f1
  have f2' : ∀ q : Nat, q < H.size → S.heap[q]? = H[q]? := fun q hq => by
    rw [← hT]
    exact f2 q (by rw [← hT] at hq; exact hq) (fun z hz => nomatch hz)
  have X5 := vx_back9 X Y Z
  have X6 : Stand p l e R s m args below meth c S locs (cells + 3) (slots + (nb + 10)) := { X5 with same := X5.same.mono (by omega) (by omega) }
  obtain ⟨t, a1, b1⟩ := k S.heap q ce f1' f2' ⟨Nat.le_trans hS.1 f1', fun q h1 h2 => (f2' q (Nat.lt_of_lt_of_le h1 hS.1)).trans (hS.2.1 q h1 h2), hS.2.2⟩ hce hv hcl' S rfl X6
  exact ⟨t, st t a1, b1⟩
/-- from the machine's note that NullPointerException is thrown here -/
def vx_NoteN (p : Program) (l : Launch) (e : Env) (R : Room) (s : State) (m : MethodId) (args : Array Value) (below : List Frame) (meth : Method) (c : Code) (H : Heap) (locs : List Loc) (cells slots : Nat) (Q : State → Prop) (g : JFrame) : Prop :=
  ∀ T : State, T.heap = H → Stand p l e R s m args below meth c T locs cells slots → ∃ t, Steps p.tables e below ((T.setTop g).pushFrame (.throwNew "java/lang/NullPointerException" none none)) t ∧ Q t
theorem vx_npe {pc : Nat} {ls : Array Slot} {rest : List Value} {Q : State → Prop} (hexec : p.tables.exec = Jvm.exec) (hl : l.stackTraces = false) {nb : Nat} {A : Nat → Prop}
    (hat : ∀ w ∈ vx_atN nb, w.before args s = true) (hgood : ∀ w ∈ vx_atN nb, vx_ot w = true)
    (hU : vx_Zq Bundle.tN "UNASSIGNED_STACK" Bundle.steD A s s.heap) (hN : vx_Zq Bundle.tN "SUPPRESSED_SENTINEL" Bundle.listD A s s.heap) (hS : va_S A s.heap H locs) (hsize : ls.size = c.maxLocals)
    (hRframes : 7 < R.frames) (hRlocals : (rest.map fun v => v.category).sum + 10240 ≤ R.locals) (hRcells : cells + 1 ≤ R.cells) (hRslots : slots + nb ≤ R.slots) (hlocks : meth.locks = false)
    (k : ∀ (H1 : Heap) (q9 : Addr) (ce : Cell), H.size ≤ H1.size → (∀ q : Nat, q < H.size → H1[q]? = H[q]?) → va_S A s.heap H1 locs → H1[q9]? = some ce → ce.vm = .none → s.vm.findClass "java/lang/NullPointerException" = some ce.cls → vx_W p l e R s m args below meth c H1 locs (cells + 1) (slots + nb) Q (F0 m pc ls rest) q9) :
    vx_NoteN p l e R s m args below meth c H locs cells slots Q (F0 m pc ls rest) := by
  intro T hT X
  have htr : e.platform.stackTraces = false := (show e.platform.stackTraces = l.stackTraces by rw [X.admits.platform]).trans hl
  have Y := vx_rebase X (R' := { frames := R.frames, locals := R.locals, cells := 1, slots := nb }) (Nat.le_refl _) (Nat.le_refl _) hRcells hRslots
  have hhp : ((T.setVm s.vm).setFrames (.invoking m args :: below)).heap = H := hT
  have hW0 : s.WarmedH ((T.setVm s.vm).setFrames (.invoking m args :: below)).vm := State.WarmedH.refl s
  have hat' : ∀ w ∈ vx_atN nb, w.before args ((T.setVm s.vm).setFrames (.invoking m args :: below)) = true := fun w hw => vx_ot_at hW0 rfl (hgood w hw) (hat w hw)
  have hU' : vx_Zq Bundle.tN "UNASSIGNED_STACK" Bundle.steD A ((T.setVm s.vm).setFrames (.invoking m args :: below)) ((T.setVm s.vm).setFrames (.invoking m args :: below)).heap := by rw [hhp]; exact vx_Zq.moved hW0.alike (hU.kept hS.2.1)
  have hN' : vx_Zq Bundle.tN "SUPPRESSED_SENTINEL" Bundle.listD A ((T.setVm s.vm).setFrames (.invoking m args :: below)) ((T.setVm s.vm).setFrames (.invoking m args :: below)).heap := by rw [hhp]; exact vx_Zq.moved hW0.alike (hN.kept hS.2.1)
  obtain ⟨S, q, ce, st, Z, hce, hcl', hv⟩ := vx_npeAt Y hexec htr (n := nb) (vx_own hat' (vx_isRefq hU'.1) (vx_isRefq hN'.1) hU'.2.word hN'.2.word) (fun x hx => nomatch hx)
    (g := F0 m pc ls rest) rfl hsize hRframes (by show 2 * 0 + (rest.map fun v => v.category).sum + 10240 ≤ R.locals; omega) (by show 0 + 1 ≤ 1; omega) (by show 0 + nb ≤ nb; omega) hlocks
  obtain ⟨f1, f2⟩ := vx_frame Z.same
  have f1' : H.size ≤ S.heap.size := by rw [← hT]; exact f1
  have f2' : ∀ q : Nat, q < H.size → S.heap[q]? = H[q]? := fun q hq => by
    rw [← hT]
    exact f2 q (by rw [← hT] at hq; exact hq) (fun z hz => nomatch hz)
  have X5 := vx_back9 X Y Z
  have X6 : Stand p l e R s m args below meth c S locs (cells + 1) (slots + nb) := { X5 with same := X5.same.mono (by omega) (by omega) }
  obtain ⟨t, a1, b1⟩ := k S.heap q ce f1' f2' ⟨Nat.le_trans hS.1 f1', fun q h1 h2 => (f2' q (Nat.lt_of_lt_of_le h1 hS.1)).trans (hS.2.1 q h1 h2), hS.2.2⟩ hce hv hcl' S rfl X6
  exact ⟨t, st t a1, b1⟩
variable {Q : State → Prop} {cc : ByteArray} {pc : Nat} {ls : Array Slot} {rest : List Value}
theorem vx_idivZ (hexec : p.tables.exec = Jvm.exec) (hb : c.code = cc) {a b : Int32} (h0 : b = 0) (d : decode cc pc = .ok (.idiv, 1)) (k : vx_Note p l e R s m args below meth c H locs cells slots Q (F0 m pc ls rest) "java/lang/ArithmeticException" "/ by zero") :
    W p l e R s m args below meth c H locs cells slots Q (F0 m pc ls (.int b :: .int a :: rest)) := by
  intro T hT X
  obtain ⟨t, st, q⟩ := k T hT X
  exact ⟨t, X.idivZero hexec (g := F0 m pc ls (.int b :: .int a :: rest)) rfl (a := a) (rest := rest) (by rw [h0]) (by rw [hb]; exact d) t st, q⟩
theorem vx_iremZ (hexec : p.tables.exec = Jvm.exec) (hb : c.code = cc) {a b : Int32} (h0 : b = 0) (d : decode cc pc = .ok (.irem, 1)) (k : vx_Note p l e R s m args below meth c H locs cells slots Q (F0 m pc ls rest) "java/lang/ArithmeticException" "/ by zero") :
    W p l e R s m args below meth c H locs cells slots Q (F0 m pc ls (.int b :: .int a :: rest)) := by
  intro T hT X
  obtain ⟨t, st, q⟩ := k T hT X
  exact ⟨t, X.iremZero hexec (g := F0 m pc ls (.int b :: .int a :: rest)) rfl (a := a) (rest := rest) (by rw [h0]) (by rw [hb]; exact d) t st, q⟩
theorem vx_ldivZ (hexec : p.tables.exec = Jvm.exec) (hb : c.code = cc) {a b : Int64} (h0 : b = 0) (d : decode cc pc = .ok (.ldiv, 1)) (k : vx_Note p l e R s m args below meth c H locs cells slots Q (F0 m pc ls rest) "java/lang/ArithmeticException" "/ by zero") :
    W p l e R s m args below meth c H locs cells slots Q (F0 m pc ls (.long b :: .long a :: rest)) := by
  intro T hT X
  obtain ⟨t, st, q⟩ := k T hT X
  exact ⟨t, X.ldivZero hexec (g := F0 m pc ls (.long b :: .long a :: rest)) rfl (a := a) (rest := rest) (by rw [h0]) (by rw [hb]; exact d) t st, q⟩
theorem vx_lremZ (hexec : p.tables.exec = Jvm.exec) (hb : c.code = cc) {a b : Int64} (h0 : b = 0) (d : decode cc pc = .ok (.lrem, 1)) (k : vx_Note p l e R s m args below meth c H locs cells slots Q (F0 m pc ls rest) "java/lang/ArithmeticException" "/ by zero") :
    W p l e R s m args below meth c H locs cells slots Q (F0 m pc ls (.long b :: .long a :: rest)) := by
  intro T hT X
  obtain ⟨t, st, q⟩ := k T hT X
  exact ⟨t, X.lremZero hexec (g := F0 m pc ls (.long b :: .long a :: rest)) rfl (a := a) (rest := rest) (by rw [h0]) (by rw [hb]; exact d) t st, q⟩
theorem vx_ialdZ {D : va_G} {cl : List vw_C} {ws : va_W} {tys : List (ClassId × FieldType)} {a : Nat} (hexec : p.tables.exec = Jvm.exec) (hb : c.code = cc) (hK : va_K D cl tys s) (hP : va_P D cl ws H) (q0 t0 : Nat) {cA : ClassId} {n : Nat} {f : Nat → Int32} (ha : ws[q0]? = some (a, .inl (cA, n, .inl f))) (ht : tys[t0]? = some (cA, .int)) {i : Int32} (hout : ¬ vp_in i n) (hdg : decode cc pc = .ok (.iaload, 1))
    (k : ∀ tx : String, tx = (toString "Index " ++ toString i ++ toString " out of bounds for length " ++ toString n : String) → vx_Note p l e R s m args below meth c H locs cells slots Q (F0 m pc ls rest) "java/lang/ArrayIndexOutOfBoundsException" tx) : W p l e R s m args below meth c H locs cells slots Q (F0 m pc ls (.int i :: .ref a :: rest)) := by
  intro T hT X
  obtain ⟨t, st, q⟩ := k _ rfl T hT X
  refine ⟨t, ?_, q⟩
  have h1 := X.ialoadOut hexec (by rw [hT]; exact hP q0 _ ha) ((hK.2 t0 _ ht).1 n (fun j => .int (f j))) (j := i) (by show (i < 0 ∨ (arrV _ _ _).slots.size ≤ _); rw [arrV_size]; exact Classical.byContradiction hout) (g := F0 m pc ls (.int i :: .ref a :: rest)) rfl (rest := rest) rfl (by rw [hb]; exact hdg) t
  simp only [arrV_size] at h1
  exact h1 st
theorem vx_iastZ {D : va_G} {cl : List vw_C} {ws : va_W} {tys : List (ClassId × FieldType)} {a : Nat} (hexec : p.tables.exec = Jvm.exec) (hb : c.code = cc) (hK : va_K D cl tys s) (hP : va_P D cl ws H) (q0 t0 : Nat) {cA : ClassId} {n : Nat} {f : Nat → Int32} (ha : ws[q0]? = some (a, .inl (cA, n, .inl f))) (ht : tys[t0]? = some (cA, .int)) {i : Int32} {x : Int32} (hout : ¬ vp_in i n) (hdg : decode cc pc = .ok (.iastore, 1))
    (k : ∀ tx : String, tx = (toString "Index " ++ toString i ++ toString " out of bounds for length " ++ toString n : String) → vx_Note p l e R s m args below meth c H locs cells slots Q (F0 m pc ls rest) "java/lang/ArrayIndexOutOfBoundsException" tx) : W p l e R s m args below meth c H locs cells slots Q (F0 m pc ls (.int x :: .int i :: .ref a :: rest)) := by
  intro T hT X
  obtain ⟨t, st, q⟩ := k _ rfl T hT X
  refine ⟨t, ?_, q⟩
  have h1 := X.iastoreOut hexec (by rw [hT]; exact hP q0 _ ha) ((hK.2 t0 _ ht).1 n (fun j => .int (f j))) (j := i) (by show (i < 0 ∨ (arrV _ _ _).slots.size ≤ _); rw [arrV_size]; exact Classical.byContradiction hout) (g := F0 m pc ls (.int x :: .int i :: .ref a :: rest)) rfl (rest := rest) rfl (by rw [hb]; exact hdg) t
  simp only [arrV_size] at h1
  exact h1 st
theorem vx_baldZ {D : va_G} {cl : List vw_C} {ws : va_W} {tys : List (ClassId × FieldType)} {a : Nat} (hexec : p.tables.exec = Jvm.exec) (hb : c.code = cc) (hK : va_K D cl tys s) (hP : va_P D cl ws H) (q0 t0 : Nat) {cA : ClassId} {n : Nat} {f : Nat → Int32} (ha : ws[q0]? = some (a, .inl (cA, n, .inl f))) (ht : tys[t0]? = some (cA, .byte)) {i : Int32} (hout : ¬ vp_in i n) (hdg : decode cc pc = .ok (.baload, 1))
    (k : ∀ tx : String, tx = (toString "Index " ++ toString i ++ toString " out of bounds for length " ++ toString n : String) → vx_Note p l e R s m args below meth c H locs cells slots Q (F0 m pc ls rest) "java/lang/ArrayIndexOutOfBoundsException" tx) : W p l e R s m args below meth c H locs cells slots Q (F0 m pc ls (.int i :: .ref a :: rest)) := by
  intro T hT X
  obtain ⟨t, st, q⟩ := k _ rfl T hT X
  refine ⟨t, ?_, q⟩
  have h1 := X.baloadOut hexec (by rw [hT]; exact hP q0 _ ha) ((hK.2 t0 _ ht).1 n (fun j => .int (f j))) (j := i) (by show (i < 0 ∨ (arrV _ _ _).slots.size ≤ _); rw [arrV_size]; exact Classical.byContradiction hout) (g := F0 m pc ls (.int i :: .ref a :: rest)) rfl (rest := rest) rfl (by rw [hb]; exact hdg) t
  simp only [arrV_size] at h1
  exact h1 st
theorem vx_bastZ {D : va_G} {cl : List vw_C} {ws : va_W} {tys : List (ClassId × FieldType)} {a : Nat} (hexec : p.tables.exec = Jvm.exec) (hb : c.code = cc) (hK : va_K D cl tys s) (hP : va_P D cl ws H) (q0 t0 : Nat) {cA : ClassId} {n : Nat} {f : Nat → Int32} (ha : ws[q0]? = some (a, .inl (cA, n, .inl f))) (ht : tys[t0]? = some (cA, .byte)) {i : Int32} {x : Int32} (hout : ¬ vp_in i n) (hdg : decode cc pc = .ok (.bastore, 1))
    (k : ∀ tx : String, tx = (toString "Index " ++ toString i ++ toString " out of bounds for length " ++ toString n : String) → vx_Note p l e R s m args below meth c H locs cells slots Q (F0 m pc ls rest) "java/lang/ArrayIndexOutOfBoundsException" tx) : W p l e R s m args below meth c H locs cells slots Q (F0 m pc ls (.int x :: .int i :: .ref a :: rest)) := by
  intro T hT X
  obtain ⟨t, st, q⟩ := k _ rfl T hT X
  refine ⟨t, ?_, q⟩
  have h1 := X.bastoreOut hexec (by rw [hT]; exact hP q0 _ ha) ((hK.2 t0 _ ht).1 n (fun j => .int (f j))) (j := i) (by show (i < 0 ∨ (arrV _ _ _).slots.size ≤ _); rw [arrV_size]; exact Classical.byContradiction hout) (g := F0 m pc ls (.int x :: .int i :: .ref a :: rest)) rfl (rest := rest) rfl (by rw [hb]; exact hdg) t
  simp only [arrV_size] at h1
  exact h1 st
theorem vx_zaldZ {D : va_G} {cl : List vw_C} {ws : va_W} {tys : List (ClassId × FieldType)} {a : Nat} (hexec : p.tables.exec = Jvm.exec) (hb : c.code = cc) (hK : va_K D cl tys s) (hP : va_P D cl ws H) (q0 t0 : Nat) {cA : ClassId} {n : Nat} {f : Nat → Int32} (ha : ws[q0]? = some (a, .inl (cA, n, .inl f))) (ht : tys[t0]? = some (cA, .boolean)) {i : Int32} (hout : ¬ vp_in i n) (hdg : decode cc pc = .ok (.baload, 1))
    (k : ∀ tx : String, tx = (toString "Index " ++ toString i ++ toString " out of bounds for length " ++ toString n : String) → vx_Note p l e R s m args below meth c H locs cells slots Q (F0 m pc ls rest) "java/lang/ArrayIndexOutOfBoundsException" tx) : W p l e R s m args below meth c H locs cells slots Q (F0 m pc ls (.int i :: .ref a :: rest)) := by
  intro T hT X
  obtain ⟨t, st, q⟩ := k _ rfl T hT X
  refine ⟨t, ?_, q⟩
  have h1 := X.baloadOut hexec (by rw [hT]; exact hP q0 _ ha) ((hK.2 t0 _ ht).1 n (fun j => .int (f j))) (j := i) (by show (i < 0 ∨ (arrV _ _ _).slots.size ≤ _); rw [arrV_size]; exact Classical.byContradiction hout) (g := F0 m pc ls (.int i :: .ref a :: rest)) rfl (rest := rest) rfl (by rw [hb]; exact hdg) t
  simp only [arrV_size] at h1
  exact h1 st
theorem vx_zastZ {D : va_G} {cl : List vw_C} {ws : va_W} {tys : List (ClassId × FieldType)} {a : Nat} (hexec : p.tables.exec = Jvm.exec) (hb : c.code = cc) (hK : va_K D cl tys s) (hP : va_P D cl ws H) (q0 t0 : Nat) {cA : ClassId} {n : Nat} {f : Nat → Int32} (ha : ws[q0]? = some (a, .inl (cA, n, .inl f))) (ht : tys[t0]? = some (cA, .boolean)) {i : Int32} {x : Int32} (hout : ¬ vp_in i n) (hdg : decode cc pc = .ok (.bastore, 1))
    (k : ∀ tx : String, tx = (toString "Index " ++ toString i ++ toString " out of bounds for length " ++ toString n : String) → vx_Note p l e R s m args below meth c H locs cells slots Q (F0 m pc ls rest) "java/lang/ArrayIndexOutOfBoundsException" tx) : W p l e R s m args below meth c H locs cells slots Q (F0 m pc ls (.int x :: .int i :: .ref a :: rest)) := by
  intro T hT X
  obtain ⟨t, st, q⟩ := k _ rfl T hT X
  refine ⟨t, ?_, q⟩
  have h1 := X.bastoreOut hexec (by rw [hT]; exact hP q0 _ ha) ((hK.2 t0 _ ht).1 n (fun j => .int (f j))) (j := i) (by show (i < 0 ∨ (arrV _ _ _).slots.size ≤ _); rw [arrV_size]; exact Classical.byContradiction hout) (g := F0 m pc ls (.int x :: .int i :: .ref a :: rest)) rfl (rest := rest) rfl (by rw [hb]; exact hdg) t
  simp only [arrV_size] at h1
  exact h1 st
theorem vx_caldZ {D : va_G} {cl : List vw_C} {ws : va_W} {tys : List (ClassId × FieldType)} {a : Nat} (hexec : p.tables.exec = Jvm.exec) (hb : c.code = cc) (hK : va_K D cl tys s) (hP : va_P D cl ws H) (q0 t0 : Nat) {cA : ClassId} {n : Nat} {f : Nat → Int32} (ha : ws[q0]? = some (a, .inl (cA, n, .inl f))) (ht : tys[t0]? = some (cA, .char)) {i : Int32} (hout : ¬ vp_in i n) (hdg : decode cc pc = .ok (.caload, 1))
    (k : ∀ tx : String, tx = (toString "Index " ++ toString i ++ toString " out of bounds for length " ++ toString n : String) → vx_Note p l e R s m args below meth c H locs cells slots Q (F0 m pc ls rest) "java/lang/ArrayIndexOutOfBoundsException" tx) : W p l e R s m args below meth c H locs cells slots Q (F0 m pc ls (.int i :: .ref a :: rest)) := by
  intro T hT X
  obtain ⟨t, st, q⟩ := k _ rfl T hT X
  refine ⟨t, ?_, q⟩
  have h1 := X.caloadOut hexec (by rw [hT]; exact hP q0 _ ha) ((hK.2 t0 _ ht).1 n (fun j => .int (f j))) (j := i) (by show (i < 0 ∨ (arrV _ _ _).slots.size ≤ _); rw [arrV_size]; exact Classical.byContradiction hout) (g := F0 m pc ls (.int i :: .ref a :: rest)) rfl (rest := rest) rfl (by rw [hb]; exact hdg) t
  simp only [arrV_size] at h1
  exact h1 st
theorem vx_castZ {D : va_G} {cl : List vw_C} {ws : va_W} {tys : List (ClassId × FieldType)} {a : Nat} (hexec : p.tables.exec = Jvm.exec) (hb : c.code = cc) (hK : va_K D cl tys s) (hP : va_P D cl ws H) (q0 t0 : Nat) {cA : ClassId} {n : Nat} {f : Nat → Int32} (ha : ws[q0]? = some (a, .inl (cA, n, .inl f))) (ht : tys[t0]? = some (cA, .char)) {i : Int32} {x : Int32} (hout : ¬ vp_in i n) (hdg : decode cc pc = .ok (.castore, 1))
    (k : ∀ tx : String, tx = (toString "Index " ++ toString i ++ toString " out of bounds for length " ++ toString n : String) → vx_Note p l e R s m args below meth c H locs cells slots Q (F0 m pc ls rest) "java/lang/ArrayIndexOutOfBoundsException" tx) : W p l e R s m args below meth c H locs cells slots Q (F0 m pc ls (.int x :: .int i :: .ref a :: rest)) := by
  intro T hT X
  obtain ⟨t, st, q⟩ := k _ rfl T hT X
  refine ⟨t, ?_, q⟩
  have h1 := X.castoreOut hexec (by rw [hT]; exact hP q0 _ ha) ((hK.2 t0 _ ht).1 n (fun j => .int (f j))) (j := i) (by show (i < 0 ∨ (arrV _ _ _).slots.size ≤ _); rw [arrV_size]; exact Classical.byContradiction hout) (g := F0 m pc ls (.int x :: .int i :: .ref a :: rest)) rfl (rest := rest) rfl (by rw [hb]; exact hdg) t
  simp only [arrV_size] at h1
  exact h1 st
theorem vx_saldZ {D : va_G} {cl : List vw_C} {ws : va_W} {tys : List (ClassId × FieldType)} {a : Nat} (hexec : p.tables.exec = Jvm.exec) (hb : c.code = cc) (hK : va_K D cl tys s) (hP : va_P D cl ws H) (q0 t0 : Nat) {cA : ClassId} {n : Nat} {f : Nat → Int32} (ha : ws[q0]? = some (a, .inl (cA, n, .inl f))) (ht : tys[t0]? = some (cA, .short)) {i : Int32} (hout : ¬ vp_in i n) (hdg : decode cc pc = .ok (.saload, 1))
    (k : ∀ tx : String, tx = (toString "Index " ++ toString i ++ toString " out of bounds for length " ++ toString n : String) → vx_Note p l e R s m args below meth c H locs cells slots Q (F0 m pc ls rest) "java/lang/ArrayIndexOutOfBoundsException" tx) : W p l e R s m args below meth c H locs cells slots Q (F0 m pc ls (.int i :: .ref a :: rest)) := by
  intro T hT X
  obtain ⟨t, st, q⟩ := k _ rfl T hT X
  refine ⟨t, ?_, q⟩
  have h1 := X.saloadOut hexec (by rw [hT]; exact hP q0 _ ha) ((hK.2 t0 _ ht).1 n (fun j => .int (f j))) (j := i) (by show (i < 0 ∨ (arrV _ _ _).slots.size ≤ _); rw [arrV_size]; exact Classical.byContradiction hout) (g := F0 m pc ls (.int i :: .ref a :: rest)) rfl (rest := rest) rfl (by rw [hb]; exact hdg) t
  simp only [arrV_size] at h1
  exact h1 st
theorem vx_sastZ {D : va_G} {cl : List vw_C} {ws : va_W} {tys : List (ClassId × FieldType)} {a : Nat} (hexec : p.tables.exec = Jvm.exec) (hb : c.code = cc) (hK : va_K D cl tys s) (hP : va_P D cl ws H) (q0 t0 : Nat) {cA : ClassId} {n : Nat} {f : Nat → Int32} (ha : ws[q0]? = some (a, .inl (cA, n, .inl f))) (ht : tys[t0]? = some (cA, .short)) {i : Int32} {x : Int32} (hout : ¬ vp_in i n) (hdg : decode cc pc = .ok (.sastore, 1))
    (k : ∀ tx : String, tx = (toString "Index " ++ toString i ++ toString " out of bounds for length " ++ toString n : String) → vx_Note p l e R s m args below meth c H locs cells slots Q (F0 m pc ls rest) "java/lang/ArrayIndexOutOfBoundsException" tx) : W p l e R s m args below meth c H locs cells slots Q (F0 m pc ls (.int x :: .int i :: .ref a :: rest)) := by
  intro T hT X
  obtain ⟨t, st, q⟩ := k _ rfl T hT X
  refine ⟨t, ?_, q⟩
  have h1 := X.sastoreOut hexec (by rw [hT]; exact hP q0 _ ha) ((hK.2 t0 _ ht).1 n (fun j => .int (f j))) (j := i) (by show (i < 0 ∨ (arrV _ _ _).slots.size ≤ _); rw [arrV_size]; exact Classical.byContradiction hout) (g := F0 m pc ls (.int x :: .int i :: .ref a :: rest)) rfl (rest := rest) rfl (by rw [hb]; exact hdg) t
  simp only [arrV_size] at h1
  exact h1 st
theorem vx_laldZ {D : va_G} {cl : List vw_C} {ws : va_W} {tys : List (ClassId × FieldType)} {a : Nat} (hexec : p.tables.exec = Jvm.exec) (hb : c.code = cc) (hK : va_K D cl tys s) (hP : va_P D cl ws H) (q0 t0 : Nat) {cA : ClassId} {n : Nat} {f : Nat → Int64} (ha : ws[q0]? = some (a, .inl (cA, n, .inr (.inl f)))) (ht : tys[t0]? = some (cA, .long)) {i : Int32} (hout : ¬ vp_in i n) (hdg : decode cc pc = .ok (.laload, 1))
    (k : ∀ tx : String, tx = (toString "Index " ++ toString i ++ toString " out of bounds for length " ++ toString n : String) → vx_Note p l e R s m args below meth c H locs cells slots Q (F0 m pc ls rest) "java/lang/ArrayIndexOutOfBoundsException" tx) : W p l e R s m args below meth c H locs cells slots Q (F0 m pc ls (.int i :: .ref a :: rest)) := by
  intro T hT X
  obtain ⟨t, st, q⟩ := k _ rfl T hT X
  refine ⟨t, ?_, q⟩
  have h1 := X.laloadOut hexec (by rw [hT]; exact hP q0 _ ha) ((hK.2 t0 _ ht).1 n (fun j => .long (f j))) (j := i) (by show (i < 0 ∨ (arrV _ _ _).slots.size ≤ _); rw [arrV_size]; exact Classical.byContradiction hout) (g := F0 m pc ls (.int i :: .ref a :: rest)) rfl (rest := rest) rfl (by rw [hb]; exact hdg) t
  simp only [arrV_size] at h1
  exact h1 st
theorem vx_lastZ {D : va_G} {cl : List vw_C} {ws : va_W} {tys : List (ClassId × FieldType)} {a : Nat} (hexec : p.tables.exec = Jvm.exec) (hb : c.code = cc) (hK : va_K D cl tys s) (hP : va_P D cl ws H) (q0 t0 : Nat) {cA : ClassId} {n : Nat} {f : Nat → Int64} (ha : ws[q0]? = some (a, .inl (cA, n, .inr (.inl f)))) (ht : tys[t0]? = some (cA, .long)) {i : Int32} {x : Int64} (hout : ¬ vp_in i n) (hdg : decode cc pc = .ok (.lastore, 1))
    (k : ∀ tx : String, tx = (toString "Index " ++ toString i ++ toString " out of bounds for length " ++ toString n : String) → vx_Note p l e R s m args below meth c H locs cells slots Q (F0 m pc ls rest) "java/lang/ArrayIndexOutOfBoundsException" tx) : W p l e R s m args below meth c H locs cells slots Q (F0 m pc ls (.long x :: .int i :: .ref a :: rest)) := by
  intro T hT X
  obtain ⟨t, st, q⟩ := k _ rfl T hT X
  refine ⟨t, ?_, q⟩
  have h1 := X.lastoreOut hexec (by rw [hT]; exact hP q0 _ ha) ((hK.2 t0 _ ht).1 n (fun j => .long (f j))) (j := i) (by show (i < 0 ∨ (arrV _ _ _).slots.size ≤ _); rw [arrV_size]; exact Classical.byContradiction hout) (g := F0 m pc ls (.long x :: .int i :: .ref a :: rest)) rfl (rest := rest) rfl (by rw [hb]; exact hdg) t
  simp only [arrV_size] at h1
  exact h1 st
theorem vx_faldZ {D : va_G} {cl : List vw_C} {ws : va_W} {tys : List (ClassId × FieldType)} {a : Nat} (hexec : p.tables.exec = Jvm.exec) (hb : c.code = cc) (hK : va_K D cl tys s) (hP : va_P D cl ws H) (q0 t0 : Nat) {cA : ClassId} {n : Nat} {f : Nat → UInt32} (ha : ws[q0]? = some (a, .inl (cA, n, .inr (.inr (.inl f))))) (ht : tys[t0]? = some (cA, .float)) {i : Int32} (hout : ¬ vp_in i n) (hdg : decode cc pc = .ok (.faload, 1))
    (k : ∀ tx : String, tx = (toString "Index " ++ toString i ++ toString " out of bounds for length " ++ toString n : String) → vx_Note p l e R s m args below meth c H locs cells slots Q (F0 m pc ls rest) "java/lang/ArrayIndexOutOfBoundsException" tx) : W p l e R s m args below meth c H locs cells slots Q (F0 m pc ls (.int i :: .ref a :: rest)) := by
  intro T hT X
  obtain ⟨t, st, q⟩ := k _ rfl T hT X
  refine ⟨t, ?_, q⟩
  have h1 := X.faloadOut hexec (by rw [hT]; exact hP q0 _ ha) ((hK.2 t0 _ ht).1 n (fun j => .float (f j))) (j := i) (by show (i < 0 ∨ (arrV _ _ _).slots.size ≤ _); rw [arrV_size]; exact Classical.byContradiction hout) (g := F0 m pc ls (.int i :: .ref a :: rest)) rfl (rest := rest) rfl (by rw [hb]; exact hdg) t
  simp only [arrV_size] at h1
  exact h1 st
theorem vx_fastZ {D : va_G} {cl : List vw_C} {ws : va_W} {tys : List (ClassId × FieldType)} {a : Nat} (hexec : p.tables.exec = Jvm.exec) (hb : c.code = cc) (hK : va_K D cl tys s) (hP : va_P D cl ws H) (q0 t0 : Nat) {cA : ClassId} {n : Nat} {f : Nat → UInt32} (ha : ws[q0]? = some (a, .inl (cA, n, .inr (.inr (.inl f))))) (ht : tys[t0]? = some (cA, .float)) {i : Int32} {x : UInt32} (hout : ¬ vp_in i n) (hdg : decode cc pc = .ok (.fastore, 1))
    (k : ∀ tx : String, tx = (toString "Index " ++ toString i ++ toString " out of bounds for length " ++ toString n : String) → vx_Note p l e R s m args below meth c H locs cells slots Q (F0 m pc ls rest) "java/lang/ArrayIndexOutOfBoundsException" tx) : W p l e R s m args below meth c H locs cells slots Q (F0 m pc ls (.float x :: .int i :: .ref a :: rest)) := by
  intro T hT X
  obtain ⟨t, st, q⟩ := k _ rfl T hT X
  refine ⟨t, ?_, q⟩
  have h1 := X.fastoreOut hexec (by rw [hT]; exact hP q0 _ ha) ((hK.2 t0 _ ht).1 n (fun j => .float (f j))) (j := i) (by show (i < 0 ∨ (arrV _ _ _).slots.size ≤ _); rw [arrV_size]; exact Classical.byContradiction hout) (g := F0 m pc ls (.float x :: .int i :: .ref a :: rest)) rfl (rest := rest) rfl (by rw [hb]; exact hdg) t
  simp only [arrV_size] at h1
  exact h1 st
theorem vx_daldZ {D : va_G} {cl : List vw_C} {ws : va_W} {tys : List (ClassId × FieldType)} {a : Nat} (hexec : p.tables.exec = Jvm.exec) (hb : c.code = cc) (hK : va_K D cl tys s) (hP : va_P D cl ws H) (q0 t0 : Nat) {cA : ClassId} {n : Nat} {f : Nat → UInt64} (ha : ws[q0]? = some (a, .inl (cA, n, .inr (.inr (.inr (.inl f)))))) (ht : tys[t0]? = some (cA, .double)) {i : Int32} (hout : ¬ vp_in i n) (hdg : decode cc pc = .ok (.daload, 1))
    (k : ∀ tx : String, tx = (toString "Index " ++ toString i ++ toString " out of bounds for length " ++ toString n : String) → vx_Note p l e R s m args below meth c H locs cells slots Q (F0 m pc ls rest) "java/lang/ArrayIndexOutOfBoundsException" tx) : W p l e R s m args below meth c H locs cells slots Q (F0 m pc ls (.int i :: .ref a :: rest)) := by
  intro T hT X
  obtain ⟨t, st, q⟩ := k _ rfl T hT X
  refine ⟨t, ?_, q⟩
  have h1 := X.daloadOut hexec (by rw [hT]; exact hP q0 _ ha) ((hK.2 t0 _ ht).1 n (fun j => .double (f j))) (j := i) (by show (i < 0 ∨ (arrV _ _ _).slots.size ≤ _); rw [arrV_size]; exact Classical.byContradiction hout) (g := F0 m pc ls (.int i :: .ref a :: rest)) rfl (rest := rest) rfl (by rw [hb]; exact hdg) t
  simp only [arrV_size] at h1
  exact h1 st
theorem vx_dastZ {D : va_G} {cl : List vw_C} {ws : va_W} {tys : List (ClassId × FieldType)} {a : Nat} (hexec : p.tables.exec = Jvm.exec) (hb : c.code = cc) (hK : va_K D cl tys s) (hP : va_P D cl ws H) (q0 t0 : Nat) {cA : ClassId} {n : Nat} {f : Nat → UInt64} (ha : ws[q0]? = some (a, .inl (cA, n, .inr (.inr (.inr (.inl f)))))) (ht : tys[t0]? = some (cA, .double)) {i : Int32} {x : UInt64} (hout : ¬ vp_in i n) (hdg : decode cc pc = .ok (.dastore, 1))
    (k : ∀ tx : String, tx = (toString "Index " ++ toString i ++ toString " out of bounds for length " ++ toString n : String) → vx_Note p l e R s m args below meth c H locs cells slots Q (F0 m pc ls rest) "java/lang/ArrayIndexOutOfBoundsException" tx) : W p l e R s m args below meth c H locs cells slots Q (F0 m pc ls (.double x :: .int i :: .ref a :: rest)) := by
  intro T hT X
  obtain ⟨t, st, q⟩ := k _ rfl T hT X
  refine ⟨t, ?_, q⟩
  have h1 := X.dastoreOut hexec (by rw [hT]; exact hP q0 _ ha) ((hK.2 t0 _ ht).1 n (fun j => .double (f j))) (j := i) (by show (i < 0 ∨ (arrV _ _ _).slots.size ≤ _); rw [arrV_size]; exact Classical.byContradiction hout) (g := F0 m pc ls (.double x :: .int i :: .ref a :: rest)) rfl (rest := rest) rfl (by rw [hb]; exact hdg) t
  simp only [arrV_size] at h1
  exact h1 st
theorem vx_arraylengthN (hexec : p.tables.exec = Jvm.exec) (hb : c.code = cc) (hdg : decode cc pc = .ok (.arraylength, 1)) (k : vx_NoteN p l e R s m args below meth c H locs cells slots Q (F0 m pc ls rest)) : W p l e R s m args below meth c H locs cells slots Q (F0 m pc ls (.null :: rest)) := by
  intro T hT X
  obtain ⟨t, st, q⟩ := k T hT X
  exact ⟨t, X.arraylengthNull hexec (g := F0 m pc ls (.null :: rest)) rfl (rest := rest) rfl (by rw [hb]; exact hdg) t st, q⟩
theorem vx_ialoadN (hexec : p.tables.exec = Jvm.exec) (hb : c.code = cc) {i : Int32} (hdg : decode cc pc = .ok (.iaload, 1)) (k : vx_NoteN p l e R s m args below meth c H locs cells slots Q (F0 m pc ls rest)) : W p l e R s m args below meth c H locs cells slots Q (F0 m pc ls (.int i :: .null :: rest)) := by
  intro T hT X
  obtain ⟨t, st, q⟩ := k T hT X
  exact ⟨t, X.ialoadNull hexec (g := F0 m pc ls (.int i :: .null :: rest)) rfl (rest := rest) rfl (by rw [hb]; exact hdg) t st, q⟩
theorem vx_laloadN (hexec : p.tables.exec = Jvm.exec) (hb : c.code = cc) {i : Int32} (hdg : decode cc pc = .ok (.laload, 1)) (k : vx_NoteN p l e R s m args below meth c H locs cells slots Q (F0 m pc ls rest)) : W p l e R s m args below meth c H locs cells slots Q (F0 m pc ls (.int i :: .null :: rest)) := by
  intro T hT X
  obtain ⟨t, st, q⟩ := k T hT X
  exact ⟨t, X.laloadNull hexec (g := F0 m pc ls (.int i :: .null :: rest)) rfl (rest := rest) rfl (by rw [hb]; exact hdg) t st, q⟩
theorem vx_faloadN (hexec : p.tables.exec = Jvm.exec) (hb : c.code = cc) {i : Int32} (hdg : decode cc pc = .ok (.faload, 1)) (k : vx_NoteN p l e R s m args below meth c H locs cells slots Q (F0 m pc ls rest)) : W p l e R s m args below meth c H locs cells slots Q (F0 m pc ls (.int i :: .null :: rest)) := by
  intro T hT X
  obtain ⟨t, st, q⟩ := k T hT X
  exact ⟨t, X.faloadNull hexec (g := F0 m pc ls (.int i :: .null :: rest)) rfl (rest := rest) rfl (by rw [hb]; exact hdg) t st, q⟩
theorem vx_daloadN (hexec : p.tables.exec = Jvm.exec) (hb : c.code = cc) {i : Int32} (hdg : decode cc pc = .ok (.daload, 1)) (k : vx_NoteN p l e R s m args below meth c H locs cells slots Q (F0 m pc ls rest)) : W p l e R s m args below meth c H locs cells slots Q (F0 m pc ls (.int i :: .null :: rest)) := by
  intro T hT X
  obtain ⟨t, st, q⟩ := k T hT X
  exact ⟨t, X.daloadNull hexec (g := F0 m pc ls (.int i :: .null :: rest)) rfl (rest := rest) rfl (by rw [hb]; exact hdg) t st, q⟩
theorem vx_aaloadN (hexec : p.tables.exec = Jvm.exec) (hb : c.code = cc) {i : Int32} (hdg : decode cc pc = .ok (.aaload, 1)) (k : vx_NoteN p l e R s m args below meth c H locs cells slots Q (F0 m pc ls rest)) : W p l e R s m args below meth c H locs cells slots Q (F0 m pc ls (.int i :: .null :: rest)) := by
  intro T hT X
  obtain ⟨t, st, q⟩ := k T hT X
  exact ⟨t, X.aaloadNull hexec (g := F0 m pc ls (.int i :: .null :: rest)) rfl (rest := rest) rfl (by rw [hb]; exact hdg) t st, q⟩
theorem vx_baloadN (hexec : p.tables.exec = Jvm.exec) (hb : c.code = cc) {i : Int32} (hdg : decode cc pc = .ok (.baload, 1)) (k : vx_NoteN p l e R s m args below meth c H locs cells slots Q (F0 m pc ls rest)) : W p l e R s m args below meth c H locs cells slots Q (F0 m pc ls (.int i :: .null :: rest)) := by
  intro T hT X
  obtain ⟨t, st, q⟩ := k T hT X
  exact ⟨t, X.baloadNull hexec (g := F0 m pc ls (.int i :: .null :: rest)) rfl (rest := rest) rfl (by rw [hb]; exact hdg) t st, q⟩
theorem vx_caloadN (hexec : p.tables.exec = Jvm.exec) (hb : c.code = cc) {i : Int32} (hdg : decode cc pc = .ok (.caload, 1)) (k : vx_NoteN p l e R s m args below meth c H locs cells slots Q (F0 m pc ls rest)) : W p l e R s m args below meth c H locs cells slots Q (F0 m pc ls (.int i :: .null :: rest)) := by
  intro T hT X
  obtain ⟨t, st, q⟩ := k T hT X
  exact ⟨t, X.caloadNull hexec (g := F0 m pc ls (.int i :: .null :: rest)) rfl (rest := rest) rfl (by rw [hb]; exact hdg) t st, q⟩
theorem vx_saloadN (hexec : p.tables.exec = Jvm.exec) (hb : c.code = cc) {i : Int32} (hdg : decode cc pc = .ok (.saload, 1)) (k : vx_NoteN p l e R s m args below meth c H locs cells slots Q (F0 m pc ls rest)) : W p l e R s m args below meth c H locs cells slots Q (F0 m pc ls (.int i :: .null :: rest)) := by
  intro T hT X
  obtain ⟨t, st, q⟩ := k T hT X
  exact ⟨t, X.saloadNull hexec (g := F0 m pc ls (.int i :: .null :: rest)) rfl (rest := rest) rfl (by rw [hb]; exact hdg) t st, q⟩
theorem vx_iastoreN (hexec : p.tables.exec = Jvm.exec) (hb : c.code = cc) {x : Int32} {i : Int32} (hdg : decode cc pc = .ok (.iastore, 1)) (k : vx_NoteN p l e R s m args below meth c H locs cells slots Q (F0 m pc ls rest)) : W p l e R s m args below meth c H locs cells slots Q (F0 m pc ls (.int x :: .int i :: .null :: rest)) := by
  intro T hT X
  obtain ⟨t, st, q⟩ := k T hT X
  exact ⟨t, X.iastoreNull hexec (g := F0 m pc ls (.int x :: .int i :: .null :: rest)) rfl (rest := rest) rfl (by rw [hb]; exact hdg) t st, q⟩
theorem vx_lastoreN (hexec : p.tables.exec = Jvm.exec) (hb : c.code = cc) {x : Int64} {i : Int32} (hdg : decode cc pc = .ok (.lastore, 1)) (k : vx_NoteN p l e R s m args below meth c H locs cells slots Q (F0 m pc ls rest)) : W p l e R s m args below meth c H locs cells slots Q (F0 m pc ls (.long x :: .int i :: .null :: rest)) := by
  intro T hT X
  obtain ⟨t, st, q⟩ := k T hT X
  exact ⟨t, X.lastoreNull hexec (g := F0 m pc ls (.long x :: .int i :: .null :: rest)) rfl (rest := rest) rfl (by rw [hb]; exact hdg) t st, q⟩
theorem vx_fastoreN (hexec : p.tables.exec = Jvm.exec) (hb : c.code = cc) {x : UInt32} {i : Int32} (hdg : decode cc pc = .ok (.fastore, 1)) (k : vx_NoteN p l e R s m args below meth c H locs cells slots Q (F0 m pc ls rest)) : W p l e R s m args below meth c H locs cells slots Q (F0 m pc ls (.float x :: .int i :: .null :: rest)) := by
  intro T hT X
  obtain ⟨t, st, q⟩ := k T hT X
  exact ⟨t, X.fastoreNull hexec (g := F0 m pc ls (.float x :: .int i :: .null :: rest)) rfl (rest := rest) rfl (by rw [hb]; exact hdg) t st, q⟩
theorem vx_dastoreN (hexec : p.tables.exec = Jvm.exec) (hb : c.code = cc) {x : UInt64} {i : Int32} (hdg : decode cc pc = .ok (.dastore, 1)) (k : vx_NoteN p l e R s m args below meth c H locs cells slots Q (F0 m pc ls rest)) : W p l e R s m args below meth c H locs cells slots Q (F0 m pc ls (.double x :: .int i :: .null :: rest)) := by
  intro T hT X
  obtain ⟨t, st, q⟩ := k T hT X
  exact ⟨t, X.dastoreNull hexec (g := F0 m pc ls (.double x :: .int i :: .null :: rest)) rfl (rest := rest) rfl (by rw [hb]; exact hdg) t st, q⟩
theorem vx_bastoreN (hexec : p.tables.exec = Jvm.exec) (hb : c.code = cc) {x : Int32} {i : Int32} (hdg : decode cc pc = .ok (.bastore, 1)) (k : vx_NoteN p l e R s m args below meth c H locs cells slots Q (F0 m pc ls rest)) : W p l e R s m args below meth c H locs cells slots Q (F0 m pc ls (.int x :: .int i :: .null :: rest)) := by
  intro T hT X
  obtain ⟨t, st, q⟩ := k T hT X
  exact ⟨t, X.bastoreNull hexec (g := F0 m pc ls (.int x :: .int i :: .null :: rest)) rfl (rest := rest) rfl (by rw [hb]; exact hdg) t st, q⟩
theorem vx_castoreN (hexec : p.tables.exec = Jvm.exec) (hb : c.code = cc) {x : Int32} {i : Int32} (hdg : decode cc pc = .ok (.castore, 1)) (k : vx_NoteN p l e R s m args below meth c H locs cells slots Q (F0 m pc ls rest)) : W p l e R s m args below meth c H locs cells slots Q (F0 m pc ls (.int x :: .int i :: .null :: rest)) := by
  intro T hT X
  obtain ⟨t, st, q⟩ := k T hT X
  exact ⟨t, X.castoreNull hexec (g := F0 m pc ls (.int x :: .int i :: .null :: rest)) rfl (rest := rest) rfl (by rw [hb]; exact hdg) t st, q⟩
theorem vx_sastoreN (hexec : p.tables.exec = Jvm.exec) (hb : c.code = cc) {x : Int32} {i : Int32} (hdg : decode cc pc = .ok (.sastore, 1)) (k : vx_NoteN p l e R s m args below meth c H locs cells slots Q (F0 m pc ls rest)) : W p l e R s m args below meth c H locs cells slots Q (F0 m pc ls (.int x :: .int i :: .null :: rest)) := by
  intro T hT X
  obtain ⟨t, st, q⟩ := k T hT X
  exact ⟨t, X.sastoreNull hexec (g := F0 m pc ls (.int x :: .int i :: .null :: rest)) rfl (rest := rest) rfl (by rw [hb]; exact hdg) t st, q⟩
theorem vx_invokeN {own C : String} {index maxL : Nat} {y : MethodName} {bytes : ByteArray} {ret : Option FieldType} (hexec : p.tables.exec = Jvm.exec) (hb : c.code = cc) (hown : s.vm.findClass own = some m.cls) (hlink : (Cond.methodLink own index y).before args s = true) (hinst : (Cond.instanceMethod y).before args s = true) (hcode : (Cond.code y bytes maxL ret).before args s = true) (hsel : (Cond.selects C y y).before args s = true)
    (hx : y.cls ≠ "java/lang/invoke/MethodHandle" ∧ y.cls ≠ "java/lang/invoke/VarHandle") {As : List Value} (hlen : (parseMethodDescriptor y.desc).map (fun d => d.parameters.length) = some As.length) (hdg : decode cc pc = .ok (.invokevirtual index, 3))
    (k : vx_NoteN p l e R s m args below meth c H locs cells slots Q (F0 m pc ls rest)) {st0 : List Value} (hst : st0 = As.reverse ++ .null :: rest) : W p l e R s m args below meth c H locs cells slots Q (F0 m pc ls st0) := by
  intro T hT X
  obtain ⟨r0, r, hn, hrm, hstR, hsigR⟩ := va_Decl.of hinst hcode
  obtain ⟨c2, r2, m2, q1, q2, q3, q4, kP, hkP, hkPi⟩ := Cond.selects_spec hsel
  cases hn.symm.trans q3
  have hl9 : As.length = r.sig.parameters.length := by
    rw [hsigR] at hlen
    exact (Option.some.inj hlen).symm
  obtain ⟨vm', X1, st1⟩ := X.invokevirtualNull hexec hown hlink hn hrm hstR hkP hkPi hx (g := F0 m pc ls st0) rfl (argsL := As) (rest := rest) hl9 hst (by rw [hb]; exact hdg)
  obtain ⟨t, st, q⟩ := k (T.setVm vm') hT X1
  exact ⟨t, st1 t st, q⟩
theorem vx_newarrayZ {atype : ArrayType} (hexec : p.tables.exec = Jvm.exec) (hb : c.code = cc) {n : Int32} (h0 : n < 0) (hdg : decode cc pc = .ok (.newarray atype, 2)) (k : ∀ tx : String, tx = toString n → vx_Note p l e R s m args below meth c H locs cells slots Q (F0 m pc ls rest) "java/lang/NegativeArraySizeException" tx) : W p l e R s m args below meth c H locs cells slots Q (F0 m pc ls (.int n :: rest)) := by
  intro T hT X
  obtain ⟨t, st, q⟩ := k _ rfl T hT X
  exact ⟨t, X.newarrayNegative hexec (g := F0 m pc ls (.int n :: rest)) rfl h0 (rest := rest) rfl (by rw [hb]; exact hdg) t st, q⟩
end
end VXM
/-! ===== END ===== -/
end
section
-- pasted from the kit's skeleton: the tables' words
-- ===== PART A: goes FIRST, ahead of the names: the tables' words, and 'selects' of the private methods out of them =====
/-- a private method of a class that the tables say can be made, by its rows of tables_1 -/
def lw_okq (q : MethodName × Nat) : Prop := (q.1.cls ≠ "java/lang/invoke/MethodHandle" ∧ q.1.cls ≠ "java/lang/invoke/VarHandle") ∧ Cond.instantiable q.1.cls q.2 ∈ tables_1 ∧ Cond.privateMethod q.1 ∈ tables_1 ∧ Cond.instanceMethod q.1 ∈ tables_1
theorem lw_p0 : lw_okq (⟨"java/lang/Throwable", "fillInStackTrace", "(I)Ljava/lang/Throwable;"⟩, 6) := ⟨⟨by decide +kernel, by decide +kernel⟩, List.mem_of_getElem? (i := 410) (by decide +kernel), List.mem_of_getElem? (i := 408) (by decide +kernel), List.mem_of_getElem? (i := 409) (by decide +kernel)⟩
theorem lw_p1 : lw_okq (⟨"Linkwitness$Links", "deriveAbove", "(LLinkwitness$Library;)V"⟩, 14) := ⟨⟨by decide +kernel, by decide +kernel⟩, List.mem_of_getElem? (i := 249) (by decide +kernel), List.mem_of_getElem? (i := 521) (by decide +kernel), List.mem_of_getElem? (i := 522) (by decide +kernel)⟩
theorem lw_p2 : lw_okq (⟨"Linkwitness$Links", "deriveInterfaceMethods", "(LLinkwitness$Members;)V"⟩, 14) := ⟨⟨by decide +kernel, by decide +kernel⟩, List.mem_of_getElem? (i := 249) (by decide +kernel), List.mem_of_getElem? (i := 528) (by decide +kernel), List.mem_of_getElem? (i := 529) (by decide +kernel)⟩
theorem lw_p3 : lw_okq (⟨"Linkwitness$Links", "walkChain", "(LLinkwitness$Library;I)V"⟩, 14) := ⟨⟨by decide +kernel, by decide +kernel⟩, List.mem_of_getElem? (i := 249) (by decide +kernel), List.mem_of_getElem? (i := 535) (by decide +kernel), List.mem_of_getElem? (i := 536) (by decide +kernel)⟩
theorem lw_p4 : lw_okq (⟨"Linkwitness$Links", "noteMethods", "(LLinkwitness$Members;II)V"⟩, 14) := ⟨⟨by decide +kernel, by decide +kernel⟩, List.mem_of_getElem? (i := 249) (by decide +kernel), List.mem_of_getElem? (i := 539) (by decide +kernel), List.mem_of_getElem? (i := 540) (by decide +kernel)⟩
theorem lw_p5 : lw_okq (⟨"Linkwitness$Links", "nearest", "(I)I"⟩, 14) := ⟨⟨by decide +kernel, by decide +kernel⟩, List.mem_of_getElem? (i := 249) (by decide +kernel), List.mem_of_getElem? (i := 547) (by decide +kernel), List.mem_of_getElem? (i := 548) (by decide +kernel)⟩
theorem lw_p6 : lw_okq (⟨"Linkwitness$Links", "lowest", "(I)I"⟩, 14) := ⟨⟨by decide +kernel, by decide +kernel⟩, List.mem_of_getElem? (i := 249) (by decide +kernel), List.mem_of_getElem? (i := 557) (by decide +kernel), List.mem_of_getElem? (i := 558) (by decide +kernel)⟩
theorem lw_p7 : lw_okq (⟨"Linkwitness$Links", "deriveFields", "(LLinkwitness$Library;I)V"⟩, 14) := ⟨⟨by decide +kernel, by decide +kernel⟩, List.mem_of_getElem? (i := 249) (by decide +kernel), List.mem_of_getElem? (i := 596) (by decide +kernel), List.mem_of_getElem? (i := 597) (by decide +kernel)⟩
theorem lw_p8 : lw_okq (⟨"Linkwitness$Links", "inheritedField", "(III)I"⟩, 14) := ⟨⟨by decide +kernel, by decide +kernel⟩, List.mem_of_getElem? (i := 249) (by decide +kernel), List.mem_of_getElem? (i := 600) (by decide +kernel), List.mem_of_getElem? (i := 601) (by decide +kernel)⟩
theorem lw_p9 : lw_okq (⟨"Linkwitness$Links", "deriveUsable", "(LLinkwitness$Library;)V"⟩, 14) := ⟨⟨by decide +kernel, by decide +kernel⟩, List.mem_of_getElem? (i := 249) (by decide +kernel), List.mem_of_getElem? (i := 604) (by decide +kernel), List.mem_of_getElem? (i := 605) (by decide +kernel)⟩
theorem lw_p10 : lw_okq (⟨"Linkwitness$Links", "isFarSeen", "(C)Z"⟩, 14) := ⟨⟨by decide +kernel, by decide +kernel⟩, List.mem_of_getElem? (i := 249) (by decide +kernel), List.mem_of_getElem? (i := 608) (by decide +kernel), List.mem_of_getElem? (i := 609) (by decide +kernel)⟩
theorem lw_p11 : lw_okq (⟨"Linkwitness$Machine", "aboveFault", "(IZ)C"⟩, 6) := ⟨⟨by decide +kernel, by decide +kernel⟩, List.mem_of_getElem? (i := 155) (by decide +kernel), List.mem_of_getElem? (i := 638) (by decide +kernel), List.mem_of_getElem? (i := 639) (by decide +kernel)⟩
theorem lw_p12 : lw_okq (⟨"Linkwitness$Machine", "isBarred", "(II)Z"⟩, 6) := ⟨⟨by decide +kernel, by decide +kernel⟩, List.mem_of_getElem? (i := 155) (by decide +kernel), List.mem_of_getElem? (i := 643) (by decide +kernel), List.mem_of_getElem? (i := 644) (by decide +kernel)⟩
theorem lw_p13 : lw_okq (⟨"Linkwitness$Machine", "makingFault", "(I)C"⟩, 6) := ⟨⟨by decide +kernel, by decide +kernel⟩, List.mem_of_getElem? (i := 155) (by decide +kernel), List.mem_of_getElem? (i := 656) (by decide +kernel), List.mem_of_getElem? (i := 657) (by decide +kernel)⟩
theorem lw_p14 : lw_okq (⟨"Linkwitness$Machine", "typeFault", "(II)C"⟩, 6) := ⟨⟨by decide +kernel, by decide +kernel⟩, List.mem_of_getElem? (i := 155) (by decide +kernel), List.mem_of_getElem? (i := 660) (by decide +kernel), List.mem_of_getElem? (i := 661) (by decide +kernel)⟩
theorem lw_p15 : lw_okq (⟨"Linkwitness$Machine", "isClass", "(I)Z"⟩, 6) := ⟨⟨by decide +kernel, by decide +kernel⟩, List.mem_of_getElem? (i := 155) (by decide +kernel), List.mem_of_getElem? (i := 667) (by decide +kernel), List.mem_of_getElem? (i := 668) (by decide +kernel)⟩
def lw_privs_1 : List (MethodName × Nat) := [(⟨"java/lang/Throwable", "fillInStackTrace", "(I)Ljava/lang/Throwable;"⟩, 6), (⟨"Linkwitness$Links", "deriveAbove", "(LLinkwitness$Library;)V"⟩, 14), (⟨"Linkwitness$Links", "deriveInterfaceMethods", "(LLinkwitness$Members;)V"⟩, 14), (⟨"Linkwitness$Links", "walkChain", "(LLinkwitness$Library;I)V"⟩, 14), (⟨"Linkwitness$Links", "noteMethods", "(LLinkwitness$Members;II)V"⟩, 14), (⟨"Linkwitness$Links", "nearest", "(I)I"⟩, 14), (⟨"Linkwitness$Links", "lowest", "(I)I"⟩, 14), (⟨"Linkwitness$Links", "deriveFields", "(LLinkwitness$Library;I)V"⟩, 14), (⟨"Linkwitness$Links", "inheritedField", "(III)I"⟩, 14), (⟨"Linkwitness$Links", "deriveUsable", "(LLinkwitness$Library;)V"⟩, 14), (⟨"Linkwitness$Links", "isFarSeen", "(C)Z"⟩, 14), (⟨"Linkwitness$Machine", "aboveFault", "(IZ)C"⟩, 6), (⟨"Linkwitness$Machine", "isBarred", "(II)Z"⟩, 6), (⟨"Linkwitness$Machine", "makingFault", "(I)C"⟩, 6), (⟨"Linkwitness$Machine", "typeFault", "(II)C"⟩, 6), (⟨"Linkwitness$Machine", "isClass", "(I)Z"⟩, 6)]
theorem lw_r1 : ∀ q ∈ lw_privs_1, lw_okq q := List.forall_mem_cons.mpr ⟨lw_p0, List.forall_mem_cons.mpr ⟨lw_p1, List.forall_mem_cons.mpr ⟨lw_p2, List.forall_mem_cons.mpr ⟨lw_p3, List.forall_mem_cons.mpr ⟨lw_p4, List.forall_mem_cons.mpr ⟨lw_p5, List.forall_mem_cons.mpr ⟨lw_p6, List.forall_mem_cons.mpr ⟨lw_p7, List.forall_mem_cons.mpr ⟨lw_p8, List.forall_mem_cons.mpr ⟨lw_p9, List.forall_mem_cons.mpr ⟨lw_p10, List.forall_mem_cons.mpr ⟨lw_p11, List.forall_mem_cons.mpr ⟨lw_p12, List.forall_mem_cons.mpr ⟨lw_p13, List.forall_mem_cons.mpr ⟨lw_p14, List.forall_mem_cons.mpr ⟨lw_p15, fun _ h => absurd h List.not_mem_nil⟩⟩⟩⟩⟩⟩⟩⟩⟩⟩⟩⟩⟩⟩⟩⟩
theorem lw_p16 : lw_okq (⟨"Linkwitness$Machine", "ownUseFault", "(I)C"⟩, 6) := ⟨⟨by decide +kernel, by decide +kernel⟩, List.mem_of_getElem? (i := 155) (by decide +kernel), List.mem_of_getElem? (i := 671) (by decide +kernel), List.mem_of_getElem? (i := 672) (by decide +kernel)⟩
theorem lw_p17 : lw_okq (⟨"Linkwitness$Machine", "useFault", "(ILLinkwitness$Members;III)C"⟩, 6) := ⟨⟨by decide +kernel, by decide +kernel⟩, List.mem_of_getElem? (i := 155) (by decide +kernel), List.mem_of_getElem? (i := 675) (by decide +kernel), List.mem_of_getElem? (i := 676) (by decide +kernel)⟩
theorem lw_p18 : lw_okq (⟨"Linkwitness$Machine", "dispatch", "(III)I"⟩, 6) := ⟨⟨by decide +kernel, by decide +kernel⟩, List.mem_of_getElem? (i := 155) (by decide +kernel), List.mem_of_getElem? (i := 679) (by decide +kernel), List.mem_of_getElem? (i := 680) (by decide +kernel)⟩
theorem lw_p19 : lw_okq (⟨"Linkwitness$Looker", "tryActs", "(Z)V"⟩, 5) := ⟨⟨by decide +kernel, by decide +kernel⟩, List.mem_of_getElem? (i := 63) (by decide +kernel), List.mem_of_getElem? (i := 726) (by decide +kernel), List.mem_of_getElem? (i := 727) (by decide +kernel)⟩
theorem lw_p20 : lw_okq (⟨"Linkwitness$Looker", "worthTrying", "(IZ)I"⟩, 5) := ⟨⟨by decide +kernel, by decide +kernel⟩, List.mem_of_getElem? (i := 63) (by decide +kernel), List.mem_of_getElem? (i := 731) (by decide +kernel), List.mem_of_getElem? (i := 732) (by decide +kernel)⟩
theorem lw_p21 : lw_okq (⟨"Linkwitness$Looker", "keep", "(IIIII)V"⟩, 5) := ⟨⟨by decide +kernel, by decide +kernel⟩, List.mem_of_getElem? (i := 63) (by decide +kernel), List.mem_of_getElem? (i := 746) (by decide +kernel), List.mem_of_getElem? (i := 747) (by decide +kernel)⟩
theorem lw_p22 : lw_okq (⟨"Linkwitness$Looker", "trySize", "(I)V"⟩, 5) := ⟨⟨by decide +kernel, by decide +kernel⟩, List.mem_of_getElem? (i := 63) (by decide +kernel), List.mem_of_getElem? (i := 758) (by decide +kernel), List.mem_of_getElem? (i := 759) (by decide +kernel)⟩
theorem lw_p23 : lw_okq (⟨"Linkwitness", "areFittingsSound", "()Z"⟩, 9) := ⟨⟨by decide +kernel, by decide +kernel⟩, List.mem_of_getElem? (i := 28) (by decide +kernel), List.mem_of_getElem? (i := 794) (by decide +kernel), List.mem_of_getElem? (i := 795) (by decide +kernel)⟩
theorem lw_p24 : lw_okq (⟨"Linkwitness", "doesLeastTell", "(II)Z"⟩, 9) := ⟨⟨by decide +kernel, by decide +kernel⟩, List.mem_of_getElem? (i := 28) (by decide +kernel), List.mem_of_getElem? (i := 798) (by decide +kernel), List.mem_of_getElem? (i := 799) (by decide +kernel)⟩
theorem lw_p25 : lw_okq (⟨"Linkwitness", "doesFittingGoOn", "()Z"⟩, 9) := ⟨⟨by decide +kernel, by decide +kernel⟩, List.mem_of_getElem? (i := 28) (by decide +kernel), List.mem_of_getElem? (i := 802) (by decide +kernel), List.mem_of_getElem? (i := 803) (by decide +kernel)⟩
theorem lw_p26 : lw_okq (⟨"Linkwitness", "areNumbersSound", "()Z"⟩, 9) := ⟨⟨by decide +kernel, by decide +kernel⟩, List.mem_of_getElem? (i := 28) (by decide +kernel), List.mem_of_getElem? (i := 807) (by decide +kernel), List.mem_of_getElem? (i := 808) (by decide +kernel)⟩
theorem lw_p27 : lw_okq (⟨"Linkwitness", "stepOf", "(I)I"⟩, 9) := ⟨⟨by decide +kernel, by decide +kernel⟩, List.mem_of_getElem? (i := 28) (by decide +kernel), List.mem_of_getElem? (i := 811) (by decide +kernel), List.mem_of_getElem? (i := 812) (by decide +kernel)⟩
theorem lw_p28 : lw_okq (⟨"Linkwitness", "numberDue", "(III)I"⟩, 9) := ⟨⟨by decide +kernel, by decide +kernel⟩, List.mem_of_getElem? (i := 28) (by decide +kernel), List.mem_of_getElem? (i := 815) (by decide +kernel), List.mem_of_getElem? (i := 816) (by decide +kernel)⟩
def lw_privs_2 : List (MethodName × Nat) := [(⟨"Linkwitness$Machine", "ownUseFault", "(I)C"⟩, 6), (⟨"Linkwitness$Machine", "useFault", "(ILLinkwitness$Members;III)C"⟩, 6), (⟨"Linkwitness$Machine", "dispatch", "(III)I"⟩, 6), (⟨"Linkwitness$Looker", "tryActs", "(Z)V"⟩, 5), (⟨"Linkwitness$Looker", "worthTrying", "(IZ)I"⟩, 5), (⟨"Linkwitness$Looker", "keep", "(IIIII)V"⟩, 5), (⟨"Linkwitness$Looker", "trySize", "(I)V"⟩, 5), (⟨"Linkwitness", "areFittingsSound", "()Z"⟩, 9), (⟨"Linkwitness", "doesLeastTell", "(II)Z"⟩, 9), (⟨"Linkwitness", "doesFittingGoOn", "()Z"⟩, 9), (⟨"Linkwitness", "areNumbersSound", "()Z"⟩, 9), (⟨"Linkwitness", "stepOf", "(I)I"⟩, 9), (⟨"Linkwitness", "numberDue", "(III)I"⟩, 9)]
theorem lw_r2 : ∀ q ∈ lw_privs_2, lw_okq q := List.forall_mem_cons.mpr ⟨lw_p16, List.forall_mem_cons.mpr ⟨lw_p17, List.forall_mem_cons.mpr ⟨lw_p18, List.forall_mem_cons.mpr ⟨lw_p19, List.forall_mem_cons.mpr ⟨lw_p20, List.forall_mem_cons.mpr ⟨lw_p21, List.forall_mem_cons.mpr ⟨lw_p22, List.forall_mem_cons.mpr ⟨lw_p23, List.forall_mem_cons.mpr ⟨lw_p24, List.forall_mem_cons.mpr ⟨lw_p25, List.forall_mem_cons.mpr ⟨lw_p26, List.forall_mem_cons.mpr ⟨lw_p27, List.forall_mem_cons.mpr ⟨lw_p28, fun _ h => absurd h List.not_mem_nil⟩⟩⟩⟩⟩⟩⟩⟩⟩⟩⟩⟩⟩
def lw_privs : List (MethodName × Nat) := lw_privs_1 ++ (lw_privs_2)
def lw_tbl : List Cond := k2_sels lw_privs ++ tables_1
theorem lw_privs_ok : ∀ q ∈ lw_privs, lw_okq q := by
  show ∀ q ∈ lw_privs_1 ++ (lw_privs_2), lw_okq q
  exact List.forall_mem_append.mpr ⟨lw_r1, lw_r2⟩
-- ===== end of PART A; then your names; then what follows =====
end
section
-- pasted from the claim's printed text: names and field tables
def RX0 : String := "Linkwitness$Client"
def TX0 : u_T := fun k => match k with
  | 0 => ("Linkwitness$Client", "own", "LLinkwitness$Own;", true)
  | 1 => ("Linkwitness$Client", "count", "I", false)
  | 2 => ("Linkwitness$Client", "kinds", "[I", true)
  | 3 => ("Linkwitness$Client", "types", "[I", true)
  | 4 => ("Linkwitness$Client", "members", "[I", true)
  | _ => ("Linkwitness$Client", "objects", "[I", true)
def tyX0 : Nat → FieldType := fun k => match k with
  | 0 => .object "Linkwitness$Own"
  | 1 => .int
  | 2 => .array .int
  | 3 => .array .int
  | 4 => .array .int
  | _ => .array .int
abbrev wsX00 : List Cond := u_ws RX0 TX0 6
theorem nmX0 : ∀ a, a < 6 → ∀ b, b < 6 → a ≠ b → (TX0 a).2.1 ≠ (TX0 b).2.1 := by decide +kernel
theorem tyX0_ok : ∀ k, k < 6 → parseFieldDescriptor (TX0 k).2.2.1 = some (tyX0 k) := by decide +kernel
abbrev cX0_init : ByteArray := prog_2_method_1_code
def yX0_init : MethodName := ⟨RX0, "<init>", "()V"⟩
abbrev cX0_clear : ByteArray := prog_2_method_2_code
def yX0_clear : MethodName := ⟨RX0, "clear", "()V"⟩
abbrev cX0_add : ByteArray := prog_2_method_3_code
def yX0_add : MethodName := ⟨RX0, "add", "(IIII)V"⟩
abbrev cX0_become : ByteArray := prog_2_method_4_code
def yX0_become : MethodName := ⟨RX0, "become", "(LLinkwitness$Client;)V"⟩
def RX1 : String := "Linkwitness$Laws"
def TX1 : u_T := fun k => match k with
  | _ => ("", "", "", false)
def tyX1 : Nat → FieldType := fun k => match k with
  | _ => .int
abbrev wsX10 : List Cond := u_ws RX1 TX1 0
theorem nmX1 : ∀ a, a < 0 → ∀ b, b < 0 → a ≠ b → (TX1 a).2.1 ≠ (TX1 b).2.1 := by decide +kernel
theorem tyX1_ok : ∀ k, k < 0 → parseFieldDescriptor (TX1 k).2.2.1 = some (tyX1 k) := by decide +kernel
abbrev cX1_firstBroken : ByteArray := prog_3_method_2_code
def yX1_firstBroken : MethodName := ⟨RX1, "firstBroken", "(LLinkwitness$Library;LLinkwitness$Links;)I"⟩
abbrev cX1_brokenBy : ByteArray := prog_3_method_3_code
def yX1_brokenBy : MethodName := ⟨RX1, "brokenBy", "(LLinkwitness$Library;LLinkwitness$Links;I)I"⟩
abbrev cX1_isBadlyMade : ByteArray := prog_3_method_4_code
def yX1_isBadlyMade : MethodName := ⟨RX1, "isBadlyMade", "(LLinkwitness$Library;I)Z"⟩
abbrev cX1_hasWrongMember : ByteArray := prog_3_method_5_code
def yX1_hasWrongMember : MethodName := ⟨RX1, "hasWrongMember", "(LLinkwitness$Library;I)Z"⟩
abbrev cX1_hasWrongAbstract : ByteArray := prog_3_method_6_code
def yX1_hasWrongAbstract : MethodName := ⟨RX1, "hasWrongAbstract", "(LLinkwitness$Library;I)Z"⟩
abbrev cX1_standsWrongly : ByteArray := prog_3_method_7_code
def yX1_standsWrongly : MethodName := ⟨RX1, "standsWrongly", "(LLinkwitness$Library;I)Z"⟩
abbrev cX1_clashes : ByteArray := prog_3_method_8_code
def yX1_clashes : MethodName := ⟨RX1, "clashes", "(LLinkwitness$Members;II)Z"⟩
abbrev cX1_hidesInterface : ByteArray := prog_3_method_9_code
def yX1_hidesInterface : MethodName := ⟨RX1, "hidesInterface", "(LLinkwitness$Library;LLinkwitness$Links;I)Z"⟩
abbrev cX1_lacksMethod : ByteArray := prog_3_method_10_code
def yX1_lacksMethod : MethodName := ⟨RX1, "lacksMethod", "(LLinkwitness$Links;I)Z"⟩
def RX2 : String := "Linkwitness$Library"
def TX2 : u_T := fun k => match k with
  | 0 => ("Linkwitness$Library", "kind", "[C", true)
  | 1 => ("Linkwitness$Library", "isOpen", "[Z", true)
  | 2 => ("Linkwitness$Library", "isAbstract", "[Z", true)
  | 3 => ("Linkwitness$Library", "isFinal", "[Z", true)
  | 4 => ("Linkwitness$Library", "maker", "[C", true)
  | 5 => ("Linkwitness$Library", "superclass", "[I", true)
  | 6 => ("Linkwitness$Library", "interfaces", "[I", true)
  | 7 => ("Linkwitness$Library", "methods", "LLinkwitness$Members;", true)
  | _ => ("Linkwitness$Library", "fields", "LLinkwitness$Members;", true)
def tyX2 : Nat → FieldType := fun k => match k with
  | 0 => .array .char
  | 1 => .array .boolean
  | 2 => .array .boolean
  | 3 => .array .boolean
  | 4 => .array .char
  | 5 => .array .int
  | 6 => .array .int
  | 7 => .object "Linkwitness$Members"
  | _ => .object "Linkwitness$Members"
abbrev wsX20 : List Cond := u_ws RX2 TX2 9
theorem nmX2 : ∀ a, a < 9 → ∀ b, b < 9 → a ≠ b → (TX2 a).2.1 ≠ (TX2 b).2.1 := by decide +kernel
theorem tyX2_ok : ∀ k, k < 9 → parseFieldDescriptor (TX2 k).2.2.1 = some (tyX2 k) := by decide +kernel
abbrev cX2_init : ByteArray := prog_4_method_1_code
def yX2_init : MethodName := ⟨RX2, "<init>", "()V"⟩
abbrev cX2_renew : ByteArray := prog_4_method_2_code
def yX2_renew : MethodName := ⟨RX2, "renew", "(IC)V"⟩
abbrev cX2_become : ByteArray := prog_4_method_3_code
def yX2_become : MethodName := ⟨RX2, "become", "(LLinkwitness$Library;)V"⟩
abbrev cX2_flagsOf : ByteArray := prog_4_method_4_code
def yX2_flagsOf : MethodName := ⟨RX2, "flagsOf", "(C)[Z"⟩
abbrev cX2_typeCount : ByteArray := prog_4_method_5_code
def yX2_typeCount : MethodName := ⟨RX2, "typeCount", "()I"⟩
def RX3 : String := "Linkwitness$Links"
def TX3 : u_T := fun k => match k with
  | 0 => ("Linkwitness$Links", "there", "I", false)
  | 1 => ("Linkwitness$Links", "classes", "I", false)
  | 2 => ("Linkwitness$Links", "aboveOf", "[I", true)
  | 3 => ("Linkwitness$Links", "firstIn", "[I", true)
  | 4 => ("Linkwitness$Links", "seenIn", "[I", true)
  | 5 => ("Linkwitness$Links", "instanceIn", "[I", true)
  | 6 => ("Linkwitness$Links", "bodyIn", "[I", true)
  | 7 => ("Linkwitness$Links", "resolvedIn", "[I", true)
  | 8 => ("Linkwitness$Links", "selectedIn", "[I", true)
  | 9 => ("Linkwitness$Links", "fieldIn", "[I", true)
  | 10 => ("Linkwitness$Links", "knownMethods", "I", false)
  | 11 => ("Linkwitness$Links", "extendable", "I", false)
  | 12 => ("Linkwitness$Links", "implementable", "I", false)
  | _ => ("Linkwitness$Links", "usable", "[I", true)
def tyX3 : Nat → FieldType := fun k => match k with
  | 0 => .int
  | 1 => .int
  | 2 => .array .int
  | 3 => .array .int
  | 4 => .array .int
  | 5 => .array .int
  | 6 => .array .int
  | 7 => .array .int
  | 8 => .array .int
  | 9 => .array .int
  | 10 => .int
  | 11 => .int
  | 12 => .int
  | _ => .array .int
abbrev wsX30 : List Cond := u_ws RX3 TX3 14
theorem nmX3 : ∀ a, a < 14 → ∀ b, b < 14 → a ≠ b → (TX3 a).2.1 ≠ (TX3 b).2.1 := by decide +kernel
theorem tyX3_ok : ∀ k, k < 14 → parseFieldDescriptor (TX3 k).2.2.1 = some (tyX3 k) := by decide +kernel
abbrev cX3_init : ByteArray := prog_5_method_1_code
def yX3_init : MethodName := ⟨RX3, "<init>", "()V"⟩
abbrev cX3_derive : ByteArray := prog_5_method_2_code
def yX3_derive : MethodName := ⟨RX3, "derive", "(LLinkwitness$Library;)V"⟩
abbrev cX3_deriveAbove : ByteArray := prog_5_method_3_code
def yX3_deriveAbove : MethodName := ⟨RX3, "deriveAbove", "(LLinkwitness$Library;)V"⟩
abbrev cX3_deriveInterfaceMethods : ByteArray := prog_5_method_4_code
def yX3_deriveInterfaceMethods : MethodName := ⟨RX3, "deriveInterfaceMethods", "(LLinkwitness$Members;)V"⟩
abbrev cX3_walkChain : ByteArray := prog_5_method_5_code
def yX3_walkChain : MethodName := ⟨RX3, "walkChain", "(LLinkwitness$Library;I)V"⟩
abbrev cX3_noteMethods : ByteArray := prog_5_method_6_code
def yX3_noteMethods : MethodName := ⟨RX3, "noteMethods", "(LLinkwitness$Members;II)V"⟩
abbrev cX3_deriveChoices : ByteArray := prog_5_method_7_code
def yX3_deriveChoices : MethodName := ⟨RX3, "deriveChoices", "(LLinkwitness$Library;I)V"⟩
abbrev cX3_nearest : ByteArray := prog_5_method_8_code
def yX3_nearest : MethodName := ⟨RX3, "nearest", "(I)I"⟩
abbrev cX3_lowest : ByteArray := prog_5_method_9_code
def yX3_lowest : MethodName := ⟨RX3, "lowest", "(I)I"⟩
abbrev cX3_deriveLawful : ByteArray := prog_5_method_10_code
def yX3_deriveLawful : MethodName := ⟨RX3, "deriveLawful", "(LLinkwitness$Library;)V"⟩
abbrev cX3_deriveFields : ByteArray := prog_5_method_11_code
def yX3_deriveFields : MethodName := ⟨RX3, "deriveFields", "(LLinkwitness$Library;I)V"⟩
abbrev cX3_inheritedField : ByteArray := prog_5_method_12_code
def yX3_inheritedField : MethodName := ⟨RX3, "inheritedField", "(III)I"⟩
abbrev cX3_deriveUsable : ByteArray := prog_5_method_13_code
def yX3_deriveUsable : MethodName := ⟨RX3, "deriveUsable", "(LLinkwitness$Library;)V"⟩
abbrev cX3_isFarSeen : ByteArray := prog_5_method_14_code
def yX3_isFarSeen : MethodName := ⟨RX3, "isFarSeen", "(C)Z"⟩
abbrev cX3_seat : ByteArray := prog_5_method_15_code
def yX3_seat : MethodName := ⟨RX3, "seat", "(LLinkwitness$Own;)V"⟩
def RX4 : String := "Linkwitness$Looker"
def TX4 : u_T := fun k => match k with
  | 0 => ("Linkwitness$Looker", "least", "LLinkwitness$Client;", true)
  | 1 => ("Linkwitness$Looker", "trial", "LLinkwitness$Own;", true)
  | 2 => ("Linkwitness$Looker", "old", "LLinkwitness$Machine;", false)
  | 3 => ("Linkwitness$Looker", "later", "LLinkwitness$Machine;", false)
  | _ => ("Linkwitness$Looker", "leastCode", "I", false)
def tyX4 : Nat → FieldType := fun k => match k with
  | 0 => .object "Linkwitness$Client"
  | 1 => .object "Linkwitness$Own"
  | 2 => .object "Linkwitness$Machine"
  | 3 => .object "Linkwitness$Machine"
  | _ => .int
abbrev wsX40 : List Cond := u_ws RX4 TX4 5
theorem nmX4 : ∀ a, a < 5 → ∀ b, b < 5 → a ≠ b → (TX4 a).2.1 ≠ (TX4 b).2.1 := by decide +kernel
theorem tyX4_ok : ∀ k, k < 5 → parseFieldDescriptor (TX4 k).2.2.1 = some (tyX4 k) := by decide +kernel
abbrev cX4_init : ByteArray := prog_6_method_1_code
def yX4_init : MethodName := ⟨RX4, "<init>", "()V"⟩
abbrev cX4_find : ByteArray := prog_6_method_2_code
def yX4_find : MethodName := ⟨RX4, "find", "(LLinkwitness$Machine;LLinkwitness$Machine;)I"⟩
abbrev cX4_trySize : ByteArray := prog_6_method_3_code
def yX4_trySize : MethodName := ⟨RX4, "trySize", "(I)V"⟩
abbrev cX4_tryActs : ByteArray := prog_6_method_4_code
def yX4_tryActs : MethodName := ⟨RX4, "tryActs", "(Z)V"⟩
abbrev cX4_worthTrying : ByteArray := prog_6_method_5_code
def yX4_worthTrying : MethodName := ⟨RX4, "worthTrying", "(IZ)I"⟩
abbrev cX4_keep : ByteArray := prog_6_method_6_code
def yX4_keep : MethodName := ⟨RX4, "keep", "(IIIII)V"⟩
def RX5 : String := "Linkwitness$Machine"
def TX5 : u_T := fun k => match k with
  | 0 => ("Linkwitness$Machine", "library", "LLinkwitness$Library;", true)
  | 1 => ("Linkwitness$Machine", "links", "LLinkwitness$Links;", true)
  | 2 => ("Linkwitness$Machine", "isReady", "Z", false)
  | 3 => ("Linkwitness$Machine", "lawCode", "I", false)
  | 4 => ("Linkwitness$Machine", "hasGuest", "Z", false)
  | _ => ("Linkwitness$Machine", "guestSuperclass", "I", false)
def tyX5 : Nat → FieldType := fun k => match k with
  | 0 => .object "Linkwitness$Library"
  | 1 => .object "Linkwitness$Links"
  | 2 => .boolean
  | 3 => .int
  | 4 => .boolean
  | _ => .int
abbrev wsX50 : List Cond := u_ws RX5 TX5 6
theorem nmX5 : ∀ a, a < 6 → ∀ b, b < 6 → a ≠ b → (TX5 a).2.1 ≠ (TX5 b).2.1 := by decide +kernel
theorem tyX5_ok : ∀ k, k < 6 → parseFieldDescriptor (TX5 k).2.2.1 = some (tyX5 k) := by decide +kernel
abbrev cX5_init : ByteArray := prog_7_method_1_code
def yX5_init : MethodName := ⟨RX5, "<init>", "()V"⟩
abbrev cX5_changed : ByteArray := prog_7_method_2_code
def yX5_changed : MethodName := ⟨RX5, "changed", "()V"⟩
abbrev cX5_become : ByteArray := prog_7_method_3_code
def yX5_become : MethodName := ⟨RX5, "become", "(LLinkwitness$Machine;)V"⟩
abbrev cX5_law : ByteArray := prog_7_method_4_code
def yX5_law : MethodName := ⟨RX5, "law", "()I"⟩
abbrev cX5_load : ByteArray := prog_7_method_5_code
def yX5_load : MethodName := ⟨RX5, "load", "(LLinkwitness$Own;)C"⟩
abbrev cX5_mayBeAbove : ByteArray := prog_7_method_6_code
def yX5_mayBeAbove : MethodName := ⟨RX5, "mayBeAbove", "(II)Z"⟩
abbrev cX5_aboveFault : ByteArray := prog_7_method_7_code
def yX5_aboveFault : MethodName := ⟨RX5, "aboveFault", "(IZ)C"⟩
abbrev cX5_isBarred : ByteArray := prog_7_method_8_code
def yX5_isBarred : MethodName := ⟨RX5, "isBarred", "(II)Z"⟩
abbrev cX5_perform : ByteArray := prog_7_method_9_code
def yX5_perform : MethodName := ⟨RX5, "perform", "(IIII)I"⟩
abbrev cX5_isClass : ByteArray := prog_7_method_10_code
def yX5_isClass : MethodName := ⟨RX5, "isClass", "(I)Z"⟩
abbrev cX5_makingFault : ByteArray := prog_7_method_11_code
def yX5_makingFault : MethodName := ⟨RX5, "makingFault", "(I)C"⟩
abbrev cX5_typeFault : ByteArray := prog_7_method_12_code
def yX5_typeFault : MethodName := ⟨RX5, "typeFault", "(II)C"⟩
abbrev cX5_ownUseFault : ByteArray := prog_7_method_13_code
def yX5_ownUseFault : MethodName := ⟨RX5, "ownUseFault", "(I)C"⟩
abbrev cX5_useFault : ByteArray := prog_7_method_14_code
def yX5_useFault : MethodName := ⟨RX5, "useFault", "(ILLinkwitness$Members;III)C"⟩
abbrev cX5_dispatch : ByteArray := prog_7_method_15_code
def yX5_dispatch : MethodName := ⟨RX5, "dispatch", "(III)I"⟩
def RX6 : String := "Linkwitness$Members"
def TX6 : u_T := fun k => match k with
  | 0 => ("Linkwitness$Members", "sight", "[C", true)
  | 1 => ("Linkwitness$Members", "kind", "[C", true)
  | _ => ("Linkwitness$Members", "number", "[I", true)
def tyX6 : Nat → FieldType := fun k => match k with
  | 0 => .array .char
  | 1 => .array .char
  | _ => .array .int
abbrev wsX60 : List Cond := u_ws RX6 TX6 3
theorem nmX6 : ∀ a, a < 3 → ∀ b, b < 3 → a ≠ b → (TX6 a).2.1 ≠ (TX6 b).2.1 := by decide +kernel
theorem tyX6_ok : ∀ k, k < 3 → parseFieldDescriptor (TX6 k).2.2.1 = some (tyX6 k) := by decide +kernel
abbrev cX6_init : ByteArray := prog_8_method_1_code
def yX6_init : MethodName := ⟨RX6, "<init>", "()V"⟩
abbrev cX6_put : ByteArray := prog_8_method_2_code
def yX6_put : MethodName := ⟨RX6, "put", "(ICCI)C"⟩
abbrev cX6_clear : ByteArray := prog_8_method_3_code
def yX6_clear : MethodName := ⟨RX6, "clear", "(I)V"⟩
abbrev cX6_become : ByteArray := prog_8_method_4_code
def yX6_become : MethodName := ⟨RX6, "become", "(LLinkwitness$Members;)V"⟩
def RX7 : String := "Linkwitness$Own"
def TX7 : u_T := fun k => match k with
  | 0 => ("Linkwitness$Own", "isThere", "Z", false)
  | 1 => ("Linkwitness$Own", "superclass", "I", false)
  | 2 => ("Linkwitness$Own", "interfaces", "I", false)
  | _ => ("Linkwitness$Own", "member", "I", false)
def tyX7 : Nat → FieldType := fun k => match k with
  | 0 => .boolean
  | 1 => .int
  | 2 => .int
  | _ => .int
abbrev wsX70 : List Cond := u_ws RX7 TX7 4
theorem nmX7 : ∀ a, a < 4 → ∀ b, b < 4 → a ≠ b → (TX7 a).2.1 ≠ (TX7 b).2.1 := by decide +kernel
theorem tyX7_ok : ∀ k, k < 4 → parseFieldDescriptor (TX7 k).2.2.1 = some (tyX7 k) := by decide +kernel
abbrev cX7_init : ByteArray := prog_9_method_1_code
def yX7_init : MethodName := ⟨RX7, "<init>", "()V"⟩
abbrev cX7_clear : ByteArray := prog_9_method_2_code
def yX7_clear : MethodName := ⟨RX7, "clear", "()V"⟩
abbrev cX7_become : ByteArray := prog_9_method_3_code
def yX7_become : MethodName := ⟨RX7, "become", "(LLinkwitness$Own;)V"⟩
abbrev cX7_set : ByteArray := prog_9_method_4_code
def yX7_set : MethodName := ⟨RX7, "set", "(III)V"⟩
def RX8 : String := "Linkwitness$Run"
def TX8 : u_T := fun k => match k with
  | 0 => ("Linkwitness$Run", "wasMade", "Z", false)
  | 1 => ("Linkwitness$Run", "went", "I", false)
  | 2 => ("Linkwitness$Run", "broke", "C", false)
  | _ => ("Linkwitness$Run", "told", "[I", true)
def tyX8 : Nat → FieldType := fun k => match k with
  | 0 => .boolean
  | 1 => .int
  | 2 => .char
  | _ => .array .int
abbrev wsX80 : List Cond := u_ws RX8 TX8 4
theorem nmX8 : ∀ a, a < 4 → ∀ b, b < 4 → a ≠ b → (TX8 a).2.1 ≠ (TX8 b).2.1 := by decide +kernel
theorem tyX8_ok : ∀ k, k < 4 → parseFieldDescriptor (TX8 k).2.2.1 = some (tyX8 k) := by decide +kernel
abbrev cX8_init : ByteArray := prog_10_method_1_code
def yX8_init : MethodName := ⟨RX8, "<init>", "()V"⟩
abbrev cX8_follow : ByteArray := prog_10_method_2_code
def yX8_follow : MethodName := ⟨RX8, "follow", "(LLinkwitness$Client;LLinkwitness$Machine;)V"⟩
def RX9 : String := "Linkwitness"
def TX9 : u_T := fun k => match k with
  | 0 => ("Linkwitness", "libraries", "[LLinkwitness$Machine;", true)
  | 1 => ("Linkwitness", "clients", "[LLinkwitness$Client;", true)
  | 2 => ("Linkwitness", "released", "[LLinkwitness$Machine;", true)
  | 3 => ("Linkwitness", "numbers", "[I", true)
  | 4 => ("Linkwitness", "lastRun", "LLinkwitness$Run;", true)
  | 5 => ("Linkwitness", "trialRun", "LLinkwitness$Run;", true)
  | 6 => ("Linkwitness", "looker", "LLinkwitness$Looker;", true)
  | 7 => ("Linkwitness", "fitting", "[I", true)
  | _ => ("Linkwitness", "releaseCount", "I", false)
def tyX9 : Nat → FieldType := fun k => match k with
  | 0 => .array (.object "Linkwitness$Machine")
  | 1 => .array (.object "Linkwitness$Client")
  | 2 => .array (.object "Linkwitness$Machine")
  | 3 => .array .int
  | 4 => .object "Linkwitness$Run"
  | 5 => .object "Linkwitness$Run"
  | 6 => .object "Linkwitness$Looker"
  | 7 => .array .int
  | _ => .int
abbrev wsX90 : List Cond := u_ws RX9 TX9 9
theorem nmX9 : ∀ a, a < 9 → ∀ b, b < 9 → a ≠ b → (TX9 a).2.1 ≠ (TX9 b).2.1 := by decide +kernel
theorem tyX9_ok : ∀ k, k < 9 → parseFieldDescriptor (TX9 k).2.2.1 = some (tyX9 k) := by decide +kernel
abbrev cX9_init : ByteArray := prog_1_method_1_code
def yX9_init : MethodName := ⟨RX9, "<init>", "()V"⟩
abbrev cX9_type : ByteArray := prog_1_method_2_code
def yX9_type : MethodName := ⟨RX9, "type", "(ICC)C"⟩
abbrev cX9_flag : ByteArray := prog_1_method_3_code
def yX9_flag : MethodName := ⟨RX9, "flag", "(ICCZ)Z"⟩
abbrev cX9_above : ByteArray := prog_1_method_4_code
def yX9_above : MethodName := ⟨RX9, "above", "(ICC)C"⟩
abbrev cX9_maker : ByteArray := prog_1_method_5_code
def yX9_maker : MethodName := ⟨RX9, "maker", "(ICC)C"⟩
abbrev cX9_under : ByteArray := prog_1_method_6_code
def yX9_under : MethodName := ⟨RX9, "under", "(ICCZ)Z"⟩
abbrev cX9_method : ByteArray := prog_1_method_7_code
def yX9_method : MethodName := ⟨RX9, "method", "(ICCICCI)C"⟩
abbrev cX9_field : ByteArray := prog_1_method_8_code
def yX9_field : MethodName := ⟨RX9, "field", "(ICCICCI)C"⟩
abbrev cX9_copy : ByteArray := prog_1_method_10_code
def yX9_copy : MethodName := ⟨RX9, "copy", "(II)I"⟩
abbrev cX9_check : ByteArray := prog_1_method_11_code
def yX9_check : MethodName := ⟨RX9, "check", "(I)I"⟩
abbrev cX9_wipe : ByteArray := prog_1_method_14_code
def yX9_wipe : MethodName := ⟨RX9, "wipe", "(I)I"⟩
abbrev cX9_own : ByteArray := prog_1_method_15_code
def yX9_own : MethodName := ⟨RX9, "own", "(IZ)Z"⟩
abbrev cX9_ownAbove : ByteArray := prog_1_method_16_code
def yX9_ownAbove : MethodName := ⟨RX9, "ownAbove", "(IC)C"⟩
abbrev cX9_ownUnder : ByteArray := prog_1_method_17_code
def yX9_ownUnder : MethodName := ⟨RX9, "ownUnder", "(ICZ)Z"⟩
abbrev cX9_ownMethod : ByteArray := prog_1_method_18_code
def yX9_ownMethod : MethodName := ⟨RX9, "ownMethod", "(ICI)C"⟩
abbrev cX9_act : ByteArray := prog_1_method_19_code
def yX9_act : MethodName := ⟨RX9, "act", "(ICCCIC)I"⟩
abbrev cX9_run : ByteArray := prog_1_method_21_code
def yX9_run : MethodName := ⟨RX9, "run", "(II)I"⟩
abbrev cX9_fault : ByteArray := prog_1_method_22_code
def yX9_fault : MethodName := ⟨RX9, "fault", "()C"⟩
abbrev cX9_fits : ByteArray := prog_1_method_24_code
def yX9_fits : MethodName := ⟨RX9, "fits", "(II)Z"⟩
abbrev cX9_witness : ByteArray := prog_1_method_25_code
def yX9_witness : MethodName := ⟨RX9, "witness", "(III)I"⟩
abbrev cX9_isSound : ByteArray := prog_1_method_34_code
def yX9_isSound : MethodName := ⟨RX9, "isSound", "()Z"⟩
abbrev cX9_areFittingsSound : ByteArray := prog_1_method_35_code
def yX9_areFittingsSound : MethodName := ⟨RX9, "areFittingsSound", "()Z"⟩
abbrev cX9_doesLeastTell : ByteArray := prog_1_method_36_code
def yX9_doesLeastTell : MethodName := ⟨RX9, "doesLeastTell", "(II)Z"⟩
abbrev cX9_doesFittingGoOn : ByteArray := prog_1_method_37_code
def yX9_doesFittingGoOn : MethodName := ⟨RX9, "doesFittingGoOn", "()Z"⟩
abbrev cX9_areNumbersSound : ByteArray := prog_1_method_38_code
def yX9_areNumbersSound : MethodName := ⟨RX9, "areNumbersSound", "()Z"⟩
abbrev cX9_stepOf : ByteArray := prog_1_method_39_code
def yX9_stepOf : MethodName := ⟨RX9, "stepOf", "(I)I"⟩
abbrev cX9_numberDue : ByteArray := prog_1_method_40_code
def yX9_numberDue : MethodName := ⟨RX9, "numberDue", "(III)I"⟩
abbrev cX9_needPlace : ByteArray := prog_1_method_41_code
def yX9_needPlace : MethodName := ⟨RX9, "needPlace", "(II)V"⟩
abbrev cX9_needRange : ByteArray := prog_1_method_42_code
def yX9_needRange : MethodName := ⟨RX9, "needRange", "(Z)V"⟩
abbrev cX9_needThere : ByteArray := prog_1_method_43_code
def yX9_needThere : MethodName := ⟨RX9, "needThere", "(LLinkwitness$Machine;C)V"⟩
abbrev cX9_needElement : ByteArray := prog_1_method_44_code
def yX9_needElement : MethodName := ⟨RX9, "needElement", "(Z)V"⟩
abbrev cX9_needSupport : ByteArray := prog_1_method_45_code
def yX9_needSupport : MethodName := ⟨RX9, "needSupport", "(Z)V"⟩
abbrev cX9_needState : ByteArray := prog_1_method_46_code
def yX9_needState : MethodName := ⟨RX9, "needState", "(Z)V"⟩
abbrev cX9_isType : ByteArray := prog_1_method_48_code
def yX9_isType : MethodName := ⟨RX9, "isType", "(C)Z"⟩
abbrev cX9_isMember : ByteArray := prog_1_method_49_code
def yX9_isMember : MethodName := ⟨RX9, "isMember", "(CI)Z"⟩
abbrev cX9_isSight : ByteArray := prog_1_method_50_code
def yX9_isSight : MethodName := ⟨RX9, "isSight", "(C)Z"⟩
abbrev cX9_sightRank : ByteArray := prog_1_method_51_code
def yX9_sightRank : MethodName := ⟨RX9, "sightRank", "(C)I"⟩
abbrev cX9_memberIndex : ByteArray := prog_1_method_52_code
def yX9_memberIndex : MethodName := ⟨RX9, "memberIndex", "(CI)I"⟩
abbrev cX9_memberPlace : ByteArray := prog_1_method_53_code
def yX9_memberPlace : MethodName := ⟨RX9, "memberPlace", "(CCI)I"⟩
abbrev cX9_rowOf : ByteArray := prog_1_method_54_code
def yX9_rowOf : MethodName := ⟨RX9, "rowOf", "(C)I"⟩
abbrev cX9_letter : ByteArray := prog_1_method_55_code
def yX9_letter : MethodName := ⟨RX9, "letter", "(I)C"⟩
abbrev cX9_nameOf : ByteArray := prog_1_method_56_code
def yX9_nameOf : MethodName := ⟨RX9, "nameOf", "(I)C"⟩
abbrev cX9_kindIndex : ByteArray := prog_1_method_58_code
def yX9_kindIndex : MethodName := ⟨RX9, "kindIndex", "(C)I"⟩
abbrev cX9_hasType : ByteArray := prog_1_method_59_code
def yX9_hasType : MethodName := ⟨RX9, "hasType", "(I)Z"⟩
abbrev cX9_hasMember : ByteArray := prog_1_method_60_code
def yX9_hasMember : MethodName := ⟨RX9, "hasMember", "(I)Z"⟩
abbrev cX9_hasObject : ByteArray := prog_1_method_61_code
def yX9_hasObject : MethodName := ⟨RX9, "hasObject", "(I)Z"⟩
abbrev cX9_isCall : ByteArray := prog_1_method_62_code
def yX9_isCall : MethodName := ⟨RX9, "isCall", "(I)Z"⟩
abbrev cX9_has : ByteArray := prog_1_method_63_code
def yX9_has : MethodName := ⟨RX9, "has", "(II)Z"⟩
abbrev cX9_with : ByteArray := prog_1_method_64_code
def yX9_with : MethodName := ⟨RX9, "with", "(IIZ)I"⟩
def RX10 : String := "LinkwitnessModel$Act"
def TX10 : u_T := fun k => match k with
  | _ => ("", "", "", false)
def tyX10 : Nat → FieldType := fun k => match k with
  | _ => .int
def RX11 : String := "LinkwitnessModel$Client"
def TX11 : u_T := fun k => match k with
  | _ => ("", "", "", false)
def tyX11 : Nat → FieldType := fun k => match k with
  | _ => .int
def RX12 : String := "LinkwitnessModel$Library"
def TX12 : u_T := fun k => match k with
  | _ => ("", "", "", false)
def tyX12 : Nat → FieldType := fun k => match k with
  | _ => .int
def RX13 : String := "LinkwitnessModel$Own"
def TX13 : u_T := fun k => match k with
  | _ => ("", "", "", false)
def tyX13 : Nat → FieldType := fun k => match k with
  | _ => .int
def RX14 : String := "LinkwitnessModel$Type"
def TX14 : u_T := fun k => match k with
  | _ => ("", "", "", false)
def tyX14 : Nat → FieldType := fun k => match k with
  | _ => .int
def RX15 : String := "LinkwitnessModel"
def TX15 : u_T := fun k => match k with
  | _ => ("", "", "", false)
def tyX15 : Nat → FieldType := fun k => match k with
  | _ => .int
def RJ6 : String := "java/lang/Integer"
abbrev cJ6_bitCount_0f7a4 : ByteArray := prog_26_method_49_code
def yJ6_bitCount_0f7a4 : MethodName := ⟨RJ6, "bitCount", "(I)I"⟩
def RJ0 : String := "java/lang/String"
abbrev cJ0_charAt_5068e : ByteArray := prog_28_method_56_code
def yJ0_charAt_5068e : MethodName := ⟨RJ0, "charAt", "(I)C"⟩
abbrev cJ0_isLatin1_aae02 : ByteArray := prog_28_method_154_code
def yJ0_isLatin1_aae02 : MethodName := ⟨RJ0, "isLatin1", "()Z"⟩
abbrev cJ0_checkIndex_df160 : ByteArray := prog_28_method_155_code
def yJ0_checkIndex_df160 : MethodName := ⟨RJ0, "checkIndex", "(II)V"⟩
def RJ2 : String := "java/lang/StringUTF16"
def RJ7 : String := "java/util/Arrays"
abbrev cJ7_fill_53178 : ByteArray := prog_36_method_103_code
def yJ7_fill_53178 : MethodName := ⟨RJ7, "fill", "([II)V"⟩
def RL : String := "LinkwitnessLaw"
abbrev cL_cell : ByteArray := method_2_code
def yL_cell : MethodName := ⟨RL, "cell", "([II)I"⟩
abbrev cL_chosen : ByteArray := method_3_code
def yL_chosen : MethodName := ⟨RL, "chosen", "(II)I"⟩
abbrev cL_type : ByteArray := method_4_code
def yL_type : MethodName := ⟨RL, "type", "(LLinkwitness;ICC)J"⟩
abbrev cL_flag : ByteArray := method_5_code
def yL_flag : MethodName := ⟨RL, "flag", "(LLinkwitness;ICCZ)J"⟩
abbrev cL_above : ByteArray := method_6_code
def yL_above : MethodName := ⟨RL, "above", "(LLinkwitness;ICC)J"⟩
abbrev cL_maker : ByteArray := method_7_code
def yL_maker : MethodName := ⟨RL, "maker", "(LLinkwitness;ICC)J"⟩
abbrev cL_under : ByteArray := method_8_code
def yL_under : MethodName := ⟨RL, "under", "(LLinkwitness;ICCZ)J"⟩
abbrev cL_method : ByteArray := method_9_code
def yL_method : MethodName := ⟨RL, "method", "(LLinkwitness;ICCICCI)J"⟩
abbrev cL_field : ByteArray := method_10_code
def yL_field : MethodName := ⟨RL, "field", "(LLinkwitness;ICCICCI)J"⟩
abbrev cL_copy : ByteArray := method_11_code
def yL_copy : MethodName := ⟨RL, "copy", "(LLinkwitness;II)J"⟩
abbrev cL_check : ByteArray := method_12_code
def yL_check : MethodName := ⟨RL, "check", "(LLinkwitness;I)J"⟩
abbrev cL_wipe : ByteArray := method_13_code
def yL_wipe : MethodName := ⟨RL, "wipe", "(LLinkwitness;I)J"⟩
abbrev cL_own : ByteArray := method_14_code
def yL_own : MethodName := ⟨RL, "own", "(LLinkwitness;IZ)J"⟩
abbrev cL_ownAbove : ByteArray := method_15_code
def yL_ownAbove : MethodName := ⟨RL, "ownAbove", "(LLinkwitness;IC)J"⟩
abbrev cL_ownUnder : ByteArray := method_16_code
def yL_ownUnder : MethodName := ⟨RL, "ownUnder", "(LLinkwitness;ICZ)J"⟩
abbrev cL_ownMethod : ByteArray := method_17_code
def yL_ownMethod : MethodName := ⟨RL, "ownMethod", "(LLinkwitness;ICI)J"⟩
abbrev cL_act : ByteArray := method_18_code
def yL_act : MethodName := ⟨RL, "act", "(LLinkwitness;ICCCIC)J"⟩
abbrev cL_run : ByteArray := method_19_code
def yL_run : MethodName := ⟨RL, "run", "(LLinkwitness;II)J"⟩
abbrev cL_fault : ByteArray := method_20_code
def yL_fault : MethodName := ⟨RL, "fault", "(LLinkwitness;)J"⟩
abbrev cL_fits : ByteArray := method_21_code
def yL_fits : MethodName := ⟨RL, "fits", "(LLinkwitness;II)J"⟩
abbrev cL_witness : ByteArray := method_22_code
def yL_witness : MethodName := ⟨RL, "witness", "(LLinkwitness;III)J"⟩
abbrev cL_isSound : ByteArray := method_25_code
def yL_isSound : MethodName := ⟨RL, "isSound", "(LLinkwitness;)J"⟩
abbrev cL_makes : ByteArray := method_26_code
def yL_makes : MethodName := ⟨RL, "makes", "(LLinkwitness;I[II)V"⟩
abbrev cL_changes : ByteArray := method_27_code
def yL_changes : MethodName := ⟨RL, "changes", "(LLinkwitness;II)V"⟩
abbrev cL_isMended : ByteArray := method_28_code
def yL_isMended : MethodName := ⟨RL, "isMended", "(LLinkwitness;I)Z"⟩
abbrev cL_asks : ByteArray := method_29_code
def yL_asks : MethodName := ⟨RL, "asks", "(LLinkwitness;I[III)I"⟩
abbrev cL_law : ByteArray := code
def yL_law : MethodName := ⟨RL, "law", "([I)Z"⟩
end
section
-- pasted from the claim's printed text: decode rows
theorem dX0_init_0 : decode cX0_init 0 = .ok (.aload_n 0, 1) := by decide +kernel
theorem dX0_init_1 : decode cX0_init 1 = .ok (.invokespecial 3, 3) := by decide +kernel
theorem dX0_init_4 : decode cX0_init 4 = .ok (.aload_n 0, 1) := by decide +kernel
theorem dX0_init_5 : decode cX0_init 5 = .ok (.new 9, 3) := by decide +kernel
theorem dX0_init_8 : decode cX0_init 8 = .ok (.dup, 1) := by decide +kernel
theorem dX0_init_9 : decode cX0_init 9 = .ok (.invokespecial 11, 3) := by decide +kernel
theorem dX0_init_12 : decode cX0_init 12 = .ok (.putfield 12, 3) := by decide +kernel
theorem dX0_init_15 : decode cX0_init 15 = .ok (.aload_n 0, 1) := by decide +kernel
theorem dX0_init_16 : decode cX0_init 16 = .ok (.iconst 0, 1) := by decide +kernel
theorem dX0_init_17 : decode cX0_init 17 = .ok (.putfield 18, 3) := by decide +kernel
theorem dX0_init_20 : decode cX0_init 20 = .ok (.aload_n 0, 1) := by decide +kernel
theorem dX0_init_21 : decode cX0_init 21 = .ok (.bipush 8, 2) := by decide +kernel
theorem dX0_init_23 : decode cX0_init 23 = .ok (.newarray .int, 2) := by decide +kernel
theorem dX0_init_25 : decode cX0_init 25 = .ok (.putfield 22, 3) := by decide +kernel
theorem dX0_init_28 : decode cX0_init 28 = .ok (.aload_n 0, 1) := by decide +kernel
theorem dX0_init_29 : decode cX0_init 29 = .ok (.bipush 8, 2) := by decide +kernel
theorem dX0_init_31 : decode cX0_init 31 = .ok (.newarray .int, 2) := by decide +kernel
theorem dX0_init_33 : decode cX0_init 33 = .ok (.putfield 26, 3) := by decide +kernel
theorem dX0_init_36 : decode cX0_init 36 = .ok (.aload_n 0, 1) := by decide +kernel
theorem dX0_init_37 : decode cX0_init 37 = .ok (.bipush 8, 2) := by decide +kernel
theorem dX0_init_39 : decode cX0_init 39 = .ok (.newarray .int, 2) := by decide +kernel
theorem dX0_init_41 : decode cX0_init 41 = .ok (.putfield 29, 3) := by decide +kernel
theorem dX0_init_44 : decode cX0_init 44 = .ok (.aload_n 0, 1) := by decide +kernel
theorem dX0_init_45 : decode cX0_init 45 = .ok (.bipush 8, 2) := by decide +kernel
theorem dX0_init_47 : decode cX0_init 47 = .ok (.newarray .int, 2) := by decide +kernel
theorem dX0_init_49 : decode cX0_init 49 = .ok (.putfield 32, 3) := by decide +kernel
theorem dX0_init_52 : decode cX0_init 52 = .ok (.return_, 1) := by decide +kernel
theorem dX0_clear_0 : decode cX0_clear 0 = .ok (.aload_n 0, 1) := by decide +kernel
theorem dX0_clear_1 : decode cX0_clear 1 = .ok (.getfield 12, 3) := by decide +kernel
theorem dX0_clear_4 : decode cX0_clear 4 = .ok (.invokevirtual 35, 3) := by decide +kernel
theorem dX0_clear_7 : decode cX0_clear 7 = .ok (.aload_n 0, 1) := by decide +kernel
theorem dX0_clear_8 : decode cX0_clear 8 = .ok (.iconst 0, 1) := by decide +kernel
theorem dX0_clear_9 : decode cX0_clear 9 = .ok (.putfield 18, 3) := by decide +kernel
theorem dX0_clear_12 : decode cX0_clear 12 = .ok (.return_, 1) := by decide +kernel
theorem dX0_add_0 : decode cX0_add 0 = .ok (.aload_n 0, 1) := by decide +kernel
theorem dX0_add_1 : decode cX0_add 1 = .ok (.getfield 18, 3) := by decide +kernel
theorem dX0_add_4 : decode cX0_add 4 = .ok (.bipush 8, 2) := by decide +kernel
theorem dX0_add_6 : decode cX0_add 6 = .ok (.if_icmp .lt 4, 3) := by decide +kernel
theorem dX0_add_9 : decode cX0_add 9 = .ok (.return_, 1) := by decide +kernel
theorem dX0_add_10 : decode cX0_add 10 = .ok (.aload_n 0, 1) := by decide +kernel
theorem dX0_add_11 : decode cX0_add 11 = .ok (.getfield 22, 3) := by decide +kernel
theorem dX0_add_14 : decode cX0_add 14 = .ok (.aload_n 0, 1) := by decide +kernel
theorem dX0_add_15 : decode cX0_add 15 = .ok (.getfield 18, 3) := by decide +kernel
theorem dX0_add_18 : decode cX0_add 18 = .ok (.iload_n 1, 1) := by decide +kernel
theorem dX0_add_19 : decode cX0_add 19 = .ok (.iastore, 1) := by decide +kernel
theorem dX0_add_20 : decode cX0_add 20 = .ok (.aload_n 0, 1) := by decide +kernel
theorem dX0_add_21 : decode cX0_add 21 = .ok (.getfield 26, 3) := by decide +kernel
theorem dX0_add_24 : decode cX0_add 24 = .ok (.aload_n 0, 1) := by decide +kernel
theorem dX0_add_25 : decode cX0_add 25 = .ok (.getfield 18, 3) := by decide +kernel
theorem dX0_add_28 : decode cX0_add 28 = .ok (.iload_n 2, 1) := by decide +kernel
theorem dX0_add_29 : decode cX0_add 29 = .ok (.iastore, 1) := by decide +kernel
theorem dX0_add_30 : decode cX0_add 30 = .ok (.aload_n 0, 1) := by decide +kernel
theorem dX0_add_31 : decode cX0_add 31 = .ok (.getfield 29, 3) := by decide +kernel
theorem dX0_add_34 : decode cX0_add 34 = .ok (.aload_n 0, 1) := by decide +kernel
theorem dX0_add_35 : decode cX0_add 35 = .ok (.getfield 18, 3) := by decide +kernel
theorem dX0_add_38 : decode cX0_add 38 = .ok (.iload_n 3, 1) := by decide +kernel
theorem dX0_add_39 : decode cX0_add 39 = .ok (.iastore, 1) := by decide +kernel
theorem dX0_add_40 : decode cX0_add 40 = .ok (.aload_n 0, 1) := by decide +kernel
theorem dX0_add_41 : decode cX0_add 41 = .ok (.getfield 32, 3) := by decide +kernel
theorem dX0_add_44 : decode cX0_add 44 = .ok (.aload_n 0, 1) := by decide +kernel
theorem dX0_add_45 : decode cX0_add 45 = .ok (.getfield 18, 3) := by decide +kernel
theorem dX0_add_48 : decode cX0_add 48 = .ok (.iload 4, 2) := by decide +kernel
theorem dX0_add_50 : decode cX0_add 50 = .ok (.iastore, 1) := by decide +kernel
theorem dX0_add_51 : decode cX0_add 51 = .ok (.aload_n 0, 1) := by decide +kernel
theorem dX0_add_52 : decode cX0_add 52 = .ok (.dup, 1) := by decide +kernel
theorem dX0_add_53 : decode cX0_add 53 = .ok (.getfield 18, 3) := by decide +kernel
theorem dX0_add_56 : decode cX0_add 56 = .ok (.iconst 1, 1) := by decide +kernel
theorem dX0_add_57 : decode cX0_add 57 = .ok (.iadd, 1) := by decide +kernel
theorem dX0_add_58 : decode cX0_add 58 = .ok (.putfield 18, 3) := by decide +kernel
theorem dX0_add_61 : decode cX0_add 61 = .ok (.return_, 1) := by decide +kernel
theorem dX0_become_0 : decode cX0_become 0 = .ok (.aload_n 0, 1) := by decide +kernel
theorem dX0_become_1 : decode cX0_become 1 = .ok (.getfield 12, 3) := by decide +kernel
theorem dX0_become_4 : decode cX0_become 4 = .ok (.aload_n 1, 1) := by decide +kernel
theorem dX0_become_5 : decode cX0_become 5 = .ok (.getfield 12, 3) := by decide +kernel
theorem dX0_become_8 : decode cX0_become 8 = .ok (.invokevirtual 38, 3) := by decide +kernel
theorem dX0_become_11 : decode cX0_become 11 = .ok (.aload_n 0, 1) := by decide +kernel
theorem dX0_become_12 : decode cX0_become 12 = .ok (.iconst 0, 1) := by decide +kernel
theorem dX0_become_13 : decode cX0_become 13 = .ok (.putfield 18, 3) := by decide +kernel
theorem dX0_become_16 : decode cX0_become 16 = .ok (.iconst 0, 1) := by decide +kernel
theorem dX0_become_17 : decode cX0_become 17 = .ok (.istore_n 2, 1) := by decide +kernel
theorem dX0_become_18 : decode cX0_become 18 = .ok (.iload_n 2, 1) := by decide +kernel
theorem dX0_become_19 : decode cX0_become 19 = .ok (.aload_n 1, 1) := by decide +kernel
theorem dX0_become_20 : decode cX0_become 20 = .ok (.getfield 18, 3) := by decide +kernel
theorem dX0_become_23 : decode cX0_become 23 = .ok (.if_icmp .ge 37, 3) := by decide +kernel
theorem dX0_become_26 : decode cX0_become 26 = .ok (.aload_n 0, 1) := by decide +kernel
theorem dX0_become_27 : decode cX0_become 27 = .ok (.aload_n 1, 1) := by decide +kernel
theorem dX0_become_28 : decode cX0_become 28 = .ok (.getfield 22, 3) := by decide +kernel
theorem dX0_become_31 : decode cX0_become 31 = .ok (.iload_n 2, 1) := by decide +kernel
theorem dX0_become_32 : decode cX0_become 32 = .ok (.iaload, 1) := by decide +kernel
theorem dX0_become_33 : decode cX0_become 33 = .ok (.aload_n 1, 1) := by decide +kernel
theorem dX0_become_34 : decode cX0_become 34 = .ok (.getfield 26, 3) := by decide +kernel
theorem dX0_become_37 : decode cX0_become 37 = .ok (.iload_n 2, 1) := by decide +kernel
theorem dX0_become_38 : decode cX0_become 38 = .ok (.iaload, 1) := by decide +kernel
theorem dX0_become_39 : decode cX0_become 39 = .ok (.aload_n 1, 1) := by decide +kernel
theorem dX0_become_40 : decode cX0_become 40 = .ok (.getfield 29, 3) := by decide +kernel
theorem dX0_become_43 : decode cX0_become 43 = .ok (.iload_n 2, 1) := by decide +kernel
theorem dX0_become_44 : decode cX0_become 44 = .ok (.iaload, 1) := by decide +kernel
theorem dX0_become_45 : decode cX0_become 45 = .ok (.aload_n 1, 1) := by decide +kernel
theorem dX0_become_46 : decode cX0_become 46 = .ok (.getfield 32, 3) := by decide +kernel
theorem dX0_become_49 : decode cX0_become 49 = .ok (.iload_n 2, 1) := by decide +kernel
theorem dX0_become_50 : decode cX0_become 50 = .ok (.iaload, 1) := by decide +kernel
theorem dX0_become_51 : decode cX0_become 51 = .ok (.invokevirtual 42, 3) := by decide +kernel
theorem dX0_become_54 : decode cX0_become 54 = .ok (.iinc 2 1, 3) := by decide +kernel
theorem dX0_become_57 : decode cX0_become 57 = .ok (.goto (-39), 3) := by decide +kernel
theorem dX0_become_60 : decode cX0_become 60 = .ok (.return_, 1) := by decide +kernel
theorem dX1_firstBroken_0 : decode cX1_firstBroken 0 = .ok (.iconst 0, 1) := by decide +kernel
theorem dX1_firstBroken_1 : decode cX1_firstBroken 1 = .ok (.istore_n 2, 1) := by decide +kernel
theorem dX1_firstBroken_2 : decode cX1_firstBroken 2 = .ok (.iload_n 2, 1) := by decide +kernel
theorem dX1_firstBroken_3 : decode cX1_firstBroken 3 = .ok (.iconst 5, 1) := by decide +kernel
theorem dX1_firstBroken_4 : decode cX1_firstBroken 4 = .ok (.if_icmp .ge 42, 3) := by decide +kernel
theorem dX1_firstBroken_7 : decode cX1_firstBroken 7 = .ok (.aload_n 0, 1) := by decide +kernel
theorem dX1_firstBroken_8 : decode cX1_firstBroken 8 = .ok (.getfield 9, 3) := by decide +kernel
theorem dX1_firstBroken_11 : decode cX1_firstBroken 11 = .ok (.iload_n 2, 1) := by decide +kernel
theorem dX1_firstBroken_12 : decode cX1_firstBroken 12 = .ok (.caload, 1) := by decide +kernel
theorem dX1_firstBroken_13 : decode cX1_firstBroken 13 = .ok (.bipush 45, 2) := by decide +kernel
theorem dX1_firstBroken_15 : decode cX1_firstBroken 15 = .ok (.if_icmp .ne 7, 3) := by decide +kernel
theorem dX1_firstBroken_18 : decode cX1_firstBroken 18 = .ok (.iconst 0, 1) := by decide +kernel
theorem dX1_firstBroken_19 : decode cX1_firstBroken 19 = .ok (.goto 9, 3) := by decide +kernel
theorem dX1_firstBroken_22 : decode cX1_firstBroken 22 = .ok (.aload_n 0, 1) := by decide +kernel
theorem dX1_firstBroken_23 : decode cX1_firstBroken 23 = .ok (.aload_n 1, 1) := by decide +kernel
theorem dX1_firstBroken_24 : decode cX1_firstBroken 24 = .ok (.iload_n 2, 1) := by decide +kernel
theorem dX1_firstBroken_25 : decode cX1_firstBroken 25 = .ok (.invokestatic 15, 3) := by decide +kernel
theorem dX1_firstBroken_28 : decode cX1_firstBroken 28 = .ok (.istore_n 3, 1) := by decide +kernel
theorem dX1_firstBroken_29 : decode cX1_firstBroken 29 = .ok (.iload_n 3, 1) := by decide +kernel
theorem dX1_firstBroken_30 : decode cX1_firstBroken 30 = .ok (.ifCond .eq 10, 3) := by decide +kernel
theorem dX1_firstBroken_33 : decode cX1_firstBroken 33 = .ok (.bipush 100, 2) := by decide +kernel
theorem dX1_firstBroken_35 : decode cX1_firstBroken 35 = .ok (.iload_n 2, 1) := by decide +kernel
theorem dX1_firstBroken_36 : decode cX1_firstBroken 36 = .ok (.imul, 1) := by decide +kernel
theorem dX1_firstBroken_37 : decode cX1_firstBroken 37 = .ok (.iload_n 3, 1) := by decide +kernel
theorem dX1_firstBroken_38 : decode cX1_firstBroken 38 = .ok (.iadd, 1) := by decide +kernel
theorem dX1_firstBroken_39 : decode cX1_firstBroken 39 = .ok (.ireturn, 1) := by decide +kernel
theorem dX1_firstBroken_40 : decode cX1_firstBroken 40 = .ok (.iinc 2 1, 3) := by decide +kernel
theorem dX1_firstBroken_43 : decode cX1_firstBroken 43 = .ok (.goto (-41), 3) := by decide +kernel
theorem dX1_firstBroken_46 : decode cX1_firstBroken 46 = .ok (.iconst (-1), 1) := by decide +kernel
theorem dX1_firstBroken_47 : decode cX1_firstBroken 47 = .ok (.ireturn, 1) := by decide +kernel
theorem dX1_brokenBy_0 : decode cX1_brokenBy 0 = .ok (.aload_n 0, 1) := by decide +kernel
theorem dX1_brokenBy_1 : decode cX1_brokenBy 1 = .ok (.getfield 21, 3) := by decide +kernel
theorem dX1_brokenBy_4 : decode cX1_brokenBy 4 = .ok (.iload_n 2, 1) := by decide +kernel
theorem dX1_brokenBy_5 : decode cX1_brokenBy 5 = .ok (.iaload, 1) := by decide +kernel
theorem dX1_brokenBy_6 : decode cX1_brokenBy 6 = .ok (.istore_n 3, 1) := by decide +kernel
theorem dX1_brokenBy_7 : decode cX1_brokenBy 7 = .ok (.iload_n 3, 1) := by decide +kernel
theorem dX1_brokenBy_8 : decode cX1_brokenBy 8 = .ok (.iconst (-1), 1) := by decide +kernel
theorem dX1_brokenBy_9 : decode cX1_brokenBy 9 = .ok (.if_icmp .eq 16, 3) := by decide +kernel
theorem dX1_brokenBy_12 : decode cX1_brokenBy 12 = .ok (.aload_n 0, 1) := by decide +kernel
theorem dX1_brokenBy_13 : decode cX1_brokenBy 13 = .ok (.getfield 9, 3) := by decide +kernel
theorem dX1_brokenBy_16 : decode cX1_brokenBy 16 = .ok (.iload_n 3, 1) := by decide +kernel
theorem dX1_brokenBy_17 : decode cX1_brokenBy 17 = .ok (.caload, 1) := by decide +kernel
theorem dX1_brokenBy_18 : decode cX1_brokenBy 18 = .ok (.bipush 99, 2) := by decide +kernel
theorem dX1_brokenBy_20 : decode cX1_brokenBy 20 = .ok (.if_icmp .eq 5, 3) := by decide +kernel
theorem dX1_brokenBy_23 : decode cX1_brokenBy 23 = .ok (.iconst 1, 1) := by decide +kernel
theorem dX1_brokenBy_24 : decode cX1_brokenBy 24 = .ok (.ireturn, 1) := by decide +kernel
theorem dX1_brokenBy_25 : decode cX1_brokenBy 25 = .ok (.iload_n 3, 1) := by decide +kernel
theorem dX1_brokenBy_26 : decode cX1_brokenBy 26 = .ok (.iconst (-1), 1) := by decide +kernel
theorem dX1_brokenBy_27 : decode cX1_brokenBy 27 = .ok (.if_icmp .eq 14, 3) := by decide +kernel
theorem dX1_brokenBy_30 : decode cX1_brokenBy 30 = .ok (.aload_n 0, 1) := by decide +kernel
theorem dX1_brokenBy_31 : decode cX1_brokenBy 31 = .ok (.getfield 25, 3) := by decide +kernel
theorem dX1_brokenBy_34 : decode cX1_brokenBy 34 = .ok (.iload_n 3, 1) := by decide +kernel
theorem dX1_brokenBy_35 : decode cX1_brokenBy 35 = .ok (.baload, 1) := by decide +kernel
theorem dX1_brokenBy_36 : decode cX1_brokenBy 36 = .ok (.ifCond .eq 5, 3) := by decide +kernel
theorem dX1_brokenBy_39 : decode cX1_brokenBy 39 = .ok (.iconst 2, 1) := by decide +kernel
theorem dX1_brokenBy_40 : decode cX1_brokenBy 40 = .ok (.ireturn, 1) := by decide +kernel
theorem dX1_brokenBy_41 : decode cX1_brokenBy 41 = .ok (.aload_n 0, 1) := by decide +kernel
theorem dX1_brokenBy_42 : decode cX1_brokenBy 42 = .ok (.getfield 29, 3) := by decide +kernel
theorem dX1_brokenBy_45 : decode cX1_brokenBy 45 = .ok (.iload_n 2, 1) := by decide +kernel
theorem dX1_brokenBy_46 : decode cX1_brokenBy 46 = .ok (.iaload, 1) := by decide +kernel
theorem dX1_brokenBy_47 : decode cX1_brokenBy 47 = .ok (.aload_n 1, 1) := by decide +kernel
theorem dX1_brokenBy_48 : decode cX1_brokenBy 48 = .ok (.getfield 32, 3) := by decide +kernel
theorem dX1_brokenBy_51 : decode cX1_brokenBy 51 = .ok (.aload_n 1, 1) := by decide +kernel
theorem dX1_brokenBy_52 : decode cX1_brokenBy 52 = .ok (.getfield 38, 3) := by decide +kernel
theorem dX1_brokenBy_55 : decode cX1_brokenBy 55 = .ok (.iconst (-1), 1) := by decide +kernel
theorem dX1_brokenBy_56 : decode cX1_brokenBy 56 = .ok (.ixor, 1) := by decide +kernel
theorem dX1_brokenBy_57 : decode cX1_brokenBy 57 = .ok (.iand, 1) := by decide +kernel
theorem dX1_brokenBy_58 : decode cX1_brokenBy 58 = .ok (.iconst (-1), 1) := by decide +kernel
theorem dX1_brokenBy_59 : decode cX1_brokenBy 59 = .ok (.ixor, 1) := by decide +kernel
theorem dX1_brokenBy_60 : decode cX1_brokenBy 60 = .ok (.iand, 1) := by decide +kernel
theorem dX1_brokenBy_61 : decode cX1_brokenBy 61 = .ok (.ifCond .eq 5, 3) := by decide +kernel
theorem dX1_brokenBy_64 : decode cX1_brokenBy 64 = .ok (.iconst 3, 1) := by decide +kernel
theorem dX1_brokenBy_65 : decode cX1_brokenBy 65 = .ok (.ireturn, 1) := by decide +kernel
theorem dX1_brokenBy_66 : decode cX1_brokenBy 66 = .ok (.aload_n 1, 1) := by decide +kernel
theorem dX1_brokenBy_67 : decode cX1_brokenBy 67 = .ok (.getfield 41, 3) := by decide +kernel
theorem dX1_brokenBy_70 : decode cX1_brokenBy 70 = .ok (.iload_n 2, 1) := by decide +kernel
theorem dX1_brokenBy_71 : decode cX1_brokenBy 71 = .ok (.iaload, 1) := by decide +kernel
theorem dX1_brokenBy_72 : decode cX1_brokenBy 72 = .ok (.iload_n 2, 1) := by decide +kernel
theorem dX1_brokenBy_73 : decode cX1_brokenBy 73 = .ok (.invokestatic 44, 3) := by decide +kernel
theorem dX1_brokenBy_76 : decode cX1_brokenBy 76 = .ok (.ifCond .eq 5, 3) := by decide +kernel
theorem dX1_brokenBy_79 : decode cX1_brokenBy 79 = .ok (.iconst 4, 1) := by decide +kernel
theorem dX1_brokenBy_80 : decode cX1_brokenBy 80 = .ok (.ireturn, 1) := by decide +kernel
theorem dX1_brokenBy_81 : decode cX1_brokenBy 81 = .ok (.aload_n 0, 1) := by decide +kernel
theorem dX1_brokenBy_82 : decode cX1_brokenBy 82 = .ok (.iload_n 2, 1) := by decide +kernel
theorem dX1_brokenBy_83 : decode cX1_brokenBy 83 = .ok (.invokestatic 48, 3) := by decide +kernel
theorem dX1_brokenBy_86 : decode cX1_brokenBy 86 = .ok (.ifCond .eq 5, 3) := by decide +kernel
theorem dX1_brokenBy_89 : decode cX1_brokenBy 89 = .ok (.iconst 5, 1) := by decide +kernel
theorem dX1_brokenBy_90 : decode cX1_brokenBy 90 = .ok (.ireturn, 1) := by decide +kernel
theorem dX1_brokenBy_91 : decode cX1_brokenBy 91 = .ok (.aload_n 0, 1) := by decide +kernel
theorem dX1_brokenBy_92 : decode cX1_brokenBy 92 = .ok (.getfield 9, 3) := by decide +kernel
theorem dX1_brokenBy_95 : decode cX1_brokenBy 95 = .ok (.iload_n 2, 1) := by decide +kernel
theorem dX1_brokenBy_96 : decode cX1_brokenBy 96 = .ok (.caload, 1) := by decide +kernel
theorem dX1_brokenBy_97 : decode cX1_brokenBy 97 = .ok (.bipush 105, 2) := by decide +kernel
theorem dX1_brokenBy_99 : decode cX1_brokenBy 99 = .ok (.if_icmp .ne 14, 3) := by decide +kernel
theorem dX1_brokenBy_102 : decode cX1_brokenBy 102 = .ok (.aload_n 0, 1) := by decide +kernel
theorem dX1_brokenBy_103 : decode cX1_brokenBy 103 = .ok (.iload_n 2, 1) := by decide +kernel
theorem dX1_brokenBy_104 : decode cX1_brokenBy 104 = .ok (.invokestatic 52, 3) := by decide +kernel
theorem dX1_brokenBy_107 : decode cX1_brokenBy 107 = .ok (.ifCond .eq 6, 3) := by decide +kernel
theorem dX1_brokenBy_110 : decode cX1_brokenBy 110 = .ok (.bipush 6, 2) := by decide +kernel
theorem dX1_brokenBy_112 : decode cX1_brokenBy 112 = .ok (.ireturn, 1) := by decide +kernel
theorem dX1_brokenBy_113 : decode cX1_brokenBy 113 = .ok (.aload_n 0, 1) := by decide +kernel
theorem dX1_brokenBy_114 : decode cX1_brokenBy 114 = .ok (.iload_n 2, 1) := by decide +kernel
theorem dX1_brokenBy_115 : decode cX1_brokenBy 115 = .ok (.invokestatic 55, 3) := by decide +kernel
theorem dX1_brokenBy_118 : decode cX1_brokenBy 118 = .ok (.ifCond .eq 6, 3) := by decide +kernel
theorem dX1_brokenBy_121 : decode cX1_brokenBy 121 = .ok (.bipush 7, 2) := by decide +kernel
theorem dX1_brokenBy_123 : decode cX1_brokenBy 123 = .ok (.ireturn, 1) := by decide +kernel
theorem dX1_brokenBy_124 : decode cX1_brokenBy 124 = .ok (.aload_n 0, 1) := by decide +kernel
theorem dX1_brokenBy_125 : decode cX1_brokenBy 125 = .ok (.getfield 9, 3) := by decide +kernel
theorem dX1_brokenBy_128 : decode cX1_brokenBy 128 = .ok (.iload_n 2, 1) := by decide +kernel
theorem dX1_brokenBy_129 : decode cX1_brokenBy 129 = .ok (.caload, 1) := by decide +kernel
theorem dX1_brokenBy_130 : decode cX1_brokenBy 130 = .ok (.bipush 99, 2) := by decide +kernel
theorem dX1_brokenBy_132 : decode cX1_brokenBy 132 = .ok (.if_icmp .ne 14, 3) := by decide +kernel
theorem dX1_brokenBy_135 : decode cX1_brokenBy 135 = .ok (.aload_n 0, 1) := by decide +kernel
theorem dX1_brokenBy_136 : decode cX1_brokenBy 136 = .ok (.iload_n 2, 1) := by decide +kernel
theorem dX1_brokenBy_137 : decode cX1_brokenBy 137 = .ok (.invokestatic 58, 3) := by decide +kernel
theorem dX1_brokenBy_140 : decode cX1_brokenBy 140 = .ok (.ifCond .eq 6, 3) := by decide +kernel
theorem dX1_brokenBy_143 : decode cX1_brokenBy 143 = .ok (.bipush 8, 2) := by decide +kernel
theorem dX1_brokenBy_145 : decode cX1_brokenBy 145 = .ok (.ireturn, 1) := by decide +kernel
theorem dX1_brokenBy_146 : decode cX1_brokenBy 146 = .ok (.aload_n 0, 1) := by decide +kernel
theorem dX1_brokenBy_147 : decode cX1_brokenBy 147 = .ok (.aload_n 1, 1) := by decide +kernel
theorem dX1_brokenBy_148 : decode cX1_brokenBy 148 = .ok (.iload_n 2, 1) := by decide +kernel
theorem dX1_brokenBy_149 : decode cX1_brokenBy 149 = .ok (.invokestatic 61, 3) := by decide +kernel
theorem dX1_brokenBy_152 : decode cX1_brokenBy 152 = .ok (.ifCond .eq 6, 3) := by decide +kernel
theorem dX1_brokenBy_155 : decode cX1_brokenBy 155 = .ok (.bipush 9, 2) := by decide +kernel
theorem dX1_brokenBy_157 : decode cX1_brokenBy 157 = .ok (.ireturn, 1) := by decide +kernel
theorem dX1_brokenBy_158 : decode cX1_brokenBy 158 = .ok (.aload_n 0, 1) := by decide +kernel
theorem dX1_brokenBy_159 : decode cX1_brokenBy 159 = .ok (.getfield 9, 3) := by decide +kernel
theorem dX1_brokenBy_162 : decode cX1_brokenBy 162 = .ok (.iload_n 2, 1) := by decide +kernel
theorem dX1_brokenBy_163 : decode cX1_brokenBy 163 = .ok (.caload, 1) := by decide +kernel
theorem dX1_brokenBy_164 : decode cX1_brokenBy 164 = .ok (.bipush 99, 2) := by decide +kernel
theorem dX1_brokenBy_166 : decode cX1_brokenBy 166 = .ok (.if_icmp .ne 25, 3) := by decide +kernel
theorem dX1_brokenBy_169 : decode cX1_brokenBy 169 = .ok (.aload_n 0, 1) := by decide +kernel
theorem dX1_brokenBy_170 : decode cX1_brokenBy 170 = .ok (.getfield 65, 3) := by decide +kernel
theorem dX1_brokenBy_173 : decode cX1_brokenBy 173 = .ok (.iload_n 2, 1) := by decide +kernel
theorem dX1_brokenBy_174 : decode cX1_brokenBy 174 = .ok (.baload, 1) := by decide +kernel
theorem dX1_brokenBy_175 : decode cX1_brokenBy 175 = .ok (.ifCond .ne 16, 3) := by decide +kernel
theorem dX1_brokenBy_178 : decode cX1_brokenBy 178 = .ok (.aload_n 1, 1) := by decide +kernel
theorem dX1_brokenBy_179 : decode cX1_brokenBy 179 = .ok (.iload_n 2, 1) := by decide +kernel
theorem dX1_brokenBy_180 : decode cX1_brokenBy 180 = .ok (.invokestatic 68, 3) := by decide +kernel
theorem dX1_brokenBy_183 : decode cX1_brokenBy 183 = .ok (.ifCond .eq 8, 3) := by decide +kernel
theorem dX1_brokenBy_186 : decode cX1_brokenBy 186 = .ok (.bipush 10, 2) := by decide +kernel
theorem dX1_brokenBy_188 : decode cX1_brokenBy 188 = .ok (.goto 4, 3) := by decide +kernel
theorem dX1_brokenBy_191 : decode cX1_brokenBy 191 = .ok (.iconst 0, 1) := by decide +kernel
theorem dX1_brokenBy_192 : decode cX1_brokenBy 192 = .ok (.ireturn, 1) := by decide +kernel
theorem dX1_isBadlyMade_0 : decode cX1_isBadlyMade 0 = .ok (.aload_n 0, 1) := by decide +kernel
theorem dX1_isBadlyMade_1 : decode cX1_isBadlyMade 1 = .ok (.getfield 21, 3) := by decide +kernel
theorem dX1_isBadlyMade_4 : decode cX1_isBadlyMade 4 = .ok (.iload_n 1, 1) := by decide +kernel
theorem dX1_isBadlyMade_5 : decode cX1_isBadlyMade 5 = .ok (.iaload, 1) := by decide +kernel
theorem dX1_isBadlyMade_6 : decode cX1_isBadlyMade 6 = .ok (.istore_n 2, 1) := by decide +kernel
theorem dX1_isBadlyMade_7 : decode cX1_isBadlyMade 7 = .ok (.aload_n 0, 1) := by decide +kernel
theorem dX1_isBadlyMade_8 : decode cX1_isBadlyMade 8 = .ok (.getfield 9, 3) := by decide +kernel
theorem dX1_isBadlyMade_11 : decode cX1_isBadlyMade 11 = .ok (.iload_n 1, 1) := by decide +kernel
theorem dX1_isBadlyMade_12 : decode cX1_isBadlyMade 12 = .ok (.caload, 1) := by decide +kernel
theorem dX1_isBadlyMade_13 : decode cX1_isBadlyMade 13 = .ok (.bipush 105, 2) := by decide +kernel
theorem dX1_isBadlyMade_15 : decode cX1_isBadlyMade 15 = .ok (.if_icmp .ne 8, 3) := by decide +kernel
theorem dX1_isBadlyMade_18 : decode cX1_isBadlyMade 18 = .ok (.iload_n 2, 1) := by decide +kernel
theorem dX1_isBadlyMade_19 : decode cX1_isBadlyMade 19 = .ok (.iconst (-1), 1) := by decide +kernel
theorem dX1_isBadlyMade_20 : decode cX1_isBadlyMade 20 = .ok (.if_icmp .ne 37, 3) := by decide +kernel
theorem dX1_isBadlyMade_23 : decode cX1_isBadlyMade 23 = .ok (.aload_n 0, 1) := by decide +kernel
theorem dX1_isBadlyMade_24 : decode cX1_isBadlyMade 24 = .ok (.getfield 65, 3) := by decide +kernel
theorem dX1_isBadlyMade_27 : decode cX1_isBadlyMade 27 = .ok (.iload_n 1, 1) := by decide +kernel
theorem dX1_isBadlyMade_28 : decode cX1_isBadlyMade 28 = .ok (.baload, 1) := by decide +kernel
theorem dX1_isBadlyMade_29 : decode cX1_isBadlyMade 29 = .ok (.ifCond .eq 12, 3) := by decide +kernel
theorem dX1_isBadlyMade_32 : decode cX1_isBadlyMade 32 = .ok (.aload_n 0, 1) := by decide +kernel
theorem dX1_isBadlyMade_33 : decode cX1_isBadlyMade 33 = .ok (.getfield 25, 3) := by decide +kernel
theorem dX1_isBadlyMade_36 : decode cX1_isBadlyMade 36 = .ok (.iload_n 1, 1) := by decide +kernel
theorem dX1_isBadlyMade_37 : decode cX1_isBadlyMade 37 = .ok (.baload, 1) := by decide +kernel
theorem dX1_isBadlyMade_38 : decode cX1_isBadlyMade 38 = .ok (.ifCond .ne 19, 3) := by decide +kernel
theorem dX1_isBadlyMade_41 : decode cX1_isBadlyMade 41 = .ok (.iload_n 2, 1) := by decide +kernel
theorem dX1_isBadlyMade_42 : decode cX1_isBadlyMade 42 = .ok (.iconst (-1), 1) := by decide +kernel
theorem dX1_isBadlyMade_43 : decode cX1_isBadlyMade 43 = .ok (.if_icmp .eq 18, 3) := by decide +kernel
theorem dX1_isBadlyMade_46 : decode cX1_isBadlyMade 46 = .ok (.aload_n 0, 1) := by decide +kernel
theorem dX1_isBadlyMade_47 : decode cX1_isBadlyMade 47 = .ok (.getfield 72, 3) := by decide +kernel
theorem dX1_isBadlyMade_50 : decode cX1_isBadlyMade 50 = .ok (.iload_n 2, 1) := by decide +kernel
theorem dX1_isBadlyMade_51 : decode cX1_isBadlyMade 51 = .ok (.caload, 1) := by decide +kernel
theorem dX1_isBadlyMade_52 : decode cX1_isBadlyMade 52 = .ok (.bipush 118, 2) := by decide +kernel
theorem dX1_isBadlyMade_54 : decode cX1_isBadlyMade 54 = .ok (.if_icmp .ne 7, 3) := by decide +kernel
theorem dX1_isBadlyMade_57 : decode cX1_isBadlyMade 57 = .ok (.iconst 1, 1) := by decide +kernel
theorem dX1_isBadlyMade_58 : decode cX1_isBadlyMade 58 = .ok (.goto 4, 3) := by decide +kernel
theorem dX1_isBadlyMade_61 : decode cX1_isBadlyMade 61 = .ok (.iconst 0, 1) := by decide +kernel
theorem dX1_isBadlyMade_62 : decode cX1_isBadlyMade 62 = .ok (.ireturn, 1) := by decide +kernel
theorem dX1_hasWrongMember_0 : decode cX1_hasWrongMember 0 = .ok (.iload_n 1, 1) := by decide +kernel
theorem dX1_hasWrongMember_1 : decode cX1_hasWrongMember 1 = .ok (.bipush 6, 2) := by decide +kernel
theorem dX1_hasWrongMember_3 : decode cX1_hasWrongMember 3 = .ok (.imul, 1) := by decide +kernel
theorem dX1_hasWrongMember_4 : decode cX1_hasWrongMember 4 = .ok (.istore_n 2, 1) := by decide +kernel
theorem dX1_hasWrongMember_5 : decode cX1_hasWrongMember 5 = .ok (.iload_n 2, 1) := by decide +kernel
theorem dX1_hasWrongMember_6 : decode cX1_hasWrongMember 6 = .ok (.iload_n 1, 1) := by decide +kernel
theorem dX1_hasWrongMember_7 : decode cX1_hasWrongMember 7 = .ok (.bipush 6, 2) := by decide +kernel
theorem dX1_hasWrongMember_9 : decode cX1_hasWrongMember 9 = .ok (.imul, 1) := by decide +kernel
theorem dX1_hasWrongMember_10 : decode cX1_hasWrongMember 10 = .ok (.bipush 6, 2) := by decide +kernel
theorem dX1_hasWrongMember_12 : decode cX1_hasWrongMember 12 = .ok (.iadd, 1) := by decide +kernel
theorem dX1_hasWrongMember_13 : decode cX1_hasWrongMember 13 = .ok (.if_icmp .ge 88, 3) := by decide +kernel
theorem dX1_hasWrongMember_16 : decode cX1_hasWrongMember 16 = .ok (.aload_n 0, 1) := by decide +kernel
theorem dX1_hasWrongMember_17 : decode cX1_hasWrongMember 17 = .ok (.getfield 75, 3) := by decide +kernel
theorem dX1_hasWrongMember_20 : decode cX1_hasWrongMember 20 = .ok (.getfield 79, 3) := by decide +kernel
theorem dX1_hasWrongMember_23 : decode cX1_hasWrongMember 23 = .ok (.iload_n 2, 1) := by decide +kernel
theorem dX1_hasWrongMember_24 : decode cX1_hasWrongMember 24 = .ok (.caload, 1) := by decide +kernel
theorem dX1_hasWrongMember_25 : decode cX1_hasWrongMember 25 = .ok (.istore_n 3, 1) := by decide +kernel
theorem dX1_hasWrongMember_26 : decode cX1_hasWrongMember 26 = .ok (.iload_n 3, 1) := by decide +kernel
theorem dX1_hasWrongMember_27 : decode cX1_hasWrongMember 27 = .ok (.bipush 45, 2) := by decide +kernel
theorem dX1_hasWrongMember_29 : decode cX1_hasWrongMember 29 = .ok (.if_icmp .eq 25, 3) := by decide +kernel
theorem dX1_hasWrongMember_32 : decode cX1_hasWrongMember 32 = .ok (.iload_n 3, 1) := by decide +kernel
theorem dX1_hasWrongMember_33 : decode cX1_hasWrongMember 33 = .ok (.bipush 112, 2) := by decide +kernel
theorem dX1_hasWrongMember_35 : decode cX1_hasWrongMember 35 = .ok (.if_icmp .ne 17, 3) := by decide +kernel
theorem dX1_hasWrongMember_38 : decode cX1_hasWrongMember 38 = .ok (.aload_n 0, 1) := by decide +kernel
theorem dX1_hasWrongMember_39 : decode cX1_hasWrongMember 39 = .ok (.getfield 75, 3) := by decide +kernel
theorem dX1_hasWrongMember_42 : decode cX1_hasWrongMember 42 = .ok (.getfield 84, 3) := by decide +kernel
theorem dX1_hasWrongMember_45 : decode cX1_hasWrongMember 45 = .ok (.iload_n 2, 1) := by decide +kernel
theorem dX1_hasWrongMember_46 : decode cX1_hasWrongMember 46 = .ok (.caload, 1) := by decide +kernel
theorem dX1_hasWrongMember_47 : decode cX1_hasWrongMember 47 = .ok (.bipush 102, 2) := by decide +kernel
theorem dX1_hasWrongMember_49 : decode cX1_hasWrongMember 49 = .ok (.if_icmp .ne 5, 3) := by decide +kernel
theorem dX1_hasWrongMember_52 : decode cX1_hasWrongMember 52 = .ok (.iconst 1, 1) := by decide +kernel
theorem dX1_hasWrongMember_53 : decode cX1_hasWrongMember 53 = .ok (.ireturn, 1) := by decide +kernel
theorem dX1_hasWrongMember_54 : decode cX1_hasWrongMember 54 = .ok (.aload_n 0, 1) := by decide +kernel
theorem dX1_hasWrongMember_55 : decode cX1_hasWrongMember 55 = .ok (.getfield 85, 3) := by decide +kernel
theorem dX1_hasWrongMember_58 : decode cX1_hasWrongMember 58 = .ok (.getfield 79, 3) := by decide +kernel
theorem dX1_hasWrongMember_61 : decode cX1_hasWrongMember 61 = .ok (.iload_n 2, 1) := by decide +kernel
theorem dX1_hasWrongMember_62 : decode cX1_hasWrongMember 62 = .ok (.caload, 1) := by decide +kernel
theorem dX1_hasWrongMember_63 : decode cX1_hasWrongMember 63 = .ok (.istore 4, 2) := by decide +kernel
theorem dX1_hasWrongMember_65 : decode cX1_hasWrongMember 65 = .ok (.iload 4, 2) := by decide +kernel
theorem dX1_hasWrongMember_67 : decode cX1_hasWrongMember 67 = .ok (.bipush 45, 2) := by decide +kernel
theorem dX1_hasWrongMember_69 : decode cX1_hasWrongMember 69 = .ok (.if_icmp .eq 26, 3) := by decide +kernel
theorem dX1_hasWrongMember_72 : decode cX1_hasWrongMember 72 = .ok (.iload 4, 2) := by decide +kernel
theorem dX1_hasWrongMember_74 : decode cX1_hasWrongMember 74 = .ok (.bipush 112, 2) := by decide +kernel
theorem dX1_hasWrongMember_76 : decode cX1_hasWrongMember 76 = .ok (.if_icmp .ne 17, 3) := by decide +kernel
theorem dX1_hasWrongMember_79 : decode cX1_hasWrongMember 79 = .ok (.aload_n 0, 1) := by decide +kernel
theorem dX1_hasWrongMember_80 : decode cX1_hasWrongMember 80 = .ok (.getfield 85, 3) := by decide +kernel
theorem dX1_hasWrongMember_83 : decode cX1_hasWrongMember 83 = .ok (.getfield 84, 3) := by decide +kernel
theorem dX1_hasWrongMember_86 : decode cX1_hasWrongMember 86 = .ok (.iload_n 2, 1) := by decide +kernel
theorem dX1_hasWrongMember_87 : decode cX1_hasWrongMember 87 = .ok (.caload, 1) := by decide +kernel
theorem dX1_hasWrongMember_88 : decode cX1_hasWrongMember 88 = .ok (.bipush 70, 2) := by decide +kernel
theorem dX1_hasWrongMember_90 : decode cX1_hasWrongMember 90 = .ok (.if_icmp .eq 5, 3) := by decide +kernel
theorem dX1_hasWrongMember_93 : decode cX1_hasWrongMember 93 = .ok (.iconst 1, 1) := by decide +kernel
theorem dX1_hasWrongMember_94 : decode cX1_hasWrongMember 94 = .ok (.ireturn, 1) := by decide +kernel
theorem dX1_hasWrongMember_95 : decode cX1_hasWrongMember 95 = .ok (.iinc 2 1, 3) := by decide +kernel
theorem dX1_hasWrongMember_98 : decode cX1_hasWrongMember 98 = .ok (.goto (-93), 3) := by decide +kernel
theorem dX1_hasWrongMember_101 : decode cX1_hasWrongMember 101 = .ok (.iconst 0, 1) := by decide +kernel
theorem dX1_hasWrongMember_102 : decode cX1_hasWrongMember 102 = .ok (.ireturn, 1) := by decide +kernel
theorem dX1_hasWrongAbstract_0 : decode cX1_hasWrongAbstract 0 = .ok (.aload_n 0, 1) := by decide +kernel
theorem dX1_hasWrongAbstract_1 : decode cX1_hasWrongAbstract 1 = .ok (.getfield 9, 3) := by decide +kernel
theorem dX1_hasWrongAbstract_4 : decode cX1_hasWrongAbstract 4 = .ok (.iload_n 1, 1) := by decide +kernel
theorem dX1_hasWrongAbstract_5 : decode cX1_hasWrongAbstract 5 = .ok (.caload, 1) := by decide +kernel
theorem dX1_hasWrongAbstract_6 : decode cX1_hasWrongAbstract 6 = .ok (.bipush 99, 2) := by decide +kernel
theorem dX1_hasWrongAbstract_8 : decode cX1_hasWrongAbstract 8 = .ok (.if_icmp .ne 16, 3) := by decide +kernel
theorem dX1_hasWrongAbstract_11 : decode cX1_hasWrongAbstract 11 = .ok (.aload_n 0, 1) := by decide +kernel
theorem dX1_hasWrongAbstract_12 : decode cX1_hasWrongAbstract 12 = .ok (.getfield 65, 3) := by decide +kernel
theorem dX1_hasWrongAbstract_15 : decode cX1_hasWrongAbstract 15 = .ok (.iload_n 1, 1) := by decide +kernel
theorem dX1_hasWrongAbstract_16 : decode cX1_hasWrongAbstract 16 = .ok (.baload, 1) := by decide +kernel
theorem dX1_hasWrongAbstract_17 : decode cX1_hasWrongAbstract 17 = .ok (.ifCond .ne 7, 3) := by decide +kernel
theorem dX1_hasWrongAbstract_20 : decode cX1_hasWrongAbstract 20 = .ok (.iconst 1, 1) := by decide +kernel
theorem dX1_hasWrongAbstract_21 : decode cX1_hasWrongAbstract 21 = .ok (.goto 4, 3) := by decide +kernel
theorem dX1_hasWrongAbstract_24 : decode cX1_hasWrongAbstract 24 = .ok (.iconst 0, 1) := by decide +kernel
theorem dX1_hasWrongAbstract_25 : decode cX1_hasWrongAbstract 25 = .ok (.istore_n 2, 1) := by decide +kernel
theorem dX1_hasWrongAbstract_26 : decode cX1_hasWrongAbstract 26 = .ok (.iload_n 1, 1) := by decide +kernel
theorem dX1_hasWrongAbstract_27 : decode cX1_hasWrongAbstract 27 = .ok (.bipush 6, 2) := by decide +kernel
theorem dX1_hasWrongAbstract_29 : decode cX1_hasWrongAbstract 29 = .ok (.imul, 1) := by decide +kernel
theorem dX1_hasWrongAbstract_30 : decode cX1_hasWrongAbstract 30 = .ok (.istore_n 3, 1) := by decide +kernel
theorem dX1_hasWrongAbstract_31 : decode cX1_hasWrongAbstract 31 = .ok (.iload_n 3, 1) := by decide +kernel
theorem dX1_hasWrongAbstract_32 : decode cX1_hasWrongAbstract 32 = .ok (.iload_n 1, 1) := by decide +kernel
theorem dX1_hasWrongAbstract_33 : decode cX1_hasWrongAbstract 33 = .ok (.bipush 6, 2) := by decide +kernel
theorem dX1_hasWrongAbstract_35 : decode cX1_hasWrongAbstract 35 = .ok (.imul, 1) := by decide +kernel
theorem dX1_hasWrongAbstract_36 : decode cX1_hasWrongAbstract 36 = .ok (.bipush 6, 2) := by decide +kernel
theorem dX1_hasWrongAbstract_38 : decode cX1_hasWrongAbstract 38 = .ok (.iadd, 1) := by decide +kernel
theorem dX1_hasWrongAbstract_39 : decode cX1_hasWrongAbstract 39 = .ok (.if_icmp .ge 43, 3) := by decide +kernel
theorem dX1_hasWrongAbstract_42 : decode cX1_hasWrongAbstract 42 = .ok (.aload_n 0, 1) := by decide +kernel
theorem dX1_hasWrongAbstract_43 : decode cX1_hasWrongAbstract 43 = .ok (.getfield 75, 3) := by decide +kernel
theorem dX1_hasWrongAbstract_46 : decode cX1_hasWrongAbstract 46 = .ok (.getfield 84, 3) := by decide +kernel
theorem dX1_hasWrongAbstract_49 : decode cX1_hasWrongAbstract 49 = .ok (.iload_n 3, 1) := by decide +kernel
theorem dX1_hasWrongAbstract_50 : decode cX1_hasWrongAbstract 50 = .ok (.caload, 1) := by decide +kernel
theorem dX1_hasWrongAbstract_51 : decode cX1_hasWrongAbstract 51 = .ok (.bipush 97, 2) := by decide +kernel
theorem dX1_hasWrongAbstract_53 : decode cX1_hasWrongAbstract 53 = .ok (.if_icmp .ne 23, 3) := by decide +kernel
theorem dX1_hasWrongAbstract_56 : decode cX1_hasWrongAbstract 56 = .ok (.iload_n 2, 1) := by decide +kernel
theorem dX1_hasWrongAbstract_57 : decode cX1_hasWrongAbstract 57 = .ok (.ifCond .ne 17, 3) := by decide +kernel
theorem dX1_hasWrongAbstract_60 : decode cX1_hasWrongAbstract 60 = .ok (.aload_n 0, 1) := by decide +kernel
theorem dX1_hasWrongAbstract_61 : decode cX1_hasWrongAbstract 61 = .ok (.getfield 75, 3) := by decide +kernel
theorem dX1_hasWrongAbstract_64 : decode cX1_hasWrongAbstract 64 = .ok (.getfield 79, 3) := by decide +kernel
theorem dX1_hasWrongAbstract_67 : decode cX1_hasWrongAbstract 67 = .ok (.iload_n 3, 1) := by decide +kernel
theorem dX1_hasWrongAbstract_68 : decode cX1_hasWrongAbstract 68 = .ok (.caload, 1) := by decide +kernel
theorem dX1_hasWrongAbstract_69 : decode cX1_hasWrongAbstract 69 = .ok (.bipush 118, 2) := by decide +kernel
theorem dX1_hasWrongAbstract_71 : decode cX1_hasWrongAbstract 71 = .ok (.if_icmp .ne 5, 3) := by decide +kernel
theorem dX1_hasWrongAbstract_74 : decode cX1_hasWrongAbstract 74 = .ok (.iconst 1, 1) := by decide +kernel
theorem dX1_hasWrongAbstract_75 : decode cX1_hasWrongAbstract 75 = .ok (.ireturn, 1) := by decide +kernel
theorem dX1_hasWrongAbstract_76 : decode cX1_hasWrongAbstract 76 = .ok (.iinc 3 1, 3) := by decide +kernel
theorem dX1_hasWrongAbstract_79 : decode cX1_hasWrongAbstract 79 = .ok (.goto (-48), 3) := by decide +kernel
theorem dX1_hasWrongAbstract_82 : decode cX1_hasWrongAbstract 82 = .ok (.iconst 0, 1) := by decide +kernel
theorem dX1_hasWrongAbstract_83 : decode cX1_hasWrongAbstract 83 = .ok (.ireturn, 1) := by decide +kernel
theorem dX1_standsWrongly_0 : decode cX1_standsWrongly 0 = .ok (.aload_n 0, 1) := by decide +kernel
theorem dX1_standsWrongly_1 : decode cX1_standsWrongly 1 = .ok (.getfield 21, 3) := by decide +kernel
theorem dX1_standsWrongly_4 : decode cX1_standsWrongly 4 = .ok (.iload_n 1, 1) := by decide +kernel
theorem dX1_standsWrongly_5 : decode cX1_standsWrongly 5 = .ok (.iaload, 1) := by decide +kernel
theorem dX1_standsWrongly_6 : decode cX1_standsWrongly 6 = .ok (.istore_n 2, 1) := by decide +kernel
theorem dX1_standsWrongly_7 : decode cX1_standsWrongly 7 = .ok (.iconst 1, 1) := by decide +kernel
theorem dX1_standsWrongly_8 : decode cX1_standsWrongly 8 = .ok (.istore_n 3, 1) := by decide +kernel
theorem dX1_standsWrongly_9 : decode cX1_standsWrongly 9 = .ok (.iload_n 3, 1) := by decide +kernel
theorem dX1_standsWrongly_10 : decode cX1_standsWrongly 10 = .ok (.iconst 5, 1) := by decide +kernel
theorem dX1_standsWrongly_11 : decode cX1_standsWrongly 11 = .ok (.if_icmp .ge 74, 3) := by decide +kernel
theorem dX1_standsWrongly_14 : decode cX1_standsWrongly 14 = .ok (.iload_n 2, 1) := by decide +kernel
theorem dX1_standsWrongly_15 : decode cX1_standsWrongly 15 = .ok (.iconst (-1), 1) := by decide +kernel
theorem dX1_standsWrongly_16 : decode cX1_standsWrongly 16 = .ok (.if_icmp .eq 69, 3) := by decide +kernel
theorem dX1_standsWrongly_19 : decode cX1_standsWrongly 19 = .ok (.aload_n 0, 1) := by decide +kernel
theorem dX1_standsWrongly_20 : decode cX1_standsWrongly 20 = .ok (.getfield 9, 3) := by decide +kernel
theorem dX1_standsWrongly_23 : decode cX1_standsWrongly 23 = .ok (.iload_n 2, 1) := by decide +kernel
theorem dX1_standsWrongly_24 : decode cX1_standsWrongly 24 = .ok (.caload, 1) := by decide +kernel
theorem dX1_standsWrongly_25 : decode cX1_standsWrongly 25 = .ok (.bipush 99, 2) := by decide +kernel
theorem dX1_standsWrongly_27 : decode cX1_standsWrongly 27 = .ok (.if_icmp .ne 58, 3) := by decide +kernel
theorem dX1_standsWrongly_30 : decode cX1_standsWrongly 30 = .ok (.iconst 0, 1) := by decide +kernel
theorem dX1_standsWrongly_31 : decode cX1_standsWrongly 31 = .ok (.istore 4, 2) := by decide +kernel
theorem dX1_standsWrongly_33 : decode cX1_standsWrongly 33 = .ok (.iload 4, 2) := by decide +kernel
theorem dX1_standsWrongly_35 : decode cX1_standsWrongly 35 = .ok (.bipush 6, 2) := by decide +kernel
theorem dX1_standsWrongly_37 : decode cX1_standsWrongly 37 = .ok (.if_icmp .ge 35, 3) := by decide +kernel
theorem dX1_standsWrongly_40 : decode cX1_standsWrongly 40 = .ok (.aload_n 0, 1) := by decide +kernel
theorem dX1_standsWrongly_41 : decode cX1_standsWrongly 41 = .ok (.getfield 75, 3) := by decide +kernel
theorem dX1_standsWrongly_44 : decode cX1_standsWrongly 44 = .ok (.iload_n 1, 1) := by decide +kernel
theorem dX1_standsWrongly_45 : decode cX1_standsWrongly 45 = .ok (.bipush 6, 2) := by decide +kernel
theorem dX1_standsWrongly_47 : decode cX1_standsWrongly 47 = .ok (.imul, 1) := by decide +kernel
theorem dX1_standsWrongly_48 : decode cX1_standsWrongly 48 = .ok (.iload 4, 2) := by decide +kernel
theorem dX1_standsWrongly_50 : decode cX1_standsWrongly 50 = .ok (.iadd, 1) := by decide +kernel
theorem dX1_standsWrongly_51 : decode cX1_standsWrongly 51 = .ok (.iload_n 2, 1) := by decide +kernel
theorem dX1_standsWrongly_52 : decode cX1_standsWrongly 52 = .ok (.bipush 6, 2) := by decide +kernel
theorem dX1_standsWrongly_54 : decode cX1_standsWrongly 54 = .ok (.imul, 1) := by decide +kernel
theorem dX1_standsWrongly_55 : decode cX1_standsWrongly 55 = .ok (.iload 4, 2) := by decide +kernel
theorem dX1_standsWrongly_57 : decode cX1_standsWrongly 57 = .ok (.iadd, 1) := by decide +kernel
theorem dX1_standsWrongly_58 : decode cX1_standsWrongly 58 = .ok (.invokestatic 88, 3) := by decide +kernel
theorem dX1_standsWrongly_61 : decode cX1_standsWrongly 61 = .ok (.ifCond .eq 5, 3) := by decide +kernel
theorem dX1_standsWrongly_64 : decode cX1_standsWrongly 64 = .ok (.iconst 1, 1) := by decide +kernel
theorem dX1_standsWrongly_65 : decode cX1_standsWrongly 65 = .ok (.ireturn, 1) := by decide +kernel
theorem dX1_standsWrongly_66 : decode cX1_standsWrongly 66 = .ok (.iinc 4 1, 3) := by decide +kernel
theorem dX1_standsWrongly_69 : decode cX1_standsWrongly 69 = .ok (.goto (-36), 3) := by decide +kernel
theorem dX1_standsWrongly_72 : decode cX1_standsWrongly 72 = .ok (.aload_n 0, 1) := by decide +kernel
theorem dX1_standsWrongly_73 : decode cX1_standsWrongly 73 = .ok (.getfield 21, 3) := by decide +kernel
theorem dX1_standsWrongly_76 : decode cX1_standsWrongly 76 = .ok (.iload_n 2, 1) := by decide +kernel
theorem dX1_standsWrongly_77 : decode cX1_standsWrongly 77 = .ok (.iaload, 1) := by decide +kernel
theorem dX1_standsWrongly_78 : decode cX1_standsWrongly 78 = .ok (.istore_n 2, 1) := by decide +kernel
theorem dX1_standsWrongly_79 : decode cX1_standsWrongly 79 = .ok (.iinc 3 1, 3) := by decide +kernel
theorem dX1_standsWrongly_82 : decode cX1_standsWrongly 82 = .ok (.goto (-73), 3) := by decide +kernel
theorem dX1_standsWrongly_85 : decode cX1_standsWrongly 85 = .ok (.iconst 0, 1) := by decide +kernel
theorem dX1_standsWrongly_86 : decode cX1_standsWrongly 86 = .ok (.ireturn, 1) := by decide +kernel
theorem dX1_clashes_0 : decode cX1_clashes 0 = .ok (.aload_n 0, 1) := by decide +kernel
theorem dX1_clashes_1 : decode cX1_clashes 1 = .ok (.getfield 79, 3) := by decide +kernel
theorem dX1_clashes_4 : decode cX1_clashes 4 = .ok (.iload_n 2, 1) := by decide +kernel
theorem dX1_clashes_5 : decode cX1_clashes 5 = .ok (.caload, 1) := by decide +kernel
theorem dX1_clashes_6 : decode cX1_clashes 6 = .ok (.istore_n 3, 1) := by decide +kernel
theorem dX1_clashes_7 : decode cX1_clashes 7 = .ok (.aload_n 0, 1) := by decide +kernel
theorem dX1_clashes_8 : decode cX1_clashes 8 = .ok (.getfield 79, 3) := by decide +kernel
theorem dX1_clashes_11 : decode cX1_clashes 11 = .ok (.iload_n 1, 1) := by decide +kernel
theorem dX1_clashes_12 : decode cX1_clashes 12 = .ok (.caload, 1) := by decide +kernel
theorem dX1_clashes_13 : decode cX1_clashes 13 = .ok (.bipush 45, 2) := by decide +kernel
theorem dX1_clashes_15 : decode cX1_clashes 15 = .ok (.if_icmp .eq 15, 3) := by decide +kernel
theorem dX1_clashes_18 : decode cX1_clashes 18 = .ok (.iload_n 3, 1) := by decide +kernel
theorem dX1_clashes_19 : decode cX1_clashes 19 = .ok (.bipush 45, 2) := by decide +kernel
theorem dX1_clashes_21 : decode cX1_clashes 21 = .ok (.if_icmp .eq 9, 3) := by decide +kernel
theorem dX1_clashes_24 : decode cX1_clashes 24 = .ok (.iload_n 3, 1) := by decide +kernel
theorem dX1_clashes_25 : decode cX1_clashes 25 = .ok (.bipush 118, 2) := by decide +kernel
theorem dX1_clashes_27 : decode cX1_clashes 27 = .ok (.if_icmp .ne 5, 3) := by decide +kernel
theorem dX1_clashes_30 : decode cX1_clashes 30 = .ok (.iconst 0, 1) := by decide +kernel
theorem dX1_clashes_31 : decode cX1_clashes 31 = .ok (.ireturn, 1) := by decide +kernel
theorem dX1_clashes_32 : decode cX1_clashes 32 = .ok (.aload_n 0, 1) := by decide +kernel
theorem dX1_clashes_33 : decode cX1_clashes 33 = .ok (.getfield 84, 3) := by decide +kernel
theorem dX1_clashes_36 : decode cX1_clashes 36 = .ok (.iload_n 1, 1) := by decide +kernel
theorem dX1_clashes_37 : decode cX1_clashes 37 = .ok (.caload, 1) := by decide +kernel
theorem dX1_clashes_38 : decode cX1_clashes 38 = .ok (.bipush 115, 2) := by decide +kernel
theorem dX1_clashes_40 : decode cX1_clashes 40 = .ok (.if_icmp .ne 7, 3) := by decide +kernel
theorem dX1_clashes_43 : decode cX1_clashes 43 = .ok (.iconst 1, 1) := by decide +kernel
theorem dX1_clashes_44 : decode cX1_clashes 44 = .ok (.goto 4, 3) := by decide +kernel
theorem dX1_clashes_47 : decode cX1_clashes 47 = .ok (.iconst 0, 1) := by decide +kernel
theorem dX1_clashes_48 : decode cX1_clashes 48 = .ok (.aload_n 0, 1) := by decide +kernel
theorem dX1_clashes_49 : decode cX1_clashes 49 = .ok (.getfield 84, 3) := by decide +kernel
theorem dX1_clashes_52 : decode cX1_clashes 52 = .ok (.iload_n 2, 1) := by decide +kernel
theorem dX1_clashes_53 : decode cX1_clashes 53 = .ok (.caload, 1) := by decide +kernel
theorem dX1_clashes_54 : decode cX1_clashes 54 = .ok (.bipush 115, 2) := by decide +kernel
theorem dX1_clashes_56 : decode cX1_clashes 56 = .ok (.if_icmp .ne 7, 3) := by decide +kernel
theorem dX1_clashes_59 : decode cX1_clashes 59 = .ok (.iconst 1, 1) := by decide +kernel
theorem dX1_clashes_60 : decode cX1_clashes 60 = .ok (.goto 4, 3) := by decide +kernel
theorem dX1_clashes_63 : decode cX1_clashes 63 = .ok (.iconst 0, 1) := by decide +kernel
theorem dX1_clashes_64 : decode cX1_clashes 64 = .ok (.if_icmp .ne 30, 3) := by decide +kernel
theorem dX1_clashes_67 : decode cX1_clashes 67 = .ok (.aload_n 0, 1) := by decide +kernel
theorem dX1_clashes_68 : decode cX1_clashes 68 = .ok (.getfield 84, 3) := by decide +kernel
theorem dX1_clashes_71 : decode cX1_clashes 71 = .ok (.iload_n 2, 1) := by decide +kernel
theorem dX1_clashes_72 : decode cX1_clashes 72 = .ok (.caload, 1) := by decide +kernel
theorem dX1_clashes_73 : decode cX1_clashes 73 = .ok (.bipush 102, 2) := by decide +kernel
theorem dX1_clashes_75 : decode cX1_clashes 75 = .ok (.if_icmp .eq 19, 3) := by decide +kernel
theorem dX1_clashes_78 : decode cX1_clashes 78 = .ok (.aload_n 0, 1) := by decide +kernel
theorem dX1_clashes_79 : decode cX1_clashes 79 = .ok (.getfield 79, 3) := by decide +kernel
theorem dX1_clashes_82 : decode cX1_clashes 82 = .ok (.iload_n 1, 1) := by decide +kernel
theorem dX1_clashes_83 : decode cX1_clashes 83 = .ok (.caload, 1) := by decide +kernel
theorem dX1_clashes_84 : decode cX1_clashes 84 = .ok (.invokestatic 92, 3) := by decide +kernel
theorem dX1_clashes_87 : decode cX1_clashes 87 = .ok (.iload_n 3, 1) := by decide +kernel
theorem dX1_clashes_88 : decode cX1_clashes 88 = .ok (.invokestatic 92, 3) := by decide +kernel
theorem dX1_clashes_91 : decode cX1_clashes 91 = .ok (.if_icmp .le 7, 3) := by decide +kernel
theorem dX1_clashes_94 : decode cX1_clashes 94 = .ok (.iconst 1, 1) := by decide +kernel
theorem dX1_clashes_95 : decode cX1_clashes 95 = .ok (.goto 4, 3) := by decide +kernel
theorem dX1_clashes_98 : decode cX1_clashes 98 = .ok (.iconst 0, 1) := by decide +kernel
theorem dX1_clashes_99 : decode cX1_clashes 99 = .ok (.ireturn, 1) := by decide +kernel
theorem dX1_hidesInterface_0 : decode cX1_hidesInterface 0 = .ok (.aload_n 1, 1) := by decide +kernel
theorem dX1_hidesInterface_1 : decode cX1_hidesInterface 1 = .ok (.getfield 41, 3) := by decide +kernel
theorem dX1_hidesInterface_4 : decode cX1_hidesInterface 4 = .ok (.iload_n 2, 1) := by decide +kernel
theorem dX1_hidesInterface_5 : decode cX1_hidesInterface 5 = .ok (.iaload, 1) := by decide +kernel
theorem dX1_hidesInterface_6 : decode cX1_hidesInterface 6 = .ok (.iconst 1, 1) := by decide +kernel
theorem dX1_hidesInterface_7 : decode cX1_hidesInterface 7 = .ok (.iload_n 2, 1) := by decide +kernel
theorem dX1_hidesInterface_8 : decode cX1_hidesInterface 8 = .ok (.ishl, 1) := by decide +kernel
theorem dX1_hidesInterface_9 : decode cX1_hidesInterface 9 = .ok (.iconst (-1), 1) := by decide +kernel
theorem dX1_hidesInterface_10 : decode cX1_hidesInterface 10 = .ok (.ixor, 1) := by decide +kernel
theorem dX1_hidesInterface_11 : decode cX1_hidesInterface 11 = .ok (.iand, 1) := by decide +kernel
theorem dX1_hidesInterface_12 : decode cX1_hidesInterface 12 = .ok (.istore_n 3, 1) := by decide +kernel
theorem dX1_hidesInterface_13 : decode cX1_hidesInterface 13 = .ok (.iconst 0, 1) := by decide +kernel
theorem dX1_hidesInterface_14 : decode cX1_hidesInterface 14 = .ok (.istore 4, 2) := by decide +kernel
theorem dX1_hidesInterface_16 : decode cX1_hidesInterface 16 = .ok (.iload 4, 2) := by decide +kernel
theorem dX1_hidesInterface_18 : decode cX1_hidesInterface 18 = .ok (.bipush 6, 2) := by decide +kernel
theorem dX1_hidesInterface_20 : decode cX1_hidesInterface 20 = .ok (.if_icmp .ge 86, 3) := by decide +kernel
theorem dX1_hidesInterface_23 : decode cX1_hidesInterface 23 = .ok (.aload_n 0, 1) := by decide +kernel
theorem dX1_hidesInterface_24 : decode cX1_hidesInterface 24 = .ok (.getfield 75, 3) := by decide +kernel
theorem dX1_hidesInterface_27 : decode cX1_hidesInterface 27 = .ok (.getfield 79, 3) := by decide +kernel
theorem dX1_hidesInterface_30 : decode cX1_hidesInterface 30 = .ok (.iload_n 2, 1) := by decide +kernel
theorem dX1_hidesInterface_31 : decode cX1_hidesInterface 31 = .ok (.bipush 6, 2) := by decide +kernel
theorem dX1_hidesInterface_33 : decode cX1_hidesInterface 33 = .ok (.imul, 1) := by decide +kernel
theorem dX1_hidesInterface_34 : decode cX1_hidesInterface 34 = .ok (.iload 4, 2) := by decide +kernel
theorem dX1_hidesInterface_36 : decode cX1_hidesInterface 36 = .ok (.iadd, 1) := by decide +kernel
theorem dX1_hidesInterface_37 : decode cX1_hidesInterface 37 = .ok (.caload, 1) := by decide +kernel
theorem dX1_hidesInterface_38 : decode cX1_hidesInterface 38 = .ok (.istore 5, 2) := by decide +kernel
theorem dX1_hidesInterface_40 : decode cX1_hidesInterface 40 = .ok (.iload 5, 2) := by decide +kernel
theorem dX1_hidesInterface_42 : decode cX1_hidesInterface 42 = .ok (.bipush 45, 2) := by decide +kernel
theorem dX1_hidesInterface_44 : decode cX1_hidesInterface 44 = .ok (.if_icmp .eq 34, 3) := by decide +kernel
theorem dX1_hidesInterface_47 : decode cX1_hidesInterface 47 = .ok (.iload 5, 2) := by decide +kernel
theorem dX1_hidesInterface_49 : decode cX1_hidesInterface 49 = .ok (.bipush 112, 2) := by decide +kernel
theorem dX1_hidesInterface_51 : decode cX1_hidesInterface 51 = .ok (.if_icmp .ne 23, 3) := by decide +kernel
theorem dX1_hidesInterface_54 : decode cX1_hidesInterface 54 = .ok (.aload_n 0, 1) := by decide +kernel
theorem dX1_hidesInterface_55 : decode cX1_hidesInterface 55 = .ok (.getfield 75, 3) := by decide +kernel
theorem dX1_hidesInterface_58 : decode cX1_hidesInterface 58 = .ok (.getfield 84, 3) := by decide +kernel
theorem dX1_hidesInterface_61 : decode cX1_hidesInterface 61 = .ok (.iload_n 2, 1) := by decide +kernel
theorem dX1_hidesInterface_62 : decode cX1_hidesInterface 62 = .ok (.bipush 6, 2) := by decide +kernel
theorem dX1_hidesInterface_64 : decode cX1_hidesInterface 64 = .ok (.imul, 1) := by decide +kernel
theorem dX1_hidesInterface_65 : decode cX1_hidesInterface 65 = .ok (.iload 4, 2) := by decide +kernel
theorem dX1_hidesInterface_67 : decode cX1_hidesInterface 67 = .ok (.iadd, 1) := by decide +kernel
theorem dX1_hidesInterface_68 : decode cX1_hidesInterface 68 = .ok (.caload, 1) := by decide +kernel
theorem dX1_hidesInterface_69 : decode cX1_hidesInterface 69 = .ok (.bipush 115, 2) := by decide +kernel
theorem dX1_hidesInterface_71 : decode cX1_hidesInterface 71 = .ok (.if_icmp .ne 7, 3) := by decide +kernel
theorem dX1_hidesInterface_74 : decode cX1_hidesInterface 74 = .ok (.iconst 1, 1) := by decide +kernel
theorem dX1_hidesInterface_75 : decode cX1_hidesInterface 75 = .ok (.goto 4, 3) := by decide +kernel
theorem dX1_hidesInterface_78 : decode cX1_hidesInterface 78 = .ok (.iconst 0, 1) := by decide +kernel
theorem dX1_hidesInterface_79 : decode cX1_hidesInterface 79 = .ok (.istore 6, 2) := by decide +kernel
theorem dX1_hidesInterface_81 : decode cX1_hidesInterface 81 = .ok (.iload 6, 2) := by decide +kernel
theorem dX1_hidesInterface_83 : decode cX1_hidesInterface 83 = .ok (.ifCond .eq 17, 3) := by decide +kernel
theorem dX1_hidesInterface_86 : decode cX1_hidesInterface 86 = .ok (.aload_n 1, 1) := by decide +kernel
theorem dX1_hidesInterface_87 : decode cX1_hidesInterface 87 = .ok (.getfield 96, 3) := by decide +kernel
theorem dX1_hidesInterface_90 : decode cX1_hidesInterface 90 = .ok (.iload 4, 2) := by decide +kernel
theorem dX1_hidesInterface_92 : decode cX1_hidesInterface 92 = .ok (.iaload, 1) := by decide +kernel
theorem dX1_hidesInterface_93 : decode cX1_hidesInterface 93 = .ok (.iload_n 3, 1) := by decide +kernel
theorem dX1_hidesInterface_94 : decode cX1_hidesInterface 94 = .ok (.iand, 1) := by decide +kernel
theorem dX1_hidesInterface_95 : decode cX1_hidesInterface 95 = .ok (.ifCond .eq 5, 3) := by decide +kernel
theorem dX1_hidesInterface_98 : decode cX1_hidesInterface 98 = .ok (.iconst 1, 1) := by decide +kernel
theorem dX1_hidesInterface_99 : decode cX1_hidesInterface 99 = .ok (.ireturn, 1) := by decide +kernel
theorem dX1_hidesInterface_100 : decode cX1_hidesInterface 100 = .ok (.iinc 4 1, 3) := by decide +kernel
theorem dX1_hidesInterface_103 : decode cX1_hidesInterface 103 = .ok (.goto (-87), 3) := by decide +kernel
theorem dX1_hidesInterface_106 : decode cX1_hidesInterface 106 = .ok (.iconst 0, 1) := by decide +kernel
theorem dX1_hidesInterface_107 : decode cX1_hidesInterface 107 = .ok (.ireturn, 1) := by decide +kernel
theorem dX1_lacksMethod_0 : decode cX1_lacksMethod 0 = .ok (.iconst 0, 1) := by decide +kernel
theorem dX1_lacksMethod_1 : decode cX1_lacksMethod 1 = .ok (.istore_n 2, 1) := by decide +kernel
theorem dX1_lacksMethod_2 : decode cX1_lacksMethod 2 = .ok (.iload_n 2, 1) := by decide +kernel
theorem dX1_lacksMethod_3 : decode cX1_lacksMethod 3 = .ok (.bipush 6, 2) := by decide +kernel
theorem dX1_lacksMethod_5 : decode cX1_lacksMethod 5 = .ok (.if_icmp .ge 66, 3) := by decide +kernel
theorem dX1_lacksMethod_8 : decode cX1_lacksMethod 8 = .ok (.aload_n 0, 1) := by decide +kernel
theorem dX1_lacksMethod_9 : decode cX1_lacksMethod 9 = .ok (.getfield 99, 3) := by decide +kernel
theorem dX1_lacksMethod_12 : decode cX1_lacksMethod 12 = .ok (.iload_n 1, 1) := by decide +kernel
theorem dX1_lacksMethod_13 : decode cX1_lacksMethod 13 = .ok (.bipush 6, 2) := by decide +kernel
theorem dX1_lacksMethod_15 : decode cX1_lacksMethod 15 = .ok (.imul, 1) := by decide +kernel
theorem dX1_lacksMethod_16 : decode cX1_lacksMethod 16 = .ok (.iload_n 2, 1) := by decide +kernel
theorem dX1_lacksMethod_17 : decode cX1_lacksMethod 17 = .ok (.iadd, 1) := by decide +kernel
theorem dX1_lacksMethod_18 : decode cX1_lacksMethod 18 = .ok (.iaload, 1) := by decide +kernel
theorem dX1_lacksMethod_19 : decode cX1_lacksMethod 19 = .ok (.iconst (-1), 1) := by decide +kernel
theorem dX1_lacksMethod_20 : decode cX1_lacksMethod 20 = .ok (.if_icmp .ne 19, 3) := by decide +kernel
theorem dX1_lacksMethod_23 : decode cX1_lacksMethod 23 = .ok (.aload_n 0, 1) := by decide +kernel
theorem dX1_lacksMethod_24 : decode cX1_lacksMethod 24 = .ok (.getfield 96, 3) := by decide +kernel
theorem dX1_lacksMethod_27 : decode cX1_lacksMethod 27 = .ok (.iload_n 2, 1) := by decide +kernel
theorem dX1_lacksMethod_28 : decode cX1_lacksMethod 28 = .ok (.iaload, 1) := by decide +kernel
theorem dX1_lacksMethod_29 : decode cX1_lacksMethod 29 = .ok (.aload_n 0, 1) := by decide +kernel
theorem dX1_lacksMethod_30 : decode cX1_lacksMethod 30 = .ok (.getfield 41, 3) := by decide +kernel
theorem dX1_lacksMethod_33 : decode cX1_lacksMethod 33 = .ok (.iload_n 1, 1) := by decide +kernel
theorem dX1_lacksMethod_34 : decode cX1_lacksMethod 34 = .ok (.iaload, 1) := by decide +kernel
theorem dX1_lacksMethod_35 : decode cX1_lacksMethod 35 = .ok (.iand, 1) := by decide +kernel
theorem dX1_lacksMethod_36 : decode cX1_lacksMethod 36 = .ok (.ifCond .eq 7, 3) := by decide +kernel
theorem dX1_lacksMethod_39 : decode cX1_lacksMethod 39 = .ok (.iconst 1, 1) := by decide +kernel
theorem dX1_lacksMethod_40 : decode cX1_lacksMethod 40 = .ok (.goto 4, 3) := by decide +kernel
theorem dX1_lacksMethod_43 : decode cX1_lacksMethod 43 = .ok (.iconst 0, 1) := by decide +kernel
theorem dX1_lacksMethod_44 : decode cX1_lacksMethod 44 = .ok (.istore_n 3, 1) := by decide +kernel
theorem dX1_lacksMethod_45 : decode cX1_lacksMethod 45 = .ok (.iload_n 3, 1) := by decide +kernel
theorem dX1_lacksMethod_46 : decode cX1_lacksMethod 46 = .ok (.ifCond .eq 19, 3) := by decide +kernel
theorem dX1_lacksMethod_49 : decode cX1_lacksMethod 49 = .ok (.aload_n 0, 1) := by decide +kernel
theorem dX1_lacksMethod_50 : decode cX1_lacksMethod 50 = .ok (.getfield 102, 3) := by decide +kernel
theorem dX1_lacksMethod_53 : decode cX1_lacksMethod 53 = .ok (.iload_n 1, 1) := by decide +kernel
theorem dX1_lacksMethod_54 : decode cX1_lacksMethod 54 = .ok (.bipush 6, 2) := by decide +kernel
theorem dX1_lacksMethod_56 : decode cX1_lacksMethod 56 = .ok (.imul, 1) := by decide +kernel
theorem dX1_lacksMethod_57 : decode cX1_lacksMethod 57 = .ok (.iload_n 2, 1) := by decide +kernel
theorem dX1_lacksMethod_58 : decode cX1_lacksMethod 58 = .ok (.iadd, 1) := by decide +kernel
theorem dX1_lacksMethod_59 : decode cX1_lacksMethod 59 = .ok (.iaload, 1) := by decide +kernel
theorem dX1_lacksMethod_60 : decode cX1_lacksMethod 60 = .ok (.ifCond .ge 5, 3) := by decide +kernel
theorem dX1_lacksMethod_63 : decode cX1_lacksMethod 63 = .ok (.iconst 1, 1) := by decide +kernel
theorem dX1_lacksMethod_64 : decode cX1_lacksMethod 64 = .ok (.ireturn, 1) := by decide +kernel
theorem dX1_lacksMethod_65 : decode cX1_lacksMethod 65 = .ok (.iinc 2 1, 3) := by decide +kernel
theorem dX1_lacksMethod_68 : decode cX1_lacksMethod 68 = .ok (.goto (-66), 3) := by decide +kernel
theorem dX1_lacksMethod_71 : decode cX1_lacksMethod 71 = .ok (.iconst 0, 1) := by decide +kernel
theorem dX1_lacksMethod_72 : decode cX1_lacksMethod 72 = .ok (.ireturn, 1) := by decide +kernel
theorem dX2_init_0 : decode cX2_init 0 = .ok (.aload_n 0, 1) := by decide +kernel
theorem dX2_init_1 : decode cX2_init 1 = .ok (.invokespecial 3, 3) := by decide +kernel
theorem dX2_init_4 : decode cX2_init 4 = .ok (.aload_n 0, 1) := by decide +kernel
theorem dX2_init_5 : decode cX2_init 5 = .ok (.iconst 5, 1) := by decide +kernel
theorem dX2_init_6 : decode cX2_init 6 = .ok (.newarray .char, 2) := by decide +kernel
theorem dX2_init_8 : decode cX2_init 8 = .ok (.putfield 9, 3) := by decide +kernel
theorem dX2_init_11 : decode cX2_init 11 = .ok (.aload_n 0, 1) := by decide +kernel
theorem dX2_init_12 : decode cX2_init 12 = .ok (.iconst 5, 1) := by decide +kernel
theorem dX2_init_13 : decode cX2_init 13 = .ok (.newarray .boolean, 2) := by decide +kernel
theorem dX2_init_15 : decode cX2_init 15 = .ok (.putfield 15, 3) := by decide +kernel
theorem dX2_init_18 : decode cX2_init 18 = .ok (.aload_n 0, 1) := by decide +kernel
theorem dX2_init_19 : decode cX2_init 19 = .ok (.iconst 5, 1) := by decide +kernel
theorem dX2_init_20 : decode cX2_init 20 = .ok (.newarray .boolean, 2) := by decide +kernel
theorem dX2_init_22 : decode cX2_init 22 = .ok (.putfield 19, 3) := by decide +kernel
theorem dX2_init_25 : decode cX2_init 25 = .ok (.aload_n 0, 1) := by decide +kernel
theorem dX2_init_26 : decode cX2_init 26 = .ok (.iconst 5, 1) := by decide +kernel
theorem dX2_init_27 : decode cX2_init 27 = .ok (.newarray .boolean, 2) := by decide +kernel
theorem dX2_init_29 : decode cX2_init 29 = .ok (.putfield 22, 3) := by decide +kernel
theorem dX2_init_32 : decode cX2_init 32 = .ok (.aload_n 0, 1) := by decide +kernel
theorem dX2_init_33 : decode cX2_init 33 = .ok (.iconst 5, 1) := by decide +kernel
theorem dX2_init_34 : decode cX2_init 34 = .ok (.newarray .char, 2) := by decide +kernel
theorem dX2_init_36 : decode cX2_init 36 = .ok (.putfield 25, 3) := by decide +kernel
theorem dX2_init_39 : decode cX2_init 39 = .ok (.aload_n 0, 1) := by decide +kernel
theorem dX2_init_40 : decode cX2_init 40 = .ok (.iconst 5, 1) := by decide +kernel
theorem dX2_init_41 : decode cX2_init 41 = .ok (.newarray .int, 2) := by decide +kernel
theorem dX2_init_43 : decode cX2_init 43 = .ok (.putfield 28, 3) := by decide +kernel
theorem dX2_init_46 : decode cX2_init 46 = .ok (.aload_n 0, 1) := by decide +kernel
theorem dX2_init_47 : decode cX2_init 47 = .ok (.iconst 5, 1) := by decide +kernel
theorem dX2_init_48 : decode cX2_init 48 = .ok (.newarray .int, 2) := by decide +kernel
theorem dX2_init_50 : decode cX2_init 50 = .ok (.putfield 32, 3) := by decide +kernel
theorem dX2_init_53 : decode cX2_init 53 = .ok (.aload_n 0, 1) := by decide +kernel
theorem dX2_init_54 : decode cX2_init 54 = .ok (.new 35, 3) := by decide +kernel
theorem dX2_init_57 : decode cX2_init 57 = .ok (.dup, 1) := by decide +kernel
theorem dX2_init_58 : decode cX2_init 58 = .ok (.invokespecial 37, 3) := by decide +kernel
theorem dX2_init_61 : decode cX2_init 61 = .ok (.putfield 38, 3) := by decide +kernel
theorem dX2_init_64 : decode cX2_init 64 = .ok (.aload_n 0, 1) := by decide +kernel
theorem dX2_init_65 : decode cX2_init 65 = .ok (.new 35, 3) := by decide +kernel
theorem dX2_init_68 : decode cX2_init 68 = .ok (.dup, 1) := by decide +kernel
theorem dX2_init_69 : decode cX2_init 69 = .ok (.invokespecial 37, 3) := by decide +kernel
theorem dX2_init_72 : decode cX2_init 72 = .ok (.putfield 42, 3) := by decide +kernel
theorem dX2_init_75 : decode cX2_init 75 = .ok (.iconst 0, 1) := by decide +kernel
theorem dX2_init_76 : decode cX2_init 76 = .ok (.istore_n 1, 1) := by decide +kernel
theorem dX2_init_77 : decode cX2_init 77 = .ok (.iload_n 1, 1) := by decide +kernel
theorem dX2_init_78 : decode cX2_init 78 = .ok (.iconst 5, 1) := by decide +kernel
theorem dX2_init_79 : decode cX2_init 79 = .ok (.if_icmp .ge 24, 3) := by decide +kernel
theorem dX2_init_82 : decode cX2_init 82 = .ok (.aload_n 0, 1) := by decide +kernel
theorem dX2_init_83 : decode cX2_init 83 = .ok (.getfield 9, 3) := by decide +kernel
theorem dX2_init_86 : decode cX2_init 86 = .ok (.iload_n 1, 1) := by decide +kernel
theorem dX2_init_87 : decode cX2_init 87 = .ok (.bipush 45, 2) := by decide +kernel
theorem dX2_init_89 : decode cX2_init 89 = .ok (.castore, 1) := by decide +kernel
theorem dX2_init_90 : decode cX2_init 90 = .ok (.aload_n 0, 1) := by decide +kernel
theorem dX2_init_91 : decode cX2_init 91 = .ok (.getfield 28, 3) := by decide +kernel
theorem dX2_init_94 : decode cX2_init 94 = .ok (.iload_n 1, 1) := by decide +kernel
theorem dX2_init_95 : decode cX2_init 95 = .ok (.iconst (-1), 1) := by decide +kernel
theorem dX2_init_96 : decode cX2_init 96 = .ok (.iastore, 1) := by decide +kernel
theorem dX2_init_97 : decode cX2_init 97 = .ok (.iinc 1 1, 3) := by decide +kernel
theorem dX2_init_100 : decode cX2_init 100 = .ok (.goto (-23), 3) := by decide +kernel
theorem dX2_init_103 : decode cX2_init 103 = .ok (.return_, 1) := by decide +kernel
theorem dX2_renew_0 : decode cX2_renew 0 = .ok (.aload_n 0, 1) := by decide +kernel
theorem dX2_renew_1 : decode cX2_renew 1 = .ok (.getfield 9, 3) := by decide +kernel
theorem dX2_renew_4 : decode cX2_renew 4 = .ok (.iload_n 1, 1) := by decide +kernel
theorem dX2_renew_5 : decode cX2_renew 5 = .ok (.iload_n 2, 1) := by decide +kernel
theorem dX2_renew_6 : decode cX2_renew 6 = .ok (.castore, 1) := by decide +kernel
theorem dX2_renew_7 : decode cX2_renew 7 = .ok (.aload_n 0, 1) := by decide +kernel
theorem dX2_renew_8 : decode cX2_renew 8 = .ok (.getfield 15, 3) := by decide +kernel
theorem dX2_renew_11 : decode cX2_renew 11 = .ok (.iload_n 1, 1) := by decide +kernel
theorem dX2_renew_12 : decode cX2_renew 12 = .ok (.iconst 1, 1) := by decide +kernel
theorem dX2_renew_13 : decode cX2_renew 13 = .ok (.bastore, 1) := by decide +kernel
theorem dX2_renew_14 : decode cX2_renew 14 = .ok (.aload_n 0, 1) := by decide +kernel
theorem dX2_renew_15 : decode cX2_renew 15 = .ok (.getfield 19, 3) := by decide +kernel
theorem dX2_renew_18 : decode cX2_renew 18 = .ok (.iload_n 1, 1) := by decide +kernel
theorem dX2_renew_19 : decode cX2_renew 19 = .ok (.iconst 0, 1) := by decide +kernel
theorem dX2_renew_20 : decode cX2_renew 20 = .ok (.bastore, 1) := by decide +kernel
theorem dX2_renew_21 : decode cX2_renew 21 = .ok (.aload_n 0, 1) := by decide +kernel
theorem dX2_renew_22 : decode cX2_renew 22 = .ok (.getfield 22, 3) := by decide +kernel
theorem dX2_renew_25 : decode cX2_renew 25 = .ok (.iload_n 1, 1) := by decide +kernel
theorem dX2_renew_26 : decode cX2_renew 26 = .ok (.iconst 0, 1) := by decide +kernel
theorem dX2_renew_27 : decode cX2_renew 27 = .ok (.bastore, 1) := by decide +kernel
theorem dX2_renew_28 : decode cX2_renew 28 = .ok (.aload_n 0, 1) := by decide +kernel
theorem dX2_renew_29 : decode cX2_renew 29 = .ok (.getfield 25, 3) := by decide +kernel
theorem dX2_renew_32 : decode cX2_renew 32 = .ok (.iload_n 1, 1) := by decide +kernel
theorem dX2_renew_33 : decode cX2_renew 33 = .ok (.bipush 112, 2) := by decide +kernel
theorem dX2_renew_35 : decode cX2_renew 35 = .ok (.castore, 1) := by decide +kernel
theorem dX2_renew_36 : decode cX2_renew 36 = .ok (.aload_n 0, 1) := by decide +kernel
theorem dX2_renew_37 : decode cX2_renew 37 = .ok (.getfield 28, 3) := by decide +kernel
theorem dX2_renew_40 : decode cX2_renew 40 = .ok (.iload_n 1, 1) := by decide +kernel
theorem dX2_renew_41 : decode cX2_renew 41 = .ok (.iconst (-1), 1) := by decide +kernel
theorem dX2_renew_42 : decode cX2_renew 42 = .ok (.iastore, 1) := by decide +kernel
theorem dX2_renew_43 : decode cX2_renew 43 = .ok (.aload_n 0, 1) := by decide +kernel
theorem dX2_renew_44 : decode cX2_renew 44 = .ok (.getfield 32, 3) := by decide +kernel
theorem dX2_renew_47 : decode cX2_renew 47 = .ok (.iload_n 1, 1) := by decide +kernel
theorem dX2_renew_48 : decode cX2_renew 48 = .ok (.iconst 0, 1) := by decide +kernel
theorem dX2_renew_49 : decode cX2_renew 49 = .ok (.iastore, 1) := by decide +kernel
theorem dX2_renew_50 : decode cX2_renew 50 = .ok (.aload_n 0, 1) := by decide +kernel
theorem dX2_renew_51 : decode cX2_renew 51 = .ok (.getfield 38, 3) := by decide +kernel
theorem dX2_renew_54 : decode cX2_renew 54 = .ok (.iload_n 1, 1) := by decide +kernel
theorem dX2_renew_55 : decode cX2_renew 55 = .ok (.invokevirtual 45, 3) := by decide +kernel
theorem dX2_renew_58 : decode cX2_renew 58 = .ok (.aload_n 0, 1) := by decide +kernel
theorem dX2_renew_59 : decode cX2_renew 59 = .ok (.getfield 42, 3) := by decide +kernel
theorem dX2_renew_62 : decode cX2_renew 62 = .ok (.iload_n 1, 1) := by decide +kernel
theorem dX2_renew_63 : decode cX2_renew 63 = .ok (.invokevirtual 45, 3) := by decide +kernel
theorem dX2_renew_66 : decode cX2_renew 66 = .ok (.return_, 1) := by decide +kernel
theorem dX2_become_0 : decode cX2_become 0 = .ok (.aload_n 1, 1) := by decide +kernel
theorem dX2_become_1 : decode cX2_become 1 = .ok (.getfield 9, 3) := by decide +kernel
theorem dX2_become_4 : decode cX2_become 4 = .ok (.iconst 0, 1) := by decide +kernel
theorem dX2_become_5 : decode cX2_become 5 = .ok (.aload_n 0, 1) := by decide +kernel
theorem dX2_become_6 : decode cX2_become 6 = .ok (.getfield 9, 3) := by decide +kernel
theorem dX2_become_9 : decode cX2_become 9 = .ok (.iconst 0, 1) := by decide +kernel
theorem dX2_become_10 : decode cX2_become 10 = .ok (.iconst 5, 1) := by decide +kernel
theorem dX2_become_11 : decode cX2_become 11 = .ok (.invokestatic 49, 3) := by decide +kernel
theorem dX2_become_14 : decode cX2_become 14 = .ok (.aload_n 1, 1) := by decide +kernel
theorem dX2_become_15 : decode cX2_become 15 = .ok (.getfield 15, 3) := by decide +kernel
theorem dX2_become_18 : decode cX2_become 18 = .ok (.iconst 0, 1) := by decide +kernel
theorem dX2_become_19 : decode cX2_become 19 = .ok (.aload_n 0, 1) := by decide +kernel
theorem dX2_become_20 : decode cX2_become 20 = .ok (.getfield 15, 3) := by decide +kernel
theorem dX2_become_23 : decode cX2_become 23 = .ok (.iconst 0, 1) := by decide +kernel
theorem dX2_become_24 : decode cX2_become 24 = .ok (.iconst 5, 1) := by decide +kernel
theorem dX2_become_25 : decode cX2_become 25 = .ok (.invokestatic 49, 3) := by decide +kernel
theorem dX2_become_28 : decode cX2_become 28 = .ok (.aload_n 1, 1) := by decide +kernel
theorem dX2_become_29 : decode cX2_become 29 = .ok (.getfield 19, 3) := by decide +kernel
theorem dX2_become_32 : decode cX2_become 32 = .ok (.iconst 0, 1) := by decide +kernel
theorem dX2_become_33 : decode cX2_become 33 = .ok (.aload_n 0, 1) := by decide +kernel
theorem dX2_become_34 : decode cX2_become 34 = .ok (.getfield 19, 3) := by decide +kernel
theorem dX2_become_37 : decode cX2_become 37 = .ok (.iconst 0, 1) := by decide +kernel
theorem dX2_become_38 : decode cX2_become 38 = .ok (.iconst 5, 1) := by decide +kernel
theorem dX2_become_39 : decode cX2_become 39 = .ok (.invokestatic 49, 3) := by decide +kernel
theorem dX2_become_42 : decode cX2_become 42 = .ok (.aload_n 1, 1) := by decide +kernel
theorem dX2_become_43 : decode cX2_become 43 = .ok (.getfield 22, 3) := by decide +kernel
theorem dX2_become_46 : decode cX2_become 46 = .ok (.iconst 0, 1) := by decide +kernel
theorem dX2_become_47 : decode cX2_become 47 = .ok (.aload_n 0, 1) := by decide +kernel
theorem dX2_become_48 : decode cX2_become 48 = .ok (.getfield 22, 3) := by decide +kernel
theorem dX2_become_51 : decode cX2_become 51 = .ok (.iconst 0, 1) := by decide +kernel
theorem dX2_become_52 : decode cX2_become 52 = .ok (.iconst 5, 1) := by decide +kernel
theorem dX2_become_53 : decode cX2_become 53 = .ok (.invokestatic 49, 3) := by decide +kernel
theorem dX2_become_56 : decode cX2_become 56 = .ok (.aload_n 1, 1) := by decide +kernel
theorem dX2_become_57 : decode cX2_become 57 = .ok (.getfield 25, 3) := by decide +kernel
theorem dX2_become_60 : decode cX2_become 60 = .ok (.iconst 0, 1) := by decide +kernel
theorem dX2_become_61 : decode cX2_become 61 = .ok (.aload_n 0, 1) := by decide +kernel
theorem dX2_become_62 : decode cX2_become 62 = .ok (.getfield 25, 3) := by decide +kernel
theorem dX2_become_65 : decode cX2_become 65 = .ok (.iconst 0, 1) := by decide +kernel
theorem dX2_become_66 : decode cX2_become 66 = .ok (.iconst 5, 1) := by decide +kernel
theorem dX2_become_67 : decode cX2_become 67 = .ok (.invokestatic 49, 3) := by decide +kernel
theorem dX2_become_70 : decode cX2_become 70 = .ok (.aload_n 1, 1) := by decide +kernel
theorem dX2_become_71 : decode cX2_become 71 = .ok (.getfield 28, 3) := by decide +kernel
theorem dX2_become_74 : decode cX2_become 74 = .ok (.iconst 0, 1) := by decide +kernel
theorem dX2_become_75 : decode cX2_become 75 = .ok (.aload_n 0, 1) := by decide +kernel
theorem dX2_become_76 : decode cX2_become 76 = .ok (.getfield 28, 3) := by decide +kernel
theorem dX2_become_79 : decode cX2_become 79 = .ok (.iconst 0, 1) := by decide +kernel
theorem dX2_become_80 : decode cX2_become 80 = .ok (.iconst 5, 1) := by decide +kernel
theorem dX2_become_81 : decode cX2_become 81 = .ok (.invokestatic 49, 3) := by decide +kernel
theorem dX2_become_84 : decode cX2_become 84 = .ok (.aload_n 1, 1) := by decide +kernel
theorem dX2_become_85 : decode cX2_become 85 = .ok (.getfield 32, 3) := by decide +kernel
theorem dX2_become_88 : decode cX2_become 88 = .ok (.iconst 0, 1) := by decide +kernel
theorem dX2_become_89 : decode cX2_become 89 = .ok (.aload_n 0, 1) := by decide +kernel
theorem dX2_become_90 : decode cX2_become 90 = .ok (.getfield 32, 3) := by decide +kernel
theorem dX2_become_93 : decode cX2_become 93 = .ok (.iconst 0, 1) := by decide +kernel
theorem dX2_become_94 : decode cX2_become 94 = .ok (.iconst 5, 1) := by decide +kernel
theorem dX2_become_95 : decode cX2_become 95 = .ok (.invokestatic 49, 3) := by decide +kernel
theorem dX2_become_98 : decode cX2_become 98 = .ok (.aload_n 0, 1) := by decide +kernel
theorem dX2_become_99 : decode cX2_become 99 = .ok (.getfield 38, 3) := by decide +kernel
theorem dX2_become_102 : decode cX2_become 102 = .ok (.aload_n 1, 1) := by decide +kernel
theorem dX2_become_103 : decode cX2_become 103 = .ok (.getfield 38, 3) := by decide +kernel
theorem dX2_become_106 : decode cX2_become 106 = .ok (.invokevirtual 55, 3) := by decide +kernel
theorem dX2_become_109 : decode cX2_become 109 = .ok (.aload_n 0, 1) := by decide +kernel
theorem dX2_become_110 : decode cX2_become 110 = .ok (.getfield 42, 3) := by decide +kernel
theorem dX2_become_113 : decode cX2_become 113 = .ok (.aload_n 1, 1) := by decide +kernel
theorem dX2_become_114 : decode cX2_become 114 = .ok (.getfield 42, 3) := by decide +kernel
theorem dX2_become_117 : decode cX2_become 117 = .ok (.invokevirtual 55, 3) := by decide +kernel
theorem dX2_become_120 : decode cX2_become 120 = .ok (.return_, 1) := by decide +kernel
theorem dX2_flagsOf_0 : decode cX2_flagsOf 0 = .ok (.iload_n 1, 1) := by decide +kernel
theorem dX2_flagsOf_1 : decode cX2_flagsOf 1 = .ok (.bipush 111, 2) := by decide +kernel
theorem dX2_flagsOf_3 : decode cX2_flagsOf 3 = .ok (.if_icmp .ne 10, 3) := by decide +kernel
theorem dX2_flagsOf_6 : decode cX2_flagsOf 6 = .ok (.aload_n 0, 1) := by decide +kernel
theorem dX2_flagsOf_7 : decode cX2_flagsOf 7 = .ok (.getfield 15, 3) := by decide +kernel
theorem dX2_flagsOf_10 : decode cX2_flagsOf 10 = .ok (.goto 20, 3) := by decide +kernel
theorem dX2_flagsOf_13 : decode cX2_flagsOf 13 = .ok (.iload_n 1, 1) := by decide +kernel
theorem dX2_flagsOf_14 : decode cX2_flagsOf 14 = .ok (.bipush 97, 2) := by decide +kernel
theorem dX2_flagsOf_16 : decode cX2_flagsOf 16 = .ok (.if_icmp .ne 10, 3) := by decide +kernel
theorem dX2_flagsOf_19 : decode cX2_flagsOf 19 = .ok (.aload_n 0, 1) := by decide +kernel
theorem dX2_flagsOf_20 : decode cX2_flagsOf 20 = .ok (.getfield 19, 3) := by decide +kernel
theorem dX2_flagsOf_23 : decode cX2_flagsOf 23 = .ok (.goto 7, 3) := by decide +kernel
theorem dX2_flagsOf_26 : decode cX2_flagsOf 26 = .ok (.aload_n 0, 1) := by decide +kernel
theorem dX2_flagsOf_27 : decode cX2_flagsOf 27 = .ok (.getfield 22, 3) := by decide +kernel
theorem dX2_flagsOf_30 : decode cX2_flagsOf 30 = .ok (.areturn, 1) := by decide +kernel
theorem dX2_typeCount_0 : decode cX2_typeCount 0 = .ok (.iconst 0, 1) := by decide +kernel
theorem dX2_typeCount_1 : decode cX2_typeCount 1 = .ok (.istore_n 1, 1) := by decide +kernel
theorem dX2_typeCount_2 : decode cX2_typeCount 2 = .ok (.aload_n 0, 1) := by decide +kernel
theorem dX2_typeCount_3 : decode cX2_typeCount 3 = .ok (.getfield 9, 3) := by decide +kernel
theorem dX2_typeCount_6 : decode cX2_typeCount 6 = .ok (.astore_n 2, 1) := by decide +kernel
theorem dX2_typeCount_7 : decode cX2_typeCount 7 = .ok (.aload_n 2, 1) := by decide +kernel
theorem dX2_typeCount_8 : decode cX2_typeCount 8 = .ok (.arraylength, 1) := by decide +kernel
theorem dX2_typeCount_9 : decode cX2_typeCount 9 = .ok (.istore_n 3, 1) := by decide +kernel
theorem dX2_typeCount_10 : decode cX2_typeCount 10 = .ok (.iconst 0, 1) := by decide +kernel
theorem dX2_typeCount_11 : decode cX2_typeCount 11 = .ok (.istore 4, 2) := by decide +kernel
theorem dX2_typeCount_13 : decode cX2_typeCount 13 = .ok (.iload 4, 2) := by decide +kernel
theorem dX2_typeCount_15 : decode cX2_typeCount 15 = .ok (.iload_n 3, 1) := by decide +kernel
theorem dX2_typeCount_16 : decode cX2_typeCount 16 = .ok (.if_icmp .ge 30, 3) := by decide +kernel
theorem dX2_typeCount_19 : decode cX2_typeCount 19 = .ok (.aload_n 2, 1) := by decide +kernel
theorem dX2_typeCount_20 : decode cX2_typeCount 20 = .ok (.iload 4, 2) := by decide +kernel
theorem dX2_typeCount_22 : decode cX2_typeCount 22 = .ok (.caload, 1) := by decide +kernel
theorem dX2_typeCount_23 : decode cX2_typeCount 23 = .ok (.istore 5, 2) := by decide +kernel
theorem dX2_typeCount_25 : decode cX2_typeCount 25 = .ok (.iload_n 1, 1) := by decide +kernel
theorem dX2_typeCount_26 : decode cX2_typeCount 26 = .ok (.iload 5, 2) := by decide +kernel
theorem dX2_typeCount_28 : decode cX2_typeCount 28 = .ok (.bipush 45, 2) := by decide +kernel
theorem dX2_typeCount_30 : decode cX2_typeCount 30 = .ok (.if_icmp .ne 7, 3) := by decide +kernel
theorem dX2_typeCount_33 : decode cX2_typeCount 33 = .ok (.iconst 0, 1) := by decide +kernel
theorem dX2_typeCount_34 : decode cX2_typeCount 34 = .ok (.goto 4, 3) := by decide +kernel
theorem dX2_typeCount_37 : decode cX2_typeCount 37 = .ok (.iconst 1, 1) := by decide +kernel
theorem dX2_typeCount_38 : decode cX2_typeCount 38 = .ok (.iadd, 1) := by decide +kernel
theorem dX2_typeCount_39 : decode cX2_typeCount 39 = .ok (.istore_n 1, 1) := by decide +kernel
theorem dX2_typeCount_40 : decode cX2_typeCount 40 = .ok (.iinc 4 1, 3) := by decide +kernel
theorem dX2_typeCount_43 : decode cX2_typeCount 43 = .ok (.goto (-30), 3) := by decide +kernel
theorem dX2_typeCount_46 : decode cX2_typeCount 46 = .ok (.iload_n 1, 1) := by decide +kernel
theorem dX2_typeCount_47 : decode cX2_typeCount 47 = .ok (.ireturn, 1) := by decide +kernel
theorem dX6_init_0 : decode cX6_init 0 = .ok (.aload_n 0, 1) := by decide +kernel
theorem dX6_init_1 : decode cX6_init 1 = .ok (.invokespecial 3, 3) := by decide +kernel
theorem dX6_init_4 : decode cX6_init 4 = .ok (.aload_n 0, 1) := by decide +kernel
theorem dX6_init_5 : decode cX6_init 5 = .ok (.bipush 30, 2) := by decide +kernel
theorem dX6_init_7 : decode cX6_init 7 = .ok (.newarray .char, 2) := by decide +kernel
theorem dX6_init_9 : decode cX6_init 9 = .ok (.putfield 9, 3) := by decide +kernel
theorem dX6_init_12 : decode cX6_init 12 = .ok (.aload_n 0, 1) := by decide +kernel
theorem dX6_init_13 : decode cX6_init 13 = .ok (.bipush 30, 2) := by decide +kernel
theorem dX6_init_15 : decode cX6_init 15 = .ok (.newarray .char, 2) := by decide +kernel
theorem dX6_init_17 : decode cX6_init 17 = .ok (.putfield 15, 3) := by decide +kernel
theorem dX6_init_20 : decode cX6_init 20 = .ok (.aload_n 0, 1) := by decide +kernel
theorem dX6_init_21 : decode cX6_init 21 = .ok (.bipush 30, 2) := by decide +kernel
theorem dX6_init_23 : decode cX6_init 23 = .ok (.newarray .int, 2) := by decide +kernel
theorem dX6_init_25 : decode cX6_init 25 = .ok (.putfield 18, 3) := by decide +kernel
theorem dX6_init_28 : decode cX6_init 28 = .ok (.iconst 0, 1) := by decide +kernel
theorem dX6_init_29 : decode cX6_init 29 = .ok (.istore_n 1, 1) := by decide +kernel
theorem dX6_init_30 : decode cX6_init 30 = .ok (.iload_n 1, 1) := by decide +kernel
theorem dX6_init_31 : decode cX6_init 31 = .ok (.bipush 30, 2) := by decide +kernel
theorem dX6_init_33 : decode cX6_init 33 = .ok (.if_icmp .ge 25, 3) := by decide +kernel
theorem dX6_init_36 : decode cX6_init 36 = .ok (.aload_n 0, 1) := by decide +kernel
theorem dX6_init_37 : decode cX6_init 37 = .ok (.getfield 9, 3) := by decide +kernel
theorem dX6_init_40 : decode cX6_init 40 = .ok (.iload_n 1, 1) := by decide +kernel
theorem dX6_init_41 : decode cX6_init 41 = .ok (.bipush 45, 2) := by decide +kernel
theorem dX6_init_43 : decode cX6_init 43 = .ok (.castore, 1) := by decide +kernel
theorem dX6_init_44 : decode cX6_init 44 = .ok (.aload_n 0, 1) := by decide +kernel
theorem dX6_init_45 : decode cX6_init 45 = .ok (.getfield 15, 3) := by decide +kernel
theorem dX6_init_48 : decode cX6_init 48 = .ok (.iload_n 1, 1) := by decide +kernel
theorem dX6_init_49 : decode cX6_init 49 = .ok (.bipush 45, 2) := by decide +kernel
theorem dX6_init_51 : decode cX6_init 51 = .ok (.castore, 1) := by decide +kernel
theorem dX6_init_52 : decode cX6_init 52 = .ok (.iinc 1 1, 3) := by decide +kernel
theorem dX6_init_55 : decode cX6_init 55 = .ok (.goto (-25), 3) := by decide +kernel
theorem dX6_init_58 : decode cX6_init 58 = .ok (.return_, 1) := by decide +kernel
theorem dX6_put_0 : decode cX6_put 0 = .ok (.aload_n 0, 1) := by decide +kernel
theorem dX6_put_1 : decode cX6_put 1 = .ok (.getfield 9, 3) := by decide +kernel
theorem dX6_put_4 : decode cX6_put 4 = .ok (.iload_n 1, 1) := by decide +kernel
theorem dX6_put_5 : decode cX6_put 5 = .ok (.caload, 1) := by decide +kernel
theorem dX6_put_6 : decode cX6_put 6 = .ok (.istore 5, 2) := by decide +kernel
theorem dX6_put_8 : decode cX6_put 8 = .ok (.iload_n 2, 1) := by decide +kernel
theorem dX6_put_9 : decode cX6_put 9 = .ok (.bipush 45, 2) := by decide +kernel
theorem dX6_put_11 : decode cX6_put 11 = .ok (.if_icmp .ne 7, 3) := by decide +kernel
theorem dX6_put_14 : decode cX6_put 14 = .ok (.iconst 1, 1) := by decide +kernel
theorem dX6_put_15 : decode cX6_put 15 = .ok (.goto 4, 3) := by decide +kernel
theorem dX6_put_18 : decode cX6_put 18 = .ok (.iconst 0, 1) := by decide +kernel
theorem dX6_put_19 : decode cX6_put 19 = .ok (.istore 6, 2) := by decide +kernel
theorem dX6_put_21 : decode cX6_put 21 = .ok (.aload_n 0, 1) := by decide +kernel
theorem dX6_put_22 : decode cX6_put 22 = .ok (.getfield 9, 3) := by decide +kernel
theorem dX6_put_25 : decode cX6_put 25 = .ok (.iload_n 1, 1) := by decide +kernel
theorem dX6_put_26 : decode cX6_put 26 = .ok (.iload_n 2, 1) := by decide +kernel
theorem dX6_put_27 : decode cX6_put 27 = .ok (.castore, 1) := by decide +kernel
theorem dX6_put_28 : decode cX6_put 28 = .ok (.aload_n 0, 1) := by decide +kernel
theorem dX6_put_29 : decode cX6_put 29 = .ok (.getfield 15, 3) := by decide +kernel
theorem dX6_put_32 : decode cX6_put 32 = .ok (.iload_n 1, 1) := by decide +kernel
theorem dX6_put_33 : decode cX6_put 33 = .ok (.iload 6, 2) := by decide +kernel
theorem dX6_put_35 : decode cX6_put 35 = .ok (.ifCond .eq 8, 3) := by decide +kernel
theorem dX6_put_38 : decode cX6_put 38 = .ok (.bipush 45, 2) := by decide +kernel
theorem dX6_put_40 : decode cX6_put 40 = .ok (.goto 4, 3) := by decide +kernel
theorem dX6_put_43 : decode cX6_put 43 = .ok (.iload_n 3, 1) := by decide +kernel
theorem dX6_put_44 : decode cX6_put 44 = .ok (.castore, 1) := by decide +kernel
theorem dX6_put_45 : decode cX6_put 45 = .ok (.aload_n 0, 1) := by decide +kernel
theorem dX6_put_46 : decode cX6_put 46 = .ok (.getfield 18, 3) := by decide +kernel
theorem dX6_put_49 : decode cX6_put 49 = .ok (.iload_n 1, 1) := by decide +kernel
theorem dX6_put_50 : decode cX6_put 50 = .ok (.iload 6, 2) := by decide +kernel
theorem dX6_put_52 : decode cX6_put 52 = .ok (.ifCond .eq 7, 3) := by decide +kernel
theorem dX6_put_55 : decode cX6_put 55 = .ok (.iconst 0, 1) := by decide +kernel
theorem dX6_put_56 : decode cX6_put 56 = .ok (.goto 5, 3) := by decide +kernel
theorem dX6_put_59 : decode cX6_put 59 = .ok (.iload 4, 2) := by decide +kernel
theorem dX6_put_61 : decode cX6_put 61 = .ok (.iastore, 1) := by decide +kernel
theorem dX6_put_62 : decode cX6_put 62 = .ok (.iload 5, 2) := by decide +kernel
theorem dX6_put_64 : decode cX6_put 64 = .ok (.ireturn, 1) := by decide +kernel
theorem dX6_clear_0 : decode cX6_clear 0 = .ok (.iconst 0, 1) := by decide +kernel
theorem dX6_clear_1 : decode cX6_clear 1 = .ok (.istore_n 2, 1) := by decide +kernel
theorem dX6_clear_2 : decode cX6_clear 2 = .ok (.iload_n 2, 1) := by decide +kernel
theorem dX6_clear_3 : decode cX6_clear 3 = .ok (.bipush 6, 2) := by decide +kernel
theorem dX6_clear_5 : decode cX6_clear 5 = .ok (.if_icmp .ge 25, 3) := by decide +kernel
theorem dX6_clear_8 : decode cX6_clear 8 = .ok (.aload_n 0, 1) := by decide +kernel
theorem dX6_clear_9 : decode cX6_clear 9 = .ok (.iload_n 1, 1) := by decide +kernel
theorem dX6_clear_10 : decode cX6_clear 10 = .ok (.bipush 6, 2) := by decide +kernel
theorem dX6_clear_12 : decode cX6_clear 12 = .ok (.imul, 1) := by decide +kernel
theorem dX6_clear_13 : decode cX6_clear 13 = .ok (.iload_n 2, 1) := by decide +kernel
theorem dX6_clear_14 : decode cX6_clear 14 = .ok (.iadd, 1) := by decide +kernel
theorem dX6_clear_15 : decode cX6_clear 15 = .ok (.bipush 45, 2) := by decide +kernel
theorem dX6_clear_17 : decode cX6_clear 17 = .ok (.bipush 45, 2) := by decide +kernel
theorem dX6_clear_19 : decode cX6_clear 19 = .ok (.iconst 0, 1) := by decide +kernel
theorem dX6_clear_20 : decode cX6_clear 20 = .ok (.invokevirtual 22, 3) := by decide +kernel
theorem dX6_clear_23 : decode cX6_clear 23 = .ok (.pop, 1) := by decide +kernel
theorem dX6_clear_24 : decode cX6_clear 24 = .ok (.iinc 2 1, 3) := by decide +kernel
theorem dX6_clear_27 : decode cX6_clear 27 = .ok (.goto (-25), 3) := by decide +kernel
theorem dX6_clear_30 : decode cX6_clear 30 = .ok (.return_, 1) := by decide +kernel
theorem dX6_become_0 : decode cX6_become 0 = .ok (.aload_n 1, 1) := by decide +kernel
theorem dX6_become_1 : decode cX6_become 1 = .ok (.getfield 9, 3) := by decide +kernel
theorem dX6_become_4 : decode cX6_become 4 = .ok (.iconst 0, 1) := by decide +kernel
theorem dX6_become_5 : decode cX6_become 5 = .ok (.aload_n 0, 1) := by decide +kernel
theorem dX6_become_6 : decode cX6_become 6 = .ok (.getfield 9, 3) := by decide +kernel
theorem dX6_become_9 : decode cX6_become 9 = .ok (.iconst 0, 1) := by decide +kernel
theorem dX6_become_10 : decode cX6_become 10 = .ok (.aload_n 0, 1) := by decide +kernel
theorem dX6_become_11 : decode cX6_become 11 = .ok (.getfield 9, 3) := by decide +kernel
theorem dX6_become_14 : decode cX6_become 14 = .ok (.arraylength, 1) := by decide +kernel
theorem dX6_become_15 : decode cX6_become 15 = .ok (.invokestatic 26, 3) := by decide +kernel
theorem dX6_become_18 : decode cX6_become 18 = .ok (.aload_n 1, 1) := by decide +kernel
theorem dX6_become_19 : decode cX6_become 19 = .ok (.getfield 15, 3) := by decide +kernel
theorem dX6_become_22 : decode cX6_become 22 = .ok (.iconst 0, 1) := by decide +kernel
theorem dX6_become_23 : decode cX6_become 23 = .ok (.aload_n 0, 1) := by decide +kernel
theorem dX6_become_24 : decode cX6_become 24 = .ok (.getfield 15, 3) := by decide +kernel
theorem dX6_become_27 : decode cX6_become 27 = .ok (.iconst 0, 1) := by decide +kernel
theorem dX6_become_28 : decode cX6_become 28 = .ok (.aload_n 0, 1) := by decide +kernel
theorem dX6_become_29 : decode cX6_become 29 = .ok (.getfield 15, 3) := by decide +kernel
theorem dX6_become_32 : decode cX6_become 32 = .ok (.arraylength, 1) := by decide +kernel
theorem dX6_become_33 : decode cX6_become 33 = .ok (.invokestatic 26, 3) := by decide +kernel
theorem dX6_become_36 : decode cX6_become 36 = .ok (.aload_n 1, 1) := by decide +kernel
theorem dX6_become_37 : decode cX6_become 37 = .ok (.getfield 18, 3) := by decide +kernel
theorem dX6_become_40 : decode cX6_become 40 = .ok (.iconst 0, 1) := by decide +kernel
theorem dX6_become_41 : decode cX6_become 41 = .ok (.aload_n 0, 1) := by decide +kernel
theorem dX6_become_42 : decode cX6_become 42 = .ok (.getfield 18, 3) := by decide +kernel
theorem dX6_become_45 : decode cX6_become 45 = .ok (.iconst 0, 1) := by decide +kernel
theorem dX6_become_46 : decode cX6_become 46 = .ok (.aload_n 0, 1) := by decide +kernel
theorem dX6_become_47 : decode cX6_become 47 = .ok (.getfield 18, 3) := by decide +kernel
theorem dX6_become_50 : decode cX6_become 50 = .ok (.arraylength, 1) := by decide +kernel
theorem dX6_become_51 : decode cX6_become 51 = .ok (.invokestatic 26, 3) := by decide +kernel
theorem dX6_become_54 : decode cX6_become 54 = .ok (.return_, 1) := by decide +kernel
theorem dX7_init_0 : decode cX7_init 0 = .ok (.aload_n 0, 1) := by decide +kernel
theorem dX7_init_1 : decode cX7_init 1 = .ok (.invokespecial 3, 3) := by decide +kernel
theorem dX7_init_4 : decode cX7_init 4 = .ok (.aload_n 0, 1) := by decide +kernel
theorem dX7_init_5 : decode cX7_init 5 = .ok (.iconst 0, 1) := by decide +kernel
theorem dX7_init_6 : decode cX7_init 6 = .ok (.putfield 9, 3) := by decide +kernel
theorem dX7_init_9 : decode cX7_init 9 = .ok (.aload_n 0, 1) := by decide +kernel
theorem dX7_init_10 : decode cX7_init 10 = .ok (.iconst (-1), 1) := by decide +kernel
theorem dX7_init_11 : decode cX7_init 11 = .ok (.putfield 15, 3) := by decide +kernel
theorem dX7_init_14 : decode cX7_init 14 = .ok (.aload_n 0, 1) := by decide +kernel
theorem dX7_init_15 : decode cX7_init 15 = .ok (.iconst 0, 1) := by decide +kernel
theorem dX7_init_16 : decode cX7_init 16 = .ok (.putfield 19, 3) := by decide +kernel
theorem dX7_init_19 : decode cX7_init 19 = .ok (.aload_n 0, 1) := by decide +kernel
theorem dX7_init_20 : decode cX7_init 20 = .ok (.iconst (-1), 1) := by decide +kernel
theorem dX7_init_21 : decode cX7_init 21 = .ok (.putfield 22, 3) := by decide +kernel
theorem dX7_init_24 : decode cX7_init 24 = .ok (.return_, 1) := by decide +kernel
theorem dX7_clear_0 : decode cX7_clear 0 = .ok (.aload_n 0, 1) := by decide +kernel
theorem dX7_clear_1 : decode cX7_clear 1 = .ok (.iconst 0, 1) := by decide +kernel
theorem dX7_clear_2 : decode cX7_clear 2 = .ok (.putfield 9, 3) := by decide +kernel
theorem dX7_clear_5 : decode cX7_clear 5 = .ok (.aload_n 0, 1) := by decide +kernel
theorem dX7_clear_6 : decode cX7_clear 6 = .ok (.iconst (-1), 1) := by decide +kernel
theorem dX7_clear_7 : decode cX7_clear 7 = .ok (.putfield 15, 3) := by decide +kernel
theorem dX7_clear_10 : decode cX7_clear 10 = .ok (.aload_n 0, 1) := by decide +kernel
theorem dX7_clear_11 : decode cX7_clear 11 = .ok (.iconst 0, 1) := by decide +kernel
theorem dX7_clear_12 : decode cX7_clear 12 = .ok (.putfield 19, 3) := by decide +kernel
theorem dX7_clear_15 : decode cX7_clear 15 = .ok (.aload_n 0, 1) := by decide +kernel
theorem dX7_clear_16 : decode cX7_clear 16 = .ok (.iconst (-1), 1) := by decide +kernel
theorem dX7_clear_17 : decode cX7_clear 17 = .ok (.putfield 22, 3) := by decide +kernel
theorem dX7_clear_20 : decode cX7_clear 20 = .ok (.return_, 1) := by decide +kernel
theorem dX7_become_0 : decode cX7_become 0 = .ok (.aload_n 0, 1) := by decide +kernel
theorem dX7_become_1 : decode cX7_become 1 = .ok (.aload_n 1, 1) := by decide +kernel
theorem dX7_become_2 : decode cX7_become 2 = .ok (.getfield 9, 3) := by decide +kernel
theorem dX7_become_5 : decode cX7_become 5 = .ok (.putfield 9, 3) := by decide +kernel
theorem dX7_become_8 : decode cX7_become 8 = .ok (.aload_n 0, 1) := by decide +kernel
theorem dX7_become_9 : decode cX7_become 9 = .ok (.aload_n 1, 1) := by decide +kernel
theorem dX7_become_10 : decode cX7_become 10 = .ok (.getfield 15, 3) := by decide +kernel
theorem dX7_become_13 : decode cX7_become 13 = .ok (.putfield 15, 3) := by decide +kernel
theorem dX7_become_16 : decode cX7_become 16 = .ok (.aload_n 0, 1) := by decide +kernel
theorem dX7_become_17 : decode cX7_become 17 = .ok (.aload_n 1, 1) := by decide +kernel
theorem dX7_become_18 : decode cX7_become 18 = .ok (.getfield 19, 3) := by decide +kernel
theorem dX7_become_21 : decode cX7_become 21 = .ok (.putfield 19, 3) := by decide +kernel
theorem dX7_become_24 : decode cX7_become 24 = .ok (.aload_n 0, 1) := by decide +kernel
theorem dX7_become_25 : decode cX7_become 25 = .ok (.aload_n 1, 1) := by decide +kernel
theorem dX7_become_26 : decode cX7_become 26 = .ok (.getfield 22, 3) := by decide +kernel
theorem dX7_become_29 : decode cX7_become 29 = .ok (.putfield 22, 3) := by decide +kernel
theorem dX7_become_32 : decode cX7_become 32 = .ok (.return_, 1) := by decide +kernel
theorem dX7_set_0 : decode cX7_set 0 = .ok (.aload_n 0, 1) := by decide +kernel
theorem dX7_set_1 : decode cX7_set 1 = .ok (.iconst 1, 1) := by decide +kernel
theorem dX7_set_2 : decode cX7_set 2 = .ok (.putfield 9, 3) := by decide +kernel
theorem dX7_set_5 : decode cX7_set 5 = .ok (.aload_n 0, 1) := by decide +kernel
theorem dX7_set_6 : decode cX7_set 6 = .ok (.iload_n 1, 1) := by decide +kernel
theorem dX7_set_7 : decode cX7_set 7 = .ok (.putfield 15, 3) := by decide +kernel
theorem dX7_set_10 : decode cX7_set 10 = .ok (.aload_n 0, 1) := by decide +kernel
theorem dX7_set_11 : decode cX7_set 11 = .ok (.iload_n 2, 1) := by decide +kernel
theorem dX7_set_12 : decode cX7_set 12 = .ok (.putfield 19, 3) := by decide +kernel
theorem dX7_set_15 : decode cX7_set 15 = .ok (.aload_n 0, 1) := by decide +kernel
theorem dX7_set_16 : decode cX7_set 16 = .ok (.iload_n 3, 1) := by decide +kernel
theorem dX7_set_17 : decode cX7_set 17 = .ok (.putfield 22, 3) := by decide +kernel
theorem dX7_set_20 : decode cX7_set 20 = .ok (.return_, 1) := by decide +kernel
theorem dX8_init_0 : decode cX8_init 0 = .ok (.aload_n 0, 1) := by decide +kernel
theorem dX8_init_1 : decode cX8_init 1 = .ok (.invokespecial 3, 3) := by decide +kernel
theorem dX8_init_4 : decode cX8_init 4 = .ok (.aload_n 0, 1) := by decide +kernel
theorem dX8_init_5 : decode cX8_init 5 = .ok (.iconst 0, 1) := by decide +kernel
theorem dX8_init_6 : decode cX8_init 6 = .ok (.putfield 9, 3) := by decide +kernel
theorem dX8_init_9 : decode cX8_init 9 = .ok (.aload_n 0, 1) := by decide +kernel
theorem dX8_init_10 : decode cX8_init 10 = .ok (.iconst 0, 1) := by decide +kernel
theorem dX8_init_11 : decode cX8_init 11 = .ok (.putfield 15, 3) := by decide +kernel
theorem dX8_init_14 : decode cX8_init 14 = .ok (.aload_n 0, 1) := by decide +kernel
theorem dX8_init_15 : decode cX8_init 15 = .ok (.bipush 45, 2) := by decide +kernel
theorem dX8_init_17 : decode cX8_init 17 = .ok (.putfield 19, 3) := by decide +kernel
theorem dX8_init_20 : decode cX8_init 20 = .ok (.aload_n 0, 1) := by decide +kernel
theorem dX8_init_21 : decode cX8_init 21 = .ok (.bipush 8, 2) := by decide +kernel
theorem dX8_init_23 : decode cX8_init 23 = .ok (.newarray .int, 2) := by decide +kernel
theorem dX8_init_25 : decode cX8_init 25 = .ok (.putfield 23, 3) := by decide +kernel
theorem dX8_init_28 : decode cX8_init 28 = .ok (.return_, 1) := by decide +kernel
theorem dX8_follow_0 : decode cX8_follow 0 = .ok (.aload_n 0, 1) := by decide +kernel
theorem dX8_follow_1 : decode cX8_follow 1 = .ok (.iconst 1, 1) := by decide +kernel
theorem dX8_follow_2 : decode cX8_follow 2 = .ok (.putfield 9, 3) := by decide +kernel
theorem dX8_follow_5 : decode cX8_follow 5 = .ok (.aload_n 0, 1) := by decide +kernel
theorem dX8_follow_6 : decode cX8_follow 6 = .ok (.iconst 0, 1) := by decide +kernel
theorem dX8_follow_7 : decode cX8_follow 7 = .ok (.putfield 15, 3) := by decide +kernel
theorem dX8_follow_10 : decode cX8_follow 10 = .ok (.aload_n 0, 1) := by decide +kernel
theorem dX8_follow_11 : decode cX8_follow 11 = .ok (.aload_n 2, 1) := by decide +kernel
theorem dX8_follow_12 : decode cX8_follow 12 = .ok (.aload_n 1, 1) := by decide +kernel
theorem dX8_follow_13 : decode cX8_follow 13 = .ok (.getfield 27, 3) := by decide +kernel
theorem dX8_follow_16 : decode cX8_follow 16 = .ok (.invokevirtual 33, 3) := by decide +kernel
theorem dX8_follow_19 : decode cX8_follow 19 = .ok (.putfield 19, 3) := by decide +kernel
theorem dX8_follow_22 : decode cX8_follow 22 = .ok (.iconst 0, 1) := by decide +kernel
theorem dX8_follow_23 : decode cX8_follow 23 = .ok (.istore_n 3, 1) := by decide +kernel
theorem dX8_follow_24 : decode cX8_follow 24 = .ok (.iload_n 3, 1) := by decide +kernel
theorem dX8_follow_25 : decode cX8_follow 25 = .ok (.aload_n 1, 1) := by decide +kernel
theorem dX8_follow_26 : decode cX8_follow 26 = .ok (.getfield 39, 3) := by decide +kernel
theorem dX8_follow_29 : decode cX8_follow 29 = .ok (.if_icmp .ge 82, 3) := by decide +kernel
theorem dX8_follow_32 : decode cX8_follow 32 = .ok (.aload_n 0, 1) := by decide +kernel
theorem dX8_follow_33 : decode cX8_follow 33 = .ok (.getfield 19, 3) := by decide +kernel
theorem dX8_follow_36 : decode cX8_follow 36 = .ok (.bipush 45, 2) := by decide +kernel
theorem dX8_follow_38 : decode cX8_follow 38 = .ok (.if_icmp .ne 73, 3) := by decide +kernel
theorem dX8_follow_41 : decode cX8_follow 41 = .ok (.aload_n 2, 1) := by decide +kernel
theorem dX8_follow_42 : decode cX8_follow 42 = .ok (.aload_n 1, 1) := by decide +kernel
theorem dX8_follow_43 : decode cX8_follow 43 = .ok (.getfield 42, 3) := by decide +kernel
theorem dX8_follow_46 : decode cX8_follow 46 = .ok (.iload_n 3, 1) := by decide +kernel
theorem dX8_follow_47 : decode cX8_follow 47 = .ok (.iaload, 1) := by decide +kernel
theorem dX8_follow_48 : decode cX8_follow 48 = .ok (.aload_n 1, 1) := by decide +kernel
theorem dX8_follow_49 : decode cX8_follow 49 = .ok (.getfield 45, 3) := by decide +kernel
theorem dX8_follow_52 : decode cX8_follow 52 = .ok (.iload_n 3, 1) := by decide +kernel
theorem dX8_follow_53 : decode cX8_follow 53 = .ok (.iaload, 1) := by decide +kernel
theorem dX8_follow_54 : decode cX8_follow 54 = .ok (.aload_n 1, 1) := by decide +kernel
theorem dX8_follow_55 : decode cX8_follow 55 = .ok (.getfield 48, 3) := by decide +kernel
theorem dX8_follow_58 : decode cX8_follow 58 = .ok (.iload_n 3, 1) := by decide +kernel
theorem dX8_follow_59 : decode cX8_follow 59 = .ok (.iaload, 1) := by decide +kernel
theorem dX8_follow_60 : decode cX8_follow 60 = .ok (.aload_n 1, 1) := by decide +kernel
theorem dX8_follow_61 : decode cX8_follow 61 = .ok (.getfield 51, 3) := by decide +kernel
theorem dX8_follow_64 : decode cX8_follow 64 = .ok (.iload_n 3, 1) := by decide +kernel
theorem dX8_follow_65 : decode cX8_follow 65 = .ok (.iaload, 1) := by decide +kernel
theorem dX8_follow_66 : decode cX8_follow 66 = .ok (.invokevirtual 54, 3) := by decide +kernel
theorem dX8_follow_69 : decode cX8_follow 69 = .ok (.istore 4, 2) := by decide +kernel
theorem dX8_follow_71 : decode cX8_follow 71 = .ok (.iload 4, 2) := by decide +kernel
theorem dX8_follow_73 : decode cX8_follow 73 = .ok (.ifCond .ge 14, 3) := by decide +kernel
theorem dX8_follow_76 : decode cX8_follow 76 = .ok (.aload_n 0, 1) := by decide +kernel
theorem dX8_follow_77 : decode cX8_follow 77 = .ok (.iload 4, 2) := by decide +kernel
theorem dX8_follow_79 : decode cX8_follow 79 = .ok (.ineg, 1) := by decide +kernel
theorem dX8_follow_80 : decode cX8_follow 80 = .ok (.i2c, 1) := by decide +kernel
theorem dX8_follow_81 : decode cX8_follow 81 = .ok (.putfield 19, 3) := by decide +kernel
theorem dX8_follow_84 : decode cX8_follow 84 = .ok (.goto 21, 3) := by decide +kernel
theorem dX8_follow_87 : decode cX8_follow 87 = .ok (.aload_n 0, 1) := by decide +kernel
theorem dX8_follow_88 : decode cX8_follow 88 = .ok (.getfield 23, 3) := by decide +kernel
theorem dX8_follow_91 : decode cX8_follow 91 = .ok (.iload_n 3, 1) := by decide +kernel
theorem dX8_follow_92 : decode cX8_follow 92 = .ok (.iload 4, 2) := by decide +kernel
theorem dX8_follow_94 : decode cX8_follow 94 = .ok (.iastore, 1) := by decide +kernel
theorem dX8_follow_95 : decode cX8_follow 95 = .ok (.aload_n 0, 1) := by decide +kernel
theorem dX8_follow_96 : decode cX8_follow 96 = .ok (.dup, 1) := by decide +kernel
theorem dX8_follow_97 : decode cX8_follow 97 = .ok (.getfield 15, 3) := by decide +kernel
theorem dX8_follow_100 : decode cX8_follow 100 = .ok (.iconst 1, 1) := by decide +kernel
theorem dX8_follow_101 : decode cX8_follow 101 = .ok (.iadd, 1) := by decide +kernel
theorem dX8_follow_102 : decode cX8_follow 102 = .ok (.putfield 15, 3) := by decide +kernel
theorem dX8_follow_105 : decode cX8_follow 105 = .ok (.iinc 3 1, 3) := by decide +kernel
theorem dX8_follow_108 : decode cX8_follow 108 = .ok (.goto (-84), 3) := by decide +kernel
theorem dX8_follow_111 : decode cX8_follow 111 = .ok (.return_, 1) := by decide +kernel
end
section
-- pasted from the claim's printed text: decode rows
theorem dX3_init_0 : decode cX3_init 0 = .ok (.aload_n 0, 1) := by decide +kernel
theorem dX3_init_1 : decode cX3_init 1 = .ok (.invokespecial 3, 3) := by decide +kernel
theorem dX3_init_4 : decode cX3_init 4 = .ok (.aload_n 0, 1) := by decide +kernel
theorem dX3_init_5 : decode cX3_init 5 = .ok (.bipush 6, 2) := by decide +kernel
theorem dX3_init_7 : decode cX3_init 7 = .ok (.newarray .int, 2) := by decide +kernel
theorem dX3_init_9 : decode cX3_init 9 = .ok (.putfield 9, 3) := by decide +kernel
theorem dX3_init_12 : decode cX3_init 12 = .ok (.aload_n 0, 1) := by decide +kernel
theorem dX3_init_13 : decode cX3_init 13 = .ok (.bipush 36, 2) := by decide +kernel
theorem dX3_init_15 : decode cX3_init 15 = .ok (.newarray .int, 2) := by decide +kernel
theorem dX3_init_17 : decode cX3_init 17 = .ok (.putfield 15, 3) := by decide +kernel
theorem dX3_init_20 : decode cX3_init 20 = .ok (.aload_n 0, 1) := by decide +kernel
theorem dX3_init_21 : decode cX3_init 21 = .ok (.bipush 36, 2) := by decide +kernel
theorem dX3_init_23 : decode cX3_init 23 = .ok (.newarray .int, 2) := by decide +kernel
theorem dX3_init_25 : decode cX3_init 25 = .ok (.putfield 18, 3) := by decide +kernel
theorem dX3_init_28 : decode cX3_init 28 = .ok (.aload_n 0, 1) := by decide +kernel
theorem dX3_init_29 : decode cX3_init 29 = .ok (.bipush 6, 2) := by decide +kernel
theorem dX3_init_31 : decode cX3_init 31 = .ok (.newarray .int, 2) := by decide +kernel
theorem dX3_init_33 : decode cX3_init 33 = .ok (.putfield 21, 3) := by decide +kernel
theorem dX3_init_36 : decode cX3_init 36 = .ok (.aload_n 0, 1) := by decide +kernel
theorem dX3_init_37 : decode cX3_init 37 = .ok (.bipush 6, 2) := by decide +kernel
theorem dX3_init_39 : decode cX3_init 39 = .ok (.newarray .int, 2) := by decide +kernel
theorem dX3_init_41 : decode cX3_init 41 = .ok (.putfield 24, 3) := by decide +kernel
theorem dX3_init_44 : decode cX3_init 44 = .ok (.aload_n 0, 1) := by decide +kernel
theorem dX3_init_45 : decode cX3_init 45 = .ok (.bipush 36, 2) := by decide +kernel
theorem dX3_init_47 : decode cX3_init 47 = .ok (.newarray .int, 2) := by decide +kernel
theorem dX3_init_49 : decode cX3_init 49 = .ok (.putfield 27, 3) := by decide +kernel
theorem dX3_init_52 : decode cX3_init 52 = .ok (.aload_n 0, 1) := by decide +kernel
theorem dX3_init_53 : decode cX3_init 53 = .ok (.bipush 36, 2) := by decide +kernel
theorem dX3_init_55 : decode cX3_init 55 = .ok (.newarray .int, 2) := by decide +kernel
theorem dX3_init_57 : decode cX3_init 57 = .ok (.putfield 30, 3) := by decide +kernel
theorem dX3_init_60 : decode cX3_init 60 = .ok (.aload_n 0, 1) := by decide +kernel
theorem dX3_init_61 : decode cX3_init 61 = .ok (.bipush 36, 2) := by decide +kernel
theorem dX3_init_63 : decode cX3_init 63 = .ok (.newarray .int, 2) := by decide +kernel
theorem dX3_init_65 : decode cX3_init 65 = .ok (.putfield 33, 3) := by decide +kernel
theorem dX3_init_68 : decode cX3_init 68 = .ok (.aload_n 0, 1) := by decide +kernel
theorem dX3_init_69 : decode cX3_init 69 = .ok (.getstatic 36, 3) := by decide +kernel
theorem dX3_init_72 : decode cX3_init 72 = .ok (.arraylength, 1) := by decide +kernel
theorem dX3_init_73 : decode cX3_init 73 = .ok (.newarray .int, 2) := by decide +kernel
theorem dX3_init_75 : decode cX3_init 75 = .ok (.putfield 40, 3) := by decide +kernel
theorem dX3_init_78 : decode cX3_init 78 = .ok (.return_, 1) := by decide +kernel
theorem dX3_derive_0 : decode cX3_derive 0 = .ok (.aload_n 0, 1) := by decide +kernel
theorem dX3_derive_1 : decode cX3_derive 1 = .ok (.iconst 0, 1) := by decide +kernel
theorem dX3_derive_2 : decode cX3_derive 2 = .ok (.putfield 43, 3) := by decide +kernel
theorem dX3_derive_5 : decode cX3_derive 5 = .ok (.aload_n 0, 1) := by decide +kernel
theorem dX3_derive_6 : decode cX3_derive 6 = .ok (.iconst 0, 1) := by decide +kernel
theorem dX3_derive_7 : decode cX3_derive 7 = .ok (.putfield 47, 3) := by decide +kernel
theorem dX3_derive_10 : decode cX3_derive 10 = .ok (.iconst 0, 1) := by decide +kernel
theorem dX3_derive_11 : decode cX3_derive 11 = .ok (.istore_n 2, 1) := by decide +kernel
theorem dX3_derive_12 : decode cX3_derive 12 = .ok (.iload_n 2, 1) := by decide +kernel
theorem dX3_derive_13 : decode cX3_derive 13 = .ok (.iconst 5, 1) := by decide +kernel
theorem dX3_derive_14 : decode cX3_derive 14 = .ok (.if_icmp .ge 63, 3) := by decide +kernel
theorem dX3_derive_17 : decode cX3_derive 17 = .ok (.aload_n 0, 1) := by decide +kernel
theorem dX3_derive_18 : decode cX3_derive 18 = .ok (.dup, 1) := by decide +kernel
theorem dX3_derive_19 : decode cX3_derive 19 = .ok (.getfield 43, 3) := by decide +kernel
theorem dX3_derive_22 : decode cX3_derive 22 = .ok (.aload_n 1, 1) := by decide +kernel
theorem dX3_derive_23 : decode cX3_derive 23 = .ok (.getfield 50, 3) := by decide +kernel
theorem dX3_derive_26 : decode cX3_derive 26 = .ok (.iload_n 2, 1) := by decide +kernel
theorem dX3_derive_27 : decode cX3_derive 27 = .ok (.caload, 1) := by decide +kernel
theorem dX3_derive_28 : decode cX3_derive 28 = .ok (.bipush 45, 2) := by decide +kernel
theorem dX3_derive_30 : decode cX3_derive 30 = .ok (.if_icmp .eq 9, 3) := by decide +kernel
theorem dX3_derive_33 : decode cX3_derive 33 = .ok (.iconst 1, 1) := by decide +kernel
theorem dX3_derive_34 : decode cX3_derive 34 = .ok (.iload_n 2, 1) := by decide +kernel
theorem dX3_derive_35 : decode cX3_derive 35 = .ok (.ishl, 1) := by decide +kernel
theorem dX3_derive_36 : decode cX3_derive 36 = .ok (.goto 4, 3) := by decide +kernel
theorem dX3_derive_39 : decode cX3_derive 39 = .ok (.iconst 0, 1) := by decide +kernel
theorem dX3_derive_40 : decode cX3_derive 40 = .ok (.ior, 1) := by decide +kernel
theorem dX3_derive_41 : decode cX3_derive 41 = .ok (.putfield 43, 3) := by decide +kernel
theorem dX3_derive_44 : decode cX3_derive 44 = .ok (.aload_n 0, 1) := by decide +kernel
theorem dX3_derive_45 : decode cX3_derive 45 = .ok (.dup, 1) := by decide +kernel
theorem dX3_derive_46 : decode cX3_derive 46 = .ok (.getfield 47, 3) := by decide +kernel
theorem dX3_derive_49 : decode cX3_derive 49 = .ok (.aload_n 1, 1) := by decide +kernel
theorem dX3_derive_50 : decode cX3_derive 50 = .ok (.getfield 50, 3) := by decide +kernel
theorem dX3_derive_53 : decode cX3_derive 53 = .ok (.iload_n 2, 1) := by decide +kernel
theorem dX3_derive_54 : decode cX3_derive 54 = .ok (.caload, 1) := by decide +kernel
theorem dX3_derive_55 : decode cX3_derive 55 = .ok (.bipush 99, 2) := by decide +kernel
theorem dX3_derive_57 : decode cX3_derive 57 = .ok (.if_icmp .ne 9, 3) := by decide +kernel
theorem dX3_derive_60 : decode cX3_derive 60 = .ok (.iconst 1, 1) := by decide +kernel
theorem dX3_derive_61 : decode cX3_derive 61 = .ok (.iload_n 2, 1) := by decide +kernel
theorem dX3_derive_62 : decode cX3_derive 62 = .ok (.ishl, 1) := by decide +kernel
theorem dX3_derive_63 : decode cX3_derive 63 = .ok (.goto 4, 3) := by decide +kernel
theorem dX3_derive_66 : decode cX3_derive 66 = .ok (.iconst 0, 1) := by decide +kernel
theorem dX3_derive_67 : decode cX3_derive 67 = .ok (.ior, 1) := by decide +kernel
theorem dX3_derive_68 : decode cX3_derive 68 = .ok (.putfield 47, 3) := by decide +kernel
theorem dX3_derive_71 : decode cX3_derive 71 = .ok (.iinc 2 1, 3) := by decide +kernel
theorem dX3_derive_74 : decode cX3_derive 74 = .ok (.goto (-62), 3) := by decide +kernel
theorem dX3_derive_77 : decode cX3_derive 77 = .ok (.aload_n 0, 1) := by decide +kernel
theorem dX3_derive_78 : decode cX3_derive 78 = .ok (.aload_n 1, 1) := by decide +kernel
theorem dX3_derive_79 : decode cX3_derive 79 = .ok (.invokevirtual 55, 3) := by decide +kernel
theorem dX3_derive_82 : decode cX3_derive 82 = .ok (.aload_n 0, 1) := by decide +kernel
theorem dX3_derive_83 : decode cX3_derive 83 = .ok (.aload_n 1, 1) := by decide +kernel
theorem dX3_derive_84 : decode cX3_derive 84 = .ok (.getfield 59, 3) := by decide +kernel
theorem dX3_derive_87 : decode cX3_derive 87 = .ok (.invokevirtual 63, 3) := by decide +kernel
theorem dX3_derive_90 : decode cX3_derive 90 = .ok (.iconst 0, 1) := by decide +kernel
theorem dX3_derive_91 : decode cX3_derive 91 = .ok (.istore_n 2, 1) := by decide +kernel
theorem dX3_derive_92 : decode cX3_derive 92 = .ok (.iload_n 2, 1) := by decide +kernel
theorem dX3_derive_93 : decode cX3_derive 93 = .ok (.iconst 5, 1) := by decide +kernel
theorem dX3_derive_94 : decode cX3_derive 94 = .ok (.if_icmp .ge 21, 3) := by decide +kernel
theorem dX3_derive_97 : decode cX3_derive 97 = .ok (.aload_n 0, 1) := by decide +kernel
theorem dX3_derive_98 : decode cX3_derive 98 = .ok (.aload_n 1, 1) := by decide +kernel
theorem dX3_derive_99 : decode cX3_derive 99 = .ok (.iload_n 2, 1) := by decide +kernel
theorem dX3_derive_100 : decode cX3_derive 100 = .ok (.invokevirtual 67, 3) := by decide +kernel
theorem dX3_derive_103 : decode cX3_derive 103 = .ok (.aload_n 0, 1) := by decide +kernel
theorem dX3_derive_104 : decode cX3_derive 104 = .ok (.aload_n 1, 1) := by decide +kernel
theorem dX3_derive_105 : decode cX3_derive 105 = .ok (.iload_n 2, 1) := by decide +kernel
theorem dX3_derive_106 : decode cX3_derive 106 = .ok (.invokevirtual 71, 3) := by decide +kernel
theorem dX3_derive_109 : decode cX3_derive 109 = .ok (.iinc 2 1, 3) := by decide +kernel
theorem dX3_derive_112 : decode cX3_derive 112 = .ok (.goto (-20), 3) := by decide +kernel
theorem dX3_derive_115 : decode cX3_derive 115 = .ok (.return_, 1) := by decide +kernel
theorem dX3_deriveAbove_0 : decode cX3_deriveAbove 0 = .ok (.iconst 0, 1) := by decide +kernel
theorem dX3_deriveAbove_1 : decode cX3_deriveAbove 1 = .ok (.istore_n 2, 1) := by decide +kernel
theorem dX3_deriveAbove_2 : decode cX3_deriveAbove 2 = .ok (.iload_n 2, 1) := by decide +kernel
theorem dX3_deriveAbove_3 : decode cX3_deriveAbove 3 = .ok (.iconst 5, 1) := by decide +kernel
theorem dX3_deriveAbove_4 : decode cX3_deriveAbove 4 = .ok (.if_icmp .ge 64, 3) := by decide +kernel
theorem dX3_deriveAbove_7 : decode cX3_deriveAbove 7 = .ok (.aload_n 1, 1) := by decide +kernel
theorem dX3_deriveAbove_8 : decode cX3_deriveAbove 8 = .ok (.getfield 74, 3) := by decide +kernel
theorem dX3_deriveAbove_11 : decode cX3_deriveAbove 11 = .ok (.iload_n 2, 1) := by decide +kernel
theorem dX3_deriveAbove_12 : decode cX3_deriveAbove 12 = .ok (.iaload, 1) := by decide +kernel
theorem dX3_deriveAbove_13 : decode cX3_deriveAbove 13 = .ok (.istore_n 3, 1) := by decide +kernel
theorem dX3_deriveAbove_14 : decode cX3_deriveAbove 14 = .ok (.aload_n 1, 1) := by decide +kernel
theorem dX3_deriveAbove_15 : decode cX3_deriveAbove 15 = .ok (.getfield 77, 3) := by decide +kernel
theorem dX3_deriveAbove_18 : decode cX3_deriveAbove 18 = .ok (.iload_n 2, 1) := by decide +kernel
theorem dX3_deriveAbove_19 : decode cX3_deriveAbove 19 = .ok (.iaload, 1) := by decide +kernel
theorem dX3_deriveAbove_20 : decode cX3_deriveAbove 20 = .ok (.iconst (-1), 1) := by decide +kernel
theorem dX3_deriveAbove_21 : decode cX3_deriveAbove 21 = .ok (.if_icmp .eq 14, 3) := by decide +kernel
theorem dX3_deriveAbove_24 : decode cX3_deriveAbove 24 = .ok (.iload_n 3, 1) := by decide +kernel
theorem dX3_deriveAbove_25 : decode cX3_deriveAbove 25 = .ok (.iconst 1, 1) := by decide +kernel
theorem dX3_deriveAbove_26 : decode cX3_deriveAbove 26 = .ok (.aload_n 1, 1) := by decide +kernel
theorem dX3_deriveAbove_27 : decode cX3_deriveAbove 27 = .ok (.getfield 77, 3) := by decide +kernel
theorem dX3_deriveAbove_30 : decode cX3_deriveAbove 30 = .ok (.iload_n 2, 1) := by decide +kernel
theorem dX3_deriveAbove_31 : decode cX3_deriveAbove 31 = .ok (.iaload, 1) := by decide +kernel
theorem dX3_deriveAbove_32 : decode cX3_deriveAbove 32 = .ok (.ishl, 1) := by decide +kernel
theorem dX3_deriveAbove_33 : decode cX3_deriveAbove 33 = .ok (.ior, 1) := by decide +kernel
theorem dX3_deriveAbove_34 : decode cX3_deriveAbove 34 = .ok (.istore_n 3, 1) := by decide +kernel
theorem dX3_deriveAbove_35 : decode cX3_deriveAbove 35 = .ok (.aload_n 0, 1) := by decide +kernel
theorem dX3_deriveAbove_36 : decode cX3_deriveAbove 36 = .ok (.getfield 9, 3) := by decide +kernel
theorem dX3_deriveAbove_39 : decode cX3_deriveAbove 39 = .ok (.iload_n 2, 1) := by decide +kernel
theorem dX3_deriveAbove_40 : decode cX3_deriveAbove 40 = .ok (.aload_n 0, 1) := by decide +kernel
theorem dX3_deriveAbove_41 : decode cX3_deriveAbove 41 = .ok (.getfield 43, 3) := by decide +kernel
theorem dX3_deriveAbove_44 : decode cX3_deriveAbove 44 = .ok (.iload_n 2, 1) := by decide +kernel
theorem dX3_deriveAbove_45 : decode cX3_deriveAbove 45 = .ok (.invokestatic 80, 3) := by decide +kernel
theorem dX3_deriveAbove_48 : decode cX3_deriveAbove 48 = .ok (.ifCond .eq 12, 3) := by decide +kernel
theorem dX3_deriveAbove_51 : decode cX3_deriveAbove 51 = .ok (.iload_n 3, 1) := by decide +kernel
theorem dX3_deriveAbove_52 : decode cX3_deriveAbove 52 = .ok (.aload_n 0, 1) := by decide +kernel
theorem dX3_deriveAbove_53 : decode cX3_deriveAbove 53 = .ok (.getfield 43, 3) := by decide +kernel
theorem dX3_deriveAbove_56 : decode cX3_deriveAbove 56 = .ok (.iand, 1) := by decide +kernel
theorem dX3_deriveAbove_57 : decode cX3_deriveAbove 57 = .ok (.goto 4, 3) := by decide +kernel
theorem dX3_deriveAbove_60 : decode cX3_deriveAbove 60 = .ok (.iconst 0, 1) := by decide +kernel
theorem dX3_deriveAbove_61 : decode cX3_deriveAbove 61 = .ok (.iastore, 1) := by decide +kernel
theorem dX3_deriveAbove_62 : decode cX3_deriveAbove 62 = .ok (.iinc 2 1, 3) := by decide +kernel
theorem dX3_deriveAbove_65 : decode cX3_deriveAbove 65 = .ok (.goto (-63), 3) := by decide +kernel
theorem dX3_deriveAbove_68 : decode cX3_deriveAbove 68 = .ok (.iconst 0, 1) := by decide +kernel
theorem dX3_deriveAbove_69 : decode cX3_deriveAbove 69 = .ok (.istore_n 2, 1) := by decide +kernel
theorem dX3_deriveAbove_70 : decode cX3_deriveAbove 70 = .ok (.iload_n 2, 1) := by decide +kernel
theorem dX3_deriveAbove_71 : decode cX3_deriveAbove 71 = .ok (.iconst 5, 1) := by decide +kernel
theorem dX3_deriveAbove_72 : decode cX3_deriveAbove 72 = .ok (.if_icmp .ge 50, 3) := by decide +kernel
theorem dX3_deriveAbove_75 : decode cX3_deriveAbove 75 = .ok (.iconst 0, 1) := by decide +kernel
theorem dX3_deriveAbove_76 : decode cX3_deriveAbove 76 = .ok (.istore_n 3, 1) := by decide +kernel
theorem dX3_deriveAbove_77 : decode cX3_deriveAbove 77 = .ok (.iload_n 3, 1) := by decide +kernel
theorem dX3_deriveAbove_78 : decode cX3_deriveAbove 78 = .ok (.iconst 5, 1) := by decide +kernel
theorem dX3_deriveAbove_79 : decode cX3_deriveAbove 79 = .ok (.if_icmp .ge 37, 3) := by decide +kernel
theorem dX3_deriveAbove_82 : decode cX3_deriveAbove 82 = .ok (.aload_n 0, 1) := by decide +kernel
theorem dX3_deriveAbove_83 : decode cX3_deriveAbove 83 = .ok (.getfield 9, 3) := by decide +kernel
theorem dX3_deriveAbove_86 : decode cX3_deriveAbove 86 = .ok (.iload_n 3, 1) := by decide +kernel
theorem dX3_deriveAbove_87 : decode cX3_deriveAbove 87 = .ok (.iaload, 1) := by decide +kernel
theorem dX3_deriveAbove_88 : decode cX3_deriveAbove 88 = .ok (.iload_n 2, 1) := by decide +kernel
theorem dX3_deriveAbove_89 : decode cX3_deriveAbove 89 = .ok (.invokestatic 80, 3) := by decide +kernel
theorem dX3_deriveAbove_92 : decode cX3_deriveAbove 92 = .ok (.ifCond .eq 18, 3) := by decide +kernel
theorem dX3_deriveAbove_95 : decode cX3_deriveAbove 95 = .ok (.aload_n 0, 1) := by decide +kernel
theorem dX3_deriveAbove_96 : decode cX3_deriveAbove 96 = .ok (.getfield 9, 3) := by decide +kernel
theorem dX3_deriveAbove_99 : decode cX3_deriveAbove 99 = .ok (.iload_n 3, 1) := by decide +kernel
theorem dX3_deriveAbove_100 : decode cX3_deriveAbove 100 = .ok (.dup2, 1) := by decide +kernel
theorem dX3_deriveAbove_101 : decode cX3_deriveAbove 101 = .ok (.iaload, 1) := by decide +kernel
theorem dX3_deriveAbove_102 : decode cX3_deriveAbove 102 = .ok (.aload_n 0, 1) := by decide +kernel
theorem dX3_deriveAbove_103 : decode cX3_deriveAbove 103 = .ok (.getfield 9, 3) := by decide +kernel
theorem dX3_deriveAbove_106 : decode cX3_deriveAbove 106 = .ok (.iload_n 2, 1) := by decide +kernel
theorem dX3_deriveAbove_107 : decode cX3_deriveAbove 107 = .ok (.iaload, 1) := by decide +kernel
theorem dX3_deriveAbove_108 : decode cX3_deriveAbove 108 = .ok (.ior, 1) := by decide +kernel
theorem dX3_deriveAbove_109 : decode cX3_deriveAbove 109 = .ok (.iastore, 1) := by decide +kernel
theorem dX3_deriveAbove_110 : decode cX3_deriveAbove 110 = .ok (.iinc 3 1, 3) := by decide +kernel
theorem dX3_deriveAbove_113 : decode cX3_deriveAbove 113 = .ok (.goto (-36), 3) := by decide +kernel
theorem dX3_deriveAbove_116 : decode cX3_deriveAbove 116 = .ok (.iinc 2 1, 3) := by decide +kernel
theorem dX3_deriveAbove_119 : decode cX3_deriveAbove 119 = .ok (.goto (-49), 3) := by decide +kernel
theorem dX3_deriveAbove_122 : decode cX3_deriveAbove 122 = .ok (.return_, 1) := by decide +kernel
theorem dX3_deriveInterfaceMethods_0 : decode cX3_deriveInterfaceMethods 0 = .ok (.aload_n 0, 1) := by decide +kernel
theorem dX3_deriveInterfaceMethods_1 : decode cX3_deriveInterfaceMethods 1 = .ok (.getfield 21, 3) := by decide +kernel
theorem dX3_deriveInterfaceMethods_4 : decode cX3_deriveInterfaceMethods 4 = .ok (.iconst 0, 1) := by decide +kernel
theorem dX3_deriveInterfaceMethods_5 : decode cX3_deriveInterfaceMethods 5 = .ok (.invokestatic 84, 3) := by decide +kernel
theorem dX3_deriveInterfaceMethods_8 : decode cX3_deriveInterfaceMethods 8 = .ok (.aload_n 0, 1) := by decide +kernel
theorem dX3_deriveInterfaceMethods_9 : decode cX3_deriveInterfaceMethods 9 = .ok (.getfield 24, 3) := by decide +kernel
theorem dX3_deriveInterfaceMethods_12 : decode cX3_deriveInterfaceMethods 12 = .ok (.iconst 0, 1) := by decide +kernel
theorem dX3_deriveInterfaceMethods_13 : decode cX3_deriveInterfaceMethods 13 = .ok (.invokestatic 84, 3) := by decide +kernel
theorem dX3_deriveInterfaceMethods_16 : decode cX3_deriveInterfaceMethods 16 = .ok (.iconst 0, 1) := by decide +kernel
theorem dX3_deriveInterfaceMethods_17 : decode cX3_deriveInterfaceMethods 17 = .ok (.istore_n 2, 1) := by decide +kernel
theorem dX3_deriveInterfaceMethods_18 : decode cX3_deriveInterfaceMethods 18 = .ok (.iload_n 2, 1) := by decide +kernel
theorem dX3_deriveInterfaceMethods_19 : decode cX3_deriveInterfaceMethods 19 = .ok (.iconst 5, 1) := by decide +kernel
theorem dX3_deriveInterfaceMethods_20 : decode cX3_deriveInterfaceMethods 20 = .ok (.if_icmp .ge 96, 3) := by decide +kernel
theorem dX3_deriveInterfaceMethods_23 : decode cX3_deriveInterfaceMethods 23 = .ok (.iconst 0, 1) := by decide +kernel
theorem dX3_deriveInterfaceMethods_24 : decode cX3_deriveInterfaceMethods 24 = .ok (.istore_n 3, 1) := by decide +kernel
theorem dX3_deriveInterfaceMethods_25 : decode cX3_deriveInterfaceMethods 25 = .ok (.iload_n 3, 1) := by decide +kernel
theorem dX3_deriveInterfaceMethods_26 : decode cX3_deriveInterfaceMethods 26 = .ok (.bipush 6, 2) := by decide +kernel
theorem dX3_deriveInterfaceMethods_28 : decode cX3_deriveInterfaceMethods 28 = .ok (.if_icmp .ge 82, 3) := by decide +kernel
theorem dX3_deriveInterfaceMethods_31 : decode cX3_deriveInterfaceMethods 31 = .ok (.aload_n 1, 1) := by decide +kernel
theorem dX3_deriveInterfaceMethods_32 : decode cX3_deriveInterfaceMethods 32 = .ok (.getfield 90, 3) := by decide +kernel
theorem dX3_deriveInterfaceMethods_35 : decode cX3_deriveInterfaceMethods 35 = .ok (.iload_n 2, 1) := by decide +kernel
theorem dX3_deriveInterfaceMethods_36 : decode cX3_deriveInterfaceMethods 36 = .ok (.bipush 6, 2) := by decide +kernel
theorem dX3_deriveInterfaceMethods_38 : decode cX3_deriveInterfaceMethods 38 = .ok (.imul, 1) := by decide +kernel
theorem dX3_deriveInterfaceMethods_39 : decode cX3_deriveInterfaceMethods 39 = .ok (.iload_n 3, 1) := by decide +kernel
theorem dX3_deriveInterfaceMethods_40 : decode cX3_deriveInterfaceMethods 40 = .ok (.iadd, 1) := by decide +kernel
theorem dX3_deriveInterfaceMethods_41 : decode cX3_deriveInterfaceMethods 41 = .ok (.caload, 1) := by decide +kernel
theorem dX3_deriveInterfaceMethods_42 : decode cX3_deriveInterfaceMethods 42 = .ok (.istore 4, 2) := by decide +kernel
theorem dX3_deriveInterfaceMethods_44 : decode cX3_deriveInterfaceMethods 44 = .ok (.iload 4, 2) := by decide +kernel
theorem dX3_deriveInterfaceMethods_46 : decode cX3_deriveInterfaceMethods 46 = .ok (.bipush 45, 2) := by decide +kernel
theorem dX3_deriveInterfaceMethods_48 : decode cX3_deriveInterfaceMethods 48 = .ok (.if_icmp .eq 56, 3) := by decide +kernel
theorem dX3_deriveInterfaceMethods_51 : decode cX3_deriveInterfaceMethods 51 = .ok (.iload 4, 2) := by decide +kernel
theorem dX3_deriveInterfaceMethods_53 : decode cX3_deriveInterfaceMethods 53 = .ok (.bipush 115, 2) := by decide +kernel
theorem dX3_deriveInterfaceMethods_55 : decode cX3_deriveInterfaceMethods 55 = .ok (.if_icmp .eq 49, 3) := by decide +kernel
theorem dX3_deriveInterfaceMethods_58 : decode cX3_deriveInterfaceMethods 58 = .ok (.aload_n 0, 1) := by decide +kernel
theorem dX3_deriveInterfaceMethods_59 : decode cX3_deriveInterfaceMethods 59 = .ok (.getfield 47, 3) := by decide +kernel
theorem dX3_deriveInterfaceMethods_62 : decode cX3_deriveInterfaceMethods 62 = .ok (.iload_n 2, 1) := by decide +kernel
theorem dX3_deriveInterfaceMethods_63 : decode cX3_deriveInterfaceMethods 63 = .ok (.invokestatic 80, 3) := by decide +kernel
theorem dX3_deriveInterfaceMethods_66 : decode cX3_deriveInterfaceMethods 66 = .ok (.ifCond .ne 38, 3) := by decide +kernel
theorem dX3_deriveInterfaceMethods_69 : decode cX3_deriveInterfaceMethods 69 = .ok (.aload_n 0, 1) := by decide +kernel
theorem dX3_deriveInterfaceMethods_70 : decode cX3_deriveInterfaceMethods 70 = .ok (.getfield 21, 3) := by decide +kernel
theorem dX3_deriveInterfaceMethods_73 : decode cX3_deriveInterfaceMethods 73 = .ok (.iload_n 3, 1) := by decide +kernel
theorem dX3_deriveInterfaceMethods_74 : decode cX3_deriveInterfaceMethods 74 = .ok (.dup2, 1) := by decide +kernel
theorem dX3_deriveInterfaceMethods_75 : decode cX3_deriveInterfaceMethods 75 = .ok (.iaload, 1) := by decide +kernel
theorem dX3_deriveInterfaceMethods_76 : decode cX3_deriveInterfaceMethods 76 = .ok (.iconst 1, 1) := by decide +kernel
theorem dX3_deriveInterfaceMethods_77 : decode cX3_deriveInterfaceMethods 77 = .ok (.iload_n 2, 1) := by decide +kernel
theorem dX3_deriveInterfaceMethods_78 : decode cX3_deriveInterfaceMethods 78 = .ok (.ishl, 1) := by decide +kernel
theorem dX3_deriveInterfaceMethods_79 : decode cX3_deriveInterfaceMethods 79 = .ok (.ior, 1) := by decide +kernel
theorem dX3_deriveInterfaceMethods_80 : decode cX3_deriveInterfaceMethods 80 = .ok (.iastore, 1) := by decide +kernel
theorem dX3_deriveInterfaceMethods_81 : decode cX3_deriveInterfaceMethods 81 = .ok (.aload_n 0, 1) := by decide +kernel
theorem dX3_deriveInterfaceMethods_82 : decode cX3_deriveInterfaceMethods 82 = .ok (.getfield 24, 3) := by decide +kernel
theorem dX3_deriveInterfaceMethods_85 : decode cX3_deriveInterfaceMethods 85 = .ok (.iload_n 3, 1) := by decide +kernel
theorem dX3_deriveInterfaceMethods_86 : decode cX3_deriveInterfaceMethods 86 = .ok (.dup2, 1) := by decide +kernel
theorem dX3_deriveInterfaceMethods_87 : decode cX3_deriveInterfaceMethods 87 = .ok (.iaload, 1) := by decide +kernel
theorem dX3_deriveInterfaceMethods_88 : decode cX3_deriveInterfaceMethods 88 = .ok (.iload 4, 2) := by decide +kernel
theorem dX3_deriveInterfaceMethods_90 : decode cX3_deriveInterfaceMethods 90 = .ok (.bipush 97, 2) := by decide +kernel
theorem dX3_deriveInterfaceMethods_92 : decode cX3_deriveInterfaceMethods 92 = .ok (.if_icmp .ne 7, 3) := by decide +kernel
theorem dX3_deriveInterfaceMethods_95 : decode cX3_deriveInterfaceMethods 95 = .ok (.iconst 0, 1) := by decide +kernel
theorem dX3_deriveInterfaceMethods_96 : decode cX3_deriveInterfaceMethods 96 = .ok (.goto 6, 3) := by decide +kernel
theorem dX3_deriveInterfaceMethods_99 : decode cX3_deriveInterfaceMethods 99 = .ok (.iconst 1, 1) := by decide +kernel
theorem dX3_deriveInterfaceMethods_100 : decode cX3_deriveInterfaceMethods 100 = .ok (.iload_n 2, 1) := by decide +kernel
theorem dX3_deriveInterfaceMethods_101 : decode cX3_deriveInterfaceMethods 101 = .ok (.ishl, 1) := by decide +kernel
theorem dX3_deriveInterfaceMethods_102 : decode cX3_deriveInterfaceMethods 102 = .ok (.ior, 1) := by decide +kernel
theorem dX3_deriveInterfaceMethods_103 : decode cX3_deriveInterfaceMethods 103 = .ok (.iastore, 1) := by decide +kernel
theorem dX3_deriveInterfaceMethods_104 : decode cX3_deriveInterfaceMethods 104 = .ok (.iinc 3 1, 3) := by decide +kernel
theorem dX3_deriveInterfaceMethods_107 : decode cX3_deriveInterfaceMethods 107 = .ok (.goto (-82), 3) := by decide +kernel
theorem dX3_deriveInterfaceMethods_110 : decode cX3_deriveInterfaceMethods 110 = .ok (.iinc 2 1, 3) := by decide +kernel
theorem dX3_deriveInterfaceMethods_113 : decode cX3_deriveInterfaceMethods 113 = .ok (.goto (-95), 3) := by decide +kernel
theorem dX3_deriveInterfaceMethods_116 : decode cX3_deriveInterfaceMethods 116 = .ok (.return_, 1) := by decide +kernel
theorem dX3_walkChain_0 : decode cX3_walkChain 0 = .ok (.iload_n 2, 1) := by decide +kernel
theorem dX3_walkChain_1 : decode cX3_walkChain 1 = .ok (.bipush 6, 2) := by decide +kernel
theorem dX3_walkChain_3 : decode cX3_walkChain 3 = .ok (.imul, 1) := by decide +kernel
theorem dX3_walkChain_4 : decode cX3_walkChain 4 = .ok (.istore_n 3, 1) := by decide +kernel
theorem dX3_walkChain_5 : decode cX3_walkChain 5 = .ok (.iload_n 3, 1) := by decide +kernel
theorem dX3_walkChain_6 : decode cX3_walkChain 6 = .ok (.iload_n 2, 1) := by decide +kernel
theorem dX3_walkChain_7 : decode cX3_walkChain 7 = .ok (.bipush 6, 2) := by decide +kernel
theorem dX3_walkChain_9 : decode cX3_walkChain 9 = .ok (.imul, 1) := by decide +kernel
theorem dX3_walkChain_10 : decode cX3_walkChain 10 = .ok (.bipush 6, 2) := by decide +kernel
theorem dX3_walkChain_12 : decode cX3_walkChain 12 = .ok (.iadd, 1) := by decide +kernel
theorem dX3_walkChain_13 : decode cX3_walkChain 13 = .ok (.if_icmp .ge 23, 3) := by decide +kernel
theorem dX3_walkChain_16 : decode cX3_walkChain 16 = .ok (.aload_n 0, 1) := by decide +kernel
theorem dX3_walkChain_17 : decode cX3_walkChain 17 = .ok (.getfield 15, 3) := by decide +kernel
theorem dX3_walkChain_20 : decode cX3_walkChain 20 = .ok (.iload_n 3, 1) := by decide +kernel
theorem dX3_walkChain_21 : decode cX3_walkChain 21 = .ok (.iconst (-1), 1) := by decide +kernel
theorem dX3_walkChain_22 : decode cX3_walkChain 22 = .ok (.iastore, 1) := by decide +kernel
theorem dX3_walkChain_23 : decode cX3_walkChain 23 = .ok (.aload_n 0, 1) := by decide +kernel
theorem dX3_walkChain_24 : decode cX3_walkChain 24 = .ok (.getfield 18, 3) := by decide +kernel
theorem dX3_walkChain_27 : decode cX3_walkChain 27 = .ok (.iload_n 3, 1) := by decide +kernel
theorem dX3_walkChain_28 : decode cX3_walkChain 28 = .ok (.iconst (-1), 1) := by decide +kernel
theorem dX3_walkChain_29 : decode cX3_walkChain 29 = .ok (.iastore, 1) := by decide +kernel
theorem dX3_walkChain_30 : decode cX3_walkChain 30 = .ok (.iinc 3 1, 3) := by decide +kernel
theorem dX3_walkChain_33 : decode cX3_walkChain 33 = .ok (.goto (-28), 3) := by decide +kernel
theorem dX3_walkChain_36 : decode cX3_walkChain 36 = .ok (.aload_n 0, 1) := by decide +kernel
theorem dX3_walkChain_37 : decode cX3_walkChain 37 = .ok (.getfield 43, 3) := by decide +kernel
theorem dX3_walkChain_40 : decode cX3_walkChain 40 = .ok (.iload_n 2, 1) := by decide +kernel
theorem dX3_walkChain_41 : decode cX3_walkChain 41 = .ok (.invokestatic 80, 3) := by decide +kernel
theorem dX3_walkChain_44 : decode cX3_walkChain 44 = .ok (.ifCond .eq 13, 3) := by decide +kernel
theorem dX3_walkChain_47 : decode cX3_walkChain 47 = .ok (.aload_n 0, 1) := by decide +kernel
theorem dX3_walkChain_48 : decode cX3_walkChain 48 = .ok (.aload_n 1, 1) := by decide +kernel
theorem dX3_walkChain_49 : decode cX3_walkChain 49 = .ok (.getfield 59, 3) := by decide +kernel
theorem dX3_walkChain_52 : decode cX3_walkChain 52 = .ok (.iload_n 2, 1) := by decide +kernel
theorem dX3_walkChain_53 : decode cX3_walkChain 53 = .ok (.iload_n 2, 1) := by decide +kernel
theorem dX3_walkChain_54 : decode cX3_walkChain 54 = .ok (.invokevirtual 93, 3) := by decide +kernel
theorem dX3_walkChain_57 : decode cX3_walkChain 57 = .ok (.aload_n 0, 1) := by decide +kernel
theorem dX3_walkChain_58 : decode cX3_walkChain 58 = .ok (.getfield 47, 3) := by decide +kernel
theorem dX3_walkChain_61 : decode cX3_walkChain 61 = .ok (.iload_n 2, 1) := by decide +kernel
theorem dX3_walkChain_62 : decode cX3_walkChain 62 = .ok (.invokestatic 80, 3) := by decide +kernel
theorem dX3_walkChain_65 : decode cX3_walkChain 65 = .ok (.ifCond .eq 12, 3) := by decide +kernel
theorem dX3_walkChain_68 : decode cX3_walkChain 68 = .ok (.aload_n 1, 1) := by decide +kernel
theorem dX3_walkChain_69 : decode cX3_walkChain 69 = .ok (.getfield 77, 3) := by decide +kernel
theorem dX3_walkChain_72 : decode cX3_walkChain 72 = .ok (.iload_n 2, 1) := by decide +kernel
theorem dX3_walkChain_73 : decode cX3_walkChain 73 = .ok (.iaload, 1) := by decide +kernel
theorem dX3_walkChain_74 : decode cX3_walkChain 74 = .ok (.goto 4, 3) := by decide +kernel
theorem dX3_walkChain_77 : decode cX3_walkChain 77 = .ok (.iconst (-1), 1) := by decide +kernel
theorem dX3_walkChain_78 : decode cX3_walkChain 78 = .ok (.istore_n 3, 1) := by decide +kernel
theorem dX3_walkChain_79 : decode cX3_walkChain 79 = .ok (.iconst 1, 1) := by decide +kernel
theorem dX3_walkChain_80 : decode cX3_walkChain 80 = .ok (.istore 4, 2) := by decide +kernel
theorem dX3_walkChain_82 : decode cX3_walkChain 82 = .ok (.iload 4, 2) := by decide +kernel
theorem dX3_walkChain_84 : decode cX3_walkChain 84 = .ok (.iconst 5, 1) := by decide +kernel
theorem dX3_walkChain_85 : decode cX3_walkChain 85 = .ok (.if_icmp .ge 42, 3) := by decide +kernel
theorem dX3_walkChain_88 : decode cX3_walkChain 88 = .ok (.iload_n 3, 1) := by decide +kernel
theorem dX3_walkChain_89 : decode cX3_walkChain 89 = .ok (.iconst (-1), 1) := by decide +kernel
theorem dX3_walkChain_90 : decode cX3_walkChain 90 = .ok (.if_icmp .eq 37, 3) := by decide +kernel
theorem dX3_walkChain_93 : decode cX3_walkChain 93 = .ok (.aload_n 0, 1) := by decide +kernel
theorem dX3_walkChain_94 : decode cX3_walkChain 94 = .ok (.getfield 47, 3) := by decide +kernel
theorem dX3_walkChain_97 : decode cX3_walkChain 97 = .ok (.iload_n 3, 1) := by decide +kernel
theorem dX3_walkChain_98 : decode cX3_walkChain 98 = .ok (.invokestatic 80, 3) := by decide +kernel
theorem dX3_walkChain_101 : decode cX3_walkChain 101 = .ok (.ifCond .eq 26, 3) := by decide +kernel
theorem dX3_walkChain_104 : decode cX3_walkChain 104 = .ok (.aload_n 0, 1) := by decide +kernel
theorem dX3_walkChain_105 : decode cX3_walkChain 105 = .ok (.aload_n 1, 1) := by decide +kernel
theorem dX3_walkChain_106 : decode cX3_walkChain 106 = .ok (.getfield 59, 3) := by decide +kernel
theorem dX3_walkChain_109 : decode cX3_walkChain 109 = .ok (.iload_n 2, 1) := by decide +kernel
theorem dX3_walkChain_110 : decode cX3_walkChain 110 = .ok (.iload_n 3, 1) := by decide +kernel
theorem dX3_walkChain_111 : decode cX3_walkChain 111 = .ok (.invokevirtual 93, 3) := by decide +kernel
theorem dX3_walkChain_114 : decode cX3_walkChain 114 = .ok (.aload_n 1, 1) := by decide +kernel
theorem dX3_walkChain_115 : decode cX3_walkChain 115 = .ok (.getfield 77, 3) := by decide +kernel
theorem dX3_walkChain_118 : decode cX3_walkChain 118 = .ok (.iload_n 3, 1) := by decide +kernel
theorem dX3_walkChain_119 : decode cX3_walkChain 119 = .ok (.iaload, 1) := by decide +kernel
theorem dX3_walkChain_120 : decode cX3_walkChain 120 = .ok (.istore_n 3, 1) := by decide +kernel
theorem dX3_walkChain_121 : decode cX3_walkChain 121 = .ok (.iinc 4 1, 3) := by decide +kernel
theorem dX3_walkChain_124 : decode cX3_walkChain 124 = .ok (.goto (-42), 3) := by decide +kernel
theorem dX3_walkChain_127 : decode cX3_walkChain 127 = .ok (.return_, 1) := by decide +kernel
theorem dX3_noteMethods_0 : decode cX3_noteMethods 0 = .ok (.iconst 0, 1) := by decide +kernel
theorem dX3_noteMethods_1 : decode cX3_noteMethods 1 = .ok (.istore 4, 2) := by decide +kernel
theorem dX3_noteMethods_3 : decode cX3_noteMethods 3 = .ok (.iload 4, 2) := by decide +kernel
theorem dX3_noteMethods_5 : decode cX3_noteMethods 5 = .ok (.bipush 6, 2) := by decide +kernel
theorem dX3_noteMethods_7 : decode cX3_noteMethods 7 = .ok (.if_icmp .ge 120, 3) := by decide +kernel
theorem dX3_noteMethods_10 : decode cX3_noteMethods 10 = .ok (.iload_n 2, 1) := by decide +kernel
theorem dX3_noteMethods_11 : decode cX3_noteMethods 11 = .ok (.bipush 6, 2) := by decide +kernel
theorem dX3_noteMethods_13 : decode cX3_noteMethods 13 = .ok (.imul, 1) := by decide +kernel
theorem dX3_noteMethods_14 : decode cX3_noteMethods 14 = .ok (.iload 4, 2) := by decide +kernel
theorem dX3_noteMethods_16 : decode cX3_noteMethods 16 = .ok (.iadd, 1) := by decide +kernel
theorem dX3_noteMethods_17 : decode cX3_noteMethods 17 = .ok (.istore 5, 2) := by decide +kernel
theorem dX3_noteMethods_19 : decode cX3_noteMethods 19 = .ok (.aload_n 1, 1) := by decide +kernel
theorem dX3_noteMethods_20 : decode cX3_noteMethods 20 = .ok (.getfield 97, 3) := by decide +kernel
theorem dX3_noteMethods_23 : decode cX3_noteMethods 23 = .ok (.iload_n 3, 1) := by decide +kernel
theorem dX3_noteMethods_24 : decode cX3_noteMethods 24 = .ok (.bipush 6, 2) := by decide +kernel
theorem dX3_noteMethods_26 : decode cX3_noteMethods 26 = .ok (.imul, 1) := by decide +kernel
theorem dX3_noteMethods_27 : decode cX3_noteMethods 27 = .ok (.iload 4, 2) := by decide +kernel
theorem dX3_noteMethods_29 : decode cX3_noteMethods 29 = .ok (.iadd, 1) := by decide +kernel
theorem dX3_noteMethods_30 : decode cX3_noteMethods 30 = .ok (.caload, 1) := by decide +kernel
theorem dX3_noteMethods_31 : decode cX3_noteMethods 31 = .ok (.istore 6, 2) := by decide +kernel
theorem dX3_noteMethods_33 : decode cX3_noteMethods 33 = .ok (.aload_n 0, 1) := by decide +kernel
theorem dX3_noteMethods_34 : decode cX3_noteMethods 34 = .ok (.getfield 15, 3) := by decide +kernel
theorem dX3_noteMethods_37 : decode cX3_noteMethods 37 = .ok (.iload 5, 2) := by decide +kernel
theorem dX3_noteMethods_39 : decode cX3_noteMethods 39 = .ok (.iaload, 1) := by decide +kernel
theorem dX3_noteMethods_40 : decode cX3_noteMethods 40 = .ok (.iconst (-1), 1) := by decide +kernel
theorem dX3_noteMethods_41 : decode cX3_noteMethods 41 = .ok (.if_icmp .ne 18, 3) := by decide +kernel
theorem dX3_noteMethods_44 : decode cX3_noteMethods 44 = .ok (.iload 6, 2) := by decide +kernel
theorem dX3_noteMethods_46 : decode cX3_noteMethods 46 = .ok (.bipush 45, 2) := by decide +kernel
theorem dX3_noteMethods_48 : decode cX3_noteMethods 48 = .ok (.if_icmp .eq 11, 3) := by decide +kernel
theorem dX3_noteMethods_51 : decode cX3_noteMethods 51 = .ok (.aload_n 0, 1) := by decide +kernel
theorem dX3_noteMethods_52 : decode cX3_noteMethods 52 = .ok (.getfield 15, 3) := by decide +kernel
theorem dX3_noteMethods_55 : decode cX3_noteMethods 55 = .ok (.iload 5, 2) := by decide +kernel
theorem dX3_noteMethods_57 : decode cX3_noteMethods 57 = .ok (.iload_n 3, 1) := by decide +kernel
theorem dX3_noteMethods_58 : decode cX3_noteMethods 58 = .ok (.iastore, 1) := by decide +kernel
theorem dX3_noteMethods_59 : decode cX3_noteMethods 59 = .ok (.iload 6, 2) := by decide +kernel
theorem dX3_noteMethods_61 : decode cX3_noteMethods 61 = .ok (.bipush 45, 2) := by decide +kernel
theorem dX3_noteMethods_63 : decode cX3_noteMethods 63 = .ok (.if_icmp .eq 31, 3) := by decide +kernel
theorem dX3_noteMethods_66 : decode cX3_noteMethods 66 = .ok (.iload 6, 2) := by decide +kernel
theorem dX3_noteMethods_68 : decode cX3_noteMethods 68 = .ok (.bipush 118, 2) := by decide +kernel
theorem dX3_noteMethods_70 : decode cX3_noteMethods 70 = .ok (.if_icmp .eq 24, 3) := by decide +kernel
theorem dX3_noteMethods_73 : decode cX3_noteMethods 73 = .ok (.aload_n 1, 1) := by decide +kernel
theorem dX3_noteMethods_74 : decode cX3_noteMethods 74 = .ok (.getfield 90, 3) := by decide +kernel
theorem dX3_noteMethods_77 : decode cX3_noteMethods 77 = .ok (.iload_n 3, 1) := by decide +kernel
theorem dX3_noteMethods_78 : decode cX3_noteMethods 78 = .ok (.bipush 6, 2) := by decide +kernel
theorem dX3_noteMethods_80 : decode cX3_noteMethods 80 = .ok (.imul, 1) := by decide +kernel
theorem dX3_noteMethods_81 : decode cX3_noteMethods 81 = .ok (.iload 4, 2) := by decide +kernel
theorem dX3_noteMethods_83 : decode cX3_noteMethods 83 = .ok (.iadd, 1) := by decide +kernel
theorem dX3_noteMethods_84 : decode cX3_noteMethods 84 = .ok (.caload, 1) := by decide +kernel
theorem dX3_noteMethods_85 : decode cX3_noteMethods 85 = .ok (.bipush 115, 2) := by decide +kernel
theorem dX3_noteMethods_87 : decode cX3_noteMethods 87 = .ok (.if_icmp .eq 7, 3) := by decide +kernel
theorem dX3_noteMethods_90 : decode cX3_noteMethods 90 = .ok (.iconst 1, 1) := by decide +kernel
theorem dX3_noteMethods_91 : decode cX3_noteMethods 91 = .ok (.goto 4, 3) := by decide +kernel
theorem dX3_noteMethods_94 : decode cX3_noteMethods 94 = .ok (.iconst 0, 1) := by decide +kernel
theorem dX3_noteMethods_95 : decode cX3_noteMethods 95 = .ok (.istore 7, 2) := by decide +kernel
theorem dX3_noteMethods_97 : decode cX3_noteMethods 97 = .ok (.aload_n 0, 1) := by decide +kernel
theorem dX3_noteMethods_98 : decode cX3_noteMethods 98 = .ok (.getfield 18, 3) := by decide +kernel
theorem dX3_noteMethods_101 : decode cX3_noteMethods 101 = .ok (.iload 5, 2) := by decide +kernel
theorem dX3_noteMethods_103 : decode cX3_noteMethods 103 = .ok (.iaload, 1) := by decide +kernel
theorem dX3_noteMethods_104 : decode cX3_noteMethods 104 = .ok (.iconst (-1), 1) := by decide +kernel
theorem dX3_noteMethods_105 : decode cX3_noteMethods 105 = .ok (.if_icmp .ne 16, 3) := by decide +kernel
theorem dX3_noteMethods_108 : decode cX3_noteMethods 108 = .ok (.iload 7, 2) := by decide +kernel
theorem dX3_noteMethods_110 : decode cX3_noteMethods 110 = .ok (.ifCond .eq 11, 3) := by decide +kernel
theorem dX3_noteMethods_113 : decode cX3_noteMethods 113 = .ok (.aload_n 0, 1) := by decide +kernel
theorem dX3_noteMethods_114 : decode cX3_noteMethods 114 = .ok (.getfield 18, 3) := by decide +kernel
theorem dX3_noteMethods_117 : decode cX3_noteMethods 117 = .ok (.iload 5, 2) := by decide +kernel
theorem dX3_noteMethods_119 : decode cX3_noteMethods 119 = .ok (.iload_n 3, 1) := by decide +kernel
theorem dX3_noteMethods_120 : decode cX3_noteMethods 120 = .ok (.iastore, 1) := by decide +kernel
theorem dX3_noteMethods_121 : decode cX3_noteMethods 121 = .ok (.iinc 4 1, 3) := by decide +kernel
theorem dX3_noteMethods_124 : decode cX3_noteMethods 124 = .ok (.goto (-121), 3) := by decide +kernel
theorem dX3_noteMethods_127 : decode cX3_noteMethods 127 = .ok (.return_, 1) := by decide +kernel
theorem dX3_deriveChoices_0 : decode cX3_deriveChoices 0 = .ok (.iconst 0, 1) := by decide +kernel
theorem dX3_deriveChoices_1 : decode cX3_deriveChoices 1 = .ok (.istore_n 3, 1) := by decide +kernel
theorem dX3_deriveChoices_2 : decode cX3_deriveChoices 2 = .ok (.iload_n 3, 1) := by decide +kernel
theorem dX3_deriveChoices_3 : decode cX3_deriveChoices 3 = .ok (.bipush 6, 2) := by decide +kernel
theorem dX3_deriveChoices_5 : decode cX3_deriveChoices 5 = .ok (.if_icmp .ge 210, 3) := by decide +kernel
theorem dX3_deriveChoices_8 : decode cX3_deriveChoices 8 = .ok (.iload_n 2, 1) := by decide +kernel
theorem dX3_deriveChoices_9 : decode cX3_deriveChoices 9 = .ok (.bipush 6, 2) := by decide +kernel
theorem dX3_deriveChoices_11 : decode cX3_deriveChoices 11 = .ok (.imul, 1) := by decide +kernel
theorem dX3_deriveChoices_12 : decode cX3_deriveChoices 12 = .ok (.iload_n 3, 1) := by decide +kernel
theorem dX3_deriveChoices_13 : decode cX3_deriveChoices 13 = .ok (.iadd, 1) := by decide +kernel
theorem dX3_deriveChoices_14 : decode cX3_deriveChoices 14 = .ok (.istore 4, 2) := by decide +kernel
theorem dX3_deriveChoices_16 : decode cX3_deriveChoices 16 = .ok (.aload_n 0, 1) := by decide +kernel
theorem dX3_deriveChoices_17 : decode cX3_deriveChoices 17 = .ok (.aload_n 0, 1) := by decide +kernel
theorem dX3_deriveChoices_18 : decode cX3_deriveChoices 18 = .ok (.getfield 21, 3) := by decide +kernel
theorem dX3_deriveChoices_21 : decode cX3_deriveChoices 21 = .ok (.iload_n 3, 1) := by decide +kernel
theorem dX3_deriveChoices_22 : decode cX3_deriveChoices 22 = .ok (.iaload, 1) := by decide +kernel
theorem dX3_deriveChoices_23 : decode cX3_deriveChoices 23 = .ok (.aload_n 0, 1) := by decide +kernel
theorem dX3_deriveChoices_24 : decode cX3_deriveChoices 24 = .ok (.getfield 9, 3) := by decide +kernel
theorem dX3_deriveChoices_27 : decode cX3_deriveChoices 27 = .ok (.iload_n 2, 1) := by decide +kernel
theorem dX3_deriveChoices_28 : decode cX3_deriveChoices 28 = .ok (.iaload, 1) := by decide +kernel
theorem dX3_deriveChoices_29 : decode cX3_deriveChoices 29 = .ok (.iand, 1) := by decide +kernel
theorem dX3_deriveChoices_30 : decode cX3_deriveChoices 30 = .ok (.invokevirtual 100, 3) := by decide +kernel
theorem dX3_deriveChoices_33 : decode cX3_deriveChoices 33 = .ok (.istore 5, 2) := by decide +kernel
theorem dX3_deriveChoices_35 : decode cX3_deriveChoices 35 = .ok (.iload 5, 2) := by decide +kernel
theorem dX3_deriveChoices_37 : decode cX3_deriveChoices 37 = .ok (.aload_n 0, 1) := by decide +kernel
theorem dX3_deriveChoices_38 : decode cX3_deriveChoices 38 = .ok (.getfield 24, 3) := by decide +kernel
theorem dX3_deriveChoices_41 : decode cX3_deriveChoices 41 = .ok (.iload_n 3, 1) := by decide +kernel
theorem dX3_deriveChoices_42 : decode cX3_deriveChoices 42 = .ok (.iaload, 1) := by decide +kernel
theorem dX3_deriveChoices_43 : decode cX3_deriveChoices 43 = .ok (.iand, 1) := by decide +kernel
theorem dX3_deriveChoices_44 : decode cX3_deriveChoices 44 = .ok (.istore 6, 2) := by decide +kernel
theorem dX3_deriveChoices_46 : decode cX3_deriveChoices 46 = .ok (.aload_n 0, 1) := by decide +kernel
theorem dX3_deriveChoices_47 : decode cX3_deriveChoices 47 = .ok (.getfield 27, 3) := by decide +kernel
theorem dX3_deriveChoices_50 : decode cX3_deriveChoices 50 = .ok (.iload 4, 2) := by decide +kernel
theorem dX3_deriveChoices_52 : decode cX3_deriveChoices 52 = .ok (.aload_n 0, 1) := by decide +kernel
theorem dX3_deriveChoices_53 : decode cX3_deriveChoices 53 = .ok (.getfield 15, 3) := by decide +kernel
theorem dX3_deriveChoices_56 : decode cX3_deriveChoices 56 = .ok (.iload 4, 2) := by decide +kernel
theorem dX3_deriveChoices_58 : decode cX3_deriveChoices 58 = .ok (.iaload, 1) := by decide +kernel
theorem dX3_deriveChoices_59 : decode cX3_deriveChoices 59 = .ok (.iastore, 1) := by decide +kernel
theorem dX3_deriveChoices_60 : decode cX3_deriveChoices 60 = .ok (.aload_n 0, 1) := by decide +kernel
theorem dX3_deriveChoices_61 : decode cX3_deriveChoices 61 = .ok (.getfield 15, 3) := by decide +kernel
theorem dX3_deriveChoices_64 : decode cX3_deriveChoices 64 = .ok (.iload 4, 2) := by decide +kernel
theorem dX3_deriveChoices_66 : decode cX3_deriveChoices 66 = .ok (.iaload, 1) := by decide +kernel
theorem dX3_deriveChoices_67 : decode cX3_deriveChoices 67 = .ok (.iconst (-1), 1) := by decide +kernel
theorem dX3_deriveChoices_68 : decode cX3_deriveChoices 68 = .ok (.if_icmp .ne 30, 3) := by decide +kernel
theorem dX3_deriveChoices_71 : decode cX3_deriveChoices 71 = .ok (.aload_n 0, 1) := by decide +kernel
theorem dX3_deriveChoices_72 : decode cX3_deriveChoices 72 = .ok (.getfield 27, 3) := by decide +kernel
theorem dX3_deriveChoices_75 : decode cX3_deriveChoices 75 = .ok (.iload 4, 2) := by decide +kernel
theorem dX3_deriveChoices_77 : decode cX3_deriveChoices 77 = .ok (.aload_n 0, 1) := by decide +kernel
theorem dX3_deriveChoices_78 : decode cX3_deriveChoices 78 = .ok (.iload 6, 2) := by decide +kernel
theorem dX3_deriveChoices_80 : decode cX3_deriveChoices 80 = .ok (.invokestatic 104, 3) := by decide +kernel
theorem dX3_deriveChoices_83 : decode cX3_deriveChoices 83 = .ok (.iconst 1, 1) := by decide +kernel
theorem dX3_deriveChoices_84 : decode cX3_deriveChoices 84 = .ok (.if_icmp .ne 8, 3) := by decide +kernel
theorem dX3_deriveChoices_87 : decode cX3_deriveChoices 87 = .ok (.iload 6, 2) := by decide +kernel
theorem dX3_deriveChoices_89 : decode cX3_deriveChoices 89 = .ok (.goto 5, 3) := by decide +kernel
theorem dX3_deriveChoices_92 : decode cX3_deriveChoices 92 = .ok (.iload 5, 2) := by decide +kernel
theorem dX3_deriveChoices_94 : decode cX3_deriveChoices 94 = .ok (.invokevirtual 109, 3) := by decide +kernel
theorem dX3_deriveChoices_97 : decode cX3_deriveChoices 97 = .ok (.iastore, 1) := by decide +kernel
theorem dX3_deriveChoices_98 : decode cX3_deriveChoices 98 = .ok (.aload_n 0, 1) := by decide +kernel
theorem dX3_deriveChoices_99 : decode cX3_deriveChoices 99 = .ok (.getfield 18, 3) := by decide +kernel
theorem dX3_deriveChoices_102 : decode cX3_deriveChoices 102 = .ok (.iload 4, 2) := by decide +kernel
theorem dX3_deriveChoices_104 : decode cX3_deriveChoices 104 = .ok (.iaload, 1) := by decide +kernel
theorem dX3_deriveChoices_105 : decode cX3_deriveChoices 105 = .ok (.istore 7, 2) := by decide +kernel
theorem dX3_deriveChoices_107 : decode cX3_deriveChoices 107 = .ok (.iload 7, 2) := by decide +kernel
theorem dX3_deriveChoices_109 : decode cX3_deriveChoices 109 = .ok (.iconst (-1), 1) := by decide +kernel
theorem dX3_deriveChoices_110 : decode cX3_deriveChoices 110 = .ok (.if_icmp .eq 58, 3) := by decide +kernel
theorem dX3_deriveChoices_113 : decode cX3_deriveChoices 113 = .ok (.iload 7, 2) := by decide +kernel
theorem dX3_deriveChoices_115 : decode cX3_deriveChoices 115 = .ok (.iconst 5, 1) := by decide +kernel
theorem dX3_deriveChoices_116 : decode cX3_deriveChoices 116 = .ok (.if_icmp .eq 27, 3) := by decide +kernel
theorem dX3_deriveChoices_119 : decode cX3_deriveChoices 119 = .ok (.aload_n 1, 1) := by decide +kernel
theorem dX3_deriveChoices_120 : decode cX3_deriveChoices 120 = .ok (.getfield 59, 3) := by decide +kernel
theorem dX3_deriveChoices_123 : decode cX3_deriveChoices 123 = .ok (.getfield 90, 3) := by decide +kernel
theorem dX3_deriveChoices_126 : decode cX3_deriveChoices 126 = .ok (.iload 7, 2) := by decide +kernel
theorem dX3_deriveChoices_128 : decode cX3_deriveChoices 128 = .ok (.bipush 6, 2) := by decide +kernel
theorem dX3_deriveChoices_130 : decode cX3_deriveChoices 130 = .ok (.imul, 1) := by decide +kernel
theorem dX3_deriveChoices_131 : decode cX3_deriveChoices 131 = .ok (.iload_n 3, 1) := by decide +kernel
theorem dX3_deriveChoices_132 : decode cX3_deriveChoices 132 = .ok (.iadd, 1) := by decide +kernel
theorem dX3_deriveChoices_133 : decode cX3_deriveChoices 133 = .ok (.caload, 1) := by decide +kernel
theorem dX3_deriveChoices_134 : decode cX3_deriveChoices 134 = .ok (.bipush 97, 2) := by decide +kernel
theorem dX3_deriveChoices_136 : decode cX3_deriveChoices 136 = .ok (.if_icmp .ne 7, 3) := by decide +kernel
theorem dX3_deriveChoices_139 : decode cX3_deriveChoices 139 = .ok (.iconst 1, 1) := by decide +kernel
theorem dX3_deriveChoices_140 : decode cX3_deriveChoices 140 = .ok (.goto 4, 3) := by decide +kernel
theorem dX3_deriveChoices_143 : decode cX3_deriveChoices 143 = .ok (.iconst 0, 1) := by decide +kernel
theorem dX3_deriveChoices_144 : decode cX3_deriveChoices 144 = .ok (.istore 8, 2) := by decide +kernel
theorem dX3_deriveChoices_146 : decode cX3_deriveChoices 146 = .ok (.aload_n 0, 1) := by decide +kernel
theorem dX3_deriveChoices_147 : decode cX3_deriveChoices 147 = .ok (.getfield 30, 3) := by decide +kernel
theorem dX3_deriveChoices_150 : decode cX3_deriveChoices 150 = .ok (.iload 4, 2) := by decide +kernel
theorem dX3_deriveChoices_152 : decode cX3_deriveChoices 152 = .ok (.iload 8, 2) := by decide +kernel
theorem dX3_deriveChoices_154 : decode cX3_deriveChoices 154 = .ok (.ifCond .eq 8, 3) := by decide +kernel
theorem dX3_deriveChoices_157 : decode cX3_deriveChoices 157 = .ok (.bipush (-65), 2) := by decide +kernel
theorem dX3_deriveChoices_159 : decode cX3_deriveChoices 159 = .ok (.goto 5, 3) := by decide +kernel
theorem dX3_deriveChoices_162 : decode cX3_deriveChoices 162 = .ok (.iload 7, 2) := by decide +kernel
theorem dX3_deriveChoices_164 : decode cX3_deriveChoices 164 = .ok (.iastore, 1) := by decide +kernel
theorem dX3_deriveChoices_165 : decode cX3_deriveChoices 165 = .ok (.goto 44, 3) := by decide +kernel
theorem dX3_deriveChoices_168 : decode cX3_deriveChoices 168 = .ok (.iload 6, 2) := by decide +kernel
theorem dX3_deriveChoices_170 : decode cX3_deriveChoices 170 = .ok (.invokestatic 104, 3) := by decide +kernel
theorem dX3_deriveChoices_173 : decode cX3_deriveChoices 173 = .ok (.istore 8, 2) := by decide +kernel
theorem dX3_deriveChoices_175 : decode cX3_deriveChoices 175 = .ok (.aload_n 0, 1) := by decide +kernel
theorem dX3_deriveChoices_176 : decode cX3_deriveChoices 176 = .ok (.getfield 30, 3) := by decide +kernel
theorem dX3_deriveChoices_179 : decode cX3_deriveChoices 179 = .ok (.iload 4, 2) := by decide +kernel
theorem dX3_deriveChoices_181 : decode cX3_deriveChoices 181 = .ok (.iload 8, 2) := by decide +kernel
theorem dX3_deriveChoices_183 : decode cX3_deriveChoices 183 = .ok (.iconst 1, 1) := by decide +kernel
theorem dX3_deriveChoices_184 : decode cX3_deriveChoices 184 = .ok (.if_icmp .ne 12, 3) := by decide +kernel
theorem dX3_deriveChoices_187 : decode cX3_deriveChoices 187 = .ok (.aload_n 0, 1) := by decide +kernel
theorem dX3_deriveChoices_188 : decode cX3_deriveChoices 188 = .ok (.iload 6, 2) := by decide +kernel
theorem dX3_deriveChoices_190 : decode cX3_deriveChoices 190 = .ok (.invokevirtual 109, 3) := by decide +kernel
theorem dX3_deriveChoices_193 : decode cX3_deriveChoices 193 = .ok (.goto 15, 3) := by decide +kernel
theorem dX3_deriveChoices_196 : decode cX3_deriveChoices 196 = .ok (.iload 8, 2) := by decide +kernel
theorem dX3_deriveChoices_198 : decode cX3_deriveChoices 198 = .ok (.ifCond .ne 8, 3) := by decide +kernel
theorem dX3_deriveChoices_201 : decode cX3_deriveChoices 201 = .ok (.bipush (-65), 2) := by decide +kernel
theorem dX3_deriveChoices_203 : decode cX3_deriveChoices 203 = .ok (.goto 5, 3) := by decide +kernel
theorem dX3_deriveChoices_206 : decode cX3_deriveChoices 206 = .ok (.bipush (-73), 2) := by decide +kernel
theorem dX3_deriveChoices_208 : decode cX3_deriveChoices 208 = .ok (.iastore, 1) := by decide +kernel
theorem dX3_deriveChoices_209 : decode cX3_deriveChoices 209 = .ok (.iinc 3 1, 3) := by decide +kernel
theorem dX3_deriveChoices_212 : decode cX3_deriveChoices 212 = .ok (.goto (-210), 3) := by decide +kernel
theorem dX3_deriveChoices_215 : decode cX3_deriveChoices 215 = .ok (.return_, 1) := by decide +kernel
theorem dX3_nearest_0 : decode cX3_nearest 0 = .ok (.iload_n 1, 1) := by decide +kernel
theorem dX3_nearest_1 : decode cX3_nearest 1 = .ok (.istore_n 2, 1) := by decide +kernel
theorem dX3_nearest_2 : decode cX3_nearest 2 = .ok (.iconst 0, 1) := by decide +kernel
theorem dX3_nearest_3 : decode cX3_nearest 3 = .ok (.istore_n 3, 1) := by decide +kernel
theorem dX3_nearest_4 : decode cX3_nearest 4 = .ok (.iload_n 3, 1) := by decide +kernel
theorem dX3_nearest_5 : decode cX3_nearest 5 = .ok (.iconst 5, 1) := by decide +kernel
theorem dX3_nearest_6 : decode cX3_nearest 6 = .ok (.if_icmp .ge 41, 3) := by decide +kernel
theorem dX3_nearest_9 : decode cX3_nearest 9 = .ok (.iload_n 1, 1) := by decide +kernel
theorem dX3_nearest_10 : decode cX3_nearest 10 = .ok (.ifCond .eq 37, 3) := by decide +kernel
theorem dX3_nearest_13 : decode cX3_nearest 13 = .ok (.iconst 1, 1) := by decide +kernel
theorem dX3_nearest_14 : decode cX3_nearest 14 = .ok (.iload_n 3, 1) := by decide +kernel
theorem dX3_nearest_15 : decode cX3_nearest 15 = .ok (.ishl, 1) := by decide +kernel
theorem dX3_nearest_16 : decode cX3_nearest 16 = .ok (.istore 4, 2) := by decide +kernel
theorem dX3_nearest_18 : decode cX3_nearest 18 = .ok (.iload_n 1, 1) := by decide +kernel
theorem dX3_nearest_19 : decode cX3_nearest 19 = .ok (.iload 4, 2) := by decide +kernel
theorem dX3_nearest_21 : decode cX3_nearest 21 = .ok (.iand, 1) := by decide +kernel
theorem dX3_nearest_22 : decode cX3_nearest 22 = .ok (.ifCond .eq 19, 3) := by decide +kernel
theorem dX3_nearest_25 : decode cX3_nearest 25 = .ok (.iload_n 2, 1) := by decide +kernel
theorem dX3_nearest_26 : decode cX3_nearest 26 = .ok (.aload_n 0, 1) := by decide +kernel
theorem dX3_nearest_27 : decode cX3_nearest 27 = .ok (.getfield 9, 3) := by decide +kernel
theorem dX3_nearest_30 : decode cX3_nearest 30 = .ok (.iload_n 3, 1) := by decide +kernel
theorem dX3_nearest_31 : decode cX3_nearest 31 = .ok (.iaload, 1) := by decide +kernel
theorem dX3_nearest_32 : decode cX3_nearest 32 = .ok (.iload 4, 2) := by decide +kernel
theorem dX3_nearest_34 : decode cX3_nearest 34 = .ok (.iconst (-1), 1) := by decide +kernel
theorem dX3_nearest_35 : decode cX3_nearest 35 = .ok (.ixor, 1) := by decide +kernel
theorem dX3_nearest_36 : decode cX3_nearest 36 = .ok (.iand, 1) := by decide +kernel
theorem dX3_nearest_37 : decode cX3_nearest 37 = .ok (.iconst (-1), 1) := by decide +kernel
theorem dX3_nearest_38 : decode cX3_nearest 38 = .ok (.ixor, 1) := by decide +kernel
theorem dX3_nearest_39 : decode cX3_nearest 39 = .ok (.iand, 1) := by decide +kernel
theorem dX3_nearest_40 : decode cX3_nearest 40 = .ok (.istore_n 2, 1) := by decide +kernel
theorem dX3_nearest_41 : decode cX3_nearest 41 = .ok (.iinc 3 1, 3) := by decide +kernel
theorem dX3_nearest_44 : decode cX3_nearest 44 = .ok (.goto (-40), 3) := by decide +kernel
theorem dX3_nearest_47 : decode cX3_nearest 47 = .ok (.iload_n 2, 1) := by decide +kernel
theorem dX3_nearest_48 : decode cX3_nearest 48 = .ok (.ireturn, 1) := by decide +kernel
theorem dX3_lowest_0 : decode cX3_lowest 0 = .ok (.iconst 0, 1) := by decide +kernel
theorem dX3_lowest_1 : decode cX3_lowest 1 = .ok (.istore_n 2, 1) := by decide +kernel
theorem dX3_lowest_2 : decode cX3_lowest 2 = .ok (.iload_n 2, 1) := by decide +kernel
theorem dX3_lowest_3 : decode cX3_lowest 3 = .ok (.iconst 5, 1) := by decide +kernel
theorem dX3_lowest_4 : decode cX3_lowest 4 = .ok (.if_icmp .ge 24, 3) := by decide +kernel
theorem dX3_lowest_7 : decode cX3_lowest 7 = .ok (.iload_n 1, 1) := by decide +kernel
theorem dX3_lowest_8 : decode cX3_lowest 8 = .ok (.ifCond .eq 20, 3) := by decide +kernel
theorem dX3_lowest_11 : decode cX3_lowest 11 = .ok (.iload_n 1, 1) := by decide +kernel
theorem dX3_lowest_12 : decode cX3_lowest 12 = .ok (.iload_n 2, 1) := by decide +kernel
theorem dX3_lowest_13 : decode cX3_lowest 13 = .ok (.ishr, 1) := by decide +kernel
theorem dX3_lowest_14 : decode cX3_lowest 14 = .ok (.iconst 1, 1) := by decide +kernel
theorem dX3_lowest_15 : decode cX3_lowest 15 = .ok (.iand, 1) := by decide +kernel
theorem dX3_lowest_16 : decode cX3_lowest 16 = .ok (.iconst 1, 1) := by decide +kernel
theorem dX3_lowest_17 : decode cX3_lowest 17 = .ok (.if_icmp .ne 5, 3) := by decide +kernel
theorem dX3_lowest_20 : decode cX3_lowest 20 = .ok (.iload_n 2, 1) := by decide +kernel
theorem dX3_lowest_21 : decode cX3_lowest 21 = .ok (.ireturn, 1) := by decide +kernel
theorem dX3_lowest_22 : decode cX3_lowest 22 = .ok (.iinc 2 1, 3) := by decide +kernel
theorem dX3_lowest_25 : decode cX3_lowest 25 = .ok (.goto (-23), 3) := by decide +kernel
theorem dX3_lowest_28 : decode cX3_lowest 28 = .ok (.iconst (-1), 1) := by decide +kernel
theorem dX3_lowest_29 : decode cX3_lowest 29 = .ok (.ireturn, 1) := by decide +kernel
theorem dX3_deriveLawful_0 : decode cX3_deriveLawful 0 = .ok (.iconst 0, 1) := by decide +kernel
theorem dX3_deriveLawful_1 : decode cX3_deriveLawful 1 = .ok (.istore_n 2, 1) := by decide +kernel
theorem dX3_deriveLawful_2 : decode cX3_deriveLawful 2 = .ok (.iload_n 2, 1) := by decide +kernel
theorem dX3_deriveLawful_3 : decode cX3_deriveLawful 3 = .ok (.iconst 5, 1) := by decide +kernel
theorem dX3_deriveLawful_4 : decode cX3_deriveLawful 4 = .ok (.if_icmp .ge 41, 3) := by decide +kernel
theorem dX3_deriveLawful_7 : decode cX3_deriveLawful 7 = .ok (.iconst 0, 1) := by decide +kernel
theorem dX3_deriveLawful_8 : decode cX3_deriveLawful 8 = .ok (.istore_n 3, 1) := by decide +kernel
theorem dX3_deriveLawful_9 : decode cX3_deriveLawful 9 = .ok (.iload_n 3, 1) := by decide +kernel
theorem dX3_deriveLawful_10 : decode cX3_deriveLawful 10 = .ok (.iconst 5, 1) := by decide +kernel
theorem dX3_deriveLawful_11 : decode cX3_deriveLawful 11 = .ok (.if_icmp .ge 28, 3) := by decide +kernel
theorem dX3_deriveLawful_14 : decode cX3_deriveLawful 14 = .ok (.aload_n 0, 1) := by decide +kernel
theorem dX3_deriveLawful_15 : decode cX3_deriveLawful 15 = .ok (.getfield 9, 3) := by decide +kernel
theorem dX3_deriveLawful_18 : decode cX3_deriveLawful 18 = .ok (.iload_n 3, 1) := by decide +kernel
theorem dX3_deriveLawful_19 : decode cX3_deriveLawful 19 = .ok (.iaload, 1) := by decide +kernel
theorem dX3_deriveLawful_20 : decode cX3_deriveLawful 20 = .ok (.invokestatic 104, 3) := by decide +kernel
theorem dX3_deriveLawful_23 : decode cX3_deriveLawful 23 = .ok (.iload_n 2, 1) := by decide +kernel
theorem dX3_deriveLawful_24 : decode cX3_deriveLawful 24 = .ok (.if_icmp .ne 9, 3) := by decide +kernel
theorem dX3_deriveLawful_27 : decode cX3_deriveLawful 27 = .ok (.aload_n 0, 1) := by decide +kernel
theorem dX3_deriveLawful_28 : decode cX3_deriveLawful 28 = .ok (.aload_n 1, 1) := by decide +kernel
theorem dX3_deriveLawful_29 : decode cX3_deriveLawful 29 = .ok (.iload_n 3, 1) := by decide +kernel
theorem dX3_deriveLawful_30 : decode cX3_deriveLawful 30 = .ok (.invokevirtual 112, 3) := by decide +kernel
theorem dX3_deriveLawful_33 : decode cX3_deriveLawful 33 = .ok (.iinc 3 1, 3) := by decide +kernel
theorem dX3_deriveLawful_36 : decode cX3_deriveLawful 36 = .ok (.goto (-27), 3) := by decide +kernel
theorem dX3_deriveLawful_39 : decode cX3_deriveLawful 39 = .ok (.iinc 2 1, 3) := by decide +kernel
theorem dX3_deriveLawful_42 : decode cX3_deriveLawful 42 = .ok (.goto (-40), 3) := by decide +kernel
theorem dX3_deriveLawful_45 : decode cX3_deriveLawful 45 = .ok (.aload_n 0, 1) := by decide +kernel
theorem dX3_deriveLawful_46 : decode cX3_deriveLawful 46 = .ok (.iconst 0, 1) := by decide +kernel
theorem dX3_deriveLawful_47 : decode cX3_deriveLawful 47 = .ok (.putfield 115, 3) := by decide +kernel
theorem dX3_deriveLawful_50 : decode cX3_deriveLawful 50 = .ok (.aload_n 0, 1) := by decide +kernel
theorem dX3_deriveLawful_51 : decode cX3_deriveLawful 51 = .ok (.iconst 0, 1) := by decide +kernel
theorem dX3_deriveLawful_52 : decode cX3_deriveLawful 52 = .ok (.putfield 118, 3) := by decide +kernel
theorem dX3_deriveLawful_55 : decode cX3_deriveLawful 55 = .ok (.iconst 0, 1) := by decide +kernel
theorem dX3_deriveLawful_56 : decode cX3_deriveLawful 56 = .ok (.istore_n 2, 1) := by decide +kernel
theorem dX3_deriveLawful_57 : decode cX3_deriveLawful 57 = .ok (.iload_n 2, 1) := by decide +kernel
theorem dX3_deriveLawful_58 : decode cX3_deriveLawful 58 = .ok (.iconst 5, 1) := by decide +kernel
theorem dX3_deriveLawful_59 : decode cX3_deriveLawful 59 = .ok (.if_icmp .ge 106, 3) := by decide +kernel
theorem dX3_deriveLawful_62 : decode cX3_deriveLawful 62 = .ok (.aload_n 0, 1) := by decide +kernel
theorem dX3_deriveLawful_63 : decode cX3_deriveLawful 63 = .ok (.getfield 43, 3) := by decide +kernel
theorem dX3_deriveLawful_66 : decode cX3_deriveLawful 66 = .ok (.iload_n 2, 1) := by decide +kernel
theorem dX3_deriveLawful_67 : decode cX3_deriveLawful 67 = .ok (.invokestatic 80, 3) := by decide +kernel
theorem dX3_deriveLawful_70 : decode cX3_deriveLawful 70 = .ok (.ifCond .eq 16, 3) := by decide +kernel
theorem dX3_deriveLawful_73 : decode cX3_deriveLawful 73 = .ok (.aload_n 1, 1) := by decide +kernel
theorem dX3_deriveLawful_74 : decode cX3_deriveLawful 74 = .ok (.getfield 121, 3) := by decide +kernel
theorem dX3_deriveLawful_77 : decode cX3_deriveLawful 77 = .ok (.iload_n 2, 1) := by decide +kernel
theorem dX3_deriveLawful_78 : decode cX3_deriveLawful 78 = .ok (.baload, 1) := by decide +kernel
theorem dX3_deriveLawful_79 : decode cX3_deriveLawful 79 = .ok (.ifCond .eq 7, 3) := by decide +kernel
theorem dX3_deriveLawful_82 : decode cX3_deriveLawful 82 = .ok (.iconst 1, 1) := by decide +kernel
theorem dX3_deriveLawful_83 : decode cX3_deriveLawful 83 = .ok (.goto 4, 3) := by decide +kernel
theorem dX3_deriveLawful_86 : decode cX3_deriveLawful 86 = .ok (.iconst 0, 1) := by decide +kernel
theorem dX3_deriveLawful_87 : decode cX3_deriveLawful 87 = .ok (.istore_n 3, 1) := by decide +kernel
theorem dX3_deriveLawful_88 : decode cX3_deriveLawful 88 = .ok (.aload_n 0, 1) := by decide +kernel
theorem dX3_deriveLawful_89 : decode cX3_deriveLawful 89 = .ok (.dup, 1) := by decide +kernel
theorem dX3_deriveLawful_90 : decode cX3_deriveLawful 90 = .ok (.getfield 115, 3) := by decide +kernel
theorem dX3_deriveLawful_93 : decode cX3_deriveLawful 93 = .ok (.iload_n 3, 1) := by decide +kernel
theorem dX3_deriveLawful_94 : decode cX3_deriveLawful 94 = .ok (.ifCond .eq 29, 3) := by decide +kernel
theorem dX3_deriveLawful_97 : decode cX3_deriveLawful 97 = .ok (.aload_n 0, 1) := by decide +kernel
theorem dX3_deriveLawful_98 : decode cX3_deriveLawful 98 = .ok (.getfield 47, 3) := by decide +kernel
theorem dX3_deriveLawful_101 : decode cX3_deriveLawful 101 = .ok (.iload_n 2, 1) := by decide +kernel
theorem dX3_deriveLawful_102 : decode cX3_deriveLawful 102 = .ok (.invokestatic 80, 3) := by decide +kernel
theorem dX3_deriveLawful_105 : decode cX3_deriveLawful 105 = .ok (.ifCond .eq 18, 3) := by decide +kernel
theorem dX3_deriveLawful_108 : decode cX3_deriveLawful 108 = .ok (.aload_n 1, 1) := by decide +kernel
theorem dX3_deriveLawful_109 : decode cX3_deriveLawful 109 = .ok (.getfield 125, 3) := by decide +kernel
theorem dX3_deriveLawful_112 : decode cX3_deriveLawful 112 = .ok (.iload_n 2, 1) := by decide +kernel
theorem dX3_deriveLawful_113 : decode cX3_deriveLawful 113 = .ok (.baload, 1) := by decide +kernel
theorem dX3_deriveLawful_114 : decode cX3_deriveLawful 114 = .ok (.ifCond .ne 9, 3) := by decide +kernel
theorem dX3_deriveLawful_117 : decode cX3_deriveLawful 117 = .ok (.iconst 1, 1) := by decide +kernel
theorem dX3_deriveLawful_118 : decode cX3_deriveLawful 118 = .ok (.iload_n 2, 1) := by decide +kernel
theorem dX3_deriveLawful_119 : decode cX3_deriveLawful 119 = .ok (.ishl, 1) := by decide +kernel
theorem dX3_deriveLawful_120 : decode cX3_deriveLawful 120 = .ok (.goto 4, 3) := by decide +kernel
theorem dX3_deriveLawful_123 : decode cX3_deriveLawful 123 = .ok (.iconst 0, 1) := by decide +kernel
theorem dX3_deriveLawful_124 : decode cX3_deriveLawful 124 = .ok (.ior, 1) := by decide +kernel
theorem dX3_deriveLawful_125 : decode cX3_deriveLawful 125 = .ok (.putfield 115, 3) := by decide +kernel
theorem dX3_deriveLawful_128 : decode cX3_deriveLawful 128 = .ok (.aload_n 0, 1) := by decide +kernel
theorem dX3_deriveLawful_129 : decode cX3_deriveLawful 129 = .ok (.dup, 1) := by decide +kernel
theorem dX3_deriveLawful_130 : decode cX3_deriveLawful 130 = .ok (.getfield 118, 3) := by decide +kernel
theorem dX3_deriveLawful_133 : decode cX3_deriveLawful 133 = .ok (.iload_n 3, 1) := by decide +kernel
theorem dX3_deriveLawful_134 : decode cX3_deriveLawful 134 = .ok (.ifCond .eq 20, 3) := by decide +kernel
theorem dX3_deriveLawful_137 : decode cX3_deriveLawful 137 = .ok (.aload_n 0, 1) := by decide +kernel
theorem dX3_deriveLawful_138 : decode cX3_deriveLawful 138 = .ok (.getfield 47, 3) := by decide +kernel
theorem dX3_deriveLawful_141 : decode cX3_deriveLawful 141 = .ok (.iload_n 2, 1) := by decide +kernel
theorem dX3_deriveLawful_142 : decode cX3_deriveLawful 142 = .ok (.invokestatic 80, 3) := by decide +kernel
theorem dX3_deriveLawful_145 : decode cX3_deriveLawful 145 = .ok (.ifCond .ne 9, 3) := by decide +kernel
theorem dX3_deriveLawful_148 : decode cX3_deriveLawful 148 = .ok (.iconst 1, 1) := by decide +kernel
theorem dX3_deriveLawful_149 : decode cX3_deriveLawful 149 = .ok (.iload_n 2, 1) := by decide +kernel
theorem dX3_deriveLawful_150 : decode cX3_deriveLawful 150 = .ok (.ishl, 1) := by decide +kernel
theorem dX3_deriveLawful_151 : decode cX3_deriveLawful 151 = .ok (.goto 4, 3) := by decide +kernel
theorem dX3_deriveLawful_154 : decode cX3_deriveLawful 154 = .ok (.iconst 0, 1) := by decide +kernel
theorem dX3_deriveLawful_155 : decode cX3_deriveLawful 155 = .ok (.ior, 1) := by decide +kernel
theorem dX3_deriveLawful_156 : decode cX3_deriveLawful 156 = .ok (.putfield 118, 3) := by decide +kernel
theorem dX3_deriveLawful_159 : decode cX3_deriveLawful 159 = .ok (.iinc 2 1, 3) := by decide +kernel
theorem dX3_deriveLawful_162 : decode cX3_deriveLawful 162 = .ok (.goto (-105), 3) := by decide +kernel
theorem dX3_deriveLawful_165 : decode cX3_deriveLawful 165 = .ok (.aload_n 0, 1) := by decide +kernel
theorem dX3_deriveLawful_166 : decode cX3_deriveLawful 166 = .ok (.aload_n 1, 1) := by decide +kernel
theorem dX3_deriveLawful_167 : decode cX3_deriveLawful 167 = .ok (.invokevirtual 128, 3) := by decide +kernel
theorem dX3_deriveLawful_170 : decode cX3_deriveLawful 170 = .ok (.return_, 1) := by decide +kernel
theorem dX3_deriveFields_0 : decode cX3_deriveFields 0 = .ok (.iconst 0, 1) := by decide +kernel
theorem dX3_deriveFields_1 : decode cX3_deriveFields 1 = .ok (.istore_n 3, 1) := by decide +kernel
theorem dX3_deriveFields_2 : decode cX3_deriveFields 2 = .ok (.iload_n 3, 1) := by decide +kernel
theorem dX3_deriveFields_3 : decode cX3_deriveFields 3 = .ok (.bipush 6, 2) := by decide +kernel
theorem dX3_deriveFields_5 : decode cX3_deriveFields 5 = .ok (.if_icmp .ge 60, 3) := by decide +kernel
theorem dX3_deriveFields_8 : decode cX3_deriveFields 8 = .ok (.iload_n 2, 1) := by decide +kernel
theorem dX3_deriveFields_9 : decode cX3_deriveFields 9 = .ok (.bipush 6, 2) := by decide +kernel
theorem dX3_deriveFields_11 : decode cX3_deriveFields 11 = .ok (.imul, 1) := by decide +kernel
theorem dX3_deriveFields_12 : decode cX3_deriveFields 12 = .ok (.iload_n 3, 1) := by decide +kernel
theorem dX3_deriveFields_13 : decode cX3_deriveFields 13 = .ok (.iadd, 1) := by decide +kernel
theorem dX3_deriveFields_14 : decode cX3_deriveFields 14 = .ok (.istore 4, 2) := by decide +kernel
theorem dX3_deriveFields_16 : decode cX3_deriveFields 16 = .ok (.aload_n 0, 1) := by decide +kernel
theorem dX3_deriveFields_17 : decode cX3_deriveFields 17 = .ok (.getfield 33, 3) := by decide +kernel
theorem dX3_deriveFields_20 : decode cX3_deriveFields 20 = .ok (.iload 4, 2) := by decide +kernel
theorem dX3_deriveFields_22 : decode cX3_deriveFields 22 = .ok (.aload_n 1, 1) := by decide +kernel
theorem dX3_deriveFields_23 : decode cX3_deriveFields 23 = .ok (.getfield 131, 3) := by decide +kernel
theorem dX3_deriveFields_26 : decode cX3_deriveFields 26 = .ok (.getfield 97, 3) := by decide +kernel
theorem dX3_deriveFields_29 : decode cX3_deriveFields 29 = .ok (.iload 4, 2) := by decide +kernel
theorem dX3_deriveFields_31 : decode cX3_deriveFields 31 = .ok (.caload, 1) := by decide +kernel
theorem dX3_deriveFields_32 : decode cX3_deriveFields 32 = .ok (.bipush 45, 2) := by decide +kernel
theorem dX3_deriveFields_34 : decode cX3_deriveFields 34 = .ok (.if_icmp .eq 7, 3) := by decide +kernel
theorem dX3_deriveFields_37 : decode cX3_deriveFields 37 = .ok (.iload_n 2, 1) := by decide +kernel
theorem dX3_deriveFields_38 : decode cX3_deriveFields 38 = .ok (.goto 20, 3) := by decide +kernel
theorem dX3_deriveFields_41 : decode cX3_deriveFields 41 = .ok (.aload_n 0, 1) := by decide +kernel
theorem dX3_deriveFields_42 : decode cX3_deriveFields 42 = .ok (.aload_n 1, 1) := by decide +kernel
theorem dX3_deriveFields_43 : decode cX3_deriveFields 43 = .ok (.getfield 74, 3) := by decide +kernel
theorem dX3_deriveFields_46 : decode cX3_deriveFields 46 = .ok (.iload_n 2, 1) := by decide +kernel
theorem dX3_deriveFields_47 : decode cX3_deriveFields 47 = .ok (.iaload, 1) := by decide +kernel
theorem dX3_deriveFields_48 : decode cX3_deriveFields 48 = .ok (.aload_n 1, 1) := by decide +kernel
theorem dX3_deriveFields_49 : decode cX3_deriveFields 49 = .ok (.getfield 77, 3) := by decide +kernel
theorem dX3_deriveFields_52 : decode cX3_deriveFields 52 = .ok (.iload_n 2, 1) := by decide +kernel
theorem dX3_deriveFields_53 : decode cX3_deriveFields 53 = .ok (.iaload, 1) := by decide +kernel
theorem dX3_deriveFields_54 : decode cX3_deriveFields 54 = .ok (.iload_n 3, 1) := by decide +kernel
theorem dX3_deriveFields_55 : decode cX3_deriveFields 55 = .ok (.invokevirtual 134, 3) := by decide +kernel
theorem dX3_deriveFields_58 : decode cX3_deriveFields 58 = .ok (.iastore, 1) := by decide +kernel
theorem dX3_deriveFields_59 : decode cX3_deriveFields 59 = .ok (.iinc 3 1, 3) := by decide +kernel
theorem dX3_deriveFields_62 : decode cX3_deriveFields 62 = .ok (.goto (-60), 3) := by decide +kernel
theorem dX3_deriveFields_65 : decode cX3_deriveFields 65 = .ok (.return_, 1) := by decide +kernel
theorem dX3_inheritedField_0 : decode cX3_inheritedField 0 = .ok (.iconst 0, 1) := by decide +kernel
theorem dX3_inheritedField_1 : decode cX3_inheritedField 1 = .ok (.istore 4, 2) := by decide +kernel
theorem dX3_inheritedField_3 : decode cX3_inheritedField 3 = .ok (.iload 4, 2) := by decide +kernel
theorem dX3_inheritedField_5 : decode cX3_inheritedField 5 = .ok (.iconst 5, 1) := by decide +kernel
theorem dX3_inheritedField_6 : decode cX3_inheritedField 6 = .ok (.if_icmp .ge 48, 3) := by decide +kernel
theorem dX3_inheritedField_9 : decode cX3_inheritedField 9 = .ok (.iload_n 1, 1) := by decide +kernel
theorem dX3_inheritedField_10 : decode cX3_inheritedField 10 = .ok (.iload 4, 2) := by decide +kernel
theorem dX3_inheritedField_12 : decode cX3_inheritedField 12 = .ok (.ishr, 1) := by decide +kernel
theorem dX3_inheritedField_13 : decode cX3_inheritedField 13 = .ok (.iconst 1, 1) := by decide +kernel
theorem dX3_inheritedField_14 : decode cX3_inheritedField 14 = .ok (.iand, 1) := by decide +kernel
theorem dX3_inheritedField_15 : decode cX3_inheritedField 15 = .ok (.iconst 1, 1) := by decide +kernel
theorem dX3_inheritedField_16 : decode cX3_inheritedField 16 = .ok (.if_icmp .ne 32, 3) := by decide +kernel
theorem dX3_inheritedField_19 : decode cX3_inheritedField 19 = .ok (.aload_n 0, 1) := by decide +kernel
theorem dX3_inheritedField_20 : decode cX3_inheritedField 20 = .ok (.getfield 33, 3) := by decide +kernel
theorem dX3_inheritedField_23 : decode cX3_inheritedField 23 = .ok (.iload 4, 2) := by decide +kernel
theorem dX3_inheritedField_25 : decode cX3_inheritedField 25 = .ok (.bipush 6, 2) := by decide +kernel
theorem dX3_inheritedField_27 : decode cX3_inheritedField 27 = .ok (.imul, 1) := by decide +kernel
theorem dX3_inheritedField_28 : decode cX3_inheritedField 28 = .ok (.iload_n 3, 1) := by decide +kernel
theorem dX3_inheritedField_29 : decode cX3_inheritedField 29 = .ok (.iadd, 1) := by decide +kernel
theorem dX3_inheritedField_30 : decode cX3_inheritedField 30 = .ok (.iaload, 1) := by decide +kernel
theorem dX3_inheritedField_31 : decode cX3_inheritedField 31 = .ok (.iconst (-1), 1) := by decide +kernel
theorem dX3_inheritedField_32 : decode cX3_inheritedField 32 = .ok (.if_icmp .eq 16, 3) := by decide +kernel
theorem dX3_inheritedField_35 : decode cX3_inheritedField 35 = .ok (.aload_n 0, 1) := by decide +kernel
theorem dX3_inheritedField_36 : decode cX3_inheritedField 36 = .ok (.getfield 33, 3) := by decide +kernel
theorem dX3_inheritedField_39 : decode cX3_inheritedField 39 = .ok (.iload 4, 2) := by decide +kernel
theorem dX3_inheritedField_41 : decode cX3_inheritedField 41 = .ok (.bipush 6, 2) := by decide +kernel
theorem dX3_inheritedField_43 : decode cX3_inheritedField 43 = .ok (.imul, 1) := by decide +kernel
theorem dX3_inheritedField_44 : decode cX3_inheritedField 44 = .ok (.iload_n 3, 1) := by decide +kernel
theorem dX3_inheritedField_45 : decode cX3_inheritedField 45 = .ok (.iadd, 1) := by decide +kernel
theorem dX3_inheritedField_46 : decode cX3_inheritedField 46 = .ok (.iaload, 1) := by decide +kernel
theorem dX3_inheritedField_47 : decode cX3_inheritedField 47 = .ok (.ireturn, 1) := by decide +kernel
theorem dX3_inheritedField_48 : decode cX3_inheritedField 48 = .ok (.iinc 4 1, 3) := by decide +kernel
theorem dX3_inheritedField_51 : decode cX3_inheritedField 51 = .ok (.goto (-48), 3) := by decide +kernel
theorem dX3_inheritedField_54 : decode cX3_inheritedField 54 = .ok (.iload_n 2, 1) := by decide +kernel
theorem dX3_inheritedField_55 : decode cX3_inheritedField 55 = .ok (.iconst (-1), 1) := by decide +kernel
theorem dX3_inheritedField_56 : decode cX3_inheritedField 56 = .ok (.if_icmp .ne 7, 3) := by decide +kernel
theorem dX3_inheritedField_59 : decode cX3_inheritedField 59 = .ok (.iconst (-1), 1) := by decide +kernel
theorem dX3_inheritedField_60 : decode cX3_inheritedField 60 = .ok (.goto 14, 3) := by decide +kernel
theorem dX3_inheritedField_63 : decode cX3_inheritedField 63 = .ok (.aload_n 0, 1) := by decide +kernel
theorem dX3_inheritedField_64 : decode cX3_inheritedField 64 = .ok (.getfield 33, 3) := by decide +kernel
theorem dX3_inheritedField_67 : decode cX3_inheritedField 67 = .ok (.iload_n 2, 1) := by decide +kernel
theorem dX3_inheritedField_68 : decode cX3_inheritedField 68 = .ok (.bipush 6, 2) := by decide +kernel
theorem dX3_inheritedField_70 : decode cX3_inheritedField 70 = .ok (.imul, 1) := by decide +kernel
theorem dX3_inheritedField_71 : decode cX3_inheritedField 71 = .ok (.iload_n 3, 1) := by decide +kernel
theorem dX3_inheritedField_72 : decode cX3_inheritedField 72 = .ok (.iadd, 1) := by decide +kernel
theorem dX3_inheritedField_73 : decode cX3_inheritedField 73 = .ok (.iaload, 1) := by decide +kernel
theorem dX3_inheritedField_74 : decode cX3_inheritedField 74 = .ok (.ireturn, 1) := by decide +kernel
theorem dX3_deriveUsable_0 : decode cX3_deriveUsable 0 = .ok (.aload_n 0, 1) := by decide +kernel
theorem dX3_deriveUsable_1 : decode cX3_deriveUsable 1 = .ok (.getfield 40, 3) := by decide +kernel
theorem dX3_deriveUsable_4 : decode cX3_deriveUsable 4 = .ok (.iconst 0, 1) := by decide +kernel
theorem dX3_deriveUsable_5 : decode cX3_deriveUsable 5 = .ok (.invokestatic 84, 3) := by decide +kernel
theorem dX3_deriveUsable_8 : decode cX3_deriveUsable 8 = .ok (.aload_n 0, 1) := by decide +kernel
theorem dX3_deriveUsable_9 : decode cX3_deriveUsable 9 = .ok (.iconst 0, 1) := by decide +kernel
theorem dX3_deriveUsable_10 : decode cX3_deriveUsable 10 = .ok (.putfield 138, 3) := by decide +kernel
theorem dX3_deriveUsable_13 : decode cX3_deriveUsable 13 = .ok (.iconst 0, 1) := by decide +kernel
theorem dX3_deriveUsable_14 : decode cX3_deriveUsable 14 = .ok (.istore_n 2, 1) := by decide +kernel
theorem dX3_deriveUsable_15 : decode cX3_deriveUsable 15 = .ok (.iload_n 2, 1) := by decide +kernel
theorem dX3_deriveUsable_16 : decode cX3_deriveUsable 16 = .ok (.bipush 30, 2) := by decide +kernel
theorem dX3_deriveUsable_18 : decode cX3_deriveUsable 18 = .ok (.if_icmp .ge 247, 3) := by decide +kernel
theorem dX3_deriveUsable_21 : decode cX3_deriveUsable 21 = .ok (.iconst 1, 1) := by decide +kernel
theorem dX3_deriveUsable_22 : decode cX3_deriveUsable 22 = .ok (.iload_n 2, 1) := by decide +kernel
theorem dX3_deriveUsable_23 : decode cX3_deriveUsable 23 = .ok (.bipush 6, 2) := by decide +kernel
theorem dX3_deriveUsable_25 : decode cX3_deriveUsable 25 = .ok (.irem, 1) := by decide +kernel
theorem dX3_deriveUsable_26 : decode cX3_deriveUsable 26 = .ok (.ishl, 1) := by decide +kernel
theorem dX3_deriveUsable_27 : decode cX3_deriveUsable 27 = .ok (.istore_n 3, 1) := by decide +kernel
theorem dX3_deriveUsable_28 : decode cX3_deriveUsable 28 = .ok (.aload_n 0, 1) := by decide +kernel
theorem dX3_deriveUsable_29 : decode cX3_deriveUsable 29 = .ok (.dup, 1) := by decide +kernel
theorem dX3_deriveUsable_30 : decode cX3_deriveUsable 30 = .ok (.getfield 138, 3) := by decide +kernel
theorem dX3_deriveUsable_33 : decode cX3_deriveUsable 33 = .ok (.aload_n 1, 1) := by decide +kernel
theorem dX3_deriveUsable_34 : decode cX3_deriveUsable 34 = .ok (.getfield 59, 3) := by decide +kernel
theorem dX3_deriveUsable_37 : decode cX3_deriveUsable 37 = .ok (.getfield 97, 3) := by decide +kernel
theorem dX3_deriveUsable_40 : decode cX3_deriveUsable 40 = .ok (.iload_n 2, 1) := by decide +kernel
theorem dX3_deriveUsable_41 : decode cX3_deriveUsable 41 = .ok (.caload, 1) := by decide +kernel
theorem dX3_deriveUsable_42 : decode cX3_deriveUsable 42 = .ok (.bipush 45, 2) := by decide +kernel
theorem dX3_deriveUsable_44 : decode cX3_deriveUsable 44 = .ok (.if_icmp .ne 7, 3) := by decide +kernel
theorem dX3_deriveUsable_47 : decode cX3_deriveUsable 47 = .ok (.iconst 0, 1) := by decide +kernel
theorem dX3_deriveUsable_48 : decode cX3_deriveUsable 48 = .ok (.goto 4, 3) := by decide +kernel
theorem dX3_deriveUsable_51 : decode cX3_deriveUsable 51 = .ok (.iload_n 3, 1) := by decide +kernel
theorem dX3_deriveUsable_52 : decode cX3_deriveUsable 52 = .ok (.ior, 1) := by decide +kernel
theorem dX3_deriveUsable_53 : decode cX3_deriveUsable 53 = .ok (.putfield 138, 3) := by decide +kernel
theorem dX3_deriveUsable_56 : decode cX3_deriveUsable 56 = .ok (.aload_n 0, 1) := by decide +kernel
theorem dX3_deriveUsable_57 : decode cX3_deriveUsable 57 = .ok (.aload_n 1, 1) := by decide +kernel
theorem dX3_deriveUsable_58 : decode cX3_deriveUsable 58 = .ok (.getfield 59, 3) := by decide +kernel
theorem dX3_deriveUsable_61 : decode cX3_deriveUsable 61 = .ok (.getfield 97, 3) := by decide +kernel
theorem dX3_deriveUsable_64 : decode cX3_deriveUsable 64 = .ok (.iload_n 2, 1) := by decide +kernel
theorem dX3_deriveUsable_65 : decode cX3_deriveUsable 65 = .ok (.caload, 1) := by decide +kernel
theorem dX3_deriveUsable_66 : decode cX3_deriveUsable 66 = .ok (.invokevirtual 141, 3) := by decide +kernel
theorem dX3_deriveUsable_69 : decode cX3_deriveUsable 69 = .ok (.ifCond .eq 62, 3) := by decide +kernel
theorem dX3_deriveUsable_72 : decode cX3_deriveUsable 72 = .ok (.aload_n 1, 1) := by decide +kernel
theorem dX3_deriveUsable_73 : decode cX3_deriveUsable 73 = .ok (.getfield 59, 3) := by decide +kernel
theorem dX3_deriveUsable_76 : decode cX3_deriveUsable 76 = .ok (.getfield 90, 3) := by decide +kernel
theorem dX3_deriveUsable_79 : decode cX3_deriveUsable 79 = .ok (.iload_n 2, 1) := by decide +kernel
theorem dX3_deriveUsable_80 : decode cX3_deriveUsable 80 = .ok (.caload, 1) := by decide +kernel
theorem dX3_deriveUsable_81 : decode cX3_deriveUsable 81 = .ok (.bipush 115, 2) := by decide +kernel
theorem dX3_deriveUsable_83 : decode cX3_deriveUsable 83 = .ok (.if_icmp .ne 7, 3) := by decide +kernel
theorem dX3_deriveUsable_86 : decode cX3_deriveUsable 86 = .ok (.iconst 1, 1) := by decide +kernel
theorem dX3_deriveUsable_87 : decode cX3_deriveUsable 87 = .ok (.goto 4, 3) := by decide +kernel
theorem dX3_deriveUsable_90 : decode cX3_deriveUsable 90 = .ok (.iconst 0, 1) := by decide +kernel
theorem dX3_deriveUsable_91 : decode cX3_deriveUsable 91 = .ok (.istore 4, 2) := by decide +kernel
theorem dX3_deriveUsable_93 : decode cX3_deriveUsable 93 = .ok (.aload_n 0, 1) := by decide +kernel
theorem dX3_deriveUsable_94 : decode cX3_deriveUsable 94 = .ok (.getfield 40, 3) := by decide +kernel
theorem dX3_deriveUsable_97 : decode cX3_deriveUsable 97 = .ok (.iconst 1, 1) := by decide +kernel
theorem dX3_deriveUsable_98 : decode cX3_deriveUsable 98 = .ok (.dup2, 1) := by decide +kernel
theorem dX3_deriveUsable_99 : decode cX3_deriveUsable 99 = .ok (.iaload, 1) := by decide +kernel
theorem dX3_deriveUsable_100 : decode cX3_deriveUsable 100 = .ok (.iload 4, 2) := by decide +kernel
theorem dX3_deriveUsable_102 : decode cX3_deriveUsable 102 = .ok (.ifCond .eq 7, 3) := by decide +kernel
theorem dX3_deriveUsable_105 : decode cX3_deriveUsable 105 = .ok (.iload_n 3, 1) := by decide +kernel
theorem dX3_deriveUsable_106 : decode cX3_deriveUsable 106 = .ok (.goto 4, 3) := by decide +kernel
theorem dX3_deriveUsable_109 : decode cX3_deriveUsable 109 = .ok (.iconst 0, 1) := by decide +kernel
theorem dX3_deriveUsable_110 : decode cX3_deriveUsable 110 = .ok (.ior, 1) := by decide +kernel
theorem dX3_deriveUsable_111 : decode cX3_deriveUsable 111 = .ok (.iastore, 1) := by decide +kernel
theorem dX3_deriveUsable_112 : decode cX3_deriveUsable 112 = .ok (.aload_n 0, 1) := by decide +kernel
theorem dX3_deriveUsable_113 : decode cX3_deriveUsable 113 = .ok (.getfield 40, 3) := by decide +kernel
theorem dX3_deriveUsable_116 : decode cX3_deriveUsable 116 = .ok (.iconst 2, 1) := by decide +kernel
theorem dX3_deriveUsable_117 : decode cX3_deriveUsable 117 = .ok (.dup2, 1) := by decide +kernel
theorem dX3_deriveUsable_118 : decode cX3_deriveUsable 118 = .ok (.iaload, 1) := by decide +kernel
theorem dX3_deriveUsable_119 : decode cX3_deriveUsable 119 = .ok (.iload 4, 2) := by decide +kernel
theorem dX3_deriveUsable_121 : decode cX3_deriveUsable 121 = .ok (.ifCond .eq 7, 3) := by decide +kernel
theorem dX3_deriveUsable_124 : decode cX3_deriveUsable 124 = .ok (.iconst 0, 1) := by decide +kernel
theorem dX3_deriveUsable_125 : decode cX3_deriveUsable 125 = .ok (.goto 4, 3) := by decide +kernel
theorem dX3_deriveUsable_128 : decode cX3_deriveUsable 128 = .ok (.iload_n 3, 1) := by decide +kernel
theorem dX3_deriveUsable_129 : decode cX3_deriveUsable 129 = .ok (.ior, 1) := by decide +kernel
theorem dX3_deriveUsable_130 : decode cX3_deriveUsable 130 = .ok (.iastore, 1) := by decide +kernel
theorem dX3_deriveUsable_131 : decode cX3_deriveUsable 131 = .ok (.aload_n 0, 1) := by decide +kernel
theorem dX3_deriveUsable_132 : decode cX3_deriveUsable 132 = .ok (.aload_n 1, 1) := by decide +kernel
theorem dX3_deriveUsable_133 : decode cX3_deriveUsable 133 = .ok (.getfield 131, 3) := by decide +kernel
theorem dX3_deriveUsable_136 : decode cX3_deriveUsable 136 = .ok (.getfield 97, 3) := by decide +kernel
theorem dX3_deriveUsable_139 : decode cX3_deriveUsable 139 = .ok (.iload_n 2, 1) := by decide +kernel
theorem dX3_deriveUsable_140 : decode cX3_deriveUsable 140 = .ok (.caload, 1) := by decide +kernel
theorem dX3_deriveUsable_141 : decode cX3_deriveUsable 141 = .ok (.invokevirtual 141, 3) := by decide +kernel
theorem dX3_deriveUsable_144 : decode cX3_deriveUsable 144 = .ok (.ifCond .eq 115, 3) := by decide +kernel
theorem dX3_deriveUsable_147 : decode cX3_deriveUsable 147 = .ok (.aload_n 1, 1) := by decide +kernel
theorem dX3_deriveUsable_148 : decode cX3_deriveUsable 148 = .ok (.getfield 131, 3) := by decide +kernel
theorem dX3_deriveUsable_151 : decode cX3_deriveUsable 151 = .ok (.getfield 90, 3) := by decide +kernel
theorem dX3_deriveUsable_154 : decode cX3_deriveUsable 154 = .ok (.iload_n 2, 1) := by decide +kernel
theorem dX3_deriveUsable_155 : decode cX3_deriveUsable 155 = .ok (.caload, 1) := by decide +kernel
theorem dX3_deriveUsable_156 : decode cX3_deriveUsable 156 = .ok (.istore 4, 2) := by decide +kernel
theorem dX3_deriveUsable_158 : decode cX3_deriveUsable 158 = .ok (.aload_n 0, 1) := by decide +kernel
theorem dX3_deriveUsable_159 : decode cX3_deriveUsable 159 = .ok (.getfield 40, 3) := by decide +kernel
theorem dX3_deriveUsable_162 : decode cX3_deriveUsable 162 = .ok (.iconst 5, 1) := by decide +kernel
theorem dX3_deriveUsable_163 : decode cX3_deriveUsable 163 = .ok (.dup2, 1) := by decide +kernel
theorem dX3_deriveUsable_164 : decode cX3_deriveUsable 164 = .ok (.iaload, 1) := by decide +kernel
theorem dX3_deriveUsable_165 : decode cX3_deriveUsable 165 = .ok (.iload 4, 2) := by decide +kernel
theorem dX3_deriveUsable_167 : decode cX3_deriveUsable 167 = .ok (.bipush 115, 2) := by decide +kernel
theorem dX3_deriveUsable_169 : decode cX3_deriveUsable 169 = .ok (.if_icmp .eq 10, 3) := by decide +kernel
theorem dX3_deriveUsable_172 : decode cX3_deriveUsable 172 = .ok (.iload 4, 2) := by decide +kernel
theorem dX3_deriveUsable_174 : decode cX3_deriveUsable 174 = .ok (.bipush 70, 2) := by decide +kernel
theorem dX3_deriveUsable_176 : decode cX3_deriveUsable 176 = .ok (.if_icmp .ne 7, 3) := by decide +kernel
theorem dX3_deriveUsable_179 : decode cX3_deriveUsable 179 = .ok (.iload_n 3, 1) := by decide +kernel
theorem dX3_deriveUsable_180 : decode cX3_deriveUsable 180 = .ok (.goto 4, 3) := by decide +kernel
theorem dX3_deriveUsable_183 : decode cX3_deriveUsable 183 = .ok (.iconst 0, 1) := by decide +kernel
theorem dX3_deriveUsable_184 : decode cX3_deriveUsable 184 = .ok (.ior, 1) := by decide +kernel
theorem dX3_deriveUsable_185 : decode cX3_deriveUsable 185 = .ok (.iastore, 1) := by decide +kernel
theorem dX3_deriveUsable_186 : decode cX3_deriveUsable 186 = .ok (.aload_n 0, 1) := by decide +kernel
theorem dX3_deriveUsable_187 : decode cX3_deriveUsable 187 = .ok (.getfield 40, 3) := by decide +kernel
theorem dX3_deriveUsable_190 : decode cX3_deriveUsable 190 = .ok (.bipush 6, 2) := by decide +kernel
theorem dX3_deriveUsable_192 : decode cX3_deriveUsable 192 = .ok (.dup2, 1) := by decide +kernel
theorem dX3_deriveUsable_193 : decode cX3_deriveUsable 193 = .ok (.iaload, 1) := by decide +kernel
theorem dX3_deriveUsable_194 : decode cX3_deriveUsable 194 = .ok (.iload 4, 2) := by decide +kernel
theorem dX3_deriveUsable_196 : decode cX3_deriveUsable 196 = .ok (.bipush 115, 2) := by decide +kernel
theorem dX3_deriveUsable_198 : decode cX3_deriveUsable 198 = .ok (.if_icmp .ne 7, 3) := by decide +kernel
theorem dX3_deriveUsable_201 : decode cX3_deriveUsable 201 = .ok (.iload_n 3, 1) := by decide +kernel
theorem dX3_deriveUsable_202 : decode cX3_deriveUsable 202 = .ok (.goto 4, 3) := by decide +kernel
theorem dX3_deriveUsable_205 : decode cX3_deriveUsable 205 = .ok (.iconst 0, 1) := by decide +kernel
theorem dX3_deriveUsable_206 : decode cX3_deriveUsable 206 = .ok (.ior, 1) := by decide +kernel
theorem dX3_deriveUsable_207 : decode cX3_deriveUsable 207 = .ok (.iastore, 1) := by decide +kernel
theorem dX3_deriveUsable_208 : decode cX3_deriveUsable 208 = .ok (.aload_n 0, 1) := by decide +kernel
theorem dX3_deriveUsable_209 : decode cX3_deriveUsable 209 = .ok (.getfield 40, 3) := by decide +kernel
theorem dX3_deriveUsable_212 : decode cX3_deriveUsable 212 = .ok (.bipush 7, 2) := by decide +kernel
theorem dX3_deriveUsable_214 : decode cX3_deriveUsable 214 = .ok (.dup2, 1) := by decide +kernel
theorem dX3_deriveUsable_215 : decode cX3_deriveUsable 215 = .ok (.iaload, 1) := by decide +kernel
theorem dX3_deriveUsable_216 : decode cX3_deriveUsable 216 = .ok (.iload 4, 2) := by decide +kernel
theorem dX3_deriveUsable_218 : decode cX3_deriveUsable 218 = .ok (.bipush 110, 2) := by decide +kernel
theorem dX3_deriveUsable_220 : decode cX3_deriveUsable 220 = .ok (.if_icmp .eq 10, 3) := by decide +kernel
theorem dX3_deriveUsable_223 : decode cX3_deriveUsable 223 = .ok (.iload 4, 2) := by decide +kernel
theorem dX3_deriveUsable_225 : decode cX3_deriveUsable 225 = .ok (.bipush 102, 2) := by decide +kernel
theorem dX3_deriveUsable_227 : decode cX3_deriveUsable 227 = .ok (.if_icmp .ne 7, 3) := by decide +kernel
theorem dX3_deriveUsable_230 : decode cX3_deriveUsable 230 = .ok (.iload_n 3, 1) := by decide +kernel
theorem dX3_deriveUsable_231 : decode cX3_deriveUsable 231 = .ok (.goto 4, 3) := by decide +kernel
theorem dX3_deriveUsable_234 : decode cX3_deriveUsable 234 = .ok (.iconst 0, 1) := by decide +kernel
theorem dX3_deriveUsable_235 : decode cX3_deriveUsable 235 = .ok (.ior, 1) := by decide +kernel
theorem dX3_deriveUsable_236 : decode cX3_deriveUsable 236 = .ok (.iastore, 1) := by decide +kernel
theorem dX3_deriveUsable_237 : decode cX3_deriveUsable 237 = .ok (.aload_n 0, 1) := by decide +kernel
theorem dX3_deriveUsable_238 : decode cX3_deriveUsable 238 = .ok (.getfield 40, 3) := by decide +kernel
theorem dX3_deriveUsable_241 : decode cX3_deriveUsable 241 = .ok (.bipush 8, 2) := by decide +kernel
theorem dX3_deriveUsable_243 : decode cX3_deriveUsable 243 = .ok (.dup2, 1) := by decide +kernel
theorem dX3_deriveUsable_244 : decode cX3_deriveUsable 244 = .ok (.iaload, 1) := by decide +kernel
theorem dX3_deriveUsable_245 : decode cX3_deriveUsable 245 = .ok (.iload 4, 2) := by decide +kernel
theorem dX3_deriveUsable_247 : decode cX3_deriveUsable 247 = .ok (.bipush 110, 2) := by decide +kernel
theorem dX3_deriveUsable_249 : decode cX3_deriveUsable 249 = .ok (.if_icmp .ne 7, 3) := by decide +kernel
theorem dX3_deriveUsable_252 : decode cX3_deriveUsable 252 = .ok (.iload_n 3, 1) := by decide +kernel
theorem dX3_deriveUsable_253 : decode cX3_deriveUsable 253 = .ok (.goto 4, 3) := by decide +kernel
theorem dX3_deriveUsable_256 : decode cX3_deriveUsable 256 = .ok (.iconst 0, 1) := by decide +kernel
theorem dX3_deriveUsable_257 : decode cX3_deriveUsable 257 = .ok (.ior, 1) := by decide +kernel
theorem dX3_deriveUsable_258 : decode cX3_deriveUsable 258 = .ok (.iastore, 1) := by decide +kernel
theorem dX3_deriveUsable_259 : decode cX3_deriveUsable 259 = .ok (.iinc 2 1, 3) := by decide +kernel
theorem dX3_deriveUsable_262 : decode cX3_deriveUsable 262 = .ok (.goto (-247), 3) := by decide +kernel
theorem dX3_deriveUsable_265 : decode cX3_deriveUsable 265 = .ok (.aload_n 0, 1) := by decide +kernel
theorem dX3_deriveUsable_266 : decode cX3_deriveUsable 266 = .ok (.getfield 40, 3) := by decide +kernel
theorem dX3_deriveUsable_269 : decode cX3_deriveUsable 269 = .ok (.iconst 3, 1) := by decide +kernel
theorem dX3_deriveUsable_270 : decode cX3_deriveUsable 270 = .ok (.aload_n 0, 1) := by decide +kernel
theorem dX3_deriveUsable_271 : decode cX3_deriveUsable 271 = .ok (.getfield 40, 3) := by decide +kernel
theorem dX3_deriveUsable_274 : decode cX3_deriveUsable 274 = .ok (.iconst 2, 1) := by decide +kernel
theorem dX3_deriveUsable_275 : decode cX3_deriveUsable 275 = .ok (.iaload, 1) := by decide +kernel
theorem dX3_deriveUsable_276 : decode cX3_deriveUsable 276 = .ok (.iastore, 1) := by decide +kernel
theorem dX3_deriveUsable_277 : decode cX3_deriveUsable 277 = .ok (.aload_n 0, 1) := by decide +kernel
theorem dX3_deriveUsable_278 : decode cX3_deriveUsable 278 = .ok (.getfield 40, 3) := by decide +kernel
theorem dX3_deriveUsable_281 : decode cX3_deriveUsable 281 = .ok (.iconst 4, 1) := by decide +kernel
theorem dX3_deriveUsable_282 : decode cX3_deriveUsable 282 = .ok (.aload_n 0, 1) := by decide +kernel
theorem dX3_deriveUsable_283 : decode cX3_deriveUsable 283 = .ok (.getfield 40, 3) := by decide +kernel
theorem dX3_deriveUsable_286 : decode cX3_deriveUsable 286 = .ok (.iconst 2, 1) := by decide +kernel
theorem dX3_deriveUsable_287 : decode cX3_deriveUsable 287 = .ok (.iaload, 1) := by decide +kernel
theorem dX3_deriveUsable_288 : decode cX3_deriveUsable 288 = .ok (.iastore, 1) := by decide +kernel
theorem dX3_deriveUsable_289 : decode cX3_deriveUsable 289 = .ok (.return_, 1) := by decide +kernel
theorem dX3_isFarSeen_0 : decode cX3_isFarSeen 0 = .ok (.iload_n 1, 1) := by decide +kernel
theorem dX3_isFarSeen_1 : decode cX3_isFarSeen 1 = .ok (.bipush 112, 2) := by decide +kernel
theorem dX3_isFarSeen_3 : decode cX3_isFarSeen 3 = .ok (.if_icmp .eq 9, 3) := by decide +kernel
theorem dX3_isFarSeen_6 : decode cX3_isFarSeen 6 = .ok (.iload_n 1, 1) := by decide +kernel
theorem dX3_isFarSeen_7 : decode cX3_isFarSeen 7 = .ok (.bipush 111, 2) := by decide +kernel
theorem dX3_isFarSeen_9 : decode cX3_isFarSeen 9 = .ok (.if_icmp .ne 7, 3) := by decide +kernel
theorem dX3_isFarSeen_12 : decode cX3_isFarSeen 12 = .ok (.iconst 1, 1) := by decide +kernel
theorem dX3_isFarSeen_13 : decode cX3_isFarSeen 13 = .ok (.goto 4, 3) := by decide +kernel
theorem dX3_isFarSeen_16 : decode cX3_isFarSeen 16 = .ok (.iconst 0, 1) := by decide +kernel
theorem dX3_isFarSeen_17 : decode cX3_isFarSeen 17 = .ok (.ireturn, 1) := by decide +kernel
theorem dX3_seat_0 : decode cX3_seat 0 = .ok (.aload_n 0, 1) := by decide +kernel
theorem dX3_seat_1 : decode cX3_seat 1 = .ok (.getfield 9, 3) := by decide +kernel
theorem dX3_seat_4 : decode cX3_seat 4 = .ok (.iconst 5, 1) := by decide +kernel
theorem dX3_seat_5 : decode cX3_seat 5 = .ok (.aload_n 1, 1) := by decide +kernel
theorem dX3_seat_6 : decode cX3_seat 6 = .ok (.getfield 145, 3) := by decide +kernel
theorem dX3_seat_9 : decode cX3_seat 9 = .ok (.iastore, 1) := by decide +kernel
theorem dX3_seat_10 : decode cX3_seat 10 = .ok (.iconst 0, 1) := by decide +kernel
theorem dX3_seat_11 : decode cX3_seat 11 = .ok (.istore_n 2, 1) := by decide +kernel
theorem dX3_seat_12 : decode cX3_seat 12 = .ok (.iload_n 2, 1) := by decide +kernel
theorem dX3_seat_13 : decode cX3_seat 13 = .ok (.iconst 5, 1) := by decide +kernel
theorem dX3_seat_14 : decode cX3_seat 14 = .ok (.if_icmp .ge 35, 3) := by decide +kernel
theorem dX3_seat_17 : decode cX3_seat 17 = .ok (.aload_n 1, 1) := by decide +kernel
theorem dX3_seat_18 : decode cX3_seat 18 = .ok (.getfield 145, 3) := by decide +kernel
theorem dX3_seat_21 : decode cX3_seat 21 = .ok (.iload_n 2, 1) := by decide +kernel
theorem dX3_seat_22 : decode cX3_seat 22 = .ok (.invokestatic 80, 3) := by decide +kernel
theorem dX3_seat_25 : decode cX3_seat 25 = .ok (.ifCond .eq 18, 3) := by decide +kernel
theorem dX3_seat_28 : decode cX3_seat 28 = .ok (.aload_n 0, 1) := by decide +kernel
theorem dX3_seat_29 : decode cX3_seat 29 = .ok (.getfield 9, 3) := by decide +kernel
theorem dX3_seat_32 : decode cX3_seat 32 = .ok (.iconst 5, 1) := by decide +kernel
theorem dX3_seat_33 : decode cX3_seat 33 = .ok (.dup2, 1) := by decide +kernel
theorem dX3_seat_34 : decode cX3_seat 34 = .ok (.iaload, 1) := by decide +kernel
theorem dX3_seat_35 : decode cX3_seat 35 = .ok (.aload_n 0, 1) := by decide +kernel
theorem dX3_seat_36 : decode cX3_seat 36 = .ok (.getfield 9, 3) := by decide +kernel
theorem dX3_seat_39 : decode cX3_seat 39 = .ok (.iload_n 2, 1) := by decide +kernel
theorem dX3_seat_40 : decode cX3_seat 40 = .ok (.iaload, 1) := by decide +kernel
theorem dX3_seat_41 : decode cX3_seat 41 = .ok (.ior, 1) := by decide +kernel
theorem dX3_seat_42 : decode cX3_seat 42 = .ok (.iastore, 1) := by decide +kernel
theorem dX3_seat_43 : decode cX3_seat 43 = .ok (.iinc 2 1, 3) := by decide +kernel
theorem dX3_seat_46 : decode cX3_seat 46 = .ok (.goto (-34), 3) := by decide +kernel
theorem dX3_seat_49 : decode cX3_seat 49 = .ok (.aload_n 1, 1) := by decide +kernel
theorem dX3_seat_50 : decode cX3_seat 50 = .ok (.getfield 149, 3) := by decide +kernel
theorem dX3_seat_53 : decode cX3_seat 53 = .ok (.iconst (-1), 1) := by decide +kernel
theorem dX3_seat_54 : decode cX3_seat 54 = .ok (.if_icmp .eq 28, 3) := by decide +kernel
theorem dX3_seat_57 : decode cX3_seat 57 = .ok (.aload_n 0, 1) := by decide +kernel
theorem dX3_seat_58 : decode cX3_seat 58 = .ok (.getfield 9, 3) := by decide +kernel
theorem dX3_seat_61 : decode cX3_seat 61 = .ok (.iconst 5, 1) := by decide +kernel
theorem dX3_seat_62 : decode cX3_seat 62 = .ok (.dup2, 1) := by decide +kernel
theorem dX3_seat_63 : decode cX3_seat 63 = .ok (.iaload, 1) := by decide +kernel
theorem dX3_seat_64 : decode cX3_seat 64 = .ok (.iconst 1, 1) := by decide +kernel
theorem dX3_seat_65 : decode cX3_seat 65 = .ok (.aload_n 1, 1) := by decide +kernel
theorem dX3_seat_66 : decode cX3_seat 66 = .ok (.getfield 149, 3) := by decide +kernel
theorem dX3_seat_69 : decode cX3_seat 69 = .ok (.ishl, 1) := by decide +kernel
theorem dX3_seat_70 : decode cX3_seat 70 = .ok (.aload_n 0, 1) := by decide +kernel
theorem dX3_seat_71 : decode cX3_seat 71 = .ok (.getfield 9, 3) := by decide +kernel
theorem dX3_seat_74 : decode cX3_seat 74 = .ok (.aload_n 1, 1) := by decide +kernel
theorem dX3_seat_75 : decode cX3_seat 75 = .ok (.getfield 149, 3) := by decide +kernel
theorem dX3_seat_78 : decode cX3_seat 78 = .ok (.iaload, 1) := by decide +kernel
theorem dX3_seat_79 : decode cX3_seat 79 = .ok (.ior, 1) := by decide +kernel
theorem dX3_seat_80 : decode cX3_seat 80 = .ok (.ior, 1) := by decide +kernel
theorem dX3_seat_81 : decode cX3_seat 81 = .ok (.iastore, 1) := by decide +kernel
theorem dX3_seat_82 : decode cX3_seat 82 = .ok (.iconst 0, 1) := by decide +kernel
theorem dX3_seat_83 : decode cX3_seat 83 = .ok (.istore_n 2, 1) := by decide +kernel
theorem dX3_seat_84 : decode cX3_seat 84 = .ok (.iload_n 2, 1) := by decide +kernel
theorem dX3_seat_85 : decode cX3_seat 85 = .ok (.bipush 6, 2) := by decide +kernel
theorem dX3_seat_87 : decode cX3_seat 87 = .ok (.if_icmp .ge 126, 3) := by decide +kernel
theorem dX3_seat_90 : decode cX3_seat 90 = .ok (.bipush 30, 2) := by decide +kernel
theorem dX3_seat_92 : decode cX3_seat 92 = .ok (.iload_n 2, 1) := by decide +kernel
theorem dX3_seat_93 : decode cX3_seat 93 = .ok (.iadd, 1) := by decide +kernel
theorem dX3_seat_94 : decode cX3_seat 94 = .ok (.istore_n 3, 1) := by decide +kernel
theorem dX3_seat_95 : decode cX3_seat 95 = .ok (.aload_n 1, 1) := by decide +kernel
theorem dX3_seat_96 : decode cX3_seat 96 = .ok (.getfield 149, 3) := by decide +kernel
theorem dX3_seat_99 : decode cX3_seat 99 = .ok (.iconst (-1), 1) := by decide +kernel
theorem dX3_seat_100 : decode cX3_seat 100 = .ok (.if_icmp .ne 7, 3) := by decide +kernel
theorem dX3_seat_103 : decode cX3_seat 103 = .ok (.iconst (-1), 1) := by decide +kernel
theorem dX3_seat_104 : decode cX3_seat 104 = .ok (.goto 12, 3) := by decide +kernel
theorem dX3_seat_107 : decode cX3_seat 107 = .ok (.aload_n 1, 1) := by decide +kernel
theorem dX3_seat_108 : decode cX3_seat 108 = .ok (.getfield 149, 3) := by decide +kernel
theorem dX3_seat_111 : decode cX3_seat 111 = .ok (.bipush 6, 2) := by decide +kernel
theorem dX3_seat_113 : decode cX3_seat 113 = .ok (.imul, 1) := by decide +kernel
theorem dX3_seat_114 : decode cX3_seat 114 = .ok (.iload_n 2, 1) := by decide +kernel
theorem dX3_seat_115 : decode cX3_seat 115 = .ok (.iadd, 1) := by decide +kernel
theorem dX3_seat_116 : decode cX3_seat 116 = .ok (.istore 4, 2) := by decide +kernel
theorem dX3_seat_118 : decode cX3_seat 118 = .ok (.aload_n 0, 1) := by decide +kernel
theorem dX3_seat_119 : decode cX3_seat 119 = .ok (.getfield 15, 3) := by decide +kernel
theorem dX3_seat_122 : decode cX3_seat 122 = .ok (.iload_n 3, 1) := by decide +kernel
theorem dX3_seat_123 : decode cX3_seat 123 = .ok (.aload_n 1, 1) := by decide +kernel
theorem dX3_seat_124 : decode cX3_seat 124 = .ok (.getfield 151, 3) := by decide +kernel
theorem dX3_seat_127 : decode cX3_seat 127 = .ok (.iload_n 2, 1) := by decide +kernel
theorem dX3_seat_128 : decode cX3_seat 128 = .ok (.if_icmp .ne 7, 3) := by decide +kernel
theorem dX3_seat_131 : decode cX3_seat 131 = .ok (.iconst 5, 1) := by decide +kernel
theorem dX3_seat_132 : decode cX3_seat 132 = .ok (.goto 20, 3) := by decide +kernel
theorem dX3_seat_135 : decode cX3_seat 135 = .ok (.iload 4, 2) := by decide +kernel
theorem dX3_seat_137 : decode cX3_seat 137 = .ok (.iconst (-1), 1) := by decide +kernel
theorem dX3_seat_138 : decode cX3_seat 138 = .ok (.if_icmp .ne 7, 3) := by decide +kernel
theorem dX3_seat_141 : decode cX3_seat 141 = .ok (.iconst (-1), 1) := by decide +kernel
theorem dX3_seat_142 : decode cX3_seat 142 = .ok (.goto 10, 3) := by decide +kernel
theorem dX3_seat_145 : decode cX3_seat 145 = .ok (.aload_n 0, 1) := by decide +kernel
theorem dX3_seat_146 : decode cX3_seat 146 = .ok (.getfield 15, 3) := by decide +kernel
theorem dX3_seat_149 : decode cX3_seat 149 = .ok (.iload 4, 2) := by decide +kernel
theorem dX3_seat_151 : decode cX3_seat 151 = .ok (.iaload, 1) := by decide +kernel
theorem dX3_seat_152 : decode cX3_seat 152 = .ok (.iastore, 1) := by decide +kernel
theorem dX3_seat_153 : decode cX3_seat 153 = .ok (.aload_n 0, 1) := by decide +kernel
theorem dX3_seat_154 : decode cX3_seat 154 = .ok (.getfield 18, 3) := by decide +kernel
theorem dX3_seat_157 : decode cX3_seat 157 = .ok (.iload_n 3, 1) := by decide +kernel
theorem dX3_seat_158 : decode cX3_seat 158 = .ok (.aload_n 1, 1) := by decide +kernel
theorem dX3_seat_159 : decode cX3_seat 159 = .ok (.getfield 151, 3) := by decide +kernel
theorem dX3_seat_162 : decode cX3_seat 162 = .ok (.iload_n 2, 1) := by decide +kernel
theorem dX3_seat_163 : decode cX3_seat 163 = .ok (.if_icmp .ne 7, 3) := by decide +kernel
theorem dX3_seat_166 : decode cX3_seat 166 = .ok (.iconst 5, 1) := by decide +kernel
theorem dX3_seat_167 : decode cX3_seat 167 = .ok (.goto 20, 3) := by decide +kernel
theorem dX3_seat_170 : decode cX3_seat 170 = .ok (.iload 4, 2) := by decide +kernel
theorem dX3_seat_172 : decode cX3_seat 172 = .ok (.iconst (-1), 1) := by decide +kernel
theorem dX3_seat_173 : decode cX3_seat 173 = .ok (.if_icmp .ne 7, 3) := by decide +kernel
theorem dX3_seat_176 : decode cX3_seat 176 = .ok (.iconst (-1), 1) := by decide +kernel
theorem dX3_seat_177 : decode cX3_seat 177 = .ok (.goto 10, 3) := by decide +kernel
theorem dX3_seat_180 : decode cX3_seat 180 = .ok (.aload_n 0, 1) := by decide +kernel
theorem dX3_seat_181 : decode cX3_seat 181 = .ok (.getfield 18, 3) := by decide +kernel
theorem dX3_seat_184 : decode cX3_seat 184 = .ok (.iload 4, 2) := by decide +kernel
theorem dX3_seat_186 : decode cX3_seat 186 = .ok (.iaload, 1) := by decide +kernel
theorem dX3_seat_187 : decode cX3_seat 187 = .ok (.iastore, 1) := by decide +kernel
theorem dX3_seat_188 : decode cX3_seat 188 = .ok (.aload_n 0, 1) := by decide +kernel
theorem dX3_seat_189 : decode cX3_seat 189 = .ok (.getfield 33, 3) := by decide +kernel
theorem dX3_seat_192 : decode cX3_seat 192 = .ok (.iload_n 3, 1) := by decide +kernel
theorem dX3_seat_193 : decode cX3_seat 193 = .ok (.aload_n 0, 1) := by decide +kernel
theorem dX3_seat_194 : decode cX3_seat 194 = .ok (.aload_n 1, 1) := by decide +kernel
theorem dX3_seat_195 : decode cX3_seat 195 = .ok (.getfield 145, 3) := by decide +kernel
theorem dX3_seat_198 : decode cX3_seat 198 = .ok (.aload_n 1, 1) := by decide +kernel
theorem dX3_seat_199 : decode cX3_seat 199 = .ok (.getfield 149, 3) := by decide +kernel
theorem dX3_seat_202 : decode cX3_seat 202 = .ok (.iload_n 2, 1) := by decide +kernel
theorem dX3_seat_203 : decode cX3_seat 203 = .ok (.invokevirtual 134, 3) := by decide +kernel
theorem dX3_seat_206 : decode cX3_seat 206 = .ok (.iastore, 1) := by decide +kernel
theorem dX3_seat_207 : decode cX3_seat 207 = .ok (.iinc 2 1, 3) := by decide +kernel
theorem dX3_seat_210 : decode cX3_seat 210 = .ok (.goto (-126), 3) := by decide +kernel
theorem dX3_seat_213 : decode cX3_seat 213 = .ok (.return_, 1) := by decide +kernel
theorem dX4_init_0 : decode cX4_init 0 = .ok (.aload_n 0, 1) := by decide +kernel
theorem dX4_init_1 : decode cX4_init 1 = .ok (.invokespecial 3, 3) := by decide +kernel
theorem dX4_init_4 : decode cX4_init 4 = .ok (.aload_n 0, 1) := by decide +kernel
theorem dX4_init_5 : decode cX4_init 5 = .ok (.new 9, 3) := by decide +kernel
theorem dX4_init_8 : decode cX4_init 8 = .ok (.dup, 1) := by decide +kernel
theorem dX4_init_9 : decode cX4_init 9 = .ok (.invokespecial 11, 3) := by decide +kernel
theorem dX4_init_12 : decode cX4_init 12 = .ok (.putfield 12, 3) := by decide +kernel
theorem dX4_init_15 : decode cX4_init 15 = .ok (.aload_n 0, 1) := by decide +kernel
theorem dX4_init_16 : decode cX4_init 16 = .ok (.new 18, 3) := by decide +kernel
theorem dX4_init_19 : decode cX4_init 19 = .ok (.dup, 1) := by decide +kernel
theorem dX4_init_20 : decode cX4_init 20 = .ok (.invokespecial 20, 3) := by decide +kernel
theorem dX4_init_23 : decode cX4_init 23 = .ok (.putfield 21, 3) := by decide +kernel
theorem dX4_init_26 : decode cX4_init 26 = .ok (.aload_n 0, 1) := by decide +kernel
theorem dX4_init_27 : decode cX4_init 27 = .ok (.aconst_null, 1) := by decide +kernel
theorem dX4_init_28 : decode cX4_init 28 = .ok (.putfield 25, 3) := by decide +kernel
theorem dX4_init_31 : decode cX4_init 31 = .ok (.aload_n 0, 1) := by decide +kernel
theorem dX4_init_32 : decode cX4_init 32 = .ok (.aconst_null, 1) := by decide +kernel
theorem dX4_init_33 : decode cX4_init 33 = .ok (.putfield 29, 3) := by decide +kernel
theorem dX4_init_36 : decode cX4_init 36 = .ok (.aload_n 0, 1) := by decide +kernel
theorem dX4_init_37 : decode cX4_init 37 = .ok (.ldc 32, 2) := by decide +kernel
theorem dX4_init_39 : decode cX4_init 39 = .ok (.putfield 33, 3) := by decide +kernel
theorem dX4_init_42 : decode cX4_init 42 = .ok (.return_, 1) := by decide +kernel
theorem dX4_find_0 : decode cX4_find 0 = .ok (.aload_n 0, 1) := by decide +kernel
theorem dX4_find_1 : decode cX4_find 1 = .ok (.aload_n 1, 1) := by decide +kernel
theorem dX4_find_2 : decode cX4_find 2 = .ok (.putfield 25, 3) := by decide +kernel
theorem dX4_find_5 : decode cX4_find 5 = .ok (.aload_n 0, 1) := by decide +kernel
theorem dX4_find_6 : decode cX4_find 6 = .ok (.aload_n 2, 1) := by decide +kernel
theorem dX4_find_7 : decode cX4_find 7 = .ok (.putfield 29, 3) := by decide +kernel
theorem dX4_find_10 : decode cX4_find 10 = .ok (.aload_n 0, 1) := by decide +kernel
theorem dX4_find_11 : decode cX4_find 11 = .ok (.ldc 32, 2) := by decide +kernel
theorem dX4_find_13 : decode cX4_find 13 = .ok (.putfield 33, 3) := by decide +kernel
theorem dX4_find_16 : decode cX4_find 16 = .ok (.aload_n 0, 1) := by decide +kernel
theorem dX4_find_17 : decode cX4_find 17 = .ok (.getfield 21, 3) := by decide +kernel
theorem dX4_find_20 : decode cX4_find 20 = .ok (.invokevirtual 37, 3) := by decide +kernel
theorem dX4_find_23 : decode cX4_find 23 = .ok (.aload_n 0, 1) := by decide +kernel
theorem dX4_find_24 : decode cX4_find 24 = .ok (.getfield 25, 3) := by decide +kernel
theorem dX4_find_27 : decode cX4_find 27 = .ok (.aload_n 0, 1) := by decide +kernel
theorem dX4_find_28 : decode cX4_find 28 = .ok (.getfield 21, 3) := by decide +kernel
theorem dX4_find_31 : decode cX4_find 31 = .ok (.invokevirtual 40, 3) := by decide +kernel
theorem dX4_find_34 : decode cX4_find 34 = .ok (.pop, 1) := by decide +kernel
theorem dX4_find_35 : decode cX4_find 35 = .ok (.aload_n 0, 1) := by decide +kernel
theorem dX4_find_36 : decode cX4_find 36 = .ok (.getfield 29, 3) := by decide +kernel
theorem dX4_find_39 : decode cX4_find 39 = .ok (.aload_n 0, 1) := by decide +kernel
theorem dX4_find_40 : decode cX4_find 40 = .ok (.getfield 21, 3) := by decide +kernel
theorem dX4_find_43 : decode cX4_find 43 = .ok (.invokevirtual 40, 3) := by decide +kernel
theorem dX4_find_46 : decode cX4_find 46 = .ok (.pop, 1) := by decide +kernel
theorem dX4_find_47 : decode cX4_find 47 = .ok (.aload_n 0, 1) := by decide +kernel
theorem dX4_find_48 : decode cX4_find 48 = .ok (.iconst 0, 1) := by decide +kernel
theorem dX4_find_49 : decode cX4_find 49 = .ok (.invokevirtual 46, 3) := by decide +kernel
theorem dX4_find_52 : decode cX4_find 52 = .ok (.iconst 1, 1) := by decide +kernel
theorem dX4_find_53 : decode cX4_find 53 = .ok (.istore_n 3, 1) := by decide +kernel
theorem dX4_find_54 : decode cX4_find 54 = .ok (.aload_n 0, 1) := by decide +kernel
theorem dX4_find_55 : decode cX4_find 55 = .ok (.getfield 33, 3) := by decide +kernel
theorem dX4_find_58 : decode cX4_find 58 = .ok (.ldc 32, 2) := by decide +kernel
theorem dX4_find_60 : decode cX4_find 60 = .ok (.if_icmp .ne 20, 3) := by decide +kernel
theorem dX4_find_63 : decode cX4_find 63 = .ok (.iload_n 3, 1) := by decide +kernel
theorem dX4_find_64 : decode cX4_find 64 = .ok (.bipush 6, 2) := by decide +kernel
theorem dX4_find_66 : decode cX4_find 66 = .ok (.if_icmp .ge 14, 3) := by decide +kernel
theorem dX4_find_69 : decode cX4_find 69 = .ok (.iinc 3 1, 3) := by decide +kernel
theorem dX4_find_72 : decode cX4_find 72 = .ok (.aload_n 0, 1) := by decide +kernel
theorem dX4_find_73 : decode cX4_find 73 = .ok (.iload_n 3, 1) := by decide +kernel
theorem dX4_find_74 : decode cX4_find 74 = .ok (.invokevirtual 50, 3) := by decide +kernel
theorem dX4_find_77 : decode cX4_find 77 = .ok (.goto (-23), 3) := by decide +kernel
theorem dX4_find_80 : decode cX4_find 80 = .ok (.aload_n 0, 1) := by decide +kernel
theorem dX4_find_81 : decode cX4_find 81 = .ok (.getfield 33, 3) := by decide +kernel
theorem dX4_find_84 : decode cX4_find 84 = .ok (.ldc 32, 2) := by decide +kernel
theorem dX4_find_86 : decode cX4_find 86 = .ok (.if_icmp .ne 7, 3) := by decide +kernel
theorem dX4_find_89 : decode cX4_find 89 = .ok (.iconst 0, 1) := by decide +kernel
theorem dX4_find_90 : decode cX4_find 90 = .ok (.goto 4, 3) := by decide +kernel
theorem dX4_find_93 : decode cX4_find 93 = .ok (.iload_n 3, 1) := by decide +kernel
theorem dX4_find_94 : decode cX4_find 94 = .ok (.ireturn, 1) := by decide +kernel
theorem dX4_trySize_0 : decode cX4_trySize 0 = .ok (.aload_n 0, 1) := by decide +kernel
theorem dX4_trySize_1 : decode cX4_trySize 1 = .ok (.getfield 25, 3) := by decide +kernel
theorem dX4_trySize_4 : decode cX4_trySize 4 = .ok (.getfield 54, 3) := by decide +kernel
theorem dX4_trySize_7 : decode cX4_trySize 7 = .ok (.getfield 58, 3) := by decide +kernel
theorem dX4_trySize_10 : decode cX4_trySize 10 = .ok (.aload_n 0, 1) := by decide +kernel
theorem dX4_trySize_11 : decode cX4_trySize 11 = .ok (.getfield 29, 3) := by decide +kernel
theorem dX4_trySize_14 : decode cX4_trySize 14 = .ok (.getfield 54, 3) := by decide +kernel
theorem dX4_trySize_17 : decode cX4_trySize 17 = .ok (.getfield 58, 3) := by decide +kernel
theorem dX4_trySize_20 : decode cX4_trySize 20 = .ok (.ior, 1) := by decide +kernel
theorem dX4_trySize_21 : decode cX4_trySize 21 = .ok (.istore_n 2, 1) := by decide +kernel
theorem dX4_trySize_22 : decode cX4_trySize 22 = .ok (.iconst (-1), 1) := by decide +kernel
theorem dX4_trySize_23 : decode cX4_trySize 23 = .ok (.istore_n 3, 1) := by decide +kernel
theorem dX4_trySize_24 : decode cX4_trySize 24 = .ok (.iload_n 3, 1) := by decide +kernel
theorem dX4_trySize_25 : decode cX4_trySize 25 = .ok (.iconst 5, 1) := by decide +kernel
theorem dX4_trySize_26 : decode cX4_trySize 26 = .ok (.if_icmp .ge 205, 3) := by decide +kernel
theorem dX4_trySize_29 : decode cX4_trySize 29 = .ok (.getstatic 63, 3) := by decide +kernel
theorem dX4_trySize_32 : decode cX4_trySize 32 = .ok (.astore 4, 2) := by decide +kernel
theorem dX4_trySize_34 : decode cX4_trySize 34 = .ok (.aload 4, 2) := by decide +kernel
theorem dX4_trySize_36 : decode cX4_trySize 36 = .ok (.arraylength, 1) := by decide +kernel
theorem dX4_trySize_37 : decode cX4_trySize 37 = .ok (.istore 5, 2) := by decide +kernel
theorem dX4_trySize_39 : decode cX4_trySize 39 = .ok (.iconst 0, 1) := by decide +kernel
theorem dX4_trySize_40 : decode cX4_trySize 40 = .ok (.istore 6, 2) := by decide +kernel
theorem dX4_trySize_42 : decode cX4_trySize 42 = .ok (.iload 6, 2) := by decide +kernel
theorem dX4_trySize_44 : decode cX4_trySize 44 = .ok (.iload 5, 2) := by decide +kernel
theorem dX4_trySize_46 : decode cX4_trySize 46 = .ok (.if_icmp .ge 179, 3) := by decide +kernel
theorem dX4_trySize_49 : decode cX4_trySize 49 = .ok (.aload 4, 2) := by decide +kernel
theorem dX4_trySize_51 : decode cX4_trySize 51 = .ok (.iload 6, 2) := by decide +kernel
theorem dX4_trySize_53 : decode cX4_trySize 53 = .ok (.iaload, 1) := by decide +kernel
theorem dX4_trySize_54 : decode cX4_trySize 54 = .ok (.istore 7, 2) := by decide +kernel
theorem dX4_trySize_56 : decode cX4_trySize 56 = .ok (.iload_n 1, 1) := by decide +kernel
theorem dX4_trySize_57 : decode cX4_trySize 57 = .ok (.iconst 2, 1) := by decide +kernel
theorem dX4_trySize_58 : decode cX4_trySize 58 = .ok (.isub, 1) := by decide +kernel
theorem dX4_trySize_59 : decode cX4_trySize 59 = .ok (.iload_n 3, 1) := by decide +kernel
theorem dX4_trySize_60 : decode cX4_trySize 60 = .ok (.iconst (-1), 1) := by decide +kernel
theorem dX4_trySize_61 : decode cX4_trySize 61 = .ok (.if_icmp .ne 7, 3) := by decide +kernel
theorem dX4_trySize_64 : decode cX4_trySize 64 = .ok (.iconst 0, 1) := by decide +kernel
theorem dX4_trySize_65 : decode cX4_trySize 65 = .ok (.goto 4, 3) := by decide +kernel
theorem dX4_trySize_68 : decode cX4_trySize 68 = .ok (.iconst 1, 1) := by decide +kernel
theorem dX4_trySize_69 : decode cX4_trySize 69 = .ok (.isub, 1) := by decide +kernel
theorem dX4_trySize_70 : decode cX4_trySize 70 = .ok (.iload 7, 2) := by decide +kernel
theorem dX4_trySize_72 : decode cX4_trySize 72 = .ok (.invokestatic 67, 3) := by decide +kernel
theorem dX4_trySize_75 : decode cX4_trySize 75 = .ok (.isub, 1) := by decide +kernel
theorem dX4_trySize_76 : decode cX4_trySize 76 = .ok (.istore 8, 2) := by decide +kernel
theorem dX4_trySize_78 : decode cX4_trySize 78 = .ok (.iload 8, 2) := by decide +kernel
theorem dX4_trySize_80 : decode cX4_trySize 80 = .ok (.ifCond .lt 139, 3) := by decide +kernel
theorem dX4_trySize_83 : decode cX4_trySize 83 = .ok (.iload 8, 2) := by decide +kernel
theorem dX4_trySize_85 : decode cX4_trySize 85 = .ok (.iconst 1, 1) := by decide +kernel
theorem dX4_trySize_86 : decode cX4_trySize 86 = .ok (.if_icmp .gt 133, 3) := by decide +kernel
theorem dX4_trySize_89 : decode cX4_trySize 89 = .ok (.aload_n 0, 1) := by decide +kernel
theorem dX4_trySize_90 : decode cX4_trySize 90 = .ok (.getfield 25, 3) := by decide +kernel
theorem dX4_trySize_93 : decode cX4_trySize 93 = .ok (.iload_n 3, 1) := by decide +kernel
theorem dX4_trySize_94 : decode cX4_trySize 94 = .ok (.iload 7, 2) := by decide +kernel
theorem dX4_trySize_96 : decode cX4_trySize 96 = .ok (.invokevirtual 73, 3) := by decide +kernel
theorem dX4_trySize_99 : decode cX4_trySize 99 = .ok (.ifCond .ne 6, 3) := by decide +kernel
theorem dX4_trySize_102 : decode cX4_trySize 102 = .ok (.goto 117, 3) := by decide +kernel
theorem dX4_trySize_105 : decode cX4_trySize 105 = .ok (.iload 8, 2) := by decide +kernel
theorem dX4_trySize_107 : decode cX4_trySize 107 = .ok (.ifCond .ne 7, 3) := by decide +kernel
theorem dX4_trySize_110 : decode cX4_trySize 110 = .ok (.iconst (-1), 1) := by decide +kernel
theorem dX4_trySize_111 : decode cX4_trySize 111 = .ok (.goto 4, 3) := by decide +kernel
theorem dX4_trySize_114 : decode cX4_trySize 114 = .ok (.iconst 0, 1) := by decide +kernel
theorem dX4_trySize_115 : decode cX4_trySize 115 = .ok (.istore 9, 2) := by decide +kernel
theorem dX4_trySize_117 : decode cX4_trySize 117 = .ok (.iload 9, 2) := by decide +kernel
theorem dX4_trySize_119 : decode cX4_trySize 119 = .ok (.iload 8, 2) := by decide +kernel
theorem dX4_trySize_121 : decode cX4_trySize 121 = .ok (.ifCond .ne 7, 3) := by decide +kernel
theorem dX4_trySize_124 : decode cX4_trySize 124 = .ok (.iconst 0, 1) := by decide +kernel
theorem dX4_trySize_125 : decode cX4_trySize 125 = .ok (.goto 5, 3) := by decide +kernel
theorem dX4_trySize_128 : decode cX4_trySize 128 = .ok (.bipush 6, 2) := by decide +kernel
theorem dX4_trySize_130 : decode cX4_trySize 130 = .ok (.if_icmp .ge 89, 3) := by decide +kernel
theorem dX4_trySize_133 : decode cX4_trySize 133 = .ok (.aload_n 0, 1) := by decide +kernel
theorem dX4_trySize_134 : decode cX4_trySize 134 = .ok (.getfield 21, 3) := by decide +kernel
theorem dX4_trySize_137 : decode cX4_trySize 137 = .ok (.iload_n 3, 1) := by decide +kernel
theorem dX4_trySize_138 : decode cX4_trySize 138 = .ok (.iload 7, 2) := by decide +kernel
theorem dX4_trySize_140 : decode cX4_trySize 140 = .ok (.iload 9, 2) := by decide +kernel
theorem dX4_trySize_142 : decode cX4_trySize 142 = .ok (.invokevirtual 77, 3) := by decide +kernel
theorem dX4_trySize_145 : decode cX4_trySize 145 = .ok (.iload 9, 2) := by decide +kernel
theorem dX4_trySize_147 : decode cX4_trySize 147 = .ok (.iconst (-1), 1) := by decide +kernel
theorem dX4_trySize_148 : decode cX4_trySize 148 = .ok (.if_icmp .eq 12, 3) := by decide +kernel
theorem dX4_trySize_151 : decode cX4_trySize 151 = .ok (.iload_n 2, 1) := by decide +kernel
theorem dX4_trySize_152 : decode cX4_trySize 152 = .ok (.iload 9, 2) := by decide +kernel
theorem dX4_trySize_154 : decode cX4_trySize 154 = .ok (.invokestatic 81, 3) := by decide +kernel
theorem dX4_trySize_157 : decode cX4_trySize 157 = .ok (.ifCond .eq 7, 3) := by decide +kernel
theorem dX4_trySize_160 : decode cX4_trySize 160 = .ok (.iconst 1, 1) := by decide +kernel
theorem dX4_trySize_161 : decode cX4_trySize 161 = .ok (.goto 4, 3) := by decide +kernel
theorem dX4_trySize_164 : decode cX4_trySize 164 = .ok (.iconst 0, 1) := by decide +kernel
theorem dX4_trySize_165 : decode cX4_trySize 165 = .ok (.istore 10, 2) := by decide +kernel
theorem dX4_trySize_167 : decode cX4_trySize 167 = .ok (.iload 10, 2) := by decide +kernel
theorem dX4_trySize_169 : decode cX4_trySize 169 = .ok (.ifCond .eq 44, 3) := by decide +kernel
theorem dX4_trySize_172 : decode cX4_trySize 172 = .ok (.aload_n 0, 1) := by decide +kernel
theorem dX4_trySize_173 : decode cX4_trySize 173 = .ok (.getfield 25, 3) := by decide +kernel
theorem dX4_trySize_176 : decode cX4_trySize 176 = .ok (.aload_n 0, 1) := by decide +kernel
theorem dX4_trySize_177 : decode cX4_trySize 177 = .ok (.getfield 21, 3) := by decide +kernel
theorem dX4_trySize_180 : decode cX4_trySize 180 = .ok (.invokevirtual 40, 3) := by decide +kernel
theorem dX4_trySize_183 : decode cX4_trySize 183 = .ok (.bipush 45, 2) := by decide +kernel
theorem dX4_trySize_185 : decode cX4_trySize 185 = .ok (.if_icmp .ne 28, 3) := by decide +kernel
theorem dX4_trySize_188 : decode cX4_trySize 188 = .ok (.aload_n 0, 1) := by decide +kernel
theorem dX4_trySize_189 : decode cX4_trySize 189 = .ok (.aload_n 0, 1) := by decide +kernel
theorem dX4_trySize_190 : decode cX4_trySize 190 = .ok (.getfield 29, 3) := by decide +kernel
theorem dX4_trySize_193 : decode cX4_trySize 193 = .ok (.aload_n 0, 1) := by decide +kernel
theorem dX4_trySize_194 : decode cX4_trySize 194 = .ok (.getfield 21, 3) := by decide +kernel
theorem dX4_trySize_197 : decode cX4_trySize 197 = .ok (.invokevirtual 40, 3) := by decide +kernel
theorem dX4_trySize_200 : decode cX4_trySize 200 = .ok (.bipush 45, 2) := by decide +kernel
theorem dX4_trySize_202 : decode cX4_trySize 202 = .ok (.if_icmp .eq 7, 3) := by decide +kernel
theorem dX4_trySize_205 : decode cX4_trySize 205 = .ok (.iconst 1, 1) := by decide +kernel
theorem dX4_trySize_206 : decode cX4_trySize 206 = .ok (.goto 4, 3) := by decide +kernel
theorem dX4_trySize_209 : decode cX4_trySize 209 = .ok (.iconst 0, 1) := by decide +kernel
theorem dX4_trySize_210 : decode cX4_trySize 210 = .ok (.invokevirtual 46, 3) := by decide +kernel
theorem dX4_trySize_213 : decode cX4_trySize 213 = .ok (.iinc 9 1, 3) := by decide +kernel
theorem dX4_trySize_216 : decode cX4_trySize 216 = .ok (.goto (-99), 3) := by decide +kernel
theorem dX4_trySize_219 : decode cX4_trySize 219 = .ok (.iinc 6 1, 3) := by decide +kernel
theorem dX4_trySize_222 : decode cX4_trySize 222 = .ok (.goto (-180), 3) := by decide +kernel
theorem dX4_trySize_225 : decode cX4_trySize 225 = .ok (.iinc 3 1, 3) := by decide +kernel
theorem dX4_trySize_228 : decode cX4_trySize 228 = .ok (.goto (-204), 3) := by decide +kernel
theorem dX4_trySize_231 : decode cX4_trySize 231 = .ok (.return_, 1) := by decide +kernel
theorem dX4_tryActs_0 : decode cX4_tryActs 0 = .ok (.aload_n 0, 1) := by decide +kernel
theorem dX4_tryActs_1 : decode cX4_tryActs 1 = .ok (.getfield 21, 3) := by decide +kernel
theorem dX4_tryActs_4 : decode cX4_tryActs 4 = .ok (.getfield 84, 3) := by decide +kernel
theorem dX4_tryActs_7 : decode cX4_tryActs 7 = .ok (.ifCond .eq 7, 3) := by decide +kernel
theorem dX4_tryActs_10 : decode cX4_tryActs 10 = .ok (.iconst 5, 1) := by decide +kernel
theorem dX4_tryActs_11 : decode cX4_tryActs 11 = .ok (.goto 4, 3) := by decide +kernel
theorem dX4_tryActs_14 : decode cX4_tryActs 14 = .ok (.iconst 4, 1) := by decide +kernel
theorem dX4_tryActs_15 : decode cX4_tryActs 15 = .ok (.istore_n 2, 1) := by decide +kernel
theorem dX4_tryActs_16 : decode cX4_tryActs 16 = .ok (.aload_n 0, 1) := by decide +kernel
theorem dX4_tryActs_17 : decode cX4_tryActs 17 = .ok (.getfield 21, 3) := by decide +kernel
theorem dX4_tryActs_20 : decode cX4_tryActs 20 = .ok (.getfield 84, 3) := by decide +kernel
theorem dX4_tryActs_23 : decode cX4_tryActs 23 = .ok (.ifCond .eq 11, 3) := by decide +kernel
theorem dX4_tryActs_26 : decode cX4_tryActs 26 = .ok (.iload_n 1, 1) := by decide +kernel
theorem dX4_tryActs_27 : decode cX4_tryActs 27 = .ok (.ifCond .ne 7, 3) := by decide +kernel
theorem dX4_tryActs_30 : decode cX4_tryActs 30 = .ok (.iconst 5, 1) := by decide +kernel
theorem dX4_tryActs_31 : decode cX4_tryActs 31 = .ok (.goto 4, 3) := by decide +kernel
theorem dX4_tryActs_34 : decode cX4_tryActs 34 = .ok (.iconst 0, 1) := by decide +kernel
theorem dX4_tryActs_35 : decode cX4_tryActs 35 = .ok (.istore_n 3, 1) := by decide +kernel
theorem dX4_tryActs_36 : decode cX4_tryActs 36 = .ok (.iconst 0, 1) := by decide +kernel
theorem dX4_tryActs_37 : decode cX4_tryActs 37 = .ok (.istore 4, 2) := by decide +kernel
theorem dX4_tryActs_39 : decode cX4_tryActs 39 = .ok (.iload 4, 2) := by decide +kernel
theorem dX4_tryActs_41 : decode cX4_tryActs 41 = .ok (.getstatic 88, 3) := by decide +kernel
theorem dX4_tryActs_44 : decode cX4_tryActs 44 = .ok (.arraylength, 1) := by decide +kernel
theorem dX4_tryActs_45 : decode cX4_tryActs 45 = .ok (.if_icmp .ge 275, 3) := by decide +kernel
theorem dX4_tryActs_48 : decode cX4_tryActs 48 = .ok (.aload_n 0, 1) := by decide +kernel
theorem dX4_tryActs_49 : decode cX4_tryActs 49 = .ok (.iload 4, 2) := by decide +kernel
theorem dX4_tryActs_51 : decode cX4_tryActs 51 = .ok (.iload_n 1, 1) := by decide +kernel
theorem dX4_tryActs_52 : decode cX4_tryActs 52 = .ok (.invokevirtual 92, 3) := by decide +kernel
theorem dX4_tryActs_55 : decode cX4_tryActs 55 = .ok (.istore 5, 2) := by decide +kernel
theorem dX4_tryActs_57 : decode cX4_tryActs 57 = .ok (.iload 5, 2) := by decide +kernel
theorem dX4_tryActs_59 : decode cX4_tryActs 59 = .ok (.ifCond .ne 14, 3) := by decide +kernel
theorem dX4_tryActs_62 : decode cX4_tryActs 62 = .ok (.iload 4, 2) := by decide +kernel
theorem dX4_tryActs_64 : decode cX4_tryActs 64 = .ok (.invokestatic 96, 3) := by decide +kernel
theorem dX4_tryActs_67 : decode cX4_tryActs 67 = .ok (.ifCond .eq 6, 3) := by decide +kernel
theorem dX4_tryActs_70 : decode cX4_tryActs 70 = .ok (.goto 244, 3) := by decide +kernel
theorem dX4_tryActs_73 : decode cX4_tryActs 73 = .ok (.iload 4, 2) := by decide +kernel
theorem dX4_tryActs_75 : decode cX4_tryActs 75 = .ok (.invokestatic 100, 3) := by decide +kernel
theorem dX4_tryActs_78 : decode cX4_tryActs 78 = .ok (.ifCond .eq 7, 3) := by decide +kernel
theorem dX4_tryActs_81 : decode cX4_tryActs 81 = .ok (.iload_n 2, 1) := by decide +kernel
theorem dX4_tryActs_82 : decode cX4_tryActs 82 = .ok (.goto 4, 3) := by decide +kernel
theorem dX4_tryActs_85 : decode cX4_tryActs 85 = .ok (.iconst (-1), 1) := by decide +kernel
theorem dX4_tryActs_86 : decode cX4_tryActs 86 = .ok (.istore 6, 2) := by decide +kernel
theorem dX4_tryActs_88 : decode cX4_tryActs 88 = .ok (.iload 4, 2) := by decide +kernel
theorem dX4_tryActs_90 : decode cX4_tryActs 90 = .ok (.invokestatic 96, 3) := by decide +kernel
theorem dX4_tryActs_93 : decode cX4_tryActs 93 = .ok (.ifCond .eq 7, 3) := by decide +kernel
theorem dX4_tryActs_96 : decode cX4_tryActs 96 = .ok (.iconst 5, 1) := by decide +kernel
theorem dX4_tryActs_97 : decode cX4_tryActs 97 = .ok (.goto 4, 3) := by decide +kernel
theorem dX4_tryActs_100 : decode cX4_tryActs 100 = .ok (.iconst (-1), 1) := by decide +kernel
theorem dX4_tryActs_101 : decode cX4_tryActs 101 = .ok (.istore 7, 2) := by decide +kernel
theorem dX4_tryActs_103 : decode cX4_tryActs 103 = .ok (.iload 4, 2) := by decide +kernel
theorem dX4_tryActs_105 : decode cX4_tryActs 105 = .ok (.invokestatic 103, 3) := by decide +kernel
theorem dX4_tryActs_108 : decode cX4_tryActs 108 = .ok (.ifCond .eq 7, 3) := by decide +kernel
theorem dX4_tryActs_111 : decode cX4_tryActs 111 = .ok (.iload_n 2, 1) := by decide +kernel
theorem dX4_tryActs_112 : decode cX4_tryActs 112 = .ok (.goto 4, 3) := by decide +kernel
theorem dX4_tryActs_115 : decode cX4_tryActs 115 = .ok (.iconst (-1), 1) := by decide +kernel
theorem dX4_tryActs_116 : decode cX4_tryActs 116 = .ok (.istore 8, 2) := by decide +kernel
theorem dX4_tryActs_118 : decode cX4_tryActs 118 = .ok (.iload 4, 2) := by decide +kernel
theorem dX4_tryActs_120 : decode cX4_tryActs 120 = .ok (.invokestatic 100, 3) := by decide +kernel
theorem dX4_tryActs_123 : decode cX4_tryActs 123 = .ok (.ifCond .eq 7, 3) := by decide +kernel
theorem dX4_tryActs_126 : decode cX4_tryActs 126 = .ok (.iconst 0, 1) := by decide +kernel
theorem dX4_tryActs_127 : decode cX4_tryActs 127 = .ok (.goto 4, 3) := by decide +kernel
theorem dX4_tryActs_130 : decode cX4_tryActs 130 = .ok (.iconst (-1), 1) := by decide +kernel
theorem dX4_tryActs_131 : decode cX4_tryActs 131 = .ok (.istore 9, 2) := by decide +kernel
theorem dX4_tryActs_133 : decode cX4_tryActs 133 = .ok (.iload 9, 2) := by decide +kernel
theorem dX4_tryActs_135 : decode cX4_tryActs 135 = .ok (.iload 6, 2) := by decide +kernel
theorem dX4_tryActs_137 : decode cX4_tryActs 137 = .ok (.if_icmp .gt 177, 3) := by decide +kernel
theorem dX4_tryActs_140 : decode cX4_tryActs 140 = .ok (.iload 4, 2) := by decide +kernel
theorem dX4_tryActs_142 : decode cX4_tryActs 142 = .ok (.invokestatic 96, 3) := by decide +kernel
theorem dX4_tryActs_145 : decode cX4_tryActs 145 = .ok (.ifCond .eq 7, 3) := by decide +kernel
theorem dX4_tryActs_148 : decode cX4_tryActs 148 = .ok (.iconst 0, 1) := by decide +kernel
theorem dX4_tryActs_149 : decode cX4_tryActs 149 = .ok (.goto 4, 3) := by decide +kernel
theorem dX4_tryActs_152 : decode cX4_tryActs 152 = .ok (.iconst (-1), 1) := by decide +kernel
theorem dX4_tryActs_153 : decode cX4_tryActs 153 = .ok (.istore 10, 2) := by decide +kernel
theorem dX4_tryActs_155 : decode cX4_tryActs 155 = .ok (.iload 10, 2) := by decide +kernel
theorem dX4_tryActs_157 : decode cX4_tryActs 157 = .ok (.iload 7, 2) := by decide +kernel
theorem dX4_tryActs_159 : decode cX4_tryActs 159 = .ok (.if_icmp .gt 149, 3) := by decide +kernel
theorem dX4_tryActs_162 : decode cX4_tryActs 162 = .ok (.iload 10, 2) := by decide +kernel
theorem dX4_tryActs_164 : decode cX4_tryActs 164 = .ok (.iconst (-1), 1) := by decide +kernel
theorem dX4_tryActs_165 : decode cX4_tryActs 165 = .ok (.if_icmp .eq 16, 3) := by decide +kernel
theorem dX4_tryActs_168 : decode cX4_tryActs 168 = .ok (.iload 5, 2) := by decide +kernel
theorem dX4_tryActs_170 : decode cX4_tryActs 170 = .ok (.iload 10, 2) := by decide +kernel
theorem dX4_tryActs_172 : decode cX4_tryActs 172 = .ok (.invokestatic 81, 3) := by decide +kernel
theorem dX4_tryActs_175 : decode cX4_tryActs 175 = .ok (.ifCond .ne 6, 3) := by decide +kernel
theorem dX4_tryActs_178 : decode cX4_tryActs 178 = .ok (.goto 124, 3) := by decide +kernel
theorem dX4_tryActs_181 : decode cX4_tryActs 181 = .ok (.iload 4, 2) := by decide +kernel
theorem dX4_tryActs_183 : decode cX4_tryActs 183 = .ok (.invokestatic 103, 3) := by decide +kernel
theorem dX4_tryActs_186 : decode cX4_tryActs 186 = .ok (.ifCond .eq 7, 3) := by decide +kernel
theorem dX4_tryActs_189 : decode cX4_tryActs 189 = .ok (.iload_n 3, 1) := by decide +kernel
theorem dX4_tryActs_190 : decode cX4_tryActs 190 = .ok (.goto 4, 3) := by decide +kernel
theorem dX4_tryActs_193 : decode cX4_tryActs 193 = .ok (.iconst (-1), 1) := by decide +kernel
theorem dX4_tryActs_194 : decode cX4_tryActs 194 = .ok (.istore 11, 2) := by decide +kernel
theorem dX4_tryActs_196 : decode cX4_tryActs 196 = .ok (.iload 11, 2) := by decide +kernel
theorem dX4_tryActs_198 : decode cX4_tryActs 198 = .ok (.iload 8, 2) := by decide +kernel
theorem dX4_tryActs_200 : decode cX4_tryActs 200 = .ok (.if_icmp .gt 102, 3) := by decide +kernel
theorem dX4_tryActs_203 : decode cX4_tryActs 203 = .ok (.iload 4, 2) := by decide +kernel
theorem dX4_tryActs_205 : decode cX4_tryActs 205 = .ok (.bipush 7, 2) := by decide +kernel
theorem dX4_tryActs_207 : decode cX4_tryActs 207 = .ok (.imul, 1) := by decide +kernel
theorem dX4_tryActs_208 : decode cX4_tryActs 208 = .ok (.iload 9, 2) := by decide +kernel
theorem dX4_tryActs_210 : decode cX4_tryActs 210 = .ok (.iadd, 1) := by decide +kernel
theorem dX4_tryActs_211 : decode cX4_tryActs 211 = .ok (.iconst 1, 1) := by decide +kernel
theorem dX4_tryActs_212 : decode cX4_tryActs 212 = .ok (.iadd, 1) := by decide +kernel
theorem dX4_tryActs_213 : decode cX4_tryActs 213 = .ok (.bipush 7, 2) := by decide +kernel
theorem dX4_tryActs_215 : decode cX4_tryActs 215 = .ok (.imul, 1) := by decide +kernel
theorem dX4_tryActs_216 : decode cX4_tryActs 216 = .ok (.iload 10, 2) := by decide +kernel
theorem dX4_tryActs_218 : decode cX4_tryActs 218 = .ok (.iadd, 1) := by decide +kernel
theorem dX4_tryActs_219 : decode cX4_tryActs 219 = .ok (.iconst 1, 1) := by decide +kernel
theorem dX4_tryActs_220 : decode cX4_tryActs 220 = .ok (.iadd, 1) := by decide +kernel
theorem dX4_tryActs_221 : decode cX4_tryActs 221 = .ok (.bipush 7, 2) := by decide +kernel
theorem dX4_tryActs_223 : decode cX4_tryActs 223 = .ok (.imul, 1) := by decide +kernel
theorem dX4_tryActs_224 : decode cX4_tryActs 224 = .ok (.iload 11, 2) := by decide +kernel
theorem dX4_tryActs_226 : decode cX4_tryActs 226 = .ok (.iadd, 1) := by decide +kernel
theorem dX4_tryActs_227 : decode cX4_tryActs 227 = .ok (.iconst 1, 1) := by decide +kernel
theorem dX4_tryActs_228 : decode cX4_tryActs 228 = .ok (.iadd, 1) := by decide +kernel
theorem dX4_tryActs_229 : decode cX4_tryActs 229 = .ok (.istore 12, 2) := by decide +kernel
theorem dX4_tryActs_231 : decode cX4_tryActs 231 = .ok (.iload 12, 2) := by decide +kernel
theorem dX4_tryActs_233 : decode cX4_tryActs 233 = .ok (.aload_n 0, 1) := by decide +kernel
theorem dX4_tryActs_234 : decode cX4_tryActs 234 = .ok (.getfield 33, 3) := by decide +kernel
theorem dX4_tryActs_237 : decode cX4_tryActs 237 = .ok (.if_icmp .lt 4, 3) := by decide +kernel
theorem dX4_tryActs_240 : decode cX4_tryActs 240 = .ok (.return_, 1) := by decide +kernel
theorem dX4_tryActs_241 : decode cX4_tryActs 241 = .ok (.aload_n 0, 1) := by decide +kernel
theorem dX4_tryActs_242 : decode cX4_tryActs 242 = .ok (.getfield 25, 3) := by decide +kernel
theorem dX4_tryActs_245 : decode cX4_tryActs 245 = .ok (.iload 4, 2) := by decide +kernel
theorem dX4_tryActs_247 : decode cX4_tryActs 247 = .ok (.iload 9, 2) := by decide +kernel
theorem dX4_tryActs_249 : decode cX4_tryActs 249 = .ok (.iload 10, 2) := by decide +kernel
theorem dX4_tryActs_251 : decode cX4_tryActs 251 = .ok (.iload 11, 2) := by decide +kernel
theorem dX4_tryActs_253 : decode cX4_tryActs 253 = .ok (.invokevirtual 106, 3) := by decide +kernel
theorem dX4_tryActs_256 : decode cX4_tryActs 256 = .ok (.ifCond .lt 40, 3) := by decide +kernel
theorem dX4_tryActs_259 : decode cX4_tryActs 259 = .ok (.iload_n 1, 1) := by decide +kernel
theorem dX4_tryActs_260 : decode cX4_tryActs 260 = .ok (.ifCond .ne 21, 3) := by decide +kernel
theorem dX4_tryActs_263 : decode cX4_tryActs 263 = .ok (.aload_n 0, 1) := by decide +kernel
theorem dX4_tryActs_264 : decode cX4_tryActs 264 = .ok (.getfield 29, 3) := by decide +kernel
theorem dX4_tryActs_267 : decode cX4_tryActs 267 = .ok (.iload 4, 2) := by decide +kernel
theorem dX4_tryActs_269 : decode cX4_tryActs 269 = .ok (.iload 9, 2) := by decide +kernel
theorem dX4_tryActs_271 : decode cX4_tryActs 271 = .ok (.iload 10, 2) := by decide +kernel
theorem dX4_tryActs_273 : decode cX4_tryActs 273 = .ok (.iload 11, 2) := by decide +kernel
theorem dX4_tryActs_275 : decode cX4_tryActs 275 = .ok (.invokevirtual 106, 3) := by decide +kernel
theorem dX4_tryActs_278 : decode cX4_tryActs 278 = .ok (.ifCond .ge 18, 3) := by decide +kernel
theorem dX4_tryActs_281 : decode cX4_tryActs 281 = .ok (.aload_n 0, 1) := by decide +kernel
theorem dX4_tryActs_282 : decode cX4_tryActs 282 = .ok (.iload 12, 2) := by decide +kernel
theorem dX4_tryActs_284 : decode cX4_tryActs 284 = .ok (.iload 4, 2) := by decide +kernel
theorem dX4_tryActs_286 : decode cX4_tryActs 286 = .ok (.iload 9, 2) := by decide +kernel
theorem dX4_tryActs_288 : decode cX4_tryActs 288 = .ok (.iload 10, 2) := by decide +kernel
theorem dX4_tryActs_290 : decode cX4_tryActs 290 = .ok (.iload 11, 2) := by decide +kernel
theorem dX4_tryActs_292 : decode cX4_tryActs 292 = .ok (.invokevirtual 110, 3) := by decide +kernel
theorem dX4_tryActs_295 : decode cX4_tryActs 295 = .ok (.return_, 1) := by decide +kernel
theorem dX4_tryActs_296 : decode cX4_tryActs 296 = .ok (.iinc 11 1, 3) := by decide +kernel
theorem dX4_tryActs_299 : decode cX4_tryActs 299 = .ok (.goto (-103), 3) := by decide +kernel
theorem dX4_tryActs_302 : decode cX4_tryActs 302 = .ok (.iinc 10 1, 3) := by decide +kernel
theorem dX4_tryActs_305 : decode cX4_tryActs 305 = .ok (.goto (-150), 3) := by decide +kernel
theorem dX4_tryActs_308 : decode cX4_tryActs 308 = .ok (.iinc 9 1, 3) := by decide +kernel
theorem dX4_tryActs_311 : decode cX4_tryActs 311 = .ok (.goto (-178), 3) := by decide +kernel
theorem dX4_tryActs_314 : decode cX4_tryActs 314 = .ok (.iinc 4 1, 3) := by decide +kernel
theorem dX4_tryActs_317 : decode cX4_tryActs 317 = .ok (.goto (-278), 3) := by decide +kernel
theorem dX4_tryActs_320 : decode cX4_tryActs 320 = .ok (.return_, 1) := by decide +kernel
theorem dX4_worthTrying_0 : decode cX4_worthTrying 0 = .ok (.aload_n 0, 1) := by decide +kernel
theorem dX4_worthTrying_1 : decode cX4_worthTrying 1 = .ok (.getfield 25, 3) := by decide +kernel
theorem dX4_worthTrying_4 : decode cX4_worthTrying 4 = .ok (.getfield 54, 3) := by decide +kernel
theorem dX4_worthTrying_7 : decode cX4_worthTrying 7 = .ok (.getfield 114, 3) := by decide +kernel
theorem dX4_worthTrying_10 : decode cX4_worthTrying 10 = .ok (.iload_n 1, 1) := by decide +kernel
theorem dX4_worthTrying_11 : decode cX4_worthTrying 11 = .ok (.iaload, 1) := by decide +kernel
theorem dX4_worthTrying_12 : decode cX4_worthTrying 12 = .ok (.istore_n 3, 1) := by decide +kernel
theorem dX4_worthTrying_13 : decode cX4_worthTrying 13 = .ok (.iload_n 1, 1) := by decide +kernel
theorem dX4_worthTrying_14 : decode cX4_worthTrying 14 = .ok (.iconst 4, 1) := by decide +kernel
theorem dX4_worthTrying_15 : decode cX4_worthTrying 15 = .ok (.if_icmp .ne 15, 3) := by decide +kernel
theorem dX4_worthTrying_18 : decode cX4_worthTrying 18 = .ok (.aload_n 0, 1) := by decide +kernel
theorem dX4_worthTrying_19 : decode cX4_worthTrying 19 = .ok (.getfield 21, 3) := by decide +kernel
theorem dX4_worthTrying_22 : decode cX4_worthTrying 22 = .ok (.getfield 84, 3) := by decide +kernel
theorem dX4_worthTrying_25 : decode cX4_worthTrying 25 = .ok (.ifCond .ne 5, 3) := by decide +kernel
theorem dX4_worthTrying_28 : decode cX4_worthTrying 28 = .ok (.iconst 0, 1) := by decide +kernel
theorem dX4_worthTrying_29 : decode cX4_worthTrying 29 = .ok (.ireturn, 1) := by decide +kernel
theorem dX4_worthTrying_30 : decode cX4_worthTrying 30 = .ok (.aload_n 0, 1) := by decide +kernel
theorem dX4_worthTrying_31 : decode cX4_worthTrying 31 = .ok (.getfield 21, 3) := by decide +kernel
theorem dX4_worthTrying_34 : decode cX4_worthTrying 34 = .ok (.getfield 117, 3) := by decide +kernel
theorem dX4_worthTrying_37 : decode cX4_worthTrying 37 = .ok (.iconst (-1), 1) := by decide +kernel
theorem dX4_worthTrying_38 : decode cX4_worthTrying 38 = .ok (.if_icmp .eq 7, 3) := by decide +kernel
theorem dX4_worthTrying_41 : decode cX4_worthTrying 41 = .ok (.iload_n 2, 1) := by decide +kernel
theorem dX4_worthTrying_42 : decode cX4_worthTrying 42 = .ok (.ifCond .eq 5, 3) := by decide +kernel
theorem dX4_worthTrying_45 : decode cX4_worthTrying 45 = .ok (.iload_n 3, 1) := by decide +kernel
theorem dX4_worthTrying_46 : decode cX4_worthTrying 46 = .ok (.ireturn, 1) := by decide +kernel
theorem dX4_worthTrying_47 : decode cX4_worthTrying 47 = .ok (.iload_n 1, 1) := by decide +kernel
theorem dX4_worthTrying_48 : decode cX4_worthTrying 48 = .ok (.iconst 2, 1) := by decide +kernel
theorem dX4_worthTrying_49 : decode cX4_worthTrying 49 = .ok (.if_icmp .eq 8, 3) := by decide +kernel
theorem dX4_worthTrying_52 : decode cX4_worthTrying 52 = .ok (.iload_n 1, 1) := by decide +kernel
theorem dX4_worthTrying_53 : decode cX4_worthTrying 53 = .ok (.iconst 3, 1) := by decide +kernel
theorem dX4_worthTrying_54 : decode cX4_worthTrying 54 = .ok (.if_icmp .ne 15, 3) := by decide +kernel
theorem dX4_worthTrying_57 : decode cX4_worthTrying 57 = .ok (.iconst 1, 1) := by decide +kernel
theorem dX4_worthTrying_58 : decode cX4_worthTrying 58 = .ok (.aload_n 0, 1) := by decide +kernel
theorem dX4_worthTrying_59 : decode cX4_worthTrying 59 = .ok (.getfield 21, 3) := by decide +kernel
theorem dX4_worthTrying_62 : decode cX4_worthTrying 62 = .ok (.getfield 117, 3) := by decide +kernel
theorem dX4_worthTrying_65 : decode cX4_worthTrying 65 = .ok (.ishl, 1) := by decide +kernel
theorem dX4_worthTrying_66 : decode cX4_worthTrying 66 = .ok (.goto 4, 3) := by decide +kernel
theorem dX4_worthTrying_69 : decode cX4_worthTrying 69 = .ok (.iconst 0, 1) := by decide +kernel
theorem dX4_worthTrying_70 : decode cX4_worthTrying 70 = .ok (.ireturn, 1) := by decide +kernel
theorem dX4_keep_0 : decode cX4_keep 0 = .ok (.aload_n 0, 1) := by decide +kernel
theorem dX4_keep_1 : decode cX4_keep 1 = .ok (.iload_n 1, 1) := by decide +kernel
theorem dX4_keep_2 : decode cX4_keep 2 = .ok (.putfield 33, 3) := by decide +kernel
theorem dX4_keep_5 : decode cX4_keep 5 = .ok (.aload_n 0, 1) := by decide +kernel
theorem dX4_keep_6 : decode cX4_keep 6 = .ok (.getfield 12, 3) := by decide +kernel
theorem dX4_keep_9 : decode cX4_keep 9 = .ok (.iconst 0, 1) := by decide +kernel
theorem dX4_keep_10 : decode cX4_keep 10 = .ok (.putfield 120, 3) := by decide +kernel
theorem dX4_keep_13 : decode cX4_keep 13 = .ok (.aload_n 0, 1) := by decide +kernel
theorem dX4_keep_14 : decode cX4_keep 14 = .ok (.getfield 12, 3) := by decide +kernel
theorem dX4_keep_17 : decode cX4_keep 17 = .ok (.getfield 123, 3) := by decide +kernel
theorem dX4_keep_20 : decode cX4_keep 20 = .ok (.aload_n 0, 1) := by decide +kernel
theorem dX4_keep_21 : decode cX4_keep 21 = .ok (.getfield 21, 3) := by decide +kernel
theorem dX4_keep_24 : decode cX4_keep 24 = .ok (.invokevirtual 126, 3) := by decide +kernel
theorem dX4_keep_27 : decode cX4_keep 27 = .ok (.aload_n 0, 1) := by decide +kernel
theorem dX4_keep_28 : decode cX4_keep 28 = .ok (.getfield 12, 3) := by decide +kernel
theorem dX4_keep_31 : decode cX4_keep 31 = .ok (.iload_n 2, 1) := by decide +kernel
theorem dX4_keep_32 : decode cX4_keep 32 = .ok (.iload_n 3, 1) := by decide +kernel
theorem dX4_keep_33 : decode cX4_keep 33 = .ok (.iload 4, 2) := by decide +kernel
theorem dX4_keep_35 : decode cX4_keep 35 = .ok (.iload 5, 2) := by decide +kernel
theorem dX4_keep_37 : decode cX4_keep 37 = .ok (.invokevirtual 130, 3) := by decide +kernel
theorem dX4_keep_40 : decode cX4_keep 40 = .ok (.return_, 1) := by decide +kernel
end
section
-- pasted from the claim's printed text: decode rows
theorem dX5_init_0 : decode cX5_init 0 = .ok (.aload_n 0, 1) := by decide +kernel
theorem dX5_init_1 : decode cX5_init 1 = .ok (.invokespecial 3, 3) := by decide +kernel
theorem dX5_init_4 : decode cX5_init 4 = .ok (.aload_n 0, 1) := by decide +kernel
theorem dX5_init_5 : decode cX5_init 5 = .ok (.new 9, 3) := by decide +kernel
theorem dX5_init_8 : decode cX5_init 8 = .ok (.dup, 1) := by decide +kernel
theorem dX5_init_9 : decode cX5_init 9 = .ok (.invokespecial 11, 3) := by decide +kernel
theorem dX5_init_12 : decode cX5_init 12 = .ok (.putfield 12, 3) := by decide +kernel
theorem dX5_init_15 : decode cX5_init 15 = .ok (.aload_n 0, 1) := by decide +kernel
theorem dX5_init_16 : decode cX5_init 16 = .ok (.new 18, 3) := by decide +kernel
theorem dX5_init_19 : decode cX5_init 19 = .ok (.dup, 1) := by decide +kernel
theorem dX5_init_20 : decode cX5_init 20 = .ok (.invokespecial 20, 3) := by decide +kernel
theorem dX5_init_23 : decode cX5_init 23 = .ok (.putfield 21, 3) := by decide +kernel
theorem dX5_init_26 : decode cX5_init 26 = .ok (.aload_n 0, 1) := by decide +kernel
theorem dX5_init_27 : decode cX5_init 27 = .ok (.iconst 0, 1) := by decide +kernel
theorem dX5_init_28 : decode cX5_init 28 = .ok (.putfield 25, 3) := by decide +kernel
theorem dX5_init_31 : decode cX5_init 31 = .ok (.aload_n 0, 1) := by decide +kernel
theorem dX5_init_32 : decode cX5_init 32 = .ok (.iconst (-1), 1) := by decide +kernel
theorem dX5_init_33 : decode cX5_init 33 = .ok (.putfield 29, 3) := by decide +kernel
theorem dX5_init_36 : decode cX5_init 36 = .ok (.aload_n 0, 1) := by decide +kernel
theorem dX5_init_37 : decode cX5_init 37 = .ok (.iconst 0, 1) := by decide +kernel
theorem dX5_init_38 : decode cX5_init 38 = .ok (.putfield 33, 3) := by decide +kernel
theorem dX5_init_41 : decode cX5_init 41 = .ok (.aload_n 0, 1) := by decide +kernel
theorem dX5_init_42 : decode cX5_init 42 = .ok (.iconst (-1), 1) := by decide +kernel
theorem dX5_init_43 : decode cX5_init 43 = .ok (.putfield 36, 3) := by decide +kernel
theorem dX5_init_46 : decode cX5_init 46 = .ok (.return_, 1) := by decide +kernel
theorem dX5_changed_0 : decode cX5_changed 0 = .ok (.aload_n 0, 1) := by decide +kernel
theorem dX5_changed_1 : decode cX5_changed 1 = .ok (.iconst 0, 1) := by decide +kernel
theorem dX5_changed_2 : decode cX5_changed 2 = .ok (.putfield 25, 3) := by decide +kernel
theorem dX5_changed_5 : decode cX5_changed 5 = .ok (.return_, 1) := by decide +kernel
theorem dX5_become_0 : decode cX5_become 0 = .ok (.aload_n 0, 1) := by decide +kernel
theorem dX5_become_1 : decode cX5_become 1 = .ok (.getfield 12, 3) := by decide +kernel
theorem dX5_become_4 : decode cX5_become 4 = .ok (.aload_n 1, 1) := by decide +kernel
theorem dX5_become_5 : decode cX5_become 5 = .ok (.getfield 12, 3) := by decide +kernel
theorem dX5_become_8 : decode cX5_become 8 = .ok (.invokevirtual 39, 3) := by decide +kernel
theorem dX5_become_11 : decode cX5_become 11 = .ok (.aload_n 0, 1) := by decide +kernel
theorem dX5_become_12 : decode cX5_become 12 = .ok (.iconst 0, 1) := by decide +kernel
theorem dX5_become_13 : decode cX5_become 13 = .ok (.putfield 25, 3) := by decide +kernel
theorem dX5_become_16 : decode cX5_become 16 = .ok (.return_, 1) := by decide +kernel
theorem dX5_law_0 : decode cX5_law 0 = .ok (.aload_n 0, 1) := by decide +kernel
theorem dX5_law_1 : decode cX5_law 1 = .ok (.getfield 25, 3) := by decide +kernel
theorem dX5_law_4 : decode cX5_law 4 = .ok (.ifCond .ne 53, 3) := by decide +kernel
theorem dX5_law_7 : decode cX5_law 7 = .ok (.aload_n 0, 1) := by decide +kernel
theorem dX5_law_8 : decode cX5_law 8 = .ok (.getfield 21, 3) := by decide +kernel
theorem dX5_law_11 : decode cX5_law 11 = .ok (.aload_n 0, 1) := by decide +kernel
theorem dX5_law_12 : decode cX5_law 12 = .ok (.getfield 12, 3) := by decide +kernel
theorem dX5_law_15 : decode cX5_law 15 = .ok (.invokevirtual 43, 3) := by decide +kernel
theorem dX5_law_18 : decode cX5_law 18 = .ok (.aload_n 0, 1) := by decide +kernel
theorem dX5_law_19 : decode cX5_law 19 = .ok (.aload_n 0, 1) := by decide +kernel
theorem dX5_law_20 : decode cX5_law 20 = .ok (.getfield 12, 3) := by decide +kernel
theorem dX5_law_23 : decode cX5_law 23 = .ok (.aload_n 0, 1) := by decide +kernel
theorem dX5_law_24 : decode cX5_law 24 = .ok (.getfield 21, 3) := by decide +kernel
theorem dX5_law_27 : decode cX5_law 27 = .ok (.invokestatic 46, 3) := by decide +kernel
theorem dX5_law_30 : decode cX5_law 30 = .ok (.putfield 29, 3) := by decide +kernel
theorem dX5_law_33 : decode cX5_law 33 = .ok (.aload_n 0, 1) := by decide +kernel
theorem dX5_law_34 : decode cX5_law 34 = .ok (.getfield 29, 3) := by decide +kernel
theorem dX5_law_37 : decode cX5_law 37 = .ok (.iconst (-1), 1) := by decide +kernel
theorem dX5_law_38 : decode cX5_law 38 = .ok (.if_icmp .ne 14, 3) := by decide +kernel
theorem dX5_law_41 : decode cX5_law 41 = .ok (.aload_n 0, 1) := by decide +kernel
theorem dX5_law_42 : decode cX5_law 42 = .ok (.getfield 21, 3) := by decide +kernel
theorem dX5_law_45 : decode cX5_law 45 = .ok (.aload_n 0, 1) := by decide +kernel
theorem dX5_law_46 : decode cX5_law 46 = .ok (.getfield 12, 3) := by decide +kernel
theorem dX5_law_49 : decode cX5_law 49 = .ok (.invokevirtual 52, 3) := by decide +kernel
theorem dX5_law_52 : decode cX5_law 52 = .ok (.aload_n 0, 1) := by decide +kernel
theorem dX5_law_53 : decode cX5_law 53 = .ok (.iconst 1, 1) := by decide +kernel
theorem dX5_law_54 : decode cX5_law 54 = .ok (.putfield 25, 3) := by decide +kernel
theorem dX5_law_57 : decode cX5_law 57 = .ok (.aload_n 0, 1) := by decide +kernel
theorem dX5_law_58 : decode cX5_law 58 = .ok (.getfield 29, 3) := by decide +kernel
theorem dX5_law_61 : decode cX5_law 61 = .ok (.ireturn, 1) := by decide +kernel
theorem dX5_load_0 : decode cX5_load 0 = .ok (.aload_n 0, 1) := by decide +kernel
theorem dX5_load_1 : decode cX5_load 1 = .ok (.aload_n 1, 1) := by decide +kernel
theorem dX5_load_2 : decode cX5_load 2 = .ok (.getfield 55, 3) := by decide +kernel
theorem dX5_load_5 : decode cX5_load 5 = .ok (.putfield 33, 3) := by decide +kernel
theorem dX5_load_8 : decode cX5_load 8 = .ok (.aload_n 0, 1) := by decide +kernel
theorem dX5_load_9 : decode cX5_load 9 = .ok (.aload_n 1, 1) := by decide +kernel
theorem dX5_load_10 : decode cX5_load 10 = .ok (.getfield 60, 3) := by decide +kernel
theorem dX5_load_13 : decode cX5_load 13 = .ok (.putfield 36, 3) := by decide +kernel
theorem dX5_load_16 : decode cX5_load 16 = .ok (.aload_n 1, 1) := by decide +kernel
theorem dX5_load_17 : decode cX5_load 17 = .ok (.getfield 55, 3) := by decide +kernel
theorem dX5_load_20 : decode cX5_load 20 = .ok (.ifCond .ne 6, 3) := by decide +kernel
theorem dX5_load_23 : decode cX5_load 23 = .ok (.bipush 45, 2) := by decide +kernel
theorem dX5_load_25 : decode cX5_load 25 = .ok (.ireturn, 1) := by decide +kernel
theorem dX5_load_26 : decode cX5_load 26 = .ok (.aload_n 1, 1) := by decide +kernel
theorem dX5_load_27 : decode cX5_load 27 = .ok (.getfield 60, 3) := by decide +kernel
theorem dX5_load_30 : decode cX5_load 30 = .ok (.iconst (-1), 1) := by decide +kernel
theorem dX5_load_31 : decode cX5_load 31 = .ok (.if_icmp .ne 8, 3) := by decide +kernel
theorem dX5_load_34 : decode cX5_load 34 = .ok (.bipush 45, 2) := by decide +kernel
theorem dX5_load_36 : decode cX5_load 36 = .ok (.goto 12, 3) := by decide +kernel
theorem dX5_load_39 : decode cX5_load 39 = .ok (.aload_n 0, 1) := by decide +kernel
theorem dX5_load_40 : decode cX5_load 40 = .ok (.aload_n 1, 1) := by decide +kernel
theorem dX5_load_41 : decode cX5_load 41 = .ok (.getfield 60, 3) := by decide +kernel
theorem dX5_load_44 : decode cX5_load 44 = .ok (.iconst 0, 1) := by decide +kernel
theorem dX5_load_45 : decode cX5_load 45 = .ok (.invokevirtual 63, 3) := by decide +kernel
theorem dX5_load_48 : decode cX5_load 48 = .ok (.istore_n 2, 1) := by decide +kernel
theorem dX5_load_49 : decode cX5_load 49 = .ok (.iconst 0, 1) := by decide +kernel
theorem dX5_load_50 : decode cX5_load 50 = .ok (.istore_n 3, 1) := by decide +kernel
theorem dX5_load_51 : decode cX5_load 51 = .ok (.iload_n 3, 1) := by decide +kernel
theorem dX5_load_52 : decode cX5_load 52 = .ok (.iconst 5, 1) := by decide +kernel
theorem dX5_load_53 : decode cX5_load 53 = .ok (.if_icmp .ge 38, 3) := by decide +kernel
theorem dX5_load_56 : decode cX5_load 56 = .ok (.iload_n 2, 1) := by decide +kernel
theorem dX5_load_57 : decode cX5_load 57 = .ok (.bipush 45, 2) := by decide +kernel
theorem dX5_load_59 : decode cX5_load 59 = .ok (.if_icmp .ne 32, 3) := by decide +kernel
theorem dX5_load_62 : decode cX5_load 62 = .ok (.aload_n 1, 1) := by decide +kernel
theorem dX5_load_63 : decode cX5_load 63 = .ok (.getfield 67, 3) := by decide +kernel
theorem dX5_load_66 : decode cX5_load 66 = .ok (.iload_n 3, 1) := by decide +kernel
theorem dX5_load_67 : decode cX5_load 67 = .ok (.invokestatic 70, 3) := by decide +kernel
theorem dX5_load_70 : decode cX5_load 70 = .ok (.ifCond .eq 12, 3) := by decide +kernel
theorem dX5_load_73 : decode cX5_load 73 = .ok (.aload_n 0, 1) := by decide +kernel
theorem dX5_load_74 : decode cX5_load 74 = .ok (.iload_n 3, 1) := by decide +kernel
theorem dX5_load_75 : decode cX5_load 75 = .ok (.iconst 1, 1) := by decide +kernel
theorem dX5_load_76 : decode cX5_load 76 = .ok (.invokevirtual 63, 3) := by decide +kernel
theorem dX5_load_79 : decode cX5_load 79 = .ok (.goto 5, 3) := by decide +kernel
theorem dX5_load_82 : decode cX5_load 82 = .ok (.bipush 45, 2) := by decide +kernel
theorem dX5_load_84 : decode cX5_load 84 = .ok (.istore_n 2, 1) := by decide +kernel
theorem dX5_load_85 : decode cX5_load 85 = .ok (.iinc 3 1, 3) := by decide +kernel
theorem dX5_load_88 : decode cX5_load 88 = .ok (.goto (-37), 3) := by decide +kernel
theorem dX5_load_91 : decode cX5_load 91 = .ok (.iload_n 2, 1) := by decide +kernel
theorem dX5_load_92 : decode cX5_load 92 = .ok (.bipush 45, 2) := by decide +kernel
theorem dX5_load_94 : decode cX5_load 94 = .ok (.if_icmp .ne 37, 3) := by decide +kernel
theorem dX5_load_97 : decode cX5_load 97 = .ok (.aload_n 1, 1) := by decide +kernel
theorem dX5_load_98 : decode cX5_load 98 = .ok (.getfield 74, 3) := by decide +kernel
theorem dX5_load_101 : decode cX5_load 101 = .ok (.iconst (-1), 1) := by decide +kernel
theorem dX5_load_102 : decode cX5_load 102 = .ok (.if_icmp .eq 29, 3) := by decide +kernel
theorem dX5_load_105 : decode cX5_load 105 = .ok (.aload_n 1, 1) := by decide +kernel
theorem dX5_load_106 : decode cX5_load 106 = .ok (.getfield 60, 3) := by decide +kernel
theorem dX5_load_109 : decode cX5_load 109 = .ok (.iconst (-1), 1) := by decide +kernel
theorem dX5_load_110 : decode cX5_load 110 = .ok (.if_icmp .eq 21, 3) := by decide +kernel
theorem dX5_load_113 : decode cX5_load 113 = .ok (.aload_n 0, 1) := by decide +kernel
theorem dX5_load_114 : decode cX5_load 114 = .ok (.aload_n 1, 1) := by decide +kernel
theorem dX5_load_115 : decode cX5_load 115 = .ok (.getfield 60, 3) := by decide +kernel
theorem dX5_load_118 : decode cX5_load 118 = .ok (.aload_n 1, 1) := by decide +kernel
theorem dX5_load_119 : decode cX5_load 119 = .ok (.getfield 74, 3) := by decide +kernel
theorem dX5_load_122 : decode cX5_load 122 = .ok (.invokevirtual 77, 3) := by decide +kernel
theorem dX5_load_125 : decode cX5_load 125 = .ok (.ifCond .eq 6, 3) := by decide +kernel
theorem dX5_load_128 : decode cX5_load 128 = .ok (.bipush 86, 2) := by decide +kernel
theorem dX5_load_130 : decode cX5_load 130 = .ok (.istore_n 2, 1) := by decide +kernel
theorem dX5_load_131 : decode cX5_load 131 = .ok (.iload_n 2, 1) := by decide +kernel
theorem dX5_load_132 : decode cX5_load 132 = .ok (.bipush 45, 2) := by decide +kernel
theorem dX5_load_134 : decode cX5_load 134 = .ok (.if_icmp .ne 23, 3) := by decide +kernel
theorem dX5_load_137 : decode cX5_load 137 = .ok (.aload_n 0, 1) := by decide +kernel
theorem dX5_load_138 : decode cX5_load 138 = .ok (.getfield 21, 3) := by decide +kernel
theorem dX5_load_141 : decode cX5_load 141 = .ok (.aload_n 1, 1) := by decide +kernel
theorem dX5_load_142 : decode cX5_load 142 = .ok (.invokevirtual 80, 3) := by decide +kernel
theorem dX5_load_145 : decode cX5_load 145 = .ok (.aload_n 0, 1) := by decide +kernel
theorem dX5_load_146 : decode cX5_load 146 = .ok (.getfield 21, 3) := by decide +kernel
theorem dX5_load_149 : decode cX5_load 149 = .ok (.aload_n 0, 1) := by decide +kernel
theorem dX5_load_150 : decode cX5_load 150 = .ok (.getfield 12, 3) := by decide +kernel
theorem dX5_load_153 : decode cX5_load 153 = .ok (.iconst 5, 1) := by decide +kernel
theorem dX5_load_154 : decode cX5_load 154 = .ok (.invokevirtual 84, 3) := by decide +kernel
theorem dX5_load_157 : decode cX5_load 157 = .ok (.iload_n 2, 1) := by decide +kernel
theorem dX5_load_158 : decode cX5_load 158 = .ok (.ireturn, 1) := by decide +kernel
theorem dX5_mayBeAbove_0 : decode cX5_mayBeAbove 0 = .ok (.iload_n 1, 1) := by decide +kernel
theorem dX5_mayBeAbove_1 : decode cX5_mayBeAbove 1 = .ok (.iconst (-1), 1) := by decide +kernel
theorem dX5_mayBeAbove_2 : decode cX5_mayBeAbove 2 = .ok (.if_icmp .eq 17, 3) := by decide +kernel
theorem dX5_mayBeAbove_5 : decode cX5_mayBeAbove 5 = .ok (.aload_n 0, 1) := by decide +kernel
theorem dX5_mayBeAbove_6 : decode cX5_mayBeAbove 6 = .ok (.getfield 21, 3) := by decide +kernel
theorem dX5_mayBeAbove_9 : decode cX5_mayBeAbove 9 = .ok (.getfield 88, 3) := by decide +kernel
theorem dX5_mayBeAbove_12 : decode cX5_mayBeAbove 12 = .ok (.iload_n 1, 1) := by decide +kernel
theorem dX5_mayBeAbove_13 : decode cX5_mayBeAbove 13 = .ok (.invokestatic 70, 3) := by decide +kernel
theorem dX5_mayBeAbove_16 : decode cX5_mayBeAbove 16 = .ok (.ifCond .eq 21, 3) := by decide +kernel
theorem dX5_mayBeAbove_19 : decode cX5_mayBeAbove 19 = .ok (.iload_n 2, 1) := by decide +kernel
theorem dX5_mayBeAbove_20 : decode cX5_mayBeAbove 20 = .ok (.aload_n 0, 1) := by decide +kernel
theorem dX5_mayBeAbove_21 : decode cX5_mayBeAbove 21 = .ok (.getfield 21, 3) := by decide +kernel
theorem dX5_mayBeAbove_24 : decode cX5_mayBeAbove 24 = .ok (.getfield 91, 3) := by decide +kernel
theorem dX5_mayBeAbove_27 : decode cX5_mayBeAbove 27 = .ok (.iconst (-1), 1) := by decide +kernel
theorem dX5_mayBeAbove_28 : decode cX5_mayBeAbove 28 = .ok (.ixor, 1) := by decide +kernel
theorem dX5_mayBeAbove_29 : decode cX5_mayBeAbove 29 = .ok (.iand, 1) := by decide +kernel
theorem dX5_mayBeAbove_30 : decode cX5_mayBeAbove 30 = .ok (.ifCond .ne 7, 3) := by decide +kernel
theorem dX5_mayBeAbove_33 : decode cX5_mayBeAbove 33 = .ok (.iconst 1, 1) := by decide +kernel
theorem dX5_mayBeAbove_34 : decode cX5_mayBeAbove 34 = .ok (.goto 4, 3) := by decide +kernel
theorem dX5_mayBeAbove_37 : decode cX5_mayBeAbove 37 = .ok (.iconst 0, 1) := by decide +kernel
theorem dX5_mayBeAbove_38 : decode cX5_mayBeAbove 38 = .ok (.ireturn, 1) := by decide +kernel
theorem dX5_aboveFault_0 : decode cX5_aboveFault 0 = .ok (.aload_n 0, 1) := by decide +kernel
theorem dX5_aboveFault_1 : decode cX5_aboveFault 1 = .ok (.getfield 12, 3) := by decide +kernel
theorem dX5_aboveFault_4 : decode cX5_aboveFault 4 = .ok (.getfield 94, 3) := by decide +kernel
theorem dX5_aboveFault_7 : decode cX5_aboveFault 7 = .ok (.iload_n 1, 1) := by decide +kernel
theorem dX5_aboveFault_8 : decode cX5_aboveFault 8 = .ok (.caload, 1) := by decide +kernel
theorem dX5_aboveFault_9 : decode cX5_aboveFault 9 = .ok (.bipush 45, 2) := by decide +kernel
theorem dX5_aboveFault_11 : decode cX5_aboveFault 11 = .ok (.if_icmp .ne 6, 3) := by decide +kernel
theorem dX5_aboveFault_14 : decode cX5_aboveFault 14 = .ok (.bipush 67, 2) := by decide +kernel
theorem dX5_aboveFault_16 : decode cX5_aboveFault 16 = .ok (.ireturn, 1) := by decide +kernel
theorem dX5_aboveFault_17 : decode cX5_aboveFault 17 = .ok (.iload_n 2, 1) := by decide +kernel
theorem dX5_aboveFault_18 : decode cX5_aboveFault 18 = .ok (.ifCond .eq 25, 3) := by decide +kernel
theorem dX5_aboveFault_21 : decode cX5_aboveFault 21 = .ok (.aload_n 0, 1) := by decide +kernel
theorem dX5_aboveFault_22 : decode cX5_aboveFault 22 = .ok (.getfield 12, 3) := by decide +kernel
theorem dX5_aboveFault_25 : decode cX5_aboveFault 25 = .ok (.getfield 94, 3) := by decide +kernel
theorem dX5_aboveFault_28 : decode cX5_aboveFault 28 = .ok (.iload_n 1, 1) := by decide +kernel
theorem dX5_aboveFault_29 : decode cX5_aboveFault 29 = .ok (.caload, 1) := by decide +kernel
theorem dX5_aboveFault_30 : decode cX5_aboveFault 30 = .ok (.bipush 99, 2) := by decide +kernel
theorem dX5_aboveFault_32 : decode cX5_aboveFault 32 = .ok (.if_icmp .ne 7, 3) := by decide +kernel
theorem dX5_aboveFault_35 : decode cX5_aboveFault 35 = .ok (.iconst 1, 1) := by decide +kernel
theorem dX5_aboveFault_36 : decode cX5_aboveFault 36 = .ok (.goto 38, 3) := by decide +kernel
theorem dX5_aboveFault_39 : decode cX5_aboveFault 39 = .ok (.iconst 0, 1) := by decide +kernel
theorem dX5_aboveFault_40 : decode cX5_aboveFault 40 = .ok (.goto 34, 3) := by decide +kernel
theorem dX5_aboveFault_43 : decode cX5_aboveFault 43 = .ok (.aload_n 0, 1) := by decide +kernel
theorem dX5_aboveFault_44 : decode cX5_aboveFault 44 = .ok (.getfield 12, 3) := by decide +kernel
theorem dX5_aboveFault_47 : decode cX5_aboveFault 47 = .ok (.getfield 94, 3) := by decide +kernel
theorem dX5_aboveFault_50 : decode cX5_aboveFault 50 = .ok (.iload_n 1, 1) := by decide +kernel
theorem dX5_aboveFault_51 : decode cX5_aboveFault 51 = .ok (.caload, 1) := by decide +kernel
theorem dX5_aboveFault_52 : decode cX5_aboveFault 52 = .ok (.bipush 105, 2) := by decide +kernel
theorem dX5_aboveFault_54 : decode cX5_aboveFault 54 = .ok (.if_icmp .eq 15, 3) := by decide +kernel
theorem dX5_aboveFault_57 : decode cX5_aboveFault 57 = .ok (.aload_n 0, 1) := by decide +kernel
theorem dX5_aboveFault_58 : decode cX5_aboveFault 58 = .ok (.getfield 12, 3) := by decide +kernel
theorem dX5_aboveFault_61 : decode cX5_aboveFault 61 = .ok (.getfield 98, 3) := by decide +kernel
theorem dX5_aboveFault_64 : decode cX5_aboveFault 64 = .ok (.iload_n 1, 1) := by decide +kernel
theorem dX5_aboveFault_65 : decode cX5_aboveFault 65 = .ok (.baload, 1) := by decide +kernel
theorem dX5_aboveFault_66 : decode cX5_aboveFault 66 = .ok (.ifCond .eq 7, 3) := by decide +kernel
theorem dX5_aboveFault_69 : decode cX5_aboveFault 69 = .ok (.iconst 1, 1) := by decide +kernel
theorem dX5_aboveFault_70 : decode cX5_aboveFault 70 = .ok (.goto 4, 3) := by decide +kernel
theorem dX5_aboveFault_73 : decode cX5_aboveFault 73 = .ok (.iconst 0, 1) := by decide +kernel
theorem dX5_aboveFault_74 : decode cX5_aboveFault 74 = .ok (.istore_n 3, 1) := by decide +kernel
theorem dX5_aboveFault_75 : decode cX5_aboveFault 75 = .ok (.iload_n 3, 1) := by decide +kernel
theorem dX5_aboveFault_76 : decode cX5_aboveFault 76 = .ok (.ifCond .eq 6, 3) := by decide +kernel
theorem dX5_aboveFault_79 : decode cX5_aboveFault 79 = .ok (.bipush 73, 2) := by decide +kernel
theorem dX5_aboveFault_81 : decode cX5_aboveFault 81 = .ok (.ireturn, 1) := by decide +kernel
theorem dX5_aboveFault_82 : decode cX5_aboveFault 82 = .ok (.aload_n 0, 1) := by decide +kernel
theorem dX5_aboveFault_83 : decode cX5_aboveFault 83 = .ok (.getfield 12, 3) := by decide +kernel
theorem dX5_aboveFault_86 : decode cX5_aboveFault 86 = .ok (.getfield 102, 3) := by decide +kernel
theorem dX5_aboveFault_89 : decode cX5_aboveFault 89 = .ok (.iload_n 1, 1) := by decide +kernel
theorem dX5_aboveFault_90 : decode cX5_aboveFault 90 = .ok (.baload, 1) := by decide +kernel
theorem dX5_aboveFault_91 : decode cX5_aboveFault 91 = .ok (.ifCond .eq 8, 3) := by decide +kernel
theorem dX5_aboveFault_94 : decode cX5_aboveFault 94 = .ok (.bipush 45, 2) := by decide +kernel
theorem dX5_aboveFault_96 : decode cX5_aboveFault 96 = .ok (.goto 5, 3) := by decide +kernel
theorem dX5_aboveFault_99 : decode cX5_aboveFault 99 = .ok (.bipush 76, 2) := by decide +kernel
theorem dX5_aboveFault_101 : decode cX5_aboveFault 101 = .ok (.ireturn, 1) := by decide +kernel
theorem dX5_isBarred_0 : decode cX5_isBarred 0 = .ok (.iload_n 1, 1) := by decide +kernel
theorem dX5_isBarred_1 : decode cX5_isBarred 1 = .ok (.istore_n 3, 1) := by decide +kernel
theorem dX5_isBarred_2 : decode cX5_isBarred 2 = .ok (.iconst 0, 1) := by decide +kernel
theorem dX5_isBarred_3 : decode cX5_isBarred 3 = .ok (.istore 4, 2) := by decide +kernel
theorem dX5_isBarred_5 : decode cX5_isBarred 5 = .ok (.iload 4, 2) := by decide +kernel
theorem dX5_isBarred_7 : decode cX5_isBarred 7 = .ok (.iconst 5, 1) := by decide +kernel
theorem dX5_isBarred_8 : decode cX5_isBarred 8 = .ok (.if_icmp .ge 92, 3) := by decide +kernel
theorem dX5_isBarred_11 : decode cX5_isBarred 11 = .ok (.iload_n 3, 1) := by decide +kernel
theorem dX5_isBarred_12 : decode cX5_isBarred 12 = .ok (.iconst (-1), 1) := by decide +kernel
theorem dX5_isBarred_13 : decode cX5_isBarred 13 = .ok (.if_icmp .eq 87, 3) := by decide +kernel
theorem dX5_isBarred_16 : decode cX5_isBarred 16 = .ok (.aload_n 0, 1) := by decide +kernel
theorem dX5_isBarred_17 : decode cX5_isBarred 17 = .ok (.getfield 12, 3) := by decide +kernel
theorem dX5_isBarred_20 : decode cX5_isBarred 20 = .ok (.getfield 105, 3) := by decide +kernel
theorem dX5_isBarred_23 : decode cX5_isBarred 23 = .ok (.getfield 109, 3) := by decide +kernel
theorem dX5_isBarred_26 : decode cX5_isBarred 26 = .ok (.iload_n 3, 1) := by decide +kernel
theorem dX5_isBarred_27 : decode cX5_isBarred 27 = .ok (.bipush 6, 2) := by decide +kernel
theorem dX5_isBarred_29 : decode cX5_isBarred 29 = .ok (.imul, 1) := by decide +kernel
theorem dX5_isBarred_30 : decode cX5_isBarred 30 = .ok (.iload_n 2, 1) := by decide +kernel
theorem dX5_isBarred_31 : decode cX5_isBarred 31 = .ok (.iadd, 1) := by decide +kernel
theorem dX5_isBarred_32 : decode cX5_isBarred 32 = .ok (.caload, 1) := by decide +kernel
theorem dX5_isBarred_33 : decode cX5_isBarred 33 = .ok (.istore 5, 2) := by decide +kernel
theorem dX5_isBarred_35 : decode cX5_isBarred 35 = .ok (.aload_n 0, 1) := by decide +kernel
theorem dX5_isBarred_36 : decode cX5_isBarred 36 = .ok (.getfield 12, 3) := by decide +kernel
theorem dX5_isBarred_39 : decode cX5_isBarred 39 = .ok (.getfield 105, 3) := by decide +kernel
theorem dX5_isBarred_42 : decode cX5_isBarred 42 = .ok (.getfield 114, 3) := by decide +kernel
theorem dX5_isBarred_45 : decode cX5_isBarred 45 = .ok (.iload_n 3, 1) := by decide +kernel
theorem dX5_isBarred_46 : decode cX5_isBarred 46 = .ok (.bipush 6, 2) := by decide +kernel
theorem dX5_isBarred_48 : decode cX5_isBarred 48 = .ok (.imul, 1) := by decide +kernel
theorem dX5_isBarred_49 : decode cX5_isBarred 49 = .ok (.iload_n 2, 1) := by decide +kernel
theorem dX5_isBarred_50 : decode cX5_isBarred 50 = .ok (.iadd, 1) := by decide +kernel
theorem dX5_isBarred_51 : decode cX5_isBarred 51 = .ok (.caload, 1) := by decide +kernel
theorem dX5_isBarred_52 : decode cX5_isBarred 52 = .ok (.istore 6, 2) := by decide +kernel
theorem dX5_isBarred_54 : decode cX5_isBarred 54 = .ok (.iload 5, 2) := by decide +kernel
theorem dX5_isBarred_56 : decode cX5_isBarred 56 = .ok (.bipush 112, 2) := by decide +kernel
theorem dX5_isBarred_58 : decode cX5_isBarred 58 = .ok (.if_icmp .eq 10, 3) := by decide +kernel
theorem dX5_isBarred_61 : decode cX5_isBarred 61 = .ok (.iload 5, 2) := by decide +kernel
theorem dX5_isBarred_63 : decode cX5_isBarred 63 = .ok (.bipush 111, 2) := by decide +kernel
theorem dX5_isBarred_65 : decode cX5_isBarred 65 = .ok (.if_icmp .ne 19, 3) := by decide +kernel
theorem dX5_isBarred_68 : decode cX5_isBarred 68 = .ok (.iload 6, 2) := by decide +kernel
theorem dX5_isBarred_70 : decode cX5_isBarred 70 = .ok (.bipush 102, 2) := by decide +kernel
theorem dX5_isBarred_72 : decode cX5_isBarred 72 = .ok (.if_icmp .eq 10, 3) := by decide +kernel
theorem dX5_isBarred_75 : decode cX5_isBarred 75 = .ok (.iload 6, 2) := by decide +kernel
theorem dX5_isBarred_77 : decode cX5_isBarred 77 = .ok (.bipush 115, 2) := by decide +kernel
theorem dX5_isBarred_79 : decode cX5_isBarred 79 = .ok (.if_icmp .ne 5, 3) := by decide +kernel
theorem dX5_isBarred_82 : decode cX5_isBarred 82 = .ok (.iconst 1, 1) := by decide +kernel
theorem dX5_isBarred_83 : decode cX5_isBarred 83 = .ok (.ireturn, 1) := by decide +kernel
theorem dX5_isBarred_84 : decode cX5_isBarred 84 = .ok (.aload_n 0, 1) := by decide +kernel
theorem dX5_isBarred_85 : decode cX5_isBarred 85 = .ok (.getfield 12, 3) := by decide +kernel
theorem dX5_isBarred_88 : decode cX5_isBarred 88 = .ok (.getfield 115, 3) := by decide +kernel
theorem dX5_isBarred_91 : decode cX5_isBarred 91 = .ok (.iload_n 3, 1) := by decide +kernel
theorem dX5_isBarred_92 : decode cX5_isBarred 92 = .ok (.iaload, 1) := by decide +kernel
theorem dX5_isBarred_93 : decode cX5_isBarred 93 = .ok (.istore_n 3, 1) := by decide +kernel
theorem dX5_isBarred_94 : decode cX5_isBarred 94 = .ok (.iinc 4 1, 3) := by decide +kernel
theorem dX5_isBarred_97 : decode cX5_isBarred 97 = .ok (.goto (-92), 3) := by decide +kernel
theorem dX5_isBarred_100 : decode cX5_isBarred 100 = .ok (.iconst 0, 1) := by decide +kernel
theorem dX5_isBarred_101 : decode cX5_isBarred 101 = .ok (.ireturn, 1) := by decide +kernel
theorem dX5_perform_0 : decode cX5_perform 0 = .ok (.iload_n 1, 1) := by decide +kernel
theorem dX5_perform_1 : decode cX5_perform 1 = .ok (.iconst 4, 1) := by decide +kernel
theorem dX5_perform_2 : decode cX5_perform 2 = .ok (.if_icmp .ne 7, 3) := by decide +kernel
theorem dX5_perform_5 : decode cX5_perform 5 = .ok (.iconst 5, 1) := by decide +kernel
theorem dX5_perform_6 : decode cX5_perform 6 = .ok (.goto 5, 3) := by decide +kernel
theorem dX5_perform_9 : decode cX5_perform 9 = .ok (.iload 4, 2) := by decide +kernel
theorem dX5_perform_11 : decode cX5_perform 11 = .ok (.istore 5, 2) := by decide +kernel
theorem dX5_perform_13 : decode cX5_perform 13 = .ok (.iload_n 1, 1) := by decide +kernel
theorem dX5_perform_14 : decode cX5_perform 14 = .ok (.iconst 4, 1) := by decide +kernel
theorem dX5_perform_15 : decode cX5_perform 15 = .ok (.if_icmp .ne 10, 3) := by decide +kernel
theorem dX5_perform_18 : decode cX5_perform 18 = .ok (.aload_n 0, 1) := by decide +kernel
theorem dX5_perform_19 : decode cX5_perform 19 = .ok (.getfield 36, 3) := by decide +kernel
theorem dX5_perform_22 : decode cX5_perform 22 = .ok (.goto 4, 3) := by decide +kernel
theorem dX5_perform_25 : decode cX5_perform 25 = .ok (.iload_n 2, 1) := by decide +kernel
theorem dX5_perform_26 : decode cX5_perform 26 = .ok (.istore 6, 2) := by decide +kernel
theorem dX5_perform_28 : decode cX5_perform 28 = .ok (.iload 5, 2) := by decide +kernel
theorem dX5_perform_30 : decode cX5_perform 30 = .ok (.iconst (-1), 1) := by decide +kernel
theorem dX5_perform_31 : decode cX5_perform 31 = .ok (.if_icmp .ne 8, 3) := by decide +kernel
theorem dX5_perform_34 : decode cX5_perform 34 = .ok (.bipush 45, 2) := by decide +kernel
theorem dX5_perform_36 : decode cX5_perform 36 = .ok (.goto 9, 3) := by decide +kernel
theorem dX5_perform_39 : decode cX5_perform 39 = .ok (.aload_n 0, 1) := by decide +kernel
theorem dX5_perform_40 : decode cX5_perform 40 = .ok (.iload 5, 2) := by decide +kernel
theorem dX5_perform_42 : decode cX5_perform 42 = .ok (.invokevirtual 118, 3) := by decide +kernel
theorem dX5_perform_45 : decode cX5_perform 45 = .ok (.istore 7, 2) := by decide +kernel
theorem dX5_perform_47 : decode cX5_perform 47 = .ok (.iload 7, 2) := by decide +kernel
theorem dX5_perform_49 : decode cX5_perform 49 = .ok (.bipush 45, 2) := by decide +kernel
theorem dX5_perform_51 : decode cX5_perform 51 = .ok (.if_icmp .eq 7, 3) := by decide +kernel
theorem dX5_perform_54 : decode cX5_perform 54 = .ok (.iload 7, 2) := by decide +kernel
theorem dX5_perform_56 : decode cX5_perform 56 = .ok (.ineg, 1) := by decide +kernel
theorem dX5_perform_57 : decode cX5_perform 57 = .ok (.ireturn, 1) := by decide +kernel
theorem dX5_perform_58 : decode cX5_perform 58 = .ok (.iload_n 1, 1) := by decide +kernel
theorem dX5_perform_59 : decode cX5_perform 59 = .ok (.ifCond .ne 5, 3) := by decide +kernel
theorem dX5_perform_62 : decode cX5_perform 62 = .ok (.iconst 0, 1) := by decide +kernel
theorem dX5_perform_63 : decode cX5_perform 63 = .ok (.ireturn, 1) := by decide +kernel
theorem dX5_perform_64 : decode cX5_perform 64 = .ok (.aload_n 0, 1) := by decide +kernel
theorem dX5_perform_65 : decode cX5_perform 65 = .ok (.iload_n 1, 1) := by decide +kernel
theorem dX5_perform_66 : decode cX5_perform 66 = .ok (.iload 6, 2) := by decide +kernel
theorem dX5_perform_68 : decode cX5_perform 68 = .ok (.invokevirtual 122, 3) := by decide +kernel
theorem dX5_perform_71 : decode cX5_perform 71 = .ok (.istore 7, 2) := by decide +kernel
theorem dX5_perform_73 : decode cX5_perform 73 = .ok (.iload 7, 2) := by decide +kernel
theorem dX5_perform_75 : decode cX5_perform 75 = .ok (.bipush 45, 2) := by decide +kernel
theorem dX5_perform_77 : decode cX5_perform 77 = .ok (.if_icmp .eq 7, 3) := by decide +kernel
theorem dX5_perform_80 : decode cX5_perform 80 = .ok (.iload 7, 2) := by decide +kernel
theorem dX5_perform_82 : decode cX5_perform 82 = .ok (.ineg, 1) := by decide +kernel
theorem dX5_perform_83 : decode cX5_perform 83 = .ok (.ireturn, 1) := by decide +kernel
theorem dX5_perform_84 : decode cX5_perform 84 = .ok (.iload_n 1, 1) := by decide +kernel
theorem dX5_perform_85 : decode cX5_perform 85 = .ok (.invokestatic 126, 3) := by decide +kernel
theorem dX5_perform_88 : decode cX5_perform 88 = .ok (.istore 8, 2) := by decide +kernel
theorem dX5_perform_90 : decode cX5_perform 90 = .ok (.iload 8, 2) := by decide +kernel
theorem dX5_perform_92 : decode cX5_perform 92 = .ok (.ifCond .eq 21, 3) := by decide +kernel
theorem dX5_perform_95 : decode cX5_perform 95 = .ok (.aload_n 0, 1) := by decide +kernel
theorem dX5_perform_96 : decode cX5_perform 96 = .ok (.getfield 21, 3) := by decide +kernel
theorem dX5_perform_99 : decode cX5_perform 99 = .ok (.getfield 130, 3) := by decide +kernel
theorem dX5_perform_102 : decode cX5_perform 102 = .ok (.iload 6, 2) := by decide +kernel
theorem dX5_perform_104 : decode cX5_perform 104 = .ok (.bipush 6, 2) := by decide +kernel
theorem dX5_perform_106 : decode cX5_perform 106 = .ok (.imul, 1) := by decide +kernel
theorem dX5_perform_107 : decode cX5_perform 107 = .ok (.iload_n 3, 1) := by decide +kernel
theorem dX5_perform_108 : decode cX5_perform 108 = .ok (.iadd, 1) := by decide +kernel
theorem dX5_perform_109 : decode cX5_perform 109 = .ok (.iaload, 1) := by decide +kernel
theorem dX5_perform_110 : decode cX5_perform 110 = .ok (.goto 18, 3) := by decide +kernel
theorem dX5_perform_113 : decode cX5_perform 113 = .ok (.aload_n 0, 1) := by decide +kernel
theorem dX5_perform_114 : decode cX5_perform 114 = .ok (.getfield 21, 3) := by decide +kernel
theorem dX5_perform_117 : decode cX5_perform 117 = .ok (.getfield 133, 3) := by decide +kernel
theorem dX5_perform_120 : decode cX5_perform 120 = .ok (.iload 6, 2) := by decide +kernel
theorem dX5_perform_122 : decode cX5_perform 122 = .ok (.bipush 6, 2) := by decide +kernel
theorem dX5_perform_124 : decode cX5_perform 124 = .ok (.imul, 1) := by decide +kernel
theorem dX5_perform_125 : decode cX5_perform 125 = .ok (.iload_n 3, 1) := by decide +kernel
theorem dX5_perform_126 : decode cX5_perform 126 = .ok (.iadd, 1) := by decide +kernel
theorem dX5_perform_127 : decode cX5_perform 127 = .ok (.iaload, 1) := by decide +kernel
theorem dX5_perform_128 : decode cX5_perform 128 = .ok (.istore 9, 2) := by decide +kernel
theorem dX5_perform_130 : decode cX5_perform 130 = .ok (.iload 9, 2) := by decide +kernel
theorem dX5_perform_132 : decode cX5_perform 132 = .ok (.iconst (-1), 1) := by decide +kernel
theorem dX5_perform_133 : decode cX5_perform 133 = .ok (.if_icmp .eq 24, 3) := by decide +kernel
theorem dX5_perform_136 : decode cX5_perform 136 = .ok (.iload_n 1, 1) := by decide +kernel
theorem dX5_perform_137 : decode cX5_perform 137 = .ok (.iconst 1, 1) := by decide +kernel
theorem dX5_perform_138 : decode cX5_perform 138 = .ok (.if_icmp .ne 32, 3) := by decide +kernel
theorem dX5_perform_141 : decode cX5_perform 141 = .ok (.iload 9, 2) := by decide +kernel
theorem dX5_perform_143 : decode cX5_perform 143 = .ok (.iload 6, 2) := by decide +kernel
theorem dX5_perform_145 : decode cX5_perform 145 = .ok (.if_icmp .eq 25, 3) := by decide +kernel
theorem dX5_perform_148 : decode cX5_perform 148 = .ok (.aload_n 0, 1) := by decide +kernel
theorem dX5_perform_149 : decode cX5_perform 149 = .ok (.iload 9, 2) := by decide +kernel
theorem dX5_perform_151 : decode cX5_perform 151 = .ok (.invokevirtual 136, 3) := by decide +kernel
theorem dX5_perform_154 : decode cX5_perform 154 = .ok (.ifCond .ne 16, 3) := by decide +kernel
theorem dX5_perform_157 : decode cX5_perform 157 = .ok (.iload 8, 2) := by decide +kernel
theorem dX5_perform_159 : decode cX5_perform 159 = .ok (.ifCond .eq 8, 3) := by decide +kernel
theorem dX5_perform_162 : decode cX5_perform 162 = .ok (.bipush (-77), 2) := by decide +kernel
theorem dX5_perform_164 : decode cX5_perform 164 = .ok (.goto 5, 3) := by decide +kernel
theorem dX5_perform_167 : decode cX5_perform 167 = .ok (.bipush (-70), 2) := by decide +kernel
theorem dX5_perform_169 : decode cX5_perform 169 = .ok (.ireturn, 1) := by decide +kernel
theorem dX5_perform_170 : decode cX5_perform 170 = .ok (.iload 8, 2) := by decide +kernel
theorem dX5_perform_172 : decode cX5_perform 172 = .ok (.ifCond .eq 13, 3) := by decide +kernel
theorem dX5_perform_175 : decode cX5_perform 175 = .ok (.aload_n 0, 1) := by decide +kernel
theorem dX5_perform_176 : decode cX5_perform 176 = .ok (.getfield 12, 3) := by decide +kernel
theorem dX5_perform_179 : decode cX5_perform 179 = .ok (.getfield 105, 3) := by decide +kernel
theorem dX5_perform_182 : decode cX5_perform 182 = .ok (.goto 10, 3) := by decide +kernel
theorem dX5_perform_185 : decode cX5_perform 185 = .ok (.aload_n 0, 1) := by decide +kernel
theorem dX5_perform_186 : decode cX5_perform 186 = .ok (.getfield 12, 3) := by decide +kernel
theorem dX5_perform_189 : decode cX5_perform 189 = .ok (.getfield 139, 3) := by decide +kernel
theorem dX5_perform_192 : decode cX5_perform 192 = .ok (.astore 10, 2) := by decide +kernel
theorem dX5_perform_194 : decode cX5_perform 194 = .ok (.iload 9, 2) := by decide +kernel
theorem dX5_perform_196 : decode cX5_perform 196 = .ok (.iconst 5, 1) := by decide +kernel
theorem dX5_perform_197 : decode cX5_perform 197 = .ok (.if_icmp .ne 11, 3) := by decide +kernel
theorem dX5_perform_200 : decode cX5_perform 200 = .ok (.aload_n 0, 1) := by decide +kernel
theorem dX5_perform_201 : decode cX5_perform 201 = .ok (.iload_n 1, 1) := by decide +kernel
theorem dX5_perform_202 : decode cX5_perform 202 = .ok (.invokevirtual 142, 3) := by decide +kernel
theorem dX5_perform_205 : decode cX5_perform 205 = .ok (.goto 15, 3) := by decide +kernel
theorem dX5_perform_208 : decode cX5_perform 208 = .ok (.aload_n 0, 1) := by decide +kernel
theorem dX5_perform_209 : decode cX5_perform 209 = .ok (.iload_n 1, 1) := by decide +kernel
theorem dX5_perform_210 : decode cX5_perform 210 = .ok (.aload 10, 2) := by decide +kernel
theorem dX5_perform_212 : decode cX5_perform 212 = .ok (.iload 9, 2) := by decide +kernel
theorem dX5_perform_214 : decode cX5_perform 214 = .ok (.iload_n 3, 1) := by decide +kernel
theorem dX5_perform_215 : decode cX5_perform 215 = .ok (.iload 5, 2) := by decide +kernel
theorem dX5_perform_217 : decode cX5_perform 217 = .ok (.invokevirtual 145, 3) := by decide +kernel
theorem dX5_perform_220 : decode cX5_perform 220 = .ok (.istore 7, 2) := by decide +kernel
theorem dX5_perform_222 : decode cX5_perform 222 = .ok (.iload 7, 2) := by decide +kernel
theorem dX5_perform_224 : decode cX5_perform 224 = .ok (.bipush 45, 2) := by decide +kernel
theorem dX5_perform_226 : decode cX5_perform 226 = .ok (.if_icmp .eq 7, 3) := by decide +kernel
theorem dX5_perform_229 : decode cX5_perform 229 = .ok (.iload 7, 2) := by decide +kernel
theorem dX5_perform_231 : decode cX5_perform 231 = .ok (.ineg, 1) := by decide +kernel
theorem dX5_perform_232 : decode cX5_perform 232 = .ok (.ireturn, 1) := by decide +kernel
theorem dX5_perform_233 : decode cX5_perform 233 = .ok (.iload 5, 2) := by decide +kernel
theorem dX5_perform_235 : decode cX5_perform 235 = .ok (.iconst (-1), 1) := by decide +kernel
theorem dX5_perform_236 : decode cX5_perform 236 = .ok (.if_icmp .eq 41, 3) := by decide +kernel
theorem dX5_perform_239 : decode cX5_perform 239 = .ok (.iload 5, 2) := by decide +kernel
theorem dX5_perform_241 : decode cX5_perform 241 = .ok (.iload 6, 2) := by decide +kernel
theorem dX5_perform_243 : decode cX5_perform 243 = .ok (.if_icmp .eq 34, 3) := by decide +kernel
theorem dX5_perform_246 : decode cX5_perform 246 = .ok (.aload_n 0, 1) := by decide +kernel
theorem dX5_perform_247 : decode cX5_perform 247 = .ok (.getfield 21, 3) := by decide +kernel
theorem dX5_perform_250 : decode cX5_perform 250 = .ok (.getfield 149, 3) := by decide +kernel
theorem dX5_perform_253 : decode cX5_perform 253 = .ok (.iload 5, 2) := by decide +kernel
theorem dX5_perform_255 : decode cX5_perform 255 = .ok (.iaload, 1) := by decide +kernel
theorem dX5_perform_256 : decode cX5_perform 256 = .ok (.iload 6, 2) := by decide +kernel
theorem dX5_perform_258 : decode cX5_perform 258 = .ok (.invokestatic 70, 3) := by decide +kernel
theorem dX5_perform_261 : decode cX5_perform 261 = .ok (.ifCond .ne 16, 3) := by decide +kernel
theorem dX5_perform_264 : decode cX5_perform 264 = .ok (.iload_n 1, 1) := by decide +kernel
theorem dX5_perform_265 : decode cX5_perform 265 = .ok (.iconst 3, 1) := by decide +kernel
theorem dX5_perform_266 : decode cX5_perform 266 = .ok (.if_icmp .ne 8, 3) := by decide +kernel
theorem dX5_perform_269 : decode cX5_perform 269 = .ok (.bipush (-73), 2) := by decide +kernel
theorem dX5_perform_271 : decode cX5_perform 271 = .ok (.goto 5, 3) := by decide +kernel
theorem dX5_perform_274 : decode cX5_perform 274 = .ok (.bipush (-86), 2) := by decide +kernel
theorem dX5_perform_276 : decode cX5_perform 276 = .ok (.ireturn, 1) := by decide +kernel
theorem dX5_perform_277 : decode cX5_perform 277 = .ok (.iload 8, 2) := by decide +kernel
theorem dX5_perform_279 : decode cX5_perform 279 = .ok (.ifCond .eq 27, 3) := by decide +kernel
theorem dX5_perform_282 : decode cX5_perform 282 = .ok (.iload_n 1, 1) := by decide +kernel
theorem dX5_perform_283 : decode cX5_perform 283 = .ok (.iconst 1, 1) := by decide +kernel
theorem dX5_perform_284 : decode cX5_perform 284 = .ok (.if_icmp .eq 22, 3) := by decide +kernel
theorem dX5_perform_287 : decode cX5_perform 287 = .ok (.aload_n 0, 1) := by decide +kernel
theorem dX5_perform_288 : decode cX5_perform 288 = .ok (.iload_n 1, 1) := by decide +kernel
theorem dX5_perform_289 : decode cX5_perform 289 = .ok (.iload_n 1, 1) := by decide +kernel
theorem dX5_perform_290 : decode cX5_perform 290 = .ok (.iconst 4, 1) := by decide +kernel
theorem dX5_perform_291 : decode cX5_perform 291 = .ok (.if_icmp .ne 8, 3) := by decide +kernel
theorem dX5_perform_294 : decode cX5_perform 294 = .ok (.iload 6, 2) := by decide +kernel
theorem dX5_perform_296 : decode cX5_perform 296 = .ok (.goto 5, 3) := by decide +kernel
theorem dX5_perform_299 : decode cX5_perform 299 = .ok (.iload 5, 2) := by decide +kernel
theorem dX5_perform_301 : decode cX5_perform 301 = .ok (.iload_n 3, 1) := by decide +kernel
theorem dX5_perform_302 : decode cX5_perform 302 = .ok (.invokevirtual 152, 3) := by decide +kernel
theorem dX5_perform_305 : decode cX5_perform 305 = .ok (.ireturn, 1) := by decide +kernel
theorem dX5_perform_306 : decode cX5_perform 306 = .ok (.iload_n 1, 1) := by decide +kernel
theorem dX5_perform_307 : decode cX5_perform 307 = .ok (.bipush 8, 2) := by decide +kernel
theorem dX5_perform_309 : decode cX5_perform 309 = .ok (.if_icmp .eq 9, 3) := by decide +kernel
theorem dX5_perform_312 : decode cX5_perform 312 = .ok (.iload_n 1, 1) := by decide +kernel
theorem dX5_perform_313 : decode cX5_perform 313 = .ok (.bipush 6, 2) := by decide +kernel
theorem dX5_perform_315 : decode cX5_perform 315 = .ok (.if_icmp .ne 7, 3) := by decide +kernel
theorem dX5_perform_318 : decode cX5_perform 318 = .ok (.iconst 0, 1) := by decide +kernel
theorem dX5_perform_319 : decode cX5_perform 319 = .ok (.goto 16, 3) := by decide +kernel
theorem dX5_perform_322 : decode cX5_perform 322 = .ok (.aload 10, 2) := by decide +kernel
theorem dX5_perform_324 : decode cX5_perform 324 = .ok (.getfield 156, 3) := by decide +kernel
theorem dX5_perform_327 : decode cX5_perform 327 = .ok (.iload 9, 2) := by decide +kernel
theorem dX5_perform_329 : decode cX5_perform 329 = .ok (.bipush 6, 2) := by decide +kernel
theorem dX5_perform_331 : decode cX5_perform 331 = .ok (.imul, 1) := by decide +kernel
theorem dX5_perform_332 : decode cX5_perform 332 = .ok (.iload_n 3, 1) := by decide +kernel
theorem dX5_perform_333 : decode cX5_perform 333 = .ok (.iadd, 1) := by decide +kernel
theorem dX5_perform_334 : decode cX5_perform 334 = .ok (.iaload, 1) := by decide +kernel
theorem dX5_perform_335 : decode cX5_perform 335 = .ok (.ireturn, 1) := by decide +kernel
theorem dX5_isClass_0 : decode cX5_isClass 0 = .ok (.iload_n 1, 1) := by decide +kernel
theorem dX5_isClass_1 : decode cX5_isClass 1 = .ok (.iconst 5, 1) := by decide +kernel
theorem dX5_isClass_2 : decode cX5_isClass 2 = .ok (.if_icmp .eq 17, 3) := by decide +kernel
theorem dX5_isClass_5 : decode cX5_isClass 5 = .ok (.aload_n 0, 1) := by decide +kernel
theorem dX5_isClass_6 : decode cX5_isClass 6 = .ok (.getfield 12, 3) := by decide +kernel
theorem dX5_isClass_9 : decode cX5_isClass 9 = .ok (.getfield 94, 3) := by decide +kernel
theorem dX5_isClass_12 : decode cX5_isClass 12 = .ok (.iload_n 1, 1) := by decide +kernel
theorem dX5_isClass_13 : decode cX5_isClass 13 = .ok (.caload, 1) := by decide +kernel
theorem dX5_isClass_14 : decode cX5_isClass 14 = .ok (.bipush 99, 2) := by decide +kernel
theorem dX5_isClass_16 : decode cX5_isClass 16 = .ok (.if_icmp .ne 7, 3) := by decide +kernel
theorem dX5_isClass_19 : decode cX5_isClass 19 = .ok (.iconst 1, 1) := by decide +kernel
theorem dX5_isClass_20 : decode cX5_isClass 20 = .ok (.goto 4, 3) := by decide +kernel
theorem dX5_isClass_23 : decode cX5_isClass 23 = .ok (.iconst 0, 1) := by decide +kernel
theorem dX5_isClass_24 : decode cX5_isClass 24 = .ok (.ireturn, 1) := by decide +kernel
theorem dX5_makingFault_0 : decode cX5_makingFault 0 = .ok (.iload_n 1, 1) := by decide +kernel
theorem dX5_makingFault_1 : decode cX5_makingFault 1 = .ok (.iconst 5, 1) := by decide +kernel
theorem dX5_makingFault_2 : decode cX5_makingFault 2 = .ok (.if_icmp .ne 49, 3) := by decide +kernel
theorem dX5_makingFault_5 : decode cX5_makingFault 5 = .ok (.aload_n 0, 1) := by decide +kernel
theorem dX5_makingFault_6 : decode cX5_makingFault 6 = .ok (.getfield 36, 3) := by decide +kernel
theorem dX5_makingFault_9 : decode cX5_makingFault 9 = .ok (.iconst (-1), 1) := by decide +kernel
theorem dX5_makingFault_10 : decode cX5_makingFault 10 = .ok (.if_icmp .ne 8, 3) := by decide +kernel
theorem dX5_makingFault_13 : decode cX5_makingFault 13 = .ok (.bipush 112, 2) := by decide +kernel
theorem dX5_makingFault_15 : decode cX5_makingFault 15 = .ok (.goto 15, 3) := by decide +kernel
theorem dX5_makingFault_18 : decode cX5_makingFault 18 = .ok (.aload_n 0, 1) := by decide +kernel
theorem dX5_makingFault_19 : decode cX5_makingFault 19 = .ok (.getfield 12, 3) := by decide +kernel
theorem dX5_makingFault_22 : decode cX5_makingFault 22 = .ok (.getfield 159, 3) := by decide +kernel
theorem dX5_makingFault_25 : decode cX5_makingFault 25 = .ok (.aload_n 0, 1) := by decide +kernel
theorem dX5_makingFault_26 : decode cX5_makingFault 26 = .ok (.getfield 36, 3) := by decide +kernel
theorem dX5_makingFault_29 : decode cX5_makingFault 29 = .ok (.caload, 1) := by decide +kernel
theorem dX5_makingFault_30 : decode cX5_makingFault 30 = .ok (.istore_n 2, 1) := by decide +kernel
theorem dX5_makingFault_31 : decode cX5_makingFault 31 = .ok (.iload_n 2, 1) := by decide +kernel
theorem dX5_makingFault_32 : decode cX5_makingFault 32 = .ok (.bipush 112, 2) := by decide +kernel
theorem dX5_makingFault_34 : decode cX5_makingFault 34 = .ok (.if_icmp .eq 9, 3) := by decide +kernel
theorem dX5_makingFault_37 : decode cX5_makingFault 37 = .ok (.iload_n 2, 1) := by decide +kernel
theorem dX5_makingFault_38 : decode cX5_makingFault 38 = .ok (.bipush 111, 2) := by decide +kernel
theorem dX5_makingFault_40 : decode cX5_makingFault 40 = .ok (.if_icmp .ne 8, 3) := by decide +kernel
theorem dX5_makingFault_43 : decode cX5_makingFault 43 = .ok (.bipush 45, 2) := by decide +kernel
theorem dX5_makingFault_45 : decode cX5_makingFault 45 = .ok (.goto 5, 3) := by decide +kernel
theorem dX5_makingFault_48 : decode cX5_makingFault 48 = .ok (.bipush 76, 2) := by decide +kernel
theorem dX5_makingFault_50 : decode cX5_makingFault 50 = .ok (.ireturn, 1) := by decide +kernel
theorem dX5_makingFault_51 : decode cX5_makingFault 51 = .ok (.aload_n 0, 1) := by decide +kernel
theorem dX5_makingFault_52 : decode cX5_makingFault 52 = .ok (.getfield 12, 3) := by decide +kernel
theorem dX5_makingFault_55 : decode cX5_makingFault 55 = .ok (.getfield 94, 3) := by decide +kernel
theorem dX5_makingFault_58 : decode cX5_makingFault 58 = .ok (.iload_n 1, 1) := by decide +kernel
theorem dX5_makingFault_59 : decode cX5_makingFault 59 = .ok (.caload, 1) := by decide +kernel
theorem dX5_makingFault_60 : decode cX5_makingFault 60 = .ok (.bipush 45, 2) := by decide +kernel
theorem dX5_makingFault_62 : decode cX5_makingFault 62 = .ok (.if_icmp .ne 6, 3) := by decide +kernel
theorem dX5_makingFault_65 : decode cX5_makingFault 65 = .ok (.bipush 67, 2) := by decide +kernel
theorem dX5_makingFault_67 : decode cX5_makingFault 67 = .ok (.ireturn, 1) := by decide +kernel
theorem dX5_makingFault_68 : decode cX5_makingFault 68 = .ok (.aload_n 0, 1) := by decide +kernel
theorem dX5_makingFault_69 : decode cX5_makingFault 69 = .ok (.getfield 12, 3) := by decide +kernel
theorem dX5_makingFault_72 : decode cX5_makingFault 72 = .ok (.getfield 102, 3) := by decide +kernel
theorem dX5_makingFault_75 : decode cX5_makingFault 75 = .ok (.iload_n 1, 1) := by decide +kernel
theorem dX5_makingFault_76 : decode cX5_makingFault 76 = .ok (.baload, 1) := by decide +kernel
theorem dX5_makingFault_77 : decode cX5_makingFault 77 = .ok (.ifCond .ne 6, 3) := by decide +kernel
theorem dX5_makingFault_80 : decode cX5_makingFault 80 = .ok (.bipush 76, 2) := by decide +kernel
theorem dX5_makingFault_82 : decode cX5_makingFault 82 = .ok (.ireturn, 1) := by decide +kernel
theorem dX5_makingFault_83 : decode cX5_makingFault 83 = .ok (.aload_n 0, 1) := by decide +kernel
theorem dX5_makingFault_84 : decode cX5_makingFault 84 = .ok (.getfield 12, 3) := by decide +kernel
theorem dX5_makingFault_87 : decode cX5_makingFault 87 = .ok (.getfield 94, 3) := by decide +kernel
theorem dX5_makingFault_90 : decode cX5_makingFault 90 = .ok (.iload_n 1, 1) := by decide +kernel
theorem dX5_makingFault_91 : decode cX5_makingFault 91 = .ok (.caload, 1) := by decide +kernel
theorem dX5_makingFault_92 : decode cX5_makingFault 92 = .ok (.bipush 105, 2) := by decide +kernel
theorem dX5_makingFault_94 : decode cX5_makingFault 94 = .ok (.if_icmp .eq 15, 3) := by decide +kernel
theorem dX5_makingFault_97 : decode cX5_makingFault 97 = .ok (.aload_n 0, 1) := by decide +kernel
theorem dX5_makingFault_98 : decode cX5_makingFault 98 = .ok (.getfield 12, 3) := by decide +kernel
theorem dX5_makingFault_101 : decode cX5_makingFault 101 = .ok (.getfield 162, 3) := by decide +kernel
theorem dX5_makingFault_104 : decode cX5_makingFault 104 = .ok (.iload_n 1, 1) := by decide +kernel
theorem dX5_makingFault_105 : decode cX5_makingFault 105 = .ok (.baload, 1) := by decide +kernel
theorem dX5_makingFault_106 : decode cX5_makingFault 106 = .ok (.ifCond .eq 6, 3) := by decide +kernel
theorem dX5_makingFault_109 : decode cX5_makingFault 109 = .ok (.bipush 78, 2) := by decide +kernel
theorem dX5_makingFault_111 : decode cX5_makingFault 111 = .ok (.ireturn, 1) := by decide +kernel
theorem dX5_makingFault_112 : decode cX5_makingFault 112 = .ok (.aload_n 0, 1) := by decide +kernel
theorem dX5_makingFault_113 : decode cX5_makingFault 113 = .ok (.getfield 12, 3) := by decide +kernel
theorem dX5_makingFault_116 : decode cX5_makingFault 116 = .ok (.getfield 159, 3) := by decide +kernel
theorem dX5_makingFault_119 : decode cX5_makingFault 119 = .ok (.iload_n 1, 1) := by decide +kernel
theorem dX5_makingFault_120 : decode cX5_makingFault 120 = .ok (.caload, 1) := by decide +kernel
theorem dX5_makingFault_121 : decode cX5_makingFault 121 = .ok (.bipush 112, 2) := by decide +kernel
theorem dX5_makingFault_123 : decode cX5_makingFault 123 = .ok (.if_icmp .ne 8, 3) := by decide +kernel
theorem dX5_makingFault_126 : decode cX5_makingFault 126 = .ok (.bipush 45, 2) := by decide +kernel
theorem dX5_makingFault_128 : decode cX5_makingFault 128 = .ok (.goto 5, 3) := by decide +kernel
theorem dX5_makingFault_131 : decode cX5_makingFault 131 = .ok (.bipush 76, 2) := by decide +kernel
theorem dX5_makingFault_133 : decode cX5_makingFault 133 = .ok (.ireturn, 1) := by decide +kernel
theorem dX5_typeFault_0 : decode cX5_typeFault 0 = .ok (.iload_n 2, 1) := by decide +kernel
theorem dX5_typeFault_1 : decode cX5_typeFault 1 = .ok (.iconst (-1), 1) := by decide +kernel
theorem dX5_typeFault_2 : decode cX5_typeFault 2 = .ok (.if_icmp .ne 6, 3) := by decide +kernel
theorem dX5_typeFault_5 : decode cX5_typeFault 5 = .ok (.bipush 67, 2) := by decide +kernel
theorem dX5_typeFault_7 : decode cX5_typeFault 7 = .ok (.ireturn, 1) := by decide +kernel
theorem dX5_typeFault_8 : decode cX5_typeFault 8 = .ok (.iload_n 2, 1) := by decide +kernel
theorem dX5_typeFault_9 : decode cX5_typeFault 9 = .ok (.iconst 5, 1) := by decide +kernel
theorem dX5_typeFault_10 : decode cX5_typeFault 10 = .ok (.if_icmp .ne 16, 3) := by decide +kernel
theorem dX5_typeFault_13 : decode cX5_typeFault 13 = .ok (.iload_n 1, 1) := by decide +kernel
theorem dX5_typeFault_14 : decode cX5_typeFault 14 = .ok (.iconst 3, 1) := by decide +kernel
theorem dX5_typeFault_15 : decode cX5_typeFault 15 = .ok (.if_icmp .ne 8, 3) := by decide +kernel
theorem dX5_typeFault_18 : decode cX5_typeFault 18 = .ok (.bipush 73, 2) := by decide +kernel
theorem dX5_typeFault_20 : decode cX5_typeFault 20 = .ok (.goto 5, 3) := by decide +kernel
theorem dX5_typeFault_23 : decode cX5_typeFault 23 = .ok (.bipush 45, 2) := by decide +kernel
theorem dX5_typeFault_25 : decode cX5_typeFault 25 = .ok (.ireturn, 1) := by decide +kernel
theorem dX5_typeFault_26 : decode cX5_typeFault 26 = .ok (.aload_n 0, 1) := by decide +kernel
theorem dX5_typeFault_27 : decode cX5_typeFault 27 = .ok (.getfield 12, 3) := by decide +kernel
theorem dX5_typeFault_30 : decode cX5_typeFault 30 = .ok (.getfield 94, 3) := by decide +kernel
theorem dX5_typeFault_33 : decode cX5_typeFault 33 = .ok (.iload_n 2, 1) := by decide +kernel
theorem dX5_typeFault_34 : decode cX5_typeFault 34 = .ok (.caload, 1) := by decide +kernel
theorem dX5_typeFault_35 : decode cX5_typeFault 35 = .ok (.bipush 45, 2) := by decide +kernel
theorem dX5_typeFault_37 : decode cX5_typeFault 37 = .ok (.if_icmp .ne 6, 3) := by decide +kernel
theorem dX5_typeFault_40 : decode cX5_typeFault 40 = .ok (.bipush 67, 2) := by decide +kernel
theorem dX5_typeFault_42 : decode cX5_typeFault 42 = .ok (.ireturn, 1) := by decide +kernel
theorem dX5_typeFault_43 : decode cX5_typeFault 43 = .ok (.aload_n 0, 1) := by decide +kernel
theorem dX5_typeFault_44 : decode cX5_typeFault 44 = .ok (.getfield 12, 3) := by decide +kernel
theorem dX5_typeFault_47 : decode cX5_typeFault 47 = .ok (.getfield 102, 3) := by decide +kernel
theorem dX5_typeFault_50 : decode cX5_typeFault 50 = .ok (.iload_n 2, 1) := by decide +kernel
theorem dX5_typeFault_51 : decode cX5_typeFault 51 = .ok (.baload, 1) := by decide +kernel
theorem dX5_typeFault_52 : decode cX5_typeFault 52 = .ok (.ifCond .ne 6, 3) := by decide +kernel
theorem dX5_typeFault_55 : decode cX5_typeFault 55 = .ok (.bipush 76, 2) := by decide +kernel
theorem dX5_typeFault_57 : decode cX5_typeFault 57 = .ok (.ireturn, 1) := by decide +kernel
theorem dX5_typeFault_58 : decode cX5_typeFault 58 = .ok (.aload_n 0, 1) := by decide +kernel
theorem dX5_typeFault_59 : decode cX5_typeFault 59 = .ok (.getfield 12, 3) := by decide +kernel
theorem dX5_typeFault_62 : decode cX5_typeFault 62 = .ok (.getfield 94, 3) := by decide +kernel
theorem dX5_typeFault_65 : decode cX5_typeFault 65 = .ok (.iload_n 2, 1) := by decide +kernel
theorem dX5_typeFault_66 : decode cX5_typeFault 66 = .ok (.caload, 1) := by decide +kernel
theorem dX5_typeFault_67 : decode cX5_typeFault 67 = .ok (.bipush 105, 2) := by decide +kernel
theorem dX5_typeFault_69 : decode cX5_typeFault 69 = .ok (.if_icmp .ne 7, 3) := by decide +kernel
theorem dX5_typeFault_72 : decode cX5_typeFault 72 = .ok (.iconst 1, 1) := by decide +kernel
theorem dX5_typeFault_73 : decode cX5_typeFault 73 = .ok (.goto 4, 3) := by decide +kernel
theorem dX5_typeFault_76 : decode cX5_typeFault 76 = .ok (.iconst 0, 1) := by decide +kernel
theorem dX5_typeFault_77 : decode cX5_typeFault 77 = .ok (.istore_n 3, 1) := by decide +kernel
theorem dX5_typeFault_78 : decode cX5_typeFault 78 = .ok (.iload_n 3, 1) := by decide +kernel
theorem dX5_typeFault_79 : decode cX5_typeFault 79 = .ok (.ifCond .eq 21, 3) := by decide +kernel
theorem dX5_typeFault_82 : decode cX5_typeFault 82 = .ok (.iload_n 1, 1) := by decide +kernel
theorem dX5_typeFault_83 : decode cX5_typeFault 83 = .ok (.iconst 2, 1) := by decide +kernel
theorem dX5_typeFault_84 : decode cX5_typeFault 84 = .ok (.if_icmp .eq 8, 3) := by decide +kernel
theorem dX5_typeFault_87 : decode cX5_typeFault 87 = .ok (.iload_n 1, 1) := by decide +kernel
theorem dX5_typeFault_88 : decode cX5_typeFault 88 = .ok (.iconst 4, 1) := by decide +kernel
theorem dX5_typeFault_89 : decode cX5_typeFault 89 = .ok (.if_icmp .ne 7, 3) := by decide +kernel
theorem dX5_typeFault_92 : decode cX5_typeFault 92 = .ok (.iconst 1, 1) := by decide +kernel
theorem dX5_typeFault_93 : decode cX5_typeFault 93 = .ok (.goto 17, 3) := by decide +kernel
theorem dX5_typeFault_96 : decode cX5_typeFault 96 = .ok (.iconst 0, 1) := by decide +kernel
theorem dX5_typeFault_97 : decode cX5_typeFault 97 = .ok (.goto 13, 3) := by decide +kernel
theorem dX5_typeFault_100 : decode cX5_typeFault 100 = .ok (.iload_n 1, 1) := by decide +kernel
theorem dX5_typeFault_101 : decode cX5_typeFault 101 = .ok (.iconst 3, 1) := by decide +kernel
theorem dX5_typeFault_102 : decode cX5_typeFault 102 = .ok (.if_icmp .ne 7, 3) := by decide +kernel
theorem dX5_typeFault_105 : decode cX5_typeFault 105 = .ok (.iconst 1, 1) := by decide +kernel
theorem dX5_typeFault_106 : decode cX5_typeFault 106 = .ok (.goto 4, 3) := by decide +kernel
theorem dX5_typeFault_109 : decode cX5_typeFault 109 = .ok (.iconst 0, 1) := by decide +kernel
theorem dX5_typeFault_110 : decode cX5_typeFault 110 = .ok (.istore 4, 2) := by decide +kernel
theorem dX5_typeFault_112 : decode cX5_typeFault 112 = .ok (.iload 4, 2) := by decide +kernel
theorem dX5_typeFault_114 : decode cX5_typeFault 114 = .ok (.ifCond .eq 8, 3) := by decide +kernel
theorem dX5_typeFault_117 : decode cX5_typeFault 117 = .ok (.bipush 73, 2) := by decide +kernel
theorem dX5_typeFault_119 : decode cX5_typeFault 119 = .ok (.goto 5, 3) := by decide +kernel
theorem dX5_typeFault_122 : decode cX5_typeFault 122 = .ok (.bipush 45, 2) := by decide +kernel
theorem dX5_typeFault_124 : decode cX5_typeFault 124 = .ok (.ireturn, 1) := by decide +kernel
theorem dX5_ownUseFault_0 : decode cX5_ownUseFault 0 = .ok (.iload_n 1, 1) := by decide +kernel
theorem dX5_ownUseFault_1 : decode cX5_ownUseFault 1 = .ok (.iconst 1, 1) := by decide +kernel
theorem dX5_ownUseFault_2 : decode cX5_ownUseFault 2 = .ok (.if_icmp .ne 8, 3) := by decide +kernel
theorem dX5_ownUseFault_5 : decode cX5_ownUseFault 5 = .ok (.bipush 73, 2) := by decide +kernel
theorem dX5_ownUseFault_7 : decode cX5_ownUseFault 7 = .ok (.goto 5, 3) := by decide +kernel
theorem dX5_ownUseFault_10 : decode cX5_ownUseFault 10 = .ok (.bipush 45, 2) := by decide +kernel
theorem dX5_ownUseFault_12 : decode cX5_ownUseFault 12 = .ok (.ireturn, 1) := by decide +kernel
theorem dX5_useFault_0 : decode cX5_useFault 0 = .ok (.aload_n 2, 1) := by decide +kernel
theorem dX5_useFault_1 : decode cX5_useFault 1 = .ok (.getfield 109, 3) := by decide +kernel
theorem dX5_useFault_4 : decode cX5_useFault 4 = .ok (.iload_n 3, 1) := by decide +kernel
theorem dX5_useFault_5 : decode cX5_useFault 5 = .ok (.bipush 6, 2) := by decide +kernel
theorem dX5_useFault_7 : decode cX5_useFault 7 = .ok (.imul, 1) := by decide +kernel
theorem dX5_useFault_8 : decode cX5_useFault 8 = .ok (.iload 4, 2) := by decide +kernel
theorem dX5_useFault_10 : decode cX5_useFault 10 = .ok (.iadd, 1) := by decide +kernel
theorem dX5_useFault_11 : decode cX5_useFault 11 = .ok (.caload, 1) := by decide +kernel
theorem dX5_useFault_12 : decode cX5_useFault 12 = .ok (.istore 6, 2) := by decide +kernel
theorem dX5_useFault_14 : decode cX5_useFault 14 = .ok (.aload_n 2, 1) := by decide +kernel
theorem dX5_useFault_15 : decode cX5_useFault 15 = .ok (.getfield 114, 3) := by decide +kernel
theorem dX5_useFault_18 : decode cX5_useFault 18 = .ok (.iload_n 3, 1) := by decide +kernel
theorem dX5_useFault_19 : decode cX5_useFault 19 = .ok (.bipush 6, 2) := by decide +kernel
theorem dX5_useFault_21 : decode cX5_useFault 21 = .ok (.imul, 1) := by decide +kernel
theorem dX5_useFault_22 : decode cX5_useFault 22 = .ok (.iload 4, 2) := by decide +kernel
theorem dX5_useFault_24 : decode cX5_useFault 24 = .ok (.iadd, 1) := by decide +kernel
theorem dX5_useFault_25 : decode cX5_useFault 25 = .ok (.caload, 1) := by decide +kernel
theorem dX5_useFault_26 : decode cX5_useFault 26 = .ok (.istore 7, 2) := by decide +kernel
theorem dX5_useFault_28 : decode cX5_useFault 28 = .ok (.aload_n 0, 1) := by decide +kernel
theorem dX5_useFault_29 : decode cX5_useFault 29 = .ok (.getfield 33, 3) := by decide +kernel
theorem dX5_useFault_32 : decode cX5_useFault 32 = .ok (.ifCond .eq 36, 3) := by decide +kernel
theorem dX5_useFault_35 : decode cX5_useFault 35 = .ok (.aload_n 0, 1) := by decide +kernel
theorem dX5_useFault_36 : decode cX5_useFault 36 = .ok (.getfield 21, 3) := by decide +kernel
theorem dX5_useFault_39 : decode cX5_useFault 39 = .ok (.getfield 149, 3) := by decide +kernel
theorem dX5_useFault_42 : decode cX5_useFault 42 = .ok (.iconst 5, 1) := by decide +kernel
theorem dX5_useFault_43 : decode cX5_useFault 43 = .ok (.iaload, 1) := by decide +kernel
theorem dX5_useFault_44 : decode cX5_useFault 44 = .ok (.iload_n 3, 1) := by decide +kernel
theorem dX5_useFault_45 : decode cX5_useFault 45 = .ok (.ishr, 1) := by decide +kernel
theorem dX5_useFault_46 : decode cX5_useFault 46 = .ok (.iconst 1, 1) := by decide +kernel
theorem dX5_useFault_47 : decode cX5_useFault 47 = .ok (.iand, 1) := by decide +kernel
theorem dX5_useFault_48 : decode cX5_useFault 48 = .ok (.iconst 1, 1) := by decide +kernel
theorem dX5_useFault_49 : decode cX5_useFault 49 = .ok (.if_icmp .ne 19, 3) := by decide +kernel
theorem dX5_useFault_52 : decode cX5_useFault 52 = .ok (.iload 5, 2) := by decide +kernel
theorem dX5_useFault_54 : decode cX5_useFault 54 = .ok (.iconst (-1), 1) := by decide +kernel
theorem dX5_useFault_55 : decode cX5_useFault 55 = .ok (.if_icmp .eq 9, 3) := by decide +kernel
theorem dX5_useFault_58 : decode cX5_useFault 58 = .ok (.iload 5, 2) := by decide +kernel
theorem dX5_useFault_60 : decode cX5_useFault 60 = .ok (.iconst 5, 1) := by decide +kernel
theorem dX5_useFault_61 : decode cX5_useFault 61 = .ok (.if_icmp .ne 7, 3) := by decide +kernel
theorem dX5_useFault_64 : decode cX5_useFault 64 = .ok (.iconst 1, 1) := by decide +kernel
theorem dX5_useFault_65 : decode cX5_useFault 65 = .ok (.goto 4, 3) := by decide +kernel
theorem dX5_useFault_68 : decode cX5_useFault 68 = .ok (.iconst 0, 1) := by decide +kernel
theorem dX5_useFault_69 : decode cX5_useFault 69 = .ok (.istore 8, 2) := by decide +kernel
theorem dX5_useFault_71 : decode cX5_useFault 71 = .ok (.iload 6, 2) := by decide +kernel
theorem dX5_useFault_73 : decode cX5_useFault 73 = .ok (.bipush 112, 2) := by decide +kernel
theorem dX5_useFault_75 : decode cX5_useFault 75 = .ok (.if_icmp .eq 18, 3) := by decide +kernel
theorem dX5_useFault_78 : decode cX5_useFault 78 = .ok (.iload 6, 2) := by decide +kernel
theorem dX5_useFault_80 : decode cX5_useFault 80 = .ok (.bipush 111, 2) := by decide +kernel
theorem dX5_useFault_82 : decode cX5_useFault 82 = .ok (.if_icmp .ne 8, 3) := by decide +kernel
theorem dX5_useFault_85 : decode cX5_useFault 85 = .ok (.iload 8, 2) := by decide +kernel
theorem dX5_useFault_87 : decode cX5_useFault 87 = .ok (.ifCond .ne 6, 3) := by decide +kernel
theorem dX5_useFault_90 : decode cX5_useFault 90 = .ok (.bipush 76, 2) := by decide +kernel
theorem dX5_useFault_92 : decode cX5_useFault 92 = .ok (.ireturn, 1) := by decide +kernel
theorem dX5_useFault_93 : decode cX5_useFault 93 = .ok (.iload 7, 2) := by decide +kernel
theorem dX5_useFault_95 : decode cX5_useFault 95 = .ok (.bipush 115, 2) := by decide +kernel
theorem dX5_useFault_97 : decode cX5_useFault 97 = .ok (.if_icmp .eq 10, 3) := by decide +kernel
theorem dX5_useFault_100 : decode cX5_useFault 100 = .ok (.iload 7, 2) := by decide +kernel
theorem dX5_useFault_102 : decode cX5_useFault 102 = .ok (.bipush 70, 2) := by decide +kernel
theorem dX5_useFault_104 : decode cX5_useFault 104 = .ok (.if_icmp .ne 7, 3) := by decide +kernel
theorem dX5_useFault_107 : decode cX5_useFault 107 = .ok (.iconst 1, 1) := by decide +kernel
theorem dX5_useFault_108 : decode cX5_useFault 108 = .ok (.goto 4, 3) := by decide +kernel
theorem dX5_useFault_111 : decode cX5_useFault 111 = .ok (.iconst 0, 1) := by decide +kernel
theorem dX5_useFault_112 : decode cX5_useFault 112 = .ok (.istore 9, 2) := by decide +kernel
theorem dX5_useFault_114 : decode cX5_useFault 114 = .ok (.iload_n 1, 1) := by decide +kernel
theorem dX5_useFault_115 : decode cX5_useFault 115 = .ok (.iconst 1, 1) := by decide +kernel
theorem dX5_useFault_116 : decode cX5_useFault 116 = .ok (.if_icmp .eq 14, 3) := by decide +kernel
theorem dX5_useFault_119 : decode cX5_useFault 119 = .ok (.iload_n 1, 1) := by decide +kernel
theorem dX5_useFault_120 : decode cX5_useFault 120 = .ok (.iconst 5, 1) := by decide +kernel
theorem dX5_useFault_121 : decode cX5_useFault 121 = .ok (.if_icmp .eq 9, 3) := by decide +kernel
theorem dX5_useFault_124 : decode cX5_useFault 124 = .ok (.iload_n 1, 1) := by decide +kernel
theorem dX5_useFault_125 : decode cX5_useFault 125 = .ok (.bipush 6, 2) := by decide +kernel
theorem dX5_useFault_127 : decode cX5_useFault 127 = .ok (.if_icmp .ne 7, 3) := by decide +kernel
theorem dX5_useFault_130 : decode cX5_useFault 130 = .ok (.iconst 1, 1) := by decide +kernel
theorem dX5_useFault_131 : decode cX5_useFault 131 = .ok (.goto 4, 3) := by decide +kernel
theorem dX5_useFault_134 : decode cX5_useFault 134 = .ok (.iconst 0, 1) := by decide +kernel
theorem dX5_useFault_135 : decode cX5_useFault 135 = .ok (.istore 10, 2) := by decide +kernel
theorem dX5_useFault_137 : decode cX5_useFault 137 = .ok (.iload 9, 2) := by decide +kernel
theorem dX5_useFault_139 : decode cX5_useFault 139 = .ok (.iload 10, 2) := by decide +kernel
theorem dX5_useFault_141 : decode cX5_useFault 141 = .ok (.if_icmp .eq 6, 3) := by decide +kernel
theorem dX5_useFault_144 : decode cX5_useFault 144 = .ok (.bipush 73, 2) := by decide +kernel
theorem dX5_useFault_146 : decode cX5_useFault 146 = .ok (.ireturn, 1) := by decide +kernel
theorem dX5_useFault_147 : decode cX5_useFault 147 = .ok (.iload_n 1, 1) := by decide +kernel
theorem dX5_useFault_148 : decode cX5_useFault 148 = .ok (.bipush 8, 2) := by decide +kernel
theorem dX5_useFault_150 : decode cX5_useFault 150 = .ok (.if_icmp .eq 9, 3) := by decide +kernel
theorem dX5_useFault_153 : decode cX5_useFault 153 = .ok (.iload_n 1, 1) := by decide +kernel
theorem dX5_useFault_154 : decode cX5_useFault 154 = .ok (.bipush 6, 2) := by decide +kernel
theorem dX5_useFault_156 : decode cX5_useFault 156 = .ok (.if_icmp .ne 7, 3) := by decide +kernel
theorem dX5_useFault_159 : decode cX5_useFault 159 = .ok (.iconst 1, 1) := by decide +kernel
theorem dX5_useFault_160 : decode cX5_useFault 160 = .ok (.goto 4, 3) := by decide +kernel
theorem dX5_useFault_163 : decode cX5_useFault 163 = .ok (.iconst 0, 1) := by decide +kernel
theorem dX5_useFault_164 : decode cX5_useFault 164 = .ok (.istore 11, 2) := by decide +kernel
theorem dX5_useFault_166 : decode cX5_useFault 166 = .ok (.iload 11, 2) := by decide +kernel
theorem dX5_useFault_168 : decode cX5_useFault 168 = .ok (.ifCond .eq 22, 3) := by decide +kernel
theorem dX5_useFault_171 : decode cX5_useFault 171 = .ok (.iload 7, 2) := by decide +kernel
theorem dX5_useFault_173 : decode cX5_useFault 173 = .ok (.bipush 70, 2) := by decide +kernel
theorem dX5_useFault_175 : decode cX5_useFault 175 = .ok (.if_icmp .eq 10, 3) := by decide +kernel
theorem dX5_useFault_178 : decode cX5_useFault 178 = .ok (.iload 7, 2) := by decide +kernel
theorem dX5_useFault_180 : decode cX5_useFault 180 = .ok (.bipush 102, 2) := by decide +kernel
theorem dX5_useFault_182 : decode cX5_useFault 182 = .ok (.if_icmp .ne 8, 3) := by decide +kernel
theorem dX5_useFault_185 : decode cX5_useFault 185 = .ok (.bipush 76, 2) := by decide +kernel
theorem dX5_useFault_187 : decode cX5_useFault 187 = .ok (.goto 5, 3) := by decide +kernel
theorem dX5_useFault_190 : decode cX5_useFault 190 = .ok (.bipush 45, 2) := by decide +kernel
theorem dX5_useFault_192 : decode cX5_useFault 192 = .ok (.ireturn, 1) := by decide +kernel
theorem dX5_dispatch_0 : decode cX5_dispatch 0 = .ok (.aload_n 0, 1) := by decide +kernel
theorem dX5_dispatch_1 : decode cX5_dispatch 1 = .ok (.getfield 21, 3) := by decide +kernel
theorem dX5_dispatch_4 : decode cX5_dispatch 4 = .ok (.getfield 165, 3) := by decide +kernel
theorem dX5_dispatch_7 : decode cX5_dispatch 7 = .ok (.iload_n 2, 1) := by decide +kernel
theorem dX5_dispatch_8 : decode cX5_dispatch 8 = .ok (.bipush 6, 2) := by decide +kernel
theorem dX5_dispatch_10 : decode cX5_dispatch 10 = .ok (.imul, 1) := by decide +kernel
theorem dX5_dispatch_11 : decode cX5_dispatch 11 = .ok (.iload_n 3, 1) := by decide +kernel
theorem dX5_dispatch_12 : decode cX5_dispatch 12 = .ok (.iadd, 1) := by decide +kernel
theorem dX5_dispatch_13 : decode cX5_dispatch 13 = .ok (.iaload, 1) := by decide +kernel
theorem dX5_dispatch_14 : decode cX5_dispatch 14 = .ok (.istore 4, 2) := by decide +kernel
theorem dX5_dispatch_16 : decode cX5_dispatch 16 = .ok (.iload 4, 2) := by decide +kernel
theorem dX5_dispatch_18 : decode cX5_dispatch 18 = .ok (.ifCond .ge 6, 3) := by decide +kernel
theorem dX5_dispatch_21 : decode cX5_dispatch 21 = .ok (.iload 4, 2) := by decide +kernel
theorem dX5_dispatch_23 : decode cX5_dispatch 23 = .ok (.ireturn, 1) := by decide +kernel
theorem dX5_dispatch_24 : decode cX5_dispatch 24 = .ok (.iload 4, 2) := by decide +kernel
theorem dX5_dispatch_26 : decode cX5_dispatch 26 = .ok (.iconst 5, 1) := by decide +kernel
theorem dX5_dispatch_27 : decode cX5_dispatch 27 = .ok (.if_icmp .ne 6, 3) := by decide +kernel
theorem dX5_dispatch_30 : decode cX5_dispatch 30 = .ok (.bipush 100, 2) := by decide +kernel
theorem dX5_dispatch_32 : decode cX5_dispatch 32 = .ok (.ireturn, 1) := by decide +kernel
theorem dX5_dispatch_33 : decode cX5_dispatch 33 = .ok (.iload 4, 2) := by decide +kernel
theorem dX5_dispatch_35 : decode cX5_dispatch 35 = .ok (.bipush 6, 2) := by decide +kernel
theorem dX5_dispatch_37 : decode cX5_dispatch 37 = .ok (.imul, 1) := by decide +kernel
theorem dX5_dispatch_38 : decode cX5_dispatch 38 = .ok (.iload_n 3, 1) := by decide +kernel
theorem dX5_dispatch_39 : decode cX5_dispatch 39 = .ok (.iadd, 1) := by decide +kernel
theorem dX5_dispatch_40 : decode cX5_dispatch 40 = .ok (.istore 5, 2) := by decide +kernel
theorem dX5_dispatch_42 : decode cX5_dispatch 42 = .ok (.iload_n 1, 1) := by decide +kernel
theorem dX5_dispatch_43 : decode cX5_dispatch 43 = .ok (.iconst 3, 1) := by decide +kernel
theorem dX5_dispatch_44 : decode cX5_dispatch 44 = .ok (.if_icmp .ne 26, 3) := by decide +kernel
theorem dX5_dispatch_47 : decode cX5_dispatch 47 = .ok (.aload_n 0, 1) := by decide +kernel
theorem dX5_dispatch_48 : decode cX5_dispatch 48 = .ok (.getfield 12, 3) := by decide +kernel
theorem dX5_dispatch_51 : decode cX5_dispatch 51 = .ok (.getfield 105, 3) := by decide +kernel
theorem dX5_dispatch_54 : decode cX5_dispatch 54 = .ok (.getfield 109, 3) := by decide +kernel
theorem dX5_dispatch_57 : decode cX5_dispatch 57 = .ok (.iload 5, 2) := by decide +kernel
theorem dX5_dispatch_59 : decode cX5_dispatch 59 = .ok (.caload, 1) := by decide +kernel
theorem dX5_dispatch_60 : decode cX5_dispatch 60 = .ok (.bipush 112, 2) := by decide +kernel
theorem dX5_dispatch_62 : decode cX5_dispatch 62 = .ok (.if_icmp .eq 8, 3) := by decide +kernel
theorem dX5_dispatch_65 : decode cX5_dispatch 65 = .ok (.bipush (-76), 2) := by decide +kernel
theorem dX5_dispatch_67 : decode cX5_dispatch 67 = .ok (.goto 16, 3) := by decide +kernel
theorem dX5_dispatch_70 : decode cX5_dispatch 70 = .ok (.aload_n 0, 1) := by decide +kernel
theorem dX5_dispatch_71 : decode cX5_dispatch 71 = .ok (.getfield 12, 3) := by decide +kernel
theorem dX5_dispatch_74 : decode cX5_dispatch 74 = .ok (.getfield 105, 3) := by decide +kernel
theorem dX5_dispatch_77 : decode cX5_dispatch 77 = .ok (.getfield 156, 3) := by decide +kernel
theorem dX5_dispatch_80 : decode cX5_dispatch 80 = .ok (.iload 5, 2) := by decide +kernel
theorem dX5_dispatch_82 : decode cX5_dispatch 82 = .ok (.iaload, 1) := by decide +kernel
theorem dX5_dispatch_83 : decode cX5_dispatch 83 = .ok (.ireturn, 1) := by decide +kernel
theorem dJ6_bitCount_0f7a4_0 : decode cJ6_bitCount_0f7a4 0 = .ok (.iload_n 0, 1) := by decide +kernel
theorem dJ6_bitCount_0f7a4_1 : decode cJ6_bitCount_0f7a4 1 = .ok (.iload_n 0, 1) := by decide +kernel
theorem dJ6_bitCount_0f7a4_2 : decode cJ6_bitCount_0f7a4 2 = .ok (.iconst 1, 1) := by decide +kernel
theorem dJ6_bitCount_0f7a4_3 : decode cJ6_bitCount_0f7a4 3 = .ok (.iushr, 1) := by decide +kernel
theorem dJ6_bitCount_0f7a4_4 : decode cJ6_bitCount_0f7a4 4 = .ok (.ldc_w 265, 3) := by decide +kernel
theorem dJ6_bitCount_0f7a4_7 : decode cJ6_bitCount_0f7a4 7 = .ok (.iand, 1) := by decide +kernel
theorem dJ6_bitCount_0f7a4_8 : decode cJ6_bitCount_0f7a4 8 = .ok (.isub, 1) := by decide +kernel
theorem dJ6_bitCount_0f7a4_9 : decode cJ6_bitCount_0f7a4 9 = .ok (.istore_n 0, 1) := by decide +kernel
theorem dJ6_bitCount_0f7a4_10 : decode cJ6_bitCount_0f7a4 10 = .ok (.iload_n 0, 1) := by decide +kernel
theorem dJ6_bitCount_0f7a4_11 : decode cJ6_bitCount_0f7a4 11 = .ok (.ldc_w 266, 3) := by decide +kernel
theorem dJ6_bitCount_0f7a4_14 : decode cJ6_bitCount_0f7a4 14 = .ok (.iand, 1) := by decide +kernel
theorem dJ6_bitCount_0f7a4_15 : decode cJ6_bitCount_0f7a4 15 = .ok (.iload_n 0, 1) := by decide +kernel
theorem dJ6_bitCount_0f7a4_16 : decode cJ6_bitCount_0f7a4 16 = .ok (.iconst 2, 1) := by decide +kernel
theorem dJ6_bitCount_0f7a4_17 : decode cJ6_bitCount_0f7a4 17 = .ok (.iushr, 1) := by decide +kernel
theorem dJ6_bitCount_0f7a4_18 : decode cJ6_bitCount_0f7a4 18 = .ok (.ldc_w 266, 3) := by decide +kernel
theorem dJ6_bitCount_0f7a4_21 : decode cJ6_bitCount_0f7a4 21 = .ok (.iand, 1) := by decide +kernel
theorem dJ6_bitCount_0f7a4_22 : decode cJ6_bitCount_0f7a4 22 = .ok (.iadd, 1) := by decide +kernel
theorem dJ6_bitCount_0f7a4_23 : decode cJ6_bitCount_0f7a4 23 = .ok (.istore_n 0, 1) := by decide +kernel
theorem dJ6_bitCount_0f7a4_24 : decode cJ6_bitCount_0f7a4 24 = .ok (.iload_n 0, 1) := by decide +kernel
theorem dJ6_bitCount_0f7a4_25 : decode cJ6_bitCount_0f7a4 25 = .ok (.iload_n 0, 1) := by decide +kernel
theorem dJ6_bitCount_0f7a4_26 : decode cJ6_bitCount_0f7a4 26 = .ok (.iconst 4, 1) := by decide +kernel
theorem dJ6_bitCount_0f7a4_27 : decode cJ6_bitCount_0f7a4 27 = .ok (.iushr, 1) := by decide +kernel
theorem dJ6_bitCount_0f7a4_28 : decode cJ6_bitCount_0f7a4 28 = .ok (.iadd, 1) := by decide +kernel
theorem dJ6_bitCount_0f7a4_29 : decode cJ6_bitCount_0f7a4 29 = .ok (.ldc_w 267, 3) := by decide +kernel
theorem dJ6_bitCount_0f7a4_32 : decode cJ6_bitCount_0f7a4 32 = .ok (.iand, 1) := by decide +kernel
theorem dJ6_bitCount_0f7a4_33 : decode cJ6_bitCount_0f7a4 33 = .ok (.istore_n 0, 1) := by decide +kernel
theorem dJ6_bitCount_0f7a4_34 : decode cJ6_bitCount_0f7a4 34 = .ok (.iload_n 0, 1) := by decide +kernel
theorem dJ6_bitCount_0f7a4_35 : decode cJ6_bitCount_0f7a4 35 = .ok (.iload_n 0, 1) := by decide +kernel
theorem dJ6_bitCount_0f7a4_36 : decode cJ6_bitCount_0f7a4 36 = .ok (.bipush 8, 2) := by decide +kernel
theorem dJ6_bitCount_0f7a4_38 : decode cJ6_bitCount_0f7a4 38 = .ok (.iushr, 1) := by decide +kernel
theorem dJ6_bitCount_0f7a4_39 : decode cJ6_bitCount_0f7a4 39 = .ok (.iadd, 1) := by decide +kernel
theorem dJ6_bitCount_0f7a4_40 : decode cJ6_bitCount_0f7a4 40 = .ok (.istore_n 0, 1) := by decide +kernel
theorem dJ6_bitCount_0f7a4_41 : decode cJ6_bitCount_0f7a4 41 = .ok (.iload_n 0, 1) := by decide +kernel
theorem dJ6_bitCount_0f7a4_42 : decode cJ6_bitCount_0f7a4 42 = .ok (.iload_n 0, 1) := by decide +kernel
theorem dJ6_bitCount_0f7a4_43 : decode cJ6_bitCount_0f7a4 43 = .ok (.bipush 16, 2) := by decide +kernel
theorem dJ6_bitCount_0f7a4_45 : decode cJ6_bitCount_0f7a4 45 = .ok (.iushr, 1) := by decide +kernel
theorem dJ6_bitCount_0f7a4_46 : decode cJ6_bitCount_0f7a4 46 = .ok (.iadd, 1) := by decide +kernel
theorem dJ6_bitCount_0f7a4_47 : decode cJ6_bitCount_0f7a4 47 = .ok (.istore_n 0, 1) := by decide +kernel
theorem dJ6_bitCount_0f7a4_48 : decode cJ6_bitCount_0f7a4 48 = .ok (.iload_n 0, 1) := by decide +kernel
theorem dJ6_bitCount_0f7a4_49 : decode cJ6_bitCount_0f7a4 49 = .ok (.bipush 63, 2) := by decide +kernel
theorem dJ6_bitCount_0f7a4_51 : decode cJ6_bitCount_0f7a4 51 = .ok (.iand, 1) := by decide +kernel
theorem dJ6_bitCount_0f7a4_52 : decode cJ6_bitCount_0f7a4 52 = .ok (.ireturn, 1) := by decide +kernel
theorem dJ7_fill_53178_0 : decode cJ7_fill_53178 0 = .ok (.iconst 0, 1) := by decide +kernel
theorem dJ7_fill_53178_1 : decode cJ7_fill_53178 1 = .ok (.istore_n 2, 1) := by decide +kernel
theorem dJ7_fill_53178_2 : decode cJ7_fill_53178 2 = .ok (.aload_n 0, 1) := by decide +kernel
theorem dJ7_fill_53178_3 : decode cJ7_fill_53178 3 = .ok (.arraylength, 1) := by decide +kernel
theorem dJ7_fill_53178_4 : decode cJ7_fill_53178 4 = .ok (.istore_n 3, 1) := by decide +kernel
theorem dJ7_fill_53178_5 : decode cJ7_fill_53178 5 = .ok (.iload_n 2, 1) := by decide +kernel
theorem dJ7_fill_53178_6 : decode cJ7_fill_53178 6 = .ok (.iload_n 3, 1) := by decide +kernel
theorem dJ7_fill_53178_7 : decode cJ7_fill_53178 7 = .ok (.if_icmp .ge 13, 3) := by decide +kernel
theorem dJ7_fill_53178_10 : decode cJ7_fill_53178 10 = .ok (.aload_n 0, 1) := by decide +kernel
theorem dJ7_fill_53178_11 : decode cJ7_fill_53178 11 = .ok (.iload_n 2, 1) := by decide +kernel
theorem dJ7_fill_53178_12 : decode cJ7_fill_53178 12 = .ok (.iload_n 1, 1) := by decide +kernel
theorem dJ7_fill_53178_13 : decode cJ7_fill_53178 13 = .ok (.iastore, 1) := by decide +kernel
theorem dJ7_fill_53178_14 : decode cJ7_fill_53178 14 = .ok (.iinc 2 1, 3) := by decide +kernel
theorem dJ7_fill_53178_17 : decode cJ7_fill_53178 17 = .ok (.goto (-12), 3) := by decide +kernel
theorem dJ7_fill_53178_20 : decode cJ7_fill_53178 20 = .ok (.return_, 1) := by decide +kernel
end
section
-- pasted from the claim's printed text: decode rows
theorem dX9_init_0 : decode cX9_init 0 = .ok (.aload_n 0, 1) := by decide +kernel
theorem dX9_init_1 : decode cX9_init 1 = .ok (.invokespecial 1, 3) := by decide +kernel
theorem dX9_init_4 : decode cX9_init 4 = .ok (.aload_n 0, 1) := by decide +kernel
theorem dX9_init_5 : decode cX9_init 5 = .ok (.iconst 4, 1) := by decide +kernel
theorem dX9_init_6 : decode cX9_init 6 = .ok (.anewarray 9, 3) := by decide +kernel
theorem dX9_init_9 : decode cX9_init 9 = .ok (.putfield 11, 3) := by decide +kernel
theorem dX9_init_12 : decode cX9_init 12 = .ok (.aload_n 0, 1) := by decide +kernel
theorem dX9_init_13 : decode cX9_init 13 = .ok (.iconst 4, 1) := by decide +kernel
theorem dX9_init_14 : decode cX9_init 14 = .ok (.anewarray 15, 3) := by decide +kernel
theorem dX9_init_17 : decode cX9_init 17 = .ok (.putfield 17, 3) := by decide +kernel
theorem dX9_init_20 : decode cX9_init 20 = .ok (.aload_n 0, 1) := by decide +kernel
theorem dX9_init_21 : decode cX9_init 21 = .ok (.bipush 8, 2) := by decide +kernel
theorem dX9_init_23 : decode cX9_init 23 = .ok (.anewarray 9, 3) := by decide +kernel
theorem dX9_init_26 : decode cX9_init 26 = .ok (.putfield 21, 3) := by decide +kernel
theorem dX9_init_29 : decode cX9_init 29 = .ok (.aload_n 0, 1) := by decide +kernel
theorem dX9_init_30 : decode cX9_init 30 = .ok (.bipush 24, 2) := by decide +kernel
theorem dX9_init_32 : decode cX9_init 32 = .ok (.newarray .int, 2) := by decide +kernel
theorem dX9_init_34 : decode cX9_init 34 = .ok (.putfield 24, 3) := by decide +kernel
theorem dX9_init_37 : decode cX9_init 37 = .ok (.aload_n 0, 1) := by decide +kernel
theorem dX9_init_38 : decode cX9_init 38 = .ok (.new 28, 3) := by decide +kernel
theorem dX9_init_41 : decode cX9_init 41 = .ok (.dup, 1) := by decide +kernel
theorem dX9_init_42 : decode cX9_init 42 = .ok (.invokespecial 30, 3) := by decide +kernel
theorem dX9_init_45 : decode cX9_init 45 = .ok (.putfield 31, 3) := by decide +kernel
theorem dX9_init_48 : decode cX9_init 48 = .ok (.aload_n 0, 1) := by decide +kernel
theorem dX9_init_49 : decode cX9_init 49 = .ok (.new 28, 3) := by decide +kernel
theorem dX9_init_52 : decode cX9_init 52 = .ok (.dup, 1) := by decide +kernel
theorem dX9_init_53 : decode cX9_init 53 = .ok (.invokespecial 30, 3) := by decide +kernel
theorem dX9_init_56 : decode cX9_init 56 = .ok (.putfield 35, 3) := by decide +kernel
theorem dX9_init_59 : decode cX9_init 59 = .ok (.aload_n 0, 1) := by decide +kernel
theorem dX9_init_60 : decode cX9_init 60 = .ok (.new 38, 3) := by decide +kernel
theorem dX9_init_63 : decode cX9_init 63 = .ok (.dup, 1) := by decide +kernel
theorem dX9_init_64 : decode cX9_init 64 = .ok (.invokespecial 40, 3) := by decide +kernel
theorem dX9_init_67 : decode cX9_init 67 = .ok (.putfield 41, 3) := by decide +kernel
theorem dX9_init_70 : decode cX9_init 70 = .ok (.aload_n 0, 1) := by decide +kernel
theorem dX9_init_71 : decode cX9_init 71 = .ok (.iconst 4, 1) := by decide +kernel
theorem dX9_init_72 : decode cX9_init 72 = .ok (.newarray .int, 2) := by decide +kernel
theorem dX9_init_74 : decode cX9_init 74 = .ok (.putfield 45, 3) := by decide +kernel
theorem dX9_init_77 : decode cX9_init 77 = .ok (.aload_n 0, 1) := by decide +kernel
theorem dX9_init_78 : decode cX9_init 78 = .ok (.iconst 0, 1) := by decide +kernel
theorem dX9_init_79 : decode cX9_init 79 = .ok (.putfield 48, 3) := by decide +kernel
theorem dX9_init_82 : decode cX9_init 82 = .ok (.iconst 0, 1) := by decide +kernel
theorem dX9_init_83 : decode cX9_init 83 = .ok (.istore_n 1, 1) := by decide +kernel
theorem dX9_init_84 : decode cX9_init 84 = .ok (.iload_n 1, 1) := by decide +kernel
theorem dX9_init_85 : decode cX9_init 85 = .ok (.iconst 4, 1) := by decide +kernel
theorem dX9_init_86 : decode cX9_init 86 = .ok (.if_icmp .ge 22, 3) := by decide +kernel
theorem dX9_init_89 : decode cX9_init 89 = .ok (.aload_n 0, 1) := by decide +kernel
theorem dX9_init_90 : decode cX9_init 90 = .ok (.getfield 11, 3) := by decide +kernel
theorem dX9_init_93 : decode cX9_init 93 = .ok (.iload_n 1, 1) := by decide +kernel
theorem dX9_init_94 : decode cX9_init 94 = .ok (.new 9, 3) := by decide +kernel
theorem dX9_init_97 : decode cX9_init 97 = .ok (.dup, 1) := by decide +kernel
theorem dX9_init_98 : decode cX9_init 98 = .ok (.invokespecial 52, 3) := by decide +kernel
theorem dX9_init_101 : decode cX9_init 101 = .ok (.aastore, 1) := by decide +kernel
theorem dX9_init_102 : decode cX9_init 102 = .ok (.iinc 1 1, 3) := by decide +kernel
theorem dX9_init_105 : decode cX9_init 105 = .ok (.goto (-21), 3) := by decide +kernel
theorem dX9_init_108 : decode cX9_init 108 = .ok (.iconst 0, 1) := by decide +kernel
theorem dX9_init_109 : decode cX9_init 109 = .ok (.istore_n 1, 1) := by decide +kernel
theorem dX9_init_110 : decode cX9_init 110 = .ok (.iload_n 1, 1) := by decide +kernel
theorem dX9_init_111 : decode cX9_init 111 = .ok (.iconst 4, 1) := by decide +kernel
theorem dX9_init_112 : decode cX9_init 112 = .ok (.if_icmp .ge 22, 3) := by decide +kernel
theorem dX9_init_115 : decode cX9_init 115 = .ok (.aload_n 0, 1) := by decide +kernel
theorem dX9_init_116 : decode cX9_init 116 = .ok (.getfield 17, 3) := by decide +kernel
theorem dX9_init_119 : decode cX9_init 119 = .ok (.iload_n 1, 1) := by decide +kernel
theorem dX9_init_120 : decode cX9_init 120 = .ok (.new 15, 3) := by decide +kernel
theorem dX9_init_123 : decode cX9_init 123 = .ok (.dup, 1) := by decide +kernel
theorem dX9_init_124 : decode cX9_init 124 = .ok (.invokespecial 53, 3) := by decide +kernel
theorem dX9_init_127 : decode cX9_init 127 = .ok (.aastore, 1) := by decide +kernel
theorem dX9_init_128 : decode cX9_init 128 = .ok (.iinc 1 1, 3) := by decide +kernel
theorem dX9_init_131 : decode cX9_init 131 = .ok (.goto (-21), 3) := by decide +kernel
theorem dX9_init_134 : decode cX9_init 134 = .ok (.iconst 0, 1) := by decide +kernel
theorem dX9_init_135 : decode cX9_init 135 = .ok (.istore_n 1, 1) := by decide +kernel
theorem dX9_init_136 : decode cX9_init 136 = .ok (.iload_n 1, 1) := by decide +kernel
theorem dX9_init_137 : decode cX9_init 137 = .ok (.bipush 8, 2) := by decide +kernel
theorem dX9_init_139 : decode cX9_init 139 = .ok (.if_icmp .ge 22, 3) := by decide +kernel
theorem dX9_init_142 : decode cX9_init 142 = .ok (.aload_n 0, 1) := by decide +kernel
theorem dX9_init_143 : decode cX9_init 143 = .ok (.getfield 21, 3) := by decide +kernel
theorem dX9_init_146 : decode cX9_init 146 = .ok (.iload_n 1, 1) := by decide +kernel
theorem dX9_init_147 : decode cX9_init 147 = .ok (.new 9, 3) := by decide +kernel
theorem dX9_init_150 : decode cX9_init 150 = .ok (.dup, 1) := by decide +kernel
theorem dX9_init_151 : decode cX9_init 151 = .ok (.invokespecial 52, 3) := by decide +kernel
theorem dX9_init_154 : decode cX9_init 154 = .ok (.aastore, 1) := by decide +kernel
theorem dX9_init_155 : decode cX9_init 155 = .ok (.iinc 1 1, 3) := by decide +kernel
theorem dX9_init_158 : decode cX9_init 158 = .ok (.goto (-22), 3) := by decide +kernel
theorem dX9_init_161 : decode cX9_init 161 = .ok (.return_, 1) := by decide +kernel
theorem dX9_type_0 : decode cX9_type 0 = .ok (.iload_n 1, 1) := by decide +kernel
theorem dX9_type_1 : decode cX9_type 1 = .ok (.iconst 4, 1) := by decide +kernel
theorem dX9_type_2 : decode cX9_type 2 = .ok (.invokestatic 54, 3) := by decide +kernel
theorem dX9_type_5 : decode cX9_type 5 = .ok (.iload_n 2, 1) := by decide +kernel
theorem dX9_type_6 : decode cX9_type 6 = .ok (.invokestatic 58, 3) := by decide +kernel
theorem dX9_type_9 : decode cX9_type 9 = .ok (.ifCond .eq 25, 3) := by decide +kernel
theorem dX9_type_12 : decode cX9_type 12 = .ok (.iload_n 3, 1) := by decide +kernel
theorem dX9_type_13 : decode cX9_type 13 = .ok (.bipush 99, 2) := by decide +kernel
theorem dX9_type_15 : decode cX9_type 15 = .ok (.if_icmp .eq 15, 3) := by decide +kernel
theorem dX9_type_18 : decode cX9_type 18 = .ok (.iload_n 3, 1) := by decide +kernel
theorem dX9_type_19 : decode cX9_type 19 = .ok (.bipush 105, 2) := by decide +kernel
theorem dX9_type_21 : decode cX9_type 21 = .ok (.if_icmp .eq 9, 3) := by decide +kernel
theorem dX9_type_24 : decode cX9_type 24 = .ok (.iload_n 3, 1) := by decide +kernel
theorem dX9_type_25 : decode cX9_type 25 = .ok (.bipush 45, 2) := by decide +kernel
theorem dX9_type_27 : decode cX9_type 27 = .ok (.if_icmp .ne 7, 3) := by decide +kernel
theorem dX9_type_30 : decode cX9_type 30 = .ok (.iconst 1, 1) := by decide +kernel
theorem dX9_type_31 : decode cX9_type 31 = .ok (.goto 4, 3) := by decide +kernel
theorem dX9_type_34 : decode cX9_type 34 = .ok (.iconst 0, 1) := by decide +kernel
theorem dX9_type_35 : decode cX9_type 35 = .ok (.invokestatic 62, 3) := by decide +kernel
theorem dX9_type_38 : decode cX9_type 38 = .ok (.aload_n 0, 1) := by decide +kernel
theorem dX9_type_39 : decode cX9_type 39 = .ok (.getfield 11, 3) := by decide +kernel
theorem dX9_type_42 : decode cX9_type 42 = .ok (.iload_n 1, 1) := by decide +kernel
theorem dX9_type_43 : decode cX9_type 43 = .ok (.aaload, 1) := by decide +kernel
theorem dX9_type_44 : decode cX9_type 44 = .ok (.astore 4, 2) := by decide +kernel
theorem dX9_type_46 : decode cX9_type 46 = .ok (.aload 4, 2) := by decide +kernel
theorem dX9_type_48 : decode cX9_type 48 = .ok (.getfield 66, 3) := by decide +kernel
theorem dX9_type_51 : decode cX9_type 51 = .ok (.getfield 70, 3) := by decide +kernel
theorem dX9_type_54 : decode cX9_type 54 = .ok (.iload_n 2, 1) := by decide +kernel
theorem dX9_type_55 : decode cX9_type 55 = .ok (.bipush 65, 2) := by decide +kernel
theorem dX9_type_57 : decode cX9_type 57 = .ok (.isub, 1) := by decide +kernel
theorem dX9_type_58 : decode cX9_type 58 = .ok (.caload, 1) := by decide +kernel
theorem dX9_type_59 : decode cX9_type 59 = .ok (.istore 5, 2) := by decide +kernel
theorem dX9_type_61 : decode cX9_type 61 = .ok (.aload 4, 2) := by decide +kernel
theorem dX9_type_63 : decode cX9_type 63 = .ok (.getfield 66, 3) := by decide +kernel
theorem dX9_type_66 : decode cX9_type 66 = .ok (.iload_n 2, 1) := by decide +kernel
theorem dX9_type_67 : decode cX9_type 67 = .ok (.bipush 65, 2) := by decide +kernel
theorem dX9_type_69 : decode cX9_type 69 = .ok (.isub, 1) := by decide +kernel
theorem dX9_type_70 : decode cX9_type 70 = .ok (.iload_n 3, 1) := by decide +kernel
theorem dX9_type_71 : decode cX9_type 71 = .ok (.invokevirtual 76, 3) := by decide +kernel
theorem dX9_type_74 : decode cX9_type 74 = .ok (.aload 4, 2) := by decide +kernel
theorem dX9_type_76 : decode cX9_type 76 = .ok (.invokevirtual 80, 3) := by decide +kernel
theorem dX9_type_79 : decode cX9_type 79 = .ok (.iload 5, 2) := by decide +kernel
theorem dX9_type_81 : decode cX9_type 81 = .ok (.ireturn, 1) := by decide +kernel
theorem dX9_flag_0 : decode cX9_flag 0 = .ok (.iload_n 1, 1) := by decide +kernel
theorem dX9_flag_1 : decode cX9_flag 1 = .ok (.iconst 4, 1) := by decide +kernel
theorem dX9_flag_2 : decode cX9_flag 2 = .ok (.invokestatic 54, 3) := by decide +kernel
theorem dX9_flag_5 : decode cX9_flag 5 = .ok (.iload_n 2, 1) := by decide +kernel
theorem dX9_flag_6 : decode cX9_flag 6 = .ok (.invokestatic 58, 3) := by decide +kernel
theorem dX9_flag_9 : decode cX9_flag 9 = .ok (.ifCond .eq 25, 3) := by decide +kernel
theorem dX9_flag_12 : decode cX9_flag 12 = .ok (.iload_n 3, 1) := by decide +kernel
theorem dX9_flag_13 : decode cX9_flag 13 = .ok (.bipush 111, 2) := by decide +kernel
theorem dX9_flag_15 : decode cX9_flag 15 = .ok (.if_icmp .eq 15, 3) := by decide +kernel
theorem dX9_flag_18 : decode cX9_flag 18 = .ok (.iload_n 3, 1) := by decide +kernel
theorem dX9_flag_19 : decode cX9_flag 19 = .ok (.bipush 97, 2) := by decide +kernel
theorem dX9_flag_21 : decode cX9_flag 21 = .ok (.if_icmp .eq 9, 3) := by decide +kernel
theorem dX9_flag_24 : decode cX9_flag 24 = .ok (.iload_n 3, 1) := by decide +kernel
theorem dX9_flag_25 : decode cX9_flag 25 = .ok (.bipush 102, 2) := by decide +kernel
theorem dX9_flag_27 : decode cX9_flag 27 = .ok (.if_icmp .ne 7, 3) := by decide +kernel
theorem dX9_flag_30 : decode cX9_flag 30 = .ok (.iconst 1, 1) := by decide +kernel
theorem dX9_flag_31 : decode cX9_flag 31 = .ok (.goto 4, 3) := by decide +kernel
theorem dX9_flag_34 : decode cX9_flag 34 = .ok (.iconst 0, 1) := by decide +kernel
theorem dX9_flag_35 : decode cX9_flag 35 = .ok (.invokestatic 62, 3) := by decide +kernel
theorem dX9_flag_38 : decode cX9_flag 38 = .ok (.aload_n 0, 1) := by decide +kernel
theorem dX9_flag_39 : decode cX9_flag 39 = .ok (.getfield 11, 3) := by decide +kernel
theorem dX9_flag_42 : decode cX9_flag 42 = .ok (.iload_n 1, 1) := by decide +kernel
theorem dX9_flag_43 : decode cX9_flag 43 = .ok (.aaload, 1) := by decide +kernel
theorem dX9_flag_44 : decode cX9_flag 44 = .ok (.astore 5, 2) := by decide +kernel
theorem dX9_flag_46 : decode cX9_flag 46 = .ok (.aload 5, 2) := by decide +kernel
theorem dX9_flag_48 : decode cX9_flag 48 = .ok (.iload_n 2, 1) := by decide +kernel
theorem dX9_flag_49 : decode cX9_flag 49 = .ok (.invokestatic 83, 3) := by decide +kernel
theorem dX9_flag_52 : decode cX9_flag 52 = .ok (.aload 5, 2) := by decide +kernel
theorem dX9_flag_54 : decode cX9_flag 54 = .ok (.getfield 66, 3) := by decide +kernel
theorem dX9_flag_57 : decode cX9_flag 57 = .ok (.iload_n 3, 1) := by decide +kernel
theorem dX9_flag_58 : decode cX9_flag 58 = .ok (.invokevirtual 87, 3) := by decide +kernel
theorem dX9_flag_61 : decode cX9_flag 61 = .ok (.astore 6, 2) := by decide +kernel
theorem dX9_flag_63 : decode cX9_flag 63 = .ok (.aload 6, 2) := by decide +kernel
theorem dX9_flag_65 : decode cX9_flag 65 = .ok (.iload_n 2, 1) := by decide +kernel
theorem dX9_flag_66 : decode cX9_flag 66 = .ok (.bipush 65, 2) := by decide +kernel
theorem dX9_flag_68 : decode cX9_flag 68 = .ok (.isub, 1) := by decide +kernel
theorem dX9_flag_69 : decode cX9_flag 69 = .ok (.baload, 1) := by decide +kernel
theorem dX9_flag_70 : decode cX9_flag 70 = .ok (.istore 7, 2) := by decide +kernel
theorem dX9_flag_72 : decode cX9_flag 72 = .ok (.aload 6, 2) := by decide +kernel
theorem dX9_flag_74 : decode cX9_flag 74 = .ok (.iload_n 2, 1) := by decide +kernel
theorem dX9_flag_75 : decode cX9_flag 75 = .ok (.bipush 65, 2) := by decide +kernel
theorem dX9_flag_77 : decode cX9_flag 77 = .ok (.isub, 1) := by decide +kernel
theorem dX9_flag_78 : decode cX9_flag 78 = .ok (.iload 4, 2) := by decide +kernel
theorem dX9_flag_80 : decode cX9_flag 80 = .ok (.bastore, 1) := by decide +kernel
theorem dX9_flag_81 : decode cX9_flag 81 = .ok (.aload 5, 2) := by decide +kernel
theorem dX9_flag_83 : decode cX9_flag 83 = .ok (.invokevirtual 80, 3) := by decide +kernel
theorem dX9_flag_86 : decode cX9_flag 86 = .ok (.iload 7, 2) := by decide +kernel
theorem dX9_flag_88 : decode cX9_flag 88 = .ok (.ireturn, 1) := by decide +kernel
theorem dX9_above_0 : decode cX9_above 0 = .ok (.iload_n 1, 1) := by decide +kernel
theorem dX9_above_1 : decode cX9_above 1 = .ok (.iconst 4, 1) := by decide +kernel
theorem dX9_above_2 : decode cX9_above 2 = .ok (.invokestatic 54, 3) := by decide +kernel
theorem dX9_above_5 : decode cX9_above 5 = .ok (.iload_n 2, 1) := by decide +kernel
theorem dX9_above_6 : decode cX9_above 6 = .ok (.invokestatic 58, 3) := by decide +kernel
theorem dX9_above_9 : decode cX9_above 9 = .ok (.ifCond .eq 20, 3) := by decide +kernel
theorem dX9_above_12 : decode cX9_above 12 = .ok (.iload_n 3, 1) := by decide +kernel
theorem dX9_above_13 : decode cX9_above 13 = .ok (.invokestatic 58, 3) := by decide +kernel
theorem dX9_above_16 : decode cX9_above 16 = .ok (.ifCond .ne 9, 3) := by decide +kernel
theorem dX9_above_19 : decode cX9_above 19 = .ok (.iload_n 3, 1) := by decide +kernel
theorem dX9_above_20 : decode cX9_above 20 = .ok (.bipush 45, 2) := by decide +kernel
theorem dX9_above_22 : decode cX9_above 22 = .ok (.if_icmp .ne 7, 3) := by decide +kernel
theorem dX9_above_25 : decode cX9_above 25 = .ok (.iconst 1, 1) := by decide +kernel
theorem dX9_above_26 : decode cX9_above 26 = .ok (.goto 4, 3) := by decide +kernel
theorem dX9_above_29 : decode cX9_above 29 = .ok (.iconst 0, 1) := by decide +kernel
theorem dX9_above_30 : decode cX9_above 30 = .ok (.invokestatic 62, 3) := by decide +kernel
theorem dX9_above_33 : decode cX9_above 33 = .ok (.aload_n 0, 1) := by decide +kernel
theorem dX9_above_34 : decode cX9_above 34 = .ok (.getfield 11, 3) := by decide +kernel
theorem dX9_above_37 : decode cX9_above 37 = .ok (.iload_n 1, 1) := by decide +kernel
theorem dX9_above_38 : decode cX9_above 38 = .ok (.aaload, 1) := by decide +kernel
theorem dX9_above_39 : decode cX9_above 39 = .ok (.astore 4, 2) := by decide +kernel
theorem dX9_above_41 : decode cX9_above 41 = .ok (.aload 4, 2) := by decide +kernel
theorem dX9_above_43 : decode cX9_above 43 = .ok (.iload_n 2, 1) := by decide +kernel
theorem dX9_above_44 : decode cX9_above 44 = .ok (.invokestatic 83, 3) := by decide +kernel
theorem dX9_above_47 : decode cX9_above 47 = .ok (.aload 4, 2) := by decide +kernel
theorem dX9_above_49 : decode cX9_above 49 = .ok (.getfield 66, 3) := by decide +kernel
theorem dX9_above_52 : decode cX9_above 52 = .ok (.getfield 91, 3) := by decide +kernel
theorem dX9_above_55 : decode cX9_above 55 = .ok (.iload_n 2, 1) := by decide +kernel
theorem dX9_above_56 : decode cX9_above 56 = .ok (.bipush 65, 2) := by decide +kernel
theorem dX9_above_58 : decode cX9_above 58 = .ok (.isub, 1) := by decide +kernel
theorem dX9_above_59 : decode cX9_above 59 = .ok (.iaload, 1) := by decide +kernel
theorem dX9_above_60 : decode cX9_above 60 = .ok (.istore 5, 2) := by decide +kernel
theorem dX9_above_62 : decode cX9_above 62 = .ok (.aload 4, 2) := by decide +kernel
theorem dX9_above_64 : decode cX9_above 64 = .ok (.getfield 66, 3) := by decide +kernel
theorem dX9_above_67 : decode cX9_above 67 = .ok (.getfield 91, 3) := by decide +kernel
theorem dX9_above_70 : decode cX9_above 70 = .ok (.iload_n 2, 1) := by decide +kernel
theorem dX9_above_71 : decode cX9_above 71 = .ok (.bipush 65, 2) := by decide +kernel
theorem dX9_above_73 : decode cX9_above 73 = .ok (.isub, 1) := by decide +kernel
theorem dX9_above_74 : decode cX9_above 74 = .ok (.iload_n 3, 1) := by decide +kernel
theorem dX9_above_75 : decode cX9_above 75 = .ok (.bipush 45, 2) := by decide +kernel
theorem dX9_above_77 : decode cX9_above 77 = .ok (.if_icmp .ne 7, 3) := by decide +kernel
theorem dX9_above_80 : decode cX9_above 80 = .ok (.iconst (-1), 1) := by decide +kernel
theorem dX9_above_81 : decode cX9_above 81 = .ok (.goto 7, 3) := by decide +kernel
theorem dX9_above_84 : decode cX9_above 84 = .ok (.iload_n 3, 1) := by decide +kernel
theorem dX9_above_85 : decode cX9_above 85 = .ok (.bipush 65, 2) := by decide +kernel
theorem dX9_above_87 : decode cX9_above 87 = .ok (.isub, 1) := by decide +kernel
theorem dX9_above_88 : decode cX9_above 88 = .ok (.iastore, 1) := by decide +kernel
theorem dX9_above_89 : decode cX9_above 89 = .ok (.aload 4, 2) := by decide +kernel
theorem dX9_above_91 : decode cX9_above 91 = .ok (.invokevirtual 80, 3) := by decide +kernel
theorem dX9_above_94 : decode cX9_above 94 = .ok (.iload 5, 2) := by decide +kernel
theorem dX9_above_96 : decode cX9_above 96 = .ok (.invokestatic 94, 3) := by decide +kernel
theorem dX9_above_99 : decode cX9_above 99 = .ok (.ireturn, 1) := by decide +kernel
theorem dX9_maker_0 : decode cX9_maker 0 = .ok (.iload_n 1, 1) := by decide +kernel
theorem dX9_maker_1 : decode cX9_maker 1 = .ok (.iconst 4, 1) := by decide +kernel
theorem dX9_maker_2 : decode cX9_maker 2 = .ok (.invokestatic 54, 3) := by decide +kernel
theorem dX9_maker_5 : decode cX9_maker 5 = .ok (.iload_n 2, 1) := by decide +kernel
theorem dX9_maker_6 : decode cX9_maker 6 = .ok (.invokestatic 58, 3) := by decide +kernel
theorem dX9_maker_9 : decode cX9_maker 9 = .ok (.ifCond .eq 14, 3) := by decide +kernel
theorem dX9_maker_12 : decode cX9_maker 12 = .ok (.iload_n 3, 1) := by decide +kernel
theorem dX9_maker_13 : decode cX9_maker 13 = .ok (.invokestatic 98, 3) := by decide +kernel
theorem dX9_maker_16 : decode cX9_maker 16 = .ok (.ifCond .eq 7, 3) := by decide +kernel
theorem dX9_maker_19 : decode cX9_maker 19 = .ok (.iconst 1, 1) := by decide +kernel
theorem dX9_maker_20 : decode cX9_maker 20 = .ok (.goto 4, 3) := by decide +kernel
theorem dX9_maker_23 : decode cX9_maker 23 = .ok (.iconst 0, 1) := by decide +kernel
theorem dX9_maker_24 : decode cX9_maker 24 = .ok (.invokestatic 62, 3) := by decide +kernel
theorem dX9_maker_27 : decode cX9_maker 27 = .ok (.aload_n 0, 1) := by decide +kernel
theorem dX9_maker_28 : decode cX9_maker 28 = .ok (.getfield 11, 3) := by decide +kernel
theorem dX9_maker_31 : decode cX9_maker 31 = .ok (.iload_n 1, 1) := by decide +kernel
theorem dX9_maker_32 : decode cX9_maker 32 = .ok (.aaload, 1) := by decide +kernel
theorem dX9_maker_33 : decode cX9_maker 33 = .ok (.astore 4, 2) := by decide +kernel
theorem dX9_maker_35 : decode cX9_maker 35 = .ok (.aload 4, 2) := by decide +kernel
theorem dX9_maker_37 : decode cX9_maker 37 = .ok (.iload_n 2, 1) := by decide +kernel
theorem dX9_maker_38 : decode cX9_maker 38 = .ok (.invokestatic 83, 3) := by decide +kernel
theorem dX9_maker_41 : decode cX9_maker 41 = .ok (.aload 4, 2) := by decide +kernel
theorem dX9_maker_43 : decode cX9_maker 43 = .ok (.getfield 66, 3) := by decide +kernel
theorem dX9_maker_46 : decode cX9_maker 46 = .ok (.getfield 101, 3) := by decide +kernel
theorem dX9_maker_49 : decode cX9_maker 49 = .ok (.iload_n 2, 1) := by decide +kernel
theorem dX9_maker_50 : decode cX9_maker 50 = .ok (.bipush 65, 2) := by decide +kernel
theorem dX9_maker_52 : decode cX9_maker 52 = .ok (.isub, 1) := by decide +kernel
theorem dX9_maker_53 : decode cX9_maker 53 = .ok (.caload, 1) := by decide +kernel
theorem dX9_maker_54 : decode cX9_maker 54 = .ok (.istore 5, 2) := by decide +kernel
theorem dX9_maker_56 : decode cX9_maker 56 = .ok (.aload 4, 2) := by decide +kernel
theorem dX9_maker_58 : decode cX9_maker 58 = .ok (.getfield 66, 3) := by decide +kernel
theorem dX9_maker_61 : decode cX9_maker 61 = .ok (.getfield 101, 3) := by decide +kernel
theorem dX9_maker_64 : decode cX9_maker 64 = .ok (.iload_n 2, 1) := by decide +kernel
theorem dX9_maker_65 : decode cX9_maker 65 = .ok (.bipush 65, 2) := by decide +kernel
theorem dX9_maker_67 : decode cX9_maker 67 = .ok (.isub, 1) := by decide +kernel
theorem dX9_maker_68 : decode cX9_maker 68 = .ok (.iload_n 3, 1) := by decide +kernel
theorem dX9_maker_69 : decode cX9_maker 69 = .ok (.castore, 1) := by decide +kernel
theorem dX9_maker_70 : decode cX9_maker 70 = .ok (.aload 4, 2) := by decide +kernel
theorem dX9_maker_72 : decode cX9_maker 72 = .ok (.invokevirtual 80, 3) := by decide +kernel
theorem dX9_maker_75 : decode cX9_maker 75 = .ok (.iload 5, 2) := by decide +kernel
theorem dX9_maker_77 : decode cX9_maker 77 = .ok (.ireturn, 1) := by decide +kernel
theorem dX9_under_0 : decode cX9_under 0 = .ok (.iload_n 1, 1) := by decide +kernel
theorem dX9_under_1 : decode cX9_under 1 = .ok (.iconst 4, 1) := by decide +kernel
theorem dX9_under_2 : decode cX9_under 2 = .ok (.invokestatic 54, 3) := by decide +kernel
theorem dX9_under_5 : decode cX9_under 5 = .ok (.iload_n 2, 1) := by decide +kernel
theorem dX9_under_6 : decode cX9_under 6 = .ok (.invokestatic 58, 3) := by decide +kernel
theorem dX9_under_9 : decode cX9_under 9 = .ok (.ifCond .eq 14, 3) := by decide +kernel
theorem dX9_under_12 : decode cX9_under 12 = .ok (.iload_n 3, 1) := by decide +kernel
theorem dX9_under_13 : decode cX9_under 13 = .ok (.invokestatic 58, 3) := by decide +kernel
theorem dX9_under_16 : decode cX9_under 16 = .ok (.ifCond .eq 7, 3) := by decide +kernel
theorem dX9_under_19 : decode cX9_under 19 = .ok (.iconst 1, 1) := by decide +kernel
theorem dX9_under_20 : decode cX9_under 20 = .ok (.goto 4, 3) := by decide +kernel
theorem dX9_under_23 : decode cX9_under 23 = .ok (.iconst 0, 1) := by decide +kernel
theorem dX9_under_24 : decode cX9_under 24 = .ok (.invokestatic 62, 3) := by decide +kernel
theorem dX9_under_27 : decode cX9_under 27 = .ok (.aload_n 0, 1) := by decide +kernel
theorem dX9_under_28 : decode cX9_under 28 = .ok (.getfield 11, 3) := by decide +kernel
theorem dX9_under_31 : decode cX9_under 31 = .ok (.iload_n 1, 1) := by decide +kernel
theorem dX9_under_32 : decode cX9_under 32 = .ok (.aaload, 1) := by decide +kernel
theorem dX9_under_33 : decode cX9_under 33 = .ok (.astore 5, 2) := by decide +kernel
theorem dX9_under_35 : decode cX9_under 35 = .ok (.aload 5, 2) := by decide +kernel
theorem dX9_under_37 : decode cX9_under 37 = .ok (.iload_n 2, 1) := by decide +kernel
theorem dX9_under_38 : decode cX9_under 38 = .ok (.invokestatic 83, 3) := by decide +kernel
theorem dX9_under_41 : decode cX9_under 41 = .ok (.aload 5, 2) := by decide +kernel
theorem dX9_under_43 : decode cX9_under 43 = .ok (.getfield 66, 3) := by decide +kernel
theorem dX9_under_46 : decode cX9_under 46 = .ok (.getfield 104, 3) := by decide +kernel
theorem dX9_under_49 : decode cX9_under 49 = .ok (.iload_n 2, 1) := by decide +kernel
theorem dX9_under_50 : decode cX9_under 50 = .ok (.bipush 65, 2) := by decide +kernel
theorem dX9_under_52 : decode cX9_under 52 = .ok (.isub, 1) := by decide +kernel
theorem dX9_under_53 : decode cX9_under 53 = .ok (.iaload, 1) := by decide +kernel
theorem dX9_under_54 : decode cX9_under 54 = .ok (.istore 6, 2) := by decide +kernel
theorem dX9_under_56 : decode cX9_under 56 = .ok (.aload 5, 2) := by decide +kernel
theorem dX9_under_58 : decode cX9_under 58 = .ok (.getfield 66, 3) := by decide +kernel
theorem dX9_under_61 : decode cX9_under 61 = .ok (.getfield 104, 3) := by decide +kernel
theorem dX9_under_64 : decode cX9_under 64 = .ok (.iload_n 2, 1) := by decide +kernel
theorem dX9_under_65 : decode cX9_under 65 = .ok (.bipush 65, 2) := by decide +kernel
theorem dX9_under_67 : decode cX9_under 67 = .ok (.isub, 1) := by decide +kernel
theorem dX9_under_68 : decode cX9_under 68 = .ok (.iload 6, 2) := by decide +kernel
theorem dX9_under_70 : decode cX9_under 70 = .ok (.iload_n 3, 1) := by decide +kernel
theorem dX9_under_71 : decode cX9_under 71 = .ok (.bipush 65, 2) := by decide +kernel
theorem dX9_under_73 : decode cX9_under 73 = .ok (.isub, 1) := by decide +kernel
theorem dX9_under_74 : decode cX9_under 74 = .ok (.iload 4, 2) := by decide +kernel
theorem dX9_under_76 : decode cX9_under 76 = .ok (.invokestatic 107, 3) := by decide +kernel
theorem dX9_under_79 : decode cX9_under 79 = .ok (.iastore, 1) := by decide +kernel
theorem dX9_under_80 : decode cX9_under 80 = .ok (.aload 5, 2) := by decide +kernel
theorem dX9_under_82 : decode cX9_under 82 = .ok (.invokevirtual 80, 3) := by decide +kernel
theorem dX9_under_85 : decode cX9_under 85 = .ok (.iload 6, 2) := by decide +kernel
theorem dX9_under_87 : decode cX9_under 87 = .ok (.iload_n 3, 1) := by decide +kernel
theorem dX9_under_88 : decode cX9_under 88 = .ok (.bipush 65, 2) := by decide +kernel
theorem dX9_under_90 : decode cX9_under 90 = .ok (.isub, 1) := by decide +kernel
theorem dX9_under_91 : decode cX9_under 91 = .ok (.invokestatic 111, 3) := by decide +kernel
theorem dX9_under_94 : decode cX9_under 94 = .ok (.ireturn, 1) := by decide +kernel
theorem dX9_method_0 : decode cX9_method 0 = .ok (.iload_n 1, 1) := by decide +kernel
theorem dX9_method_1 : decode cX9_method 1 = .ok (.iconst 4, 1) := by decide +kernel
theorem dX9_method_2 : decode cX9_method 2 = .ok (.invokestatic 54, 3) := by decide +kernel
theorem dX9_method_5 : decode cX9_method 5 = .ok (.iload_n 2, 1) := by decide +kernel
theorem dX9_method_6 : decode cX9_method 6 = .ok (.invokestatic 58, 3) := by decide +kernel
theorem dX9_method_9 : decode cX9_method 9 = .ok (.ifCond .eq 31, 3) := by decide +kernel
theorem dX9_method_12 : decode cX9_method 12 = .ok (.iload_n 3, 1) := by decide +kernel
theorem dX9_method_13 : decode cX9_method 13 = .ok (.iload 4, 2) := by decide +kernel
theorem dX9_method_15 : decode cX9_method 15 = .ok (.invokestatic 115, 3) := by decide +kernel
theorem dX9_method_18 : decode cX9_method 18 = .ok (.ifCond .eq 22, 3) := by decide +kernel
theorem dX9_method_21 : decode cX9_method 21 = .ok (.iload 5, 2) := by decide +kernel
theorem dX9_method_23 : decode cX9_method 23 = .ok (.invokestatic 98, 3) := by decide +kernel
theorem dX9_method_26 : decode cX9_method 26 = .ok (.ifCond .ne 10, 3) := by decide +kernel
theorem dX9_method_29 : decode cX9_method 29 = .ok (.iload 5, 2) := by decide +kernel
theorem dX9_method_31 : decode cX9_method 31 = .ok (.bipush 45, 2) := by decide +kernel
theorem dX9_method_33 : decode cX9_method 33 = .ok (.if_icmp .ne 7, 3) := by decide +kernel
theorem dX9_method_36 : decode cX9_method 36 = .ok (.iconst 1, 1) := by decide +kernel
theorem dX9_method_37 : decode cX9_method 37 = .ok (.goto 4, 3) := by decide +kernel
theorem dX9_method_40 : decode cX9_method 40 = .ok (.iconst 0, 1) := by decide +kernel
theorem dX9_method_41 : decode cX9_method 41 = .ok (.invokestatic 62, 3) := by decide +kernel
theorem dX9_method_44 : decode cX9_method 44 = .ok (.iload 6, 2) := by decide +kernel
theorem dX9_method_46 : decode cX9_method 46 = .ok (.bipush 110, 2) := by decide +kernel
theorem dX9_method_48 : decode cX9_method 48 = .ok (.if_icmp .eq 24, 3) := by decide +kernel
theorem dX9_method_51 : decode cX9_method 51 = .ok (.iload 6, 2) := by decide +kernel
theorem dX9_method_53 : decode cX9_method 53 = .ok (.bipush 115, 2) := by decide +kernel
theorem dX9_method_55 : decode cX9_method 55 = .ok (.if_icmp .eq 17, 3) := by decide +kernel
theorem dX9_method_58 : decode cX9_method 58 = .ok (.iload 6, 2) := by decide +kernel
theorem dX9_method_60 : decode cX9_method 60 = .ok (.bipush 97, 2) := by decide +kernel
theorem dX9_method_62 : decode cX9_method 62 = .ok (.if_icmp .eq 10, 3) := by decide +kernel
theorem dX9_method_65 : decode cX9_method 65 = .ok (.iload 6, 2) := by decide +kernel
theorem dX9_method_67 : decode cX9_method 67 = .ok (.bipush 102, 2) := by decide +kernel
theorem dX9_method_69 : decode cX9_method 69 = .ok (.if_icmp .ne 19, 3) := by decide +kernel
theorem dX9_method_72 : decode cX9_method 72 = .ok (.iload 7, 2) := by decide +kernel
theorem dX9_method_74 : decode cX9_method 74 = .ok (.ifCond .lt 14, 3) := by decide +kernel
theorem dX9_method_77 : decode cX9_method 77 = .ok (.iload 7, 2) := by decide +kernel
theorem dX9_method_79 : decode cX9_method 79 = .ok (.bipush 99, 2) := by decide +kernel
theorem dX9_method_81 : decode cX9_method 81 = .ok (.if_icmp .gt 7, 3) := by decide +kernel
theorem dX9_method_84 : decode cX9_method 84 = .ok (.iconst 1, 1) := by decide +kernel
theorem dX9_method_85 : decode cX9_method 85 = .ok (.goto 4, 3) := by decide +kernel
theorem dX9_method_88 : decode cX9_method 88 = .ok (.iconst 0, 1) := by decide +kernel
theorem dX9_method_89 : decode cX9_method 89 = .ok (.invokestatic 62, 3) := by decide +kernel
theorem dX9_method_92 : decode cX9_method 92 = .ok (.aload_n 0, 1) := by decide +kernel
theorem dX9_method_93 : decode cX9_method 93 = .ok (.getfield 11, 3) := by decide +kernel
theorem dX9_method_96 : decode cX9_method 96 = .ok (.iload_n 1, 1) := by decide +kernel
theorem dX9_method_97 : decode cX9_method 97 = .ok (.aaload, 1) := by decide +kernel
theorem dX9_method_98 : decode cX9_method 98 = .ok (.astore 8, 2) := by decide +kernel
theorem dX9_method_100 : decode cX9_method 100 = .ok (.aload 8, 2) := by decide +kernel
theorem dX9_method_102 : decode cX9_method 102 = .ok (.iload_n 2, 1) := by decide +kernel
theorem dX9_method_103 : decode cX9_method 103 = .ok (.invokestatic 83, 3) := by decide +kernel
theorem dX9_method_106 : decode cX9_method 106 = .ok (.aload 8, 2) := by decide +kernel
theorem dX9_method_108 : decode cX9_method 108 = .ok (.invokevirtual 80, 3) := by decide +kernel
theorem dX9_method_111 : decode cX9_method 111 = .ok (.aload 8, 2) := by decide +kernel
theorem dX9_method_113 : decode cX9_method 113 = .ok (.getfield 66, 3) := by decide +kernel
theorem dX9_method_116 : decode cX9_method 116 = .ok (.getfield 119, 3) := by decide +kernel
theorem dX9_method_119 : decode cX9_method 119 = .ok (.iload_n 2, 1) := by decide +kernel
theorem dX9_method_120 : decode cX9_method 120 = .ok (.iload_n 3, 1) := by decide +kernel
theorem dX9_method_121 : decode cX9_method 121 = .ok (.iload 4, 2) := by decide +kernel
theorem dX9_method_123 : decode cX9_method 123 = .ok (.invokestatic 123, 3) := by decide +kernel
theorem dX9_method_126 : decode cX9_method 126 = .ok (.iload 5, 2) := by decide +kernel
theorem dX9_method_128 : decode cX9_method 128 = .ok (.iload 6, 2) := by decide +kernel
theorem dX9_method_130 : decode cX9_method 130 = .ok (.iload 7, 2) := by decide +kernel
theorem dX9_method_132 : decode cX9_method 132 = .ok (.invokevirtual 127, 3) := by decide +kernel
theorem dX9_method_135 : decode cX9_method 135 = .ok (.ireturn, 1) := by decide +kernel
theorem dX9_field_0 : decode cX9_field 0 = .ok (.iload_n 1, 1) := by decide +kernel
theorem dX9_field_1 : decode cX9_field 1 = .ok (.iconst 4, 1) := by decide +kernel
theorem dX9_field_2 : decode cX9_field 2 = .ok (.invokestatic 54, 3) := by decide +kernel
theorem dX9_field_5 : decode cX9_field 5 = .ok (.iload_n 2, 1) := by decide +kernel
theorem dX9_field_6 : decode cX9_field 6 = .ok (.invokestatic 58, 3) := by decide +kernel
theorem dX9_field_9 : decode cX9_field 9 = .ok (.ifCond .eq 31, 3) := by decide +kernel
theorem dX9_field_12 : decode cX9_field 12 = .ok (.iload_n 3, 1) := by decide +kernel
theorem dX9_field_13 : decode cX9_field 13 = .ok (.iload 4, 2) := by decide +kernel
theorem dX9_field_15 : decode cX9_field 15 = .ok (.invokestatic 115, 3) := by decide +kernel
theorem dX9_field_18 : decode cX9_field 18 = .ok (.ifCond .eq 22, 3) := by decide +kernel
theorem dX9_field_21 : decode cX9_field 21 = .ok (.iload 5, 2) := by decide +kernel
theorem dX9_field_23 : decode cX9_field 23 = .ok (.invokestatic 98, 3) := by decide +kernel
theorem dX9_field_26 : decode cX9_field 26 = .ok (.ifCond .ne 10, 3) := by decide +kernel
theorem dX9_field_29 : decode cX9_field 29 = .ok (.iload 5, 2) := by decide +kernel
theorem dX9_field_31 : decode cX9_field 31 = .ok (.bipush 45, 2) := by decide +kernel
theorem dX9_field_33 : decode cX9_field 33 = .ok (.if_icmp .ne 7, 3) := by decide +kernel
theorem dX9_field_36 : decode cX9_field 36 = .ok (.iconst 1, 1) := by decide +kernel
theorem dX9_field_37 : decode cX9_field 37 = .ok (.goto 4, 3) := by decide +kernel
theorem dX9_field_40 : decode cX9_field 40 = .ok (.iconst 0, 1) := by decide +kernel
theorem dX9_field_41 : decode cX9_field 41 = .ok (.invokestatic 62, 3) := by decide +kernel
theorem dX9_field_44 : decode cX9_field 44 = .ok (.iload 6, 2) := by decide +kernel
theorem dX9_field_46 : decode cX9_field 46 = .ok (.bipush 110, 2) := by decide +kernel
theorem dX9_field_48 : decode cX9_field 48 = .ok (.if_icmp .eq 24, 3) := by decide +kernel
theorem dX9_field_51 : decode cX9_field 51 = .ok (.iload 6, 2) := by decide +kernel
theorem dX9_field_53 : decode cX9_field 53 = .ok (.bipush 115, 2) := by decide +kernel
theorem dX9_field_55 : decode cX9_field 55 = .ok (.if_icmp .eq 17, 3) := by decide +kernel
theorem dX9_field_58 : decode cX9_field 58 = .ok (.iload 6, 2) := by decide +kernel
theorem dX9_field_60 : decode cX9_field 60 = .ok (.bipush 102, 2) := by decide +kernel
theorem dX9_field_62 : decode cX9_field 62 = .ok (.if_icmp .eq 10, 3) := by decide +kernel
theorem dX9_field_65 : decode cX9_field 65 = .ok (.iload 6, 2) := by decide +kernel
theorem dX9_field_67 : decode cX9_field 67 = .ok (.bipush 70, 2) := by decide +kernel
theorem dX9_field_69 : decode cX9_field 69 = .ok (.if_icmp .ne 19, 3) := by decide +kernel
theorem dX9_field_72 : decode cX9_field 72 = .ok (.iload 7, 2) := by decide +kernel
theorem dX9_field_74 : decode cX9_field 74 = .ok (.ifCond .lt 14, 3) := by decide +kernel
theorem dX9_field_77 : decode cX9_field 77 = .ok (.iload 7, 2) := by decide +kernel
theorem dX9_field_79 : decode cX9_field 79 = .ok (.bipush 99, 2) := by decide +kernel
theorem dX9_field_81 : decode cX9_field 81 = .ok (.if_icmp .gt 7, 3) := by decide +kernel
theorem dX9_field_84 : decode cX9_field 84 = .ok (.iconst 1, 1) := by decide +kernel
theorem dX9_field_85 : decode cX9_field 85 = .ok (.goto 4, 3) := by decide +kernel
theorem dX9_field_88 : decode cX9_field 88 = .ok (.iconst 0, 1) := by decide +kernel
theorem dX9_field_89 : decode cX9_field 89 = .ok (.invokestatic 62, 3) := by decide +kernel
theorem dX9_field_92 : decode cX9_field 92 = .ok (.aload_n 0, 1) := by decide +kernel
theorem dX9_field_93 : decode cX9_field 93 = .ok (.getfield 11, 3) := by decide +kernel
theorem dX9_field_96 : decode cX9_field 96 = .ok (.iload_n 1, 1) := by decide +kernel
theorem dX9_field_97 : decode cX9_field 97 = .ok (.aaload, 1) := by decide +kernel
theorem dX9_field_98 : decode cX9_field 98 = .ok (.astore 8, 2) := by decide +kernel
theorem dX9_field_100 : decode cX9_field 100 = .ok (.aload 8, 2) := by decide +kernel
theorem dX9_field_102 : decode cX9_field 102 = .ok (.iload_n 2, 1) := by decide +kernel
theorem dX9_field_103 : decode cX9_field 103 = .ok (.invokestatic 83, 3) := by decide +kernel
theorem dX9_field_106 : decode cX9_field 106 = .ok (.aload 8, 2) := by decide +kernel
theorem dX9_field_108 : decode cX9_field 108 = .ok (.invokevirtual 80, 3) := by decide +kernel
theorem dX9_field_111 : decode cX9_field 111 = .ok (.aload 8, 2) := by decide +kernel
theorem dX9_field_113 : decode cX9_field 113 = .ok (.getfield 66, 3) := by decide +kernel
theorem dX9_field_116 : decode cX9_field 116 = .ok (.getfield 133, 3) := by decide +kernel
theorem dX9_field_119 : decode cX9_field 119 = .ok (.iload_n 2, 1) := by decide +kernel
theorem dX9_field_120 : decode cX9_field 120 = .ok (.iload_n 3, 1) := by decide +kernel
theorem dX9_field_121 : decode cX9_field 121 = .ok (.iload 4, 2) := by decide +kernel
theorem dX9_field_123 : decode cX9_field 123 = .ok (.invokestatic 123, 3) := by decide +kernel
theorem dX9_field_126 : decode cX9_field 126 = .ok (.iload 5, 2) := by decide +kernel
theorem dX9_field_128 : decode cX9_field 128 = .ok (.iload 6, 2) := by decide +kernel
theorem dX9_field_130 : decode cX9_field 130 = .ok (.iload 7, 2) := by decide +kernel
theorem dX9_field_132 : decode cX9_field 132 = .ok (.invokevirtual 127, 3) := by decide +kernel
theorem dX9_field_135 : decode cX9_field 135 = .ok (.ireturn, 1) := by decide +kernel
theorem dX9_copy_0 : decode cX9_copy 0 = .ok (.iload_n 1, 1) := by decide +kernel
theorem dX9_copy_1 : decode cX9_copy 1 = .ok (.iconst 4, 1) := by decide +kernel
theorem dX9_copy_2 : decode cX9_copy 2 = .ok (.invokestatic 54, 3) := by decide +kernel
theorem dX9_copy_5 : decode cX9_copy 5 = .ok (.iload_n 2, 1) := by decide +kernel
theorem dX9_copy_6 : decode cX9_copy 6 = .ok (.iconst 4, 1) := by decide +kernel
theorem dX9_copy_7 : decode cX9_copy 7 = .ok (.invokestatic 54, 3) := by decide +kernel
theorem dX9_copy_10 : decode cX9_copy 10 = .ok (.aload_n 0, 1) := by decide +kernel
theorem dX9_copy_11 : decode cX9_copy 11 = .ok (.getfield 11, 3) := by decide +kernel
theorem dX9_copy_14 : decode cX9_copy 14 = .ok (.iload_n 2, 1) := by decide +kernel
theorem dX9_copy_15 : decode cX9_copy 15 = .ok (.aaload, 1) := by decide +kernel
theorem dX9_copy_16 : decode cX9_copy 16 = .ok (.aload_n 0, 1) := by decide +kernel
theorem dX9_copy_17 : decode cX9_copy 17 = .ok (.getfield 11, 3) := by decide +kernel
theorem dX9_copy_20 : decode cX9_copy 20 = .ok (.iload_n 1, 1) := by decide +kernel
theorem dX9_copy_21 : decode cX9_copy 21 = .ok (.aaload, 1) := by decide +kernel
theorem dX9_copy_22 : decode cX9_copy 22 = .ok (.invokevirtual 140, 3) := by decide +kernel
theorem dX9_copy_25 : decode cX9_copy 25 = .ok (.aload_n 0, 1) := by decide +kernel
theorem dX9_copy_26 : decode cX9_copy 26 = .ok (.getfield 11, 3) := by decide +kernel
theorem dX9_copy_29 : decode cX9_copy 29 = .ok (.iload_n 2, 1) := by decide +kernel
theorem dX9_copy_30 : decode cX9_copy 30 = .ok (.aaload, 1) := by decide +kernel
theorem dX9_copy_31 : decode cX9_copy 31 = .ok (.getfield 66, 3) := by decide +kernel
theorem dX9_copy_34 : decode cX9_copy 34 = .ok (.invokevirtual 144, 3) := by decide +kernel
theorem dX9_copy_37 : decode cX9_copy 37 = .ok (.ireturn, 1) := by decide +kernel
theorem dX9_check_0 : decode cX9_check 0 = .ok (.iload_n 1, 1) := by decide +kernel
theorem dX9_check_1 : decode cX9_check 1 = .ok (.iconst 4, 1) := by decide +kernel
theorem dX9_check_2 : decode cX9_check 2 = .ok (.invokestatic 54, 3) := by decide +kernel
theorem dX9_check_5 : decode cX9_check 5 = .ok (.aload_n 0, 1) := by decide +kernel
theorem dX9_check_6 : decode cX9_check 6 = .ok (.getfield 11, 3) := by decide +kernel
theorem dX9_check_9 : decode cX9_check 9 = .ok (.iload_n 1, 1) := by decide +kernel
theorem dX9_check_10 : decode cX9_check 10 = .ok (.aaload, 1) := by decide +kernel
theorem dX9_check_11 : decode cX9_check 11 = .ok (.invokevirtual 148, 3) := by decide +kernel
theorem dX9_check_14 : decode cX9_check 14 = .ok (.ireturn, 1) := by decide +kernel
theorem dX9_wipe_0 : decode cX9_wipe 0 = .ok (.iload_n 1, 1) := by decide +kernel
theorem dX9_wipe_1 : decode cX9_wipe 1 = .ok (.iconst 4, 1) := by decide +kernel
theorem dX9_wipe_2 : decode cX9_wipe 2 = .ok (.invokestatic 54, 3) := by decide +kernel
theorem dX9_wipe_5 : decode cX9_wipe 5 = .ok (.aload_n 0, 1) := by decide +kernel
theorem dX9_wipe_6 : decode cX9_wipe 6 = .ok (.getfield 17, 3) := by decide +kernel
theorem dX9_wipe_9 : decode cX9_wipe 9 = .ok (.iload_n 1, 1) := by decide +kernel
theorem dX9_wipe_10 : decode cX9_wipe 10 = .ok (.aaload, 1) := by decide +kernel
theorem dX9_wipe_11 : decode cX9_wipe 11 = .ok (.getfield 166, 3) := by decide +kernel
theorem dX9_wipe_14 : decode cX9_wipe 14 = .ok (.istore_n 2, 1) := by decide +kernel
theorem dX9_wipe_15 : decode cX9_wipe 15 = .ok (.aload_n 0, 1) := by decide +kernel
theorem dX9_wipe_16 : decode cX9_wipe 16 = .ok (.getfield 17, 3) := by decide +kernel
theorem dX9_wipe_19 : decode cX9_wipe 19 = .ok (.iload_n 1, 1) := by decide +kernel
theorem dX9_wipe_20 : decode cX9_wipe 20 = .ok (.aaload, 1) := by decide +kernel
theorem dX9_wipe_21 : decode cX9_wipe 21 = .ok (.invokevirtual 169, 3) := by decide +kernel
theorem dX9_wipe_24 : decode cX9_wipe 24 = .ok (.iload_n 2, 1) := by decide +kernel
theorem dX9_wipe_25 : decode cX9_wipe 25 = .ok (.ireturn, 1) := by decide +kernel
theorem dX9_own_0 : decode cX9_own 0 = .ok (.iload_n 1, 1) := by decide +kernel
theorem dX9_own_1 : decode cX9_own 1 = .ok (.iconst 4, 1) := by decide +kernel
theorem dX9_own_2 : decode cX9_own 2 = .ok (.invokestatic 54, 3) := by decide +kernel
theorem dX9_own_5 : decode cX9_own 5 = .ok (.aload_n 0, 1) := by decide +kernel
theorem dX9_own_6 : decode cX9_own 6 = .ok (.getfield 17, 3) := by decide +kernel
theorem dX9_own_9 : decode cX9_own 9 = .ok (.iload_n 1, 1) := by decide +kernel
theorem dX9_own_10 : decode cX9_own 10 = .ok (.aaload, 1) := by decide +kernel
theorem dX9_own_11 : decode cX9_own 11 = .ok (.astore_n 3, 1) := by decide +kernel
theorem dX9_own_12 : decode cX9_own 12 = .ok (.aload_n 3, 1) := by decide +kernel
theorem dX9_own_13 : decode cX9_own 13 = .ok (.getfield 172, 3) := by decide +kernel
theorem dX9_own_16 : decode cX9_own 16 = .ok (.getfield 176, 3) := by decide +kernel
theorem dX9_own_19 : decode cX9_own 19 = .ok (.istore 4, 2) := by decide +kernel
theorem dX9_own_21 : decode cX9_own 21 = .ok (.aload_n 3, 1) := by decide +kernel
theorem dX9_own_22 : decode cX9_own 22 = .ok (.getfield 166, 3) := by decide +kernel
theorem dX9_own_25 : decode cX9_own 25 = .ok (.ifCond .eq 9, 3) := by decide +kernel
theorem dX9_own_28 : decode cX9_own 28 = .ok (.iload 4, 2) := by decide +kernel
theorem dX9_own_30 : decode cX9_own 30 = .ok (.iload_n 2, 1) := by decide +kernel
theorem dX9_own_31 : decode cX9_own 31 = .ok (.if_icmp .ne 7, 3) := by decide +kernel
theorem dX9_own_34 : decode cX9_own 34 = .ok (.iconst 1, 1) := by decide +kernel
theorem dX9_own_35 : decode cX9_own 35 = .ok (.goto 4, 3) := by decide +kernel
theorem dX9_own_38 : decode cX9_own 38 = .ok (.iconst 0, 1) := by decide +kernel
theorem dX9_own_39 : decode cX9_own 39 = .ok (.invokestatic 151, 3) := by decide +kernel
theorem dX9_own_42 : decode cX9_own 42 = .ok (.iload 4, 2) := by decide +kernel
theorem dX9_own_44 : decode cX9_own 44 = .ok (.iload_n 2, 1) := by decide +kernel
theorem dX9_own_45 : decode cX9_own 45 = .ok (.if_icmp .eq 18, 3) := by decide +kernel
theorem dX9_own_48 : decode cX9_own 48 = .ok (.aload_n 3, 1) := by decide +kernel
theorem dX9_own_49 : decode cX9_own 49 = .ok (.getfield 172, 3) := by decide +kernel
theorem dX9_own_52 : decode cX9_own 52 = .ok (.invokevirtual 182, 3) := by decide +kernel
theorem dX9_own_55 : decode cX9_own 55 = .ok (.aload_n 3, 1) := by decide +kernel
theorem dX9_own_56 : decode cX9_own 56 = .ok (.getfield 172, 3) := by decide +kernel
theorem dX9_own_59 : decode cX9_own 59 = .ok (.iload_n 2, 1) := by decide +kernel
theorem dX9_own_60 : decode cX9_own 60 = .ok (.putfield 176, 3) := by decide +kernel
theorem dX9_own_63 : decode cX9_own 63 = .ok (.iload 4, 2) := by decide +kernel
theorem dX9_own_65 : decode cX9_own 65 = .ok (.ireturn, 1) := by decide +kernel
theorem dX9_ownAbove_0 : decode cX9_ownAbove 0 = .ok (.iload_n 1, 1) := by decide +kernel
theorem dX9_ownAbove_1 : decode cX9_ownAbove 1 = .ok (.iconst 4, 1) := by decide +kernel
theorem dX9_ownAbove_2 : decode cX9_ownAbove 2 = .ok (.invokestatic 54, 3) := by decide +kernel
theorem dX9_ownAbove_5 : decode cX9_ownAbove 5 = .ok (.iload_n 2, 1) := by decide +kernel
theorem dX9_ownAbove_6 : decode cX9_ownAbove 6 = .ok (.invokestatic 58, 3) := by decide +kernel
theorem dX9_ownAbove_9 : decode cX9_ownAbove 9 = .ok (.ifCond .ne 9, 3) := by decide +kernel
theorem dX9_ownAbove_12 : decode cX9_ownAbove 12 = .ok (.iload_n 2, 1) := by decide +kernel
theorem dX9_ownAbove_13 : decode cX9_ownAbove 13 = .ok (.bipush 45, 2) := by decide +kernel
theorem dX9_ownAbove_15 : decode cX9_ownAbove 15 = .ok (.if_icmp .ne 7, 3) := by decide +kernel
theorem dX9_ownAbove_18 : decode cX9_ownAbove 18 = .ok (.iconst 1, 1) := by decide +kernel
theorem dX9_ownAbove_19 : decode cX9_ownAbove 19 = .ok (.goto 4, 3) := by decide +kernel
theorem dX9_ownAbove_22 : decode cX9_ownAbove 22 = .ok (.iconst 0, 1) := by decide +kernel
theorem dX9_ownAbove_23 : decode cX9_ownAbove 23 = .ok (.invokestatic 62, 3) := by decide +kernel
theorem dX9_ownAbove_26 : decode cX9_ownAbove 26 = .ok (.aload_n 0, 1) := by decide +kernel
theorem dX9_ownAbove_27 : decode cX9_ownAbove 27 = .ok (.getfield 17, 3) := by decide +kernel
theorem dX9_ownAbove_30 : decode cX9_ownAbove 30 = .ok (.iload_n 1, 1) := by decide +kernel
theorem dX9_ownAbove_31 : decode cX9_ownAbove 31 = .ok (.aaload, 1) := by decide +kernel
theorem dX9_ownAbove_32 : decode cX9_ownAbove 32 = .ok (.getfield 172, 3) := by decide +kernel
theorem dX9_ownAbove_35 : decode cX9_ownAbove 35 = .ok (.astore_n 3, 1) := by decide +kernel
theorem dX9_ownAbove_36 : decode cX9_ownAbove 36 = .ok (.aload_n 3, 1) := by decide +kernel
theorem dX9_ownAbove_37 : decode cX9_ownAbove 37 = .ok (.getfield 176, 3) := by decide +kernel
theorem dX9_ownAbove_40 : decode cX9_ownAbove 40 = .ok (.invokestatic 151, 3) := by decide +kernel
theorem dX9_ownAbove_43 : decode cX9_ownAbove 43 = .ok (.aload_n 3, 1) := by decide +kernel
theorem dX9_ownAbove_44 : decode cX9_ownAbove 44 = .ok (.getfield 183, 3) := by decide +kernel
theorem dX9_ownAbove_47 : decode cX9_ownAbove 47 = .ok (.istore 4, 2) := by decide +kernel
theorem dX9_ownAbove_49 : decode cX9_ownAbove 49 = .ok (.aload_n 3, 1) := by decide +kernel
theorem dX9_ownAbove_50 : decode cX9_ownAbove 50 = .ok (.iload_n 2, 1) := by decide +kernel
theorem dX9_ownAbove_51 : decode cX9_ownAbove 51 = .ok (.bipush 45, 2) := by decide +kernel
theorem dX9_ownAbove_53 : decode cX9_ownAbove 53 = .ok (.if_icmp .ne 7, 3) := by decide +kernel
theorem dX9_ownAbove_56 : decode cX9_ownAbove 56 = .ok (.iconst (-1), 1) := by decide +kernel
theorem dX9_ownAbove_57 : decode cX9_ownAbove 57 = .ok (.goto 7, 3) := by decide +kernel
theorem dX9_ownAbove_60 : decode cX9_ownAbove 60 = .ok (.iload_n 2, 1) := by decide +kernel
theorem dX9_ownAbove_61 : decode cX9_ownAbove 61 = .ok (.bipush 65, 2) := by decide +kernel
theorem dX9_ownAbove_63 : decode cX9_ownAbove 63 = .ok (.isub, 1) := by decide +kernel
theorem dX9_ownAbove_64 : decode cX9_ownAbove 64 = .ok (.putfield 183, 3) := by decide +kernel
theorem dX9_ownAbove_67 : decode cX9_ownAbove 67 = .ok (.iload 4, 2) := by decide +kernel
theorem dX9_ownAbove_69 : decode cX9_ownAbove 69 = .ok (.invokestatic 94, 3) := by decide +kernel
theorem dX9_ownAbove_72 : decode cX9_ownAbove 72 = .ok (.ireturn, 1) := by decide +kernel
theorem dX9_ownUnder_0 : decode cX9_ownUnder 0 = .ok (.iload_n 1, 1) := by decide +kernel
theorem dX9_ownUnder_1 : decode cX9_ownUnder 1 = .ok (.iconst 4, 1) := by decide +kernel
theorem dX9_ownUnder_2 : decode cX9_ownUnder 2 = .ok (.invokestatic 54, 3) := by decide +kernel
theorem dX9_ownUnder_5 : decode cX9_ownUnder 5 = .ok (.iload_n 2, 1) := by decide +kernel
theorem dX9_ownUnder_6 : decode cX9_ownUnder 6 = .ok (.invokestatic 58, 3) := by decide +kernel
theorem dX9_ownUnder_9 : decode cX9_ownUnder 9 = .ok (.invokestatic 62, 3) := by decide +kernel
theorem dX9_ownUnder_12 : decode cX9_ownUnder 12 = .ok (.aload_n 0, 1) := by decide +kernel
theorem dX9_ownUnder_13 : decode cX9_ownUnder 13 = .ok (.getfield 17, 3) := by decide +kernel
theorem dX9_ownUnder_16 : decode cX9_ownUnder 16 = .ok (.iload_n 1, 1) := by decide +kernel
theorem dX9_ownUnder_17 : decode cX9_ownUnder 17 = .ok (.aaload, 1) := by decide +kernel
theorem dX9_ownUnder_18 : decode cX9_ownUnder 18 = .ok (.getfield 172, 3) := by decide +kernel
theorem dX9_ownUnder_21 : decode cX9_ownUnder 21 = .ok (.astore 4, 2) := by decide +kernel
theorem dX9_ownUnder_23 : decode cX9_ownUnder 23 = .ok (.aload 4, 2) := by decide +kernel
theorem dX9_ownUnder_25 : decode cX9_ownUnder 25 = .ok (.getfield 176, 3) := by decide +kernel
theorem dX9_ownUnder_28 : decode cX9_ownUnder 28 = .ok (.invokestatic 151, 3) := by decide +kernel
theorem dX9_ownUnder_31 : decode cX9_ownUnder 31 = .ok (.aload 4, 2) := by decide +kernel
theorem dX9_ownUnder_33 : decode cX9_ownUnder 33 = .ok (.getfield 185, 3) := by decide +kernel
theorem dX9_ownUnder_36 : decode cX9_ownUnder 36 = .ok (.istore 5, 2) := by decide +kernel
theorem dX9_ownUnder_38 : decode cX9_ownUnder 38 = .ok (.iload 5, 2) := by decide +kernel
theorem dX9_ownUnder_40 : decode cX9_ownUnder 40 = .ok (.iload_n 2, 1) := by decide +kernel
theorem dX9_ownUnder_41 : decode cX9_ownUnder 41 = .ok (.bipush 65, 2) := by decide +kernel
theorem dX9_ownUnder_43 : decode cX9_ownUnder 43 = .ok (.isub, 1) := by decide +kernel
theorem dX9_ownUnder_44 : decode cX9_ownUnder 44 = .ok (.iload_n 3, 1) := by decide +kernel
theorem dX9_ownUnder_45 : decode cX9_ownUnder 45 = .ok (.invokestatic 107, 3) := by decide +kernel
theorem dX9_ownUnder_48 : decode cX9_ownUnder 48 = .ok (.istore 6, 2) := by decide +kernel
theorem dX9_ownUnder_50 : decode cX9_ownUnder 50 = .ok (.iload 6, 2) := by decide +kernel
theorem dX9_ownUnder_52 : decode cX9_ownUnder 52 = .ok (.invokestatic 187, 3) := by decide +kernel
theorem dX9_ownUnder_55 : decode cX9_ownUnder 55 = .ok (.iconst 2, 1) := by decide +kernel
theorem dX9_ownUnder_56 : decode cX9_ownUnder 56 = .ok (.if_icmp .gt 7, 3) := by decide +kernel
theorem dX9_ownUnder_59 : decode cX9_ownUnder 59 = .ok (.iconst 1, 1) := by decide +kernel
theorem dX9_ownUnder_60 : decode cX9_ownUnder 60 = .ok (.goto 4, 3) := by decide +kernel
theorem dX9_ownUnder_63 : decode cX9_ownUnder 63 = .ok (.iconst 0, 1) := by decide +kernel
theorem dX9_ownUnder_64 : decode cX9_ownUnder 64 = .ok (.invokestatic 193, 3) := by decide +kernel
theorem dX9_ownUnder_67 : decode cX9_ownUnder 67 = .ok (.aload 4, 2) := by decide +kernel
theorem dX9_ownUnder_69 : decode cX9_ownUnder 69 = .ok (.iload 6, 2) := by decide +kernel
theorem dX9_ownUnder_71 : decode cX9_ownUnder 71 = .ok (.putfield 185, 3) := by decide +kernel
theorem dX9_ownUnder_74 : decode cX9_ownUnder 74 = .ok (.iload 5, 2) := by decide +kernel
theorem dX9_ownUnder_76 : decode cX9_ownUnder 76 = .ok (.iload_n 2, 1) := by decide +kernel
theorem dX9_ownUnder_77 : decode cX9_ownUnder 77 = .ok (.bipush 65, 2) := by decide +kernel
theorem dX9_ownUnder_79 : decode cX9_ownUnder 79 = .ok (.isub, 1) := by decide +kernel
theorem dX9_ownUnder_80 : decode cX9_ownUnder 80 = .ok (.invokestatic 111, 3) := by decide +kernel
theorem dX9_ownUnder_83 : decode cX9_ownUnder 83 = .ok (.ireturn, 1) := by decide +kernel
theorem dX9_ownMethod_0 : decode cX9_ownMethod 0 = .ok (.iload_n 1, 1) := by decide +kernel
theorem dX9_ownMethod_1 : decode cX9_ownMethod 1 = .ok (.iconst 4, 1) := by decide +kernel
theorem dX9_ownMethod_2 : decode cX9_ownMethod 2 = .ok (.invokestatic 54, 3) := by decide +kernel
theorem dX9_ownMethod_5 : decode cX9_ownMethod 5 = .ok (.iload_n 2, 1) := by decide +kernel
theorem dX9_ownMethod_6 : decode cX9_ownMethod 6 = .ok (.iload_n 3, 1) := by decide +kernel
theorem dX9_ownMethod_7 : decode cX9_ownMethod 7 = .ok (.invokestatic 115, 3) := by decide +kernel
theorem dX9_ownMethod_10 : decode cX9_ownMethod 10 = .ok (.ifCond .ne 18, 3) := by decide +kernel
theorem dX9_ownMethod_13 : decode cX9_ownMethod 13 = .ok (.iload_n 2, 1) := by decide +kernel
theorem dX9_ownMethod_14 : decode cX9_ownMethod 14 = .ok (.bipush 45, 2) := by decide +kernel
theorem dX9_ownMethod_16 : decode cX9_ownMethod 16 = .ok (.if_icmp .ne 16, 3) := by decide +kernel
theorem dX9_ownMethod_19 : decode cX9_ownMethod 19 = .ok (.iload_n 3, 1) := by decide +kernel
theorem dX9_ownMethod_20 : decode cX9_ownMethod 20 = .ok (.ifCond .eq 8, 3) := by decide +kernel
theorem dX9_ownMethod_23 : decode cX9_ownMethod 23 = .ok (.iload_n 3, 1) := by decide +kernel
theorem dX9_ownMethod_24 : decode cX9_ownMethod 24 = .ok (.iconst 1, 1) := by decide +kernel
theorem dX9_ownMethod_25 : decode cX9_ownMethod 25 = .ok (.if_icmp .ne 7, 3) := by decide +kernel
theorem dX9_ownMethod_28 : decode cX9_ownMethod 28 = .ok (.iconst 1, 1) := by decide +kernel
theorem dX9_ownMethod_29 : decode cX9_ownMethod 29 = .ok (.goto 4, 3) := by decide +kernel
theorem dX9_ownMethod_32 : decode cX9_ownMethod 32 = .ok (.iconst 0, 1) := by decide +kernel
theorem dX9_ownMethod_33 : decode cX9_ownMethod 33 = .ok (.invokestatic 62, 3) := by decide +kernel
theorem dX9_ownMethod_36 : decode cX9_ownMethod 36 = .ok (.aload_n 0, 1) := by decide +kernel
theorem dX9_ownMethod_37 : decode cX9_ownMethod 37 = .ok (.getfield 17, 3) := by decide +kernel
theorem dX9_ownMethod_40 : decode cX9_ownMethod 40 = .ok (.iload_n 1, 1) := by decide +kernel
theorem dX9_ownMethod_41 : decode cX9_ownMethod 41 = .ok (.aaload, 1) := by decide +kernel
theorem dX9_ownMethod_42 : decode cX9_ownMethod 42 = .ok (.getfield 172, 3) := by decide +kernel
theorem dX9_ownMethod_45 : decode cX9_ownMethod 45 = .ok (.astore 4, 2) := by decide +kernel
theorem dX9_ownMethod_47 : decode cX9_ownMethod 47 = .ok (.aload 4, 2) := by decide +kernel
theorem dX9_ownMethod_49 : decode cX9_ownMethod 49 = .ok (.getfield 176, 3) := by decide +kernel
theorem dX9_ownMethod_52 : decode cX9_ownMethod 52 = .ok (.invokestatic 151, 3) := by decide +kernel
theorem dX9_ownMethod_55 : decode cX9_ownMethod 55 = .ok (.aload 4, 2) := by decide +kernel
theorem dX9_ownMethod_57 : decode cX9_ownMethod 57 = .ok (.getfield 196, 3) := by decide +kernel
theorem dX9_ownMethod_60 : decode cX9_ownMethod 60 = .ok (.istore 5, 2) := by decide +kernel
theorem dX9_ownMethod_62 : decode cX9_ownMethod 62 = .ok (.aload 4, 2) := by decide +kernel
theorem dX9_ownMethod_64 : decode cX9_ownMethod 64 = .ok (.iload_n 2, 1) := by decide +kernel
theorem dX9_ownMethod_65 : decode cX9_ownMethod 65 = .ok (.bipush 45, 2) := by decide +kernel
theorem dX9_ownMethod_67 : decode cX9_ownMethod 67 = .ok (.if_icmp .ne 7, 3) := by decide +kernel
theorem dX9_ownMethod_70 : decode cX9_ownMethod 70 = .ok (.iconst (-1), 1) := by decide +kernel
theorem dX9_ownMethod_71 : decode cX9_ownMethod 71 = .ok (.goto 8, 3) := by decide +kernel
theorem dX9_ownMethod_74 : decode cX9_ownMethod 74 = .ok (.iload_n 2, 1) := by decide +kernel
theorem dX9_ownMethod_75 : decode cX9_ownMethod 75 = .ok (.iload_n 3, 1) := by decide +kernel
theorem dX9_ownMethod_76 : decode cX9_ownMethod 76 = .ok (.invokestatic 199, 3) := by decide +kernel
theorem dX9_ownMethod_79 : decode cX9_ownMethod 79 = .ok (.putfield 196, 3) := by decide +kernel
theorem dX9_ownMethod_82 : decode cX9_ownMethod 82 = .ok (.iload 5, 2) := by decide +kernel
theorem dX9_ownMethod_84 : decode cX9_ownMethod 84 = .ok (.invokestatic 203, 3) := by decide +kernel
theorem dX9_ownMethod_87 : decode cX9_ownMethod 87 = .ok (.ireturn, 1) := by decide +kernel
theorem dX9_act_0 : decode cX9_act 0 = .ok (.iload_n 1, 1) := by decide +kernel
theorem dX9_act_1 : decode cX9_act 1 = .ok (.iconst 4, 1) := by decide +kernel
theorem dX9_act_2 : decode cX9_act 2 = .ok (.invokestatic 54, 3) := by decide +kernel
theorem dX9_act_5 : decode cX9_act 5 = .ok (.aload_n 0, 1) := by decide +kernel
theorem dX9_act_6 : decode cX9_act 6 = .ok (.getfield 17, 3) := by decide +kernel
theorem dX9_act_9 : decode cX9_act 9 = .ok (.iload_n 1, 1) := by decide +kernel
theorem dX9_act_10 : decode cX9_act 10 = .ok (.aaload, 1) := by decide +kernel
theorem dX9_act_11 : decode cX9_act 11 = .ok (.astore 7, 2) := by decide +kernel
theorem dX9_act_13 : decode cX9_act 13 = .ok (.iload_n 2, 1) := by decide +kernel
theorem dX9_act_14 : decode cX9_act 14 = .ok (.invokestatic 206, 3) := by decide +kernel
theorem dX9_act_17 : decode cX9_act 17 = .ok (.istore 8, 2) := by decide +kernel
theorem dX9_act_19 : decode cX9_act 19 = .ok (.aload 7, 2) := by decide +kernel
theorem dX9_act_21 : decode cX9_act 21 = .ok (.getfield 172, 3) := by decide +kernel
theorem dX9_act_24 : decode cX9_act 24 = .ok (.getfield 176, 3) := by decide +kernel
theorem dX9_act_27 : decode cX9_act 27 = .ok (.istore 9, 2) := by decide +kernel
theorem dX9_act_29 : decode cX9_act 29 = .ok (.iload 8, 2) := by decide +kernel
theorem dX9_act_31 : decode cX9_act 31 = .ok (.iconst (-1), 1) := by decide +kernel
theorem dX9_act_32 : decode cX9_act 32 = .ok (.if_icmp .eq 18, 3) := by decide +kernel
theorem dX9_act_35 : decode cX9_act 35 = .ok (.iload 8, 2) := by decide +kernel
theorem dX9_act_37 : decode cX9_act 37 = .ok (.iconst 4, 1) := by decide +kernel
theorem dX9_act_38 : decode cX9_act 38 = .ok (.if_icmp .ne 8, 3) := by decide +kernel
theorem dX9_act_41 : decode cX9_act 41 = .ok (.iload 9, 2) := by decide +kernel
theorem dX9_act_43 : decode cX9_act 43 = .ok (.ifCond .eq 7, 3) := by decide +kernel
theorem dX9_act_46 : decode cX9_act 46 = .ok (.iconst 1, 1) := by decide +kernel
theorem dX9_act_47 : decode cX9_act 47 = .ok (.goto 4, 3) := by decide +kernel
theorem dX9_act_50 : decode cX9_act 50 = .ok (.iconst 0, 1) := by decide +kernel
theorem dX9_act_51 : decode cX9_act 51 = .ok (.invokestatic 62, 3) := by decide +kernel
theorem dX9_act_54 : decode cX9_act 54 = .ok (.iload 8, 2) := by decide +kernel
theorem dX9_act_56 : decode cX9_act 56 = .ok (.invokestatic 210, 3) := by decide +kernel
theorem dX9_act_59 : decode cX9_act 59 = .ok (.ifCond .eq 21, 3) := by decide +kernel
theorem dX9_act_62 : decode cX9_act 62 = .ok (.iload_n 3, 1) := by decide +kernel
theorem dX9_act_63 : decode cX9_act 63 = .ok (.invokestatic 58, 3) := by decide +kernel
theorem dX9_act_66 : decode cX9_act 66 = .ok (.ifCond .ne 14, 3) := by decide +kernel
theorem dX9_act_69 : decode cX9_act 69 = .ok (.iload_n 3, 1) := by decide +kernel
theorem dX9_act_70 : decode cX9_act 70 = .ok (.bipush 88, 2) := by decide +kernel
theorem dX9_act_72 : decode cX9_act 72 = .ok (.if_icmp .ne 12, 3) := by decide +kernel
theorem dX9_act_75 : decode cX9_act 75 = .ok (.iload 9, 2) := by decide +kernel
theorem dX9_act_77 : decode cX9_act 77 = .ok (.ifCond .eq 7, 3) := by decide +kernel
theorem dX9_act_80 : decode cX9_act 80 = .ok (.iconst 1, 1) := by decide +kernel
theorem dX9_act_81 : decode cX9_act 81 = .ok (.goto 4, 3) := by decide +kernel
theorem dX9_act_84 : decode cX9_act 84 = .ok (.iconst 0, 1) := by decide +kernel
theorem dX9_act_85 : decode cX9_act 85 = .ok (.invokestatic 62, 3) := by decide +kernel
theorem dX9_act_88 : decode cX9_act 88 = .ok (.iload 8, 2) := by decide +kernel
theorem dX9_act_90 : decode cX9_act 90 = .ok (.invokestatic 214, 3) := by decide +kernel
theorem dX9_act_93 : decode cX9_act 93 = .ok (.ifCond .eq 13, 3) := by decide +kernel
theorem dX9_act_96 : decode cX9_act 96 = .ok (.iload 4, 2) := by decide +kernel
theorem dX9_act_98 : decode cX9_act 98 = .ok (.iload 5, 2) := by decide +kernel
theorem dX9_act_100 : decode cX9_act 100 = .ok (.invokestatic 115, 3) := by decide +kernel
theorem dX9_act_103 : decode cX9_act 103 = .ok (.ifCond .eq 7, 3) := by decide +kernel
theorem dX9_act_106 : decode cX9_act 106 = .ok (.iconst 1, 1) := by decide +kernel
theorem dX9_act_107 : decode cX9_act 107 = .ok (.goto 4, 3) := by decide +kernel
theorem dX9_act_110 : decode cX9_act 110 = .ok (.iconst 0, 1) := by decide +kernel
theorem dX9_act_111 : decode cX9_act 111 = .ok (.invokestatic 62, 3) := by decide +kernel
theorem dX9_act_114 : decode cX9_act 114 = .ok (.iload 8, 2) := by decide +kernel
theorem dX9_act_116 : decode cX9_act 116 = .ok (.invokestatic 217, 3) := by decide +kernel
theorem dX9_act_119 : decode cX9_act 119 = .ok (.ifCond .eq 23, 3) := by decide +kernel
theorem dX9_act_122 : decode cX9_act 122 = .ok (.iload 6, 2) := by decide +kernel
theorem dX9_act_124 : decode cX9_act 124 = .ok (.invokestatic 58, 3) := by decide +kernel
theorem dX9_act_127 : decode cX9_act 127 = .ok (.ifCond .ne 15, 3) := by decide +kernel
theorem dX9_act_130 : decode cX9_act 130 = .ok (.iload 6, 2) := by decide +kernel
theorem dX9_act_132 : decode cX9_act 132 = .ok (.bipush 88, 2) := by decide +kernel
theorem dX9_act_134 : decode cX9_act 134 = .ok (.if_icmp .ne 12, 3) := by decide +kernel
theorem dX9_act_137 : decode cX9_act 137 = .ok (.iload 9, 2) := by decide +kernel
theorem dX9_act_139 : decode cX9_act 139 = .ok (.ifCond .eq 7, 3) := by decide +kernel
theorem dX9_act_142 : decode cX9_act 142 = .ok (.iconst 1, 1) := by decide +kernel
theorem dX9_act_143 : decode cX9_act 143 = .ok (.goto 4, 3) := by decide +kernel
theorem dX9_act_146 : decode cX9_act 146 = .ok (.iconst 0, 1) := by decide +kernel
theorem dX9_act_147 : decode cX9_act 147 = .ok (.invokestatic 62, 3) := by decide +kernel
theorem dX9_act_150 : decode cX9_act 150 = .ok (.aload 7, 2) := by decide +kernel
theorem dX9_act_152 : decode cX9_act 152 = .ok (.getfield 166, 3) := by decide +kernel
theorem dX9_act_155 : decode cX9_act 155 = .ok (.bipush 8, 2) := by decide +kernel
theorem dX9_act_157 : decode cX9_act 157 = .ok (.if_icmp .ge 7, 3) := by decide +kernel
theorem dX9_act_160 : decode cX9_act 160 = .ok (.iconst 1, 1) := by decide +kernel
theorem dX9_act_161 : decode cX9_act 161 = .ok (.goto 4, 3) := by decide +kernel
theorem dX9_act_164 : decode cX9_act 164 = .ok (.iconst 0, 1) := by decide +kernel
theorem dX9_act_165 : decode cX9_act 165 = .ok (.invokestatic 193, 3) := by decide +kernel
theorem dX9_act_168 : decode cX9_act 168 = .ok (.iload 8, 2) := by decide +kernel
theorem dX9_act_170 : decode cX9_act 170 = .ok (.invokestatic 210, 3) := by decide +kernel
theorem dX9_act_173 : decode cX9_act 173 = .ok (.ifCond .eq 10, 3) := by decide +kernel
theorem dX9_act_176 : decode cX9_act 176 = .ok (.iload_n 3, 1) := by decide +kernel
theorem dX9_act_177 : decode cX9_act 177 = .ok (.invokestatic 220, 3) := by decide +kernel
theorem dX9_act_180 : decode cX9_act 180 = .ok (.goto 4, 3) := by decide +kernel
theorem dX9_act_183 : decode cX9_act 183 = .ok (.iconst (-1), 1) := by decide +kernel
theorem dX9_act_184 : decode cX9_act 184 = .ok (.istore 10, 2) := by decide +kernel
theorem dX9_act_186 : decode cX9_act 186 = .ok (.iload 8, 2) := by decide +kernel
theorem dX9_act_188 : decode cX9_act 188 = .ok (.invokestatic 214, 3) := by decide +kernel
theorem dX9_act_191 : decode cX9_act 191 = .ok (.ifCond .eq 13, 3) := by decide +kernel
theorem dX9_act_194 : decode cX9_act 194 = .ok (.iload 4, 2) := by decide +kernel
theorem dX9_act_196 : decode cX9_act 196 = .ok (.iload 5, 2) := by decide +kernel
theorem dX9_act_198 : decode cX9_act 198 = .ok (.invokestatic 199, 3) := by decide +kernel
theorem dX9_act_201 : decode cX9_act 201 = .ok (.goto 4, 3) := by decide +kernel
theorem dX9_act_204 : decode cX9_act 204 = .ok (.iconst (-1), 1) := by decide +kernel
theorem dX9_act_205 : decode cX9_act 205 = .ok (.istore 11, 2) := by decide +kernel
theorem dX9_act_207 : decode cX9_act 207 = .ok (.iload 8, 2) := by decide +kernel
theorem dX9_act_209 : decode cX9_act 209 = .ok (.invokestatic 217, 3) := by decide +kernel
theorem dX9_act_212 : decode cX9_act 212 = .ok (.ifCond .eq 11, 3) := by decide +kernel
theorem dX9_act_215 : decode cX9_act 215 = .ok (.iload 6, 2) := by decide +kernel
theorem dX9_act_217 : decode cX9_act 217 = .ok (.invokestatic 220, 3) := by decide +kernel
theorem dX9_act_220 : decode cX9_act 220 = .ok (.goto 4, 3) := by decide +kernel
theorem dX9_act_223 : decode cX9_act 223 = .ok (.iconst (-1), 1) := by decide +kernel
theorem dX9_act_224 : decode cX9_act 224 = .ok (.istore 12, 2) := by decide +kernel
theorem dX9_act_226 : decode cX9_act 226 = .ok (.aload 7, 2) := by decide +kernel
theorem dX9_act_228 : decode cX9_act 228 = .ok (.iload 8, 2) := by decide +kernel
theorem dX9_act_230 : decode cX9_act 230 = .ok (.iload 10, 2) := by decide +kernel
theorem dX9_act_232 : decode cX9_act 232 = .ok (.iload 11, 2) := by decide +kernel
theorem dX9_act_234 : decode cX9_act 234 = .ok (.iload 12, 2) := by decide +kernel
theorem dX9_act_236 : decode cX9_act 236 = .ok (.invokevirtual 223, 3) := by decide +kernel
theorem dX9_act_239 : decode cX9_act 239 = .ok (.aload 7, 2) := by decide +kernel
theorem dX9_act_241 : decode cX9_act 241 = .ok (.getfield 166, 3) := by decide +kernel
theorem dX9_act_244 : decode cX9_act 244 = .ok (.ireturn, 1) := by decide +kernel
theorem dX9_run_0 : decode cX9_run 0 = .ok (.iload_n 1, 1) := by decide +kernel
theorem dX9_run_1 : decode cX9_run 1 = .ok (.iconst 4, 1) := by decide +kernel
theorem dX9_run_2 : decode cX9_run 2 = .ok (.invokestatic 54, 3) := by decide +kernel
theorem dX9_run_5 : decode cX9_run 5 = .ok (.iload_n 2, 1) := by decide +kernel
theorem dX9_run_6 : decode cX9_run 6 = .ok (.iconst 4, 1) := by decide +kernel
theorem dX9_run_7 : decode cX9_run 7 = .ok (.invokestatic 54, 3) := by decide +kernel
theorem dX9_run_10 : decode cX9_run 10 = .ok (.aload_n 0, 1) := by decide +kernel
theorem dX9_run_11 : decode cX9_run 11 = .ok (.getfield 11, 3) := by decide +kernel
theorem dX9_run_14 : decode cX9_run 14 = .ok (.iload_n 2, 1) := by decide +kernel
theorem dX9_run_15 : decode cX9_run 15 = .ok (.aaload, 1) := by decide +kernel
theorem dX9_run_16 : decode cX9_run 16 = .ok (.invokevirtual 148, 3) := by decide +kernel
theorem dX9_run_19 : decode cX9_run 19 = .ok (.iconst (-1), 1) := by decide +kernel
theorem dX9_run_20 : decode cX9_run 20 = .ok (.if_icmp .ne 7, 3) := by decide +kernel
theorem dX9_run_23 : decode cX9_run 23 = .ok (.iconst 1, 1) := by decide +kernel
theorem dX9_run_24 : decode cX9_run 24 = .ok (.goto 4, 3) := by decide +kernel
theorem dX9_run_27 : decode cX9_run 27 = .ok (.iconst 0, 1) := by decide +kernel
theorem dX9_run_28 : decode cX9_run 28 = .ok (.invokestatic 151, 3) := by decide +kernel
theorem dX9_run_31 : decode cX9_run 31 = .ok (.aload_n 0, 1) := by decide +kernel
theorem dX9_run_32 : decode cX9_run 32 = .ok (.getfield 31, 3) := by decide +kernel
theorem dX9_run_35 : decode cX9_run 35 = .ok (.aload_n 0, 1) := by decide +kernel
theorem dX9_run_36 : decode cX9_run 36 = .ok (.getfield 17, 3) := by decide +kernel
theorem dX9_run_39 : decode cX9_run 39 = .ok (.iload_n 1, 1) := by decide +kernel
theorem dX9_run_40 : decode cX9_run 40 = .ok (.aaload, 1) := by decide +kernel
theorem dX9_run_41 : decode cX9_run 41 = .ok (.aload_n 0, 1) := by decide +kernel
theorem dX9_run_42 : decode cX9_run 42 = .ok (.getfield 11, 3) := by decide +kernel
theorem dX9_run_45 : decode cX9_run 45 = .ok (.iload_n 2, 1) := by decide +kernel
theorem dX9_run_46 : decode cX9_run 46 = .ok (.aaload, 1) := by decide +kernel
theorem dX9_run_47 : decode cX9_run 47 = .ok (.invokevirtual 238, 3) := by decide +kernel
theorem dX9_run_50 : decode cX9_run 50 = .ok (.aload_n 0, 1) := by decide +kernel
theorem dX9_run_51 : decode cX9_run 51 = .ok (.getfield 31, 3) := by decide +kernel
theorem dX9_run_54 : decode cX9_run 54 = .ok (.getfield 242, 3) := by decide +kernel
theorem dX9_run_57 : decode cX9_run 57 = .ok (.ireturn, 1) := by decide +kernel
theorem dX9_fault_0 : decode cX9_fault 0 = .ok (.aload_n 0, 1) := by decide +kernel
theorem dX9_fault_1 : decode cX9_fault 1 = .ok (.getfield 31, 3) := by decide +kernel
theorem dX9_fault_4 : decode cX9_fault 4 = .ok (.getfield 245, 3) := by decide +kernel
theorem dX9_fault_7 : decode cX9_fault 7 = .ok (.invokestatic 227, 3) := by decide +kernel
theorem dX9_fault_10 : decode cX9_fault 10 = .ok (.aload_n 0, 1) := by decide +kernel
theorem dX9_fault_11 : decode cX9_fault 11 = .ok (.getfield 31, 3) := by decide +kernel
theorem dX9_fault_14 : decode cX9_fault 14 = .ok (.getfield 248, 3) := by decide +kernel
theorem dX9_fault_17 : decode cX9_fault 17 = .ok (.ireturn, 1) := by decide +kernel
theorem dX9_fits_0 : decode cX9_fits 0 = .ok (.iload_n 1, 1) := by decide +kernel
theorem dX9_fits_1 : decode cX9_fits 1 = .ok (.iconst 4, 1) := by decide +kernel
theorem dX9_fits_2 : decode cX9_fits 2 = .ok (.invokestatic 54, 3) := by decide +kernel
theorem dX9_fits_5 : decode cX9_fits 5 = .ok (.iload_n 2, 1) := by decide +kernel
theorem dX9_fits_6 : decode cX9_fits 6 = .ok (.iconst 4, 1) := by decide +kernel
theorem dX9_fits_7 : decode cX9_fits 7 = .ok (.invokestatic 54, 3) := by decide +kernel
theorem dX9_fits_10 : decode cX9_fits 10 = .ok (.aload_n 0, 1) := by decide +kernel
theorem dX9_fits_11 : decode cX9_fits 11 = .ok (.getfield 11, 3) := by decide +kernel
theorem dX9_fits_14 : decode cX9_fits 14 = .ok (.iload_n 1, 1) := by decide +kernel
theorem dX9_fits_15 : decode cX9_fits 15 = .ok (.aaload, 1) := by decide +kernel
theorem dX9_fits_16 : decode cX9_fits 16 = .ok (.invokevirtual 148, 3) := by decide +kernel
theorem dX9_fits_19 : decode cX9_fits 19 = .ok (.iconst (-1), 1) := by decide +kernel
theorem dX9_fits_20 : decode cX9_fits 20 = .ok (.if_icmp .ne 20, 3) := by decide +kernel
theorem dX9_fits_23 : decode cX9_fits 23 = .ok (.aload_n 0, 1) := by decide +kernel
theorem dX9_fits_24 : decode cX9_fits 24 = .ok (.getfield 11, 3) := by decide +kernel
theorem dX9_fits_27 : decode cX9_fits 27 = .ok (.iload_n 2, 1) := by decide +kernel
theorem dX9_fits_28 : decode cX9_fits 28 = .ok (.aaload, 1) := by decide +kernel
theorem dX9_fits_29 : decode cX9_fits 29 = .ok (.invokevirtual 148, 3) := by decide +kernel
theorem dX9_fits_32 : decode cX9_fits 32 = .ok (.iconst (-1), 1) := by decide +kernel
theorem dX9_fits_33 : decode cX9_fits 33 = .ok (.if_icmp .ne 7, 3) := by decide +kernel
theorem dX9_fits_36 : decode cX9_fits 36 = .ok (.iconst 1, 1) := by decide +kernel
theorem dX9_fits_37 : decode cX9_fits 37 = .ok (.goto 4, 3) := by decide +kernel
theorem dX9_fits_40 : decode cX9_fits 40 = .ok (.iconst 0, 1) := by decide +kernel
theorem dX9_fits_41 : decode cX9_fits 41 = .ok (.invokestatic 151, 3) := by decide +kernel
theorem dX9_fits_44 : decode cX9_fits 44 = .ok (.aload_n 0, 1) := by decide +kernel
theorem dX9_fits_45 : decode cX9_fits 45 = .ok (.getfield 41, 3) := by decide +kernel
theorem dX9_fits_48 : decode cX9_fits 48 = .ok (.aload_n 0, 1) := by decide +kernel
theorem dX9_fits_49 : decode cX9_fits 49 = .ok (.getfield 11, 3) := by decide +kernel
theorem dX9_fits_52 : decode cX9_fits 52 = .ok (.iload_n 1, 1) := by decide +kernel
theorem dX9_fits_53 : decode cX9_fits 53 = .ok (.aaload, 1) := by decide +kernel
theorem dX9_fits_54 : decode cX9_fits 54 = .ok (.aload_n 0, 1) := by decide +kernel
theorem dX9_fits_55 : decode cX9_fits 55 = .ok (.getfield 11, 3) := by decide +kernel
theorem dX9_fits_58 : decode cX9_fits 58 = .ok (.iload_n 2, 1) := by decide +kernel
theorem dX9_fits_59 : decode cX9_fits 59 = .ok (.aaload, 1) := by decide +kernel
theorem dX9_fits_60 : decode cX9_fits 60 = .ok (.invokevirtual 255, 3) := by decide +kernel
theorem dX9_fits_63 : decode cX9_fits 63 = .ok (.ifCond .ne 7, 3) := by decide +kernel
theorem dX9_fits_66 : decode cX9_fits 66 = .ok (.iconst 1, 1) := by decide +kernel
theorem dX9_fits_67 : decode cX9_fits 67 = .ok (.goto 4, 3) := by decide +kernel
theorem dX9_fits_70 : decode cX9_fits 70 = .ok (.iconst 0, 1) := by decide +kernel
theorem dX9_fits_71 : decode cX9_fits 71 = .ok (.ireturn, 1) := by decide +kernel
theorem dX9_witness_0 : decode cX9_witness 0 = .ok (.iload_n 1, 1) := by decide +kernel
theorem dX9_witness_1 : decode cX9_witness 1 = .ok (.iconst 4, 1) := by decide +kernel
theorem dX9_witness_2 : decode cX9_witness 2 = .ok (.invokestatic 54, 3) := by decide +kernel
theorem dX9_witness_5 : decode cX9_witness 5 = .ok (.iload_n 2, 1) := by decide +kernel
theorem dX9_witness_6 : decode cX9_witness 6 = .ok (.iconst 4, 1) := by decide +kernel
theorem dX9_witness_7 : decode cX9_witness 7 = .ok (.invokestatic 54, 3) := by decide +kernel
theorem dX9_witness_10 : decode cX9_witness 10 = .ok (.iload_n 3, 1) := by decide +kernel
theorem dX9_witness_11 : decode cX9_witness 11 = .ok (.iconst 4, 1) := by decide +kernel
theorem dX9_witness_12 : decode cX9_witness 12 = .ok (.invokestatic 54, 3) := by decide +kernel
theorem dX9_witness_15 : decode cX9_witness 15 = .ok (.aload_n 0, 1) := by decide +kernel
theorem dX9_witness_16 : decode cX9_witness 16 = .ok (.getfield 11, 3) := by decide +kernel
theorem dX9_witness_19 : decode cX9_witness 19 = .ok (.iload_n 1, 1) := by decide +kernel
theorem dX9_witness_20 : decode cX9_witness 20 = .ok (.aaload, 1) := by decide +kernel
theorem dX9_witness_21 : decode cX9_witness 21 = .ok (.invokevirtual 148, 3) := by decide +kernel
theorem dX9_witness_24 : decode cX9_witness 24 = .ok (.iconst (-1), 1) := by decide +kernel
theorem dX9_witness_25 : decode cX9_witness 25 = .ok (.if_icmp .ne 20, 3) := by decide +kernel
theorem dX9_witness_28 : decode cX9_witness 28 = .ok (.aload_n 0, 1) := by decide +kernel
theorem dX9_witness_29 : decode cX9_witness 29 = .ok (.getfield 11, 3) := by decide +kernel
theorem dX9_witness_32 : decode cX9_witness 32 = .ok (.iload_n 2, 1) := by decide +kernel
theorem dX9_witness_33 : decode cX9_witness 33 = .ok (.aaload, 1) := by decide +kernel
theorem dX9_witness_34 : decode cX9_witness 34 = .ok (.invokevirtual 148, 3) := by decide +kernel
theorem dX9_witness_37 : decode cX9_witness 37 = .ok (.iconst (-1), 1) := by decide +kernel
theorem dX9_witness_38 : decode cX9_witness 38 = .ok (.if_icmp .ne 7, 3) := by decide +kernel
theorem dX9_witness_41 : decode cX9_witness 41 = .ok (.iconst 1, 1) := by decide +kernel
theorem dX9_witness_42 : decode cX9_witness 42 = .ok (.goto 4, 3) := by decide +kernel
theorem dX9_witness_45 : decode cX9_witness 45 = .ok (.iconst 0, 1) := by decide +kernel
theorem dX9_witness_46 : decode cX9_witness 46 = .ok (.invokestatic 151, 3) := by decide +kernel
theorem dX9_witness_49 : decode cX9_witness 49 = .ok (.aload_n 0, 1) := by decide +kernel
theorem dX9_witness_50 : decode cX9_witness 50 = .ok (.getfield 41, 3) := by decide +kernel
theorem dX9_witness_53 : decode cX9_witness 53 = .ok (.aload_n 0, 1) := by decide +kernel
theorem dX9_witness_54 : decode cX9_witness 54 = .ok (.getfield 11, 3) := by decide +kernel
theorem dX9_witness_57 : decode cX9_witness 57 = .ok (.iload_n 1, 1) := by decide +kernel
theorem dX9_witness_58 : decode cX9_witness 58 = .ok (.aaload, 1) := by decide +kernel
theorem dX9_witness_59 : decode cX9_witness 59 = .ok (.aload_n 0, 1) := by decide +kernel
theorem dX9_witness_60 : decode cX9_witness 60 = .ok (.getfield 11, 3) := by decide +kernel
theorem dX9_witness_63 : decode cX9_witness 63 = .ok (.iload_n 2, 1) := by decide +kernel
theorem dX9_witness_64 : decode cX9_witness 64 = .ok (.aaload, 1) := by decide +kernel
theorem dX9_witness_65 : decode cX9_witness 65 = .ok (.invokevirtual 255, 3) := by decide +kernel
theorem dX9_witness_68 : decode cX9_witness 68 = .ok (.istore 4, 2) := by decide +kernel
theorem dX9_witness_70 : decode cX9_witness 70 = .ok (.iload 4, 2) := by decide +kernel
theorem dX9_witness_72 : decode cX9_witness 72 = .ok (.ifCond .eq 7, 3) := by decide +kernel
theorem dX9_witness_75 : decode cX9_witness 75 = .ok (.iconst 1, 1) := by decide +kernel
theorem dX9_witness_76 : decode cX9_witness 76 = .ok (.goto 4, 3) := by decide +kernel
theorem dX9_witness_79 : decode cX9_witness 79 = .ok (.iconst 0, 1) := by decide +kernel
theorem dX9_witness_80 : decode cX9_witness 80 = .ok (.invokestatic 227, 3) := by decide +kernel
theorem dX9_witness_83 : decode cX9_witness 83 = .ok (.aload_n 0, 1) := by decide +kernel
theorem dX9_witness_84 : decode cX9_witness 84 = .ok (.getfield 17, 3) := by decide +kernel
theorem dX9_witness_87 : decode cX9_witness 87 = .ok (.iload_n 3, 1) := by decide +kernel
theorem dX9_witness_88 : decode cX9_witness 88 = .ok (.aaload, 1) := by decide +kernel
theorem dX9_witness_89 : decode cX9_witness 89 = .ok (.aload_n 0, 1) := by decide +kernel
theorem dX9_witness_90 : decode cX9_witness 90 = .ok (.getfield 41, 3) := by decide +kernel
theorem dX9_witness_93 : decode cX9_witness 93 = .ok (.getfield 259, 3) := by decide +kernel
theorem dX9_witness_96 : decode cX9_witness 96 = .ok (.invokevirtual 263, 3) := by decide +kernel
theorem dX9_witness_99 : decode cX9_witness 99 = .ok (.iload 4, 2) := by decide +kernel
theorem dX9_witness_101 : decode cX9_witness 101 = .ok (.ireturn, 1) := by decide +kernel
theorem dX9_isSound_0 : decode cX9_isSound 0 = .ok (.aload_n 0, 1) := by decide +kernel
theorem dX9_isSound_1 : decode cX9_isSound 1 = .ok (.invokevirtual 291, 3) := by decide +kernel
theorem dX9_isSound_4 : decode cX9_isSound 4 = .ok (.ifCond .eq 21, 3) := by decide +kernel
theorem dX9_isSound_7 : decode cX9_isSound 7 = .ok (.aload_n 0, 1) := by decide +kernel
theorem dX9_isSound_8 : decode cX9_isSound 8 = .ok (.invokevirtual 295, 3) := by decide +kernel
theorem dX9_isSound_11 : decode cX9_isSound 11 = .ok (.ifCond .eq 14, 3) := by decide +kernel
theorem dX9_isSound_14 : decode cX9_isSound 14 = .ok (.aload_n 0, 1) := by decide +kernel
theorem dX9_isSound_15 : decode cX9_isSound 15 = .ok (.invokevirtual 298, 3) := by decide +kernel
theorem dX9_isSound_18 : decode cX9_isSound 18 = .ok (.ifCond .eq 7, 3) := by decide +kernel
theorem dX9_isSound_21 : decode cX9_isSound 21 = .ok (.iconst 1, 1) := by decide +kernel
theorem dX9_isSound_22 : decode cX9_isSound 22 = .ok (.goto 4, 3) := by decide +kernel
theorem dX9_isSound_25 : decode cX9_isSound 25 = .ok (.iconst 0, 1) := by decide +kernel
theorem dX9_isSound_26 : decode cX9_isSound 26 = .ok (.ireturn, 1) := by decide +kernel
theorem dX9_areFittingsSound_0 : decode cX9_areFittingsSound 0 = .ok (.iconst 0, 1) := by decide +kernel
theorem dX9_areFittingsSound_1 : decode cX9_areFittingsSound 1 = .ok (.istore_n 1, 1) := by decide +kernel
theorem dX9_areFittingsSound_2 : decode cX9_areFittingsSound 2 = .ok (.iload_n 1, 1) := by decide +kernel
theorem dX9_areFittingsSound_3 : decode cX9_areFittingsSound 3 = .ok (.iconst 4, 1) := by decide +kernel
theorem dX9_areFittingsSound_4 : decode cX9_areFittingsSound 4 = .ok (.if_icmp .ge 113, 3) := by decide +kernel
theorem dX9_areFittingsSound_7 : decode cX9_areFittingsSound 7 = .ok (.aload_n 0, 1) := by decide +kernel
theorem dX9_areFittingsSound_8 : decode cX9_areFittingsSound 8 = .ok (.getfield 45, 3) := by decide +kernel
theorem dX9_areFittingsSound_11 : decode cX9_areFittingsSound 11 = .ok (.iload_n 1, 1) := by decide +kernel
theorem dX9_areFittingsSound_12 : decode cX9_areFittingsSound 12 = .ok (.iconst 0, 1) := by decide +kernel
theorem dX9_areFittingsSound_13 : decode cX9_areFittingsSound 13 = .ok (.iastore, 1) := by decide +kernel
theorem dX9_areFittingsSound_14 : decode cX9_areFittingsSound 14 = .ok (.iconst 0, 1) := by decide +kernel
theorem dX9_areFittingsSound_15 : decode cX9_areFittingsSound 15 = .ok (.istore_n 2, 1) := by decide +kernel
theorem dX9_areFittingsSound_16 : decode cX9_areFittingsSound 16 = .ok (.iload_n 2, 1) := by decide +kernel
theorem dX9_areFittingsSound_17 : decode cX9_areFittingsSound 17 = .ok (.iconst 4, 1) := by decide +kernel
theorem dX9_areFittingsSound_18 : decode cX9_areFittingsSound 18 = .ok (.if_icmp .ge 93, 3) := by decide +kernel
theorem dX9_areFittingsSound_21 : decode cX9_areFittingsSound 21 = .ok (.aload_n 0, 1) := by decide +kernel
theorem dX9_areFittingsSound_22 : decode cX9_areFittingsSound 22 = .ok (.getfield 11, 3) := by decide +kernel
theorem dX9_areFittingsSound_25 : decode cX9_areFittingsSound 25 = .ok (.iload_n 1, 1) := by decide +kernel
theorem dX9_areFittingsSound_26 : decode cX9_areFittingsSound 26 = .ok (.aaload, 1) := by decide +kernel
theorem dX9_areFittingsSound_27 : decode cX9_areFittingsSound 27 = .ok (.invokevirtual 148, 3) := by decide +kernel
theorem dX9_areFittingsSound_30 : decode cX9_areFittingsSound 30 = .ok (.iconst (-1), 1) := by decide +kernel
theorem dX9_areFittingsSound_31 : decode cX9_areFittingsSound 31 = .ok (.if_icmp .ne 74, 3) := by decide +kernel
theorem dX9_areFittingsSound_34 : decode cX9_areFittingsSound 34 = .ok (.aload_n 0, 1) := by decide +kernel
theorem dX9_areFittingsSound_35 : decode cX9_areFittingsSound 35 = .ok (.getfield 11, 3) := by decide +kernel
theorem dX9_areFittingsSound_38 : decode cX9_areFittingsSound 38 = .ok (.iload_n 2, 1) := by decide +kernel
theorem dX9_areFittingsSound_39 : decode cX9_areFittingsSound 39 = .ok (.aaload, 1) := by decide +kernel
theorem dX9_areFittingsSound_40 : decode cX9_areFittingsSound 40 = .ok (.invokevirtual 148, 3) := by decide +kernel
theorem dX9_areFittingsSound_43 : decode cX9_areFittingsSound 43 = .ok (.iconst (-1), 1) := by decide +kernel
theorem dX9_areFittingsSound_44 : decode cX9_areFittingsSound 44 = .ok (.if_icmp .eq 6, 3) := by decide +kernel
theorem dX9_areFittingsSound_47 : decode cX9_areFittingsSound 47 = .ok (.goto 58, 3) := by decide +kernel
theorem dX9_areFittingsSound_50 : decode cX9_areFittingsSound 50 = .ok (.aload_n 0, 1) := by decide +kernel
theorem dX9_areFittingsSound_51 : decode cX9_areFittingsSound 51 = .ok (.getfield 41, 3) := by decide +kernel
theorem dX9_areFittingsSound_54 : decode cX9_areFittingsSound 54 = .ok (.aload_n 0, 1) := by decide +kernel
theorem dX9_areFittingsSound_55 : decode cX9_areFittingsSound 55 = .ok (.getfield 11, 3) := by decide +kernel
theorem dX9_areFittingsSound_58 : decode cX9_areFittingsSound 58 = .ok (.iload_n 1, 1) := by decide +kernel
theorem dX9_areFittingsSound_59 : decode cX9_areFittingsSound 59 = .ok (.aaload, 1) := by decide +kernel
theorem dX9_areFittingsSound_60 : decode cX9_areFittingsSound 60 = .ok (.aload_n 0, 1) := by decide +kernel
theorem dX9_areFittingsSound_61 : decode cX9_areFittingsSound 61 = .ok (.getfield 11, 3) := by decide +kernel
theorem dX9_areFittingsSound_64 : decode cX9_areFittingsSound 64 = .ok (.iload_n 2, 1) := by decide +kernel
theorem dX9_areFittingsSound_65 : decode cX9_areFittingsSound 65 = .ok (.aaload, 1) := by decide +kernel
theorem dX9_areFittingsSound_66 : decode cX9_areFittingsSound 66 = .ok (.invokevirtual 255, 3) := by decide +kernel
theorem dX9_areFittingsSound_69 : decode cX9_areFittingsSound 69 = .ok (.istore_n 3, 1) := by decide +kernel
theorem dX9_areFittingsSound_70 : decode cX9_areFittingsSound 70 = .ok (.iload_n 3, 1) := by decide +kernel
theorem dX9_areFittingsSound_71 : decode cX9_areFittingsSound 71 = .ok (.ifCond .ne 18, 3) := by decide +kernel
theorem dX9_areFittingsSound_74 : decode cX9_areFittingsSound 74 = .ok (.aload_n 0, 1) := by decide +kernel
theorem dX9_areFittingsSound_75 : decode cX9_areFittingsSound 75 = .ok (.getfield 45, 3) := by decide +kernel
theorem dX9_areFittingsSound_78 : decode cX9_areFittingsSound 78 = .ok (.iload_n 1, 1) := by decide +kernel
theorem dX9_areFittingsSound_79 : decode cX9_areFittingsSound 79 = .ok (.dup2, 1) := by decide +kernel
theorem dX9_areFittingsSound_80 : decode cX9_areFittingsSound 80 = .ok (.iaload, 1) := by decide +kernel
theorem dX9_areFittingsSound_81 : decode cX9_areFittingsSound 81 = .ok (.iconst 1, 1) := by decide +kernel
theorem dX9_areFittingsSound_82 : decode cX9_areFittingsSound 82 = .ok (.iload_n 2, 1) := by decide +kernel
theorem dX9_areFittingsSound_83 : decode cX9_areFittingsSound 83 = .ok (.ishl, 1) := by decide +kernel
theorem dX9_areFittingsSound_84 : decode cX9_areFittingsSound 84 = .ok (.ior, 1) := by decide +kernel
theorem dX9_areFittingsSound_85 : decode cX9_areFittingsSound 85 = .ok (.iastore, 1) := by decide +kernel
theorem dX9_areFittingsSound_86 : decode cX9_areFittingsSound 86 = .ok (.goto 19, 3) := by decide +kernel
theorem dX9_areFittingsSound_89 : decode cX9_areFittingsSound 89 = .ok (.iload_n 1, 1) := by decide +kernel
theorem dX9_areFittingsSound_90 : decode cX9_areFittingsSound 90 = .ok (.iload_n 2, 1) := by decide +kernel
theorem dX9_areFittingsSound_91 : decode cX9_areFittingsSound 91 = .ok (.if_icmp .eq 12, 3) := by decide +kernel
theorem dX9_areFittingsSound_94 : decode cX9_areFittingsSound 94 = .ok (.aload_n 0, 1) := by decide +kernel
theorem dX9_areFittingsSound_95 : decode cX9_areFittingsSound 95 = .ok (.iload_n 1, 1) := by decide +kernel
theorem dX9_areFittingsSound_96 : decode cX9_areFittingsSound 96 = .ok (.iload_n 2, 1) := by decide +kernel
theorem dX9_areFittingsSound_97 : decode cX9_areFittingsSound 97 = .ok (.invokevirtual 301, 3) := by decide +kernel
theorem dX9_areFittingsSound_100 : decode cX9_areFittingsSound 100 = .ok (.ifCond .ne 5, 3) := by decide +kernel
theorem dX9_areFittingsSound_103 : decode cX9_areFittingsSound 103 = .ok (.iconst 0, 1) := by decide +kernel
theorem dX9_areFittingsSound_104 : decode cX9_areFittingsSound 104 = .ok (.ireturn, 1) := by decide +kernel
theorem dX9_areFittingsSound_105 : decode cX9_areFittingsSound 105 = .ok (.iinc 2 1, 3) := by decide +kernel
theorem dX9_areFittingsSound_108 : decode cX9_areFittingsSound 108 = .ok (.goto (-92), 3) := by decide +kernel
theorem dX9_areFittingsSound_111 : decode cX9_areFittingsSound 111 = .ok (.iinc 1 1, 3) := by decide +kernel
theorem dX9_areFittingsSound_114 : decode cX9_areFittingsSound 114 = .ok (.goto (-112), 3) := by decide +kernel
theorem dX9_areFittingsSound_117 : decode cX9_areFittingsSound 117 = .ok (.iconst 1, 1) := by decide +kernel
theorem dX9_areFittingsSound_118 : decode cX9_areFittingsSound 118 = .ok (.ireturn, 1) := by decide +kernel
theorem dX9_doesLeastTell_0 : decode cX9_doesLeastTell 0 = .ok (.aload_n 0, 1) := by decide +kernel
theorem dX9_doesLeastTell_1 : decode cX9_doesLeastTell 1 = .ok (.getfield 35, 3) := by decide +kernel
theorem dX9_doesLeastTell_4 : decode cX9_doesLeastTell 4 = .ok (.aload_n 0, 1) := by decide +kernel
theorem dX9_doesLeastTell_5 : decode cX9_doesLeastTell 5 = .ok (.getfield 41, 3) := by decide +kernel
theorem dX9_doesLeastTell_8 : decode cX9_doesLeastTell 8 = .ok (.getfield 259, 3) := by decide +kernel
theorem dX9_doesLeastTell_11 : decode cX9_doesLeastTell 11 = .ok (.aload_n 0, 1) := by decide +kernel
theorem dX9_doesLeastTell_12 : decode cX9_doesLeastTell 12 = .ok (.getfield 11, 3) := by decide +kernel
theorem dX9_doesLeastTell_15 : decode cX9_doesLeastTell 15 = .ok (.iload_n 1, 1) := by decide +kernel
theorem dX9_doesLeastTell_16 : decode cX9_doesLeastTell 16 = .ok (.aaload, 1) := by decide +kernel
theorem dX9_doesLeastTell_17 : decode cX9_doesLeastTell 17 = .ok (.invokevirtual 238, 3) := by decide +kernel
theorem dX9_doesLeastTell_20 : decode cX9_doesLeastTell 20 = .ok (.aload_n 0, 1) := by decide +kernel
theorem dX9_doesLeastTell_21 : decode cX9_doesLeastTell 21 = .ok (.getfield 35, 3) := by decide +kernel
theorem dX9_doesLeastTell_24 : decode cX9_doesLeastTell 24 = .ok (.getfield 248, 3) := by decide +kernel
theorem dX9_doesLeastTell_27 : decode cX9_doesLeastTell 27 = .ok (.bipush 45, 2) := by decide +kernel
theorem dX9_doesLeastTell_29 : decode cX9_doesLeastTell 29 = .ok (.if_icmp .eq 5, 3) := by decide +kernel
theorem dX9_doesLeastTell_32 : decode cX9_doesLeastTell 32 = .ok (.iconst 0, 1) := by decide +kernel
theorem dX9_doesLeastTell_33 : decode cX9_doesLeastTell 33 = .ok (.ireturn, 1) := by decide +kernel
theorem dX9_doesLeastTell_34 : decode cX9_doesLeastTell 34 = .ok (.aload_n 0, 1) := by decide +kernel
theorem dX9_doesLeastTell_35 : decode cX9_doesLeastTell 35 = .ok (.getfield 35, 3) := by decide +kernel
theorem dX9_doesLeastTell_38 : decode cX9_doesLeastTell 38 = .ok (.aload_n 0, 1) := by decide +kernel
theorem dX9_doesLeastTell_39 : decode cX9_doesLeastTell 39 = .ok (.getfield 41, 3) := by decide +kernel
theorem dX9_doesLeastTell_42 : decode cX9_doesLeastTell 42 = .ok (.getfield 259, 3) := by decide +kernel
theorem dX9_doesLeastTell_45 : decode cX9_doesLeastTell 45 = .ok (.aload_n 0, 1) := by decide +kernel
theorem dX9_doesLeastTell_46 : decode cX9_doesLeastTell 46 = .ok (.getfield 11, 3) := by decide +kernel
theorem dX9_doesLeastTell_49 : decode cX9_doesLeastTell 49 = .ok (.iload_n 2, 1) := by decide +kernel
theorem dX9_doesLeastTell_50 : decode cX9_doesLeastTell 50 = .ok (.aaload, 1) := by decide +kernel
theorem dX9_doesLeastTell_51 : decode cX9_doesLeastTell 51 = .ok (.invokevirtual 238, 3) := by decide +kernel
theorem dX9_doesLeastTell_54 : decode cX9_doesLeastTell 54 = .ok (.aload_n 0, 1) := by decide +kernel
theorem dX9_doesLeastTell_55 : decode cX9_doesLeastTell 55 = .ok (.getfield 35, 3) := by decide +kernel
theorem dX9_doesLeastTell_58 : decode cX9_doesLeastTell 58 = .ok (.getfield 248, 3) := by decide +kernel
theorem dX9_doesLeastTell_61 : decode cX9_doesLeastTell 61 = .ok (.bipush 45, 2) := by decide +kernel
theorem dX9_doesLeastTell_63 : decode cX9_doesLeastTell 63 = .ok (.if_icmp .eq 7, 3) := by decide +kernel
theorem dX9_doesLeastTell_66 : decode cX9_doesLeastTell 66 = .ok (.iconst 1, 1) := by decide +kernel
theorem dX9_doesLeastTell_67 : decode cX9_doesLeastTell 67 = .ok (.goto 4, 3) := by decide +kernel
theorem dX9_doesLeastTell_70 : decode cX9_doesLeastTell 70 = .ok (.iconst 0, 1) := by decide +kernel
theorem dX9_doesLeastTell_71 : decode cX9_doesLeastTell 71 = .ok (.ireturn, 1) := by decide +kernel
theorem dX9_doesFittingGoOn_0 : decode cX9_doesFittingGoOn 0 = .ok (.iconst 0, 1) := by decide +kernel
theorem dX9_doesFittingGoOn_1 : decode cX9_doesFittingGoOn 1 = .ok (.istore_n 1, 1) := by decide +kernel
theorem dX9_doesFittingGoOn_2 : decode cX9_doesFittingGoOn 2 = .ok (.iload_n 1, 1) := by decide +kernel
theorem dX9_doesFittingGoOn_3 : decode cX9_doesFittingGoOn 3 = .ok (.iconst 4, 1) := by decide +kernel
theorem dX9_doesFittingGoOn_4 : decode cX9_doesFittingGoOn 4 = .ok (.if_icmp .ge 55, 3) := by decide +kernel
theorem dX9_doesFittingGoOn_7 : decode cX9_doesFittingGoOn 7 = .ok (.iconst 0, 1) := by decide +kernel
theorem dX9_doesFittingGoOn_8 : decode cX9_doesFittingGoOn 8 = .ok (.istore_n 2, 1) := by decide +kernel
theorem dX9_doesFittingGoOn_9 : decode cX9_doesFittingGoOn 9 = .ok (.iload_n 2, 1) := by decide +kernel
theorem dX9_doesFittingGoOn_10 : decode cX9_doesFittingGoOn 10 = .ok (.iconst 4, 1) := by decide +kernel
theorem dX9_doesFittingGoOn_11 : decode cX9_doesFittingGoOn 11 = .ok (.if_icmp .ge 42, 3) := by decide +kernel
theorem dX9_doesFittingGoOn_14 : decode cX9_doesFittingGoOn 14 = .ok (.aload_n 0, 1) := by decide +kernel
theorem dX9_doesFittingGoOn_15 : decode cX9_doesFittingGoOn 15 = .ok (.getfield 45, 3) := by decide +kernel
theorem dX9_doesFittingGoOn_18 : decode cX9_doesFittingGoOn 18 = .ok (.iload_n 1, 1) := by decide +kernel
theorem dX9_doesFittingGoOn_19 : decode cX9_doesFittingGoOn 19 = .ok (.iaload, 1) := by decide +kernel
theorem dX9_doesFittingGoOn_20 : decode cX9_doesFittingGoOn 20 = .ok (.iload_n 2, 1) := by decide +kernel
theorem dX9_doesFittingGoOn_21 : decode cX9_doesFittingGoOn 21 = .ok (.invokestatic 111, 3) := by decide +kernel
theorem dX9_doesFittingGoOn_24 : decode cX9_doesFittingGoOn 24 = .ok (.ifCond .eq 23, 3) := by decide +kernel
theorem dX9_doesFittingGoOn_27 : decode cX9_doesFittingGoOn 27 = .ok (.aload_n 0, 1) := by decide +kernel
theorem dX9_doesFittingGoOn_28 : decode cX9_doesFittingGoOn 28 = .ok (.getfield 45, 3) := by decide +kernel
theorem dX9_doesFittingGoOn_31 : decode cX9_doesFittingGoOn 31 = .ok (.iload_n 2, 1) := by decide +kernel
theorem dX9_doesFittingGoOn_32 : decode cX9_doesFittingGoOn 32 = .ok (.iaload, 1) := by decide +kernel
theorem dX9_doesFittingGoOn_33 : decode cX9_doesFittingGoOn 33 = .ok (.aload_n 0, 1) := by decide +kernel
theorem dX9_doesFittingGoOn_34 : decode cX9_doesFittingGoOn 34 = .ok (.getfield 45, 3) := by decide +kernel
theorem dX9_doesFittingGoOn_37 : decode cX9_doesFittingGoOn 37 = .ok (.iload_n 1, 1) := by decide +kernel
theorem dX9_doesFittingGoOn_38 : decode cX9_doesFittingGoOn 38 = .ok (.iaload, 1) := by decide +kernel
theorem dX9_doesFittingGoOn_39 : decode cX9_doesFittingGoOn 39 = .ok (.iconst (-1), 1) := by decide +kernel
theorem dX9_doesFittingGoOn_40 : decode cX9_doesFittingGoOn 40 = .ok (.ixor, 1) := by decide +kernel
theorem dX9_doesFittingGoOn_41 : decode cX9_doesFittingGoOn 41 = .ok (.iand, 1) := by decide +kernel
theorem dX9_doesFittingGoOn_42 : decode cX9_doesFittingGoOn 42 = .ok (.ifCond .eq 5, 3) := by decide +kernel
theorem dX9_doesFittingGoOn_45 : decode cX9_doesFittingGoOn 45 = .ok (.iconst 0, 1) := by decide +kernel
theorem dX9_doesFittingGoOn_46 : decode cX9_doesFittingGoOn 46 = .ok (.ireturn, 1) := by decide +kernel
theorem dX9_doesFittingGoOn_47 : decode cX9_doesFittingGoOn 47 = .ok (.iinc 2 1, 3) := by decide +kernel
theorem dX9_doesFittingGoOn_50 : decode cX9_doesFittingGoOn 50 = .ok (.goto (-41), 3) := by decide +kernel
theorem dX9_doesFittingGoOn_53 : decode cX9_doesFittingGoOn 53 = .ok (.iinc 1 1, 3) := by decide +kernel
theorem dX9_doesFittingGoOn_56 : decode cX9_doesFittingGoOn 56 = .ok (.goto (-54), 3) := by decide +kernel
theorem dX9_doesFittingGoOn_59 : decode cX9_doesFittingGoOn 59 = .ok (.iconst 1, 1) := by decide +kernel
theorem dX9_doesFittingGoOn_60 : decode cX9_doesFittingGoOn 60 = .ok (.ireturn, 1) := by decide +kernel
theorem dX9_areNumbersSound_0 : decode cX9_areNumbersSound 0 = .ok (.iconst 0, 1) := by decide +kernel
theorem dX9_areNumbersSound_1 : decode cX9_areNumbersSound 1 = .ok (.istore_n 1, 1) := by decide +kernel
theorem dX9_areNumbersSound_2 : decode cX9_areNumbersSound 2 = .ok (.iload_n 1, 1) := by decide +kernel
theorem dX9_areNumbersSound_3 : decode cX9_areNumbersSound 3 = .ok (.aload_n 0, 1) := by decide +kernel
theorem dX9_areNumbersSound_4 : decode cX9_areNumbersSound 4 = .ok (.getfield 48, 3) := by decide +kernel
theorem dX9_areNumbersSound_7 : decode cX9_areNumbersSound 7 = .ok (.if_icmp .ge 50, 3) := by decide +kernel
theorem dX9_areNumbersSound_10 : decode cX9_areNumbersSound 10 = .ok (.aload_n 0, 1) := by decide +kernel
theorem dX9_areNumbersSound_11 : decode cX9_areNumbersSound 11 = .ok (.iload_n 1, 1) := by decide +kernel
theorem dX9_areNumbersSound_12 : decode cX9_areNumbersSound 12 = .ok (.invokevirtual 266, 3) := by decide +kernel
theorem dX9_areNumbersSound_15 : decode cX9_areNumbersSound 15 = .ok (.istore_n 2, 1) := by decide +kernel
theorem dX9_areNumbersSound_16 : decode cX9_areNumbersSound 16 = .ok (.iconst 0, 1) := by decide +kernel
theorem dX9_areNumbersSound_17 : decode cX9_areNumbersSound 17 = .ok (.istore_n 3, 1) := by decide +kernel
theorem dX9_areNumbersSound_18 : decode cX9_areNumbersSound 18 = .ok (.iload_n 3, 1) := by decide +kernel
theorem dX9_areNumbersSound_19 : decode cX9_areNumbersSound 19 = .ok (.iconst 3, 1) := by decide +kernel
theorem dX9_areNumbersSound_20 : decode cX9_areNumbersSound 20 = .ok (.if_icmp .ge 31, 3) := by decide +kernel
theorem dX9_areNumbersSound_23 : decode cX9_areNumbersSound 23 = .ok (.aload_n 0, 1) := by decide +kernel
theorem dX9_areNumbersSound_24 : decode cX9_areNumbersSound 24 = .ok (.getfield 24, 3) := by decide +kernel
theorem dX9_areNumbersSound_27 : decode cX9_areNumbersSound 27 = .ok (.iload_n 1, 1) := by decide +kernel
theorem dX9_areNumbersSound_28 : decode cX9_areNumbersSound 28 = .ok (.iconst 3, 1) := by decide +kernel
theorem dX9_areNumbersSound_29 : decode cX9_areNumbersSound 29 = .ok (.imul, 1) := by decide +kernel
theorem dX9_areNumbersSound_30 : decode cX9_areNumbersSound 30 = .ok (.iload_n 3, 1) := by decide +kernel
theorem dX9_areNumbersSound_31 : decode cX9_areNumbersSound 31 = .ok (.iadd, 1) := by decide +kernel
theorem dX9_areNumbersSound_32 : decode cX9_areNumbersSound 32 = .ok (.iaload, 1) := by decide +kernel
theorem dX9_areNumbersSound_33 : decode cX9_areNumbersSound 33 = .ok (.aload_n 0, 1) := by decide +kernel
theorem dX9_areNumbersSound_34 : decode cX9_areNumbersSound 34 = .ok (.iload_n 1, 1) := by decide +kernel
theorem dX9_areNumbersSound_35 : decode cX9_areNumbersSound 35 = .ok (.iload_n 3, 1) := by decide +kernel
theorem dX9_areNumbersSound_36 : decode cX9_areNumbersSound 36 = .ok (.iload_n 2, 1) := by decide +kernel
theorem dX9_areNumbersSound_37 : decode cX9_areNumbersSound 37 = .ok (.invokevirtual 269, 3) := by decide +kernel
theorem dX9_areNumbersSound_40 : decode cX9_areNumbersSound 40 = .ok (.if_icmp .eq 5, 3) := by decide +kernel
theorem dX9_areNumbersSound_43 : decode cX9_areNumbersSound 43 = .ok (.iconst 0, 1) := by decide +kernel
theorem dX9_areNumbersSound_44 : decode cX9_areNumbersSound 44 = .ok (.ireturn, 1) := by decide +kernel
theorem dX9_areNumbersSound_45 : decode cX9_areNumbersSound 45 = .ok (.iinc 3 1, 3) := by decide +kernel
theorem dX9_areNumbersSound_48 : decode cX9_areNumbersSound 48 = .ok (.goto (-30), 3) := by decide +kernel
theorem dX9_areNumbersSound_51 : decode cX9_areNumbersSound 51 = .ok (.iinc 1 1, 3) := by decide +kernel
theorem dX9_areNumbersSound_54 : decode cX9_areNumbersSound 54 = .ok (.goto (-52), 3) := by decide +kernel
theorem dX9_areNumbersSound_57 : decode cX9_areNumbersSound 57 = .ok (.iconst 1, 1) := by decide +kernel
theorem dX9_areNumbersSound_58 : decode cX9_areNumbersSound 58 = .ok (.ireturn, 1) := by decide +kernel
theorem dX9_stepOf_0 : decode cX9_stepOf 0 = .ok (.iload_n 1, 1) := by decide +kernel
theorem dX9_stepOf_1 : decode cX9_stepOf 1 = .ok (.ifCond .ne 5, 3) := by decide +kernel
theorem dX9_stepOf_4 : decode cX9_stepOf 4 = .ok (.iconst 0, 1) := by decide +kernel
theorem dX9_stepOf_5 : decode cX9_stepOf 5 = .ok (.ireturn, 1) := by decide +kernel
theorem dX9_stepOf_6 : decode cX9_stepOf 6 = .ok (.aload_n 0, 1) := by decide +kernel
theorem dX9_stepOf_7 : decode cX9_stepOf 7 = .ok (.getfield 41, 3) := by decide +kernel
theorem dX9_stepOf_10 : decode cX9_stepOf 10 = .ok (.aload_n 0, 1) := by decide +kernel
theorem dX9_stepOf_11 : decode cX9_stepOf 11 = .ok (.getfield 21, 3) := by decide +kernel
theorem dX9_stepOf_14 : decode cX9_stepOf 14 = .ok (.iload_n 1, 1) := by decide +kernel
theorem dX9_stepOf_15 : decode cX9_stepOf 15 = .ok (.iconst 1, 1) := by decide +kernel
theorem dX9_stepOf_16 : decode cX9_stepOf 16 = .ok (.isub, 1) := by decide +kernel
theorem dX9_stepOf_17 : decode cX9_stepOf 17 = .ok (.aaload, 1) := by decide +kernel
theorem dX9_stepOf_18 : decode cX9_stepOf 18 = .ok (.aload_n 0, 1) := by decide +kernel
theorem dX9_stepOf_19 : decode cX9_stepOf 19 = .ok (.getfield 21, 3) := by decide +kernel
theorem dX9_stepOf_22 : decode cX9_stepOf 22 = .ok (.iload_n 1, 1) := by decide +kernel
theorem dX9_stepOf_23 : decode cX9_stepOf 23 = .ok (.aaload, 1) := by decide +kernel
theorem dX9_stepOf_24 : decode cX9_stepOf 24 = .ok (.invokevirtual 255, 3) := by decide +kernel
theorem dX9_stepOf_27 : decode cX9_stepOf 27 = .ok (.ifCond .eq 5, 3) := by decide +kernel
theorem dX9_stepOf_30 : decode cX9_stepOf 30 = .ok (.iconst 0, 1) := by decide +kernel
theorem dX9_stepOf_31 : decode cX9_stepOf 31 = .ok (.ireturn, 1) := by decide +kernel
theorem dX9_stepOf_32 : decode cX9_stepOf 32 = .ok (.aload_n 0, 1) := by decide +kernel
theorem dX9_stepOf_33 : decode cX9_stepOf 33 = .ok (.getfield 41, 3) := by decide +kernel
theorem dX9_stepOf_36 : decode cX9_stepOf 36 = .ok (.aload_n 0, 1) := by decide +kernel
theorem dX9_stepOf_37 : decode cX9_stepOf 37 = .ok (.getfield 21, 3) := by decide +kernel
theorem dX9_stepOf_40 : decode cX9_stepOf 40 = .ok (.iload_n 1, 1) := by decide +kernel
theorem dX9_stepOf_41 : decode cX9_stepOf 41 = .ok (.aaload, 1) := by decide +kernel
theorem dX9_stepOf_42 : decode cX9_stepOf 42 = .ok (.aload_n 0, 1) := by decide +kernel
theorem dX9_stepOf_43 : decode cX9_stepOf 43 = .ok (.getfield 21, 3) := by decide +kernel
theorem dX9_stepOf_46 : decode cX9_stepOf 46 = .ok (.iload_n 1, 1) := by decide +kernel
theorem dX9_stepOf_47 : decode cX9_stepOf 47 = .ok (.iconst 1, 1) := by decide +kernel
theorem dX9_stepOf_48 : decode cX9_stepOf 48 = .ok (.isub, 1) := by decide +kernel
theorem dX9_stepOf_49 : decode cX9_stepOf 49 = .ok (.aaload, 1) := by decide +kernel
theorem dX9_stepOf_50 : decode cX9_stepOf 50 = .ok (.invokevirtual 255, 3) := by decide +kernel
theorem dX9_stepOf_53 : decode cX9_stepOf 53 = .ok (.ifCond .eq 7, 3) := by decide +kernel
theorem dX9_stepOf_56 : decode cX9_stepOf 56 = .ok (.iconst 1, 1) := by decide +kernel
theorem dX9_stepOf_57 : decode cX9_stepOf 57 = .ok (.goto 4, 3) := by decide +kernel
theorem dX9_stepOf_60 : decode cX9_stepOf 60 = .ok (.iconst 2, 1) := by decide +kernel
theorem dX9_stepOf_61 : decode cX9_stepOf 61 = .ok (.ireturn, 1) := by decide +kernel
theorem dX9_numberDue_0 : decode cX9_numberDue 0 = .ok (.iload_n 1, 1) := by decide +kernel
theorem dX9_numberDue_1 : decode cX9_numberDue 1 = .ok (.ifCond .ne 7, 3) := by decide +kernel
theorem dX9_numberDue_4 : decode cX9_numberDue 4 = .ok (.iconst 0, 1) := by decide +kernel
theorem dX9_numberDue_5 : decode cX9_numberDue 5 = .ok (.goto 15, 3) := by decide +kernel
theorem dX9_numberDue_8 : decode cX9_numberDue 8 = .ok (.aload_n 0, 1) := by decide +kernel
theorem dX9_numberDue_9 : decode cX9_numberDue 9 = .ok (.getfield 24, 3) := by decide +kernel
theorem dX9_numberDue_12 : decode cX9_numberDue 12 = .ok (.iload_n 1, 1) := by decide +kernel
theorem dX9_numberDue_13 : decode cX9_numberDue 13 = .ok (.iconst 1, 1) := by decide +kernel
theorem dX9_numberDue_14 : decode cX9_numberDue 14 = .ok (.isub, 1) := by decide +kernel
theorem dX9_numberDue_15 : decode cX9_numberDue 15 = .ok (.iconst 3, 1) := by decide +kernel
theorem dX9_numberDue_16 : decode cX9_numberDue 16 = .ok (.imul, 1) := by decide +kernel
theorem dX9_numberDue_17 : decode cX9_numberDue 17 = .ok (.iload_n 2, 1) := by decide +kernel
theorem dX9_numberDue_18 : decode cX9_numberDue 18 = .ok (.iadd, 1) := by decide +kernel
theorem dX9_numberDue_19 : decode cX9_numberDue 19 = .ok (.iaload, 1) := by decide +kernel
theorem dX9_numberDue_20 : decode cX9_numberDue 20 = .ok (.istore 4, 2) := by decide +kernel
theorem dX9_numberDue_22 : decode cX9_numberDue 22 = .ok (.iload_n 2, 1) := by decide +kernel
theorem dX9_numberDue_23 : decode cX9_numberDue 23 = .ok (.iload_n 3, 1) := by decide +kernel
theorem dX9_numberDue_24 : decode cX9_numberDue 24 = .ok (.if_icmp .ge 8, 3) := by decide +kernel
theorem dX9_numberDue_27 : decode cX9_numberDue 27 = .ok (.iload 4, 2) := by decide +kernel
theorem dX9_numberDue_29 : decode cX9_numberDue 29 = .ok (.goto 16, 3) := by decide +kernel
theorem dX9_numberDue_32 : decode cX9_numberDue 32 = .ok (.iload_n 2, 1) := by decide +kernel
theorem dX9_numberDue_33 : decode cX9_numberDue 33 = .ok (.iload_n 3, 1) := by decide +kernel
theorem dX9_numberDue_34 : decode cX9_numberDue 34 = .ok (.if_icmp .ne 10, 3) := by decide +kernel
theorem dX9_numberDue_37 : decode cX9_numberDue 37 = .ok (.iload 4, 2) := by decide +kernel
theorem dX9_numberDue_39 : decode cX9_numberDue 39 = .ok (.iconst 1, 1) := by decide +kernel
theorem dX9_numberDue_40 : decode cX9_numberDue 40 = .ok (.iadd, 1) := by decide +kernel
theorem dX9_numberDue_41 : decode cX9_numberDue 41 = .ok (.goto 4, 3) := by decide +kernel
theorem dX9_numberDue_44 : decode cX9_numberDue 44 = .ok (.iconst 0, 1) := by decide +kernel
theorem dX9_numberDue_45 : decode cX9_numberDue 45 = .ok (.ireturn, 1) := by decide +kernel
theorem dX9_needPlace_0 : decode cX9_needPlace 0 = .ok (.iload_n 0, 1) := by decide +kernel
theorem dX9_needPlace_1 : decode cX9_needPlace 1 = .ok (.ifCond .lt 8, 3) := by decide +kernel
theorem dX9_needPlace_4 : decode cX9_needPlace 4 = .ok (.iload_n 0, 1) := by decide +kernel
theorem dX9_needPlace_5 : decode cX9_needPlace 5 = .ok (.iload_n 1, 1) := by decide +kernel
theorem dX9_needPlace_6 : decode cX9_needPlace 6 = .ok (.if_icmp .lt 11, 3) := by decide +kernel
theorem dX9_needPlace_9 : decode cX9_needPlace 9 = .ok (.new 304, 3) := by decide +kernel
theorem dX9_needPlace_12 : decode cX9_needPlace 12 = .ok (.dup, 1) := by decide +kernel
theorem dX9_needPlace_13 : decode cX9_needPlace 13 = .ok (.invokespecial 306, 3) := by decide +kernel
theorem dX9_needPlace_16 : decode cX9_needPlace 16 = .ok (.athrow, 1) := by decide +kernel
theorem dX9_needPlace_17 : decode cX9_needPlace 17 = .ok (.return_, 1) := by decide +kernel
theorem dX9_needRange_0 : decode cX9_needRange 0 = .ok (.iload_n 0, 1) := by decide +kernel
theorem dX9_needRange_1 : decode cX9_needRange 1 = .ok (.ifCond .ne 11, 3) := by decide +kernel
theorem dX9_needRange_4 : decode cX9_needRange 4 = .ok (.new 307, 3) := by decide +kernel
theorem dX9_needRange_7 : decode cX9_needRange 7 = .ok (.dup, 1) := by decide +kernel
theorem dX9_needRange_8 : decode cX9_needRange 8 = .ok (.invokespecial 309, 3) := by decide +kernel
theorem dX9_needRange_11 : decode cX9_needRange 11 = .ok (.athrow, 1) := by decide +kernel
theorem dX9_needRange_12 : decode cX9_needRange 12 = .ok (.return_, 1) := by decide +kernel
theorem dX9_needThere_0 : decode cX9_needThere 0 = .ok (.aload_n 0, 1) := by decide +kernel
theorem dX9_needThere_1 : decode cX9_needThere 1 = .ok (.getfield 66, 3) := by decide +kernel
theorem dX9_needThere_4 : decode cX9_needThere 4 = .ok (.getfield 70, 3) := by decide +kernel
theorem dX9_needThere_7 : decode cX9_needThere 7 = .ok (.iload_n 1, 1) := by decide +kernel
theorem dX9_needThere_8 : decode cX9_needThere 8 = .ok (.bipush 65, 2) := by decide +kernel
theorem dX9_needThere_10 : decode cX9_needThere 10 = .ok (.isub, 1) := by decide +kernel
theorem dX9_needThere_11 : decode cX9_needThere 11 = .ok (.caload, 1) := by decide +kernel
theorem dX9_needThere_12 : decode cX9_needThere 12 = .ok (.bipush 45, 2) := by decide +kernel
theorem dX9_needThere_14 : decode cX9_needThere 14 = .ok (.if_icmp .eq 7, 3) := by decide +kernel
theorem dX9_needThere_17 : decode cX9_needThere 17 = .ok (.iconst 1, 1) := by decide +kernel
theorem dX9_needThere_18 : decode cX9_needThere 18 = .ok (.goto 4, 3) := by decide +kernel
theorem dX9_needThere_21 : decode cX9_needThere 21 = .ok (.iconst 0, 1) := by decide +kernel
theorem dX9_needThere_22 : decode cX9_needThere 22 = .ok (.invokestatic 227, 3) := by decide +kernel
theorem dX9_needThere_25 : decode cX9_needThere 25 = .ok (.return_, 1) := by decide +kernel
theorem dX9_needElement_0 : decode cX9_needElement 0 = .ok (.iload_n 0, 1) := by decide +kernel
theorem dX9_needElement_1 : decode cX9_needElement 1 = .ok (.ifCond .ne 11, 3) := by decide +kernel
theorem dX9_needElement_4 : decode cX9_needElement 4 = .ok (.new 310, 3) := by decide +kernel
theorem dX9_needElement_7 : decode cX9_needElement 7 = .ok (.dup, 1) := by decide +kernel
theorem dX9_needElement_8 : decode cX9_needElement 8 = .ok (.invokespecial 312, 3) := by decide +kernel
theorem dX9_needElement_11 : decode cX9_needElement 11 = .ok (.athrow, 1) := by decide +kernel
theorem dX9_needElement_12 : decode cX9_needElement 12 = .ok (.return_, 1) := by decide +kernel
theorem dX9_needSupport_0 : decode cX9_needSupport 0 = .ok (.iload_n 0, 1) := by decide +kernel
theorem dX9_needSupport_1 : decode cX9_needSupport 1 = .ok (.ifCond .ne 11, 3) := by decide +kernel
theorem dX9_needSupport_4 : decode cX9_needSupport 4 = .ok (.new 313, 3) := by decide +kernel
theorem dX9_needSupport_7 : decode cX9_needSupport 7 = .ok (.dup, 1) := by decide +kernel
theorem dX9_needSupport_8 : decode cX9_needSupport 8 = .ok (.invokespecial 315, 3) := by decide +kernel
theorem dX9_needSupport_11 : decode cX9_needSupport 11 = .ok (.athrow, 1) := by decide +kernel
theorem dX9_needSupport_12 : decode cX9_needSupport 12 = .ok (.return_, 1) := by decide +kernel
theorem dX9_needState_0 : decode cX9_needState 0 = .ok (.iload_n 0, 1) := by decide +kernel
theorem dX9_needState_1 : decode cX9_needState 1 = .ok (.ifCond .ne 11, 3) := by decide +kernel
theorem dX9_needState_4 : decode cX9_needState 4 = .ok (.new 316, 3) := by decide +kernel
theorem dX9_needState_7 : decode cX9_needState 7 = .ok (.dup, 1) := by decide +kernel
theorem dX9_needState_8 : decode cX9_needState 8 = .ok (.invokespecial 318, 3) := by decide +kernel
theorem dX9_needState_11 : decode cX9_needState 11 = .ok (.athrow, 1) := by decide +kernel
theorem dX9_needState_12 : decode cX9_needState 12 = .ok (.return_, 1) := by decide +kernel
theorem dX9_isType_0 : decode cX9_isType 0 = .ok (.iload_n 0, 1) := by decide +kernel
theorem dX9_isType_1 : decode cX9_isType 1 = .ok (.bipush 65, 2) := by decide +kernel
theorem dX9_isType_3 : decode cX9_isType 3 = .ok (.if_icmp .lt 13, 3) := by decide +kernel
theorem dX9_isType_6 : decode cX9_isType 6 = .ok (.iload_n 0, 1) := by decide +kernel
theorem dX9_isType_7 : decode cX9_isType 7 = .ok (.bipush 69, 2) := by decide +kernel
theorem dX9_isType_9 : decode cX9_isType 9 = .ok (.if_icmp .gt 7, 3) := by decide +kernel
theorem dX9_isType_12 : decode cX9_isType 12 = .ok (.iconst 1, 1) := by decide +kernel
theorem dX9_isType_13 : decode cX9_isType 13 = .ok (.goto 4, 3) := by decide +kernel
theorem dX9_isType_16 : decode cX9_isType 16 = .ok (.iconst 0, 1) := by decide +kernel
theorem dX9_isType_17 : decode cX9_isType 17 = .ok (.ireturn, 1) := by decide +kernel
theorem dX9_isMember_0 : decode cX9_isMember 0 = .ok (.iload_n 0, 1) := by decide +kernel
theorem dX9_isMember_1 : decode cX9_isMember 1 = .ok (.bipush 97, 2) := by decide +kernel
theorem dX9_isMember_3 : decode cX9_isMember 3 = .ok (.if_icmp .lt 22, 3) := by decide +kernel
theorem dX9_isMember_6 : decode cX9_isMember 6 = .ok (.iload_n 0, 1) := by decide +kernel
theorem dX9_isMember_7 : decode cX9_isMember 7 = .ok (.bipush 99, 2) := by decide +kernel
theorem dX9_isMember_9 : decode cX9_isMember 9 = .ok (.if_icmp .gt 16, 3) := by decide +kernel
theorem dX9_isMember_12 : decode cX9_isMember 12 = .ok (.iload_n 1, 1) := by decide +kernel
theorem dX9_isMember_13 : decode cX9_isMember 13 = .ok (.ifCond .eq 8, 3) := by decide +kernel
theorem dX9_isMember_16 : decode cX9_isMember 16 = .ok (.iload_n 1, 1) := by decide +kernel
theorem dX9_isMember_17 : decode cX9_isMember 17 = .ok (.iconst 1, 1) := by decide +kernel
theorem dX9_isMember_18 : decode cX9_isMember 18 = .ok (.if_icmp .ne 7, 3) := by decide +kernel
theorem dX9_isMember_21 : decode cX9_isMember 21 = .ok (.iconst 1, 1) := by decide +kernel
theorem dX9_isMember_22 : decode cX9_isMember 22 = .ok (.goto 4, 3) := by decide +kernel
theorem dX9_isMember_25 : decode cX9_isMember 25 = .ok (.iconst 0, 1) := by decide +kernel
theorem dX9_isMember_26 : decode cX9_isMember 26 = .ok (.ireturn, 1) := by decide +kernel
theorem dX9_isSight_0 : decode cX9_isSight 0 = .ok (.iload_n 0, 1) := by decide +kernel
theorem dX9_isSight_1 : decode cX9_isSight 1 = .ok (.invokestatic 322, 3) := by decide +kernel
theorem dX9_isSight_4 : decode cX9_isSight 4 = .ok (.iconst (-1), 1) := by decide +kernel
theorem dX9_isSight_5 : decode cX9_isSight 5 = .ok (.if_icmp .eq 7, 3) := by decide +kernel
theorem dX9_isSight_8 : decode cX9_isSight 8 = .ok (.iconst 1, 1) := by decide +kernel
theorem dX9_isSight_9 : decode cX9_isSight 9 = .ok (.goto 4, 3) := by decide +kernel
theorem dX9_isSight_12 : decode cX9_isSight 12 = .ok (.iconst 0, 1) := by decide +kernel
theorem dX9_isSight_13 : decode cX9_isSight 13 = .ok (.ireturn, 1) := by decide +kernel
theorem dX9_sightRank_0 : decode cX9_sightRank 0 = .ok (.iload_n 0, 1) := by decide +kernel
theorem dX9_sightRank_1 : decode cX9_sightRank 1 = .ok (.bipush 112, 2) := by decide +kernel
theorem dX9_sightRank_3 : decode cX9_sightRank 3 = .ok (.if_icmp .ne 7, 3) := by decide +kernel
theorem dX9_sightRank_6 : decode cX9_sightRank 6 = .ok (.iconst 0, 1) := by decide +kernel
theorem dX9_sightRank_7 : decode cX9_sightRank 7 = .ok (.goto 34, 3) := by decide +kernel
theorem dX9_sightRank_10 : decode cX9_sightRank 10 = .ok (.iload_n 0, 1) := by decide +kernel
theorem dX9_sightRank_11 : decode cX9_sightRank 11 = .ok (.bipush 111, 2) := by decide +kernel
theorem dX9_sightRank_13 : decode cX9_sightRank 13 = .ok (.if_icmp .ne 7, 3) := by decide +kernel
theorem dX9_sightRank_16 : decode cX9_sightRank 16 = .ok (.iconst 1, 1) := by decide +kernel
theorem dX9_sightRank_17 : decode cX9_sightRank 17 = .ok (.goto 24, 3) := by decide +kernel
theorem dX9_sightRank_20 : decode cX9_sightRank 20 = .ok (.iload_n 0, 1) := by decide +kernel
theorem dX9_sightRank_21 : decode cX9_sightRank 21 = .ok (.bipush 107, 2) := by decide +kernel
theorem dX9_sightRank_23 : decode cX9_sightRank 23 = .ok (.if_icmp .ne 7, 3) := by decide +kernel
theorem dX9_sightRank_26 : decode cX9_sightRank 26 = .ok (.iconst 2, 1) := by decide +kernel
theorem dX9_sightRank_27 : decode cX9_sightRank 27 = .ok (.goto 14, 3) := by decide +kernel
theorem dX9_sightRank_30 : decode cX9_sightRank 30 = .ok (.iload_n 0, 1) := by decide +kernel
theorem dX9_sightRank_31 : decode cX9_sightRank 31 = .ok (.bipush 118, 2) := by decide +kernel
theorem dX9_sightRank_33 : decode cX9_sightRank 33 = .ok (.if_icmp .ne 7, 3) := by decide +kernel
theorem dX9_sightRank_36 : decode cX9_sightRank 36 = .ok (.iconst 3, 1) := by decide +kernel
theorem dX9_sightRank_37 : decode cX9_sightRank 37 = .ok (.goto 4, 3) := by decide +kernel
theorem dX9_sightRank_40 : decode cX9_sightRank 40 = .ok (.iconst (-1), 1) := by decide +kernel
theorem dX9_sightRank_41 : decode cX9_sightRank 41 = .ok (.ireturn, 1) := by decide +kernel
theorem dX9_memberIndex_0 : decode cX9_memberIndex 0 = .ok (.iload_n 0, 1) := by decide +kernel
theorem dX9_memberIndex_1 : decode cX9_memberIndex 1 = .ok (.bipush 97, 2) := by decide +kernel
theorem dX9_memberIndex_3 : decode cX9_memberIndex 3 = .ok (.isub, 1) := by decide +kernel
theorem dX9_memberIndex_4 : decode cX9_memberIndex 4 = .ok (.iconst 2, 1) := by decide +kernel
theorem dX9_memberIndex_5 : decode cX9_memberIndex 5 = .ok (.imul, 1) := by decide +kernel
theorem dX9_memberIndex_6 : decode cX9_memberIndex 6 = .ok (.iload_n 1, 1) := by decide +kernel
theorem dX9_memberIndex_7 : decode cX9_memberIndex 7 = .ok (.iadd, 1) := by decide +kernel
theorem dX9_memberIndex_8 : decode cX9_memberIndex 8 = .ok (.ireturn, 1) := by decide +kernel
theorem dX9_memberPlace_0 : decode cX9_memberPlace 0 = .ok (.iload_n 0, 1) := by decide +kernel
theorem dX9_memberPlace_1 : decode cX9_memberPlace 1 = .ok (.bipush 65, 2) := by decide +kernel
theorem dX9_memberPlace_3 : decode cX9_memberPlace 3 = .ok (.isub, 1) := by decide +kernel
theorem dX9_memberPlace_4 : decode cX9_memberPlace 4 = .ok (.bipush 6, 2) := by decide +kernel
theorem dX9_memberPlace_6 : decode cX9_memberPlace 6 = .ok (.imul, 1) := by decide +kernel
theorem dX9_memberPlace_7 : decode cX9_memberPlace 7 = .ok (.iload_n 1, 1) := by decide +kernel
theorem dX9_memberPlace_8 : decode cX9_memberPlace 8 = .ok (.iload_n 2, 1) := by decide +kernel
theorem dX9_memberPlace_9 : decode cX9_memberPlace 9 = .ok (.invokestatic 199, 3) := by decide +kernel
theorem dX9_memberPlace_12 : decode cX9_memberPlace 12 = .ok (.iadd, 1) := by decide +kernel
theorem dX9_memberPlace_13 : decode cX9_memberPlace 13 = .ok (.ireturn, 1) := by decide +kernel
theorem dX9_rowOf_0 : decode cX9_rowOf 0 = .ok (.iload_n 0, 1) := by decide +kernel
theorem dX9_rowOf_1 : decode cX9_rowOf 1 = .ok (.bipush 88, 2) := by decide +kernel
theorem dX9_rowOf_3 : decode cX9_rowOf 3 = .ok (.if_icmp .ne 7, 3) := by decide +kernel
theorem dX9_rowOf_6 : decode cX9_rowOf 6 = .ok (.iconst 5, 1) := by decide +kernel
theorem dX9_rowOf_7 : decode cX9_rowOf 7 = .ok (.goto 7, 3) := by decide +kernel
theorem dX9_rowOf_10 : decode cX9_rowOf 10 = .ok (.iload_n 0, 1) := by decide +kernel
theorem dX9_rowOf_11 : decode cX9_rowOf 11 = .ok (.bipush 65, 2) := by decide +kernel
theorem dX9_rowOf_13 : decode cX9_rowOf 13 = .ok (.isub, 1) := by decide +kernel
theorem dX9_rowOf_14 : decode cX9_rowOf 14 = .ok (.ireturn, 1) := by decide +kernel
theorem dX9_letter_0 : decode cX9_letter 0 = .ok (.iload_n 0, 1) := by decide +kernel
theorem dX9_letter_1 : decode cX9_letter 1 = .ok (.iconst (-1), 1) := by decide +kernel
theorem dX9_letter_2 : decode cX9_letter 2 = .ok (.if_icmp .ne 8, 3) := by decide +kernel
theorem dX9_letter_5 : decode cX9_letter 5 = .ok (.bipush 45, 2) := by decide +kernel
theorem dX9_letter_7 : decode cX9_letter 7 = .ok (.goto 18, 3) := by decide +kernel
theorem dX9_letter_10 : decode cX9_letter 10 = .ok (.iload_n 0, 1) := by decide +kernel
theorem dX9_letter_11 : decode cX9_letter 11 = .ok (.iconst 5, 1) := by decide +kernel
theorem dX9_letter_12 : decode cX9_letter 12 = .ok (.if_icmp .ne 8, 3) := by decide +kernel
theorem dX9_letter_15 : decode cX9_letter 15 = .ok (.bipush 88, 2) := by decide +kernel
theorem dX9_letter_17 : decode cX9_letter 17 = .ok (.goto 8, 3) := by decide +kernel
theorem dX9_letter_20 : decode cX9_letter 20 = .ok (.bipush 65, 2) := by decide +kernel
theorem dX9_letter_22 : decode cX9_letter 22 = .ok (.iload_n 0, 1) := by decide +kernel
theorem dX9_letter_23 : decode cX9_letter 23 = .ok (.iadd, 1) := by decide +kernel
theorem dX9_letter_24 : decode cX9_letter 24 = .ok (.i2c, 1) := by decide +kernel
theorem dX9_letter_25 : decode cX9_letter 25 = .ok (.ireturn, 1) := by decide +kernel
theorem dX9_nameOf_0 : decode cX9_nameOf 0 = .ok (.iload_n 0, 1) := by decide +kernel
theorem dX9_nameOf_1 : decode cX9_nameOf 1 = .ok (.iconst (-1), 1) := by decide +kernel
theorem dX9_nameOf_2 : decode cX9_nameOf 2 = .ok (.if_icmp .ne 8, 3) := by decide +kernel
theorem dX9_nameOf_5 : decode cX9_nameOf 5 = .ok (.bipush 45, 2) := by decide +kernel
theorem dX9_nameOf_7 : decode cX9_nameOf 7 = .ok (.goto 10, 3) := by decide +kernel
theorem dX9_nameOf_10 : decode cX9_nameOf 10 = .ok (.bipush 97, 2) := by decide +kernel
theorem dX9_nameOf_12 : decode cX9_nameOf 12 = .ok (.iload_n 0, 1) := by decide +kernel
theorem dX9_nameOf_13 : decode cX9_nameOf 13 = .ok (.iconst 2, 1) := by decide +kernel
theorem dX9_nameOf_14 : decode cX9_nameOf 14 = .ok (.idiv, 1) := by decide +kernel
theorem dX9_nameOf_15 : decode cX9_nameOf 15 = .ok (.iadd, 1) := by decide +kernel
theorem dX9_nameOf_16 : decode cX9_nameOf 16 = .ok (.i2c, 1) := by decide +kernel
theorem dX9_nameOf_17 : decode cX9_nameOf 17 = .ok (.ireturn, 1) := by decide +kernel
theorem dX9_kindIndex_0 : decode cX9_kindIndex 0 = .ok (.iconst 0, 1) := by decide +kernel
theorem dX9_kindIndex_1 : decode cX9_kindIndex 1 = .ok (.istore_n 1, 1) := by decide +kernel
theorem dX9_kindIndex_2 : decode cX9_kindIndex 2 = .ok (.iload_n 1, 1) := by decide +kernel
theorem dX9_kindIndex_3 : decode cX9_kindIndex 3 = .ok (.getstatic 325, 3) := by decide +kernel
theorem dX9_kindIndex_6 : decode cX9_kindIndex 6 = .ok (.arraylength, 1) := by decide +kernel
theorem dX9_kindIndex_7 : decode cX9_kindIndex 7 = .ok (.if_icmp .ge 20, 3) := by decide +kernel
theorem dX9_kindIndex_10 : decode cX9_kindIndex 10 = .ok (.getstatic 325, 3) := by decide +kernel
theorem dX9_kindIndex_13 : decode cX9_kindIndex 13 = .ok (.iload_n 1, 1) := by decide +kernel
theorem dX9_kindIndex_14 : decode cX9_kindIndex 14 = .ok (.caload, 1) := by decide +kernel
theorem dX9_kindIndex_15 : decode cX9_kindIndex 15 = .ok (.iload_n 0, 1) := by decide +kernel
theorem dX9_kindIndex_16 : decode cX9_kindIndex 16 = .ok (.if_icmp .ne 5, 3) := by decide +kernel
theorem dX9_kindIndex_19 : decode cX9_kindIndex 19 = .ok (.iload_n 1, 1) := by decide +kernel
theorem dX9_kindIndex_20 : decode cX9_kindIndex 20 = .ok (.ireturn, 1) := by decide +kernel
theorem dX9_kindIndex_21 : decode cX9_kindIndex 21 = .ok (.iinc 1 1, 3) := by decide +kernel
theorem dX9_kindIndex_24 : decode cX9_kindIndex 24 = .ok (.goto (-22), 3) := by decide +kernel
theorem dX9_kindIndex_27 : decode cX9_kindIndex 27 = .ok (.iconst (-1), 1) := by decide +kernel
theorem dX9_kindIndex_28 : decode cX9_kindIndex 28 = .ok (.ireturn, 1) := by decide +kernel
theorem dX9_hasType_0 : decode cX9_hasType 0 = .ok (.iload_n 0, 1) := by decide +kernel
theorem dX9_hasType_1 : decode cX9_hasType 1 = .ok (.ifCond .eq 12, 3) := by decide +kernel
theorem dX9_hasType_4 : decode cX9_hasType 4 = .ok (.iload_n 0, 1) := by decide +kernel
theorem dX9_hasType_5 : decode cX9_hasType 5 = .ok (.iconst 4, 1) := by decide +kernel
theorem dX9_hasType_6 : decode cX9_hasType 6 = .ok (.if_icmp .eq 7, 3) := by decide +kernel
theorem dX9_hasType_9 : decode cX9_hasType 9 = .ok (.iconst 1, 1) := by decide +kernel
theorem dX9_hasType_10 : decode cX9_hasType 10 = .ok (.goto 4, 3) := by decide +kernel
theorem dX9_hasType_13 : decode cX9_hasType 13 = .ok (.iconst 0, 1) := by decide +kernel
theorem dX9_hasType_14 : decode cX9_hasType 14 = .ok (.ireturn, 1) := by decide +kernel
theorem dX9_hasMember_0 : decode cX9_hasMember 0 = .ok (.iload_n 0, 1) := by decide +kernel
theorem dX9_hasMember_1 : decode cX9_hasMember 1 = .ok (.ifCond .eq 7, 3) := by decide +kernel
theorem dX9_hasMember_4 : decode cX9_hasMember 4 = .ok (.iconst 1, 1) := by decide +kernel
theorem dX9_hasMember_5 : decode cX9_hasMember 5 = .ok (.goto 4, 3) := by decide +kernel
theorem dX9_hasMember_8 : decode cX9_hasMember 8 = .ok (.iconst 0, 1) := by decide +kernel
theorem dX9_hasMember_9 : decode cX9_hasMember 9 = .ok (.ireturn, 1) := by decide +kernel
theorem dX9_hasObject_0 : decode cX9_hasObject 0 = .ok (.iload_n 0, 1) := by decide +kernel
theorem dX9_hasObject_1 : decode cX9_hasObject 1 = .ok (.ifCond .eq 25, 3) := by decide +kernel
theorem dX9_hasObject_4 : decode cX9_hasObject 4 = .ok (.iload_n 0, 1) := by decide +kernel
theorem dX9_hasObject_5 : decode cX9_hasObject 5 = .ok (.iconst 2, 1) := by decide +kernel
theorem dX9_hasObject_6 : decode cX9_hasObject 6 = .ok (.if_icmp .eq 20, 3) := by decide +kernel
theorem dX9_hasObject_9 : decode cX9_hasObject 9 = .ok (.iload_n 0, 1) := by decide +kernel
theorem dX9_hasObject_10 : decode cX9_hasObject 10 = .ok (.iconst 3, 1) := by decide +kernel
theorem dX9_hasObject_11 : decode cX9_hasObject 11 = .ok (.if_icmp .eq 15, 3) := by decide +kernel
theorem dX9_hasObject_14 : decode cX9_hasObject 14 = .ok (.iload_n 0, 1) := by decide +kernel
theorem dX9_hasObject_15 : decode cX9_hasObject 15 = .ok (.bipush 7, 2) := by decide +kernel
theorem dX9_hasObject_17 : decode cX9_hasObject 17 = .ok (.if_icmp .eq 9, 3) := by decide +kernel
theorem dX9_hasObject_20 : decode cX9_hasObject 20 = .ok (.iload_n 0, 1) := by decide +kernel
theorem dX9_hasObject_21 : decode cX9_hasObject 21 = .ok (.bipush 8, 2) := by decide +kernel
theorem dX9_hasObject_23 : decode cX9_hasObject 23 = .ok (.if_icmp .ne 7, 3) := by decide +kernel
theorem dX9_hasObject_26 : decode cX9_hasObject 26 = .ok (.iconst 1, 1) := by decide +kernel
theorem dX9_hasObject_27 : decode cX9_hasObject 27 = .ok (.goto 4, 3) := by decide +kernel
theorem dX9_hasObject_30 : decode cX9_hasObject 30 = .ok (.iconst 0, 1) := by decide +kernel
theorem dX9_hasObject_31 : decode cX9_hasObject 31 = .ok (.ireturn, 1) := by decide +kernel
theorem dX9_isCall_0 : decode cX9_isCall 0 = .ok (.iload_n 0, 1) := by decide +kernel
theorem dX9_isCall_1 : decode cX9_isCall 1 = .ok (.iconst 1, 1) := by decide +kernel
theorem dX9_isCall_2 : decode cX9_isCall 2 = .ok (.if_icmp .lt 12, 3) := by decide +kernel
theorem dX9_isCall_5 : decode cX9_isCall 5 = .ok (.iload_n 0, 1) := by decide +kernel
theorem dX9_isCall_6 : decode cX9_isCall 6 = .ok (.iconst 4, 1) := by decide +kernel
theorem dX9_isCall_7 : decode cX9_isCall 7 = .ok (.if_icmp .gt 7, 3) := by decide +kernel
theorem dX9_isCall_10 : decode cX9_isCall 10 = .ok (.iconst 1, 1) := by decide +kernel
theorem dX9_isCall_11 : decode cX9_isCall 11 = .ok (.goto 4, 3) := by decide +kernel
theorem dX9_isCall_14 : decode cX9_isCall 14 = .ok (.iconst 0, 1) := by decide +kernel
theorem dX9_isCall_15 : decode cX9_isCall 15 = .ok (.ireturn, 1) := by decide +kernel
theorem dX9_has_0 : decode cX9_has 0 = .ok (.iload_n 0, 1) := by decide +kernel
theorem dX9_has_1 : decode cX9_has 1 = .ok (.iload_n 1, 1) := by decide +kernel
theorem dX9_has_2 : decode cX9_has 2 = .ok (.ishr, 1) := by decide +kernel
theorem dX9_has_3 : decode cX9_has 3 = .ok (.iconst 1, 1) := by decide +kernel
theorem dX9_has_4 : decode cX9_has 4 = .ok (.iand, 1) := by decide +kernel
theorem dX9_has_5 : decode cX9_has 5 = .ok (.iconst 1, 1) := by decide +kernel
theorem dX9_has_6 : decode cX9_has 6 = .ok (.if_icmp .ne 7, 3) := by decide +kernel
theorem dX9_has_9 : decode cX9_has 9 = .ok (.iconst 1, 1) := by decide +kernel
theorem dX9_has_10 : decode cX9_has 10 = .ok (.goto 4, 3) := by decide +kernel
theorem dX9_has_13 : decode cX9_has 13 = .ok (.iconst 0, 1) := by decide +kernel
theorem dX9_has_14 : decode cX9_has 14 = .ok (.ireturn, 1) := by decide +kernel
theorem dX9_with_0 : decode cX9_with 0 = .ok (.iload_n 2, 1) := by decide +kernel
theorem dX9_with_1 : decode cX9_with 1 = .ok (.ifCond .eq 11, 3) := by decide +kernel
theorem dX9_with_4 : decode cX9_with 4 = .ok (.iload_n 0, 1) := by decide +kernel
theorem dX9_with_5 : decode cX9_with 5 = .ok (.iconst 1, 1) := by decide +kernel
theorem dX9_with_6 : decode cX9_with 6 = .ok (.iload_n 1, 1) := by decide +kernel
theorem dX9_with_7 : decode cX9_with 7 = .ok (.ishl, 1) := by decide +kernel
theorem dX9_with_8 : decode cX9_with 8 = .ok (.ior, 1) := by decide +kernel
theorem dX9_with_9 : decode cX9_with 9 = .ok (.goto 10, 3) := by decide +kernel
theorem dX9_with_12 : decode cX9_with 12 = .ok (.iload_n 0, 1) := by decide +kernel
theorem dX9_with_13 : decode cX9_with 13 = .ok (.iconst 1, 1) := by decide +kernel
theorem dX9_with_14 : decode cX9_with 14 = .ok (.iload_n 1, 1) := by decide +kernel
theorem dX9_with_15 : decode cX9_with 15 = .ok (.ishl, 1) := by decide +kernel
theorem dX9_with_16 : decode cX9_with 16 = .ok (.iconst (-1), 1) := by decide +kernel
theorem dX9_with_17 : decode cX9_with 17 = .ok (.ixor, 1) := by decide +kernel
theorem dX9_with_18 : decode cX9_with 18 = .ok (.iand, 1) := by decide +kernel
theorem dX9_with_19 : decode cX9_with 19 = .ok (.ireturn, 1) := by decide +kernel
end
section
-- pasted from the claim's printed text: decode rows
theorem dL_cell_0 : decode cL_cell 0 = .ok (.sipush 12345, 3) := by decide +kernel
theorem dL_cell_3 : decode cL_cell 3 = .ok (.bipush 31, 2) := by decide +kernel
theorem dL_cell_5 : decode cL_cell 5 = .ok (.aload_n 0, 1) := by decide +kernel
theorem dL_cell_6 : decode cL_cell 6 = .ok (.arraylength, 1) := by decide +kernel
theorem dL_cell_7 : decode cL_cell 7 = .ok (.imul, 1) := by decide +kernel
theorem dL_cell_8 : decode cL_cell 8 = .ok (.iadd, 1) := by decide +kernel
theorem dL_cell_9 : decode cL_cell 9 = .ok (.istore_n 2, 1) := by decide +kernel
theorem dL_cell_10 : decode cL_cell 10 = .ok (.aload_n 0, 1) := by decide +kernel
theorem dL_cell_11 : decode cL_cell 11 = .ok (.astore_n 3, 1) := by decide +kernel
theorem dL_cell_12 : decode cL_cell 12 = .ok (.aload_n 3, 1) := by decide +kernel
theorem dL_cell_13 : decode cL_cell 13 = .ok (.arraylength, 1) := by decide +kernel
theorem dL_cell_14 : decode cL_cell 14 = .ok (.istore 4, 2) := by decide +kernel
theorem dL_cell_16 : decode cL_cell 16 = .ok (.iconst 0, 1) := by decide +kernel
theorem dL_cell_17 : decode cL_cell 17 = .ok (.istore 5, 2) := by decide +kernel
theorem dL_cell_19 : decode cL_cell 19 = .ok (.iload 5, 2) := by decide +kernel
theorem dL_cell_21 : decode cL_cell 21 = .ok (.iload 4, 2) := by decide +kernel
theorem dL_cell_23 : decode cL_cell 23 = .ok (.if_icmp .ge 26, 3) := by decide +kernel
theorem dL_cell_26 : decode cL_cell 26 = .ok (.aload_n 3, 1) := by decide +kernel
theorem dL_cell_27 : decode cL_cell 27 = .ok (.iload 5, 2) := by decide +kernel
theorem dL_cell_29 : decode cL_cell 29 = .ok (.iaload, 1) := by decide +kernel
theorem dL_cell_30 : decode cL_cell 30 = .ok (.istore 6, 2) := by decide +kernel
theorem dL_cell_32 : decode cL_cell 32 = .ok (.iload_n 2, 1) := by decide +kernel
theorem dL_cell_33 : decode cL_cell 33 = .ok (.iload 6, 2) := by decide +kernel
theorem dL_cell_35 : decode cL_cell 35 = .ok (.ixor, 1) := by decide +kernel
theorem dL_cell_36 : decode cL_cell 36 = .ok (.ldc 7, 2) := by decide +kernel
theorem dL_cell_38 : decode cL_cell 38 = .ok (.imul, 1) := by decide +kernel
theorem dL_cell_39 : decode cL_cell 39 = .ok (.bipush 7, 2) := by decide +kernel
theorem dL_cell_41 : decode cL_cell 41 = .ok (.iadd, 1) := by decide +kernel
theorem dL_cell_42 : decode cL_cell 42 = .ok (.istore_n 2, 1) := by decide +kernel
theorem dL_cell_43 : decode cL_cell 43 = .ok (.iinc 5 1, 3) := by decide +kernel
theorem dL_cell_46 : decode cL_cell 46 = .ok (.goto (-27), 3) := by decide +kernel
theorem dL_cell_49 : decode cL_cell 49 = .ok (.iload_n 2, 1) := by decide +kernel
theorem dL_cell_50 : decode cL_cell 50 = .ok (.bipush 7, 2) := by decide +kernel
theorem dL_cell_52 : decode cL_cell 52 = .ok (.iushr, 1) := by decide +kernel
theorem dL_cell_53 : decode cL_cell 53 = .ok (.iconst 3, 1) := by decide +kernel
theorem dL_cell_54 : decode cL_cell 54 = .ok (.iand, 1) := by decide +kernel
theorem dL_cell_55 : decode cL_cell 55 = .ok (.ifCond .ne 24, 3) := by decide +kernel
theorem dL_cell_58 : decode cL_cell 58 = .ok (.iload_n 1, 1) := by decide +kernel
theorem dL_cell_59 : decode cL_cell 59 = .ok (.aload_n 0, 1) := by decide +kernel
theorem dL_cell_60 : decode cL_cell 60 = .ok (.arraylength, 1) := by decide +kernel
theorem dL_cell_61 : decode cL_cell 61 = .ok (.if_icmp .ge 9, 3) := by decide +kernel
theorem dL_cell_64 : decode cL_cell 64 = .ok (.aload_n 0, 1) := by decide +kernel
theorem dL_cell_65 : decode cL_cell 65 = .ok (.iload_n 1, 1) := by decide +kernel
theorem dL_cell_66 : decode cL_cell 66 = .ok (.iaload, 1) := by decide +kernel
theorem dL_cell_67 : decode cL_cell 67 = .ok (.goto 11, 3) := by decide +kernel
theorem dL_cell_70 : decode cL_cell 70 = .ok (.sipush 7919, 3) := by decide +kernel
theorem dL_cell_73 : decode cL_cell 73 = .ok (.iload_n 1, 1) := by decide +kernel
theorem dL_cell_74 : decode cL_cell 74 = .ok (.imul, 1) := by decide +kernel
theorem dL_cell_75 : decode cL_cell 75 = .ok (.bipush 12, 2) := by decide +kernel
theorem dL_cell_77 : decode cL_cell 77 = .ok (.iadd, 1) := by decide +kernel
theorem dL_cell_78 : decode cL_cell 78 = .ok (.ireturn, 1) := by decide +kernel
theorem dL_cell_79 : decode cL_cell 79 = .ok (.iload_n 2, 1) := by decide +kernel
theorem dL_cell_80 : decode cL_cell 80 = .ok (.ldc 8, 2) := by decide +kernel
theorem dL_cell_82 : decode cL_cell 82 = .ok (.iload_n 1, 1) := by decide +kernel
theorem dL_cell_83 : decode cL_cell 83 = .ok (.sipush 1009, 3) := by decide +kernel
theorem dL_cell_86 : decode cL_cell 86 = .ok (.iadd, 1) := by decide +kernel
theorem dL_cell_87 : decode cL_cell 87 = .ok (.imul, 1) := by decide +kernel
theorem dL_cell_88 : decode cL_cell 88 = .ok (.ixor, 1) := by decide +kernel
theorem dL_cell_89 : decode cL_cell 89 = .ok (.istore_n 3, 1) := by decide +kernel
theorem dL_cell_90 : decode cL_cell 90 = .ok (.iload_n 3, 1) := by decide +kernel
theorem dL_cell_91 : decode cL_cell 91 = .ok (.iload_n 3, 1) := by decide +kernel
theorem dL_cell_92 : decode cL_cell 92 = .ok (.bipush 13, 2) := by decide +kernel
theorem dL_cell_94 : decode cL_cell 94 = .ok (.iushr, 1) := by decide +kernel
theorem dL_cell_95 : decode cL_cell 95 = .ok (.ixor, 1) := by decide +kernel
theorem dL_cell_96 : decode cL_cell 96 = .ok (.ldc 9, 2) := by decide +kernel
theorem dL_cell_98 : decode cL_cell 98 = .ok (.imul, 1) := by decide +kernel
theorem dL_cell_99 : decode cL_cell 99 = .ok (.istore_n 3, 1) := by decide +kernel
theorem dL_cell_100 : decode cL_cell 100 = .ok (.iload_n 3, 1) := by decide +kernel
theorem dL_cell_101 : decode cL_cell 101 = .ok (.iload_n 3, 1) := by decide +kernel
theorem dL_cell_102 : decode cL_cell 102 = .ok (.bipush 16, 2) := by decide +kernel
theorem dL_cell_104 : decode cL_cell 104 = .ok (.iushr, 1) := by decide +kernel
theorem dL_cell_105 : decode cL_cell 105 = .ok (.ixor, 1) := by decide +kernel
theorem dL_cell_106 : decode cL_cell 106 = .ok (.ireturn, 1) := by decide +kernel
theorem dL_chosen_0 : decode cL_chosen 0 = .ok (.iload_n 0, 1) := by decide +kernel
theorem dL_chosen_1 : decode cL_chosen 1 = .ok (.ldc 10, 2) := by decide +kernel
theorem dL_chosen_3 : decode cL_chosen 3 = .ok (.iand, 1) := by decide +kernel
theorem dL_chosen_4 : decode cL_chosen 4 = .ok (.iload_n 1, 1) := by decide +kernel
theorem dL_chosen_5 : decode cL_chosen 5 = .ok (.irem, 1) := by decide +kernel
theorem dL_chosen_6 : decode cL_chosen 6 = .ok (.ireturn, 1) := by decide +kernel
theorem dL_type_0 : decode cL_type 0 = .ok (.aload_n 0, 1) := by decide +kernel
theorem dL_type_1 : decode cL_type 1 = .ok (.iload_n 1, 1) := by decide +kernel
theorem dL_type_2 : decode cL_type 2 = .ok (.iload_n 2, 1) := by decide +kernel
theorem dL_type_3 : decode cL_type 3 = .ok (.iload_n 3, 1) := by decide +kernel
theorem dL_type_4 : decode cL_type 4 = .ok (.invokevirtual 11, 3) := by decide +kernel
theorem dL_type_7 : decode cL_type 7 = .ok (.i2l, 1) := by decide +kernel
theorem dL_type_8 : decode cL_type 8 = .ok (.lreturn, 1) := by decide +kernel
theorem dL_type_9 : decode cL_type 9 = .ok (.astore 4, 2) := by decide +kernel
theorem dL_type_11 : decode cL_type 11 = .ok (.ldc2_w 21, 3) := by decide +kernel
theorem dL_type_14 : decode cL_type 14 = .ok (.lreturn, 1) := by decide +kernel
theorem dL_type_15 : decode cL_type 15 = .ok (.astore 4, 2) := by decide +kernel
theorem dL_type_17 : decode cL_type 17 = .ok (.ldc2_w 25, 3) := by decide +kernel
theorem dL_type_20 : decode cL_type 20 = .ok (.lreturn, 1) := by decide +kernel
theorem dL_flag_0 : decode cL_flag 0 = .ok (.aload_n 0, 1) := by decide +kernel
theorem dL_flag_1 : decode cL_flag 1 = .ok (.iload_n 1, 1) := by decide +kernel
theorem dL_flag_2 : decode cL_flag 2 = .ok (.iload_n 2, 1) := by decide +kernel
theorem dL_flag_3 : decode cL_flag 3 = .ok (.iload_n 3, 1) := by decide +kernel
theorem dL_flag_4 : decode cL_flag 4 = .ok (.iload 4, 2) := by decide +kernel
theorem dL_flag_6 : decode cL_flag 6 = .ok (.invokevirtual 27, 3) := by decide +kernel
theorem dL_flag_9 : decode cL_flag 9 = .ok (.ifCond .eq 7, 3) := by decide +kernel
theorem dL_flag_12 : decode cL_flag 12 = .ok (.lconst 1, 1) := by decide +kernel
theorem dL_flag_13 : decode cL_flag 13 = .ok (.goto 4, 3) := by decide +kernel
theorem dL_flag_16 : decode cL_flag 16 = .ok (.lconst 0, 1) := by decide +kernel
theorem dL_flag_17 : decode cL_flag 17 = .ok (.lreturn, 1) := by decide +kernel
theorem dL_flag_18 : decode cL_flag 18 = .ok (.astore 5, 2) := by decide +kernel
theorem dL_flag_20 : decode cL_flag 20 = .ok (.ldc2_w 21, 3) := by decide +kernel
theorem dL_flag_23 : decode cL_flag 23 = .ok (.lreturn, 1) := by decide +kernel
theorem dL_flag_24 : decode cL_flag 24 = .ok (.astore 5, 2) := by decide +kernel
theorem dL_flag_26 : decode cL_flag 26 = .ok (.ldc2_w 25, 3) := by decide +kernel
theorem dL_flag_29 : decode cL_flag 29 = .ok (.lreturn, 1) := by decide +kernel
theorem dL_flag_30 : decode cL_flag 30 = .ok (.astore 5, 2) := by decide +kernel
theorem dL_flag_32 : decode cL_flag 32 = .ok (.ldc2_w 33, 3) := by decide +kernel
theorem dL_flag_35 : decode cL_flag 35 = .ok (.lreturn, 1) := by decide +kernel
theorem dL_above_0 : decode cL_above 0 = .ok (.aload_n 0, 1) := by decide +kernel
theorem dL_above_1 : decode cL_above 1 = .ok (.iload_n 1, 1) := by decide +kernel
theorem dL_above_2 : decode cL_above 2 = .ok (.iload_n 2, 1) := by decide +kernel
theorem dL_above_3 : decode cL_above 3 = .ok (.iload_n 3, 1) := by decide +kernel
theorem dL_above_4 : decode cL_above 4 = .ok (.invokevirtual 35, 3) := by decide +kernel
theorem dL_above_7 : decode cL_above 7 = .ok (.i2l, 1) := by decide +kernel
theorem dL_above_8 : decode cL_above 8 = .ok (.lreturn, 1) := by decide +kernel
theorem dL_above_9 : decode cL_above 9 = .ok (.astore 4, 2) := by decide +kernel
theorem dL_above_11 : decode cL_above 11 = .ok (.ldc2_w 21, 3) := by decide +kernel
theorem dL_above_14 : decode cL_above 14 = .ok (.lreturn, 1) := by decide +kernel
theorem dL_above_15 : decode cL_above 15 = .ok (.astore 4, 2) := by decide +kernel
theorem dL_above_17 : decode cL_above 17 = .ok (.ldc2_w 25, 3) := by decide +kernel
theorem dL_above_20 : decode cL_above 20 = .ok (.lreturn, 1) := by decide +kernel
theorem dL_above_21 : decode cL_above 21 = .ok (.astore 4, 2) := by decide +kernel
theorem dL_above_23 : decode cL_above 23 = .ok (.ldc2_w 33, 3) := by decide +kernel
theorem dL_above_26 : decode cL_above 26 = .ok (.lreturn, 1) := by decide +kernel
theorem dL_maker_0 : decode cL_maker 0 = .ok (.aload_n 0, 1) := by decide +kernel
theorem dL_maker_1 : decode cL_maker 1 = .ok (.iload_n 1, 1) := by decide +kernel
theorem dL_maker_2 : decode cL_maker 2 = .ok (.iload_n 2, 1) := by decide +kernel
theorem dL_maker_3 : decode cL_maker 3 = .ok (.iload_n 3, 1) := by decide +kernel
theorem dL_maker_4 : decode cL_maker 4 = .ok (.invokevirtual 38, 3) := by decide +kernel
theorem dL_maker_7 : decode cL_maker 7 = .ok (.i2l, 1) := by decide +kernel
theorem dL_maker_8 : decode cL_maker 8 = .ok (.lreturn, 1) := by decide +kernel
theorem dL_maker_9 : decode cL_maker 9 = .ok (.astore 4, 2) := by decide +kernel
theorem dL_maker_11 : decode cL_maker 11 = .ok (.ldc2_w 21, 3) := by decide +kernel
theorem dL_maker_14 : decode cL_maker 14 = .ok (.lreturn, 1) := by decide +kernel
theorem dL_maker_15 : decode cL_maker 15 = .ok (.astore 4, 2) := by decide +kernel
theorem dL_maker_17 : decode cL_maker 17 = .ok (.ldc2_w 25, 3) := by decide +kernel
theorem dL_maker_20 : decode cL_maker 20 = .ok (.lreturn, 1) := by decide +kernel
theorem dL_maker_21 : decode cL_maker 21 = .ok (.astore 4, 2) := by decide +kernel
theorem dL_maker_23 : decode cL_maker 23 = .ok (.ldc2_w 33, 3) := by decide +kernel
theorem dL_maker_26 : decode cL_maker 26 = .ok (.lreturn, 1) := by decide +kernel
theorem dL_under_0 : decode cL_under 0 = .ok (.aload_n 0, 1) := by decide +kernel
theorem dL_under_1 : decode cL_under 1 = .ok (.iload_n 1, 1) := by decide +kernel
theorem dL_under_2 : decode cL_under 2 = .ok (.iload_n 2, 1) := by decide +kernel
theorem dL_under_3 : decode cL_under 3 = .ok (.iload_n 3, 1) := by decide +kernel
theorem dL_under_4 : decode cL_under 4 = .ok (.iload 4, 2) := by decide +kernel
theorem dL_under_6 : decode cL_under 6 = .ok (.invokevirtual 41, 3) := by decide +kernel
theorem dL_under_9 : decode cL_under 9 = .ok (.ifCond .eq 7, 3) := by decide +kernel
theorem dL_under_12 : decode cL_under 12 = .ok (.lconst 1, 1) := by decide +kernel
theorem dL_under_13 : decode cL_under 13 = .ok (.goto 4, 3) := by decide +kernel
theorem dL_under_16 : decode cL_under 16 = .ok (.lconst 0, 1) := by decide +kernel
theorem dL_under_17 : decode cL_under 17 = .ok (.lreturn, 1) := by decide +kernel
theorem dL_under_18 : decode cL_under 18 = .ok (.astore 5, 2) := by decide +kernel
theorem dL_under_20 : decode cL_under 20 = .ok (.ldc2_w 21, 3) := by decide +kernel
theorem dL_under_23 : decode cL_under 23 = .ok (.lreturn, 1) := by decide +kernel
theorem dL_under_24 : decode cL_under 24 = .ok (.astore 5, 2) := by decide +kernel
theorem dL_under_26 : decode cL_under 26 = .ok (.ldc2_w 25, 3) := by decide +kernel
theorem dL_under_29 : decode cL_under 29 = .ok (.lreturn, 1) := by decide +kernel
theorem dL_under_30 : decode cL_under 30 = .ok (.astore 5, 2) := by decide +kernel
theorem dL_under_32 : decode cL_under 32 = .ok (.ldc2_w 33, 3) := by decide +kernel
theorem dL_under_35 : decode cL_under 35 = .ok (.lreturn, 1) := by decide +kernel
theorem dL_method_0 : decode cL_method 0 = .ok (.aload_n 0, 1) := by decide +kernel
theorem dL_method_1 : decode cL_method 1 = .ok (.iload_n 1, 1) := by decide +kernel
theorem dL_method_2 : decode cL_method 2 = .ok (.iload_n 2, 1) := by decide +kernel
theorem dL_method_3 : decode cL_method 3 = .ok (.iload_n 3, 1) := by decide +kernel
theorem dL_method_4 : decode cL_method 4 = .ok (.iload 4, 2) := by decide +kernel
theorem dL_method_6 : decode cL_method 6 = .ok (.iload 5, 2) := by decide +kernel
theorem dL_method_8 : decode cL_method 8 = .ok (.iload 6, 2) := by decide +kernel
theorem dL_method_10 : decode cL_method 10 = .ok (.iload 7, 2) := by decide +kernel
theorem dL_method_12 : decode cL_method 12 = .ok (.invokevirtual 44, 3) := by decide +kernel
theorem dL_method_15 : decode cL_method 15 = .ok (.i2l, 1) := by decide +kernel
theorem dL_method_16 : decode cL_method 16 = .ok (.lreturn, 1) := by decide +kernel
theorem dL_method_17 : decode cL_method 17 = .ok (.astore 8, 2) := by decide +kernel
theorem dL_method_19 : decode cL_method 19 = .ok (.ldc2_w 21, 3) := by decide +kernel
theorem dL_method_22 : decode cL_method 22 = .ok (.lreturn, 1) := by decide +kernel
theorem dL_method_23 : decode cL_method 23 = .ok (.astore 8, 2) := by decide +kernel
theorem dL_method_25 : decode cL_method 25 = .ok (.ldc2_w 25, 3) := by decide +kernel
theorem dL_method_28 : decode cL_method 28 = .ok (.lreturn, 1) := by decide +kernel
theorem dL_method_29 : decode cL_method 29 = .ok (.astore 8, 2) := by decide +kernel
theorem dL_method_31 : decode cL_method 31 = .ok (.ldc2_w 33, 3) := by decide +kernel
theorem dL_method_34 : decode cL_method 34 = .ok (.lreturn, 1) := by decide +kernel
theorem dL_field_0 : decode cL_field 0 = .ok (.aload_n 0, 1) := by decide +kernel
theorem dL_field_1 : decode cL_field 1 = .ok (.iload_n 1, 1) := by decide +kernel
theorem dL_field_2 : decode cL_field 2 = .ok (.iload_n 2, 1) := by decide +kernel
theorem dL_field_3 : decode cL_field 3 = .ok (.iload_n 3, 1) := by decide +kernel
theorem dL_field_4 : decode cL_field 4 = .ok (.iload 4, 2) := by decide +kernel
theorem dL_field_6 : decode cL_field 6 = .ok (.iload 5, 2) := by decide +kernel
theorem dL_field_8 : decode cL_field 8 = .ok (.iload 6, 2) := by decide +kernel
theorem dL_field_10 : decode cL_field 10 = .ok (.iload 7, 2) := by decide +kernel
theorem dL_field_12 : decode cL_field 12 = .ok (.invokevirtual 48, 3) := by decide +kernel
theorem dL_field_15 : decode cL_field 15 = .ok (.i2l, 1) := by decide +kernel
theorem dL_field_16 : decode cL_field 16 = .ok (.lreturn, 1) := by decide +kernel
theorem dL_field_17 : decode cL_field 17 = .ok (.astore 8, 2) := by decide +kernel
theorem dL_field_19 : decode cL_field 19 = .ok (.ldc2_w 21, 3) := by decide +kernel
theorem dL_field_22 : decode cL_field 22 = .ok (.lreturn, 1) := by decide +kernel
theorem dL_field_23 : decode cL_field 23 = .ok (.astore 8, 2) := by decide +kernel
theorem dL_field_25 : decode cL_field 25 = .ok (.ldc2_w 25, 3) := by decide +kernel
theorem dL_field_28 : decode cL_field 28 = .ok (.lreturn, 1) := by decide +kernel
theorem dL_field_29 : decode cL_field 29 = .ok (.astore 8, 2) := by decide +kernel
theorem dL_field_31 : decode cL_field 31 = .ok (.ldc2_w 33, 3) := by decide +kernel
theorem dL_field_34 : decode cL_field 34 = .ok (.lreturn, 1) := by decide +kernel
theorem dL_copy_0 : decode cL_copy 0 = .ok (.aload_n 0, 1) := by decide +kernel
theorem dL_copy_1 : decode cL_copy 1 = .ok (.iload_n 1, 1) := by decide +kernel
theorem dL_copy_2 : decode cL_copy 2 = .ok (.iload_n 2, 1) := by decide +kernel
theorem dL_copy_3 : decode cL_copy 3 = .ok (.invokevirtual 51, 3) := by decide +kernel
theorem dL_copy_6 : decode cL_copy 6 = .ok (.i2l, 1) := by decide +kernel
theorem dL_copy_7 : decode cL_copy 7 = .ok (.lreturn, 1) := by decide +kernel
theorem dL_copy_8 : decode cL_copy 8 = .ok (.astore_n 3, 1) := by decide +kernel
theorem dL_copy_9 : decode cL_copy 9 = .ok (.ldc2_w 21, 3) := by decide +kernel
theorem dL_copy_12 : decode cL_copy 12 = .ok (.lreturn, 1) := by decide +kernel
theorem dL_check_0 : decode cL_check 0 = .ok (.aload_n 0, 1) := by decide +kernel
theorem dL_check_1 : decode cL_check 1 = .ok (.iload_n 1, 1) := by decide +kernel
theorem dL_check_2 : decode cL_check 2 = .ok (.invokevirtual 55, 3) := by decide +kernel
theorem dL_check_5 : decode cL_check 5 = .ok (.i2l, 1) := by decide +kernel
theorem dL_check_6 : decode cL_check 6 = .ok (.lreturn, 1) := by decide +kernel
theorem dL_check_7 : decode cL_check 7 = .ok (.astore_n 2, 1) := by decide +kernel
theorem dL_check_8 : decode cL_check 8 = .ok (.ldc2_w 21, 3) := by decide +kernel
theorem dL_check_11 : decode cL_check 11 = .ok (.lreturn, 1) := by decide +kernel
theorem dL_wipe_0 : decode cL_wipe 0 = .ok (.aload_n 0, 1) := by decide +kernel
theorem dL_wipe_1 : decode cL_wipe 1 = .ok (.iload_n 1, 1) := by decide +kernel
theorem dL_wipe_2 : decode cL_wipe 2 = .ok (.invokevirtual 59, 3) := by decide +kernel
theorem dL_wipe_5 : decode cL_wipe 5 = .ok (.i2l, 1) := by decide +kernel
theorem dL_wipe_6 : decode cL_wipe 6 = .ok (.lreturn, 1) := by decide +kernel
theorem dL_wipe_7 : decode cL_wipe 7 = .ok (.astore_n 2, 1) := by decide +kernel
theorem dL_wipe_8 : decode cL_wipe 8 = .ok (.ldc2_w 21, 3) := by decide +kernel
theorem dL_wipe_11 : decode cL_wipe 11 = .ok (.lreturn, 1) := by decide +kernel
theorem dL_own_0 : decode cL_own 0 = .ok (.aload_n 0, 1) := by decide +kernel
theorem dL_own_1 : decode cL_own 1 = .ok (.iload_n 1, 1) := by decide +kernel
theorem dL_own_2 : decode cL_own 2 = .ok (.iload_n 2, 1) := by decide +kernel
theorem dL_own_3 : decode cL_own 3 = .ok (.invokevirtual 62, 3) := by decide +kernel
theorem dL_own_6 : decode cL_own 6 = .ok (.ifCond .eq 7, 3) := by decide +kernel
theorem dL_own_9 : decode cL_own 9 = .ok (.lconst 1, 1) := by decide +kernel
theorem dL_own_10 : decode cL_own 10 = .ok (.goto 4, 3) := by decide +kernel
theorem dL_own_13 : decode cL_own 13 = .ok (.lconst 0, 1) := by decide +kernel
theorem dL_own_14 : decode cL_own 14 = .ok (.lreturn, 1) := by decide +kernel
theorem dL_own_15 : decode cL_own 15 = .ok (.astore_n 3, 1) := by decide +kernel
theorem dL_own_16 : decode cL_own 16 = .ok (.ldc2_w 21, 3) := by decide +kernel
theorem dL_own_19 : decode cL_own 19 = .ok (.lreturn, 1) := by decide +kernel
theorem dL_own_20 : decode cL_own 20 = .ok (.astore_n 3, 1) := by decide +kernel
theorem dL_own_21 : decode cL_own 21 = .ok (.ldc2_w 25, 3) := by decide +kernel
theorem dL_own_24 : decode cL_own 24 = .ok (.lreturn, 1) := by decide +kernel
theorem dL_ownAbove_0 : decode cL_ownAbove 0 = .ok (.aload_n 0, 1) := by decide +kernel
theorem dL_ownAbove_1 : decode cL_ownAbove 1 = .ok (.iload_n 1, 1) := by decide +kernel
theorem dL_ownAbove_2 : decode cL_ownAbove 2 = .ok (.iload_n 2, 1) := by decide +kernel
theorem dL_ownAbove_3 : decode cL_ownAbove 3 = .ok (.invokevirtual 68, 3) := by decide +kernel
theorem dL_ownAbove_6 : decode cL_ownAbove 6 = .ok (.i2l, 1) := by decide +kernel
theorem dL_ownAbove_7 : decode cL_ownAbove 7 = .ok (.lreturn, 1) := by decide +kernel
theorem dL_ownAbove_8 : decode cL_ownAbove 8 = .ok (.astore_n 3, 1) := by decide +kernel
theorem dL_ownAbove_9 : decode cL_ownAbove 9 = .ok (.ldc2_w 21, 3) := by decide +kernel
theorem dL_ownAbove_12 : decode cL_ownAbove 12 = .ok (.lreturn, 1) := by decide +kernel
theorem dL_ownAbove_13 : decode cL_ownAbove 13 = .ok (.astore_n 3, 1) := by decide +kernel
theorem dL_ownAbove_14 : decode cL_ownAbove 14 = .ok (.ldc2_w 25, 3) := by decide +kernel
theorem dL_ownAbove_17 : decode cL_ownAbove 17 = .ok (.lreturn, 1) := by decide +kernel
theorem dL_ownAbove_18 : decode cL_ownAbove 18 = .ok (.astore_n 3, 1) := by decide +kernel
theorem dL_ownAbove_19 : decode cL_ownAbove 19 = .ok (.ldc2_w 33, 3) := by decide +kernel
theorem dL_ownAbove_22 : decode cL_ownAbove 22 = .ok (.lreturn, 1) := by decide +kernel
theorem dL_ownUnder_0 : decode cL_ownUnder 0 = .ok (.aload_n 0, 1) := by decide +kernel
theorem dL_ownUnder_1 : decode cL_ownUnder 1 = .ok (.iload_n 1, 1) := by decide +kernel
theorem dL_ownUnder_2 : decode cL_ownUnder 2 = .ok (.iload_n 2, 1) := by decide +kernel
theorem dL_ownUnder_3 : decode cL_ownUnder 3 = .ok (.iload_n 3, 1) := by decide +kernel
theorem dL_ownUnder_4 : decode cL_ownUnder 4 = .ok (.invokevirtual 72, 3) := by decide +kernel
theorem dL_ownUnder_7 : decode cL_ownUnder 7 = .ok (.ifCond .eq 7, 3) := by decide +kernel
theorem dL_ownUnder_10 : decode cL_ownUnder 10 = .ok (.lconst 1, 1) := by decide +kernel
theorem dL_ownUnder_11 : decode cL_ownUnder 11 = .ok (.goto 4, 3) := by decide +kernel
theorem dL_ownUnder_14 : decode cL_ownUnder 14 = .ok (.lconst 0, 1) := by decide +kernel
theorem dL_ownUnder_15 : decode cL_ownUnder 15 = .ok (.lreturn, 1) := by decide +kernel
theorem dL_ownUnder_16 : decode cL_ownUnder 16 = .ok (.astore 4, 2) := by decide +kernel
theorem dL_ownUnder_18 : decode cL_ownUnder 18 = .ok (.ldc2_w 21, 3) := by decide +kernel
theorem dL_ownUnder_21 : decode cL_ownUnder 21 = .ok (.lreturn, 1) := by decide +kernel
theorem dL_ownUnder_22 : decode cL_ownUnder 22 = .ok (.astore 4, 2) := by decide +kernel
theorem dL_ownUnder_24 : decode cL_ownUnder 24 = .ok (.ldc2_w 25, 3) := by decide +kernel
theorem dL_ownUnder_27 : decode cL_ownUnder 27 = .ok (.lreturn, 1) := by decide +kernel
theorem dL_ownUnder_28 : decode cL_ownUnder 28 = .ok (.astore 4, 2) := by decide +kernel
theorem dL_ownUnder_30 : decode cL_ownUnder 30 = .ok (.ldc2_w 33, 3) := by decide +kernel
theorem dL_ownUnder_33 : decode cL_ownUnder 33 = .ok (.lreturn, 1) := by decide +kernel
theorem dL_ownUnder_34 : decode cL_ownUnder 34 = .ok (.astore 4, 2) := by decide +kernel
theorem dL_ownUnder_36 : decode cL_ownUnder 36 = .ok (.ldc2_w 78, 3) := by decide +kernel
theorem dL_ownUnder_39 : decode cL_ownUnder 39 = .ok (.lreturn, 1) := by decide +kernel
theorem dL_ownMethod_0 : decode cL_ownMethod 0 = .ok (.aload_n 0, 1) := by decide +kernel
theorem dL_ownMethod_1 : decode cL_ownMethod 1 = .ok (.iload_n 1, 1) := by decide +kernel
theorem dL_ownMethod_2 : decode cL_ownMethod 2 = .ok (.iload_n 2, 1) := by decide +kernel
theorem dL_ownMethod_3 : decode cL_ownMethod 3 = .ok (.iload_n 3, 1) := by decide +kernel
theorem dL_ownMethod_4 : decode cL_ownMethod 4 = .ok (.invokevirtual 80, 3) := by decide +kernel
theorem dL_ownMethod_7 : decode cL_ownMethod 7 = .ok (.i2l, 1) := by decide +kernel
theorem dL_ownMethod_8 : decode cL_ownMethod 8 = .ok (.lreturn, 1) := by decide +kernel
theorem dL_ownMethod_9 : decode cL_ownMethod 9 = .ok (.astore 4, 2) := by decide +kernel
theorem dL_ownMethod_11 : decode cL_ownMethod 11 = .ok (.ldc2_w 21, 3) := by decide +kernel
theorem dL_ownMethod_14 : decode cL_ownMethod 14 = .ok (.lreturn, 1) := by decide +kernel
theorem dL_ownMethod_15 : decode cL_ownMethod 15 = .ok (.astore 4, 2) := by decide +kernel
theorem dL_ownMethod_17 : decode cL_ownMethod 17 = .ok (.ldc2_w 25, 3) := by decide +kernel
theorem dL_ownMethod_20 : decode cL_ownMethod 20 = .ok (.lreturn, 1) := by decide +kernel
theorem dL_ownMethod_21 : decode cL_ownMethod 21 = .ok (.astore 4, 2) := by decide +kernel
theorem dL_ownMethod_23 : decode cL_ownMethod 23 = .ok (.ldc2_w 33, 3) := by decide +kernel
theorem dL_ownMethod_26 : decode cL_ownMethod 26 = .ok (.lreturn, 1) := by decide +kernel
theorem dL_act_0 : decode cL_act 0 = .ok (.aload_n 0, 1) := by decide +kernel
theorem dL_act_1 : decode cL_act 1 = .ok (.iload_n 1, 1) := by decide +kernel
theorem dL_act_2 : decode cL_act 2 = .ok (.iload_n 2, 1) := by decide +kernel
theorem dL_act_3 : decode cL_act 3 = .ok (.iload_n 3, 1) := by decide +kernel
theorem dL_act_4 : decode cL_act 4 = .ok (.iload 4, 2) := by decide +kernel
theorem dL_act_6 : decode cL_act 6 = .ok (.iload 5, 2) := by decide +kernel
theorem dL_act_8 : decode cL_act 8 = .ok (.iload 6, 2) := by decide +kernel
theorem dL_act_10 : decode cL_act 10 = .ok (.invokevirtual 84, 3) := by decide +kernel
theorem dL_act_13 : decode cL_act 13 = .ok (.i2l, 1) := by decide +kernel
theorem dL_act_14 : decode cL_act 14 = .ok (.lreturn, 1) := by decide +kernel
theorem dL_act_15 : decode cL_act 15 = .ok (.astore 7, 2) := by decide +kernel
theorem dL_act_17 : decode cL_act 17 = .ok (.ldc2_w 21, 3) := by decide +kernel
theorem dL_act_20 : decode cL_act 20 = .ok (.lreturn, 1) := by decide +kernel
theorem dL_act_21 : decode cL_act 21 = .ok (.astore 7, 2) := by decide +kernel
theorem dL_act_23 : decode cL_act 23 = .ok (.ldc2_w 25, 3) := by decide +kernel
theorem dL_act_26 : decode cL_act 26 = .ok (.lreturn, 1) := by decide +kernel
theorem dL_act_27 : decode cL_act 27 = .ok (.astore 7, 2) := by decide +kernel
theorem dL_act_29 : decode cL_act 29 = .ok (.ldc2_w 33, 3) := by decide +kernel
theorem dL_act_32 : decode cL_act 32 = .ok (.lreturn, 1) := by decide +kernel
theorem dL_run_0 : decode cL_run 0 = .ok (.aload_n 0, 1) := by decide +kernel
theorem dL_run_1 : decode cL_run 1 = .ok (.iload_n 1, 1) := by decide +kernel
theorem dL_run_2 : decode cL_run 2 = .ok (.iload_n 2, 1) := by decide +kernel
theorem dL_run_3 : decode cL_run 3 = .ok (.invokevirtual 88, 3) := by decide +kernel
theorem dL_run_6 : decode cL_run 6 = .ok (.i2l, 1) := by decide +kernel
theorem dL_run_7 : decode cL_run 7 = .ok (.lreturn, 1) := by decide +kernel
theorem dL_run_8 : decode cL_run 8 = .ok (.astore_n 3, 1) := by decide +kernel
theorem dL_run_9 : decode cL_run 9 = .ok (.ldc2_w 21, 3) := by decide +kernel
theorem dL_run_12 : decode cL_run 12 = .ok (.lreturn, 1) := by decide +kernel
theorem dL_run_13 : decode cL_run 13 = .ok (.astore_n 3, 1) := by decide +kernel
theorem dL_run_14 : decode cL_run 14 = .ok (.ldc2_w 25, 3) := by decide +kernel
theorem dL_run_17 : decode cL_run 17 = .ok (.lreturn, 1) := by decide +kernel
theorem dL_fault_0 : decode cL_fault 0 = .ok (.aload_n 0, 1) := by decide +kernel
theorem dL_fault_1 : decode cL_fault 1 = .ok (.invokevirtual 91, 3) := by decide +kernel
theorem dL_fault_4 : decode cL_fault 4 = .ok (.i2l, 1) := by decide +kernel
theorem dL_fault_5 : decode cL_fault 5 = .ok (.lreturn, 1) := by decide +kernel
theorem dL_fault_6 : decode cL_fault 6 = .ok (.astore_n 1, 1) := by decide +kernel
theorem dL_fault_7 : decode cL_fault 7 = .ok (.ldc2_w 21, 3) := by decide +kernel
theorem dL_fault_10 : decode cL_fault 10 = .ok (.lreturn, 1) := by decide +kernel
theorem dL_fits_0 : decode cL_fits 0 = .ok (.aload_n 0, 1) := by decide +kernel
theorem dL_fits_1 : decode cL_fits 1 = .ok (.iload_n 1, 1) := by decide +kernel
theorem dL_fits_2 : decode cL_fits 2 = .ok (.iload_n 2, 1) := by decide +kernel
theorem dL_fits_3 : decode cL_fits 3 = .ok (.invokevirtual 95, 3) := by decide +kernel
theorem dL_fits_6 : decode cL_fits 6 = .ok (.ifCond .eq 7, 3) := by decide +kernel
theorem dL_fits_9 : decode cL_fits 9 = .ok (.lconst 1, 1) := by decide +kernel
theorem dL_fits_10 : decode cL_fits 10 = .ok (.goto 4, 3) := by decide +kernel
theorem dL_fits_13 : decode cL_fits 13 = .ok (.lconst 0, 1) := by decide +kernel
theorem dL_fits_14 : decode cL_fits 14 = .ok (.lreturn, 1) := by decide +kernel
theorem dL_fits_15 : decode cL_fits 15 = .ok (.astore_n 3, 1) := by decide +kernel
theorem dL_fits_16 : decode cL_fits 16 = .ok (.ldc2_w 21, 3) := by decide +kernel
theorem dL_fits_19 : decode cL_fits 19 = .ok (.lreturn, 1) := by decide +kernel
theorem dL_fits_20 : decode cL_fits 20 = .ok (.astore_n 3, 1) := by decide +kernel
theorem dL_fits_21 : decode cL_fits 21 = .ok (.ldc2_w 25, 3) := by decide +kernel
theorem dL_fits_24 : decode cL_fits 24 = .ok (.lreturn, 1) := by decide +kernel
theorem dL_witness_0 : decode cL_witness 0 = .ok (.aload_n 0, 1) := by decide +kernel
theorem dL_witness_1 : decode cL_witness 1 = .ok (.iload_n 1, 1) := by decide +kernel
theorem dL_witness_2 : decode cL_witness 2 = .ok (.iload_n 2, 1) := by decide +kernel
theorem dL_witness_3 : decode cL_witness 3 = .ok (.iload_n 3, 1) := by decide +kernel
theorem dL_witness_4 : decode cL_witness 4 = .ok (.invokevirtual 99, 3) := by decide +kernel
theorem dL_witness_7 : decode cL_witness 7 = .ok (.i2l, 1) := by decide +kernel
theorem dL_witness_8 : decode cL_witness 8 = .ok (.lreturn, 1) := by decide +kernel
theorem dL_witness_9 : decode cL_witness 9 = .ok (.astore 4, 2) := by decide +kernel
theorem dL_witness_11 : decode cL_witness 11 = .ok (.ldc2_w 21, 3) := by decide +kernel
theorem dL_witness_14 : decode cL_witness 14 = .ok (.lreturn, 1) := by decide +kernel
theorem dL_witness_15 : decode cL_witness 15 = .ok (.astore 4, 2) := by decide +kernel
theorem dL_witness_17 : decode cL_witness 17 = .ok (.ldc2_w 25, 3) := by decide +kernel
theorem dL_witness_20 : decode cL_witness 20 = .ok (.lreturn, 1) := by decide +kernel
theorem dL_witness_21 : decode cL_witness 21 = .ok (.astore 4, 2) := by decide +kernel
theorem dL_witness_23 : decode cL_witness 23 = .ok (.ldc2_w 33, 3) := by decide +kernel
theorem dL_witness_26 : decode cL_witness 26 = .ok (.lreturn, 1) := by decide +kernel
theorem dL_isSound_0 : decode cL_isSound 0 = .ok (.aload_n 0, 1) := by decide +kernel
theorem dL_isSound_1 : decode cL_isSound 1 = .ok (.invokevirtual 109, 3) := by decide +kernel
theorem dL_isSound_4 : decode cL_isSound 4 = .ok (.ifCond .eq 7, 3) := by decide +kernel
theorem dL_isSound_7 : decode cL_isSound 7 = .ok (.lconst 1, 1) := by decide +kernel
theorem dL_isSound_8 : decode cL_isSound 8 = .ok (.goto 4, 3) := by decide +kernel
theorem dL_isSound_11 : decode cL_isSound 11 = .ok (.lconst 0, 1) := by decide +kernel
theorem dL_isSound_12 : decode cL_isSound 12 = .ok (.lreturn, 1) := by decide +kernel
theorem dL_makes_0 : decode cL_makes 0 = .ok (.iconst 0, 1) := by decide +kernel
theorem dL_makes_1 : decode cL_makes 1 = .ok (.istore 4, 2) := by decide +kernel
theorem dL_makes_3 : decode cL_makes 3 = .ok (.iload 4, 2) := by decide +kernel
theorem dL_makes_5 : decode cL_makes 5 = .ok (.iconst 5, 1) := by decide +kernel
theorem dL_makes_6 : decode cL_makes 6 = .ok (.if_icmp .ge 66, 3) := by decide +kernel
theorem dL_makes_9 : decode cL_makes 9 = .ok (.aload_n 2, 1) := by decide +kernel
theorem dL_makes_10 : decode cL_makes 10 = .ok (.iload_n 3, 1) := by decide +kernel
theorem dL_makes_11 : decode cL_makes 11 = .ok (.iload 4, 2) := by decide +kernel
theorem dL_makes_13 : decode cL_makes 13 = .ok (.iadd, 1) := by decide +kernel
theorem dL_makes_14 : decode cL_makes 14 = .ok (.invokestatic 113, 3) := by decide +kernel
theorem dL_makes_17 : decode cL_makes 17 = .ok (.sipush 1000, 3) := by decide +kernel
theorem dL_makes_20 : decode cL_makes 20 = .ok (.invokestatic 117, 3) := by decide +kernel
theorem dL_makes_23 : decode cL_makes 23 = .ok (.istore 5, 2) := by decide +kernel
theorem dL_makes_25 : decode cL_makes 25 = .ok (.aload_n 0, 1) := by decide +kernel
theorem dL_makes_26 : decode cL_makes 26 = .ok (.iload_n 1, 1) := by decide +kernel
theorem dL_makes_27 : decode cL_makes 27 = .ok (.bipush 65, 2) := by decide +kernel
theorem dL_makes_29 : decode cL_makes 29 = .ok (.iload 4, 2) := by decide +kernel
theorem dL_makes_31 : decode cL_makes 31 = .ok (.iadd, 1) := by decide +kernel
theorem dL_makes_32 : decode cL_makes 32 = .ok (.i2c, 1) := by decide +kernel
theorem dL_makes_33 : decode cL_makes 33 = .ok (.iload 5, 2) := by decide +kernel
theorem dL_makes_35 : decode cL_makes 35 = .ok (.bipush 8, 2) := by decide +kernel
theorem dL_makes_37 : decode cL_makes 37 = .ok (.irem, 1) := by decide +kernel
theorem dL_makes_38 : decode cL_makes 38 = .ok (.ifCond .ne 8, 3) := by decide +kernel
theorem dL_makes_41 : decode cL_makes 41 = .ok (.bipush 45, 2) := by decide +kernel
theorem dL_makes_43 : decode cL_makes 43 = .ok (.goto 19, 3) := by decide +kernel
theorem dL_makes_46 : decode cL_makes 46 = .ok (.iload 5, 2) := by decide +kernel
theorem dL_makes_48 : decode cL_makes 48 = .ok (.bipush 8, 2) := by decide +kernel
theorem dL_makes_50 : decode cL_makes 50 = .ok (.irem, 1) := by decide +kernel
theorem dL_makes_51 : decode cL_makes 51 = .ok (.iconst 4, 1) := by decide +kernel
theorem dL_makes_52 : decode cL_makes 52 = .ok (.if_icmp .ge 8, 3) := by decide +kernel
theorem dL_makes_55 : decode cL_makes 55 = .ok (.bipush 105, 2) := by decide +kernel
theorem dL_makes_57 : decode cL_makes 57 = .ok (.goto 5, 3) := by decide +kernel
theorem dL_makes_60 : decode cL_makes 60 = .ok (.bipush 99, 2) := by decide +kernel
theorem dL_makes_62 : decode cL_makes 62 = .ok (.invokestatic 120, 3) := by decide +kernel
theorem dL_makes_65 : decode cL_makes 65 = .ok (.pop2, 1) := by decide +kernel
theorem dL_makes_66 : decode cL_makes 66 = .ok (.iinc 4 1, 3) := by decide +kernel
theorem dL_makes_69 : decode cL_makes 69 = .ok (.goto (-66), 3) := by decide +kernel
theorem dL_makes_72 : decode cL_makes 72 = .ok (.iconst 0, 1) := by decide +kernel
theorem dL_makes_73 : decode cL_makes 73 = .ok (.istore 4, 2) := by decide +kernel
theorem dL_makes_75 : decode cL_makes 75 = .ok (.iload 4, 2) := by decide +kernel
theorem dL_makes_77 : decode cL_makes 77 = .ok (.bipush 18, 2) := by decide +kernel
theorem dL_makes_79 : decode cL_makes 79 = .ok (.if_icmp .ge 36, 3) := by decide +kernel
theorem dL_makes_82 : decode cL_makes 82 = .ok (.aload_n 0, 1) := by decide +kernel
theorem dL_makes_83 : decode cL_makes 83 = .ok (.iload_n 1, 1) := by decide +kernel
theorem dL_makes_84 : decode cL_makes 84 = .ok (.aload_n 2, 1) := by decide +kernel
theorem dL_makes_85 : decode cL_makes 85 = .ok (.iload_n 3, 1) := by decide +kernel
theorem dL_makes_86 : decode cL_makes 86 = .ok (.iconst 5, 1) := by decide +kernel
theorem dL_makes_87 : decode cL_makes 87 = .ok (.iadd, 1) := by decide +kernel
theorem dL_makes_88 : decode cL_makes 88 = .ok (.iload 4, 2) := by decide +kernel
theorem dL_makes_90 : decode cL_makes 90 = .ok (.iadd, 1) := by decide +kernel
theorem dL_makes_91 : decode cL_makes 91 = .ok (.invokestatic 113, 3) := by decide +kernel
theorem dL_makes_94 : decode cL_makes 94 = .ok (.sipush 7919, 3) := by decide +kernel
theorem dL_makes_97 : decode cL_makes 97 = .ok (.iload 4, 2) := by decide +kernel
theorem dL_makes_99 : decode cL_makes 99 = .ok (.imul, 1) := by decide +kernel
theorem dL_makes_100 : decode cL_makes 100 = .ok (.iadd, 1) := by decide +kernel
theorem dL_makes_101 : decode cL_makes 101 = .ok (.ldc 123, 2) := by decide +kernel
theorem dL_makes_103 : decode cL_makes 103 = .ok (.invokestatic 117, 3) := by decide +kernel
theorem dL_makes_106 : decode cL_makes 106 = .ok (.invokestatic 124, 3) := by decide +kernel
theorem dL_makes_109 : decode cL_makes 109 = .ok (.iinc 4 1, 3) := by decide +kernel
theorem dL_makes_112 : decode cL_makes 112 = .ok (.goto (-37), 3) := by decide +kernel
theorem dL_makes_115 : decode cL_makes 115 = .ok (.return_, 1) := by decide +kernel
theorem dL_changes_0 : decode cL_changes 0 = .ok (.bipush 65, 2) := by decide +kernel
theorem dL_changes_2 : decode cL_changes 2 = .ok (.iload_n 2, 1) := by decide +kernel
theorem dL_changes_3 : decode cL_changes 3 = .ok (.iconst 5, 1) := by decide +kernel
theorem dL_changes_4 : decode cL_changes 4 = .ok (.irem, 1) := by decide +kernel
theorem dL_changes_5 : decode cL_changes 5 = .ok (.iadd, 1) := by decide +kernel
theorem dL_changes_6 : decode cL_changes 6 = .ok (.i2c, 1) := by decide +kernel
theorem dL_changes_7 : decode cL_changes 7 = .ok (.istore_n 3, 1) := by decide +kernel
theorem dL_changes_8 : decode cL_changes 8 = .ok (.bipush 65, 2) := by decide +kernel
theorem dL_changes_10 : decode cL_changes 10 = .ok (.iload_n 2, 1) := by decide +kernel
theorem dL_changes_11 : decode cL_changes 11 = .ok (.iconst 5, 1) := by decide +kernel
theorem dL_changes_12 : decode cL_changes 12 = .ok (.idiv, 1) := by decide +kernel
theorem dL_changes_13 : decode cL_changes 13 = .ok (.iconst 5, 1) := by decide +kernel
theorem dL_changes_14 : decode cL_changes 14 = .ok (.irem, 1) := by decide +kernel
theorem dL_changes_15 : decode cL_changes 15 = .ok (.iadd, 1) := by decide +kernel
theorem dL_changes_16 : decode cL_changes 16 = .ok (.i2c, 1) := by decide +kernel
theorem dL_changes_17 : decode cL_changes 17 = .ok (.istore 4, 2) := by decide +kernel
theorem dL_changes_19 : decode cL_changes 19 = .ok (.bipush 97, 2) := by decide +kernel
theorem dL_changes_21 : decode cL_changes 21 = .ok (.iload_n 2, 1) := by decide +kernel
theorem dL_changes_22 : decode cL_changes 22 = .ok (.bipush 25, 2) := by decide +kernel
theorem dL_changes_24 : decode cL_changes 24 = .ok (.idiv, 1) := by decide +kernel
theorem dL_changes_25 : decode cL_changes 25 = .ok (.iconst 2, 1) := by decide +kernel
theorem dL_changes_26 : decode cL_changes 26 = .ok (.irem, 1) := by decide +kernel
theorem dL_changes_27 : decode cL_changes 27 = .ok (.iadd, 1) := by decide +kernel
theorem dL_changes_28 : decode cL_changes 28 = .ok (.i2c, 1) := by decide +kernel
theorem dL_changes_29 : decode cL_changes 29 = .ok (.istore 5, 2) := by decide +kernel
theorem dL_changes_31 : decode cL_changes 31 = .ok (.iload_n 2, 1) := by decide +kernel
theorem dL_changes_32 : decode cL_changes 32 = .ok (.bipush 50, 2) := by decide +kernel
theorem dL_changes_34 : decode cL_changes 34 = .ok (.idiv, 1) := by decide +kernel
theorem dL_changes_35 : decode cL_changes 35 = .ok (.iconst 5, 1) := by decide +kernel
theorem dL_changes_36 : decode cL_changes 36 = .ok (.irem, 1) := by decide +kernel
theorem dL_changes_37 : decode cL_changes 37 = .ok (.ifCond .ne 7, 3) := by decide +kernel
theorem dL_changes_40 : decode cL_changes 40 = .ok (.iconst 1, 1) := by decide +kernel
theorem dL_changes_41 : decode cL_changes 41 = .ok (.goto 4, 3) := by decide +kernel
theorem dL_changes_44 : decode cL_changes 44 = .ok (.iconst 0, 1) := by decide +kernel
theorem dL_changes_45 : decode cL_changes 45 = .ok (.istore 6, 2) := by decide +kernel
theorem dL_changes_47 : decode cL_changes 47 = .ok (.ldc 128, 2) := by decide +kernel
theorem dL_changes_49 : decode cL_changes 49 = .ok (.iload_n 2, 1) := by decide +kernel
theorem dL_changes_50 : decode cL_changes 50 = .ok (.sipush 250, 3) := by decide +kernel
theorem dL_changes_53 : decode cL_changes 53 = .ok (.idiv, 1) := by decide +kernel
theorem dL_changes_54 : decode cL_changes 54 = .ok (.bipush 6, 2) := by decide +kernel
theorem dL_changes_56 : decode cL_changes 56 = .ok (.irem, 1) := by decide +kernel
theorem dL_changes_57 : decode cL_changes 57 = .ok (.invokevirtual 130, 3) := by decide +kernel
theorem dL_changes_60 : decode cL_changes 60 = .ok (.istore 7, 2) := by decide +kernel
theorem dL_changes_62 : decode cL_changes 62 = .ok (.iload_n 2, 1) := by decide +kernel
theorem dL_changes_63 : decode cL_changes 63 = .ok (.sipush 1500, 3) := by decide +kernel
theorem dL_changes_66 : decode cL_changes 66 = .ok (.idiv, 1) := by decide +kernel
theorem dL_changes_67 : decode cL_changes 67 = .ok (.bipush 100, 2) := by decide +kernel
theorem dL_changes_69 : decode cL_changes 69 = .ok (.irem, 1) := by decide +kernel
theorem dL_changes_70 : decode cL_changes 70 = .ok (.istore 8, 2) := by decide +kernel
theorem dL_changes_72 : decode cL_changes 72 = .ok (.iload_n 2, 1) := by decide +kernel
theorem dL_changes_73 : decode cL_changes 73 = .ok (.bipush 7, 2) := by decide +kernel
theorem dL_changes_75 : decode cL_changes 75 = .ok (.idiv, 1) := by decide +kernel
theorem dL_changes_76 : decode cL_changes 76 = .ok (.bipush 11, 2) := by decide +kernel
theorem dL_changes_78 : decode cL_changes 78 = .ok (.irem, 1) := by decide +kernel
theorem dL_changes_79 : decode cL_changes 79 = .ok (.tableswitch 238 0 9 #[53, 79, 79, 105, 105, 105, 148, 148, 191, 226], 53) := by decide +kernel
theorem dL_changes_132 : decode cL_changes 132 = .ok (.aload_n 0, 1) := by decide +kernel
theorem dL_changes_133 : decode cL_changes 133 = .ok (.iload_n 1, 1) := by decide +kernel
theorem dL_changes_134 : decode cL_changes 134 = .ok (.iload_n 3, 1) := by decide +kernel
theorem dL_changes_135 : decode cL_changes 135 = .ok (.iload_n 2, 1) := by decide +kernel
theorem dL_changes_136 : decode cL_changes 136 = .ok (.bipush 25, 2) := by decide +kernel
theorem dL_changes_138 : decode cL_changes 138 = .ok (.idiv, 1) := by decide +kernel
theorem dL_changes_139 : decode cL_changes 139 = .ok (.iconst 3, 1) := by decide +kernel
theorem dL_changes_140 : decode cL_changes 140 = .ok (.irem, 1) := by decide +kernel
theorem dL_changes_141 : decode cL_changes 141 = .ok (.ifCond .ne 8, 3) := by decide +kernel
theorem dL_changes_144 : decode cL_changes 144 = .ok (.bipush 45, 2) := by decide +kernel
theorem dL_changes_146 : decode cL_changes 146 = .ok (.goto 5, 3) := by decide +kernel
theorem dL_changes_149 : decode cL_changes 149 = .ok (.iload 4, 2) := by decide +kernel
theorem dL_changes_151 : decode cL_changes 151 = .ok (.invokestatic 136, 3) := by decide +kernel
theorem dL_changes_154 : decode cL_changes 154 = .ok (.pop2, 1) := by decide +kernel
theorem dL_changes_155 : decode cL_changes 155 = .ok (.goto 180, 3) := by decide +kernel
theorem dL_changes_158 : decode cL_changes 158 = .ok (.aload_n 0, 1) := by decide +kernel
theorem dL_changes_159 : decode cL_changes 159 = .ok (.iload_n 1, 1) := by decide +kernel
theorem dL_changes_160 : decode cL_changes 160 = .ok (.iload_n 3, 1) := by decide +kernel
theorem dL_changes_161 : decode cL_changes 161 = .ok (.iload 4, 2) := by decide +kernel
theorem dL_changes_163 : decode cL_changes 163 = .ok (.iload_n 2, 1) := by decide +kernel
theorem dL_changes_164 : decode cL_changes 164 = .ok (.bipush 25, 2) := by decide +kernel
theorem dL_changes_166 : decode cL_changes 166 = .ok (.idiv, 1) := by decide +kernel
theorem dL_changes_167 : decode cL_changes 167 = .ok (.iconst 3, 1) := by decide +kernel
theorem dL_changes_168 : decode cL_changes 168 = .ok (.irem, 1) := by decide +kernel
theorem dL_changes_169 : decode cL_changes 169 = .ok (.ifCond .le 7, 3) := by decide +kernel
theorem dL_changes_172 : decode cL_changes 172 = .ok (.iconst 1, 1) := by decide +kernel
theorem dL_changes_173 : decode cL_changes 173 = .ok (.goto 4, 3) := by decide +kernel
theorem dL_changes_176 : decode cL_changes 176 = .ok (.iconst 0, 1) := by decide +kernel
theorem dL_changes_177 : decode cL_changes 177 = .ok (.invokestatic 138, 3) := by decide +kernel
theorem dL_changes_180 : decode cL_changes 180 = .ok (.pop2, 1) := by decide +kernel
theorem dL_changes_181 : decode cL_changes 181 = .ok (.goto 154, 3) := by decide +kernel
theorem dL_changes_184 : decode cL_changes 184 = .ok (.aload_n 0, 1) := by decide +kernel
theorem dL_changes_185 : decode cL_changes 185 = .ok (.iload_n 1, 1) := by decide +kernel
theorem dL_changes_186 : decode cL_changes 186 = .ok (.iload_n 3, 1) := by decide +kernel
theorem dL_changes_187 : decode cL_changes 187 = .ok (.iload 5, 2) := by decide +kernel
theorem dL_changes_189 : decode cL_changes 189 = .ok (.iload 6, 2) := by decide +kernel
theorem dL_changes_191 : decode cL_changes 191 = .ok (.iload_n 2, 1) := by decide +kernel
theorem dL_changes_192 : decode cL_changes 192 = .ok (.sipush 150, 3) := by decide +kernel
theorem dL_changes_195 : decode cL_changes 195 = .ok (.idiv, 1) := by decide +kernel
theorem dL_changes_196 : decode cL_changes 196 = .ok (.iconst 5, 1) := by decide +kernel
theorem dL_changes_197 : decode cL_changes 197 = .ok (.irem, 1) := by decide +kernel
theorem dL_changes_198 : decode cL_changes 198 = .ok (.ifCond .ne 8, 3) := by decide +kernel
theorem dL_changes_201 : decode cL_changes 201 = .ok (.bipush 45, 2) := by decide +kernel
theorem dL_changes_203 : decode cL_changes 203 = .ok (.goto 5, 3) := by decide +kernel
theorem dL_changes_206 : decode cL_changes 206 = .ok (.iload 7, 2) := by decide +kernel
theorem dL_changes_208 : decode cL_changes 208 = .ok (.ldc 141, 2) := by decide +kernel
theorem dL_changes_210 : decode cL_changes 210 = .ok (.iload_n 2, 1) := by decide +kernel
theorem dL_changes_211 : decode cL_changes 211 = .ok (.iconst 3, 1) := by decide +kernel
theorem dL_changes_212 : decode cL_changes 212 = .ok (.idiv, 1) := by decide +kernel
theorem dL_changes_213 : decode cL_changes 213 = .ok (.iconst 5, 1) := by decide +kernel
theorem dL_changes_214 : decode cL_changes 214 = .ok (.irem, 1) := by decide +kernel
theorem dL_changes_215 : decode cL_changes 215 = .ok (.invokevirtual 130, 3) := by decide +kernel
theorem dL_changes_218 : decode cL_changes 218 = .ok (.iload 8, 2) := by decide +kernel
theorem dL_changes_220 : decode cL_changes 220 = .ok (.invokestatic 143, 3) := by decide +kernel
theorem dL_changes_223 : decode cL_changes 223 = .ok (.pop2, 1) := by decide +kernel
theorem dL_changes_224 : decode cL_changes 224 = .ok (.goto 111, 3) := by decide +kernel
theorem dL_changes_227 : decode cL_changes 227 = .ok (.aload_n 0, 1) := by decide +kernel
theorem dL_changes_228 : decode cL_changes 228 = .ok (.iload_n 1, 1) := by decide +kernel
theorem dL_changes_229 : decode cL_changes 229 = .ok (.iload_n 3, 1) := by decide +kernel
theorem dL_changes_230 : decode cL_changes 230 = .ok (.iload 5, 2) := by decide +kernel
theorem dL_changes_232 : decode cL_changes 232 = .ok (.iload 6, 2) := by decide +kernel
theorem dL_changes_234 : decode cL_changes 234 = .ok (.iload_n 2, 1) := by decide +kernel
theorem dL_changes_235 : decode cL_changes 235 = .ok (.sipush 150, 3) := by decide +kernel
theorem dL_changes_238 : decode cL_changes 238 = .ok (.idiv, 1) := by decide +kernel
theorem dL_changes_239 : decode cL_changes 239 = .ok (.iconst 5, 1) := by decide +kernel
theorem dL_changes_240 : decode cL_changes 240 = .ok (.irem, 1) := by decide +kernel
theorem dL_changes_241 : decode cL_changes 241 = .ok (.ifCond .ne 8, 3) := by decide +kernel
theorem dL_changes_244 : decode cL_changes 244 = .ok (.bipush 45, 2) := by decide +kernel
theorem dL_changes_246 : decode cL_changes 246 = .ok (.goto 5, 3) := by decide +kernel
theorem dL_changes_249 : decode cL_changes 249 = .ok (.iload 7, 2) := by decide +kernel
theorem dL_changes_251 : decode cL_changes 251 = .ok (.ldc 146, 2) := by decide +kernel
theorem dL_changes_253 : decode cL_changes 253 = .ok (.iload_n 2, 1) := by decide +kernel
theorem dL_changes_254 : decode cL_changes 254 = .ok (.iconst 3, 1) := by decide +kernel
theorem dL_changes_255 : decode cL_changes 255 = .ok (.idiv, 1) := by decide +kernel
theorem dL_changes_256 : decode cL_changes 256 = .ok (.iconst 5, 1) := by decide +kernel
theorem dL_changes_257 : decode cL_changes 257 = .ok (.irem, 1) := by decide +kernel
theorem dL_changes_258 : decode cL_changes 258 = .ok (.invokevirtual 130, 3) := by decide +kernel
theorem dL_changes_261 : decode cL_changes 261 = .ok (.iload 8, 2) := by decide +kernel
theorem dL_changes_263 : decode cL_changes 263 = .ok (.invokestatic 148, 3) := by decide +kernel
theorem dL_changes_266 : decode cL_changes 266 = .ok (.pop2, 1) := by decide +kernel
theorem dL_changes_267 : decode cL_changes 267 = .ok (.goto 68, 3) := by decide +kernel
theorem dL_changes_270 : decode cL_changes 270 = .ok (.aload_n 0, 1) := by decide +kernel
theorem dL_changes_271 : decode cL_changes 271 = .ok (.iload_n 1, 1) := by decide +kernel
theorem dL_changes_272 : decode cL_changes 272 = .ok (.iload_n 3, 1) := by decide +kernel
theorem dL_changes_273 : decode cL_changes 273 = .ok (.ldc 150, 2) := by decide +kernel
theorem dL_changes_275 : decode cL_changes 275 = .ok (.iload_n 2, 1) := by decide +kernel
theorem dL_changes_276 : decode cL_changes 276 = .ok (.bipush 25, 2) := by decide +kernel
theorem dL_changes_278 : decode cL_changes 278 = .ok (.idiv, 1) := by decide +kernel
theorem dL_changes_279 : decode cL_changes 279 = .ok (.iconst 3, 1) := by decide +kernel
theorem dL_changes_280 : decode cL_changes 280 = .ok (.irem, 1) := by decide +kernel
theorem dL_changes_281 : decode cL_changes 281 = .ok (.invokevirtual 130, 3) := by decide +kernel
theorem dL_changes_284 : decode cL_changes 284 = .ok (.iload_n 2, 1) := by decide +kernel
theorem dL_changes_285 : decode cL_changes 285 = .ok (.bipush 75, 2) := by decide +kernel
theorem dL_changes_287 : decode cL_changes 287 = .ok (.idiv, 1) := by decide +kernel
theorem dL_changes_288 : decode cL_changes 288 = .ok (.iconst 2, 1) := by decide +kernel
theorem dL_changes_289 : decode cL_changes 289 = .ok (.irem, 1) := by decide +kernel
theorem dL_changes_290 : decode cL_changes 290 = .ok (.ifCond .ne 7, 3) := by decide +kernel
theorem dL_changes_293 : decode cL_changes 293 = .ok (.iconst 1, 1) := by decide +kernel
theorem dL_changes_294 : decode cL_changes 294 = .ok (.goto 4, 3) := by decide +kernel
theorem dL_changes_297 : decode cL_changes 297 = .ok (.iconst 0, 1) := by decide +kernel
theorem dL_changes_298 : decode cL_changes 298 = .ok (.invokestatic 152, 3) := by decide +kernel
theorem dL_changes_301 : decode cL_changes 301 = .ok (.pop2, 1) := by decide +kernel
theorem dL_changes_302 : decode cL_changes 302 = .ok (.goto 33, 3) := by decide +kernel
theorem dL_changes_305 : decode cL_changes 305 = .ok (.aload_n 0, 1) := by decide +kernel
theorem dL_changes_306 : decode cL_changes 306 = .ok (.iload_n 1, 1) := by decide +kernel
theorem dL_changes_307 : decode cL_changes 307 = .ok (.iload_n 3, 1) := by decide +kernel
theorem dL_changes_308 : decode cL_changes 308 = .ok (.iload 7, 2) := by decide +kernel
theorem dL_changes_310 : decode cL_changes 310 = .ok (.invokestatic 154, 3) := by decide +kernel
theorem dL_changes_313 : decode cL_changes 313 = .ok (.pop2, 1) := by decide +kernel
theorem dL_changes_314 : decode cL_changes 314 = .ok (.goto 21, 3) := by decide +kernel
theorem dL_changes_317 : decode cL_changes 317 = .ok (.aload_n 0, 1) := by decide +kernel
theorem dL_changes_318 : decode cL_changes 318 = .ok (.iload_n 1, 1) := by decide +kernel
theorem dL_changes_319 : decode cL_changes 319 = .ok (.iload_n 3, 1) := by decide +kernel
theorem dL_changes_320 : decode cL_changes 320 = .ok (.ldc 156, 2) := by decide +kernel
theorem dL_changes_322 : decode cL_changes 322 = .ok (.iload_n 2, 1) := by decide +kernel
theorem dL_changes_323 : decode cL_changes 323 = .ok (.bipush 25, 2) := by decide +kernel
theorem dL_changes_325 : decode cL_changes 325 = .ok (.idiv, 1) := by decide +kernel
theorem dL_changes_326 : decode cL_changes 326 = .ok (.iconst 3, 1) := by decide +kernel
theorem dL_changes_327 : decode cL_changes 327 = .ok (.irem, 1) := by decide +kernel
theorem dL_changes_328 : decode cL_changes 328 = .ok (.invokevirtual 130, 3) := by decide +kernel
theorem dL_changes_331 : decode cL_changes 331 = .ok (.invokestatic 120, 3) := by decide +kernel
theorem dL_changes_334 : decode cL_changes 334 = .ok (.pop2, 1) := by decide +kernel
theorem dL_changes_335 : decode cL_changes 335 = .ok (.return_, 1) := by decide +kernel
theorem dL_isMended_0 : decode cL_isMended 0 = .ok (.iconst 0, 1) := by decide +kernel
theorem dL_isMended_1 : decode cL_isMended 1 = .ok (.istore_n 2, 1) := by decide +kernel
theorem dL_isMended_2 : decode cL_isMended 2 = .ok (.iload_n 2, 1) := by decide +kernel
theorem dL_isMended_3 : decode cL_isMended 3 = .ok (.bipush 6, 2) := by decide +kernel
theorem dL_isMended_5 : decode cL_isMended 5 = .ok (.if_icmp .ge 42, 3) := by decide +kernel
theorem dL_isMended_8 : decode cL_isMended 8 = .ok (.aload_n 0, 1) := by decide +kernel
theorem dL_isMended_9 : decode cL_isMended 9 = .ok (.iload_n 1, 1) := by decide +kernel
theorem dL_isMended_10 : decode cL_isMended 10 = .ok (.invokestatic 158, 3) := by decide +kernel
theorem dL_isMended_13 : decode cL_isMended 13 = .ok (.lconst 0, 1) := by decide +kernel
theorem dL_isMended_14 : decode cL_isMended 14 = .ok (.lcmp, 1) := by decide +kernel
theorem dL_isMended_15 : decode cL_isMended 15 = .ok (.ifCond .lt 32, 3) := by decide +kernel
theorem dL_isMended_18 : decode cL_isMended 18 = .ok (.aload_n 0, 1) := by decide +kernel
theorem dL_isMended_19 : decode cL_isMended 19 = .ok (.iload_n 1, 1) := by decide +kernel
theorem dL_isMended_20 : decode cL_isMended 20 = .ok (.ldc2_w 161, 3) := by decide +kernel
theorem dL_isMended_23 : decode cL_isMended 23 = .ok (.aload_n 0, 1) := by decide +kernel
theorem dL_isMended_24 : decode cL_isMended 24 = .ok (.iload_n 1, 1) := by decide +kernel
theorem dL_isMended_25 : decode cL_isMended 25 = .ok (.invokestatic 158, 3) := by decide +kernel
theorem dL_isMended_28 : decode cL_isMended 28 = .ok (.ldc2_w 163, 3) := by decide +kernel
theorem dL_isMended_31 : decode cL_isMended 31 = .ok (.ldiv, 1) := by decide +kernel
theorem dL_isMended_32 : decode cL_isMended 32 = .ok (.ladd, 1) := by decide +kernel
theorem dL_isMended_33 : decode cL_isMended 33 = .ok (.l2i, 1) := by decide +kernel
theorem dL_isMended_34 : decode cL_isMended 34 = .ok (.i2c, 1) := by decide +kernel
theorem dL_isMended_35 : decode cL_isMended 35 = .ok (.bipush 45, 2) := by decide +kernel
theorem dL_isMended_37 : decode cL_isMended 37 = .ok (.invokestatic 120, 3) := by decide +kernel
theorem dL_isMended_40 : decode cL_isMended 40 = .ok (.pop2, 1) := by decide +kernel
theorem dL_isMended_41 : decode cL_isMended 41 = .ok (.iinc 2 1, 3) := by decide +kernel
theorem dL_isMended_44 : decode cL_isMended 44 = .ok (.goto (-42), 3) := by decide +kernel
theorem dL_isMended_47 : decode cL_isMended 47 = .ok (.aload_n 0, 1) := by decide +kernel
theorem dL_isMended_48 : decode cL_isMended 48 = .ok (.iload_n 1, 1) := by decide +kernel
theorem dL_isMended_49 : decode cL_isMended 49 = .ok (.invokestatic 158, 3) := by decide +kernel
theorem dL_isMended_52 : decode cL_isMended 52 = .ok (.ldc2_w 165, 3) := by decide +kernel
theorem dL_isMended_55 : decode cL_isMended 55 = .ok (.lcmp, 1) := by decide +kernel
theorem dL_isMended_56 : decode cL_isMended 56 = .ok (.ifCond .ne 7, 3) := by decide +kernel
theorem dL_isMended_59 : decode cL_isMended 59 = .ok (.iconst 1, 1) := by decide +kernel
theorem dL_isMended_60 : decode cL_isMended 60 = .ok (.goto 4, 3) := by decide +kernel
theorem dL_isMended_63 : decode cL_isMended 63 = .ok (.iconst 0, 1) := by decide +kernel
theorem dL_isMended_64 : decode cL_isMended 64 = .ok (.ireturn, 1) := by decide +kernel
theorem dL_asks_0 : decode cL_asks 0 = .ok (.aload_n 0, 1) := by decide +kernel
theorem dL_asks_1 : decode cL_asks 1 = .ok (.iload_n 1, 1) := by decide +kernel
theorem dL_asks_2 : decode cL_asks 2 = .ok (.invokestatic 167, 3) := by decide +kernel
theorem dL_asks_5 : decode cL_asks 5 = .ok (.pop2, 1) := by decide +kernel
theorem dL_asks_6 : decode cL_asks 6 = .ok (.aload_n 2, 1) := by decide +kernel
theorem dL_asks_7 : decode cL_asks 7 = .ok (.iload_n 3, 1) := by decide +kernel
theorem dL_asks_8 : decode cL_asks 8 = .ok (.invokestatic 113, 3) := by decide +kernel
theorem dL_asks_11 : decode cL_asks 11 = .ok (.ldc 169, 2) := by decide +kernel
theorem dL_asks_13 : decode cL_asks 13 = .ok (.iload_n 3, 1) := by decide +kernel
theorem dL_asks_14 : decode cL_asks 14 = .ok (.imul, 1) := by decide +kernel
theorem dL_asks_15 : decode cL_asks 15 = .ok (.iadd, 1) := by decide +kernel
theorem dL_asks_16 : decode cL_asks 16 = .ok (.ldc 170, 2) := by decide +kernel
theorem dL_asks_18 : decode cL_asks 18 = .ok (.invokestatic 117, 3) := by decide +kernel
theorem dL_asks_21 : decode cL_asks 21 = .ok (.istore 5, 2) := by decide +kernel
theorem dL_asks_23 : decode cL_asks 23 = .ok (.iconst 0, 1) := by decide +kernel
theorem dL_asks_24 : decode cL_asks 24 = .ok (.istore 6, 2) := by decide +kernel
theorem dL_asks_26 : decode cL_asks 26 = .ok (.iload 5, 2) := by decide +kernel
theorem dL_asks_28 : decode cL_asks 28 = .ok (.iconst 3, 1) := by decide +kernel
theorem dL_asks_29 : decode cL_asks 29 = .ok (.irem, 1) := by decide +kernel
theorem dL_asks_30 : decode cL_asks 30 = .ok (.ifCond .le 106, 3) := by decide +kernel
theorem dL_asks_33 : decode cL_asks 33 = .ok (.aload_n 0, 1) := by decide +kernel
theorem dL_asks_34 : decode cL_asks 34 = .ok (.iload_n 1, 1) := by decide +kernel
theorem dL_asks_35 : decode cL_asks 35 = .ok (.iconst 1, 1) := by decide +kernel
theorem dL_asks_36 : decode cL_asks 36 = .ok (.invokestatic 171, 3) := by decide +kernel
theorem dL_asks_39 : decode cL_asks 39 = .ok (.pop2, 1) := by decide +kernel
theorem dL_asks_40 : decode cL_asks 40 = .ok (.iconst 1, 1) := by decide +kernel
theorem dL_asks_41 : decode cL_asks 41 = .ok (.istore 6, 2) := by decide +kernel
theorem dL_asks_43 : decode cL_asks 43 = .ok (.iload 5, 2) := by decide +kernel
theorem dL_asks_45 : decode cL_asks 45 = .ok (.iconst 3, 1) := by decide +kernel
theorem dL_asks_46 : decode cL_asks 46 = .ok (.idiv, 1) := by decide +kernel
theorem dL_asks_47 : decode cL_asks 47 = .ok (.iconst 2, 1) := by decide +kernel
theorem dL_asks_48 : decode cL_asks 48 = .ok (.irem, 1) := by decide +kernel
theorem dL_asks_49 : decode cL_asks 49 = .ok (.ifCond .ne 23, 3) := by decide +kernel
theorem dL_asks_52 : decode cL_asks 52 = .ok (.aload_n 0, 1) := by decide +kernel
theorem dL_asks_53 : decode cL_asks 53 = .ok (.iload_n 1, 1) := by decide +kernel
theorem dL_asks_54 : decode cL_asks 54 = .ok (.bipush 65, 2) := by decide +kernel
theorem dL_asks_56 : decode cL_asks 56 = .ok (.iload 5, 2) := by decide +kernel
theorem dL_asks_58 : decode cL_asks 58 = .ok (.bipush 6, 2) := by decide +kernel
theorem dL_asks_60 : decode cL_asks 60 = .ok (.idiv, 1) := by decide +kernel
theorem dL_asks_61 : decode cL_asks 61 = .ok (.iconst 5, 1) := by decide +kernel
theorem dL_asks_62 : decode cL_asks 62 = .ok (.irem, 1) := by decide +kernel
theorem dL_asks_63 : decode cL_asks 63 = .ok (.iadd, 1) := by decide +kernel
theorem dL_asks_64 : decode cL_asks 64 = .ok (.i2c, 1) := by decide +kernel
theorem dL_asks_65 : decode cL_asks 65 = .ok (.invokestatic 174, 3) := by decide +kernel
theorem dL_asks_68 : decode cL_asks 68 = .ok (.pop2, 1) := by decide +kernel
theorem dL_asks_69 : decode cL_asks 69 = .ok (.iinc 6 1, 3) := by decide +kernel
theorem dL_asks_72 : decode cL_asks 72 = .ok (.iload 5, 2) := by decide +kernel
theorem dL_asks_74 : decode cL_asks 74 = .ok (.bipush 30, 2) := by decide +kernel
theorem dL_asks_76 : decode cL_asks 76 = .ok (.idiv, 1) := by decide +kernel
theorem dL_asks_77 : decode cL_asks 77 = .ok (.iconst 3, 1) := by decide +kernel
theorem dL_asks_78 : decode cL_asks 78 = .ok (.irem, 1) := by decide +kernel
theorem dL_asks_79 : decode cL_asks 79 = .ok (.ifCond .ne 24, 3) := by decide +kernel
theorem dL_asks_82 : decode cL_asks 82 = .ok (.aload_n 0, 1) := by decide +kernel
theorem dL_asks_83 : decode cL_asks 83 = .ok (.iload_n 1, 1) := by decide +kernel
theorem dL_asks_84 : decode cL_asks 84 = .ok (.bipush 65, 2) := by decide +kernel
theorem dL_asks_86 : decode cL_asks 86 = .ok (.iload 5, 2) := by decide +kernel
theorem dL_asks_88 : decode cL_asks 88 = .ok (.bipush 90, 2) := by decide +kernel
theorem dL_asks_90 : decode cL_asks 90 = .ok (.idiv, 1) := by decide +kernel
theorem dL_asks_91 : decode cL_asks 91 = .ok (.iconst 5, 1) := by decide +kernel
theorem dL_asks_92 : decode cL_asks 92 = .ok (.irem, 1) := by decide +kernel
theorem dL_asks_93 : decode cL_asks 93 = .ok (.iadd, 1) := by decide +kernel
theorem dL_asks_94 : decode cL_asks 94 = .ok (.i2c, 1) := by decide +kernel
theorem dL_asks_95 : decode cL_asks 95 = .ok (.iconst 1, 1) := by decide +kernel
theorem dL_asks_96 : decode cL_asks 96 = .ok (.invokestatic 177, 3) := by decide +kernel
theorem dL_asks_99 : decode cL_asks 99 = .ok (.pop2, 1) := by decide +kernel
theorem dL_asks_100 : decode cL_asks 100 = .ok (.iinc 6 1, 3) := by decide +kernel
theorem dL_asks_103 : decode cL_asks 103 = .ok (.iload 5, 2) := by decide +kernel
theorem dL_asks_105 : decode cL_asks 105 = .ok (.sipush 450, 3) := by decide +kernel
theorem dL_asks_108 : decode cL_asks 108 = .ok (.idiv, 1) := by decide +kernel
theorem dL_asks_109 : decode cL_asks 109 = .ok (.iconst 3, 1) := by decide +kernel
theorem dL_asks_110 : decode cL_asks 110 = .ok (.irem, 1) := by decide +kernel
theorem dL_asks_111 : decode cL_asks 111 = .ok (.ifCond .ne 25, 3) := by decide +kernel
theorem dL_asks_114 : decode cL_asks 114 = .ok (.aload_n 0, 1) := by decide +kernel
theorem dL_asks_115 : decode cL_asks 115 = .ok (.iload_n 1, 1) := by decide +kernel
theorem dL_asks_116 : decode cL_asks 116 = .ok (.bipush 97, 2) := by decide +kernel
theorem dL_asks_118 : decode cL_asks 118 = .ok (.iload 5, 2) := by decide +kernel
theorem dL_asks_120 : decode cL_asks 120 = .ok (.sipush 1350, 3) := by decide +kernel
theorem dL_asks_123 : decode cL_asks 123 = .ok (.idiv, 1) := by decide +kernel
theorem dL_asks_124 : decode cL_asks 124 = .ok (.iconst 2, 1) := by decide +kernel
theorem dL_asks_125 : decode cL_asks 125 = .ok (.irem, 1) := by decide +kernel
theorem dL_asks_126 : decode cL_asks 126 = .ok (.iadd, 1) := by decide +kernel
theorem dL_asks_127 : decode cL_asks 127 = .ok (.i2c, 1) := by decide +kernel
theorem dL_asks_128 : decode cL_asks 128 = .ok (.iconst 0, 1) := by decide +kernel
theorem dL_asks_129 : decode cL_asks 129 = .ok (.invokestatic 180, 3) := by decide +kernel
theorem dL_asks_132 : decode cL_asks 132 = .ok (.pop2, 1) := by decide +kernel
theorem dL_asks_133 : decode cL_asks 133 = .ok (.iinc 6 1, 3) := by decide +kernel
theorem dL_asks_136 : decode cL_asks 136 = .ok (.iconst 0, 1) := by decide +kernel
theorem dL_asks_137 : decode cL_asks 137 = .ok (.istore 7, 2) := by decide +kernel
theorem dL_asks_139 : decode cL_asks 139 = .ok (.iload 7, 2) := by decide +kernel
theorem dL_asks_141 : decode cL_asks 141 = .ok (.iload 4, 2) := by decide +kernel
theorem dL_asks_143 : decode cL_asks 143 = .ok (.if_icmp .ge 104, 3) := by decide +kernel
theorem dL_asks_146 : decode cL_asks 146 = .ok (.aload_n 2, 1) := by decide +kernel
theorem dL_asks_147 : decode cL_asks 147 = .ok (.iload_n 3, 1) := by decide +kernel
theorem dL_asks_148 : decode cL_asks 148 = .ok (.iconst 1, 1) := by decide +kernel
theorem dL_asks_149 : decode cL_asks 149 = .ok (.iadd, 1) := by decide +kernel
theorem dL_asks_150 : decode cL_asks 150 = .ok (.iload 7, 2) := by decide +kernel
theorem dL_asks_152 : decode cL_asks 152 = .ok (.iadd, 1) := by decide +kernel
theorem dL_asks_153 : decode cL_asks 153 = .ok (.invokestatic 113, 3) := by decide +kernel
theorem dL_asks_156 : decode cL_asks 156 = .ok (.sipush 7919, 3) := by decide +kernel
theorem dL_asks_159 : decode cL_asks 159 = .ok (.iload_n 3, 1) := by decide +kernel
theorem dL_asks_160 : decode cL_asks 160 = .ok (.iload 7, 2) := by decide +kernel
theorem dL_asks_162 : decode cL_asks 162 = .ok (.iadd, 1) := by decide +kernel
theorem dL_asks_163 : decode cL_asks 163 = .ok (.imul, 1) := by decide +kernel
theorem dL_asks_164 : decode cL_asks 164 = .ok (.iadd, 1) := by decide +kernel
theorem dL_asks_165 : decode cL_asks 165 = .ok (.ldc 170, 2) := by decide +kernel
theorem dL_asks_167 : decode cL_asks 167 = .ok (.invokestatic 117, 3) := by decide +kernel
theorem dL_asks_170 : decode cL_asks 170 = .ok (.istore 8, 2) := by decide +kernel
theorem dL_asks_172 : decode cL_asks 172 = .ok (.aload_n 0, 1) := by decide +kernel
theorem dL_asks_173 : decode cL_asks 173 = .ok (.iload_n 1, 1) := by decide +kernel
theorem dL_asks_174 : decode cL_asks 174 = .ok (.ldc 183, 2) := by decide +kernel
theorem dL_asks_176 : decode cL_asks 176 = .ok (.iload 8, 2) := by decide +kernel
theorem dL_asks_178 : decode cL_asks 178 = .ok (.bipush 9, 2) := by decide +kernel
theorem dL_asks_180 : decode cL_asks 180 = .ok (.irem, 1) := by decide +kernel
theorem dL_asks_181 : decode cL_asks 181 = .ok (.invokevirtual 130, 3) := by decide +kernel
theorem dL_asks_184 : decode cL_asks 184 = .ok (.ldc 185, 2) := by decide +kernel
theorem dL_asks_186 : decode cL_asks 186 = .ok (.iload 8, 2) := by decide +kernel
theorem dL_asks_188 : decode cL_asks 188 = .ok (.bipush 9, 2) := by decide +kernel
theorem dL_asks_190 : decode cL_asks 190 = .ok (.idiv, 1) := by decide +kernel
theorem dL_asks_191 : decode cL_asks 191 = .ok (.bipush 6, 2) := by decide +kernel
theorem dL_asks_193 : decode cL_asks 193 = .ok (.irem, 1) := by decide +kernel
theorem dL_asks_194 : decode cL_asks 194 = .ok (.invokevirtual 130, 3) := by decide +kernel
theorem dL_asks_197 : decode cL_asks 197 = .ok (.bipush 97, 2) := by decide +kernel
theorem dL_asks_199 : decode cL_asks 199 = .ok (.iload 8, 2) := by decide +kernel
theorem dL_asks_201 : decode cL_asks 201 = .ok (.bipush 54, 2) := by decide +kernel
theorem dL_asks_203 : decode cL_asks 203 = .ok (.idiv, 1) := by decide +kernel
theorem dL_asks_204 : decode cL_asks 204 = .ok (.iconst 2, 1) := by decide +kernel
theorem dL_asks_205 : decode cL_asks 205 = .ok (.irem, 1) := by decide +kernel
theorem dL_asks_206 : decode cL_asks 206 = .ok (.iadd, 1) := by decide +kernel
theorem dL_asks_207 : decode cL_asks 207 = .ok (.i2c, 1) := by decide +kernel
theorem dL_asks_208 : decode cL_asks 208 = .ok (.iload 8, 2) := by decide +kernel
theorem dL_asks_210 : decode cL_asks 210 = .ok (.bipush 108, 2) := by decide +kernel
theorem dL_asks_212 : decode cL_asks 212 = .ok (.idiv, 1) := by decide +kernel
theorem dL_asks_213 : decode cL_asks 213 = .ok (.iconst 5, 1) := by decide +kernel
theorem dL_asks_214 : decode cL_asks 214 = .ok (.irem, 1) := by decide +kernel
theorem dL_asks_215 : decode cL_asks 215 = .ok (.ifCond .ne 7, 3) := by decide +kernel
theorem dL_asks_218 : decode cL_asks 218 = .ok (.iconst 1, 1) := by decide +kernel
theorem dL_asks_219 : decode cL_asks 219 = .ok (.goto 4, 3) := by decide +kernel
theorem dL_asks_222 : decode cL_asks 222 = .ok (.iconst 0, 1) := by decide +kernel
theorem dL_asks_223 : decode cL_asks 223 = .ok (.ldc 185, 2) := by decide +kernel
theorem dL_asks_225 : decode cL_asks 225 = .ok (.iload 8, 2) := by decide +kernel
theorem dL_asks_227 : decode cL_asks 227 = .ok (.sipush 540, 3) := by decide +kernel
theorem dL_asks_230 : decode cL_asks 230 = .ok (.idiv, 1) := by decide +kernel
theorem dL_asks_231 : decode cL_asks 231 = .ok (.bipush 6, 2) := by decide +kernel
theorem dL_asks_233 : decode cL_asks 233 = .ok (.irem, 1) := by decide +kernel
theorem dL_asks_234 : decode cL_asks 234 = .ok (.invokevirtual 130, 3) := by decide +kernel
theorem dL_asks_237 : decode cL_asks 237 = .ok (.invokestatic 187, 3) := by decide +kernel
theorem dL_asks_240 : decode cL_asks 240 = .ok (.pop2, 1) := by decide +kernel
theorem dL_asks_241 : decode cL_asks 241 = .ok (.iinc 7 1, 3) := by decide +kernel
theorem dL_asks_244 : decode cL_asks 244 = .ok (.goto (-105), 3) := by decide +kernel
theorem dL_asks_247 : decode cL_asks 247 = .ok (.iload 6, 2) := by decide +kernel
theorem dL_asks_249 : decode cL_asks 249 = .ok (.ireturn, 1) := by decide +kernel
theorem dL_law_0 : decode cL_law 0 = .ok (.new 12, 3) := by decide +kernel
theorem dL_law_3 : decode cL_law 3 = .ok (.dup, 1) := by decide +kernel
theorem dL_law_4 : decode cL_law 4 = .ok (.invokespecial 190, 3) := by decide +kernel
theorem dL_law_7 : decode cL_law 7 = .ok (.astore_n 1, 1) := by decide +kernel
theorem dL_law_8 : decode cL_law 8 = .ok (.aload_n 1, 1) := by decide +kernel
theorem dL_law_9 : decode cL_law 9 = .ok (.iconst 0, 1) := by decide +kernel
theorem dL_law_10 : decode cL_law 10 = .ok (.aload_n 0, 1) := by decide +kernel
theorem dL_law_11 : decode cL_law 11 = .ok (.iconst 0, 1) := by decide +kernel
theorem dL_law_12 : decode cL_law 12 = .ok (.invokestatic 191, 3) := by decide +kernel
theorem dL_law_15 : decode cL_law 15 = .ok (.aload_n 1, 1) := by decide +kernel
theorem dL_law_16 : decode cL_law 16 = .ok (.iconst 0, 1) := by decide +kernel
theorem dL_law_17 : decode cL_law 17 = .ok (.invokestatic 195, 3) := by decide +kernel
theorem dL_law_20 : decode cL_law 20 = .ok (.ifCond .ne 5, 3) := by decide +kernel
theorem dL_law_23 : decode cL_law 23 = .ok (.iconst 0, 1) := by decide +kernel
theorem dL_law_24 : decode cL_law 24 = .ok (.ireturn, 1) := by decide +kernel
theorem dL_law_25 : decode cL_law 25 = .ok (.aload_n 1, 1) := by decide +kernel
theorem dL_law_26 : decode cL_law 26 = .ok (.iconst 0, 1) := by decide +kernel
theorem dL_law_27 : decode cL_law 27 = .ok (.iconst 1, 1) := by decide +kernel
theorem dL_law_28 : decode cL_law 28 = .ok (.invokestatic 199, 3) := by decide +kernel
theorem dL_law_31 : decode cL_law 31 = .ok (.pop2, 1) := by decide +kernel
theorem dL_law_32 : decode cL_law 32 = .ok (.iconst 1, 1) := by decide +kernel
theorem dL_law_33 : decode cL_law 33 = .ok (.aload_n 0, 1) := by decide +kernel
theorem dL_law_34 : decode cL_law 34 = .ok (.bipush 30, 2) := by decide +kernel
theorem dL_law_36 : decode cL_law 36 = .ok (.invokestatic 113, 3) := by decide +kernel
theorem dL_law_39 : decode cL_law 39 = .ok (.iconst 4, 1) := by decide +kernel
theorem dL_law_40 : decode cL_law 40 = .ok (.invokestatic 117, 3) := by decide +kernel
theorem dL_law_43 : decode cL_law 43 = .ok (.iadd, 1) := by decide +kernel
theorem dL_law_44 : decode cL_law 44 = .ok (.istore_n 2, 1) := by decide +kernel
theorem dL_law_45 : decode cL_law 45 = .ok (.iconst 0, 1) := by decide +kernel
theorem dL_law_46 : decode cL_law 46 = .ok (.istore_n 3, 1) := by decide +kernel
theorem dL_law_47 : decode cL_law 47 = .ok (.iload_n 3, 1) := by decide +kernel
theorem dL_law_48 : decode cL_law 48 = .ok (.iload_n 2, 1) := by decide +kernel
theorem dL_law_49 : decode cL_law 49 = .ok (.if_icmp .ge 32, 3) := by decide +kernel
theorem dL_law_52 : decode cL_law 52 = .ok (.aload_n 1, 1) := by decide +kernel
theorem dL_law_53 : decode cL_law 53 = .ok (.iconst 1, 1) := by decide +kernel
theorem dL_law_54 : decode cL_law 54 = .ok (.aload_n 0, 1) := by decide +kernel
theorem dL_law_55 : decode cL_law 55 = .ok (.bipush 31, 2) := by decide +kernel
theorem dL_law_57 : decode cL_law 57 = .ok (.iload_n 3, 1) := by decide +kernel
theorem dL_law_58 : decode cL_law 58 = .ok (.iadd, 1) := by decide +kernel
theorem dL_law_59 : decode cL_law 59 = .ok (.invokestatic 113, 3) := by decide +kernel
theorem dL_law_62 : decode cL_law 62 = .ok (.ldc 169, 2) := by decide +kernel
theorem dL_law_64 : decode cL_law 64 = .ok (.iload_n 3, 1) := by decide +kernel
theorem dL_law_65 : decode cL_law 65 = .ok (.imul, 1) := by decide +kernel
theorem dL_law_66 : decode cL_law 66 = .ok (.iadd, 1) := by decide +kernel
theorem dL_law_67 : decode cL_law 67 = .ok (.ldc 123, 2) := by decide +kernel
theorem dL_law_69 : decode cL_law 69 = .ok (.invokestatic 117, 3) := by decide +kernel
theorem dL_law_72 : decode cL_law 72 = .ok (.invokestatic 124, 3) := by decide +kernel
theorem dL_law_75 : decode cL_law 75 = .ok (.iinc 3 1, 3) := by decide +kernel
theorem dL_law_78 : decode cL_law 78 = .ok (.goto (-31), 3) := by decide +kernel
theorem dL_law_81 : decode cL_law 81 = .ok (.aload_n 1, 1) := by decide +kernel
theorem dL_law_82 : decode cL_law 82 = .ok (.iconst 1, 1) := by decide +kernel
theorem dL_law_83 : decode cL_law 83 = .ok (.invokestatic 195, 3) := by decide +kernel
theorem dL_law_86 : decode cL_law 86 = .ok (.ifCond .ne 5, 3) := by decide +kernel
theorem dL_law_89 : decode cL_law 89 = .ok (.iconst 0, 1) := by decide +kernel
theorem dL_law_90 : decode cL_law 90 = .ok (.ireturn, 1) := by decide +kernel
theorem dL_law_91 : decode cL_law 91 = .ok (.aload_n 1, 1) := by decide +kernel
theorem dL_law_92 : decode cL_law 92 = .ok (.iconst 0, 1) := by decide +kernel
theorem dL_law_93 : decode cL_law 93 = .ok (.iconst 1, 1) := by decide +kernel
theorem dL_law_94 : decode cL_law 94 = .ok (.invokestatic 202, 3) := by decide +kernel
theorem dL_law_97 : decode cL_law 97 = .ok (.lconst 1, 1) := by decide +kernel
theorem dL_law_98 : decode cL_law 98 = .ok (.lcmp, 1) := by decide +kernel
theorem dL_law_99 : decode cL_law 99 = .ok (.ifCond .ne 7, 3) := by decide +kernel
theorem dL_law_102 : decode cL_law 102 = .ok (.iconst 1, 1) := by decide +kernel
theorem dL_law_103 : decode cL_law 103 = .ok (.goto 4, 3) := by decide +kernel
theorem dL_law_106 : decode cL_law 106 = .ok (.iconst 0, 1) := by decide +kernel
theorem dL_law_107 : decode cL_law 107 = .ok (.istore_n 3, 1) := by decide +kernel
theorem dL_law_108 : decode cL_law 108 = .ok (.lconst 0, 1) := by decide +kernel
theorem dL_law_109 : decode cL_law 109 = .ok (.lstore 4, 2) := by decide +kernel
theorem dL_law_111 : decode cL_law 111 = .ok (.iload_n 3, 1) := by decide +kernel
theorem dL_law_112 : decode cL_law 112 = .ok (.ifCond .ne 58, 3) := by decide +kernel
theorem dL_law_115 : decode cL_law 115 = .ok (.aload_n 1, 1) := by decide +kernel
theorem dL_law_116 : decode cL_law 116 = .ok (.iconst 0, 1) := by decide +kernel
theorem dL_law_117 : decode cL_law 117 = .ok (.iconst 1, 1) := by decide +kernel
theorem dL_law_118 : decode cL_law 118 = .ok (.iconst 3, 1) := by decide +kernel
theorem dL_law_119 : decode cL_law 119 = .ok (.invokestatic 204, 3) := by decide +kernel
theorem dL_law_122 : decode cL_law 122 = .ok (.lstore 4, 2) := by decide +kernel
theorem dL_law_124 : decode cL_law 124 = .ok (.aload_n 1, 1) := by decide +kernel
theorem dL_law_125 : decode cL_law 125 = .ok (.iconst 3, 1) := by decide +kernel
theorem dL_law_126 : decode cL_law 126 = .ok (.iconst 0, 1) := by decide +kernel
theorem dL_law_127 : decode cL_law 127 = .ok (.invokestatic 207, 3) := by decide +kernel
theorem dL_law_130 : decode cL_law 130 = .ok (.lconst 1, 1) := by decide +kernel
theorem dL_law_131 : decode cL_law 131 = .ok (.lcmp, 1) := by decide +kernel
theorem dL_law_132 : decode cL_law 132 = .ok (.ifCond .ne 36, 3) := by decide +kernel
theorem dL_law_135 : decode cL_law 135 = .ok (.aload_n 1, 1) := by decide +kernel
theorem dL_law_136 : decode cL_law 136 = .ok (.invokestatic 209, 3) := by decide +kernel
theorem dL_law_139 : decode cL_law 139 = .ok (.ldc2_w 212, 3) := by decide +kernel
theorem dL_law_142 : decode cL_law 142 = .ok (.lcmp, 1) := by decide +kernel
theorem dL_law_143 : decode cL_law 143 = .ok (.ifCond .ne 25, 3) := by decide +kernel
theorem dL_law_146 : decode cL_law 146 = .ok (.aload_n 1, 1) := by decide +kernel
theorem dL_law_147 : decode cL_law 147 = .ok (.iconst 3, 1) := by decide +kernel
theorem dL_law_148 : decode cL_law 148 = .ok (.iconst 1, 1) := by decide +kernel
theorem dL_law_149 : decode cL_law 149 = .ok (.invokestatic 207, 3) := by decide +kernel
theorem dL_law_152 : decode cL_law 152 = .ok (.lconst 0, 1) := by decide +kernel
theorem dL_law_153 : decode cL_law 153 = .ok (.lcmp, 1) := by decide +kernel
theorem dL_law_154 : decode cL_law 154 = .ok (.ifCond .ne 14, 3) := by decide +kernel
theorem dL_law_157 : decode cL_law 157 = .ok (.aload_n 1, 1) := by decide +kernel
theorem dL_law_158 : decode cL_law 158 = .ok (.invokestatic 209, 3) := by decide +kernel
theorem dL_law_161 : decode cL_law 161 = .ok (.ldc2_w 212, 3) := by decide +kernel
theorem dL_law_164 : decode cL_law 164 = .ok (.lcmp, 1) := by decide +kernel
theorem dL_law_165 : decode cL_law 165 = .ok (.ifCond .ne 21, 3) := by decide +kernel
theorem dL_law_168 : decode cL_law 168 = .ok (.iconst 0, 1) := by decide +kernel
theorem dL_law_169 : decode cL_law 169 = .ok (.ireturn, 1) := by decide +kernel
theorem dL_law_170 : decode cL_law 170 = .ok (.aload_n 1, 1) := by decide +kernel
theorem dL_law_171 : decode cL_law 171 = .ok (.iconst 0, 1) := by decide +kernel
theorem dL_law_172 : decode cL_law 172 = .ok (.iconst 1, 1) := by decide +kernel
theorem dL_law_173 : decode cL_law 173 = .ok (.iconst 3, 1) := by decide +kernel
theorem dL_law_174 : decode cL_law 174 = .ok (.invokestatic 204, 3) := by decide +kernel
theorem dL_law_177 : decode cL_law 177 = .ok (.ldc2_w 33, 3) := by decide +kernel
theorem dL_law_180 : decode cL_law 180 = .ok (.lcmp, 1) := by decide +kernel
theorem dL_law_181 : decode cL_law 181 = .ok (.ifCond .eq 5, 3) := by decide +kernel
theorem dL_law_184 : decode cL_law 184 = .ok (.iconst 0, 1) := by decide +kernel
theorem dL_law_185 : decode cL_law 185 = .ok (.ireturn, 1) := by decide +kernel
theorem dL_law_186 : decode cL_law 186 = .ok (.iconst 0, 1) := by decide +kernel
theorem dL_law_187 : decode cL_law 187 = .ok (.istore 6, 2) := by decide +kernel
theorem dL_law_189 : decode cL_law 189 = .ok (.iload 6, 2) := by decide +kernel
theorem dL_law_191 : decode cL_law 191 = .ok (.bipush 40, 2) := by decide +kernel
theorem dL_law_193 : decode cL_law 193 = .ok (.if_icmp .ge 117, 3) := by decide +kernel
theorem dL_law_196 : decode cL_law 196 = .ok (.iconst 1, 1) := by decide +kernel
theorem dL_law_197 : decode cL_law 197 = .ok (.iload 6, 2) := by decide +kernel
theorem dL_law_199 : decode cL_law 199 = .ok (.iconst 3, 1) := by decide +kernel
theorem dL_law_200 : decode cL_law 200 = .ok (.irem, 1) := by decide +kernel
theorem dL_law_201 : decode cL_law 201 = .ok (.iadd, 1) := by decide +kernel
theorem dL_law_202 : decode cL_law 202 = .ok (.istore 7, 2) := by decide +kernel
theorem dL_law_204 : decode cL_law 204 = .ok (.aload_n 1, 1) := by decide +kernel
theorem dL_law_205 : decode cL_law 205 = .ok (.iconst 0, 1) := by decide +kernel
theorem dL_law_206 : decode cL_law 206 = .ok (.aload_n 0, 1) := by decide +kernel
theorem dL_law_207 : decode cL_law 207 = .ok (.bipush 40, 2) := by decide +kernel
theorem dL_law_209 : decode cL_law 209 = .ok (.iconst 4, 1) := by decide +kernel
theorem dL_law_210 : decode cL_law 210 = .ok (.iload 6, 2) := by decide +kernel
theorem dL_law_212 : decode cL_law 212 = .ok (.imul, 1) := by decide +kernel
theorem dL_law_213 : decode cL_law 213 = .ok (.iadd, 1) := by decide +kernel
theorem dL_law_214 : decode cL_law 214 = .ok (.iload 7, 2) := by decide +kernel
theorem dL_law_216 : decode cL_law 216 = .ok (.invokestatic 214, 3) := by decide +kernel
theorem dL_law_219 : decode cL_law 219 = .ok (.istore 8, 2) := by decide +kernel
theorem dL_law_221 : decode cL_law 221 = .ok (.aload_n 1, 1) := by decide +kernel
theorem dL_law_222 : decode cL_law 222 = .ok (.iconst 0, 1) := by decide +kernel
theorem dL_law_223 : decode cL_law 223 = .ok (.iconst 0, 1) := by decide +kernel
theorem dL_law_224 : decode cL_law 224 = .ok (.invokestatic 207, 3) := by decide +kernel
theorem dL_law_227 : decode cL_law 227 = .ok (.lstore 9, 2) := by decide +kernel
theorem dL_law_229 : decode cL_law 229 = .ok (.aload_n 1, 1) := by decide +kernel
theorem dL_law_230 : decode cL_law 230 = .ok (.invokestatic 209, 3) := by decide +kernel
theorem dL_law_233 : decode cL_law 233 = .ok (.ldc2_w 212, 3) := by decide +kernel
theorem dL_law_236 : decode cL_law 236 = .ok (.lcmp, 1) := by decide +kernel
theorem dL_law_237 : decode cL_law 237 = .ok (.ifCond .ne 67, 3) := by decide +kernel
theorem dL_law_240 : decode cL_law 240 = .ok (.lload 9, 2) := by decide +kernel
theorem dL_law_242 : decode cL_law 242 = .ok (.lconst 0, 1) := by decide +kernel
theorem dL_law_243 : decode cL_law 243 = .ok (.lcmp, 1) := by decide +kernel
theorem dL_law_244 : decode cL_law 244 = .ok (.ifCond .ne 6, 3) := by decide +kernel
theorem dL_law_247 : decode cL_law 247 = .ok (.goto 57, 3) := by decide +kernel
theorem dL_law_250 : decode cL_law 250 = .ok (.aload_n 1, 1) := by decide +kernel
theorem dL_law_251 : decode cL_law 251 = .ok (.iconst 0, 1) := by decide +kernel
theorem dL_law_252 : decode cL_law 252 = .ok (.iconst 1, 1) := by decide +kernel
theorem dL_law_253 : decode cL_law 253 = .ok (.invokestatic 207, 3) := by decide +kernel
theorem dL_law_256 : decode cL_law 256 = .ok (.lstore 11, 2) := by decide +kernel
theorem dL_law_258 : decode cL_law 258 = .ok (.aload_n 1, 1) := by decide +kernel
theorem dL_law_259 : decode cL_law 259 = .ok (.invokestatic 209, 3) := by decide +kernel
theorem dL_law_262 : decode cL_law 262 = .ok (.ldc2_w 212, 3) := by decide +kernel
theorem dL_law_265 : decode cL_law 265 = .ok (.lcmp, 1) := by decide +kernel
theorem dL_law_266 : decode cL_law 266 = .ok (.ifCond .ne 6, 3) := by decide +kernel
theorem dL_law_269 : decode cL_law 269 = .ok (.goto 35, 3) := by decide +kernel
theorem dL_law_272 : decode cL_law 272 = .ok (.iload_n 3, 1) := by decide +kernel
theorem dL_law_273 : decode cL_law 273 = .ok (.ifCond .ne 29, 3) := by decide +kernel
theorem dL_law_276 : decode cL_law 276 = .ok (.lload 11, 2) := by decide +kernel
theorem dL_law_278 : decode cL_law 278 = .ok (.lload 9, 2) := by decide +kernel
theorem dL_law_280 : decode cL_law 280 = .ok (.lcmp, 1) := by decide +kernel
theorem dL_law_281 : decode cL_law 281 = .ok (.ifCond .ge 21, 3) := by decide +kernel
theorem dL_law_284 : decode cL_law 284 = .ok (.lload 9, 2) := by decide +kernel
theorem dL_law_286 : decode cL_law 286 = .ok (.lconst 1, 1) := by decide +kernel
theorem dL_law_287 : decode cL_law 287 = .ok (.lcmp, 1) := by decide +kernel
theorem dL_law_288 : decode cL_law 288 = .ok (.ifCond .ne 16, 3) := by decide +kernel
theorem dL_law_291 : decode cL_law 291 = .ok (.iload 8, 2) := by decide +kernel
theorem dL_law_293 : decode cL_law 293 = .ok (.i2l, 1) := by decide +kernel
theorem dL_law_294 : decode cL_law 294 = .ok (.lconst 1, 1) := by decide +kernel
theorem dL_law_295 : decode cL_law 295 = .ok (.ladd, 1) := by decide +kernel
theorem dL_law_296 : decode cL_law 296 = .ok (.lload 4, 2) := by decide +kernel
theorem dL_law_298 : decode cL_law 298 = .ok (.lcmp, 1) := by decide +kernel
theorem dL_law_299 : decode cL_law 299 = .ok (.ifCond .ge 5, 3) := by decide +kernel
theorem dL_law_302 : decode cL_law 302 = .ok (.iconst 0, 1) := by decide +kernel
theorem dL_law_303 : decode cL_law 303 = .ok (.ireturn, 1) := by decide +kernel
theorem dL_law_304 : decode cL_law 304 = .ok (.iinc 6 1, 3) := by decide +kernel
theorem dL_law_307 : decode cL_law 307 = .ok (.goto (-118), 3) := by decide +kernel
theorem dL_law_310 : decode cL_law 310 = .ok (.aload_n 1, 1) := by decide +kernel
theorem dL_law_311 : decode cL_law 311 = .ok (.invokestatic 218, 3) := by decide +kernel
theorem dL_law_314 : decode cL_law 314 = .ok (.lconst 1, 1) := by decide +kernel
theorem dL_law_315 : decode cL_law 315 = .ok (.lcmp, 1) := by decide +kernel
theorem dL_law_316 : decode cL_law 316 = .ok (.ifCond .ne 7, 3) := by decide +kernel
theorem dL_law_319 : decode cL_law 319 = .ok (.iconst 1, 1) := by decide +kernel
theorem dL_law_320 : decode cL_law 320 = .ok (.goto 4, 3) := by decide +kernel
theorem dL_law_323 : decode cL_law 323 = .ok (.iconst 0, 1) := by decide +kernel
theorem dL_law_324 : decode cL_law 324 = .ok (.ireturn, 1) := by decide +kernel
theorem dJ0_charAt_5068e_0 : decode cJ0_charAt_5068e 0 = .ok (.aload_n 0, 1) := by decide +kernel
theorem dJ0_charAt_5068e_1 : decode cJ0_charAt_5068e 1 = .ok (.invokevirtual 492, 3) := by decide +kernel
theorem dJ0_charAt_5068e_4 : decode cJ0_charAt_5068e 4 = .ok (.ifCond .eq 12, 3) := by decide +kernel
theorem dJ0_charAt_5068e_7 : decode cJ0_charAt_5068e 7 = .ok (.aload_n 0, 1) := by decide +kernel
theorem dJ0_charAt_5068e_8 : decode cJ0_charAt_5068e 8 = .ok (.getfield 9, 3) := by decide +kernel
theorem dJ0_charAt_5068e_11 : decode cJ0_charAt_5068e 11 = .ok (.iload_n 1, 1) := by decide +kernel
theorem dJ0_charAt_5068e_12 : decode cJ0_charAt_5068e 12 = .ok (.invokestatic 495, 3) := by decide +kernel
theorem dJ0_charAt_5068e_15 : decode cJ0_charAt_5068e 15 = .ok (.ireturn, 1) := by decide +kernel
theorem dJ0_charAt_5068e_16 : decode cJ0_charAt_5068e 16 = .ok (.aload_n 0, 1) := by decide +kernel
theorem dJ0_charAt_5068e_17 : decode cJ0_charAt_5068e 17 = .ok (.getfield 9, 3) := by decide +kernel
theorem dJ0_charAt_5068e_20 : decode cJ0_charAt_5068e 20 = .ok (.iload_n 1, 1) := by decide +kernel
theorem dJ0_charAt_5068e_21 : decode cJ0_charAt_5068e 21 = .ok (.invokestatic 498, 3) := by decide +kernel
theorem dJ0_charAt_5068e_24 : decode cJ0_charAt_5068e 24 = .ok (.ireturn, 1) := by decide +kernel
theorem dJ0_isLatin1_aae02_0 : decode cJ0_isLatin1_aae02 0 = .ok (.getstatic 38, 3) := by decide +kernel
theorem dJ0_isLatin1_aae02_3 : decode cJ0_isLatin1_aae02 3 = .ok (.ifCond .eq 14, 3) := by decide +kernel
theorem dJ0_isLatin1_aae02_6 : decode cJ0_isLatin1_aae02 6 = .ok (.aload_n 0, 1) := by decide +kernel
theorem dJ0_isLatin1_aae02_7 : decode cJ0_isLatin1_aae02 7 = .ok (.getfield 15, 3) := by decide +kernel
theorem dJ0_isLatin1_aae02_10 : decode cJ0_isLatin1_aae02 10 = .ok (.ifCond .ne 7, 3) := by decide +kernel
theorem dJ0_isLatin1_aae02_13 : decode cJ0_isLatin1_aae02 13 = .ok (.iconst 1, 1) := by decide +kernel
theorem dJ0_isLatin1_aae02_14 : decode cJ0_isLatin1_aae02 14 = .ok (.goto 4, 3) := by decide +kernel
theorem dJ0_isLatin1_aae02_17 : decode cJ0_isLatin1_aae02 17 = .ok (.iconst 0, 1) := by decide +kernel
theorem dJ0_isLatin1_aae02_18 : decode cJ0_isLatin1_aae02 18 = .ok (.ireturn, 1) := by decide +kernel
theorem dJ0_checkIndex_df160_0 : decode cJ0_checkIndex_df160 0 = .ok (.iload_n 0, 1) := by decide +kernel
theorem dJ0_checkIndex_df160_1 : decode cJ0_checkIndex_df160 1 = .ok (.iload_n 1, 1) := by decide +kernel
theorem dJ0_checkIndex_df160_2 : decode cJ0_checkIndex_df160 2 = .ok (.getstatic 1053, 3) := by decide +kernel
theorem dJ0_checkIndex_df160_5 : decode cJ0_checkIndex_df160 5 = .ok (.invokestatic 1059, 3) := by decide +kernel
theorem dJ0_checkIndex_df160_8 : decode cJ0_checkIndex_df160 8 = .ok (.pop, 1) := by decide +kernel
theorem dJ0_checkIndex_df160_9 : decode cJ0_checkIndex_df160 9 = .ok (.return_, 1) := by decide +kernel
end
section
/-! ===== THE POOL: one place for each cell of the system, (tag, number); its contents are ints by tag, number and slot ===== -/
abbrev qM : Type := Nat → Nat → Nat → Int32
def q_cnt (k : Nat) : Nat := if k < 27 then 4 else if k = 28 then 6 else if k < 33 then 5 else if k < 35 then 2 else if k < 40 then 1 else 0
def q_pool : List (Nat × Nat) := (List.range 40).flatMap fun k => (List.range (q_cnt k)).map fun i => (k, i)
abbrev q_cl : List vw_C := [(RX0, TX0, 6), (RX2, TX2, 9), (RX3, TX3, 14), (RX4, TX4, 5), (RX5, TX5, 6), (RX6, TX6, 3), (RX7, TX7, 4), (RX8, TX8, 4), (RX9, TX9, 9)]
def q_rf (ad : Nat → Nat → Nat) (x : Int32) : Value := if x < 0 then .null else .ref (ad 0 x.toNatClampNeg)
/-- the length of an array's row, by its tag -/
def q_len (k : Nat) : Nat := if k < 9 then 5 else if k < 17 then 30 else if k = 18 then 6 else if k = 19 then 36 else if k = 20 then 36 else if k < 23 then 6 else if k < 26 then 36 else if k = 26 then 9 else if k < 35 then 8 else if k < 40 then 4 else 0
/-- which of the array classes: 0 int, 1 char, 2 boolean -/
def q_ac (k : Nat) : Nat := if k = 2 then 1 else if k < 6 then 2 else if k = 6 then 1 else if k < 9 then 0 else if k = 10 then 1 else if k = 11 then 1 else if k = 14 then 1 else if k = 15 then 1 else 0
def q_enc (ad : Nat → Nat → Nat) (cy : Nat → ClassId) (f : Nat → Int32) (k i : Nat) : va_E :=
  if k = 0 then .inr (4, [.ref (ad 1 i), .ref (ad 17 i), .int (f 2), .int (f 3), .int (f 4), .int (f 5)])
  else if k = 1 then .inr (1, [.ref (ad 2 i), .ref (ad 3 i), .ref (ad 4 i), .ref (ad 5 i), .ref (ad 6 i), .ref (ad 7 i), .ref (ad 8 i), .ref (ad 9 i), .ref (ad 13 i)])
  else if k = 9 then .inr (5, [.ref (ad 10 i), .ref (ad 11 i), .ref (ad 12 i)])
  else if k = 13 then .inr (5, [.ref (ad 14 i), .ref (ad 15 i), .ref (ad 16 i)])
  else if k = 17 then .inr (2, [.int (f 0), .int (f 1), .ref (ad 18 i), .ref (ad 19 i), .ref (ad 20 i), .ref (ad 21 i), .ref (ad 22 i), .ref (ad 23 i), .ref (ad 24 i), .ref (ad 25 i), .int (f 10), .int (f 11), .int (f 12), .ref (ad 26 i)])
  else if k = 27 then .inr (0, [.ref (ad 28 i), .int (f 1), .ref (ad 29 i), .ref (ad 30 i), .ref (ad 31 i), .ref (ad 32 i)])
  else if k = 28 then .inr (6, [.int (f 0), .int (f 1), .int (f 2), .int (f 3)])
  else if k = 33 then .inr (7, [.int (f 0), .int (f 1), .int (f 2), .ref (ad 34 i)])
  else if k = 35 then .inr (3, [.ref (ad 27 4), .ref (ad 28 5), q_rf ad (f 2), q_rf ad (f 3), .int (f 4)])
  else if k = 36 then .inr (8, [.ref (ad 37 0), .ref (ad 38 0), .ref (ad 41 0), .ref (ad 40 0), .ref (ad 33 0), .ref (ad 33 1), .ref (ad 35 0), .ref (ad 39 0), .int (f 8)])
  else if k = 37 then .inl (cy 3, 4, .inr (.inr (.inr (.inr (fun j => some (ad 0 j))))))
  else if k = 38 then .inl (cy 4, 4, .inr (.inr (.inr (.inr (fun j => some (ad 27 j))))))
  else .inl (cy (q_ac k), q_len k, .inl f)
def q_tys (cy : Nat → ClassId) : List (ClassId × FieldType) := [(cy 0, .int), (cy 1, .char), (cy 2, .boolean), (cy 3, .object RX5), (cy 4, .object RX0)]
def q_W (ad : Nat → Nat → Nat) (cy : Nat → ClassId) (S : qM) : va_W := q_pool.map fun x => (ad x.1 x.2, q_enc ad cy (S x.1 x.2) x.1 x.2)
def q_up (S : qM) (k i : Nat) (f : Nat → Int32) : qM := fun k' i' => if k' = k ∧ i' = i then f else S k' i'
def q_D (ad : Nat → Nat → Nat) : Prop := ∀ x ∈ q_pool, ∀ y ∈ q_pool, ad x.1 x.2 = ad y.1 y.2 → x = y
def q_A (ad : Nat → Nat → Nat) (sz : Nat) : Nat → Prop := fun q => (∃ x ∈ q_pool, q = ad x.1 x.2) ∨ sz ≤ q
theorem q_pool_nd : va_nd (q_pool.map fun x => x.1 * 10 + x.2) = true := by decide +kernel
theorem q_pool_inj {i j : Nat} {x : Nat × Nat} (hi : q_pool[i]? = some x) (hj : q_pool[j]? = some x) : i = j :=
  va_nd_inj _ q_pool_nd i j (x.1 * 10 + x.2) (by simp [hi]) (by simp [hj])
theorem q_cnt_le {k i : Nat} (h : i < q_cnt k) : k < 40 := by
  unfold q_cnt at h
  repeat' split at h
  all_goals omega
theorem q_mem {k i : Nat} (h : i < q_cnt k) : (k, i) ∈ q_pool := by
  refine List.mem_flatMap.mpr ⟨k, List.mem_range.mpr (q_cnt_le h), List.mem_map.mpr ⟨i, List.mem_range.mpr h, rfl⟩⟩
theorem q_get {ad : Nat → Nat → Nat} {cy : Nat → ClassId} {S : qM} {k i : Nat} (h : i < q_cnt k) : ∃ n : Nat, q_pool[n]? = some (k, i) ∧ (q_W ad cy S)[n]? = some (ad k i, q_enc ad cy (S k i) k i) := by
  obtain ⟨n, hn⟩ := List.getElem?_of_mem (q_mem h)
  exact ⟨n, hn, by simp [q_W, hn]⟩
theorem q_set {ad : Nat → Nat → Nat} {cy : Nat → ClassId} {S : qM} {k i n : Nat} {f : Nat → Int32} (hn : q_pool[n]? = some (k, i)) : (q_W ad cy S).set n (ad k i, q_enc ad cy f k i) = q_W ad cy (q_up S k i f) := by
  apply List.ext_getElem?
  intro j
  rw [List.getElem?_set]
  by_cases hj : n = j
  · subst hj
    obtain ⟨hlt, -⟩ := List.getElem?_eq_some_iff.mp hn
    have h2 : n < (q_W ad cy S).length := by simpa [q_W] using hlt
    rw [if_pos rfl, if_pos h2]
    simp [q_W, hn, q_up]
  · rw [if_neg hj]
    simp only [q_W, List.getElem?_map]
    cases hx : q_pool[j]? with
    | none => rfl
    | some x =>
      have hne : ¬ (x.1 = k ∧ x.2 = i) := by
        rintro ⟨h1, h2⟩
        have hxe : x = (k, i) := Prod.ext h1 h2
        subst hxe
        exact hj (q_pool_inj hn hx)
      simp [q_up, if_neg hne]
theorem q_WD {ad : Nat → Nat → Nat} {cy : Nat → ClassId} {S : qM} {A : Nat → Prop} (hd : q_D ad) (hA : ∀ x ∈ q_pool, A (ad x.1 x.2)) : va_D A (q_W ad cy S) := by
  refine ⟨fun i j p q hi hj hpq => ?_, fun k q hk => ?_⟩
  · simp only [q_W, List.getElem?_map] at hi hj
    cases hx : q_pool[i]? with
    | none => rw [hx] at hi; cases hi
    | some x =>
      cases hy : q_pool[j]? with
      | none => rw [hy] at hj; cases hj
      | some y =>
        rw [hx] at hi; rw [hy] at hj
        cases hi; cases hj
        have := hd x (List.mem_of_getElem? hx) y (List.mem_of_getElem? hy) hpq
        subst this
        exact q_pool_inj hx hy
  · simp only [q_W, List.getElem?_map] at hk
    cases hx : q_pool[k]? with
    | none => rw [hx] at hk; cases hk
    | some x => rw [hx] at hk; cases hk; exact hA x (List.mem_of_getElem? hx)
/-- reading behind a write -/
theorem q_up_same {S : qM} {k i : Nat} {f : Nat → Int32} : q_up S k i f k i = f := by simp [q_up]
theorem q_up_k {S : qM} {k i k' i' : Nat} {f : Nat → Int32} (h : k' ≠ k) : q_up S k i f k' i' = S k' i' := by simp [q_up, h]
theorem q_up_i {S : qM} {k i k' i' : Nat} {f : Nat → Int32} (h : i' ≠ i) : q_up S k i f k' i' = S k' i' := by simp [q_up, h]
/-! ===== LOCALS: a row in the order of their places ===== -/
def q_ins : List (Nat × Value) → Nat → Value → List (Nat × Value)
  | [], i, v => [(i, v)]
  | (j, w) :: t, i, v => if i < j then (i, v) :: (j, w) :: t else (j, w) :: q_ins t i v
def q_ls (ls : List (Nat × Value)) (i : Nat) (v : Value) : List (Nat × Value) := q_ins (ls.filter (fun q => !(q.1 == i) && !(q.1 + 1 == i && q.2.category == 2))) i v
def q_lsl (ls : List (Nat × Value)) (i : Nat) (v : Value) : List (Nat × Value) := q_ins (ls.filter (fun q => !(q.1 == i) && (!(q.1 == i + 1) && !(q.1 + 1 == i && q.2.category == 2)))) i v
theorem q_ins_mem {i : Nat} {v : Value} {q : Nat × Value} : ∀ {ls : List (Nat × Value)}, q ∈ q_ins ls i v → q ∈ (i, v) :: ls := by
  intro ls
  induction ls with
  | nil => intro h; exact h
  | cons x t ih =>
    obtain ⟨j, w⟩ := x
    intro h
    unfold q_ins at h
    split at h
    · exact h
    · rcases List.mem_cons.mp h with h | h
      · exact List.mem_cons_of_mem _ (h ▸ List.mem_cons_self)
      · rcases List.mem_cons.mp (ih h) with h | h
        · exact h ▸ List.mem_cons_self
        · exact List.mem_cons_of_mem _ (List.mem_cons_of_mem _ h)
theorem q_has {la : Array Slot} {nL i : Nat} {v : Value} {l : List (Nat × Value)} (h : lv_has la nL ((i, v) :: l)) : lv_has la nL (q_ins l i v) := ⟨h.1, h.2.1, fun q hq => h.2.2 q (q_ins_mem hq)⟩
theorem q_hasSub {la : Array Slot} {nL : Nat} {l l' : List (Nat × Value)} (h : lv_has la nL l) (hs : ∀ q ∈ l', q ∈ l) : lv_has la nL l' := ⟨h.1, h.2.1, fun q hq => h.2.2 q (hs q hq)⟩
/-! ===== THE WORDS that every method keeps ===== -/
def qw : List Cond := lw_tbl.filter goodWord
def q_isNest : Cond → Bool
  | .methodLinkNest .. => true
  | .fieldLinkNest .. => true
  | _ => false
def q_nest : List Cond := lw_tbl.filter q_isNest
theorem qw_mem {w : Cond} {i : Nat} (h : lw_tbl[i]? = some w) (hg : goodWord w = true) : w ∈ qw := List.mem_filter.mpr ⟨List.mem_of_getElem? h, hg⟩
theorem q_nest_mem {w : Cond} {i : Nat} (h : lw_tbl[i]? = some w) (hg : q_isNest w = true) : w ∈ q_nest := List.mem_filter.mpr ⟨List.mem_of_getElem? h, hg⟩
theorem qw_goodIn {y : MethodName} {cc : ByteArray} {nL : Nat} {ret : Option FieldType} (h : Cond.code y cc nL ret ∈ qw) : GoodIn qw (Cond.code y cc nL ret :: qw) := by
  intro w hw
  have hm : w ∈ qw := (List.mem_cons.mp hw).elim (fun e => e ▸ h) id
  exact ⟨hm, good_of_word (List.mem_filter.mp hm).2⟩
/-! ===== WHAT ALL METHODS SEE of the outside: the script, two static rows, the law's texts, what a throw reads ===== -/
abbrev qO : Type := (Nat × Nat × ((Nat → Int32) × (Nat → Nat) × (Nat → Nat))) × (Nat × Nat)
def q_sidx (j : Nat) : Nat := [128, 141, 146, 150, 156, 183, 185].getD j 0
def q_stxt (j : Nat) : String := ["pppokv", "nnsaf", "nsfFF", "oaf", "ci-", "nsciugpGP", "ABCDEX"].getD j ""
def q_sln : List Nat := [6, 5, 5, 3, 3, 9, 6]
def q_sbyt : List (List Int32) := [[112, 112, 112, 111, 107, 118], [110, 110, 115, 97, 102], [110, 115, 102, 70, 70], [111, 97, 102], [99, 105, 45], [110, 115, 99, 105, 117, 103, 112, 71, 80], [65, 66, 67, 68, 69, 88]]
def q_nsee : String := "java/util/NoSuchElementException"
def q_iae : String := "java/lang/IllegalArgumentException"
def q_ioobe : String := "java/lang/IndexOutOfBoundsException"
def q_uoe : String := "java/lang/UnsupportedOperationException"
def qN (o : qO) (U : State) : Prop := (∀ w ∈ q_nest, va_Nw w U) ∧ (∀ j, j < 7 → vk_R "LinkwitnessLaw" (q_sidx j) (q_stxt j) (o.1.2.2.2.1 j) U) ∧ va_Nc q_nsee q_ioobe U ∧ va_Nc q_nsee q_iae U ∧ va_Nc q_nsee q_uoe U ∧ va_Nc q_iae q_ioobe U
theorem qN.warm {o : qO} {s U : State} (hW : s.WarmedH U.vm) (h : qN o s) : qN o U := by
  obtain ⟨h, hr, n1, n2, n3, n4⟩ := h
  refine ⟨fun w hw => ?_, fun j hj => vk_R.warm hW (hr j hj), va_Nc.moved hW.alike n1, va_Nc.moved hW.alike n2, va_Nc.moved hW.alike n3, va_Nc.moved hW.alike n4⟩
  have h1 := h w hw
  have h2 := (List.mem_filter.mp hw).2
  cases w <;> first | exact va_Nw.warmM hW h1 | exact va_Nw.warmF hW h1 | (exfalso; revert h2; simp [q_isNest])
theorem qN.same {o : qO} {u U : State} (h : u.vm = U.vm) (hN : qN o u) : qN o U := by
  obtain ⟨hN, hr, n1, n2, n3, n4⟩ := hN
  have ha : u.vm.Alike U.vm := by rw [h]; exact Vm.Alike.refl U.vm
  refine ⟨fun w hw => ?_, fun j hj => vk_R.same h.symm (hr j hj), va_Nc.moved ha n1, va_Nc.moved ha n2, va_Nc.moved ha n3, va_Nc.moved ha n4⟩
  have h1 := hN w hw
  have h2 := (List.mem_filter.mp hw).2
  cases w <;> first | exact va_Nw.same rfl h h1 | (exfalso; revert h2; simp [q_isNest])
def q_kinds (j : Nat) : Int32 := [110, 115, 99, 105, 117, 103, 112, 71, 80].getD j 0
def q_pairs (j : Nat) : Int32 := [0, 1, 3, 5, 9, 17, 2, 6, 10, 18, 4, 12, 20, 8, 24, 16].getD j 0
def qE (o : qO) (A : Nat → Prop) (U : State) (H : Heap) : Prop :=
  (vx_Zq Bundle.tN "UNASSIGNED_STACK" Bundle.steD A U H ∧ vx_Zq Bundle.tN "SUPPRESSED_SENTINEL" Bundle.listD A U H) ∧
  (va_Z "java/lang/String" "COMPACT_STRINGS" "Z" (.int 1) A U H ∧ va_Zq "jdk/internal/util/Preconditions" "SIOOBE_FORMATTER" "Ljava/util/function/BiFunction;" A U H) ∧
  vk_S 7 q_sln q_sbyt o.1.2.2.2.1 o.1.2.2.2.2 A U H
theorem qE.moved {o : qO} {A : Nat → Prop} {u U : State} {H : Heap} (hvm : u.vm.Alike U.vm) (h : qE o A u H) : qE o A U H :=
  ⟨⟨vx_Zq.moved hvm h.1.1, vx_Zq.moved hvm h.1.2⟩, ⟨va_Z.moved hvm h.2.1.1, va_Zq.moved hvm h.2.1.2⟩, vk_S.moved hvm h.2.2⟩
theorem qE.kept {o : qO} {A : Nat → Prop} {U : State} {H H1 : Heap} (h : qE o A U H) (hq : ∀ a : Nat, a < H.size → ¬ A a → H1[a]? = H[a]?) : qE o A U H1 :=
  ⟨⟨vx_Zq.kept h.1.1 hq, vx_Zq.kept h.1.2 hq⟩, ⟨va_Z.kept h.2.1.1 hq, va_Zq.kept h.2.1.2 hq⟩, vk_S.kept h.2.2 hq⟩
theorem qE.narrow {o : qO} {A B : Nat → Prop} {U : State} {H : Heap} (h : qE o A U H) (hAB : ∀ q, B q → A q) : qE o B U H :=
  ⟨⟨vx_Zq.narrow h.1.1 hAB, vx_Zq.narrow h.1.2 hAB⟩, ⟨va_Z.narrow h.2.1.1 hAB, va_Zq.narrow h.2.1.2 hAB⟩, vk_S.narrow h.2.2 hAB⟩
def qT (o : qO) (A : Nat → Prop) (U : State) (H : Heap) : Prop :=
  (va_X o.1.1 o.1.2.1 o.1.2.2.1 U H ∧ o.1.1 < H.size ∧ ¬ A o.1.1) ∧
  (va_Z RX9 "KINDS" "[C" (.ref o.2.1) A U H ∧ va_T .char o.2.1 9 (fun j => .int (q_kinds j)) A U H) ∧
  (va_Z RX9 "PAIRS" "[I" (.ref o.2.2) A U H ∧ va_T .int o.2.2 16 (fun j => .int (q_pairs j)) A U H) ∧ qE o A U H
theorem qT.moved {o : qO} {A : Nat → Prop} {u U : State} {H : Heap} (hvm : u.vm.Alike U.vm) (h : qT o A u H) : qT o A U H :=
  ⟨⟨va_X.moved hvm h.1.1, h.1.2.1, h.1.2.2⟩, ⟨va_Z.moved hvm h.2.1.1, va_T.moved hvm h.2.1.2⟩, ⟨va_Z.moved hvm h.2.2.1.1, va_T.moved hvm h.2.2.1.2⟩, h.2.2.2.moved hvm⟩
theorem qT.kept {o : qO} {A : Nat → Prop} {U : State} {H H1 : Heap} (h : qT o A U H) (hz : H.size ≤ H1.size) (hq : ∀ a : Nat, a < H.size → ¬ A a → H1[a]? = H[a]?) : qT o A U H1 :=
  ⟨⟨va_X.kept h.1.1 (hq _ h.1.2.1 h.1.2.2), Nat.lt_of_lt_of_le h.1.2.1 hz, h.1.2.2⟩, ⟨va_Z.kept h.2.1.1 hq, va_T.kept h.2.1.2 hq⟩, ⟨va_Z.kept h.2.2.1.1 hq, va_T.kept h.2.2.1.2 hq⟩, h.2.2.2.kept hq⟩
theorem qT.narrow {o : qO} {A B : Nat → Prop} {U : State} {H : Heap} (h : qT o A U H) (hAB : ∀ q, B q → A q) : qT o B U H :=
  ⟨⟨h.1.1, h.1.2.1, fun z => h.1.2.2 (hAB _ z)⟩, ⟨va_Z.narrow h.2.1.1 hAB, va_T.narrow h.2.1.2 hAB⟩, ⟨va_Z.narrow h.2.2.1.1 hAB, va_T.narrow h.2.2.1.2 hAB⟩, h.2.2.2.narrow hAB⟩
/-! ===== THE JUDGEMENT of a frame ===== -/
/-- what stays in all launches' part: the launch, the tables' numbers, the places, the outside -/
abbrev qL : Type := Launch × va_G × (Nat → ClassId) × (Nat → Nat → Nat) × qO
abbrev qG : Type := qL × (Program × Env × State) × (MethodId × Array Value × List Frame × Method × Code) × (State → Prop)
def q_ad (Γ : qG) : Nat → Nat → Nat := Γ.1.2.2.2.1
def q_o (Γ : qG) : qO := Γ.1.2.2.2.2
def qQc (L : qL) (A : Nat → Prop) (po : Option Value → qM → Prop) : Array Value → State → Outcome → State → Prop := fun _ st oc t =>
  (∃ (v : Option Value) (S : qM), oc = .returned v ∧ po v S ∧ va_P L.2.1 q_cl (q_W L.2.2.2.1 L.2.2.1 S) t.heap) ∧ va_F A st t
def qC (Γ : qG) (cc : ByteArray) (own : String) (nL : Nat) (rt : Option FieldType) (R : Room) (po : Option Value → qM → Prop) : Prop :=
  match Γ with
  | ⟨⟨_, D, cy, ad, o⟩, ⟨p, _, s⟩, ⟨m, args, below, meth, c⟩, Q⟩ =>
    p.tables.exec = Jvm.exec ∧ c.code = cc ∧ c.maxLocals = nL ∧ s.vm.findClass own = some m.cls ∧ (∀ w ∈ qw, w.before args s = true) ∧ meth.sig.returnType = rt ∧ meth.locks = false ∧
    va_K D q_cl (q_tys cy) s ∧ q_D ad ∧ qN o s ∧ qT o (q_A ad s.heap.size) s s.heap ∧ (∀ t, MQ below (qQc Γ.1 (q_A ad s.heap.size) po) args s R.cells R.slots (q_A ad s.heap.size) t → Q t)
def qV (Γ : qG) (R : Room) (nL pc : Nat) (ls : List (Nat × Value)) (st : List Value) (S : qM) (k : Nat × Nat) : Prop :=
  match Γ with
  | ⟨⟨l, D, cy, ad, _⟩, ⟨p, e, s⟩, ⟨m, args, below, meth, c⟩, Q⟩ =>
    ∀ (H : Heap) (locs : List Loc) (la : Array Slot), va_P D q_cl (q_W ad cy S) H → va_S (q_A ad s.heap.size) s.heap H locs → lv_has la nL ls → W p l e R s m args below meth c H locs k.1 k.2 Q (F0 m pc la st)
theorem q_AA {ad : Nat → Nat → Nat} {sz : Nat} : ∀ x ∈ q_pool, q_A ad sz (ad x.1 x.2) := fun x h => Or.inl ⟨x, h, rfl⟩
/-! a method's contract: its arguments by a parameter x -/
def qCT (L : qL) (y : MethodName) (cc : ByteArray) (nL : Nat) (ret : Option FieldType) (rm : Room) {α : Type} (ar : (Nat → Nat → Nat) → qO → α → List Value) (pre : α → qM → Prop) (post : α → qM → Option Value → qM → Prop) : Prop :=
  ∀ (x : α) (S : qM) (sz : Nat), pre x S → Met L.1 y (Cond.code y cc nL ret :: qw) rm
    (va_Pc (ar L.2.2.2.1 L.2.2.2.2 x) (fun U => U.heap.size = sz ∧ va_P L.2.1 q_cl (q_W L.2.2.2.1 L.2.2.1 S) U.heap ∧ va_K L.2.1 q_cl (q_tys L.2.2.1) U ∧ qN L.2.2.2.2 U ∧ qT L.2.2.2.2 (q_A L.2.2.2.1 sz) U U.heap))
    (qQc L (q_A L.2.2.2.1 sz) (post x S)) rm.cells rm.slots (q_A L.2.2.2.1 sz)
/-- answers that are ints, nothing, longs -/
abbrev qPi {α : Type} (post : α → qM → Int32 → qM → Prop) : α → qM → Option Value → qM → Prop := fun x S v S' => ∃ r : Int32, v = some (.int r) ∧ post x S r S'
abbrev qPl {α : Type} (post : α → qM → Int64 → qM → Prop) : α → qM → Option Value → qM → Prop := fun x S v S' => ∃ r : Int64, v = some (.long r) ∧ post x S r S'
abbrev qPv {α : Type} (post : α → qM → qM → Prop) : α → qM → Option Value → qM → Prop := fun x S v S' => v = none ∧ post x S S'
theorem q_met {L : qL} {y : MethodName} {cc : ByteArray} {nL : Nat} {ret : Option FieldType} {rm : Room} {α : Type} {ar : (Nat → Nat → Nat) → qO → α → List Value} {pre : α → qM → Prop} {post : α → qM → Option Value → qM → Prop}
    (hD : q_D L.2.2.2.1) (hy : plainName y.cls = true) (hlen : ∀ x, (lg_sl (ar L.2.2.2.1 L.2.2.2.2 x)).length ≤ nL)
    (body : ∀ (Γ : qG) (x : α) (S : qM), Γ.1 = L → pre x S → qC Γ cc y.cls nL ret rm (post x S) → qV Γ rm nL 0 (lv_args 0 (ar (q_ad Γ) (q_o Γ) x)) [] S (0, 0)) : qCT L y cc nL ret rm ar pre post := by
  obtain ⟨l, D, cy, ad, o⟩ := L
  intro x S sz hpre
  refine Met.ofW (cc := cc) (maxL := nL) (ret := ret) hy rfl ?_
  intro p e s m args below meth c s₁ B hml hv
  obtain ⟨rfl, hsz, hP, hK, hN, hT⟩ := hv
  dsimp only at hsz hP hK hN hT hD
  subst hsz
  have hts := atoms_spec (ws := Cond.code y cc nL ret :: qw) B.pre
  have hown : s.vm.findClass y.cls = some m.cls := findClass_of_methodNamed B.named
  have hb := body ⟨⟨l, D, cy, ad, o⟩, ⟨p, e, s⟩, ⟨m, (ar ad o x).toArray, below, meth, c⟩, MQ below (qQc ⟨l, D, cy, ad, o⟩ (q_A ad s.heap.size) (post x S)) (ar ad o x).toArray s rm.cells rm.slots (q_A ad s.heap.size)⟩ x S rfl hpre
    ⟨B.exec, B.bytes, hml, hown, fun w hw => hts w (List.mem_cons_of_mem _ hw), B.returns, B.notSynchronized, hK, hD, hN, hT, fun _ h => h⟩
  have hl := lv_entry (ar ad o x) (n := nL) (hlen x)
  rw [lg_entry_eq]
  exact hb s.heap [] _ hP va_S.rf hl
end
section
theorem q_Wimp {p : Program} {l : Launch} {e : Env} {R : Room} {s : State} {m : MethodId} {args : Array Value} {below : List Frame} {meth : Method} {c : Code} {H : Heap} {locs : List Loc} {cells slots : Nat} {Q Q' : State → Prop} {g : JFrame} (h : ∀ t, Q t → Q' t) (k : W p l e R s m args below meth c H locs cells slots Q g) : W p l e R s m args below meth c H locs cells slots Q' g := by
  intro T hT X
  obtain ⟨t, a1, b1⟩ := k T hT X
  exact ⟨t, a1, h t b1⟩
section QRULES
variable {Γ : qG} {cc : ByteArray} {own : String} {nL : Nat} {rt : Option FieldType} {R : Room} {po : Option Value → qM → Prop} {pc n : Nat} {ls ls' : List (Nat × Value)} {st : List Value} {S : qM} {k : Nat × Nat}
theorem q_iconst (hC : qC Γ cc own nL rt R po) {i : Int} {v : Int32} (hd : decode cc pc = .ok (.iconst i, 1)) (hv : Int32.ofInt i = v) (hn : pc + 1 = n) (kk : qV Γ R nL n ls (.int v :: st) S k) : qV Γ R nL pc ls st S k := by
  obtain ⟨⟨l, D, cy, ad, o⟩, ⟨p, e, s⟩, ⟨m, args, below, meth, c⟩, Q⟩ := Γ
  subst hn
  exact fun H locs la hP hS hl => lv_iconst hC.1 hC.2.1 hd hv (kk H locs la hP hS hl)
theorem q_bipush (hC : qC Γ cc own nL rt R po) {i : Int} {v : Int32} (hd : decode cc pc = .ok (.bipush i, 2)) (hv : (Int8.ofInt i).toInt32 = v) (hn : pc + 2 = n) (kk : qV Γ R nL n ls (.int v :: st) S k) : qV Γ R nL pc ls st S k := by
  obtain ⟨⟨l, D, cy, ad, o⟩, ⟨p, e, s⟩, ⟨m, args, below, meth, c⟩, Q⟩ := Γ
  subst hn
  exact fun H locs la hP hS hl => lv_bipush hC.1 hC.2.1 hd hv (kk H locs la hP hS hl)
theorem q_sipush (hC : qC Γ cc own nL rt R po) {i : Int} {v : Int32} (hd : decode cc pc = .ok (.sipush i, 3)) (hv : (Int16.ofInt i).toInt32 = v) (hn : pc + 3 = n) (kk : qV Γ R nL n ls (.int v :: st) S k) : qV Γ R nL pc ls st S k := by
  obtain ⟨⟨l, D, cy, ad, o⟩, ⟨p, e, s⟩, ⟨m, args, below, meth, c⟩, Q⟩ := Γ
  subst hn
  exact fun H locs la hP hS hl => lv_sipush hC.1 hC.2.1 hd hv (kk H locs la hP hS hl)
theorem q_ldc (hC : qC Γ cc own nL rt R po) {i : Nat} {v : Int32} (hd : decode cc pc = .ok (.ldc i, 2)) (hw : Cond.constant own i v ∈ qw) (hn : pc + 2 = n) (kk : qV Γ R nL n ls (.int v :: st) S k) : qV Γ R nL pc ls st S k := by
  obtain ⟨⟨l, D, cy, ad, o⟩, ⟨p, e, s⟩, ⟨m, args, below, meth, c⟩, Q⟩ := Γ
  subst hn
  exact fun H locs la hP hS hl => lv_ldc hC.1 hC.2.1 hC.2.2.2.1 (hC.2.2.2.2.1 _ hw) hd (kk H locs la hP hS hl)
/-- a local that is read: by its place in the row -/
theorem q_iload_n (hC : qC Γ cc own nL rt R po) {j : Fin 4} {x : Int32} (q : Nat) (hd : decode cc pc = .ok (.iload_n j, 1)) (hl : ls[q]? = some ((j : Nat), .int x)) (hn : pc + 1 = n) (kk : qV Γ R nL n ls (.int x :: st) S k) : qV Γ R nL pc ls st S k := by
  obtain ⟨⟨l, D, cy, ad, o⟩, ⟨p, e, s⟩, ⟨m, args, below, meth, c⟩, Q⟩ := Γ
  subst hn
  exact fun H locs la hP hS hla => lv_iload_n hC.1 hC.2.1 hd rfl (lv_at hla q hl) (kk H locs la hP hS hla)
theorem q_iload (hC : qC Γ cc own nL rt R po) {j : Nat} {x : Int32} (q : Nat) (hd : decode cc pc = .ok (.iload j, 2)) (hl : ls[q]? = some (j, .int x)) (hn : pc + 2 = n) (kk : qV Γ R nL n ls (.int x :: st) S k) : qV Γ R nL pc ls st S k := by
  obtain ⟨⟨l, D, cy, ad, o⟩, ⟨p, e, s⟩, ⟨m, args, below, meth, c⟩, Q⟩ := Γ
  subst hn
  exact fun H locs la hP hS hla => lv_iload hC.1 hC.2.1 hd (lv_at hla q hl) (kk H locs la hP hS hla)
theorem q_lload (hC : qC Γ cc own nL rt R po) {j : Nat} {x : Int64} (q : Nat) (hd : decode cc pc = .ok (.lload j, 2)) (hl : ls[q]? = some (j, .long x)) (hn : pc + 2 = n) (kk : qV Γ R nL n ls (.long x :: st) S k) : qV Γ R nL pc ls st S k := by
  obtain ⟨⟨l, D, cy, ad, o⟩, ⟨p, e, s⟩, ⟨m, args, below, meth, c⟩, Q⟩ := Γ
  subst hn
  exact fun H locs la hP hS hla => lv_lload hC.1 hC.2.1 hd (lv_at hla q hl) (kk H locs la hP hS hla)
theorem q_aload_n (hC : qC Γ cc own nL rt R po) {j : Fin 4} {x : Nat} (q : Nat) (hd : decode cc pc = .ok (.aload_n j, 1)) (hl : ls[q]? = some ((j : Nat), .ref x)) (hn : pc + 1 = n) (kk : qV Γ R nL n ls (.ref x :: st) S k) : qV Γ R nL pc ls st S k := by
  obtain ⟨⟨l, D, cy, ad, o⟩, ⟨p, e, s⟩, ⟨m, args, below, meth, c⟩, Q⟩ := Γ
  subst hn
  exact fun H locs la hP hS hla => lv_aload_n hC.1 hC.2.1 hd rfl (lv_at hla q hl) (kk H locs la hP hS hla)
theorem q_aload (hC : qC Γ cc own nL rt R po) {j : Nat} {x : Nat} (q : Nat) (hd : decode cc pc = .ok (.aload j, 2)) (hl : ls[q]? = some (j, .ref x)) (hn : pc + 2 = n) (kk : qV Γ R nL n ls (.ref x :: st) S k) : qV Γ R nL pc ls st S k := by
  obtain ⟨⟨l, D, cy, ad, o⟩, ⟨p, e, s⟩, ⟨m, args, below, meth, c⟩, Q⟩ := Γ
  subst hn
  exact fun H locs la hP hS hla => lv_aload hC.1 hC.2.1 hd (lv_at hla q hl) (kk H locs la hP hS hla)
theorem q_istore_n (hC : qC Γ cc own nL rt R po) {j : Fin 4} {x : Int32} (hd : decode cc pc = .ok (.istore_n j, 1)) (hj : (j : Nat) < nL) (hl : q_ls ls j (.int x) = ls') (hn : pc + 1 = n) (kk : qV Γ R nL n ls' st S k) : qV Γ R nL pc ls (.int x :: st) S k := by
  obtain ⟨⟨l, D, cy, ad, o⟩, ⟨p, e, s⟩, ⟨m, args, below, meth, c⟩, Q⟩ := Γ
  subst hn; subst hl
  exact fun H locs la hP hS hla => lv_istore_n hC.1 hC.2.1 hd rfl hla hj rfl (fun la' hla' => kk H locs la' hP hS (q_has hla'))
theorem q_istore (hC : qC Γ cc own nL rt R po) {j : Nat} {x : Int32} (hd : decode cc pc = .ok (.istore j, 2)) (hj : j < nL) (hl : q_ls ls j (.int x) = ls') (hn : pc + 2 = n) (kk : qV Γ R nL n ls' st S k) : qV Γ R nL pc ls (.int x :: st) S k := by
  obtain ⟨⟨l, D, cy, ad, o⟩, ⟨p, e, s⟩, ⟨m, args, below, meth, c⟩, Q⟩ := Γ
  subst hn; subst hl
  exact fun H locs la hP hS hla => lv_istore hC.1 hC.2.1 hd hla hj rfl (fun la' hla' => kk H locs la' hP hS (q_has hla'))
theorem q_lstore (hC : qC Γ cc own nL rt R po) {j : Nat} {x : Int64} (hd : decode cc pc = .ok (.lstore j, 2)) (hj : j + 1 < nL) (hl : q_lsl ls j (.long x) = ls') (hn : pc + 2 = n) (kk : qV Γ R nL n ls' st S k) : qV Γ R nL pc ls (.long x :: st) S k := by
  obtain ⟨⟨l, D, cy, ad, o⟩, ⟨p, e, s⟩, ⟨m, args, below, meth, c⟩, Q⟩ := Γ
  subst hn; subst hl
  exact fun H locs la hP hS hla => lv_lstore hC.1 hC.2.1 hd hla hj rfl (fun la' hla' => kk H locs la' hP hS (q_has hla'))
theorem q_astore_n (hC : qC Γ cc own nL rt R po) {j : Fin 4} {x : Nat} (hd : decode cc pc = .ok (.astore_n j, 1)) (hj : (j : Nat) < nL) (hl : q_ls ls j (.ref x) = ls') (hn : pc + 1 = n) (kk : qV Γ R nL n ls' st S k) : qV Γ R nL pc ls (.ref x :: st) S k := by
  obtain ⟨⟨l, D, cy, ad, o⟩, ⟨p, e, s⟩, ⟨m, args, below, meth, c⟩, Q⟩ := Γ
  subst hn; subst hl
  exact fun H locs la hP hS hla => lv_astore_n hC.1 hC.2.1 hd rfl hla hj rfl (fun la' hla' => kk H locs la' hP hS (q_has hla'))
theorem q_astore (hC : qC Γ cc own nL rt R po) {j : Nat} {x : Nat} (hd : decode cc pc = .ok (.astore j, 2)) (hj : j < nL) (hl : q_ls ls j (.ref x) = ls') (hn : pc + 2 = n) (kk : qV Γ R nL n ls' st S k) : qV Γ R nL pc ls (.ref x :: st) S k := by
  obtain ⟨⟨l, D, cy, ad, o⟩, ⟨p, e, s⟩, ⟨m, args, below, meth, c⟩, Q⟩ := Γ
  subst hn; subst hl
  exact fun H locs la hP hS hla => lv_astore hC.1 hC.2.1 hd hla hj rfl (fun la' hla' => kk H locs la' hP hS (q_has hla'))
theorem q_iinc (hC : qC Γ cc own nL rt R po) {j : Nat} {d : Int} {x v : Int32} (q : Nat) (hd : decode cc pc = .ok (.iinc j d, 3)) (hl0 : ls[q]? = some (j, .int x)) (hv : x + Int32.ofInt d = v) (hj : j < nL) (hl : q_ls ls j (.int v) = ls') (hn : pc + 3 = n) (kk : qV Γ R nL n ls' st S k) : qV Γ R nL pc ls st S k := by
  obtain ⟨⟨l, D, cy, ad, o⟩, ⟨p, e, s⟩, ⟨m, args, below, meth, c⟩, Q⟩ := Γ
  subst hn; subst hl
  exact fun H locs la hP hS hla => lv_iinc hC.1 hC.2.1 hd hla hl0 hv hj rfl (fun la' hla' => kk H locs la' hP hS (q_has hla'))
theorem q_pop (hC : qC Γ cc own nL rt R po) {va : Value} (hd : decode cc pc = .ok (.pop, 1)) (hva : va.category = 1) (hn : pc + 1 = n) (kk : qV Γ R nL n ls st S k) : qV Γ R nL pc ls (va :: st) S k := by
  obtain ⟨⟨l, D, cy, ad, o⟩, ⟨p, e, s⟩, ⟨m, args, below, meth, c⟩, Q⟩ := Γ
  subst hn
  exact fun H locs la hP hS hl => lv_pop hC.1 hC.2.1 hd hva (kk H locs la hP hS hl)
theorem q_pop2 (hC : qC Γ cc own nL rt R po) {va : Value} (hd : decode cc pc = .ok (.pop2, 1)) (hva : va.category = 2) (hn : pc + 1 = n) (kk : qV Γ R nL n ls st S k) : qV Γ R nL pc ls (va :: st) S k := by
  obtain ⟨⟨l, D, cy, ad, o⟩, ⟨p, e, s⟩, ⟨m, args, below, meth, c⟩, Q⟩ := Γ
  subst hn
  exact fun H locs la hP hS hl => lv_pop2_2 hC.1 hC.2.1 hd hva (kk H locs la hP hS hl)
theorem q_dup (hC : qC Γ cc own nL rt R po) {va : Value} (hd : decode cc pc = .ok (.dup, 1)) (hva : va.category = 1) (hn : pc + 1 = n) (kk : qV Γ R nL n ls (va :: va :: st) S k) : qV Γ R nL pc ls (va :: st) S k := by
  obtain ⟨⟨l, D, cy, ad, o⟩, ⟨p, e, s⟩, ⟨m, args, below, meth, c⟩, Q⟩ := Γ
  subst hn
  exact fun H locs la hP hS hl => lv_dup hC.1 hC.2.1 hd hva (kk H locs la hP hS hl)
theorem q_dup2 (hC : qC Γ cc own nL rt R po) {va vb : Value} (hd : decode cc pc = .ok (.dup2, 1)) (hva : va.category = 1) (hvb : vb.category = 1) (hn : pc + 1 = n) (kk : qV Γ R nL n ls (va :: vb :: va :: vb :: st) S k) : qV Γ R nL pc ls (va :: vb :: st) S k := by
  obtain ⟨⟨l, D, cy, ad, o⟩, ⟨p, e, s⟩, ⟨m, args, below, meth, c⟩, Q⟩ := Γ
  subst hn
  exact fun H locs la hP hS hl => lv_dup2_11 hC.1 hC.2.1 hd hva hvb (kk H locs la hP hS hl)
theorem q_goto (hC : qC Γ cc own nL rt R po) {off : Int} (hd : decode cc pc = .ok (.goto off, 3)) (ht : (pc : Int) + off = (n : Int)) (kk : qV Γ R nL n ls st S k) : qV Γ R nL pc ls st S k := by
  obtain ⟨⟨l, D, cy, ad, o⟩, ⟨p, e, s⟩, ⟨m, args, below, meth, c⟩, Q⟩ := Γ
  exact fun H locs la hP hS hl => lv_goto hC.1 hC.2.1 hd ht (kk H locs la hP hS hl)
theorem q_iadd (hC : qC Γ cc own nL rt R po) {x y : Int32} (hd : decode cc pc = .ok (.iadd, 1)) (hn : pc + 1 = n) (kk : qV Γ R nL n ls (.int (x + y) :: st) S k) : qV Γ R nL pc ls (.int y :: .int x :: st) S k := by
  obtain ⟨⟨l, D, cy, ad, o⟩, ⟨p, e, s⟩, ⟨m, args, below, meth, c⟩, Q⟩ := Γ
  subst hn
  exact fun H locs la hP hS hl => lv_iadd hC.1 hC.2.1 hd (kk H locs la hP hS hl)
theorem q_isub (hC : qC Γ cc own nL rt R po) {x y : Int32} (hd : decode cc pc = .ok (.isub, 1)) (hn : pc + 1 = n) (kk : qV Γ R nL n ls (.int (x - y) :: st) S k) : qV Γ R nL pc ls (.int y :: .int x :: st) S k := by
  obtain ⟨⟨l, D, cy, ad, o⟩, ⟨p, e, s⟩, ⟨m, args, below, meth, c⟩, Q⟩ := Γ
  subst hn
  exact fun H locs la hP hS hl => lv_isub hC.1 hC.2.1 hd (kk H locs la hP hS hl)
theorem q_imul (hC : qC Γ cc own nL rt R po) {x y : Int32} (hd : decode cc pc = .ok (.imul, 1)) (hn : pc + 1 = n) (kk : qV Γ R nL n ls (.int (x * y) :: st) S k) : qV Γ R nL pc ls (.int y :: .int x :: st) S k := by
  obtain ⟨⟨l, D, cy, ad, o⟩, ⟨p, e, s⟩, ⟨m, args, below, meth, c⟩, Q⟩ := Γ
  subst hn
  exact fun H locs la hP hS hl => lv_imul hC.1 hC.2.1 hd (kk H locs la hP hS hl)
theorem q_iand (hC : qC Γ cc own nL rt R po) {x y : Int32} (hd : decode cc pc = .ok (.iand, 1)) (hn : pc + 1 = n) (kk : qV Γ R nL n ls (.int (x &&& y) :: st) S k) : qV Γ R nL pc ls (.int y :: .int x :: st) S k := by
  obtain ⟨⟨l, D, cy, ad, o⟩, ⟨p, e, s⟩, ⟨m, args, below, meth, c⟩, Q⟩ := Γ
  subst hn
  exact fun H locs la hP hS hl => lv_iand hC.1 hC.2.1 hd (kk H locs la hP hS hl)
theorem q_ior (hC : qC Γ cc own nL rt R po) {x y : Int32} (hd : decode cc pc = .ok (.ior, 1)) (hn : pc + 1 = n) (kk : qV Γ R nL n ls (.int (x ||| y) :: st) S k) : qV Γ R nL pc ls (.int y :: .int x :: st) S k := by
  obtain ⟨⟨l, D, cy, ad, o⟩, ⟨p, e, s⟩, ⟨m, args, below, meth, c⟩, Q⟩ := Γ
  subst hn
  exact fun H locs la hP hS hl => lv_ior hC.1 hC.2.1 hd (kk H locs la hP hS hl)
theorem q_ixor (hC : qC Γ cc own nL rt R po) {x y : Int32} (hd : decode cc pc = .ok (.ixor, 1)) (hn : pc + 1 = n) (kk : qV Γ R nL n ls (.int (x ^^^ y) :: st) S k) : qV Γ R nL pc ls (.int y :: .int x :: st) S k := by
  obtain ⟨⟨l, D, cy, ad, o⟩, ⟨p, e, s⟩, ⟨m, args, below, meth, c⟩, Q⟩ := Γ
  subst hn
  exact fun H locs la hP hS hl => lv_ixor hC.1 hC.2.1 hd (kk H locs la hP hS hl)
theorem q_idiv (hC : qC Γ cc own nL rt R po) {x y : Int32} (hd : decode cc pc = .ok (.idiv, 1)) (hne : ¬ y = 0) (hn : pc + 1 = n) (kk : qV Γ R nL n ls (.int (x / y) :: st) S k) : qV Γ R nL pc ls (.int y :: .int x :: st) S k := by
  obtain ⟨⟨l, D, cy, ad, o⟩, ⟨p, e, s⟩, ⟨m, args, below, meth, c⟩, Q⟩ := Γ
  subst hn
  exact fun H locs la hP hS hl => lv_idiv hC.1 hC.2.1 hd hne (kk H locs la hP hS hl)
theorem q_irem (hC : qC Γ cc own nL rt R po) {x y : Int32} (hd : decode cc pc = .ok (.irem, 1)) (hne : ¬ y = 0) (hn : pc + 1 = n) (kk : qV Γ R nL n ls (.int (x - x / y * y) :: st) S k) : qV Γ R nL pc ls (.int y :: .int x :: st) S k := by
  obtain ⟨⟨l, D, cy, ad, o⟩, ⟨p, e, s⟩, ⟨m, args, below, meth, c⟩, Q⟩ := Γ
  subst hn
  exact fun H locs la hP hS hl => lv_irem hC.1 hC.2.1 hd hne (kk H locs la hP hS hl)
theorem q_ishl (hC : qC Γ cc own nL rt R po) {x y : Int32} (hd : decode cc pc = .ok (.ishl, 1)) (hn : pc + 1 = n) (kk : qV Γ R nL n ls (.int (x <<< (y &&& 31)) :: st) S k) : qV Γ R nL pc ls (.int y :: .int x :: st) S k := by
  obtain ⟨⟨l, D, cy, ad, o⟩, ⟨p, e, s⟩, ⟨m, args, below, meth, c⟩, Q⟩ := Γ
  subst hn
  exact fun H locs la hP hS hl => lv_ishl hC.1 hC.2.1 hd (kk H locs la hP hS hl)
theorem q_ishr (hC : qC Γ cc own nL rt R po) {x y : Int32} (hd : decode cc pc = .ok (.ishr, 1)) (hn : pc + 1 = n) (kk : qV Γ R nL n ls (.int (x >>> (y &&& 31)) :: st) S k) : qV Γ R nL pc ls (.int y :: .int x :: st) S k := by
  obtain ⟨⟨l, D, cy, ad, o⟩, ⟨p, e, s⟩, ⟨m, args, below, meth, c⟩, Q⟩ := Γ
  subst hn
  exact fun H locs la hP hS hl => lv_ishr hC.1 hC.2.1 hd (kk H locs la hP hS hl)
theorem q_ladd (hC : qC Γ cc own nL rt R po) {x y : Int64} (hd : decode cc pc = .ok (.ladd, 1)) (hn : pc + 1 = n) (kk : qV Γ R nL n ls (.long (x + y) :: st) S k) : qV Γ R nL pc ls (.long y :: .long x :: st) S k := by
  obtain ⟨⟨l, D, cy, ad, o⟩, ⟨p, e, s⟩, ⟨m, args, below, meth, c⟩, Q⟩ := Γ
  subst hn
  exact fun H locs la hP hS hl => lv_ladd hC.1 hC.2.1 hd (kk H locs la hP hS hl)
theorem q_ldiv (hC : qC Γ cc own nL rt R po) {x y : Int64} (hd : decode cc pc = .ok (.ldiv, 1)) (hne : ¬ y = 0) (hn : pc + 1 = n) (kk : qV Γ R nL n ls (.long (x / y) :: st) S k) : qV Γ R nL pc ls (.long y :: .long x :: st) S k := by
  obtain ⟨⟨l, D, cy, ad, o⟩, ⟨p, e, s⟩, ⟨m, args, below, meth, c⟩, Q⟩ := Γ
  subst hn
  exact fun H locs la hP hS hl => lv_ldiv hC.1 hC.2.1 hd hne (kk H locs la hP hS hl)
theorem q_iushr (hC : qC Γ cc own nL rt R po) {x y : Int32} (hd : decode cc pc = .ok (.iushr, 1)) (hn : pc + 1 = n) (kk : qV Γ R nL n ls (.int ((x.toUInt32 >>> (y.toUInt32 &&& Int32.toUInt32 31)).toInt32) :: st) S k) : qV Γ R nL pc ls (.int y :: .int x :: st) S k := by
  obtain ⟨⟨l, D, cy, ad, o⟩, ⟨p, e, s⟩, ⟨m, args, below, meth, c⟩, Q⟩ := Γ
  subst hn
  exact fun H locs la hP hS hl => lv_iushr hC.1 hC.2.1 hd rfl (kk H locs la hP hS hl)
theorem q_ineg (hC : qC Γ cc own nL rt R po) {x : Int32} (hd : decode cc pc = .ok (.ineg, 1)) (hn : pc + 1 = n) (kk : qV Γ R nL n ls (.int (-x) :: st) S k) : qV Γ R nL pc ls (.int x :: st) S k := by
  obtain ⟨⟨l, D, cy, ad, o⟩, ⟨p, e, s⟩, ⟨m, args, below, meth, c⟩, Q⟩ := Γ
  subst hn
  exact fun H locs la hP hS hl => lv_ineg hC.1 hC.2.1 hd (kk H locs la hP hS hl)
theorem q_i2c (hC : qC Γ cc own nL rt R po) {x : Int32} (hd : decode cc pc = .ok (.i2c, 1)) (hn : pc + 1 = n) (kk : qV Γ R nL n ls (.int ((x.toUInt32 % 65536).toInt32) :: st) S k) : qV Γ R nL pc ls (.int x :: st) S k := by
  obtain ⟨⟨l, D, cy, ad, o⟩, ⟨p, e, s⟩, ⟨m, args, below, meth, c⟩, Q⟩ := Γ
  subst hn
  exact fun H locs la hP hS hl => lv_i2c hC.1 hC.2.1 hd rfl (kk H locs la hP hS hl)
theorem q_i2l (hC : qC Γ cc own nL rt R po) {x : Int32} (hd : decode cc pc = .ok (.i2l, 1)) (hn : pc + 1 = n) (kk : qV Γ R nL n ls (.long x.toInt64 :: st) S k) : qV Γ R nL pc ls (.int x :: st) S k := by
  obtain ⟨⟨l, D, cy, ad, o⟩, ⟨p, e, s⟩, ⟨m, args, below, meth, c⟩, Q⟩ := Γ
  subst hn
  exact fun H locs la hP hS hl => lv_i2l hC.1 hC.2.1 hd rfl (kk H locs la hP hS hl)
theorem q_l2i (hC : qC Γ cc own nL rt R po) {x : Int64} (hd : decode cc pc = .ok (.l2i, 1)) (hn : pc + 1 = n) (kk : qV Γ R nL n ls (.int x.toInt32 :: st) S k) : qV Γ R nL pc ls (.long x :: st) S k := by
  obtain ⟨⟨l, D, cy, ad, o⟩, ⟨p, e, s⟩, ⟨m, args, below, meth, c⟩, Q⟩ := Γ
  subst hn
  exact fun H locs la hP hS hl => lv_l2i hC.1 hC.2.1 hd rfl (kk H locs la hP hS hl)
theorem q_lconst (hC : qC Γ cc own nL rt R po) {i : Fin 2} {v : Int64} (hd : decode cc pc = .ok (.lconst i, 1)) (hv : Int64.ofNat (i : Nat) = v) (hn : pc + 1 = n) (kk : qV Γ R nL n ls (.long v :: st) S k) : qV Γ R nL pc ls st S k := by
  obtain ⟨⟨l, D, cy, ad, o⟩, ⟨p, e, s⟩, ⟨m, args, below, meth, c⟩, Q⟩ := Γ
  subst hn
  exact fun H locs la hP hS hl => lv_lconst hC.1 hC.2.1 hd hv (kk H locs la hP hS hl)
theorem q_ldc2 (hC : qC Γ cc own nL rt R po) {i : Nat} {v : Int64} (hd : decode cc pc = .ok (.ldc2_w i, 3)) (hw : Cond.constantLong own i v ∈ qw) (hn : pc + 3 = n) (kk : qV Γ R nL n ls (.long v :: st) S k) : qV Γ R nL pc ls st S k := by
  obtain ⟨⟨l, D, cy, ad, o⟩, ⟨p, e, s⟩, ⟨m, args, below, meth, c⟩, Q⟩ := Γ
  subst hn
  exact fun H locs la hP hS hl => lv_ldc2 hC.1 hC.2.1 hC.2.2.2.1 (hC.2.2.2.2.1 _ hw) hd (kk H locs la hP hS hl)
theorem q_if_eq (hC : qC Γ cc own nL rt R po) {x : Int32} {off : Int} {t : Nat} (hd : decode cc pc = .ok (.ifCond .eq off, 3)) (ht : (pc : Int) + off = (t : Int)) (hn : pc + 3 = n) (kt : x = 0 → qV Γ R nL t ls st S k) (kf : ¬ x = 0 → qV Γ R nL n ls st S k) : qV Γ R nL pc ls (.int x :: st) S k := by
  obtain ⟨⟨l, D, cy, ad, o⟩, ⟨p, e, s⟩, ⟨m, args, below, meth, c⟩, Q⟩ := Γ
  subst hn
  exact fun H locs la hP hS hl => lv_if_eq hC.1 hC.2.1 hd ht (fun h => kt h H locs la hP hS hl) (fun h => kf h H locs la hP hS hl)
theorem q_icmp_eq (hC : qC Γ cc own nL rt R po) {x y : Int32} {off : Int} {t : Nat} (hd : decode cc pc = .ok (.if_icmp .eq off, 3)) (ht : (pc : Int) + off = (t : Int)) (hn : pc + 3 = n) (kt : x = y → qV Γ R nL t ls st S k) (kf : ¬ x = y → qV Γ R nL n ls st S k) : qV Γ R nL pc ls (.int y :: .int x :: st) S k := by
  obtain ⟨⟨l, D, cy, ad, o⟩, ⟨p, e, s⟩, ⟨m, args, below, meth, c⟩, Q⟩ := Γ
  subst hn
  exact fun H locs la hP hS hl => lv_icmp_eq hC.1 hC.2.1 hd ht (fun h => kt h H locs la hP hS hl) (fun h => kf h H locs la hP hS hl)
theorem q_if_ne (hC : qC Γ cc own nL rt R po) {x : Int32} {off : Int} {t : Nat} (hd : decode cc pc = .ok (.ifCond .ne off, 3)) (ht : (pc : Int) + off = (t : Int)) (hn : pc + 3 = n) (kt : ¬ x = 0 → qV Γ R nL t ls st S k) (kf : x = 0 → qV Γ R nL n ls st S k) : qV Γ R nL pc ls (.int x :: st) S k := by
  obtain ⟨⟨l, D, cy, ad, o⟩, ⟨p, e, s⟩, ⟨m, args, below, meth, c⟩, Q⟩ := Γ
  subst hn
  exact fun H locs la hP hS hl => lv_if_ne hC.1 hC.2.1 hd ht (fun h => kt h H locs la hP hS hl) (fun h => kf h H locs la hP hS hl)
theorem q_icmp_ne (hC : qC Γ cc own nL rt R po) {x y : Int32} {off : Int} {t : Nat} (hd : decode cc pc = .ok (.if_icmp .ne off, 3)) (ht : (pc : Int) + off = (t : Int)) (hn : pc + 3 = n) (kt : ¬ x = y → qV Γ R nL t ls st S k) (kf : x = y → qV Γ R nL n ls st S k) : qV Γ R nL pc ls (.int y :: .int x :: st) S k := by
  obtain ⟨⟨l, D, cy, ad, o⟩, ⟨p, e, s⟩, ⟨m, args, below, meth, c⟩, Q⟩ := Γ
  subst hn
  exact fun H locs la hP hS hl => lv_icmp_ne hC.1 hC.2.1 hd ht (fun h => kt h H locs la hP hS hl) (fun h => kf h H locs la hP hS hl)
theorem q_if_lt (hC : qC Γ cc own nL rt R po) {x : Int32} {off : Int} {t : Nat} (hd : decode cc pc = .ok (.ifCond .lt off, 3)) (ht : (pc : Int) + off = (t : Int)) (hn : pc + 3 = n) (kt : x < 0 → qV Γ R nL t ls st S k) (kf : ¬ x < 0 → qV Γ R nL n ls st S k) : qV Γ R nL pc ls (.int x :: st) S k := by
  obtain ⟨⟨l, D, cy, ad, o⟩, ⟨p, e, s⟩, ⟨m, args, below, meth, c⟩, Q⟩ := Γ
  subst hn
  exact fun H locs la hP hS hl => lv_if_lt hC.1 hC.2.1 hd ht (fun h => kt h H locs la hP hS hl) (fun h => kf h H locs la hP hS hl)
theorem q_icmp_lt (hC : qC Γ cc own nL rt R po) {x y : Int32} {off : Int} {t : Nat} (hd : decode cc pc = .ok (.if_icmp .lt off, 3)) (ht : (pc : Int) + off = (t : Int)) (hn : pc + 3 = n) (kt : x < y → qV Γ R nL t ls st S k) (kf : ¬ x < y → qV Γ R nL n ls st S k) : qV Γ R nL pc ls (.int y :: .int x :: st) S k := by
  obtain ⟨⟨l, D, cy, ad, o⟩, ⟨p, e, s⟩, ⟨m, args, below, meth, c⟩, Q⟩ := Γ
  subst hn
  exact fun H locs la hP hS hl => lv_icmp_lt hC.1 hC.2.1 hd ht (fun h => kt h H locs la hP hS hl) (fun h => kf h H locs la hP hS hl)
theorem q_if_ge (hC : qC Γ cc own nL rt R po) {x : Int32} {off : Int} {t : Nat} (hd : decode cc pc = .ok (.ifCond .ge off, 3)) (ht : (pc : Int) + off = (t : Int)) (hn : pc + 3 = n) (kt : 0 ≤ x → qV Γ R nL t ls st S k) (kf : ¬ 0 ≤ x → qV Γ R nL n ls st S k) : qV Γ R nL pc ls (.int x :: st) S k := by
  obtain ⟨⟨l, D, cy, ad, o⟩, ⟨p, e, s⟩, ⟨m, args, below, meth, c⟩, Q⟩ := Γ
  subst hn
  exact fun H locs la hP hS hl => lv_if_ge hC.1 hC.2.1 hd ht (fun h => kt h H locs la hP hS hl) (fun h => kf h H locs la hP hS hl)
theorem q_icmp_ge (hC : qC Γ cc own nL rt R po) {x y : Int32} {off : Int} {t : Nat} (hd : decode cc pc = .ok (.if_icmp .ge off, 3)) (ht : (pc : Int) + off = (t : Int)) (hn : pc + 3 = n) (kt : y ≤ x → qV Γ R nL t ls st S k) (kf : ¬ y ≤ x → qV Γ R nL n ls st S k) : qV Γ R nL pc ls (.int y :: .int x :: st) S k := by
  obtain ⟨⟨l, D, cy, ad, o⟩, ⟨p, e, s⟩, ⟨m, args, below, meth, c⟩, Q⟩ := Γ
  subst hn
  exact fun H locs la hP hS hl => lv_icmp_ge hC.1 hC.2.1 hd ht (fun h => kt h H locs la hP hS hl) (fun h => kf h H locs la hP hS hl)
theorem q_if_gt (hC : qC Γ cc own nL rt R po) {x : Int32} {off : Int} {t : Nat} (hd : decode cc pc = .ok (.ifCond .gt off, 3)) (ht : (pc : Int) + off = (t : Int)) (hn : pc + 3 = n) (kt : 0 < x → qV Γ R nL t ls st S k) (kf : ¬ 0 < x → qV Γ R nL n ls st S k) : qV Γ R nL pc ls (.int x :: st) S k := by
  obtain ⟨⟨l, D, cy, ad, o⟩, ⟨p, e, s⟩, ⟨m, args, below, meth, c⟩, Q⟩ := Γ
  subst hn
  exact fun H locs la hP hS hl => lv_if_gt hC.1 hC.2.1 hd ht (fun h => kt h H locs la hP hS hl) (fun h => kf h H locs la hP hS hl)
theorem q_icmp_gt (hC : qC Γ cc own nL rt R po) {x y : Int32} {off : Int} {t : Nat} (hd : decode cc pc = .ok (.if_icmp .gt off, 3)) (ht : (pc : Int) + off = (t : Int)) (hn : pc + 3 = n) (kt : y < x → qV Γ R nL t ls st S k) (kf : ¬ y < x → qV Γ R nL n ls st S k) : qV Γ R nL pc ls (.int y :: .int x :: st) S k := by
  obtain ⟨⟨l, D, cy, ad, o⟩, ⟨p, e, s⟩, ⟨m, args, below, meth, c⟩, Q⟩ := Γ
  subst hn
  exact fun H locs la hP hS hl => lv_icmp_gt hC.1 hC.2.1 hd ht (fun h => kt h H locs la hP hS hl) (fun h => kf h H locs la hP hS hl)
theorem q_if_le (hC : qC Γ cc own nL rt R po) {x : Int32} {off : Int} {t : Nat} (hd : decode cc pc = .ok (.ifCond .le off, 3)) (ht : (pc : Int) + off = (t : Int)) (hn : pc + 3 = n) (kt : x ≤ 0 → qV Γ R nL t ls st S k) (kf : ¬ x ≤ 0 → qV Γ R nL n ls st S k) : qV Γ R nL pc ls (.int x :: st) S k := by
  obtain ⟨⟨l, D, cy, ad, o⟩, ⟨p, e, s⟩, ⟨m, args, below, meth, c⟩, Q⟩ := Γ
  subst hn
  exact fun H locs la hP hS hl => lv_if_le hC.1 hC.2.1 hd ht (fun h => kt h H locs la hP hS hl) (fun h => kf h H locs la hP hS hl)
theorem q_icmp_le (hC : qC Γ cc own nL rt R po) {x y : Int32} {off : Int} {t : Nat} (hd : decode cc pc = .ok (.if_icmp .le off, 3)) (ht : (pc : Int) + off = (t : Int)) (hn : pc + 3 = n) (kt : x ≤ y → qV Γ R nL t ls st S k) (kf : ¬ x ≤ y → qV Γ R nL n ls st S k) : qV Γ R nL pc ls (.int y :: .int x :: st) S k := by
  obtain ⟨⟨l, D, cy, ad, o⟩, ⟨p, e, s⟩, ⟨m, args, below, meth, c⟩, Q⟩ := Γ
  subst hn
  exact fun H locs la hP hS hl => lv_icmp_le hC.1 hC.2.1 hd ht (fun h => kt h H locs la hP hS hl) (fun h => kf h H locs la hP hS hl)
theorem q_lcmp (hC : qC Γ cc own nL rt R po) {x y : Int64} (hd : decode cc pc = .ok (.lcmp, 1)) (hn : pc + 1 = n) (kk : qV Γ R nL n ls (.int (lg_cmp x y) :: st) S k) : qV Γ R nL pc ls (.long y :: .long x :: st) S k := by
  obtain ⟨⟨l, D, cy, ad, o⟩, ⟨p, e, s⟩, ⟨m, args, below, meth, c⟩, Q⟩ := Γ
  subst hn
  exact fun H locs la hP hS hl => W.lcmp hC.1 hC.2.1 hd (kk H locs la hP hS hl)
/-- another row of locals that says no more -/
theorem q_loc (hs : ∀ q ∈ ls', q ∈ ls) (kk : qV Γ R nL pc ls' st S k) : qV Γ R nL pc ls st S k := by
  obtain ⟨⟨l, D, cy, ad, o⟩, ⟨p, e, s⟩, ⟨m, args, below, meth, c⟩, Q⟩ := Γ
  exact fun H locs la hP hS hl => kk H locs la hP hS (q_hasSub hl hs)
/-! fields -/
def qFd (own : String) (idx ci j : Nat) : Prop := ∃ (C : String) (T : u_T) (N : Nat), q_cl[ci]? = some (C, T, N) ∧ (∀ w ∈ u_ws C T N, w ∈ qw) ∧ j < N ∧ Cond.fieldLink own idx (T j).1 (T j).2.1 (T j).2.2.1 ∈ qw
def qFp (own : String) (idx ci j : Nat) (ty : FieldType) : Prop := ∃ (C : String) (T : u_T) (N : Nat) (ty0 : Nat → FieldType), q_cl[ci]? = some (C, T, N) ∧ (∀ w ∈ u_ws C T N, w ∈ qw) ∧ j < N ∧ Cond.fieldLink own idx (T j).1 (T j).2.1 (T j).2.2.1 ∈ qw ∧
  (∀ k, k < N → parseFieldDescriptor (T k).2.2.1 = some (ty0 k)) ∧ (∀ a, a < N → ∀ b, b < N → a ≠ b → (T a).2.1 ≠ (T b).2.1) ∧ (T j).2.2.2 = false ∧ parseFieldDescriptor (T j).2.2.1 = some ty
theorem q_get_f (hC : qC Γ cc own nL rt R po) {idx ci j t i : Nat} {fs : List Value} {v : Value} (hf : qFd own idx ci j) (hd : decode cc pc = .ok (.getfield idx, 3)) (he : q_enc (q_ad Γ) Γ.1.2.2.1 (S t i) t i = .inr (ci, fs)) (hv : fs[j]? = some v) (hi : i < q_cnt t) (hn : pc + 3 = n) (kk : qV Γ R nL n ls (v :: st) S k) : qV Γ R nL pc ls (.ref (q_ad Γ t i) :: st) S k := by
  obtain ⟨⟨l, D, cy, ad, o⟩, ⟨p, e, s⟩, ⟨m, args, below, meth, c⟩, Q⟩ := Γ
  subst hn
  obtain ⟨C, T, N, h1, h2, h3, h4⟩ := hf
  intro H locs la hP hS hl
  obtain ⟨q0, hq0, hq1⟩ := q_get (ad := ad) (cy := cy) (S := S) hi
  rw [show q_enc ad cy (S t i) t i = .inr (ci, fs) from he] at hq1
  exact va_get hC.1 hC.2.1 hC.2.2.2.2.1 h2 hC.2.2.2.1 hC.2.2.2.2.2.2.2.1 hP q0 hq1 h1 j h3 (hC.2.2.2.2.1 _ h4) (fun _ h => h) hv hd (kk H locs la hP hS hl)
theorem q_put_f (hC : qC Γ cc own nL rt R po) {idx ci j t i : Nat} {fs : List Value} {v : Value} {ty : FieldType} (w : Int32) (hf : qFp own idx ci j ty) (hd : decode cc pc = .ok (.putfield idx, 3)) (he : q_enc (q_ad Γ) Γ.1.2.2.1 (S t i) t i = .inr (ci, fs)) (hs : q_enc (q_ad Γ) Γ.1.2.2.1 (upd (S t i) j w) t i = .inr (ci, fs.set j v)) (hl0 : j < fs.length) (hnr : narrow ty v = v) (hft : fits ty v = true) (hi : i < q_cnt t) (hn : pc + 3 = n) (kk : qV Γ R nL n ls st (q_up S t i (upd (S t i) j w)) k) : qV Γ R nL pc ls (v :: .ref (q_ad Γ t i) :: st) S k := by
  obtain ⟨⟨l, D, cy, ad, o⟩, ⟨p, e, s⟩, ⟨m, args, below, meth, c⟩, Q⟩ := Γ
  subst hn
  obtain ⟨C, T, N, ty0, h1, h2, h3, h4, h5, h6, h7, h8⟩ := hf
  intro H locs la hP hS hl
  obtain ⟨q0, hq0, hq1⟩ := q_get (ad := ad) (cy := cy) (S := S) hi
  rw [show q_enc ad cy (S t i) t i = .inr (ci, fs) from he] at hq1
  refine va_put hC.1 hC.2.1 hC.2.2.2.2.1 h2 ty0 h5 h6 hC.2.2.2.1 hC.2.2.2.2.2.2.2.1 hP (q_WD hC.2.2.2.2.2.2.2.2.1 q_AA) hS q0 hq1 h1 j h3 (hC.2.2.2.2.1 _ h4) (fun _ h => h) h7 h8 hnr hft hl0 hd (fun H1 locs1 hP1 hD1 hS1 => ?_)
  rw [← show q_enc ad cy (upd (S t i) j w) t i = .inr (ci, fs.set j v) from hs, q_set hq0] at hP1
  exact kk H1 locs1 la hP1 hS1 hl
/-! arrays -/
theorem q_alen (hC : qC Γ cc own nL rt R po) {t i a : Nat} {v : Int32} {x : vp_A} {ty : FieldType} {cA : ClassId} (hd : decode cc pc = .ok (.arraylength, 1)) (he : q_enc (q_ad Γ) Γ.1.2.2.1 (S t i) t i = .inl (cA, x)) (ht : (q_tys Γ.1.2.2.1)[a]? = some (cA, ty)) (hv : Int32.ofNat x.1 = v) (hi : i < q_cnt t) (hn : pc + 1 = n) (kk : qV Γ R nL n ls (.int v :: st) S k) : qV Γ R nL pc ls (.ref (q_ad Γ t i) :: st) S k := by
  obtain ⟨⟨l, D, cy, ad, o⟩, ⟨p, e, s⟩, ⟨m, args, below, meth, c⟩, Q⟩ := Γ
  subst hn
  intro H locs la hP hS hl
  obtain ⟨q0, hq0, hq1⟩ := q_get (ad := ad) (cy := cy) (S := S) hi
  rw [show q_enc ad cy (S t i) t i = .inl (cA, x) from he] at hq1
  exact va_alen hC.1 hC.2.1 hC.2.2.2.2.2.2.2.1 hP q0 a hq1 ht hv hd (kk H locs la hP hS hl)
theorem q_aald (hC : qC Γ cc own nL rt R po) {t i a N : Nat} {C : String} {x : Int32} {g : Nat → Option Nat} {cA : ClassId} (hd : decode cc pc = .ok (.aaload, 1)) (he : q_enc (q_ad Γ) Γ.1.2.2.1 (S t i) t i = .inl (cA, N, .inr (.inr (.inr (.inr g))))) (ht : (q_tys Γ.1.2.2.1)[a]? = some (cA, .object C)) (hin : vp_in x N) (hi : i < q_cnt t) (hn : pc + 1 = n) (kk : qV Γ R nL n ls (va_rf (g x.toNatClampNeg) :: st) S k) : qV Γ R nL pc ls (.int x :: .ref (q_ad Γ t i) :: st) S k := by
  obtain ⟨⟨l, D, cy, ad, o⟩, ⟨p, e, s⟩, ⟨m, args, below, meth, c⟩, Q⟩ := Γ
  subst hn
  intro H locs la hP hS hl
  obtain ⟨q0, hq0, hq1⟩ := q_get (ad := ad) (cy := cy) (S := S) hi
  rw [show q_enc ad cy (S t i) t i = .inl (cA, N, .inr (.inr (.inr (.inr g)))) from he] at hq1
  exact va_aldq hC.1 hC.2.1 hC.2.2.2.2.2.2.2.1 hP q0 a hq1 ht hin hd (kk H locs la hP hS hl)
theorem q_iald (hC : qC Γ cc own nL rt R po) {t i N : Nat} {x : Int32} (hd : decode cc pc = .ok (.iaload, 1)) (he : q_enc (q_ad Γ) Γ.1.2.2.1 (S t i) t i = .inl (Γ.1.2.2.1 0, N, .inl (S t i))) (hi : i < q_cnt t) (hin : vp_in x N) (hn : pc + 1 = n) (kk : qV Γ R nL n ls (.int (S t i x.toNatClampNeg) :: st) S k) : qV Γ R nL pc ls (.int x :: .ref (q_ad Γ t i) :: st) S k := by
  obtain ⟨⟨l, D, cy, ad, o⟩, ⟨p, e, s⟩, ⟨m, args, below, meth, c⟩, Q⟩ := Γ
  subst hn
  intro H locs la hP hS hl
  obtain ⟨q0, hq0, hq1⟩ := q_get (ad := ad) (cy := cy) (S := S) hi
  rw [show q_enc ad cy (S t i) t i = .inl (cy 0, N, .inl (S t i)) from he] at hq1
  exact va_iald hC.1 hC.2.1 hC.2.2.2.2.2.2.2.1 hP q0 0 hq1 rfl hin hd (kk H locs la hP hS hl)
theorem q_cald (hC : qC Γ cc own nL rt R po) {t i N : Nat} {x : Int32} (hd : decode cc pc = .ok (.caload, 1)) (he : q_enc (q_ad Γ) Γ.1.2.2.1 (S t i) t i = .inl (Γ.1.2.2.1 1, N, .inl (S t i))) (hi : i < q_cnt t) (hin : vp_in x N) (hn : pc + 1 = n) (kk : qV Γ R nL n ls (.int (S t i x.toNatClampNeg) :: st) S k) : qV Γ R nL pc ls (.int x :: .ref (q_ad Γ t i) :: st) S k := by
  obtain ⟨⟨l, D, cy, ad, o⟩, ⟨p, e, s⟩, ⟨m, args, below, meth, c⟩, Q⟩ := Γ
  subst hn
  intro H locs la hP hS hl
  obtain ⟨q0, hq0, hq1⟩ := q_get (ad := ad) (cy := cy) (S := S) hi
  rw [show q_enc ad cy (S t i) t i = .inl (cy 1, N, .inl (S t i)) from he] at hq1
  exact va_cald hC.1 hC.2.1 hC.2.2.2.2.2.2.2.1 hP q0 1 hq1 rfl hin hd (kk H locs la hP hS hl)
theorem q_zald (hC : qC Γ cc own nL rt R po) {t i N : Nat} {x : Int32} (hd : decode cc pc = .ok (.baload, 1)) (he : q_enc (q_ad Γ) Γ.1.2.2.1 (S t i) t i = .inl (Γ.1.2.2.1 2, N, .inl (S t i))) (hi : i < q_cnt t) (hin : vp_in x N) (hn : pc + 1 = n) (kk : qV Γ R nL n ls (.int (S t i x.toNatClampNeg) :: st) S k) : qV Γ R nL pc ls (.int x :: .ref (q_ad Γ t i) :: st) S k := by
  obtain ⟨⟨l, D, cy, ad, o⟩, ⟨p, e, s⟩, ⟨m, args, below, meth, c⟩, Q⟩ := Γ
  subst hn
  intro H locs la hP hS hl
  obtain ⟨q0, hq0, hq1⟩ := q_get (ad := ad) (cy := cy) (S := S) hi
  rw [show q_enc ad cy (S t i) t i = .inl (cy 2, N, .inl (S t i)) from he] at hq1
  exact va_zald hC.1 hC.2.1 hC.2.2.2.2.2.2.2.1 hP q0 2 hq1 rfl hin hd (kk H locs la hP hS hl)
theorem q_iast (hC : qC Γ cc own nL rt R po) {t i N : Nat} {x y : Int32} (hd : decode cc pc = .ok (.iastore, 1)) (he : ∀ f, q_enc (q_ad Γ) Γ.1.2.2.1 f t i = .inl (Γ.1.2.2.1 0, N, .inl f)) (hi : i < q_cnt t) (hin : vp_in y N) (hn : pc + 1 = n) (kk : qV Γ R nL n ls st (q_up S t i (upd (S t i) y.toNatClampNeg x)) k) : qV Γ R nL pc ls (.int x :: .int y :: .ref (q_ad Γ t i) :: st) S k := by
  obtain ⟨⟨l, D, cy, ad, o⟩, ⟨p, e, s⟩, ⟨m, args, below, meth, c⟩, Q⟩ := Γ
  subst hn
  intro H locs la hP hS hl
  obtain ⟨q0, hq0, hq1⟩ := q_get (ad := ad) (cy := cy) (S := S) hi
  rw [show q_enc ad cy (S t i) t i = .inl (cy 0, N, .inl (S t i)) from he _] at hq1
  refine va_iast hC.1 hC.2.1 hC.2.2.2.2.2.2.2.1 hP (q_WD hC.2.2.2.2.2.2.2.2.1 q_AA) hS q0 0 hq1 rfl hin hd (fun H1 locs1 hP1 hD1 hS1 => ?_)
  rw [← show q_enc ad cy (upd (S t i) y.toNatClampNeg x) t i = .inl (cy 0, N, .inl (upd (S t i) y.toNatClampNeg x)) from he _, q_set hq0] at hP1
  exact kk H1 locs1 la hP1 hS1 hl
theorem q_cast (hC : qC Γ cc own nL rt R po) {t i N : Nat} {x y : Int32} (hd : decode cc pc = .ok (.castore, 1)) (he : ∀ f, q_enc (q_ad Γ) Γ.1.2.2.1 f t i = .inl (Γ.1.2.2.1 1, N, .inl f)) (hi : i < q_cnt t) (hin : vp_in y N) (hn : pc + 1 = n) (kk : qV Γ R nL n ls st (q_up S t i (upd (S t i) y.toNatClampNeg (vp_nar .char x))) k) : qV Γ R nL pc ls (.int x :: .int y :: .ref (q_ad Γ t i) :: st) S k := by
  obtain ⟨⟨l, D, cy, ad, o⟩, ⟨p, e, s⟩, ⟨m, args, below, meth, c⟩, Q⟩ := Γ
  subst hn
  intro H locs la hP hS hl
  obtain ⟨q0, hq0, hq1⟩ := q_get (ad := ad) (cy := cy) (S := S) hi
  rw [show q_enc ad cy (S t i) t i = .inl (cy 1, N, .inl (S t i)) from he _] at hq1
  refine va_cast hC.1 hC.2.1 hC.2.2.2.2.2.2.2.1 hP (q_WD hC.2.2.2.2.2.2.2.2.1 q_AA) hS q0 1 hq1 rfl hin hd (fun H1 locs1 hP1 hD1 hS1 => ?_)
  rw [← show q_enc ad cy (upd (S t i) y.toNatClampNeg (vp_nar .char x)) t i = .inl (cy 1, N, .inl (upd (S t i) y.toNatClampNeg (vp_nar .char x))) from he _, q_set hq0] at hP1
  exact kk H1 locs1 la hP1 hS1 hl
theorem q_zast (hC : qC Γ cc own nL rt R po) {t i N : Nat} {x y : Int32} (hd : decode cc pc = .ok (.bastore, 1)) (he : ∀ f, q_enc (q_ad Γ) Γ.1.2.2.1 f t i = .inl (Γ.1.2.2.1 2, N, .inl f)) (hi : i < q_cnt t) (hin : vp_in y N) (hn : pc + 1 = n) (kk : qV Γ R nL n ls st (q_up S t i (upd (S t i) y.toNatClampNeg (vp_nar .boolean x))) k) : qV Γ R nL pc ls (.int x :: .int y :: .ref (q_ad Γ t i) :: st) S k := by
  obtain ⟨⟨l, D, cy, ad, o⟩, ⟨p, e, s⟩, ⟨m, args, below, meth, c⟩, Q⟩ := Γ
  subst hn
  intro H locs la hP hS hl
  obtain ⟨q0, hq0, hq1⟩ := q_get (ad := ad) (cy := cy) (S := S) hi
  rw [show q_enc ad cy (S t i) t i = .inl (cy 2, N, .inl (S t i)) from he _] at hq1
  refine va_zast hC.1 hC.2.1 hC.2.2.2.2.2.2.2.1 hP (q_WD hC.2.2.2.2.2.2.2.2.1 q_AA) hS q0 2 hq1 rfl hin hd (fun H1 locs1 hP1 hD1 hS1 => ?_)
  rw [← show q_enc ad cy (upd (S t i) y.toNatClampNeg (vp_nar .boolean x)) t i = .inl (cy 2, N, .inl (upd (S t i) y.toNatClampNeg (vp_nar .boolean x))) from he _, q_set hq0] at hP1
  exact kk H1 locs1 la hP1 hS1 hl
/-! returns -/
theorem q_iret {rt' : FieldType} (hC : qC Γ cc own nL (some rt') R po) {x : Int32} (hd : decode cc pc = .ok (.ireturn, 1)) (hnr : narrow rt' (.int x) = .int x) (hk : k.1 ≤ R.cells ∧ k.2 ≤ R.slots) (hpo : po (some (.int x)) S) : qV Γ R nL pc ls [.int x] S k := by
  obtain ⟨⟨l, D, cy, ad, o⟩, ⟨p, e, s⟩, ⟨m, args, below, meth, c⟩, Q⟩ := Γ
  obtain ⟨h1, h2, h3, h4, h5, h6, h7, h8, h9, h10, h11, h12⟩ := hC
  intro H locs la hP hS hl
  refine W.widen hk.1 hk.2 ?_
  refine q_Wimp h12 ?_
  exact W.zret h1 h2 h6 hnr (fun t ht hW => ⟨⟨_, S, rfl, hpo, by rw [ht]; exact hP⟩, hS.F ht⟩) hS.2.2 hd h7
theorem q_vret (hC : qC Γ cc own nL none R po) (hd : decode cc pc = .ok (.return_, 1)) (hk : k.1 ≤ R.cells ∧ k.2 ≤ R.slots) (hpo : po none S) : qV Γ R nL pc ls [] S k := by
  obtain ⟨⟨l, D, cy, ad, o⟩, ⟨p, e, s⟩, ⟨m, args, below, meth, c⟩, Q⟩ := Γ
  obtain ⟨h1, h2, h3, h4, h5, h6, h7, h8, h9, h10, h11, h12⟩ := hC
  intro H locs la hP hS hl
  refine W.widen hk.1 hk.2 ?_
  refine q_Wimp h12 ?_
  exact W.vret h1 h2 h6 (fun t ht hW => ⟨⟨_, S, rfl, hpo, by rw [ht]; exact hP⟩, hS.F ht⟩) hS.2.2 hd h7
theorem q_lret (hC : qC Γ cc own nL (some .long) R po) {x : Int64} (hd : decode cc pc = .ok (.lreturn, 1)) (hk : k.1 ≤ R.cells ∧ k.2 ≤ R.slots) (hpo : po (some (.long x)) S) : qV Γ R nL pc ls [.long x] S k := by
  obtain ⟨⟨l, D, cy, ad, o⟩, ⟨p, e, s⟩, ⟨m, args, below, meth, c⟩, Q⟩ := Γ
  obtain ⟨h1, h2, h3, h4, h5, h6, h7, h8, h9, h10, h11, h12⟩ := hC
  intro H locs la hP hS hl
  refine W.widen hk.1 hk.2 ?_
  refine q_Wimp h12 ?_
  exact W.lret h1 h2 h6 (fun t ht hW => ⟨⟨_, S, rfl, hpo, by rw [ht]; exact hP⟩, hS.F ht⟩) hS.2.2 hd h7
/-! calls -/
/-- what is known of a method that is called, apart from the call's own place: instance methods (own class selects it), static ones -/
def qMs (y : MethodName) (cc : ByteArray) (nL : Nat) (ret : Option FieldType) (n : Nat) : Prop :=
  Cond.static y ∈ qw ∧ Cond.initialized y.cls ∈ qw ∧ Cond.code y cc nL ret ∈ qw ∧ y.cls ≠ "java/lang/invoke/MethodHandle" ∧ y.cls ≠ "java/lang/invoke/VarHandle" ∧ (parseMethodDescriptor y.desc).map (fun d => d.parameters.length) = some n
def qMv (y : MethodName) (cc : ByteArray) (nL : Nat) (ret : Option FieldType) (n : Nat) : Prop :=
  Cond.instanceMethod y ∈ qw ∧ Cond.selects y.cls y y ∈ qw ∧ Cond.initialized y.cls ∈ qw ∧ Cond.code y cc nL ret ∈ qw ∧ y.cls ≠ "java/lang/invoke/MethodHandle" ∧ y.cls ≠ "java/lang/invoke/VarHandle" ∧ (parseMethodDescriptor y.desc).map (fun d => d.parameters.length) = some n
theorem q_AF {ad : Nat → Nat → Nat} {a b : Nat} (h : a ≤ b) : ∀ q, q_A ad b q → q_A ad a q := fun q hq => hq.elim Or.inl (fun z => Or.inr (Nat.le_trans h z))
theorem q_TC {o : qO} {ad : Nat → Nat → Nat} {s U : State} {H : Heap} {locs : List Loc} (hT : qT o (q_A ad s.heap.size) s s.heap) (hS : va_S (q_A ad s.heap.size) s.heap H locs) (hU : U.heap = H) (hW : s.WarmedH U.vm) : qT o (q_A ad H.size) U U.heap := by
  rw [hU]
  exact ((hT.kept hS.1 hS.2.1).narrow (q_AF hS.1)).moved hW.alike
section QCALL
variable {y : MethodName} {c2 : ByteArray} {nL2 idx : Nat} {ret : Option FieldType} {rm : Room} {α : Type} {ar : (Nat → Nat → Nat) → qO → α → List Value} {pre : α → qM → Prop} {post : α → qM → Option Value → qM → Prop} {x : α} {k' : Nat × Nat}
theorem q_goon {ls2 : List Value} {args9 : Array Value} (hr : ∀ (H : Heap) (locs : List Loc) (la : Array Slot), va_P Γ.1.2.1 q_cl (q_W (q_ad Γ) Γ.1.2.2.1 S) H → va_S (q_A (q_ad Γ) Γ.2.1.2.2.heap.size) Γ.2.1.2.2.heap H locs → lv_has la nL ls →
      va_Run Γ.2.1.1 Γ.1.1 Γ.2.1.2.1 R Γ.2.1.2.2 Γ.2.2.1.1 Γ.2.2.1.2.1 Γ.2.2.1.2.2.1 Γ.2.2.1.2.2.2.1 Γ.2.2.1.2.2.2.2 H locs k.1 k.2 rm.cells rm.slots (F0 Γ.2.2.1.1 pc la st) ls2 (qQc Γ.1 (q_A (q_ad Γ) H.size) (post x S) args9) (q_A (q_ad Γ) H.size))
    (hn : pc + 3 = n) (hk' : (k.1 + rm.cells, k.2 + rm.slots) = k') (kk : ∀ (v : Option Value) (S' : qM), post x S v S' → qV Γ R nL n ls (v.toList ++ ls2) S' k') : qV Γ R nL pc ls st S k := by
  obtain ⟨⟨l, D, cy, ad, o⟩, ⟨p, e, s⟩, ⟨m, args, below, meth, c⟩, Q⟩ := Γ
  subst hn; subst hk'
  intro H locs la hP hS hl T hT X
  obtain ⟨v, st₀, t, T', L, h0, X', hL, e1, e2, ⟨⟨v', S', hv, hp, hP'⟩, hz, hk⟩, stp⟩ := hr H locs la hP hS hl T hT X
  cases hv
  rw [h0] at hz hk
  have hS' : va_S (q_A ad s.heap.size) s.heap T'.heap (locs ++ L) := by
    refine ⟨Nat.le_trans hS.1 (by rw [e1]; exact hz), fun q h1 h2 => ?_, fun q hq => ?_⟩
    · rw [e1, hk q (Nat.lt_of_lt_of_le h1 hS.1) (fun z => h2 (q_AF hS.1 q z))]
      exact hS.2.1 q h1 h2
    · rcases List.mem_append.mp hq with h | h
      · exact hS.2.2 q h
      · exact q_AF hS.1 _ (hL q h)
  obtain ⟨t2, a1, b1⟩ := kk v S' hp T'.heap (locs ++ L) la (by rw [e1]; exact hP') hS' hl T' rfl X'
  exact ⟨t2, stp t2 a1, b1⟩
theorem q_blind {L : qL} {as : List Value} {S : qM} {sz : Nat} : FrameBlind (va_Pc as (fun U => U.heap.size = sz ∧ va_P L.2.1 q_cl (q_W L.2.2.2.1 L.2.2.1 S) U.heap ∧ va_K L.2.1 q_cl (q_tys L.2.2.1) U ∧ qN L.2.2.2.2 U ∧ qT L.2.2.2.2 (q_A L.2.2.2.1 sz) U U.heap)) := by
  intro a U g mk q
  obtain ⟨q0, q1, qP, qK, qn, qt⟩ := q
  exact ⟨q0, q1, qP, va_K.moved (u := U) (U := U.calling g mk a) (Vm.Alike.refl U.vm) qK, qN.same (u := U) (U := U.calling g mk a) rfl qn, qT.moved (u := U) (U := U.calling g mk a) (Vm.Alike.refl U.vm) qt⟩
abbrev qRm (rm R : Room) (nL2 : Nat) (k : Nat × Nat) : Prop := (rm.frames + 1 ≤ R.frames ∧ 8 + (nL2 + 11) + rm.locals ≤ R.locals) ∧ k.1 + rm.cells ≤ R.cells ∧ k.2 + rm.slots ≤ R.slots
theorem q_callS {na : Nat} (hC : qC Γ cc own nL rt R po) (hM : qCT Γ.1 y c2 nL2 ret rm ar pre post) (hms : qMs y c2 nL2 ret na) (hlk : Cond.methodLink own idx y ∈ qw) (hd : decode cc pc = .ok (.invokestatic idx, 3)) (x : α) {st2 : List Value} (hs : (ar (q_ad Γ) (q_o Γ) x).reverse ++ st2 = st) (has : (ar (q_ad Γ) (q_o Γ) x).length = na)
    (hcat : (st2.map fun v => v.category).sum ≤ 8) (hR : qRm rm R nL2 k) (hn : pc + 3 = n) (hk' : (k.1 + rm.cells, k.2 + rm.slots) = k') (hpre : pre x S) (kk : ∀ (v : Option Value) (S' : qM), post x S v S' → qV Γ R nL n ls (v.toList ++ st2) S' k') : qV Γ R nL pc ls st S k := by
  refine q_goon (rm := rm) (post := post) (x := x) (args9 := (ar (q_ad Γ) (q_o Γ) x).toArray) (fun H locs la hP hS hl => ?_) hn hk' kk
  obtain ⟨⟨l, D, cy, ad, o⟩, ⟨p, e, s⟩, ⟨m, args, below, meth, c⟩, Q⟩ := Γ
  obtain ⟨h1, h2, h3, h4, h5, h6, h7, h8, h9, h10, h11, h12⟩ := hC
  obtain ⟨m1, m2, m3, m4, m5, m6⟩ := hms
  exact va_runS (Ts := qw) ⟨h1, h2, h3, h4, h5⟩ (hM x S H.size hpre) ⟨callB_of na h5 (qw_goodIn m3) rfl rfl rfl (h5 _ m2) (h5 _ hlk) ⟨m4, m5, m6⟩ hR.1, h5 _ m1⟩
    ⟨q_blind, fun U hU hW => ⟨rfl, by rw [hU], by rw [hU]; exact hP, va_K.moved hW.alike h8, qN.warm hW h10, q_TC h11 hS hU hW⟩⟩ rfl has hl.1 hs.symm (lv_room hcat) hd hR.2
theorem q_callSN {na : Nat} {host : String} (hC : qC Γ cc own nL rt R po) (hM : qCT Γ.1 y c2 nL2 ret rm ar pre post) (hms : qMs y c2 nL2 ret na) (hlk : Cond.methodLinkNest own idx y host ∈ q_nest) (hd : decode cc pc = .ok (.invokestatic idx, 3)) (x : α) {st2 : List Value} (hs : (ar (q_ad Γ) (q_o Γ) x).reverse ++ st2 = st) (has : (ar (q_ad Γ) (q_o Γ) x).length = na)
    (hcat : (st2.map fun v => v.category).sum ≤ 8) (hR : qRm rm R nL2 k) (hn : pc + 3 = n) (hk' : (k.1 + rm.cells, k.2 + rm.slots) = k') (hpre : pre x S) (kk : ∀ (v : Option Value) (S' : qM), post x S v S' → qV Γ R nL n ls (v.toList ++ st2) S' k') : qV Γ R nL pc ls st S k := by
  refine q_goon (rm := rm) (post := post) (x := x) (args9 := (ar (q_ad Γ) (q_o Γ) x).toArray) (fun H locs la hP hS hl => ?_) hn hk' kk
  obtain ⟨⟨l, D, cy, ad, o⟩, ⟨p, e, s⟩, ⟨m, args, below, meth, c⟩, Q⟩ := Γ
  obtain ⟨h1, h2, h3, h4, h5, h6, h7, h8, h9, h10, h11, h12⟩ := hC
  obtain ⟨m1, m2, m3, m4, m5, m6⟩ := hms
  exact va_runSN (Ts := qw) (host := host) ⟨h1, h2, h3, h4, h5⟩ (hM x S H.size hpre) ⟨va_cnB na h5 (qw_goodIn m3) rfl rfl rfl (h10.1 _ hlk) (h5 _ m2) ⟨m4, m5, m6⟩ hR.1, h5 _ m1, trivial⟩
    ⟨q_blind, fun U hU hW => ⟨rfl, by rw [hU], by rw [hU]; exact hP, va_K.moved hW.alike h8, qN.warm hW h10, q_TC h11 hS hU hW⟩⟩ rfl has hl.1 hs.symm (lv_room hcat) hd hR.2
theorem q_callV {na t i ci : Nat} {fs : List Value} {As : List Value} (hC : qC Γ cc own nL rt R po) (hM : qCT Γ.1 y c2 nL2 ret rm ar pre post) (hms : qMv y c2 nL2 ret na) (hlk : Cond.methodLink own idx y ∈ qw) (hd : decode cc pc = .ok (.invokevirtual idx, 3)) (x : α) (hx : ar (q_ad Γ) (q_o Γ) x = .ref (q_ad Γ t i) :: As) {st2 : List Value} (hs : As.reverse ++ .ref (q_ad Γ t i) :: st2 = st) (has : As.length = na)
    (he : q_enc (q_ad Γ) Γ.1.2.2.1 (S t i) t i = .inr (ci, fs)) (hci : (q_cl[ci]?).map (fun q => q.1) = some y.cls) (hi : i < q_cnt t)
    (hcat : (st2.map fun v => v.category).sum ≤ 8) (hR : qRm rm R nL2 k) (hn : pc + 3 = n) (hk' : (k.1 + rm.cells, k.2 + rm.slots) = k') (hpre : pre x S) (kk : ∀ (v : Option Value) (S' : qM), post x S v S' → qV Γ R nL n ls (v.toList ++ st2) S' k') : qV Γ R nL pc ls st S k := by
  refine q_goon (rm := rm) (post := post) (x := x) (args9 := (Value.ref (q_ad Γ t i) :: As).toArray) (fun H locs la hP hS hl => ?_) hn hk' kk
  obtain ⟨⟨l, D, cy, ad, o⟩, ⟨p, e, s⟩, ⟨m, args, below, meth, c⟩, Q⟩ := Γ
  obtain ⟨h1, h2, h3, h4, h5, h6, h7, h8, h9, h10, h11, h12⟩ := hC
  obtain ⟨m0, m1, m2, m3, m4, m5, m6⟩ := hms
  obtain ⟨q0, hq0, hq1⟩ := q_get (ad := ad) (cy := cy) (S := S) hi
  rw [show q_enc ad cy (S t i) t i = .inr (ci, fs) from he] at hq1
  have hx' : ar ad o x = .ref (ad t i) :: As := hx
  cases hc0 : q_cl[ci]? with
  | none => rw [hc0] at hci; cases hci
  | some q =>
    rw [hc0] at hci
    have hcl : q.1 = y.cls := Option.some.inj hci
    have hrec := va_recv h8 hP hc0 hq1
    rw [hcl] at hrec
    exact va_runV (Ts := qw) (C := y.cls) ⟨h1, h2, h3, h4, h5⟩ (hM x S H.size hpre) ⟨callB_of na h5 (qw_goodIn m3) rfl rfl rfl (h5 _ m2) (h5 _ hlk) ⟨m4, m5, m6⟩ hR.1, h5 _ m0, h5 _ m1⟩
      ⟨q_blind, hrec, fun U hU hW => ⟨(congrArg List.toArray hx').symm, by rw [hU], by rw [hU]; exact hP, va_K.moved hW.alike h8, qN.warm hW h10, q_TC h11 hS hU hW⟩⟩ rfl has hl.1 hs.symm (lv_room hcat) hd hR.2
end QCALL
section QSTAT
variable {idx : Nat}
/-! statics -/
theorem q_getsK (hC : qC Γ cc own nL rt R po) (hlk : Cond.fieldLink own idx RX9 "KINDS" "[C" ∈ qw) (hd : decode cc pc = .ok (.getstatic idx, 3)) (hn : pc + 3 = n) (kk : qV Γ R nL n ls (.ref (q_o Γ).2.1 :: st) S k) : qV Γ R nL pc ls st S k := by
  obtain ⟨⟨l, D, cy, ad, o⟩, ⟨p, e, s⟩, ⟨m, args, below, meth, c⟩, Q⟩ := Γ
  subst hn
  obtain ⟨h1, h2, h3, h4, h5, h6, h7, h8, h9, h10, h11, h12⟩ := hC
  exact fun H locs la hP hS hl => va_gets h1 h2 h11.2.1.1 hS h4 (h5 _ hlk) (fun _ h => h) hd (kk H locs la hP hS hl)
theorem q_getsKN (hC : qC Γ cc own nL rt R po) {host : String} (hlk : Cond.fieldLinkNest own idx RX9 "KINDS" "[C" host ∈ q_nest) (hd : decode cc pc = .ok (.getstatic idx, 3)) (hn : pc + 3 = n) (kk : qV Γ R nL n ls (.ref (q_o Γ).2.1 :: st) S k) : qV Γ R nL pc ls st S k := by
  obtain ⟨⟨l, D, cy, ad, o⟩, ⟨p, e, s⟩, ⟨m, args, below, meth, c⟩, Q⟩ := Γ
  subst hn
  obtain ⟨h1, h2, h3, h4, h5, h6, h7, h8, h9, h10, h11, h12⟩ := hC
  exact fun H locs la hP hS hl => va_getsN h1 h2 h11.2.1.1 hS h4 (va_Nw.use rfl (h10.1 _ hlk)) (fun _ h => h) hd (kk H locs la hP hS hl)
theorem q_getsPN (hC : qC Γ cc own nL rt R po) {host : String} (hlk : Cond.fieldLinkNest own idx RX9 "PAIRS" "[I" host ∈ q_nest) (hd : decode cc pc = .ok (.getstatic idx, 3)) (hn : pc + 3 = n) (kk : qV Γ R nL n ls (.ref (q_o Γ).2.2 :: st) S k) : qV Γ R nL pc ls st S k := by
  obtain ⟨⟨l, D, cy, ad, o⟩, ⟨p, e, s⟩, ⟨m, args, below, meth, c⟩, Q⟩ := Γ
  subst hn
  obtain ⟨h1, h2, h3, h4, h5, h6, h7, h8, h9, h10, h11, h12⟩ := hC
  exact fun H locs la hP hS hl => va_getsN h1 h2 h11.2.2.1.1 hS h4 (va_Nw.use rfl (h10.1 _ hlk)) (fun _ h => h) hd (kk H locs la hP hS hl)
theorem q_kald (hC : qC Γ cc own nL rt R po) {x : Int32} (hd : decode cc pc = .ok (.caload, 1)) (hin : vp_in x 9) (hn : pc + 1 = n) (kk : qV Γ R nL n ls (.int (q_kinds x.toNatClampNeg) :: st) S k) : qV Γ R nL pc ls (.int x :: .ref (q_o Γ).2.1 :: st) S k := by
  obtain ⟨⟨l, D, cy, ad, o⟩, ⟨p, e, s⟩, ⟨m, args, below, meth, c⟩, Q⟩ := Γ
  subst hn
  obtain ⟨h1, h2, h3, h4, h5, h6, h7, h8, h9, h10, h11, h12⟩ := hC
  exact fun H locs la hP hS hl => va_tc h1 h2 h11.2.1.2 hS hin rfl hd (kk H locs la hP hS hl)
theorem q_klen (hC : qC Γ cc own nL rt R po) (hd : decode cc pc = .ok (.arraylength, 1)) (hn : pc + 1 = n) (kk : qV Γ R nL n ls (.int 9 :: st) S k) : qV Γ R nL pc ls (.ref (q_o Γ).2.1 :: st) S k := by
  obtain ⟨⟨l, D, cy, ad, o⟩, ⟨p, e, s⟩, ⟨m, args, below, meth, c⟩, Q⟩ := Γ
  subst hn
  obtain ⟨h1, h2, h3, h4, h5, h6, h7, h8, h9, h10, h11, h12⟩ := hC
  exact fun H locs la hP hS hl => va_tlen h1 h2 h11.2.1.2 hS rfl hd (kk H locs la hP hS hl)
theorem q_pald (hC : qC Γ cc own nL rt R po) {x : Int32} (hd : decode cc pc = .ok (.iaload, 1)) (hin : vp_in x 16) (hn : pc + 1 = n) (kk : qV Γ R nL n ls (.int (q_pairs x.toNatClampNeg) :: st) S k) : qV Γ R nL pc ls (.int x :: .ref (q_o Γ).2.2 :: st) S k := by
  obtain ⟨⟨l, D, cy, ad, o⟩, ⟨p, e, s⟩, ⟨m, args, below, meth, c⟩, Q⟩ := Γ
  subst hn
  obtain ⟨h1, h2, h3, h4, h5, h6, h7, h8, h9, h10, h11, h12⟩ := hC
  exact fun H locs la hP hS hl => va_ti h1 h2 h11.2.2.1.2 hS hin rfl hd (kk H locs la hP hS hl)
theorem q_plen (hC : qC Γ cc own nL rt R po) (hd : decode cc pc = .ok (.arraylength, 1)) (hn : pc + 1 = n) (kk : qV Γ R nL n ls (.int 16 :: st) S k) : qV Γ R nL pc ls (.ref (q_o Γ).2.2 :: st) S k := by
  obtain ⟨⟨l, D, cy, ad, o⟩, ⟨p, e, s⟩, ⟨m, args, below, meth, c⟩, Q⟩ := Γ
  subst hn
  obtain ⟨h1, h2, h3, h4, h5, h6, h7, h8, h9, h10, h11, h12⟩ := hC
  exact fun H locs la hP hS hl => va_tlen h1 h2 h11.2.2.1.2 hS rfl hd (kk H locs la hP hS hl)
/-! the script -/
theorem q_sald (hC : qC Γ cc own nL rt R po) {x : Int32} (hd : decode cc pc = .ok (.iaload, 1)) (hin : vp_in x (q_o Γ).1.2.1) (hn : pc + 1 = n) (kk : qV Γ R nL n ls (.int ((q_o Γ).1.2.2.1 x.toNatClampNeg) :: st) S k) : qV Γ R nL pc ls (.int x :: .ref (q_o Γ).1.1 :: st) S k := by
  obtain ⟨⟨l, D, cy, ad, o⟩, ⟨p, e, s⟩, ⟨m, args, below, meth, c⟩, Q⟩ := Γ
  subst hn
  obtain ⟨h1, h2, h3, h4, h5, h6, h7, h8, h9, h10, h11, h12⟩ := hC
  exact fun H locs la hP hS hl => va_sld h1 h2 h11.1.1 h11.1.2.1 h11.1.2.2 hS hin hd (kk H locs la hP hS hl)
theorem q_slen (hC : qC Γ cc own nL rt R po) (hd : decode cc pc = .ok (.arraylength, 1)) (hn : pc + 1 = n) (kk : qV Γ R nL n ls (.int (nI (q_o Γ).1.2.1) :: st) S k) : qV Γ R nL pc ls (.ref (q_o Γ).1.1 :: st) S k := by
  obtain ⟨⟨l, D, cy, ad, o⟩, ⟨p, e, s⟩, ⟨m, args, below, meth, c⟩, Q⟩ := Γ
  subst hn
  obtain ⟨h1, h2, h3, h4, h5, h6, h7, h8, h9, h10, h11, h12⟩ := hC
  exact fun H locs la hP hS hl => va_slen h1 h2 h11.1.1 h11.1.2.1 h11.1.2.2 hS hd (kk H locs la hP hS hl)
end QSTAT
/-! the libraries, the clients -/
theorem q_lib (hC : qC Γ cc own nL rt R po) {x : Int32} (j : Nat) (hd : decode cc pc = .ok (.aaload, 1)) (hx : x = nI j) (hj : j < 4) (hn : pc + 1 = n) (kk : qV Γ R nL n ls (.ref (q_ad Γ 0 j) :: st) S k) : qV Γ R nL pc ls (.int x :: .ref (q_ad Γ 37 0) :: st) S k := by
  subst hx
  refine q_aald (a := 3) (N := 4) (C := RX5) (g := fun j => some (q_ad Γ 0 j)) hC hd rfl rfl (vp_in_nI hj (by decide)) (by decide) hn ?_
  have e : (nI j).toNatClampNeg = j := nI_clamp (by omega)
  rw [e]
  exact kk
theorem q_cli (hC : qC Γ cc own nL rt R po) {x : Int32} (j : Nat) (hd : decode cc pc = .ok (.aaload, 1)) (hx : x = nI j) (hj : j < 4) (hn : pc + 1 = n) (kk : qV Γ R nL n ls (.ref (q_ad Γ 27 j) :: st) S k) : qV Γ R nL pc ls (.int x :: .ref (q_ad Γ 38 0) :: st) S k := by
  subst hx
  refine q_aald (a := 4) (N := 4) (C := RX0) (g := fun j => some (q_ad Γ 27 j)) hC hd rfl rfl (vp_in_nI hj (by decide)) (by decide) hn ?_
  have e : (nI j).toNatClampNeg = j := nI_clamp (by omega)
  rw [e]
  exact kk
end QRULES
end
section
-- printed by wip/p36/gen_words.py: the words of the tables by their places
theorem q_in {ws : List Cond} (ps : List Nat) (hp : ws = ps.filterMap (fun i => lw_tbl[i]?)) (hg : ws.all goodWord = true) : ∀ w ∈ ws, w ∈ qw := by
  intro w hw
  have h1 := List.all_eq_true.mp hg w hw
  rw [hp] at hw
  obtain ⟨i, -, hi⟩ := List.mem_filterMap.mp hw
  exact qw_mem hi h1
theorem q_hD {Γ : qG} {cc : ByteArray} {own : String} {nL : Nat} {rt : Option FieldType} {R : Room} {po : Option Value → qM → Prop} (hC : qC Γ cc own nL rt R po) : q_D Γ.1.2.2.2.1 := by
  obtain ⟨⟨l, D, cy, ad, o⟩, ⟨p, e, s⟩, ⟨m, args, below, meth, c⟩, Q⟩ := Γ
  exact hC.2.2.2.2.2.2.2.2.1
theorem in_X0 : ∀ w ∈ u_ws RX0 TX0 6, w ∈ qw := q_in [151, 153, 155, 157, 159, 161] (by decide +kernel) (by decide +kernel)
theorem in_X2 : ∀ w ∈ u_ws RX2 TX2 9, w ∈ qw := q_in [258, 260, 262, 264, 266, 268, 270, 272, 274] (by decide +kernel) (by decide +kernel)
theorem in_X3 : ∀ w ∈ u_ws RX3 TX3 14, w ∈ qw := q_in [313, 315, 317, 319, 321, 323, 325, 327, 329, 331, 333, 335, 337, 339] (by decide +kernel) (by decide +kernel)
theorem in_X4 : ∀ w ∈ u_ws RX4 TX4 5, w ∈ qw := q_in [173, 175, 177, 179, 181] (by decide +kernel) (by decide +kernel)
theorem in_X5 : ∀ w ∈ u_ws RX5 TX5 6, w ∈ qw := q_in [350, 352, 354, 356, 358, 360] (by decide +kernel) (by decide +kernel)
theorem in_X6 : ∀ w ∈ u_ws RX6 TX6 3, w ∈ qw := q_in [211, 213, 215] (by decide +kernel) (by decide +kernel)
theorem in_X7 : ∀ w ∈ u_ws RX7 TX7 4, w ∈ qw := q_in [126, 128, 130, 132] (by decide +kernel) (by decide +kernel)
theorem in_X8 : ∀ w ∈ u_ws RX8 TX8 4, w ∈ qw := q_in [81, 83, 85, 87] (by decide +kernel) (by decide +kernel)
theorem in_X9 : ∀ w ∈ u_ws RX9 TX9 9, w ∈ qw := q_in [373, 375, 377, 379, 381, 383, 385, 387, 389] (by decide +kernel) (by decide +kernel)
theorem f_X9_11 : qFd RX9 11 8 0 := ⟨RX9, TX9, 9, rfl, in_X9, by decide, qw_mem (i := 364) (by decide +kernel) rfl⟩
theorem f_X9_17 : qFd RX9 17 8 1 := ⟨RX9, TX9, 9, rfl, in_X9, by decide, qw_mem (i := 365) (by decide +kernel) rfl⟩
theorem f_X9_21 : qFd RX9 21 8 2 := ⟨RX9, TX9, 9, rfl, in_X9, by decide, qw_mem (i := 366) (by decide +kernel) rfl⟩
theorem f_X9_24 : qFd RX9 24 8 3 := ⟨RX9, TX9, 9, rfl, in_X9, by decide, qw_mem (i := 367) (by decide +kernel) rfl⟩
theorem f_X9_31 : qFd RX9 31 8 4 := ⟨RX9, TX9, 9, rfl, in_X9, by decide, qw_mem (i := 368) (by decide +kernel) rfl⟩
theorem f_X9_35 : qFd RX9 35 8 5 := ⟨RX9, TX9, 9, rfl, in_X9, by decide, qw_mem (i := 369) (by decide +kernel) rfl⟩
theorem f_X9_41 : qFd RX9 41 8 6 := ⟨RX9, TX9, 9, rfl, in_X9, by decide, qw_mem (i := 370) (by decide +kernel) rfl⟩
theorem f_X9_45 : qFd RX9 45 8 7 := ⟨RX9, TX9, 9, rfl, in_X9, by decide, qw_mem (i := 371) (by decide +kernel) rfl⟩
theorem f_X9_48 : qFd RX9 48 8 8 := ⟨RX9, TX9, 9, rfl, in_X9, by decide, qw_mem (i := 372) (by decide +kernel) rfl⟩
theorem fp_X9_48 : qFp RX9 48 8 8 .int := ⟨RX9, TX9, 9, tyX9, rfl, in_X9, by decide, qw_mem (i := 372) (by decide +kernel) rfl, tyX9_ok, nmX9, rfl, by decide +kernel⟩
theorem f_X9_66 : qFd RX9 66 4 0 := ⟨RX5, TX5, 6, rfl, in_X5, by decide, qw_mem (i := 343) (by decide +kernel) rfl⟩
theorem f_X9_70 : qFd RX9 70 1 0 := ⟨RX2, TX2, 9, rfl, in_X2, by decide, qw_mem (i := 223) (by decide +kernel) rfl⟩
theorem f_X9_91 : qFd RX9 91 1 5 := ⟨RX2, TX2, 9, rfl, in_X2, by decide, qw_mem (i := 242) (by decide +kernel) rfl⟩
theorem f_X9_101 : qFd RX9 101 1 4 := ⟨RX2, TX2, 9, rfl, in_X2, by decide, qw_mem (i := 237) (by decide +kernel) rfl⟩
theorem f_X9_104 : qFd RX9 104 1 6 := ⟨RX2, TX2, 9, rfl, in_X2, by decide, qw_mem (i := 247) (by decide +kernel) rfl⟩
theorem f_X9_119 : qFd RX9 119 1 7 := ⟨RX2, TX2, 9, rfl, in_X2, by decide, qw_mem (i := 251) (by decide +kernel) rfl⟩
theorem f_X9_133 : qFd RX9 133 1 8 := ⟨RX2, TX2, 9, rfl, in_X2, by decide, qw_mem (i := 255) (by decide +kernel) rfl⟩
theorem f_X9_166 : qFd RX9 166 0 1 := ⟨RX0, TX0, 6, rfl, in_X0, by decide, qw_mem (i := 142) (by decide +kernel) rfl⟩
theorem f_X9_172 : qFd RX9 172 0 0 := ⟨RX0, TX0, 6, rfl, in_X0, by decide, qw_mem (i := 138) (by decide +kernel) rfl⟩
theorem f_X9_176 : qFd RX9 176 6 0 := ⟨RX7, TX7, 4, rfl, in_X7, by decide, qw_mem (i := 112) (by decide +kernel) rfl⟩
theorem fp_X9_176 : qFp RX9 176 6 0 .boolean := ⟨RX7, TX7, 4, tyX7, rfl, in_X7, by decide, qw_mem (i := 112) (by decide +kernel) rfl, tyX7_ok, nmX7, rfl, by decide +kernel⟩
theorem f_X9_183 : qFd RX9 183 6 1 := ⟨RX7, TX7, 4, rfl, in_X7, by decide, qw_mem (i := 116) (by decide +kernel) rfl⟩
theorem fp_X9_183 : qFp RX9 183 6 1 .int := ⟨RX7, TX7, 4, tyX7, rfl, in_X7, by decide, qw_mem (i := 116) (by decide +kernel) rfl, tyX7_ok, nmX7, rfl, by decide +kernel⟩
theorem f_X9_185 : qFd RX9 185 6 2 := ⟨RX7, TX7, 4, rfl, in_X7, by decide, qw_mem (i := 120) (by decide +kernel) rfl⟩
theorem fp_X9_185 : qFp RX9 185 6 2 .int := ⟨RX7, TX7, 4, tyX7, rfl, in_X7, by decide, qw_mem (i := 120) (by decide +kernel) rfl, tyX7_ok, nmX7, rfl, by decide +kernel⟩
theorem f_X9_196 : qFd RX9 196 6 3 := ⟨RX7, TX7, 4, rfl, in_X7, by decide, qw_mem (i := 125) (by decide +kernel) rfl⟩
theorem fp_X9_196 : qFp RX9 196 6 3 .int := ⟨RX7, TX7, 4, tyX7, rfl, in_X7, by decide, qw_mem (i := 125) (by decide +kernel) rfl, tyX7_ok, nmX7, rfl, by decide +kernel⟩
theorem f_X9_242 : qFd RX9 242 7 1 := ⟨RX8, TX8, 4, rfl, in_X8, by decide, qw_mem (i := 77) (by decide +kernel) rfl⟩
theorem f_X9_245 : qFd RX9 245 7 0 := ⟨RX8, TX8, 4, rfl, in_X8, by decide, qw_mem (i := 75) (by decide +kernel) rfl⟩
theorem f_X9_248 : qFd RX9 248 7 2 := ⟨RX8, TX8, 4, rfl, in_X8, by decide, qw_mem (i := 79) (by decide +kernel) rfl⟩
theorem f_X9_259 : qFd RX9 259 3 0 := ⟨RX4, TX4, 5, rfl, in_X4, by decide, qw_mem (i := 168) (by decide +kernel) rfl⟩
theorem fs_X9_325 : Cond.fieldLink RX9 325 RX9 "KINDS" "[C" ∈ qw := qw_mem (i := 1108) (by decide +kernel) rfl
theorem f_X0_12 : qFd RX0 12 0 0 := ⟨RX0, TX0, 6, rfl, in_X0, by decide, qw_mem (i := 135) (by decide +kernel) rfl⟩
theorem f_X0_18 : qFd RX0 18 0 1 := ⟨RX0, TX0, 6, rfl, in_X0, by decide, qw_mem (i := 139) (by decide +kernel) rfl⟩
theorem fp_X0_18 : qFp RX0 18 0 1 .int := ⟨RX0, TX0, 6, tyX0, rfl, in_X0, by decide, qw_mem (i := 139) (by decide +kernel) rfl, tyX0_ok, nmX0, rfl, by decide +kernel⟩
theorem f_X0_22 : qFd RX0 22 0 2 := ⟨RX0, TX0, 6, rfl, in_X0, by decide, qw_mem (i := 143) (by decide +kernel) rfl⟩
theorem f_X0_26 : qFd RX0 26 0 3 := ⟨RX0, TX0, 6, rfl, in_X0, by decide, qw_mem (i := 145) (by decide +kernel) rfl⟩
theorem f_X0_29 : qFd RX0 29 0 4 := ⟨RX0, TX0, 6, rfl, in_X0, by decide, qw_mem (i := 147) (by decide +kernel) rfl⟩
theorem f_X0_32 : qFd RX0 32 0 5 := ⟨RX0, TX0, 6, rfl, in_X0, by decide, qw_mem (i := 149) (by decide +kernel) rfl⟩
theorem f_X1_9 : qFd RX1 9 1 0 := ⟨RX2, TX2, 9, rfl, in_X2, by decide, qw_mem (i := 221) (by decide +kernel) rfl⟩
theorem f_X1_21 : qFd RX1 21 1 5 := ⟨RX2, TX2, 9, rfl, in_X2, by decide, qw_mem (i := 240) (by decide +kernel) rfl⟩
theorem f_X1_25 : qFd RX1 25 1 3 := ⟨RX2, TX2, 9, rfl, in_X2, by decide, qw_mem (i := 232) (by decide +kernel) rfl⟩
theorem f_X1_29 : qFd RX1 29 1 6 := ⟨RX2, TX2, 9, rfl, in_X2, by decide, qw_mem (i := 246) (by decide +kernel) rfl⟩
theorem f_X1_32 : qFd RX1 32 2 0 := ⟨RX3, TX3, 14, rfl, in_X3, by decide, qw_mem (i := 286) (by decide +kernel) rfl⟩
theorem f_X1_38 : qFd RX1 38 2 1 := ⟨RX3, TX3, 14, rfl, in_X3, by decide, qw_mem (i := 288) (by decide +kernel) rfl⟩
theorem f_X1_41 : qFd RX1 41 2 2 := ⟨RX3, TX3, 14, rfl, in_X3, by decide, qw_mem (i := 290) (by decide +kernel) rfl⟩
theorem f_X1_65 : qFd RX1 65 1 2 := ⟨RX2, TX2, 9, rfl, in_X2, by decide, qw_mem (i := 229) (by decide +kernel) rfl⟩
theorem f_X1_72 : qFd RX1 72 1 4 := ⟨RX2, TX2, 9, rfl, in_X2, by decide, qw_mem (i := 236) (by decide +kernel) rfl⟩
theorem f_X1_75 : qFd RX1 75 1 7 := ⟨RX2, TX2, 9, rfl, in_X2, by decide, qw_mem (i := 250) (by decide +kernel) rfl⟩
theorem f_X1_79 : qFd RX1 79 5 0 := ⟨RX6, TX6, 3, rfl, in_X6, by decide, qw_mem (i := 202) (by decide +kernel) rfl⟩
theorem f_X1_84 : qFd RX1 84 5 1 := ⟨RX6, TX6, 3, rfl, in_X6, by decide, qw_mem (i := 207) (by decide +kernel) rfl⟩
theorem f_X1_85 : qFd RX1 85 1 8 := ⟨RX2, TX2, 9, rfl, in_X2, by decide, qw_mem (i := 254) (by decide +kernel) rfl⟩
theorem f_X1_96 : qFd RX1 96 2 5 := ⟨RX3, TX3, 14, rfl, in_X3, by decide, qw_mem (i := 296) (by decide +kernel) rfl⟩
theorem f_X1_99 : qFd RX1 99 2 4 := ⟨RX3, TX3, 14, rfl, in_X3, by decide, qw_mem (i := 294) (by decide +kernel) rfl⟩
theorem f_X1_102 : qFd RX1 102 2 8 := ⟨RX3, TX3, 14, rfl, in_X3, by decide, qw_mem (i := 301) (by decide +kernel) rfl⟩
theorem f_X2_9 : qFd RX2 9 1 0 := ⟨RX2, TX2, 9, rfl, in_X2, by decide, qw_mem (i := 220) (by decide +kernel) rfl⟩
theorem f_X2_15 : qFd RX2 15 1 1 := ⟨RX2, TX2, 9, rfl, in_X2, by decide, qw_mem (i := 225) (by decide +kernel) rfl⟩
theorem f_X2_19 : qFd RX2 19 1 2 := ⟨RX2, TX2, 9, rfl, in_X2, by decide, qw_mem (i := 228) (by decide +kernel) rfl⟩
theorem f_X2_22 : qFd RX2 22 1 3 := ⟨RX2, TX2, 9, rfl, in_X2, by decide, qw_mem (i := 231) (by decide +kernel) rfl⟩
theorem f_X2_25 : qFd RX2 25 1 4 := ⟨RX2, TX2, 9, rfl, in_X2, by decide, qw_mem (i := 235) (by decide +kernel) rfl⟩
theorem f_X2_28 : qFd RX2 28 1 5 := ⟨RX2, TX2, 9, rfl, in_X2, by decide, qw_mem (i := 239) (by decide +kernel) rfl⟩
theorem f_X2_32 : qFd RX2 32 1 6 := ⟨RX2, TX2, 9, rfl, in_X2, by decide, qw_mem (i := 244) (by decide +kernel) rfl⟩
theorem f_X2_38 : qFd RX2 38 1 7 := ⟨RX2, TX2, 9, rfl, in_X2, by decide, qw_mem (i := 248) (by decide +kernel) rfl⟩
theorem f_X2_42 : qFd RX2 42 1 8 := ⟨RX2, TX2, 9, rfl, in_X2, by decide, qw_mem (i := 253) (by decide +kernel) rfl⟩
theorem f_X3_9 : qFd RX3 9 2 2 := ⟨RX3, TX3, 14, rfl, in_X3, by decide, qw_mem (i := 289) (by decide +kernel) rfl⟩
theorem f_X3_15 : qFd RX3 15 2 3 := ⟨RX3, TX3, 14, rfl, in_X3, by decide, qw_mem (i := 292) (by decide +kernel) rfl⟩
theorem f_X3_18 : qFd RX3 18 2 4 := ⟨RX3, TX3, 14, rfl, in_X3, by decide, qw_mem (i := 293) (by decide +kernel) rfl⟩
theorem f_X3_21 : qFd RX3 21 2 5 := ⟨RX3, TX3, 14, rfl, in_X3, by decide, qw_mem (i := 295) (by decide +kernel) rfl⟩
theorem f_X3_24 : qFd RX3 24 2 6 := ⟨RX3, TX3, 14, rfl, in_X3, by decide, qw_mem (i := 297) (by decide +kernel) rfl⟩
theorem f_X3_27 : qFd RX3 27 2 7 := ⟨RX3, TX3, 14, rfl, in_X3, by decide, qw_mem (i := 298) (by decide +kernel) rfl⟩
theorem f_X3_30 : qFd RX3 30 2 8 := ⟨RX3, TX3, 14, rfl, in_X3, by decide, qw_mem (i := 300) (by decide +kernel) rfl⟩
theorem f_X3_33 : qFd RX3 33 2 9 := ⟨RX3, TX3, 14, rfl, in_X3, by decide, qw_mem (i := 303) (by decide +kernel) rfl⟩
theorem f_X3_40 : qFd RX3 40 2 13 := ⟨RX3, TX3, 14, rfl, in_X3, by decide, qw_mem (i := 311) (by decide +kernel) rfl⟩
theorem f_X3_43 : qFd RX3 43 2 0 := ⟨RX3, TX3, 14, rfl, in_X3, by decide, qw_mem (i := 285) (by decide +kernel) rfl⟩
theorem fp_X3_43 : qFp RX3 43 2 0 .int := ⟨RX3, TX3, 14, tyX3, rfl, in_X3, by decide, qw_mem (i := 285) (by decide +kernel) rfl, tyX3_ok, nmX3, rfl, by decide +kernel⟩
theorem f_X3_47 : qFd RX3 47 2 1 := ⟨RX3, TX3, 14, rfl, in_X3, by decide, qw_mem (i := 287) (by decide +kernel) rfl⟩
theorem fp_X3_47 : qFp RX3 47 2 1 .int := ⟨RX3, TX3, 14, tyX3, rfl, in_X3, by decide, qw_mem (i := 287) (by decide +kernel) rfl, tyX3_ok, nmX3, rfl, by decide +kernel⟩
theorem f_X3_50 : qFd RX3 50 1 0 := ⟨RX2, TX2, 9, rfl, in_X2, by decide, qw_mem (i := 222) (by decide +kernel) rfl⟩
theorem f_X3_59 : qFd RX3 59 1 7 := ⟨RX2, TX2, 9, rfl, in_X2, by decide, qw_mem (i := 249) (by decide +kernel) rfl⟩
theorem f_X3_74 : qFd RX3 74 1 6 := ⟨RX2, TX2, 9, rfl, in_X2, by decide, qw_mem (i := 245) (by decide +kernel) rfl⟩
theorem f_X3_77 : qFd RX3 77 1 5 := ⟨RX2, TX2, 9, rfl, in_X2, by decide, qw_mem (i := 241) (by decide +kernel) rfl⟩
theorem f_X3_90 : qFd RX3 90 5 1 := ⟨RX6, TX6, 3, rfl, in_X6, by decide, qw_mem (i := 206) (by decide +kernel) rfl⟩
theorem f_X3_97 : qFd RX3 97 5 0 := ⟨RX6, TX6, 3, rfl, in_X6, by decide, qw_mem (i := 203) (by decide +kernel) rfl⟩
theorem f_X3_115 : qFd RX3 115 2 11 := ⟨RX3, TX3, 14, rfl, in_X3, by decide, qw_mem (i := 308) (by decide +kernel) rfl⟩
theorem fp_X3_115 : qFp RX3 115 2 11 .int := ⟨RX3, TX3, 14, tyX3, rfl, in_X3, by decide, qw_mem (i := 308) (by decide +kernel) rfl, tyX3_ok, nmX3, rfl, by decide +kernel⟩
theorem f_X3_118 : qFd RX3 118 2 12 := ⟨RX3, TX3, 14, rfl, in_X3, by decide, qw_mem (i := 310) (by decide +kernel) rfl⟩
theorem fp_X3_118 : qFp RX3 118 2 12 .int := ⟨RX3, TX3, 14, tyX3, rfl, in_X3, by decide, qw_mem (i := 310) (by decide +kernel) rfl, tyX3_ok, nmX3, rfl, by decide +kernel⟩
theorem f_X3_121 : qFd RX3 121 1 1 := ⟨RX2, TX2, 9, rfl, in_X2, by decide, qw_mem (i := 227) (by decide +kernel) rfl⟩
theorem f_X3_125 : qFd RX3 125 1 3 := ⟨RX2, TX2, 9, rfl, in_X2, by decide, qw_mem (i := 234) (by decide +kernel) rfl⟩
theorem f_X3_131 : qFd RX3 131 1 8 := ⟨RX2, TX2, 9, rfl, in_X2, by decide, qw_mem (i := 257) (by decide +kernel) rfl⟩
theorem f_X3_138 : qFd RX3 138 2 10 := ⟨RX3, TX3, 14, rfl, in_X3, by decide, qw_mem (i := 306) (by decide +kernel) rfl⟩
theorem fp_X3_138 : qFp RX3 138 2 10 .int := ⟨RX3, TX3, 14, tyX3, rfl, in_X3, by decide, qw_mem (i := 306) (by decide +kernel) rfl, tyX3_ok, nmX3, rfl, by decide +kernel⟩
theorem f_X3_145 : qFd RX3 145 6 2 := ⟨RX7, TX7, 4, rfl, in_X7, by decide, qw_mem (i := 119) (by decide +kernel) rfl⟩
theorem f_X3_149 : qFd RX3 149 6 1 := ⟨RX7, TX7, 4, rfl, in_X7, by decide, qw_mem (i := 115) (by decide +kernel) rfl⟩
theorem f_X3_151 : qFd RX3 151 6 3 := ⟨RX7, TX7, 4, rfl, in_X7, by decide, qw_mem (i := 124) (by decide +kernel) rfl⟩
theorem f_X4_12 : qFd RX4 12 3 0 := ⟨RX4, TX4, 5, rfl, in_X4, by decide, qw_mem (i := 167) (by decide +kernel) rfl⟩
theorem f_X4_21 : qFd RX4 21 3 1 := ⟨RX4, TX4, 5, rfl, in_X4, by decide, qw_mem (i := 169) (by decide +kernel) rfl⟩
theorem f_X4_25 : qFd RX4 25 3 2 := ⟨RX4, TX4, 5, rfl, in_X4, by decide, qw_mem (i := 170) (by decide +kernel) rfl⟩
theorem fp_X4_25 : qFp RX4 25 3 2 (.object "Linkwitness$Machine") := ⟨RX4, TX4, 5, tyX4, rfl, in_X4, by decide, qw_mem (i := 170) (by decide +kernel) rfl, tyX4_ok, nmX4, rfl, by decide +kernel⟩
theorem f_X4_29 : qFd RX4 29 3 3 := ⟨RX4, TX4, 5, rfl, in_X4, by decide, qw_mem (i := 171) (by decide +kernel) rfl⟩
theorem fp_X4_29 : qFp RX4 29 3 3 (.object "Linkwitness$Machine") := ⟨RX4, TX4, 5, tyX4, rfl, in_X4, by decide, qw_mem (i := 171) (by decide +kernel) rfl, tyX4_ok, nmX4, rfl, by decide +kernel⟩
theorem f_X4_33 : qFd RX4 33 3 4 := ⟨RX4, TX4, 5, rfl, in_X4, by decide, qw_mem (i := 172) (by decide +kernel) rfl⟩
theorem fp_X4_33 : qFp RX4 33 3 4 .int := ⟨RX4, TX4, 5, tyX4, rfl, in_X4, by decide, qw_mem (i := 172) (by decide +kernel) rfl, tyX4_ok, nmX4, rfl, by decide +kernel⟩
theorem f_X4_54 : qFd RX4 54 4 1 := ⟨RX5, TX5, 6, rfl, in_X5, by decide, qw_mem (i := 345) (by decide +kernel) rfl⟩
theorem f_X4_58 : qFd RX4 58 2 10 := ⟨RX3, TX3, 14, rfl, in_X3, by decide, qw_mem (i := 305) (by decide +kernel) rfl⟩
theorem f_X4_84 : qFd RX4 84 6 0 := ⟨RX7, TX7, 4, rfl, in_X7, by decide, qw_mem (i := 110) (by decide +kernel) rfl⟩
theorem f_X4_114 : qFd RX4 114 2 13 := ⟨RX3, TX3, 14, rfl, in_X3, by decide, qw_mem (i := 312) (by decide +kernel) rfl⟩
theorem f_X4_117 : qFd RX4 117 6 3 := ⟨RX7, TX7, 4, rfl, in_X7, by decide, qw_mem (i := 122) (by decide +kernel) rfl⟩
theorem f_X4_120 : qFd RX4 120 0 1 := ⟨RX0, TX0, 6, rfl, in_X0, by decide, qw_mem (i := 141) (by decide +kernel) rfl⟩
theorem fp_X4_120 : qFp RX4 120 0 1 .int := ⟨RX0, TX0, 6, tyX0, rfl, in_X0, by decide, qw_mem (i := 141) (by decide +kernel) rfl, tyX0_ok, nmX0, rfl, by decide +kernel⟩
theorem f_X4_123 : qFd RX4 123 0 0 := ⟨RX0, TX0, 6, rfl, in_X0, by decide, qw_mem (i := 137) (by decide +kernel) rfl⟩
theorem f_X5_12 : qFd RX5 12 4 0 := ⟨RX5, TX5, 6, rfl, in_X5, by decide, qw_mem (i := 342) (by decide +kernel) rfl⟩
theorem f_X5_21 : qFd RX5 21 4 1 := ⟨RX5, TX5, 6, rfl, in_X5, by decide, qw_mem (i := 344) (by decide +kernel) rfl⟩
theorem f_X5_25 : qFd RX5 25 4 2 := ⟨RX5, TX5, 6, rfl, in_X5, by decide, qw_mem (i := 346) (by decide +kernel) rfl⟩
theorem fp_X5_25 : qFp RX5 25 4 2 .boolean := ⟨RX5, TX5, 6, tyX5, rfl, in_X5, by decide, qw_mem (i := 346) (by decide +kernel) rfl, tyX5_ok, nmX5, rfl, by decide +kernel⟩
theorem f_X5_29 : qFd RX5 29 4 3 := ⟨RX5, TX5, 6, rfl, in_X5, by decide, qw_mem (i := 347) (by decide +kernel) rfl⟩
theorem fp_X5_29 : qFp RX5 29 4 3 .int := ⟨RX5, TX5, 6, tyX5, rfl, in_X5, by decide, qw_mem (i := 347) (by decide +kernel) rfl, tyX5_ok, nmX5, rfl, by decide +kernel⟩
theorem f_X5_33 : qFd RX5 33 4 4 := ⟨RX5, TX5, 6, rfl, in_X5, by decide, qw_mem (i := 348) (by decide +kernel) rfl⟩
theorem fp_X5_33 : qFp RX5 33 4 4 .boolean := ⟨RX5, TX5, 6, tyX5, rfl, in_X5, by decide, qw_mem (i := 348) (by decide +kernel) rfl, tyX5_ok, nmX5, rfl, by decide +kernel⟩
theorem f_X5_36 : qFd RX5 36 4 5 := ⟨RX5, TX5, 6, rfl, in_X5, by decide, qw_mem (i := 349) (by decide +kernel) rfl⟩
theorem fp_X5_36 : qFp RX5 36 4 5 .int := ⟨RX5, TX5, 6, tyX5, rfl, in_X5, by decide, qw_mem (i := 349) (by decide +kernel) rfl, tyX5_ok, nmX5, rfl, by decide +kernel⟩
theorem f_X5_55 : qFd RX5 55 6 0 := ⟨RX7, TX7, 4, rfl, in_X7, by decide, qw_mem (i := 111) (by decide +kernel) rfl⟩
theorem f_X5_60 : qFd RX5 60 6 1 := ⟨RX7, TX7, 4, rfl, in_X7, by decide, qw_mem (i := 114) (by decide +kernel) rfl⟩
theorem f_X5_67 : qFd RX5 67 6 2 := ⟨RX7, TX7, 4, rfl, in_X7, by decide, qw_mem (i := 118) (by decide +kernel) rfl⟩
theorem f_X5_74 : qFd RX5 74 6 3 := ⟨RX7, TX7, 4, rfl, in_X7, by decide, qw_mem (i := 123) (by decide +kernel) rfl⟩
theorem f_X5_88 : qFd RX5 88 2 11 := ⟨RX3, TX3, 14, rfl, in_X3, by decide, qw_mem (i := 307) (by decide +kernel) rfl⟩
theorem f_X5_91 : qFd RX5 91 2 12 := ⟨RX3, TX3, 14, rfl, in_X3, by decide, qw_mem (i := 309) (by decide +kernel) rfl⟩
theorem f_X5_94 : qFd RX5 94 1 0 := ⟨RX2, TX2, 9, rfl, in_X2, by decide, qw_mem (i := 224) (by decide +kernel) rfl⟩
theorem f_X5_98 : qFd RX5 98 1 3 := ⟨RX2, TX2, 9, rfl, in_X2, by decide, qw_mem (i := 233) (by decide +kernel) rfl⟩
theorem f_X5_102 : qFd RX5 102 1 1 := ⟨RX2, TX2, 9, rfl, in_X2, by decide, qw_mem (i := 226) (by decide +kernel) rfl⟩
theorem f_X5_105 : qFd RX5 105 1 7 := ⟨RX2, TX2, 9, rfl, in_X2, by decide, qw_mem (i := 252) (by decide +kernel) rfl⟩
theorem f_X5_109 : qFd RX5 109 5 0 := ⟨RX6, TX6, 3, rfl, in_X6, by decide, qw_mem (i := 204) (by decide +kernel) rfl⟩
theorem f_X5_114 : qFd RX5 114 5 1 := ⟨RX6, TX6, 3, rfl, in_X6, by decide, qw_mem (i := 208) (by decide +kernel) rfl⟩
theorem f_X5_115 : qFd RX5 115 1 5 := ⟨RX2, TX2, 9, rfl, in_X2, by decide, qw_mem (i := 243) (by decide +kernel) rfl⟩
theorem f_X5_130 : qFd RX5 130 2 7 := ⟨RX3, TX3, 14, rfl, in_X3, by decide, qw_mem (i := 299) (by decide +kernel) rfl⟩
theorem f_X5_133 : qFd RX5 133 2 9 := ⟨RX3, TX3, 14, rfl, in_X3, by decide, qw_mem (i := 304) (by decide +kernel) rfl⟩
theorem f_X5_139 : qFd RX5 139 1 8 := ⟨RX2, TX2, 9, rfl, in_X2, by decide, qw_mem (i := 256) (by decide +kernel) rfl⟩
theorem f_X5_149 : qFd RX5 149 2 2 := ⟨RX3, TX3, 14, rfl, in_X3, by decide, qw_mem (i := 291) (by decide +kernel) rfl⟩
theorem f_X5_156 : qFd RX5 156 5 2 := ⟨RX6, TX6, 3, rfl, in_X6, by decide, qw_mem (i := 210) (by decide +kernel) rfl⟩
theorem f_X5_159 : qFd RX5 159 1 4 := ⟨RX2, TX2, 9, rfl, in_X2, by decide, qw_mem (i := 238) (by decide +kernel) rfl⟩
theorem f_X5_162 : qFd RX5 162 1 2 := ⟨RX2, TX2, 9, rfl, in_X2, by decide, qw_mem (i := 230) (by decide +kernel) rfl⟩
theorem f_X5_165 : qFd RX5 165 2 8 := ⟨RX3, TX3, 14, rfl, in_X3, by decide, qw_mem (i := 302) (by decide +kernel) rfl⟩
theorem f_X6_9 : qFd RX6 9 5 0 := ⟨RX6, TX6, 3, rfl, in_X6, by decide, qw_mem (i := 201) (by decide +kernel) rfl⟩
theorem f_X6_15 : qFd RX6 15 5 1 := ⟨RX6, TX6, 3, rfl, in_X6, by decide, qw_mem (i := 205) (by decide +kernel) rfl⟩
theorem f_X6_18 : qFd RX6 18 5 2 := ⟨RX6, TX6, 3, rfl, in_X6, by decide, qw_mem (i := 209) (by decide +kernel) rfl⟩
theorem f_X7_9 : qFd RX7 9 6 0 := ⟨RX7, TX7, 4, rfl, in_X7, by decide, qw_mem (i := 109) (by decide +kernel) rfl⟩
theorem fp_X7_9 : qFp RX7 9 6 0 .boolean := ⟨RX7, TX7, 4, tyX7, rfl, in_X7, by decide, qw_mem (i := 109) (by decide +kernel) rfl, tyX7_ok, nmX7, rfl, by decide +kernel⟩
theorem f_X7_15 : qFd RX7 15 6 1 := ⟨RX7, TX7, 4, rfl, in_X7, by decide, qw_mem (i := 113) (by decide +kernel) rfl⟩
theorem fp_X7_15 : qFp RX7 15 6 1 .int := ⟨RX7, TX7, 4, tyX7, rfl, in_X7, by decide, qw_mem (i := 113) (by decide +kernel) rfl, tyX7_ok, nmX7, rfl, by decide +kernel⟩
theorem f_X7_19 : qFd RX7 19 6 2 := ⟨RX7, TX7, 4, rfl, in_X7, by decide, qw_mem (i := 117) (by decide +kernel) rfl⟩
theorem fp_X7_19 : qFp RX7 19 6 2 .int := ⟨RX7, TX7, 4, tyX7, rfl, in_X7, by decide, qw_mem (i := 117) (by decide +kernel) rfl, tyX7_ok, nmX7, rfl, by decide +kernel⟩
theorem f_X7_22 : qFd RX7 22 6 3 := ⟨RX7, TX7, 4, rfl, in_X7, by decide, qw_mem (i := 121) (by decide +kernel) rfl⟩
theorem fp_X7_22 : qFp RX7 22 6 3 .int := ⟨RX7, TX7, 4, tyX7, rfl, in_X7, by decide, qw_mem (i := 121) (by decide +kernel) rfl, tyX7_ok, nmX7, rfl, by decide +kernel⟩
theorem f_X8_9 : qFd RX8 9 7 0 := ⟨RX8, TX8, 4, rfl, in_X8, by decide, qw_mem (i := 74) (by decide +kernel) rfl⟩
theorem fp_X8_9 : qFp RX8 9 7 0 .boolean := ⟨RX8, TX8, 4, tyX8, rfl, in_X8, by decide, qw_mem (i := 74) (by decide +kernel) rfl, tyX8_ok, nmX8, rfl, by decide +kernel⟩
theorem f_X8_15 : qFd RX8 15 7 1 := ⟨RX8, TX8, 4, rfl, in_X8, by decide, qw_mem (i := 76) (by decide +kernel) rfl⟩
theorem fp_X8_15 : qFp RX8 15 7 1 .int := ⟨RX8, TX8, 4, tyX8, rfl, in_X8, by decide, qw_mem (i := 76) (by decide +kernel) rfl, tyX8_ok, nmX8, rfl, by decide +kernel⟩
theorem f_X8_19 : qFd RX8 19 7 2 := ⟨RX8, TX8, 4, rfl, in_X8, by decide, qw_mem (i := 78) (by decide +kernel) rfl⟩
theorem fp_X8_19 : qFp RX8 19 7 2 .char := ⟨RX8, TX8, 4, tyX8, rfl, in_X8, by decide, qw_mem (i := 78) (by decide +kernel) rfl, tyX8_ok, nmX8, rfl, by decide +kernel⟩
theorem f_X8_23 : qFd RX8 23 7 3 := ⟨RX8, TX8, 4, rfl, in_X8, by decide, qw_mem (i := 80) (by decide +kernel) rfl⟩
theorem f_X8_27 : qFd RX8 27 0 0 := ⟨RX0, TX0, 6, rfl, in_X0, by decide, qw_mem (i := 136) (by decide +kernel) rfl⟩
theorem f_X8_39 : qFd RX8 39 0 1 := ⟨RX0, TX0, 6, rfl, in_X0, by decide, qw_mem (i := 140) (by decide +kernel) rfl⟩
theorem f_X8_42 : qFd RX8 42 0 2 := ⟨RX0, TX0, 6, rfl, in_X0, by decide, qw_mem (i := 144) (by decide +kernel) rfl⟩
theorem f_X8_45 : qFd RX8 45 0 3 := ⟨RX0, TX0, 6, rfl, in_X0, by decide, qw_mem (i := 146) (by decide +kernel) rfl⟩
theorem f_X8_48 : qFd RX8 48 0 4 := ⟨RX0, TX0, 6, rfl, in_X0, by decide, qw_mem (i := 148) (by decide +kernel) rfl⟩
theorem f_X8_51 : qFd RX8 51 0 5 := ⟨RX0, TX0, 6, rfl, in_X0, by decide, qw_mem (i := 150) (by decide +kernel) rfl⟩
theorem fn_X3_36 : Cond.fieldLinkNest RX3 36 RX9 "KINDS" "[C" "Linkwitness" ∈ q_nest := q_nest_mem (i := 283) (by decide +kernel) rfl
theorem fn_X4_63 : Cond.fieldLinkNest RX4 63 RX9 "PAIRS" "[I" "Linkwitness" ∈ q_nest := q_nest_mem (i := 790) (by decide +kernel) rfl
theorem fn_X4_88 : Cond.fieldLinkNest RX4 88 RX9 "KINDS" "[C" "Linkwitness" ∈ q_nest := q_nest_mem (i := 758) (by decide +kernel) rfl
theorem lk_X9_54 : Cond.methodLink RX9 54 yX9_needPlace ∈ qw := qw_mem (i := 488) (by decide +kernel) rfl
theorem lk_X9_58 : Cond.methodLink RX9 58 yX9_isType ∈ qw := qw_mem (i := 858) (by decide +kernel) rfl
theorem lk_X9_62 : Cond.methodLink RX9 62 yX9_needRange ∈ qw := qw_mem (i := 861) (by decide +kernel) rfl
theorem lk_X9_76 : Cond.methodLink RX9 76 yX2_renew ∈ qw := qw_mem (i := 879) (by decide +kernel) rfl
theorem lk_X9_80 : Cond.methodLink RX9 80 yX5_changed ∈ qw := qw_mem (i := 891) (by decide +kernel) rfl
theorem lk_X9_83 : Cond.methodLink RX9 83 yX9_needThere ∈ qw := qw_mem (i := 947) (by decide +kernel) rfl
theorem lk_X9_87 : Cond.methodLink RX9 87 yX2_flagsOf ∈ qw := qw_mem (i := 1001) (by decide +kernel) rfl
theorem lk_X9_94 : Cond.methodLink RX9 94 yX9_letter ∈ qw := qw_mem (i := 950) (by decide +kernel) rfl
theorem lk_X9_98 : Cond.methodLink RX9 98 yX9_isSight ∈ qw := qw_mem (i := 974) (by decide +kernel) rfl
theorem lk_X9_107 : Cond.methodLink RX9 107 yX9_with ∈ qw := qw_mem (i := 960) (by decide +kernel) rfl
theorem lk_X9_111 : Cond.methodLink RX9 111 yX9_has ∈ qw := qw_mem (i := 834) (by decide +kernel) rfl
theorem lk_X9_115 : Cond.methodLink RX9 115 yX9_isMember ∈ qw := qw_mem (i := 971) (by decide +kernel) rfl
theorem lk_X9_123 : Cond.methodLink RX9 123 yX9_memberPlace ∈ qw := qw_mem (i := 978) (by decide +kernel) rfl
theorem lk_X9_127 : Cond.methodLink RX9 127 yX6_put ∈ qw := qw_mem (i := 984) (by decide +kernel) rfl
theorem lk_X9_140 : Cond.methodLink RX9 140 yX5_become ∈ qw := qw_mem (i := 512) (by decide +kernel) rfl
theorem lk_X9_144 : Cond.methodLink RX9 144 yX2_typeCount ∈ qw := qw_mem (i := 528) (by decide +kernel) rfl
theorem lk_X9_148 : Cond.methodLink RX9 148 yX5_law ∈ qw := qw_mem (i := 541) (by decide +kernel) rfl
theorem lk_X9_151 : Cond.methodLink RX9 151 yX9_needSupport ∈ qw := qw_mem (i := 640) (by decide +kernel) rfl
theorem lk_X9_169 : Cond.methodLink RX9 169 yX0_clear ∈ qw := qw_mem (i := 1036) (by decide +kernel) rfl
theorem lk_X9_182 : Cond.methodLink RX9 182 yX7_clear ∈ qw := qw_mem (i := 1050) (by decide +kernel) rfl
theorem lk_X9_187 : Cond.methodLink RX9 187 yJ6_bitCount_0f7a4 ∈ qw := qw_mem (i := 1066) (by decide +kernel) rfl
theorem lk_X9_193 : Cond.methodLink RX9 193 yX9_needState ∈ qw := qw_mem (i := 1067) (by decide +kernel) rfl
theorem lk_X9_199 : Cond.methodLink RX9 199 yX9_memberIndex ∈ qw := qw_mem (i := 981) (by decide +kernel) rfl
theorem lk_X9_203 : Cond.methodLink RX9 203 yX9_nameOf ∈ qw := qw_mem (i := 1093) (by decide +kernel) rfl
theorem lk_X9_206 : Cond.methodLink RX9 206 yX9_kindIndex ∈ qw := qw_mem (i := 1105) (by decide +kernel) rfl
theorem lk_X9_210 : Cond.methodLink RX9 210 yX9_hasType ∈ qw := qw_mem (i := 1109) (by decide +kernel) rfl
theorem lk_X9_214 : Cond.methodLink RX9 214 yX9_hasMember ∈ qw := qw_mem (i := 1110) (by decide +kernel) rfl
theorem lk_X9_217 : Cond.methodLink RX9 217 yX9_hasObject ∈ qw := qw_mem (i := 1111) (by decide +kernel) rfl
theorem lk_X9_220 : Cond.methodLink RX9 220 yX9_rowOf ∈ qw := qw_mem (i := 1112) (by decide +kernel) rfl
theorem lk_X9_223 : Cond.methodLink RX9 223 yX0_add ∈ qw := qw_mem (i := 1115) (by decide +kernel) rfl
theorem lk_X9_227 : Cond.methodLink RX9 227 yX9_needElement ∈ qw := qw_mem (i := 720) (by decide +kernel) rfl
theorem lk_X9_238 : Cond.methodLink RX9 238 yX8_follow ∈ qw := qw_mem (i := 658) (by decide +kernel) rfl
theorem lk_X9_255 : Cond.methodLink RX9 255 yX4_find ∈ qw := qw_mem (i := 745) (by decide +kernel) rfl
theorem lk_X9_263 : Cond.methodLink RX9 263 yX0_become ∈ qw := qw_mem (i := 808) (by decide +kernel) rfl
theorem lk_X9_266 : Cond.methodLink RX9 266 yX9_stepOf ∈ qw := qw_mem (i := 839) (by decide +kernel) rfl
theorem lk_X9_269 : Cond.methodLink RX9 269 yX9_numberDue ∈ qw := qw_mem (i := 843) (by decide +kernel) rfl
theorem lk_X9_291 : Cond.methodLink RX9 291 yX9_areFittingsSound ∈ qw := qw_mem (i := 822) (by decide +kernel) rfl
theorem lk_X9_295 : Cond.methodLink RX9 295 yX9_doesFittingGoOn ∈ qw := qw_mem (i := 830) (by decide +kernel) rfl
theorem lk_X9_298 : Cond.methodLink RX9 298 yX9_areNumbersSound ∈ qw := qw_mem (i := 835) (by decide +kernel) rfl
theorem lk_X9_301 : Cond.methodLink RX9 301 yX9_doesLeastTell ∈ qw := qw_mem (i := 826) (by decide +kernel) rfl
theorem lk_X9_322 : Cond.methodLink RX9 322 yX9_sightRank ∈ qw := qw_mem (i := 977) (by decide +kernel) rfl
theorem lk_X0_35 : Cond.methodLink RX0 35 yX7_clear ∈ qw := qw_mem (i := 1040) (by decide +kernel) rfl
theorem lk_X0_38 : Cond.methodLink RX0 38 yX7_become ∈ qw := qw_mem (i := 812) (by decide +kernel) rfl
theorem lk_X0_42 : Cond.methodLink RX0 42 yX0_add ∈ qw := qw_mem (i := 813) (by decide +kernel) rfl
theorem lk_X1_15 : Cond.methodLink RX1 15 yX1_brokenBy ∈ qw := qw_mem (i := 592) (by decide +kernel) rfl
theorem lk_X1_48 : Cond.methodLink RX1 48 yX1_isBadlyMade ∈ qw := qw_mem (i := 596) (by decide +kernel) rfl
theorem lk_X1_52 : Cond.methodLink RX1 52 yX1_hasWrongMember ∈ qw := qw_mem (i := 599) (by decide +kernel) rfl
theorem lk_X1_55 : Cond.methodLink RX1 55 yX1_hasWrongAbstract ∈ qw := qw_mem (i := 602) (by decide +kernel) rfl
theorem lk_X1_58 : Cond.methodLink RX1 58 yX1_standsWrongly ∈ qw := qw_mem (i := 605) (by decide +kernel) rfl
theorem lk_X1_61 : Cond.methodLink RX1 61 yX1_hidesInterface ∈ qw := qw_mem (i := 614) (by decide +kernel) rfl
theorem lk_X1_68 : Cond.methodLink RX1 68 yX1_lacksMethod ∈ qw := qw_mem (i := 617) (by decide +kernel) rfl
theorem lk_X1_88 : Cond.methodLink RX1 88 yX1_clashes ∈ qw := qw_mem (i := 608) (by decide +kernel) rfl
theorem lk_X2_37 : Cond.methodLink RX2 37 yX6_init ∈ qw := qw_mem (i := 197) (by decide +kernel) rfl
theorem lk_X2_45 : Cond.methodLink RX2 45 yX6_clear ∈ qw := qw_mem (i := 883) (by decide +kernel) rfl
theorem lk_X2_55 : Cond.methodLink RX2 55 yX6_become ∈ qw := qw_mem (i := 523) (by decide +kernel) rfl
theorem lk_X3_55 : Cond.methodLink RX3 55 yX3_deriveAbove ∈ qw := qw_mem (i := 549) (by decide +kernel) rfl
theorem lk_X3_63 : Cond.methodLink RX3 63 yX3_deriveInterfaceMethods ∈ qw := qw_mem (i := 556) (by decide +kernel) rfl
theorem lk_X3_67 : Cond.methodLink RX3 67 yX3_walkChain ∈ qw := qw_mem (i := 563) (by decide +kernel) rfl
theorem lk_X3_71 : Cond.methodLink RX3 71 yX3_deriveChoices ∈ qw := qw_mem (i := 571) (by decide +kernel) rfl
theorem lk_X3_84 : Cond.methodLink RX3 84 yJ7_fill_53178 ∈ qw := qw_mem (i := 560) (by decide +kernel) rfl
theorem lk_X3_93 : Cond.methodLink RX3 93 yX3_noteMethods ∈ qw := qw_mem (i := 567) (by decide +kernel) rfl
theorem lk_X3_100 : Cond.methodLink RX3 100 yX3_nearest ∈ qw := qw_mem (i := 575) (by decide +kernel) rfl
theorem lk_X3_104 : Cond.methodLink RX3 104 yJ6_bitCount_0f7a4 ∈ qw := qw_mem (i := 579) (by decide +kernel) rfl
theorem lk_X3_109 : Cond.methodLink RX3 109 yX3_lowest ∈ qw := qw_mem (i := 585) (by decide +kernel) rfl
theorem lk_X3_112 : Cond.methodLink RX3 112 yX3_deriveFields ∈ qw := qw_mem (i := 624) (by decide +kernel) rfl
theorem lk_X3_128 : Cond.methodLink RX3 128 yX3_deriveUsable ∈ qw := qw_mem (i := 632) (by decide +kernel) rfl
theorem lk_X3_134 : Cond.methodLink RX3 134 yX3_inheritedField ∈ qw := qw_mem (i := 628) (by decide +kernel) rfl
theorem lk_X3_141 : Cond.methodLink RX3 141 yX3_isFarSeen ∈ qw := qw_mem (i := 636) (by decide +kernel) rfl
theorem lk_X4_37 : Cond.methodLink RX4 37 yX7_clear ∈ qw := qw_mem (i := 749) (by decide +kernel) rfl
theorem lk_X4_40 : Cond.methodLink RX4 40 yX5_load ∈ qw := qw_mem (i := 753) (by decide +kernel) rfl
theorem lk_X4_46 : Cond.methodLink RX4 46 yX4_tryActs ∈ qw := qw_mem (i := 754) (by decide +kernel) rfl
theorem lk_X4_50 : Cond.methodLink RX4 50 yX4_trySize ∈ qw := qw_mem (i := 786) (by decide +kernel) rfl
theorem lk_X4_67 : Cond.methodLink RX4 67 yJ6_bitCount_0f7a4 ∈ qw := qw_mem (i := 792) (by decide +kernel) rfl
theorem lk_X4_73 : Cond.methodLink RX4 73 yX5_mayBeAbove ∈ qw := qw_mem (i := 793) (by decide +kernel) rfl
theorem lk_X4_77 : Cond.methodLink RX4 77 yX7_set ∈ qw := qw_mem (i := 797) (by decide +kernel) rfl
theorem lk_X4_92 : Cond.methodLink RX4 92 yX4_worthTrying ∈ qw := qw_mem (i := 759) (by decide +kernel) rfl
theorem lk_X4_106 : Cond.methodLink RX4 106 yX5_perform ∈ qw := qw_mem (i := 773) (by decide +kernel) rfl
theorem lk_X4_110 : Cond.methodLink RX4 110 yX4_keep ∈ qw := qw_mem (i := 774) (by decide +kernel) rfl
theorem lk_X4_126 : Cond.methodLink RX4 126 yX7_become ∈ qw := qw_mem (i := 778) (by decide +kernel) rfl
theorem lk_X4_130 : Cond.methodLink RX4 130 yX0_add ∈ qw := qw_mem (i := 782) (by decide +kernel) rfl
theorem lk_X5_11 : Cond.methodLink RX5 11 yX2_init ∈ qw := qw_mem (i := 191) (by decide +kernel) rfl
theorem lk_X5_39 : Cond.methodLink RX5 39 yX2_become ∈ qw := qw_mem (i := 516) (by decide +kernel) rfl
theorem lk_X5_43 : Cond.methodLink RX5 43 yX3_derive ∈ qw := qw_mem (i := 545) (by decide +kernel) rfl
theorem lk_X5_46 : Cond.methodLink RX5 46 yX1_firstBroken ∈ qw := qw_mem (i := 589) (by decide +kernel) rfl
theorem lk_X5_52 : Cond.methodLink RX5 52 yX3_deriveLawful ∈ qw := qw_mem (i := 620) (by decide +kernel) rfl
theorem lk_X5_63 : Cond.methodLink RX5 63 yX5_aboveFault ∈ qw := qw_mem (i := 666) (by decide +kernel) rfl
theorem lk_X5_77 : Cond.methodLink RX5 77 yX5_isBarred ∈ qw := qw_mem (i := 671) (by decide +kernel) rfl
theorem lk_X5_80 : Cond.methodLink RX5 80 yX3_seat ∈ qw := qw_mem (i := 675) (by decide +kernel) rfl
theorem lk_X5_84 : Cond.methodLink RX5 84 yX3_deriveChoices ∈ qw := qw_mem (i := 679) (by decide +kernel) rfl
theorem lk_X5_118 : Cond.methodLink RX5 118 yX5_makingFault ∈ qw := qw_mem (i := 684) (by decide +kernel) rfl
theorem lk_X5_122 : Cond.methodLink RX5 122 yX5_typeFault ∈ qw := qw_mem (i := 688) (by decide +kernel) rfl
theorem lk_X5_136 : Cond.methodLink RX5 136 yX5_isClass ∈ qw := qw_mem (i := 695) (by decide +kernel) rfl
theorem lk_X5_142 : Cond.methodLink RX5 142 yX5_ownUseFault ∈ qw := qw_mem (i := 699) (by decide +kernel) rfl
theorem lk_X5_145 : Cond.methodLink RX5 145 yX5_useFault ∈ qw := qw_mem (i := 703) (by decide +kernel) rfl
theorem lk_X5_152 : Cond.methodLink RX5 152 yX5_dispatch ∈ qw := qw_mem (i := 707) (by decide +kernel) rfl
theorem lk_X6_22 : Cond.methodLink RX6 22 yX6_put ∈ qw := qw_mem (i := 887) (by decide +kernel) rfl
theorem lk_X8_33 : Cond.methodLink RX8 33 yX5_load ∈ qw := qw_mem (i := 662) (by decide +kernel) rfl
theorem lk_X8_54 : Cond.methodLink RX8 54 yX5_perform ∈ qw := qw_mem (i := 680) (by decide +kernel) rfl
theorem lk_L_11 : Cond.methodLink RL 11 yX9_type ∈ qw := qw_mem (i := 854) (by decide +kernel) rfl
theorem lk_L_27 : Cond.methodLink RL 27 yX9_flag ∈ qw := qw_mem (i := 997) (by decide +kernel) rfl
theorem lk_L_35 : Cond.methodLink RL 35 yX9_above ∈ qw := qw_mem (i := 943) (by decide +kernel) rfl
theorem lk_L_38 : Cond.methodLink RL 38 yX9_maker ∈ qw := qw_mem (i := 1008) (by decide +kernel) rfl
theorem lk_L_41 : Cond.methodLink RL 41 yX9_under ∈ qw := qw_mem (i := 956) (by decide +kernel) rfl
theorem lk_L_44 : Cond.methodLink RL 44 yX9_method ∈ qw := qw_mem (i := 967) (by decide +kernel) rfl
theorem lk_L_48 : Cond.methodLink RL 48 yX9_field ∈ qw := qw_mem (i := 989) (by decide +kernel) rfl
theorem lk_L_51 : Cond.methodLink RL 51 yX9_copy ∈ qw := qw_mem (i := 484) (by decide +kernel) rfl
theorem lk_L_55 : Cond.methodLink RL 55 yX9_check ∈ qw := qw_mem (i := 1019) (by decide +kernel) rfl
theorem lk_L_59 : Cond.methodLink RL 59 yX9_wipe ∈ qw := qw_mem (i := 1032) (by decide +kernel) rfl
theorem lk_L_62 : Cond.methodLink RL 62 yX9_own ∈ qw := qw_mem (i := 1046) (by decide +kernel) rfl
theorem lk_L_68 : Cond.methodLink RL 68 yX9_ownAbove ∈ qw := qw_mem (i := 1054) (by decide +kernel) rfl
theorem lk_L_72 : Cond.methodLink RL 72 yX9_ownUnder ∈ qw := qw_mem (i := 1062) (by decide +kernel) rfl
theorem lk_L_80 : Cond.methodLink RL 80 yX9_ownMethod ∈ qw := qw_mem (i := 1089) (by decide +kernel) rfl
theorem lk_L_84 : Cond.methodLink RL 84 yX9_act ∈ qw := qw_mem (i := 1101) (by decide +kernel) rfl
theorem lk_L_88 : Cond.methodLink RL 88 yX9_run ∈ qw := qw_mem (i := 537) (by decide +kernel) rfl
theorem lk_L_91 : Cond.methodLink RL 91 yX9_fault ∈ qw := qw_mem (i := 716) (by decide +kernel) rfl
theorem lk_L_95 : Cond.methodLink RL 95 yX9_fits ∈ qw := qw_mem (i := 741) (by decide +kernel) rfl
theorem lk_L_99 : Cond.methodLink RL 99 yX9_witness ∈ qw := qw_mem (i := 804) (by decide +kernel) rfl
theorem lk_L_109 : Cond.methodLink RL 109 yX9_isSound ∈ qw := qw_mem (i := 818) (by decide +kernel) rfl
theorem lk_L_113 : Cond.methodLink RL 113 yL_cell ∈ qw := qw_mem (i := 392) (by decide +kernel) rfl
theorem lk_L_117 : Cond.methodLink RL 117 yL_chosen ∈ qw := qw_mem (i := 398) (by decide +kernel) rfl
theorem lk_L_120 : Cond.methodLink RL 120 yL_type ∈ qw := qw_mem (i := 850) (by decide +kernel) rfl
theorem lk_L_124 : Cond.methodLink RL 124 yL_changes ∈ qw := qw_mem (i := 896) (by decide +kernel) rfl
theorem lk_L_130 : Cond.methodLink RL 130 yJ0_charAt_5068e ∈ qw := qw_mem (i := 900) (by decide +kernel) rfl
theorem lk_L_136 : Cond.methodLink RL 136 yL_above ∈ qw := qw_mem (i := 940) (by decide +kernel) rfl
theorem lk_L_138 : Cond.methodLink RL 138 yL_under ∈ qw := qw_mem (i := 953) (by decide +kernel) rfl
theorem lk_L_143 : Cond.methodLink RL 143 yL_method ∈ qw := qw_mem (i := 964) (by decide +kernel) rfl
theorem lk_L_148 : Cond.methodLink RL 148 yL_field ∈ qw := qw_mem (i := 986) (by decide +kernel) rfl
theorem lk_L_152 : Cond.methodLink RL 152 yL_flag ∈ qw := qw_mem (i := 994) (by decide +kernel) rfl
theorem lk_L_154 : Cond.methodLink RL 154 yL_maker ∈ qw := qw_mem (i := 1005) (by decide +kernel) rfl
theorem lk_L_158 : Cond.methodLink RL 158 yL_check ∈ qw := qw_mem (i := 1016) (by decide +kernel) rfl
theorem lk_L_167 : Cond.methodLink RL 167 yL_wipe ∈ qw := qw_mem (i := 1029) (by decide +kernel) rfl
theorem lk_L_171 : Cond.methodLink RL 171 yL_own ∈ qw := qw_mem (i := 1043) (by decide +kernel) rfl
theorem lk_L_174 : Cond.methodLink RL 174 yL_ownAbove ∈ qw := qw_mem (i := 1051) (by decide +kernel) rfl
theorem lk_L_177 : Cond.methodLink RL 177 yL_ownUnder ∈ qw := qw_mem (i := 1058) (by decide +kernel) rfl
theorem lk_L_180 : Cond.methodLink RL 180 yL_ownMethod ∈ qw := qw_mem (i := 1086) (by decide +kernel) rfl
theorem lk_L_187 : Cond.methodLink RL 187 yL_act ∈ qw := qw_mem (i := 1098) (by decide +kernel) rfl
theorem lk_L_190 : Cond.methodLink RL 190 yX9_init ∈ qw := qw_mem (i := 58) (by decide +kernel) rfl
theorem lk_L_191 : Cond.methodLink RL 191 yL_makes ∈ qw := qw_mem (i := 847) (by decide +kernel) rfl
theorem lk_L_195 : Cond.methodLink RL 195 yL_isMended ∈ qw := qw_mem (i := 1013) (by decide +kernel) rfl
theorem lk_L_199 : Cond.methodLink RL 199 yL_copy ∈ qw := qw_mem (i := 402) (by decide +kernel) rfl
theorem lk_L_202 : Cond.methodLink RL 202 yL_fits ∈ qw := qw_mem (i := 738) (by decide +kernel) rfl
theorem lk_L_204 : Cond.methodLink RL 204 yL_witness ∈ qw := qw_mem (i := 801) (by decide +kernel) rfl
theorem lk_L_207 : Cond.methodLink RL 207 yL_run ∈ qw := qw_mem (i := 533) (by decide +kernel) rfl
theorem lk_L_209 : Cond.methodLink RL 209 yL_fault ∈ qw := qw_mem (i := 712) (by decide +kernel) rfl
theorem lk_L_214 : Cond.methodLink RL 214 yL_asks ∈ qw := qw_mem (i := 1026) (by decide +kernel) rfl
theorem lk_L_218 : Cond.methodLink RL 218 yL_isSound ∈ qw := qw_mem (i := 815) (by decide +kernel) rfl
theorem ln_X9_30 : Cond.methodLinkNest RX9 30 yX8_init "Linkwitness" ∈ q_nest := q_nest_mem (i := 70) (by decide +kernel) rfl
theorem ln_X9_40 : Cond.methodLinkNest RX9 40 yX4_init "Linkwitness" ∈ q_nest := q_nest_mem (i := 93) (by decide +kernel) rfl
theorem ln_X9_52 : Cond.methodLinkNest RX9 52 yX5_init "Linkwitness" ∈ q_nest := q_nest_mem (i := 185) (by decide +kernel) rfl
theorem ln_X9_53 : Cond.methodLinkNest RX9 53 yX0_init "Linkwitness" ∈ q_nest := q_nest_mem (i := 363) (by decide +kernel) rfl
theorem ln_X0_11 : Cond.methodLinkNest RX0 11 yX7_init "Linkwitness" ∈ q_nest := q_nest_mem (i := 105) (by decide +kernel) rfl
theorem ln_X1_44 : Cond.methodLinkNest RX1 44 yX9_has "Linkwitness" ∈ q_nest := q_nest_mem (i := 595) (by decide +kernel) rfl
theorem ln_X1_92 : Cond.methodLinkNest RX1 92 yX9_sightRank "Linkwitness" ∈ q_nest := q_nest_mem (i := 611) (by decide +kernel) rfl
theorem ln_X3_80 : Cond.methodLinkNest RX3 80 yX9_has "Linkwitness" ∈ q_nest := q_nest_mem (i := 553) (by decide +kernel) rfl
theorem ln_X4_11 : Cond.methodLinkNest RX4 11 yX0_init "Linkwitness" ∈ q_nest := q_nest_mem (i := 99) (by decide +kernel) rfl
theorem ln_X4_20 : Cond.methodLinkNest RX4 20 yX7_init "Linkwitness" ∈ q_nest := q_nest_mem (i := 165) (by decide +kernel) rfl
theorem ln_X4_81 : Cond.methodLinkNest RX4 81 yX9_has "Linkwitness" ∈ q_nest := q_nest_mem (i := 772) (by decide +kernel) rfl
theorem ln_X4_96 : Cond.methodLinkNest RX4 96 yX9_hasMember "Linkwitness" ∈ q_nest := q_nest_mem (i := 763) (by decide +kernel) rfl
theorem ln_X4_100 : Cond.methodLinkNest RX4 100 yX9_hasType "Linkwitness" ∈ q_nest := q_nest_mem (i := 766) (by decide +kernel) rfl
theorem ln_X4_103 : Cond.methodLinkNest RX4 103 yX9_hasObject "Linkwitness" ∈ q_nest := q_nest_mem (i := 769) (by decide +kernel) rfl
theorem ln_X5_20 : Cond.methodLinkNest RX5 20 yX3_init "Linkwitness" ∈ q_nest := q_nest_mem (i := 279) (by decide +kernel) rfl
theorem ln_X5_70 : Cond.methodLinkNest RX5 70 yX9_has "Linkwitness" ∈ q_nest := q_nest_mem (i := 670) (by decide +kernel) rfl
theorem ln_X5_126 : Cond.methodLinkNest RX5 126 yX9_isCall "Linkwitness" ∈ q_nest := q_nest_mem (i := 692) (by decide +kernel) rfl
theorem cn_X4_32 : Cond.constant RX4 32 (1048576) ∈ qw := qw_mem (i := 166) (by decide +kernel) rfl
theorem cn_L_7 : Cond.constant RL 7 (16777619) ∈ qw := qw_mem (i := 395) (by decide +kernel) rfl
theorem cn_L_8 : Cond.constant RL 8 (69069) ∈ qw := qw_mem (i := 396) (by decide +kernel) rfl
theorem cn_L_9 : Cond.constant RL 9 (1103515245) ∈ qw := qw_mem (i := 397) (by decide +kernel) rfl
theorem cn_L_10 : Cond.constant RL 10 (2147483647) ∈ qw := qw_mem (i := 401) (by decide +kernel) rfl
theorem cn_L_123 : Cond.constant RL 123 (1000000) ∈ qw := qw_mem (i := 895) (by decide +kernel) rfl
theorem cn_L_169 : Cond.constant RL 169 (104729) ∈ qw := qw_mem (i := 1041) (by decide +kernel) rfl
theorem cn_L_170 : Cond.constant RL 170 (100000000) ∈ qw := qw_mem (i := 1042) (by decide +kernel) rfl
theorem cn_J6_265 : Cond.constant RJ6 265 (1431655765) ∈ qw := qw_mem (i := 582) (by decide +kernel) rfl
theorem cn_J6_266 : Cond.constant RJ6 266 (858993459) ∈ qw := qw_mem (i := 583) (by decide +kernel) rfl
theorem cn_J6_267 : Cond.constant RJ6 267 (252645135) ∈ qw := qw_mem (i := 584) (by decide +kernel) rfl
theorem cl_L_21 : Cond.constantLong RL 21 (-4000000000000000001) ∈ qw := qw_mem (i := 532) (by decide +kernel) rfl
theorem cl_L_25 : Cond.constantLong RL 25 (-4000000000000000002) ∈ qw := qw_mem (i := 711) (by decide +kernel) rfl
theorem cl_L_33 : Cond.constantLong RL 33 (-4000000000000000003) ∈ qw := qw_mem (i := 814) (by decide +kernel) rfl
theorem cl_L_78 : Cond.constantLong RL 78 (-4000000000000000004) ∈ qw := qw_mem (i := 1085) (by decide +kernel) rfl
theorem cl_L_161 : Cond.constantLong RL 161 (65) ∈ qw := qw_mem (i := 1023) (by decide +kernel) rfl
theorem cl_L_163 : Cond.constantLong RL 163 (100) ∈ qw := qw_mem (i := 1024) (by decide +kernel) rfl
theorem cl_L_165 : Cond.constantLong RL 165 (-1) ∈ qw := qw_mem (i := 1025) (by decide +kernel) rfl
theorem cl_L_212 : Cond.constantLong RL 212 (45) ∈ qw := qw_mem (i := 1116) (by decide +kernel) rfl
theorem m_J6_bitCount_0f7a4 : qMs yJ6_bitCount_0f7a4 cJ6_bitCount_0f7a4 1 (some .int) 1 := ⟨qw_mem (i := 580) (by decide +kernel) rfl, qw_mem (i := 51) (by decide +kernel) rfl, qw_mem (i := 581) (by decide +kernel) rfl, by decide, by decide, by decide +kernel⟩
theorem m_J7_fill_53178 : qMs yJ7_fill_53178 cJ7_fill_53178 4 none 2 := ⟨qw_mem (i := 561) (by decide +kernel) rfl, qw_mem (i := 50) (by decide +kernel) rfl, qw_mem (i := 562) (by decide +kernel) rfl, by decide, by decide, by decide +kernel⟩
theorem m_L_asks : qMs yL_asks cL_asks 9 (some .int) 5 := ⟨qw_mem (i := 1027) (by decide +kernel) rfl, qw_mem (i := 29) (by decide +kernel) rfl, qw_mem (i := 1028) (by decide +kernel) rfl, by decide, by decide, by decide +kernel⟩
theorem m_L_cell : qMs yL_cell cL_cell 7 (some .int) 2 := ⟨qw_mem (i := 393) (by decide +kernel) rfl, qw_mem (i := 29) (by decide +kernel) rfl, qw_mem (i := 394) (by decide +kernel) rfl, by decide, by decide, by decide +kernel⟩
theorem m_L_changes : qMs yL_changes cL_changes 9 none 3 := ⟨qw_mem (i := 897) (by decide +kernel) rfl, qw_mem (i := 29) (by decide +kernel) rfl, qw_mem (i := 898) (by decide +kernel) rfl, by decide, by decide, by decide +kernel⟩
theorem m_L_chosen : qMs yL_chosen cL_chosen 2 (some .int) 2 := ⟨qw_mem (i := 399) (by decide +kernel) rfl, qw_mem (i := 29) (by decide +kernel) rfl, qw_mem (i := 400) (by decide +kernel) rfl, by decide, by decide, by decide +kernel⟩
theorem m_L_isMended : qMs yL_isMended cL_isMended 3 (some .boolean) 2 := ⟨qw_mem (i := 1014) (by decide +kernel) rfl, qw_mem (i := 29) (by decide +kernel) rfl, qw_mem (i := 1015) (by decide +kernel) rfl, by decide, by decide, by decide +kernel⟩
theorem m_L_isSound : qMs yL_isSound cL_isSound 1 (some .long) 1 := ⟨qw_mem (i := 816) (by decide +kernel) rfl, qw_mem (i := 29) (by decide +kernel) rfl, qw_mem (i := 817) (by decide +kernel) rfl, by decide, by decide, by decide +kernel⟩
theorem m_L_makes : qMs yL_makes cL_makes 6 none 4 := ⟨qw_mem (i := 848) (by decide +kernel) rfl, qw_mem (i := 29) (by decide +kernel) rfl, qw_mem (i := 849) (by decide +kernel) rfl, by decide, by decide, by decide +kernel⟩
theorem m_X0_add : qMv yX0_add cX0_add 5 none 4 := ⟨qw_mem (i := 783) (by decide +kernel) rfl, qw_mem (i := 784) (by decide +kernel) rfl, qw_mem (i := 33) (by decide +kernel) rfl, qw_mem (i := 785) (by decide +kernel) rfl, by decide, by decide, by decide +kernel⟩
theorem m_X0_become : qMv yX0_become cX0_become 3 none 1 := ⟨qw_mem (i := 809) (by decide +kernel) rfl, qw_mem (i := 810) (by decide +kernel) rfl, qw_mem (i := 33) (by decide +kernel) rfl, qw_mem (i := 811) (by decide +kernel) rfl, by decide, by decide, by decide +kernel⟩
theorem m_X0_clear : qMv yX0_clear cX0_clear 1 none 0 := ⟨qw_mem (i := 1037) (by decide +kernel) rfl, qw_mem (i := 1038) (by decide +kernel) rfl, qw_mem (i := 33) (by decide +kernel) rfl, qw_mem (i := 1039) (by decide +kernel) rfl, by decide, by decide, by decide +kernel⟩
theorem m_X1_brokenBy : qMs yX1_brokenBy cX1_brokenBy 4 (some .int) 3 := ⟨qw_mem (i := 593) (by decide +kernel) rfl, qw_mem (i := 52) (by decide +kernel) rfl, qw_mem (i := 594) (by decide +kernel) rfl, by decide, by decide, by decide +kernel⟩
theorem m_X1_clashes : qMs yX1_clashes cX1_clashes 4 (some .boolean) 3 := ⟨qw_mem (i := 609) (by decide +kernel) rfl, qw_mem (i := 52) (by decide +kernel) rfl, qw_mem (i := 610) (by decide +kernel) rfl, by decide, by decide, by decide +kernel⟩
theorem m_X1_firstBroken : qMs yX1_firstBroken cX1_firstBroken 4 (some .int) 2 := ⟨qw_mem (i := 590) (by decide +kernel) rfl, qw_mem (i := 52) (by decide +kernel) rfl, qw_mem (i := 591) (by decide +kernel) rfl, by decide, by decide, by decide +kernel⟩
theorem m_X1_hasWrongAbstract : qMs yX1_hasWrongAbstract cX1_hasWrongAbstract 4 (some .boolean) 2 := ⟨qw_mem (i := 603) (by decide +kernel) rfl, qw_mem (i := 52) (by decide +kernel) rfl, qw_mem (i := 604) (by decide +kernel) rfl, by decide, by decide, by decide +kernel⟩
theorem m_X1_hasWrongMember : qMs yX1_hasWrongMember cX1_hasWrongMember 5 (some .boolean) 2 := ⟨qw_mem (i := 600) (by decide +kernel) rfl, qw_mem (i := 52) (by decide +kernel) rfl, qw_mem (i := 601) (by decide +kernel) rfl, by decide, by decide, by decide +kernel⟩
theorem m_X1_hidesInterface : qMs yX1_hidesInterface cX1_hidesInterface 7 (some .boolean) 3 := ⟨qw_mem (i := 615) (by decide +kernel) rfl, qw_mem (i := 52) (by decide +kernel) rfl, qw_mem (i := 616) (by decide +kernel) rfl, by decide, by decide, by decide +kernel⟩
theorem m_X1_isBadlyMade : qMs yX1_isBadlyMade cX1_isBadlyMade 3 (some .boolean) 2 := ⟨qw_mem (i := 597) (by decide +kernel) rfl, qw_mem (i := 52) (by decide +kernel) rfl, qw_mem (i := 598) (by decide +kernel) rfl, by decide, by decide, by decide +kernel⟩
theorem m_X1_lacksMethod : qMs yX1_lacksMethod cX1_lacksMethod 4 (some .boolean) 2 := ⟨qw_mem (i := 618) (by decide +kernel) rfl, qw_mem (i := 52) (by decide +kernel) rfl, qw_mem (i := 619) (by decide +kernel) rfl, by decide, by decide, by decide +kernel⟩
theorem m_X1_standsWrongly : qMs yX1_standsWrongly cX1_standsWrongly 5 (some .boolean) 2 := ⟨qw_mem (i := 606) (by decide +kernel) rfl, qw_mem (i := 52) (by decide +kernel) rfl, qw_mem (i := 607) (by decide +kernel) rfl, by decide, by decide, by decide +kernel⟩
theorem m_X2_become : qMv yX2_become cX2_become 2 none 1 := ⟨qw_mem (i := 517) (by decide +kernel) rfl, qw_mem (i := 518) (by decide +kernel) rfl, qw_mem (i := 36) (by decide +kernel) rfl, qw_mem (i := 519) (by decide +kernel) rfl, by decide, by decide, by decide +kernel⟩
theorem m_X2_flagsOf : qMv yX2_flagsOf cX2_flagsOf 2 (some (.array .boolean)) 1 := ⟨qw_mem (i := 1002) (by decide +kernel) rfl, qw_mem (i := 1003) (by decide +kernel) rfl, qw_mem (i := 36) (by decide +kernel) rfl, qw_mem (i := 1004) (by decide +kernel) rfl, by decide, by decide, by decide +kernel⟩
theorem m_X2_renew : qMv yX2_renew cX2_renew 3 none 2 := ⟨qw_mem (i := 880) (by decide +kernel) rfl, qw_mem (i := 881) (by decide +kernel) rfl, qw_mem (i := 36) (by decide +kernel) rfl, qw_mem (i := 882) (by decide +kernel) rfl, by decide, by decide, by decide +kernel⟩
theorem m_X2_typeCount : qMv yX2_typeCount cX2_typeCount 6 (some .int) 0 := ⟨qw_mem (i := 529) (by decide +kernel) rfl, qw_mem (i := 530) (by decide +kernel) rfl, qw_mem (i := 36) (by decide +kernel) rfl, qw_mem (i := 531) (by decide +kernel) rfl, by decide, by decide, by decide +kernel⟩
theorem m_X3_derive : qMv yX3_derive cX3_derive 3 none 1 := ⟨qw_mem (i := 546) (by decide +kernel) rfl, qw_mem (i := 547) (by decide +kernel) rfl, qw_mem (i := 38) (by decide +kernel) rfl, qw_mem (i := 548) (by decide +kernel) rfl, by decide, by decide, by decide +kernel⟩
theorem m_X3_deriveAbove : qMv yX3_deriveAbove cX3_deriveAbove 4 none 1 := ⟨qw_mem (i := 551) (by decide +kernel) rfl, qw_mem (i := 1) (by decide +kernel) rfl, qw_mem (i := 38) (by decide +kernel) rfl, qw_mem (i := 552) (by decide +kernel) rfl, by decide, by decide, by decide +kernel⟩
theorem m_X3_deriveChoices : qMv yX3_deriveChoices cX3_deriveChoices 9 none 2 := ⟨qw_mem (i := 572) (by decide +kernel) rfl, qw_mem (i := 573) (by decide +kernel) rfl, qw_mem (i := 38) (by decide +kernel) rfl, qw_mem (i := 574) (by decide +kernel) rfl, by decide, by decide, by decide +kernel⟩
theorem m_X3_deriveFields : qMv yX3_deriveFields cX3_deriveFields 5 none 2 := ⟨qw_mem (i := 626) (by decide +kernel) rfl, qw_mem (i := 7) (by decide +kernel) rfl, qw_mem (i := 38) (by decide +kernel) rfl, qw_mem (i := 627) (by decide +kernel) rfl, by decide, by decide, by decide +kernel⟩
theorem m_X3_deriveInterfaceMethods : qMv yX3_deriveInterfaceMethods cX3_deriveInterfaceMethods 5 none 1 := ⟨qw_mem (i := 558) (by decide +kernel) rfl, qw_mem (i := 2) (by decide +kernel) rfl, qw_mem (i := 38) (by decide +kernel) rfl, qw_mem (i := 559) (by decide +kernel) rfl, by decide, by decide, by decide +kernel⟩
theorem m_X3_deriveLawful : qMv yX3_deriveLawful cX3_deriveLawful 4 none 1 := ⟨qw_mem (i := 621) (by decide +kernel) rfl, qw_mem (i := 622) (by decide +kernel) rfl, qw_mem (i := 38) (by decide +kernel) rfl, qw_mem (i := 623) (by decide +kernel) rfl, by decide, by decide, by decide +kernel⟩
theorem m_X3_deriveUsable : qMv yX3_deriveUsable cX3_deriveUsable 5 none 1 := ⟨qw_mem (i := 634) (by decide +kernel) rfl, qw_mem (i := 9) (by decide +kernel) rfl, qw_mem (i := 38) (by decide +kernel) rfl, qw_mem (i := 635) (by decide +kernel) rfl, by decide, by decide, by decide +kernel⟩
theorem m_X3_inheritedField : qMv yX3_inheritedField cX3_inheritedField 5 (some .int) 3 := ⟨qw_mem (i := 630) (by decide +kernel) rfl, qw_mem (i := 8) (by decide +kernel) rfl, qw_mem (i := 38) (by decide +kernel) rfl, qw_mem (i := 631) (by decide +kernel) rfl, by decide, by decide, by decide +kernel⟩
theorem m_X3_isFarSeen : qMv yX3_isFarSeen cX3_isFarSeen 2 (some .boolean) 1 := ⟨qw_mem (i := 638) (by decide +kernel) rfl, qw_mem (i := 10) (by decide +kernel) rfl, qw_mem (i := 38) (by decide +kernel) rfl, qw_mem (i := 639) (by decide +kernel) rfl, by decide, by decide, by decide +kernel⟩
theorem m_X3_lowest : qMv yX3_lowest cX3_lowest 3 (some .int) 1 := ⟨qw_mem (i := 587) (by decide +kernel) rfl, qw_mem (i := 6) (by decide +kernel) rfl, qw_mem (i := 38) (by decide +kernel) rfl, qw_mem (i := 588) (by decide +kernel) rfl, by decide, by decide, by decide +kernel⟩
theorem m_X3_nearest : qMv yX3_nearest cX3_nearest 5 (some .int) 1 := ⟨qw_mem (i := 577) (by decide +kernel) rfl, qw_mem (i := 5) (by decide +kernel) rfl, qw_mem (i := 38) (by decide +kernel) rfl, qw_mem (i := 578) (by decide +kernel) rfl, by decide, by decide, by decide +kernel⟩
theorem m_X3_noteMethods : qMv yX3_noteMethods cX3_noteMethods 8 none 3 := ⟨qw_mem (i := 569) (by decide +kernel) rfl, qw_mem (i := 4) (by decide +kernel) rfl, qw_mem (i := 38) (by decide +kernel) rfl, qw_mem (i := 570) (by decide +kernel) rfl, by decide, by decide, by decide +kernel⟩
theorem m_X3_seat : qMv yX3_seat cX3_seat 5 none 1 := ⟨qw_mem (i := 676) (by decide +kernel) rfl, qw_mem (i := 677) (by decide +kernel) rfl, qw_mem (i := 38) (by decide +kernel) rfl, qw_mem (i := 678) (by decide +kernel) rfl, by decide, by decide, by decide +kernel⟩
theorem m_X3_walkChain : qMv yX3_walkChain cX3_walkChain 5 none 2 := ⟨qw_mem (i := 565) (by decide +kernel) rfl, qw_mem (i := 3) (by decide +kernel) rfl, qw_mem (i := 38) (by decide +kernel) rfl, qw_mem (i := 566) (by decide +kernel) rfl, by decide, by decide, by decide +kernel⟩
theorem m_X4_find : qMv yX4_find cX4_find 4 (some .int) 2 := ⟨qw_mem (i := 746) (by decide +kernel) rfl, qw_mem (i := 747) (by decide +kernel) rfl, qw_mem (i := 32) (by decide +kernel) rfl, qw_mem (i := 748) (by decide +kernel) rfl, by decide, by decide, by decide +kernel⟩
theorem m_X4_keep : qMv yX4_keep cX4_keep 6 none 5 := ⟨qw_mem (i := 776) (by decide +kernel) rfl, qw_mem (i := 21) (by decide +kernel) rfl, qw_mem (i := 32) (by decide +kernel) rfl, qw_mem (i := 777) (by decide +kernel) rfl, by decide, by decide, by decide +kernel⟩
theorem m_X4_tryActs : qMv yX4_tryActs cX4_tryActs 13 none 1 := ⟨qw_mem (i := 756) (by decide +kernel) rfl, qw_mem (i := 19) (by decide +kernel) rfl, qw_mem (i := 32) (by decide +kernel) rfl, qw_mem (i := 757) (by decide +kernel) rfl, by decide, by decide, by decide +kernel⟩
theorem m_X4_trySize : qMv yX4_trySize cX4_trySize 11 none 1 := ⟨qw_mem (i := 788) (by decide +kernel) rfl, qw_mem (i := 22) (by decide +kernel) rfl, qw_mem (i := 32) (by decide +kernel) rfl, qw_mem (i := 789) (by decide +kernel) rfl, by decide, by decide, by decide +kernel⟩
theorem m_X4_worthTrying : qMv yX4_worthTrying cX4_worthTrying 4 (some .int) 2 := ⟨qw_mem (i := 761) (by decide +kernel) rfl, qw_mem (i := 20) (by decide +kernel) rfl, qw_mem (i := 32) (by decide +kernel) rfl, qw_mem (i := 762) (by decide +kernel) rfl, by decide, by decide, by decide +kernel⟩
theorem m_X5_aboveFault : qMv yX5_aboveFault cX5_aboveFault 4 (some .char) 2 := ⟨qw_mem (i := 668) (by decide +kernel) rfl, qw_mem (i := 11) (by decide +kernel) rfl, qw_mem (i := 35) (by decide +kernel) rfl, qw_mem (i := 669) (by decide +kernel) rfl, by decide, by decide, by decide +kernel⟩
theorem m_X5_become : qMv yX5_become cX5_become 2 none 1 := ⟨qw_mem (i := 513) (by decide +kernel) rfl, qw_mem (i := 514) (by decide +kernel) rfl, qw_mem (i := 35) (by decide +kernel) rfl, qw_mem (i := 515) (by decide +kernel) rfl, by decide, by decide, by decide +kernel⟩
theorem m_X5_changed : qMv yX5_changed cX5_changed 1 none 0 := ⟨qw_mem (i := 892) (by decide +kernel) rfl, qw_mem (i := 893) (by decide +kernel) rfl, qw_mem (i := 35) (by decide +kernel) rfl, qw_mem (i := 894) (by decide +kernel) rfl, by decide, by decide, by decide +kernel⟩
theorem m_X5_dispatch : qMv yX5_dispatch cX5_dispatch 6 (some .int) 3 := ⟨qw_mem (i := 709) (by decide +kernel) rfl, qw_mem (i := 18) (by decide +kernel) rfl, qw_mem (i := 35) (by decide +kernel) rfl, qw_mem (i := 710) (by decide +kernel) rfl, by decide, by decide, by decide +kernel⟩
theorem m_X5_isBarred : qMv yX5_isBarred cX5_isBarred 7 (some .boolean) 2 := ⟨qw_mem (i := 673) (by decide +kernel) rfl, qw_mem (i := 12) (by decide +kernel) rfl, qw_mem (i := 35) (by decide +kernel) rfl, qw_mem (i := 674) (by decide +kernel) rfl, by decide, by decide, by decide +kernel⟩
theorem m_X5_isClass : qMv yX5_isClass cX5_isClass 2 (some .boolean) 1 := ⟨qw_mem (i := 697) (by decide +kernel) rfl, qw_mem (i := 15) (by decide +kernel) rfl, qw_mem (i := 35) (by decide +kernel) rfl, qw_mem (i := 698) (by decide +kernel) rfl, by decide, by decide, by decide +kernel⟩
theorem m_X5_law : qMv yX5_law cX5_law 1 (some .int) 0 := ⟨qw_mem (i := 542) (by decide +kernel) rfl, qw_mem (i := 543) (by decide +kernel) rfl, qw_mem (i := 35) (by decide +kernel) rfl, qw_mem (i := 544) (by decide +kernel) rfl, by decide, by decide, by decide +kernel⟩
theorem m_X5_load : qMv yX5_load cX5_load 4 (some .char) 1 := ⟨qw_mem (i := 663) (by decide +kernel) rfl, qw_mem (i := 664) (by decide +kernel) rfl, qw_mem (i := 35) (by decide +kernel) rfl, qw_mem (i := 665) (by decide +kernel) rfl, by decide, by decide, by decide +kernel⟩
theorem m_X5_makingFault : qMv yX5_makingFault cX5_makingFault 3 (some .char) 1 := ⟨qw_mem (i := 686) (by decide +kernel) rfl, qw_mem (i := 13) (by decide +kernel) rfl, qw_mem (i := 35) (by decide +kernel) rfl, qw_mem (i := 687) (by decide +kernel) rfl, by decide, by decide, by decide +kernel⟩
theorem m_X5_mayBeAbove : qMv yX5_mayBeAbove cX5_mayBeAbove 3 (some .boolean) 2 := ⟨qw_mem (i := 794) (by decide +kernel) rfl, qw_mem (i := 795) (by decide +kernel) rfl, qw_mem (i := 35) (by decide +kernel) rfl, qw_mem (i := 796) (by decide +kernel) rfl, by decide, by decide, by decide +kernel⟩
theorem m_X5_ownUseFault : qMv yX5_ownUseFault cX5_ownUseFault 2 (some .char) 1 := ⟨qw_mem (i := 701) (by decide +kernel) rfl, qw_mem (i := 16) (by decide +kernel) rfl, qw_mem (i := 35) (by decide +kernel) rfl, qw_mem (i := 702) (by decide +kernel) rfl, by decide, by decide, by decide +kernel⟩
theorem m_X5_perform : qMv yX5_perform cX5_perform 11 (some .int) 4 := ⟨qw_mem (i := 681) (by decide +kernel) rfl, qw_mem (i := 682) (by decide +kernel) rfl, qw_mem (i := 35) (by decide +kernel) rfl, qw_mem (i := 683) (by decide +kernel) rfl, by decide, by decide, by decide +kernel⟩
theorem m_X5_typeFault : qMv yX5_typeFault cX5_typeFault 5 (some .char) 2 := ⟨qw_mem (i := 690) (by decide +kernel) rfl, qw_mem (i := 14) (by decide +kernel) rfl, qw_mem (i := 35) (by decide +kernel) rfl, qw_mem (i := 691) (by decide +kernel) rfl, by decide, by decide, by decide +kernel⟩
theorem m_X5_useFault : qMv yX5_useFault cX5_useFault 12 (some .char) 5 := ⟨qw_mem (i := 705) (by decide +kernel) rfl, qw_mem (i := 17) (by decide +kernel) rfl, qw_mem (i := 35) (by decide +kernel) rfl, qw_mem (i := 706) (by decide +kernel) rfl, by decide, by decide, by decide +kernel⟩
theorem m_X6_become : qMv yX6_become cX6_become 2 none 1 := ⟨qw_mem (i := 524) (by decide +kernel) rfl, qw_mem (i := 525) (by decide +kernel) rfl, qw_mem (i := 37) (by decide +kernel) rfl, qw_mem (i := 526) (by decide +kernel) rfl, by decide, by decide, by decide +kernel⟩
theorem m_X6_clear : qMv yX6_clear cX6_clear 3 none 1 := ⟨qw_mem (i := 884) (by decide +kernel) rfl, qw_mem (i := 885) (by decide +kernel) rfl, qw_mem (i := 37) (by decide +kernel) rfl, qw_mem (i := 886) (by decide +kernel) rfl, by decide, by decide, by decide +kernel⟩
theorem m_X6_put : qMv yX6_put cX6_put 7 (some .char) 4 := ⟨qw_mem (i := 888) (by decide +kernel) rfl, qw_mem (i := 889) (by decide +kernel) rfl, qw_mem (i := 37) (by decide +kernel) rfl, qw_mem (i := 890) (by decide +kernel) rfl, by decide, by decide, by decide +kernel⟩
theorem m_X7_become : qMv yX7_become cX7_become 2 none 1 := ⟨qw_mem (i := 779) (by decide +kernel) rfl, qw_mem (i := 780) (by decide +kernel) rfl, qw_mem (i := 34) (by decide +kernel) rfl, qw_mem (i := 781) (by decide +kernel) rfl, by decide, by decide, by decide +kernel⟩
theorem m_X7_clear : qMv yX7_clear cX7_clear 1 none 0 := ⟨qw_mem (i := 750) (by decide +kernel) rfl, qw_mem (i := 751) (by decide +kernel) rfl, qw_mem (i := 34) (by decide +kernel) rfl, qw_mem (i := 752) (by decide +kernel) rfl, by decide, by decide, by decide +kernel⟩
theorem m_X7_set : qMv yX7_set cX7_set 4 none 3 := ⟨qw_mem (i := 798) (by decide +kernel) rfl, qw_mem (i := 799) (by decide +kernel) rfl, qw_mem (i := 34) (by decide +kernel) rfl, qw_mem (i := 800) (by decide +kernel) rfl, by decide, by decide, by decide +kernel⟩
theorem m_X8_follow : qMv yX8_follow cX8_follow 5 none 2 := ⟨qw_mem (i := 659) (by decide +kernel) rfl, qw_mem (i := 660) (by decide +kernel) rfl, qw_mem (i := 31) (by decide +kernel) rfl, qw_mem (i := 661) (by decide +kernel) rfl, by decide, by decide, by decide +kernel⟩
theorem m_X9_above : qMv yX9_above cX9_above 6 (some .char) 3 := ⟨qw_mem (i := 944) (by decide +kernel) rfl, qw_mem (i := 945) (by decide +kernel) rfl, qw_mem (i := 30) (by decide +kernel) rfl, qw_mem (i := 946) (by decide +kernel) rfl, by decide, by decide, by decide +kernel⟩
theorem m_X9_act : qMv yX9_act cX9_act 13 (some .int) 6 := ⟨qw_mem (i := 1102) (by decide +kernel) rfl, qw_mem (i := 1103) (by decide +kernel) rfl, qw_mem (i := 30) (by decide +kernel) rfl, qw_mem (i := 1104) (by decide +kernel) rfl, by decide, by decide, by decide +kernel⟩
theorem m_X9_areFittingsSound : qMv yX9_areFittingsSound cX9_areFittingsSound 4 (some .boolean) 0 := ⟨qw_mem (i := 824) (by decide +kernel) rfl, qw_mem (i := 23) (by decide +kernel) rfl, qw_mem (i := 30) (by decide +kernel) rfl, qw_mem (i := 825) (by decide +kernel) rfl, by decide, by decide, by decide +kernel⟩
theorem m_X9_areNumbersSound : qMv yX9_areNumbersSound cX9_areNumbersSound 4 (some .boolean) 0 := ⟨qw_mem (i := 837) (by decide +kernel) rfl, qw_mem (i := 26) (by decide +kernel) rfl, qw_mem (i := 30) (by decide +kernel) rfl, qw_mem (i := 838) (by decide +kernel) rfl, by decide, by decide, by decide +kernel⟩
theorem m_X9_check : qMv yX9_check cX9_check 2 (some .int) 1 := ⟨qw_mem (i := 1020) (by decide +kernel) rfl, qw_mem (i := 1021) (by decide +kernel) rfl, qw_mem (i := 30) (by decide +kernel) rfl, qw_mem (i := 1022) (by decide +kernel) rfl, by decide, by decide, by decide +kernel⟩
theorem m_X9_copy : qMv yX9_copy cX9_copy 3 (some .int) 2 := ⟨qw_mem (i := 485) (by decide +kernel) rfl, qw_mem (i := 486) (by decide +kernel) rfl, qw_mem (i := 30) (by decide +kernel) rfl, qw_mem (i := 487) (by decide +kernel) rfl, by decide, by decide, by decide +kernel⟩
theorem m_X9_doesFittingGoOn : qMv yX9_doesFittingGoOn cX9_doesFittingGoOn 3 (some .boolean) 0 := ⟨qw_mem (i := 832) (by decide +kernel) rfl, qw_mem (i := 25) (by decide +kernel) rfl, qw_mem (i := 30) (by decide +kernel) rfl, qw_mem (i := 833) (by decide +kernel) rfl, by decide, by decide, by decide +kernel⟩
theorem m_X9_doesLeastTell : qMv yX9_doesLeastTell cX9_doesLeastTell 3 (some .boolean) 2 := ⟨qw_mem (i := 828) (by decide +kernel) rfl, qw_mem (i := 24) (by decide +kernel) rfl, qw_mem (i := 30) (by decide +kernel) rfl, qw_mem (i := 829) (by decide +kernel) rfl, by decide, by decide, by decide +kernel⟩
theorem m_X9_fault : qMv yX9_fault cX9_fault 1 (some .char) 0 := ⟨qw_mem (i := 717) (by decide +kernel) rfl, qw_mem (i := 718) (by decide +kernel) rfl, qw_mem (i := 30) (by decide +kernel) rfl, qw_mem (i := 719) (by decide +kernel) rfl, by decide, by decide, by decide +kernel⟩
theorem m_X9_field : qMv yX9_field cX9_field 9 (some .char) 7 := ⟨qw_mem (i := 990) (by decide +kernel) rfl, qw_mem (i := 991) (by decide +kernel) rfl, qw_mem (i := 30) (by decide +kernel) rfl, qw_mem (i := 992) (by decide +kernel) rfl, by decide, by decide, by decide +kernel⟩
theorem m_X9_fits : qMv yX9_fits cX9_fits 3 (some .boolean) 2 := ⟨qw_mem (i := 742) (by decide +kernel) rfl, qw_mem (i := 743) (by decide +kernel) rfl, qw_mem (i := 30) (by decide +kernel) rfl, qw_mem (i := 744) (by decide +kernel) rfl, by decide, by decide, by decide +kernel⟩
theorem m_X9_flag : qMv yX9_flag cX9_flag 8 (some .boolean) 4 := ⟨qw_mem (i := 998) (by decide +kernel) rfl, qw_mem (i := 999) (by decide +kernel) rfl, qw_mem (i := 30) (by decide +kernel) rfl, qw_mem (i := 1000) (by decide +kernel) rfl, by decide, by decide, by decide +kernel⟩
theorem m_X9_has : qMs yX9_has cX9_has 2 (some .boolean) 2 := ⟨qw_mem (i := 554) (by decide +kernel) rfl, qw_mem (i := 30) (by decide +kernel) rfl, qw_mem (i := 555) (by decide +kernel) rfl, by decide, by decide, by decide +kernel⟩
theorem m_X9_hasMember : qMs yX9_hasMember cX9_hasMember 1 (some .boolean) 1 := ⟨qw_mem (i := 764) (by decide +kernel) rfl, qw_mem (i := 30) (by decide +kernel) rfl, qw_mem (i := 765) (by decide +kernel) rfl, by decide, by decide, by decide +kernel⟩
theorem m_X9_hasObject : qMs yX9_hasObject cX9_hasObject 1 (some .boolean) 1 := ⟨qw_mem (i := 770) (by decide +kernel) rfl, qw_mem (i := 30) (by decide +kernel) rfl, qw_mem (i := 771) (by decide +kernel) rfl, by decide, by decide, by decide +kernel⟩
theorem m_X9_hasType : qMs yX9_hasType cX9_hasType 1 (some .boolean) 1 := ⟨qw_mem (i := 767) (by decide +kernel) rfl, qw_mem (i := 30) (by decide +kernel) rfl, qw_mem (i := 768) (by decide +kernel) rfl, by decide, by decide, by decide +kernel⟩
theorem m_X9_isCall : qMs yX9_isCall cX9_isCall 1 (some .boolean) 1 := ⟨qw_mem (i := 693) (by decide +kernel) rfl, qw_mem (i := 30) (by decide +kernel) rfl, qw_mem (i := 694) (by decide +kernel) rfl, by decide, by decide, by decide +kernel⟩
theorem m_X9_isMember : qMs yX9_isMember cX9_isMember 2 (some .boolean) 2 := ⟨qw_mem (i := 972) (by decide +kernel) rfl, qw_mem (i := 30) (by decide +kernel) rfl, qw_mem (i := 973) (by decide +kernel) rfl, by decide, by decide, by decide +kernel⟩
theorem m_X9_isSight : qMs yX9_isSight cX9_isSight 1 (some .boolean) 1 := ⟨qw_mem (i := 975) (by decide +kernel) rfl, qw_mem (i := 30) (by decide +kernel) rfl, qw_mem (i := 976) (by decide +kernel) rfl, by decide, by decide, by decide +kernel⟩
theorem m_X9_isSound : qMv yX9_isSound cX9_isSound 1 (some .boolean) 0 := ⟨qw_mem (i := 819) (by decide +kernel) rfl, qw_mem (i := 820) (by decide +kernel) rfl, qw_mem (i := 30) (by decide +kernel) rfl, qw_mem (i := 821) (by decide +kernel) rfl, by decide, by decide, by decide +kernel⟩
theorem m_X9_isType : qMs yX9_isType cX9_isType 1 (some .boolean) 1 := ⟨qw_mem (i := 859) (by decide +kernel) rfl, qw_mem (i := 30) (by decide +kernel) rfl, qw_mem (i := 860) (by decide +kernel) rfl, by decide, by decide, by decide +kernel⟩
theorem m_X9_kindIndex : qMs yX9_kindIndex cX9_kindIndex 2 (some .int) 1 := ⟨qw_mem (i := 1106) (by decide +kernel) rfl, qw_mem (i := 30) (by decide +kernel) rfl, qw_mem (i := 1107) (by decide +kernel) rfl, by decide, by decide, by decide +kernel⟩
theorem m_X9_letter : qMs yX9_letter cX9_letter 1 (some .char) 1 := ⟨qw_mem (i := 951) (by decide +kernel) rfl, qw_mem (i := 30) (by decide +kernel) rfl, qw_mem (i := 952) (by decide +kernel) rfl, by decide, by decide, by decide +kernel⟩
theorem m_X9_maker : qMv yX9_maker cX9_maker 6 (some .char) 3 := ⟨qw_mem (i := 1009) (by decide +kernel) rfl, qw_mem (i := 1010) (by decide +kernel) rfl, qw_mem (i := 30) (by decide +kernel) rfl, qw_mem (i := 1011) (by decide +kernel) rfl, by decide, by decide, by decide +kernel⟩
theorem m_X9_memberIndex : qMs yX9_memberIndex cX9_memberIndex 2 (some .int) 2 := ⟨qw_mem (i := 982) (by decide +kernel) rfl, qw_mem (i := 30) (by decide +kernel) rfl, qw_mem (i := 983) (by decide +kernel) rfl, by decide, by decide, by decide +kernel⟩
theorem m_X9_memberPlace : qMs yX9_memberPlace cX9_memberPlace 3 (some .int) 3 := ⟨qw_mem (i := 979) (by decide +kernel) rfl, qw_mem (i := 30) (by decide +kernel) rfl, qw_mem (i := 980) (by decide +kernel) rfl, by decide, by decide, by decide +kernel⟩
theorem m_X9_method : qMv yX9_method cX9_method 9 (some .char) 7 := ⟨qw_mem (i := 968) (by decide +kernel) rfl, qw_mem (i := 969) (by decide +kernel) rfl, qw_mem (i := 30) (by decide +kernel) rfl, qw_mem (i := 970) (by decide +kernel) rfl, by decide, by decide, by decide +kernel⟩
theorem m_X9_nameOf : qMs yX9_nameOf cX9_nameOf 1 (some .char) 1 := ⟨qw_mem (i := 1094) (by decide +kernel) rfl, qw_mem (i := 30) (by decide +kernel) rfl, qw_mem (i := 1095) (by decide +kernel) rfl, by decide, by decide, by decide +kernel⟩
theorem m_X9_needElement : qMs yX9_needElement cX9_needElement 1 none 1 := ⟨qw_mem (i := 721) (by decide +kernel) rfl, qw_mem (i := 30) (by decide +kernel) rfl, qw_mem (i := 722) (by decide +kernel) rfl, by decide, by decide, by decide +kernel⟩
theorem m_X9_needPlace : qMs yX9_needPlace cX9_needPlace 2 none 2 := ⟨qw_mem (i := 489) (by decide +kernel) rfl, qw_mem (i := 30) (by decide +kernel) rfl, qw_mem (i := 490) (by decide +kernel) rfl, by decide, by decide, by decide +kernel⟩
theorem m_X9_needRange : qMs yX9_needRange cX9_needRange 1 none 1 := ⟨qw_mem (i := 862) (by decide +kernel) rfl, qw_mem (i := 30) (by decide +kernel) rfl, qw_mem (i := 863) (by decide +kernel) rfl, by decide, by decide, by decide +kernel⟩
theorem m_X9_needState : qMs yX9_needState cX9_needState 1 none 1 := ⟨qw_mem (i := 1068) (by decide +kernel) rfl, qw_mem (i := 30) (by decide +kernel) rfl, qw_mem (i := 1069) (by decide +kernel) rfl, by decide, by decide, by decide +kernel⟩
theorem m_X9_needSupport : qMs yX9_needSupport cX9_needSupport 1 none 1 := ⟨qw_mem (i := 641) (by decide +kernel) rfl, qw_mem (i := 30) (by decide +kernel) rfl, qw_mem (i := 642) (by decide +kernel) rfl, by decide, by decide, by decide +kernel⟩
theorem m_X9_needThere : qMs yX9_needThere cX9_needThere 2 none 2 := ⟨qw_mem (i := 948) (by decide +kernel) rfl, qw_mem (i := 30) (by decide +kernel) rfl, qw_mem (i := 949) (by decide +kernel) rfl, by decide, by decide, by decide +kernel⟩
theorem m_X9_numberDue : qMv yX9_numberDue cX9_numberDue 5 (some .int) 3 := ⟨qw_mem (i := 845) (by decide +kernel) rfl, qw_mem (i := 28) (by decide +kernel) rfl, qw_mem (i := 30) (by decide +kernel) rfl, qw_mem (i := 846) (by decide +kernel) rfl, by decide, by decide, by decide +kernel⟩
theorem m_X9_own : qMv yX9_own cX9_own 5 (some .boolean) 2 := ⟨qw_mem (i := 1047) (by decide +kernel) rfl, qw_mem (i := 1048) (by decide +kernel) rfl, qw_mem (i := 30) (by decide +kernel) rfl, qw_mem (i := 1049) (by decide +kernel) rfl, by decide, by decide, by decide +kernel⟩
theorem m_X9_ownAbove : qMv yX9_ownAbove cX9_ownAbove 5 (some .char) 2 := ⟨qw_mem (i := 1055) (by decide +kernel) rfl, qw_mem (i := 1056) (by decide +kernel) rfl, qw_mem (i := 30) (by decide +kernel) rfl, qw_mem (i := 1057) (by decide +kernel) rfl, by decide, by decide, by decide +kernel⟩
theorem m_X9_ownMethod : qMv yX9_ownMethod cX9_ownMethod 6 (some .char) 3 := ⟨qw_mem (i := 1090) (by decide +kernel) rfl, qw_mem (i := 1091) (by decide +kernel) rfl, qw_mem (i := 30) (by decide +kernel) rfl, qw_mem (i := 1092) (by decide +kernel) rfl, by decide, by decide, by decide +kernel⟩
theorem m_X9_ownUnder : qMv yX9_ownUnder cX9_ownUnder 7 (some .boolean) 3 := ⟨qw_mem (i := 1063) (by decide +kernel) rfl, qw_mem (i := 1064) (by decide +kernel) rfl, qw_mem (i := 30) (by decide +kernel) rfl, qw_mem (i := 1065) (by decide +kernel) rfl, by decide, by decide, by decide +kernel⟩
theorem m_X9_rowOf : qMs yX9_rowOf cX9_rowOf 1 (some .int) 1 := ⟨qw_mem (i := 1113) (by decide +kernel) rfl, qw_mem (i := 30) (by decide +kernel) rfl, qw_mem (i := 1114) (by decide +kernel) rfl, by decide, by decide, by decide +kernel⟩
theorem m_X9_run : qMv yX9_run cX9_run 3 (some .int) 2 := ⟨qw_mem (i := 538) (by decide +kernel) rfl, qw_mem (i := 539) (by decide +kernel) rfl, qw_mem (i := 30) (by decide +kernel) rfl, qw_mem (i := 540) (by decide +kernel) rfl, by decide, by decide, by decide +kernel⟩
theorem m_X9_sightRank : qMs yX9_sightRank cX9_sightRank 1 (some .int) 1 := ⟨qw_mem (i := 612) (by decide +kernel) rfl, qw_mem (i := 30) (by decide +kernel) rfl, qw_mem (i := 613) (by decide +kernel) rfl, by decide, by decide, by decide +kernel⟩
theorem m_X9_stepOf : qMv yX9_stepOf cX9_stepOf 2 (some .int) 1 := ⟨qw_mem (i := 841) (by decide +kernel) rfl, qw_mem (i := 27) (by decide +kernel) rfl, qw_mem (i := 30) (by decide +kernel) rfl, qw_mem (i := 842) (by decide +kernel) rfl, by decide, by decide, by decide +kernel⟩
theorem m_X9_type : qMv yX9_type cX9_type 6 (some .char) 3 := ⟨qw_mem (i := 855) (by decide +kernel) rfl, qw_mem (i := 856) (by decide +kernel) rfl, qw_mem (i := 30) (by decide +kernel) rfl, qw_mem (i := 857) (by decide +kernel) rfl, by decide, by decide, by decide +kernel⟩
theorem m_X9_under : qMv yX9_under cX9_under 7 (some .boolean) 4 := ⟨qw_mem (i := 957) (by decide +kernel) rfl, qw_mem (i := 958) (by decide +kernel) rfl, qw_mem (i := 30) (by decide +kernel) rfl, qw_mem (i := 959) (by decide +kernel) rfl, by decide, by decide, by decide +kernel⟩
theorem m_X9_wipe : qMv yX9_wipe cX9_wipe 3 (some .int) 1 := ⟨qw_mem (i := 1033) (by decide +kernel) rfl, qw_mem (i := 1034) (by decide +kernel) rfl, qw_mem (i := 30) (by decide +kernel) rfl, qw_mem (i := 1035) (by decide +kernel) rfl, by decide, by decide, by decide +kernel⟩
theorem m_X9_with : qMs yX9_with cX9_with 3 (some .int) 3 := ⟨qw_mem (i := 961) (by decide +kernel) rfl, qw_mem (i := 30) (by decide +kernel) rfl, qw_mem (i := 962) (by decide +kernel) rfl, by decide, by decide, by decide +kernel⟩
theorem m_X9_witness : qMv yX9_witness cX9_witness 5 (some .int) 3 := ⟨qw_mem (i := 805) (by decide +kernel) rfl, qw_mem (i := 806) (by decide +kernel) rfl, qw_mem (i := 30) (by decide +kernel) rfl, qw_mem (i := 807) (by decide +kernel) rfl, by decide, by decide, by decide +kernel⟩
end
section
section QMORE
variable {Γ : qG} {cc : ByteArray} {own : String} {nL : Nat} {rt : Option FieldType} {R : Room} {po : Option Value → qM → Prop} {pc n : Nat} {ls ls' : List (Nat × Value)} {st : List Value} {S : qM} {k : Nat × Nat}
theorem q_ldc_w (hC : qC Γ cc own nL rt R po) {i : Nat} {v : Int32} (hd : decode cc pc = .ok (.ldc_w i, 3)) (hw : Cond.constant own i v ∈ qw) (hn : pc + 3 = n) (kk : qV Γ R nL n ls (.int v :: st) S k) : qV Γ R nL pc ls st S k := by
  obtain ⟨⟨l, D, cy, ad, o⟩, ⟨p, e, s⟩, ⟨m, args, below, meth, c⟩, Q⟩ := Γ
  subst hn
  exact fun H locs la hP hS hl => lv_ldcw hC.1 hC.2.1 hC.2.2.2.1 (hC.2.2.2.2.1 _ hw) hd (kk H locs la hP hS hl)
end QMORE
theorem q_inl {a : Int32} {n : Nat} (h : ¬ (a < 0 ∨ n ≤ a.toNatClampNeg)) : vp_in a n := h
theorem q_locp {Γ : qG} {R : Room} {nL pc : Nat} {ls ls' : List (Nat × Value)} {st : List Value} {S : qM} {k : Nat × Nat} (ps : List Nat) (h : ps.map (fun j => ls[j]?) = ls'.map some) (kk : qV Γ R nL pc ls' st S k) : qV Γ R nL pc ls st S k := by
  refine q_loc (fun q hq => ?_) kk
  obtain ⟨n, hn⟩ := List.getElem?_of_mem hq
  have h1 : (ps.map (fun j => ls[j]?))[n]? = some (some q) := by rw [h, List.getElem?_map, hn]; rfl
  rw [List.getElem?_map] at h1
  cases hp : ps[n]? with
  | none => rw [hp] at h1; cases h1
  | some j => rw [hp] at h1; exact List.mem_of_getElem? (Option.some.inj h1)
theorem q_upup {S : qM} {k i : Nat} {f g : Nat → Int32} : q_up (q_up S k i f) k i g = q_up S k i g := by
  funext k' i'
  unfold q_up
  split <;> rfl
theorem z_updupd {f : Nat → Int32} {a : Nat} {x y : Int32} : upd (upd f a x) a y = upd f a y := by
  funext j
  unfold upd
  split <;> rfl
theorem z_upds {f : Nat → Int32} {a : Nat} {x : Int32} : upd f a x a = x := by simp [upd]
theorem q_put_i {Γ : qG} {cc : ByteArray} {own : String} {nL : Nat} {rt : Option FieldType} {R : Room} {po : Option Value → qM → Prop} {pc n : Nat} {ls : List (Nat × Value)} {st : List Value} {S : qM} {k : Nat × Nat} (hC : qC Γ cc own nL rt R po) {idx ci j t i : Nat} {fs : List Value} {ty : FieldType} {w : Int32} (hf : qFp own idx ci j ty) (hd : decode cc pc = .ok (.putfield idx, 3)) (he : q_enc (q_ad Γ) Γ.1.2.2.1 (S t i) t i = .inr (ci, fs)) (hs : q_enc (q_ad Γ) Γ.1.2.2.1 (upd (S t i) j w) t i = .inr (ci, fs.set j (.int w))) (hl0 : j < fs.length) (hnr : narrow ty (.int w) = .int w) (hft : fits ty (.int w) = true) (hi : i < q_cnt t) (hn : pc + 3 = n) (kk : qV Γ R nL n ls st (q_up S t i (upd (S t i) j w)) k) : qV Γ R nL pc ls (.int w :: .ref (q_ad Γ t i) :: st) S k :=
  q_put_f hC w hf hd he hs hl0 hnr hft hi hn kk
end
section
-- printed by wip/p36/gen_x.py: methods that throw, methods with handlers, the law's texts
def RJ1 : String := "java/lang/StringLatin1"
abbrev cJ1_charAt_3b067 : ByteArray := prog_29_method_2_code
def yJ1_charAt_3b067 : MethodName := ⟨RJ1, "charAt", "([BI)C"⟩
def RJ10 : String := "java/lang/System"
def RJ3 : String := "jdk/internal/util/Preconditions"
abbrev cJ3_checkIndex_8e157 : ByteArray := prog_38_method_11_code
def yJ3_checkIndex_8e157 : MethodName := ⟨RJ3, "checkIndex", "(IILjava/util/function/BiFunction;)I"⟩
theorem dJ1_charAt_3b067_0 : decode cJ1_charAt_3b067 0 = .ok (.iload_n 1, 1) := by decide +kernel
theorem dJ1_charAt_3b067_1 : decode cJ1_charAt_3b067 1 = .ok (.aload_n 0, 1) := by decide +kernel
theorem dJ1_charAt_3b067_2 : decode cJ1_charAt_3b067 2 = .ok (.arraylength, 1) := by decide +kernel
theorem dJ1_charAt_3b067_3 : decode cJ1_charAt_3b067 3 = .ok (.invokestatic 9, 3) := by decide +kernel
theorem dJ1_charAt_3b067_6 : decode cJ1_charAt_3b067 6 = .ok (.aload_n 0, 1) := by decide +kernel
theorem dJ1_charAt_3b067_7 : decode cJ1_charAt_3b067 7 = .ok (.iload_n 1, 1) := by decide +kernel
theorem dJ1_charAt_3b067_8 : decode cJ1_charAt_3b067 8 = .ok (.baload, 1) := by decide +kernel
theorem dJ1_charAt_3b067_9 : decode cJ1_charAt_3b067 9 = .ok (.sipush 255, 3) := by decide +kernel
theorem dJ1_charAt_3b067_12 : decode cJ1_charAt_3b067 12 = .ok (.iand, 1) := by decide +kernel
theorem dJ1_charAt_3b067_13 : decode cJ1_charAt_3b067 13 = .ok (.i2c, 1) := by decide +kernel
theorem dJ1_charAt_3b067_14 : decode cJ1_charAt_3b067 14 = .ok (.ireturn, 1) := by decide +kernel
theorem dJ3_checkIndex_8e157_0 : decode cJ3_checkIndex_8e157 0 = .ok (.iload_n 0, 1) := by decide +kernel
theorem dJ3_checkIndex_8e157_1 : decode cJ3_checkIndex_8e157 1 = .ok (.ifCond .lt 8, 3) := by decide +kernel
theorem dJ3_checkIndex_8e157_4 : decode cJ3_checkIndex_8e157 4 = .ok (.iload_n 0, 1) := by decide +kernel
theorem dJ3_checkIndex_8e157_5 : decode cJ3_checkIndex_8e157 5 = .ok (.iload_n 1, 1) := by decide +kernel
theorem dJ3_checkIndex_8e157_6 : decode cJ3_checkIndex_8e157 6 = .ok (.if_icmp .lt 10, 3) := by decide +kernel
theorem dJ3_checkIndex_8e157_9 : decode cJ3_checkIndex_8e157 9 = .ok (.aload_n 2, 1) := by decide +kernel
theorem dJ3_checkIndex_8e157_10 : decode cJ3_checkIndex_8e157 10 = .ok (.iload_n 0, 1) := by decide +kernel
theorem dJ3_checkIndex_8e157_11 : decode cJ3_checkIndex_8e157 11 = .ok (.iload_n 1, 1) := by decide +kernel
theorem dJ3_checkIndex_8e157_12 : decode cJ3_checkIndex_8e157 12 = .ok (.invokestatic 95, 3) := by decide +kernel
theorem dJ3_checkIndex_8e157_15 : decode cJ3_checkIndex_8e157 15 = .ok (.athrow, 1) := by decide +kernel
theorem dJ3_checkIndex_8e157_16 : decode cJ3_checkIndex_8e157 16 = .ok (.iload_n 0, 1) := by decide +kernel
theorem dJ3_checkIndex_8e157_17 : decode cJ3_checkIndex_8e157 17 = .ok (.ireturn, 1) := by decide +kernel
theorem q_in1 {ws B : List Cond} (ps : List Nat) (hp : ws = ps.filterMap (fun i => lw_tbl[i]?)) (hg : ws.all (fun w => decide (w ∈ B) || goodWord w) = true) : ∀ w ∈ ws, w ∈ B ∨ w ∈ qw := by
  intro w hw
  have h1 := List.all_eq_true.mp hg w hw
  rw [hp] at hw
  obtain ⟨i, -, hi⟩ := List.mem_filterMap.mp hw
  simp only [Bool.or_eq_true, decide_eq_true_eq] at h1
  rcases h1 with h1 | h1
  · exact Or.inl h1
  · exact Or.inr (qw_mem hi h1)
theorem q_castR {args : Array Value} {s : State} {E : String} {n : Nat} (h : (Cond.instantiable E n).before args s = true) : (Cond.castable E E).before args s = true := by
  obtain ⟨c, k, h1, -⟩ := Cond.instantiable_spec h
  simp [Cond.before, Cond.holds, Cond.value, h1, va_asg]
theorem q_declR {args : Array Value} {s : State} {x : MethodName} {cc : ByteArray} {nL : Nat} {ret : Option FieldType} (h1 : (Cond.instanceMethod x).before args s = true) (h2 : (Cond.code x cc nL ret).before args s = true) : (Cond.declares x).before args s = true := by
  obtain ⟨m, meth, hn, hm, hs, -⟩ := Cond.instanceMethod_spec h1
  obtain ⟨meth9, c, g1, -, -, -, -, -, -, g8⟩ := Cond.code_spec hn h2
  cases Option.some.inj (hm.symm.trans g1)
  simp [Cond.before, Cond.holds, Cond.value, hn, hm, hs, g8]
theorem im_rte : Cond.instanceMethod ⟨"java/lang/RuntimeException", "<init>", "()V"⟩ ∈ qw := qw_mem (i := 504) (by decide +kernel) rfl
theorem ic_rte : Cond.code ⟨"java/lang/RuntimeException", "<init>", "()V"⟩ prog_27_method_1_code 1 none ∈ qw := qw_mem (i := 505) (by decide +kernel) rfl
theorem im_exc : Cond.instanceMethod ⟨"java/lang/Exception", "<init>", "()V"⟩ ∈ qw := qw_mem (i := 507) (by decide +kernel) rfl
theorem ic_exc : Cond.code ⟨"java/lang/Exception", "<init>", "()V"⟩ prog_22_method_1_code 1 none ∈ qw := qw_mem (i := 508) (by decide +kernel) rfl
theorem im_thr : Cond.instanceMethod ⟨"java/lang/Throwable", "<init>", "()V"⟩ ∈ qw := qw_mem (i := 476) (by decide +kernel) rfl
theorem ic_thr : Cond.code ⟨"java/lang/Throwable", "<init>", "()V"⟩ prog_32_method_1_code 1 none ∈ qw := qw_mem (i := 477) (by decide +kernel) rfl
def q_dcl (E : String) : List Cond := [.castable E E, .declares (Bundle.init0 "java/lang/RuntimeException"), .declares (Bundle.init0 "java/lang/Exception"), .declares (Bundle.init0 "java/lang/Throwable")]
theorem q_dcl_ok {args : Array Value} {s : State} {E : String} (h : ∀ w ∈ qw, w.before args s = true) (hE : Cond.instantiable E 6 ∈ qw) : ∀ w ∈ q_dcl E, w.before args s = true := by
  intro w hw
  simp only [q_dcl, List.mem_cons, List.not_mem_nil, or_false] at hw
  rcases hw with rfl | rfl | rfl | rfl
  · exact q_castR (h _ hE)
  · exact q_declR (h _ im_rte) (h _ ic_rte)
  · exact q_declR (h _ im_exc) (h _ ic_exc)
  · exact q_declR (h _ im_thr) (h _ ic_thr)
theorem q_dcl_ot {E : String} : ∀ w ∈ q_dcl E, vx_ot w = true := by
  intro w hw
  simp only [q_dcl, List.mem_cons, List.not_mem_nil, or_false] at hw
  rcases hw with rfl | rfl | rfl | rfl <;> rfl
def q_nms : List String := ["java/lang/RuntimeException", "java/lang/Exception"]
set_option maxRecDepth 100000 in
theorem at0_nsee : ∀ w ∈ vx_at0 RX9 312 q_nsee q_nms, w ∈ q_dcl q_nsee ∨ w ∈ qw := q_in1 [39, 475, 427, 435, 438, 440, 476, 477, 62, 63, 421, 426, 436, 443, 469, 444, 470, 445, 471, 422, 424, 472, 733, 734, 735, 504, 462, 504, 505, 506, 507, 464, 507, 508, 509, 476, 466, 732, 724, 725, 726, 434, 727, 728, 729, 730, 441, 473, 731] (by decide +kernel) (by decide +kernel)
theorem ck_nsee : Cond.classLink RX9 310 q_nsee ∈ qw := qw_mem (i := 723) (by decide +kernel) rfl
theorem ini_nsee : Cond.initialized q_nsee ∈ qw := qw_mem (i := 49) (by decide +kernel) rfl
theorem ins_nsee : Cond.instantiable q_nsee 6 ∈ qw := qw_mem (i := 724) (by decide +kernel) rfl
set_option maxRecDepth 100000 in
theorem at0_iae : ∀ w ∈ vx_at0 RX9 309 q_iae q_nms, w ∈ q_dcl q_iae ∨ w ∈ qw := q_in1 [39, 475, 427, 435, 438, 440, 476, 477, 62, 63, 421, 426, 436, 443, 469, 444, 470, 445, 471, 422, 424, 472, 874, 875, 876, 504, 462, 504, 505, 506, 507, 464, 507, 508, 509, 476, 466, 873, 865, 866, 867, 430, 868, 869, 870, 871, 441, 473, 872] (by decide +kernel) (by decide +kernel)
theorem ck_iae : Cond.classLink RX9 307 q_iae ∈ qw := qw_mem (i := 864) (by decide +kernel) rfl
theorem ini_iae : Cond.initialized q_iae ∈ qw := qw_mem (i := 45) (by decide +kernel) rfl
theorem ins_iae : Cond.instantiable q_iae 6 ∈ qw := qw_mem (i := 865) (by decide +kernel) rfl
theorem cl_ioobe : Cond.classLink RL 17 q_ioobe ∈ qw := qw_mem (i := 405) (by decide +kernel) rfl
theorem cl_iae : Cond.classLink RL 23 q_iae ∈ qw := qw_mem (i := 853) (by decide +kernel) rfl
theorem cl_nsee : Cond.classLink RL 31 q_nsee ∈ qw := qw_mem (i := 715) (by decide +kernel) rfl
theorem cl_uoe : Cond.classLink RL 66 q_uoe ∈ qw := qw_mem (i := 536) (by decide +kernel) rfl
/-! ===== METHODS THAT THROW: always, under their pre, one class; what they leave, by post ===== -/
def qXC (L : qL) (A : Nat → Prop) (E : String) (po : qM → Prop) : String → State → State → Prop := fun E' st t =>
  E' = E ∧ (∃ S : qM, po S ∧ va_P L.2.1 q_cl (q_W L.2.2.2.1 L.2.2.1 S) t.heap) ∧ va_F A st t
def qNo : Option Value → qM → Prop := fun _ _ => False
def qCX (L : qL) (y : MethodName) (cc : ByteArray) (nL : Nat) (ret : Option FieldType) (rm : Room) {α : Type} (ar : (Nat → Nat → Nat) → qO → α → List Value) (pre : α → qM → Prop) (E : String) (post : α → qM → qM → Prop) : Prop :=
  ∀ (x : α) (S : qM) (sz : Nat), pre x S → vx_Met L.1 y (Cond.code y cc nL ret :: qw) rm
    (va_Pc (ar L.2.2.2.1 L.2.2.2.2 x) (fun U => U.heap.size = sz ∧ va_P L.2.1 q_cl (q_W L.2.2.2.1 L.2.2.1 S) U.heap ∧ va_K L.2.1 q_cl (q_tys L.2.2.1) U ∧ qN L.2.2.2.2 U ∧ qT L.2.2.2.2 (q_A L.2.2.2.1 sz) U U.heap))
    (fun _ _ _ _ => False) (qXC L (q_A L.2.2.2.1 sz) E (post x S)) rm.cells rm.slots (q_A L.2.2.2.1 sz)
def qX (Γ : qG) (R : Room) (E : String) (po : qM → Prop) : Prop :=
  match Γ with
  | ⟨⟨l, D, cy, ad, o⟩, ⟨_, _, s⟩, ⟨_, args, below, _, c⟩, Q⟩ =>
    (∀ x ∈ c.exceptionTable.toList, False) ∧ Q = vx_MQ below (fun _ _ _ _ => False) (qXC ⟨l, D, cy, ad, o⟩ (q_A ad s.heap.size) E po) args s R.cells R.slots (q_A ad s.heap.size)
theorem q_metX {L : qL} {y : MethodName} {cc : ByteArray} {nL : Nat} {ret : Option FieldType} {rm : Room} {α : Type} {ar : (Nat → Nat → Nat) → qO → α → List Value} {pre : α → qM → Prop} {E : String} {post : α → qM → qM → Prop}
    (hD : q_D L.2.2.2.1) (hy : plainName y.cls = true) (hlen : ∀ x, (lg_sl (ar L.2.2.2.1 L.2.2.2.2 x)).length ≤ nL)
    (body : ∀ (Γ : qG) (x : α) (S : qM), Γ.1 = L → pre x S → qC Γ cc y.cls nL ret rm qNo → qX Γ rm E (post x S) → qV Γ rm nL 0 (lv_args 0 (ar (q_ad Γ) (q_o Γ) x)) [] S (0, 0)) : qCX L y cc nL ret rm ar pre E post := by
  obtain ⟨l, D, cy, ad, o⟩ := L
  intro x S sz hpre
  refine vx_ofW (cc := cc) (maxL := nL) (ret := ret) hy rfl ?_
  intro p e s m args below meth c s₁ B hml htab hv
  obtain ⟨rfl, hsz, hP, hK, hN, hT⟩ := hv
  dsimp only at hsz hP hK hN hT hD
  subst hsz
  have hts := atoms_spec (ws := Cond.code y cc nL ret :: qw) B.pre
  have hown : s.vm.findClass y.cls = some m.cls := findClass_of_methodNamed B.named
  have hb := body ⟨⟨l, D, cy, ad, o⟩, ⟨p, e, s⟩, ⟨m, (ar ad o x).toArray, below, meth, c⟩, vx_MQ below (fun _ _ _ _ => False) (qXC ⟨l, D, cy, ad, o⟩ (q_A ad s.heap.size) E (post x S)) (ar ad o x).toArray s rm.cells rm.slots (q_A ad s.heap.size)⟩ x S rfl hpre
    ⟨B.exec, B.bytes, hml, hown, fun w hw => hts w (List.mem_cons_of_mem _ hw), B.returns, B.notSynchronized, hK, hD, hN, hT, fun t ht => by
      obtain ⟨o1, -, -, ⟨⟨v1, S1, -, hf, -⟩, -⟩, -⟩ := ht
      exact hf.elim⟩ ⟨htab, rfl⟩
  have hl := lv_entry (ar ad o x) (n := nL) (hlen x)
  rw [lg_entry_eq]
  exact hb s.heap [] _ hP va_S.rf hl
section QX
variable {Γ : qG} {cc : ByteArray} {own : String} {nL : Nat} {rt : Option FieldType} {R : Room} {po : Option Value → qM → Prop} {pc n : Nat} {ls ls' : List (Nat × Value)} {st : List Value} {S : qM} {k : Nat × Nat}
variable {y : MethodName} {c2 : ByteArray} {nL2 idx : Nat} {ret : Option FieldType} {rm : Room} {α : Type} {ar : (Nat → Nat → Nat) → qO → α → List Value} {pre : α → qM → Prop} {E : String} {post : α → qM → qM → Prop} {pox : qM → Prop}
theorem q_mono {k' : Nat × Nat} (h1 : k.1 ≤ k'.1) (h2 : k.2 ≤ k'.2) (kk : qV Γ R nL pc ls st S k') : qV Γ R nL pc ls st S k := by
  obtain ⟨⟨l, D, cy, ad, o⟩, ⟨p, e, s⟩, ⟨m, args, below, meth, c⟩, Q⟩ := Γ
  exact fun H locs la hP hS hl => W.widen h1 h2 (kk H locs la hP hS hl)
/-- a static call of a method that throws, not caught here -/
theorem q_xS {na : Nat} (hC : qC Γ cc own nL rt R po) (hX : qX Γ R E pox) (hM : qCX Γ.1 y c2 nL2 ret rm ar pre E post) (hms : qMs y c2 nL2 ret na) (hlk : Cond.methodLink own idx y ∈ qw) (hd : decode cc pc = .ok (.invokestatic idx, 3)) (x : α) {st2 : List Value} (hs : (ar (q_ad Γ) (q_o Γ) x).reverse ++ st2 = st) (has : (ar (q_ad Γ) (q_o Γ) x).length = na)
    (hcat : (st2.map fun v => v.category).sum ≤ 8) (hR : qRm rm R nL2 k) (hpre : pre x S) (hpost : ∀ S', post x S S' → pox S') : qV Γ R nL pc ls st S k := by
  obtain ⟨⟨l, D, cy, ad, o⟩, ⟨p, e, s⟩, ⟨m, args, below, meth, c⟩, Q⟩ := Γ
  obtain ⟨h1, h2, h3, h4, h5, h6, h7, h8, h9, h10, h11, h12⟩ := hC
  obtain ⟨m1, m2, m3, m4, m5, m6⟩ := hms
  obtain ⟨htab, hQ⟩ := hX
  subst hQ
  intro H locs la hP hS hl
  have hr := vx_runS (Ts := qw) (l := l) (e := e) (below := below) (meth := meth) (locs := locs) (cells := k.1) (slots := k.2) ⟨h1, h2, h3, h4, h5⟩ (hM x S H.size hpre) ⟨callB_of na h5 (qw_goodIn m3) rfl rfl rfl (h5 _ m2) (h5 _ hlk) ⟨m4, m5, m6⟩ hR.1, h5 _ m1⟩
    ⟨q_blind, fun U hU hW => ⟨rfl, by rw [hU], by rw [hU]; exact hP, va_K.moved hW.alike h8, qN.warm hW h10, q_TC h11 hS hU hW⟩⟩ (g := F0 m pc la st) rfl has hl.1 hs.symm (lv_room hcat) hd hR.2
  intro T hT X
  rcases hr T hT X with ⟨v, st₀, t, T', L, h0, X', hL, e1, e2, hf, stp⟩ | ⟨q, st₀, t, T', L, E', ce, h0, X', hL, e1, e2, ⟨hE9, ⟨S', hp, hP'⟩, hF⟩, hce, hcv, hcl, stp⟩
  · exact hf.elim
  · rw [hE9] at hcl
    obtain ⟨k1, k2, k3⟩ := vx_keep (A0 := q_A ad s.heap.size) h0 e1 hS (fun q _ z => q_AF hS.1 q z) (fun q z => q_AF hS.1 q z) hL hF
    obtain ⟨t2, a1, b1⟩ := vx_out (pc := pc) (ls := la) (rest := st2) (Qc := fun _ _ _ _ => False) (mc := R.cells) (ms := R.slots) (free := q_A ad s.heap.size) (H := T'.heap) (locs := locs ++ L) (fun z hz => (htab z hz).elim) h7 (by rw [e1]; exact hce) hcv hcl
      (XC := qXC ⟨l, D, cy, ad, o⟩ (q_A ad s.heap.size) E pox) (fun t3 ht3 _ => ⟨rfl, ⟨S', hpost S' hp, by rw [ht3, e1]; exact hP'⟩, k3.F ht3⟩) k3.2.2 hR.2.1 hR.2.2 T' rfl X'
    exact ⟨t2, stp.trans a1, b1⟩
/-- new X() thrown -/
theorem q_throw0 {ik ic : Nat} (hC : qC Γ cc own nL rt R po) (hX : qX Γ R E pox) (hl0 : Γ.1.1.stackTraces = false) (hE : Bundle.fit E = true) (hk : Cond.classLink own ik E ∈ qw) (hini : Cond.initialized E ∈ qw) (hat : ∀ w ∈ vx_at0 own ic E q_nms, w ∈ q_dcl E ∨ w ∈ qw) (hins : Cond.instantiable E 6 ∈ qw)
    (d0 : decode cc pc = .ok (.new ik, 3)) (d3 : decode cc (pc + 3) = .ok (.dup, 1)) (d4 : decode cc (pc + 4) = .ok (.invokespecial ic, 3)) (d7 : decode cc (pc + 7) = .ok (.athrow, 1))
    (hRf : 5 < R.frames) (hRl : (st.map fun v => v.category).sum + 81 ≤ R.locals) (hc : k.1 + 1 ≤ R.cells) (hs : k.2 + 6 ≤ R.slots) (hpo : pox S) : qV Γ R nL pc ls st S k := by
  obtain ⟨⟨l, D, cy, ad, o⟩, ⟨p, e, s⟩, ⟨m, args, below, meth, c⟩, Q⟩ := Γ
  obtain ⟨h1, h2, h3, h4, h5, h6, h7, h8, h9, h10, h11, h12⟩ := hC
  obtain ⟨htab, hQ⟩ := hX
  subst hQ
  intro H locs la hP hS hl
  have hg : ∀ w ∈ qw, vx_ot w = true := fun w hw => by
    have := (List.mem_filter.mp hw).2
    simp only [vx_ot, this, Bool.or_true]
  refine vx_throw0 (A := q_A ad s.heap.size) (names := q_nms) h1 h2 hl0 h4 hE (by decide) (h5 _ hk) (h5 _ hini) (fun w hw => (hat w hw).elim (fun z => q_dcl_ok h5 hins w z) (fun z => h5 w z)) (fun w hw => ?_) h11.2.2.2.1.1 h11.2.2.2.1.2 hS (hl.1.trans h3.symm) d0 d3 d4 d7 (fun z hz => (htab z hz).elim) hRf hRl hc hs h7 (fun t hv hz hq => ⟨rfl, ⟨S, hpo, hP.kept fun i q hi => hq _ (hP i q hi).lt⟩, ?_⟩) hS.2.2 hc hs
  · rcases List.mem_cons.mp hw with rfl | hw
    · exact hg _ hk
    · rcases List.mem_cons.mp hw with rfl | hw
      · exact hg _ hini
      · rcases hat w hw with z | z
        · exact q_dcl_ot w z
        · exact hg _ z
  · exact ⟨Nat.le_trans hS.1 hz, fun q h1 h2 => by rw [hq q (Nat.lt_of_lt_of_le h1 hS.1)]; exact hS.2.1 q h1 h2⟩
/-! ===== METHODS WITH HANDLERS ===== -/
def qCW (L : qL) (y : MethodName) (cc : ByteArray) (nL : Nat) (ret : Option FieldType) (hh : List (Nat × Nat × Nat × Nat)) (rm : Room) {α : Type} (ar : (Nat → Nat → Nat) → qO → α → List Value) (pre : α → qM → Prop) (post : α → qM → Option Value → qM → Prop) : Prop :=
  ∀ (x : α) (S : qM) (sz : Nat), pre x S → Met L.1 y (Cond.codeWith y cc nL ret hh :: qw) rm
    (va_Pc (ar L.2.2.2.1 L.2.2.2.2 x) (fun U => U.heap.size = sz ∧ va_P L.2.1 q_cl (q_W L.2.2.2.1 L.2.2.1 S) U.heap ∧ va_K L.2.1 q_cl (q_tys L.2.2.1) U ∧ qN L.2.2.2.2 U ∧ qT L.2.2.2.2 (q_A L.2.2.2.1 sz) U U.heap))
    (qQc L (q_A L.2.2.2.1 sz) (post x S)) rm.cells rm.slots (q_A L.2.2.2.1 sz)
def qTb (Γ : qG) (hh : List (Nat × Nat × Nat × Nat)) : Prop := Γ.2.2.1.2.2.2.2.exceptionTable.toList = tableOf hh
theorem q_metW {L : qL} {y : MethodName} {cc : ByteArray} {nL : Nat} {ret : Option FieldType} {hh : List (Nat × Nat × Nat × Nat)} {rm : Room} {α : Type} {ar : (Nat → Nat → Nat) → qO → α → List Value} {pre : α → qM → Prop} {post : α → qM → Option Value → qM → Prop}
    (hD : q_D L.2.2.2.1) (hy : plainName y.cls = true) (hlen : ∀ x, (lg_sl (ar L.2.2.2.1 L.2.2.2.2 x)).length ≤ nL)
    (body : ∀ (Γ : qG) (x : α) (S : qM), Γ.1 = L → pre x S → qC Γ cc y.cls nL ret rm (post x S) → qTb Γ hh → qV Γ rm nL 0 (lv_args 0 (ar (q_ad Γ) (q_o Γ) x)) [] S (0, 0)) : qCW L y cc nL ret hh rm ar pre post := by
  obtain ⟨l, D, cy, ad, o⟩ := L
  intro x S sz hpre
  refine va_MetW (cc := cc) (maxL := nL) (ret := ret) (hh := hh) hy rfl ?_
  intro p e s m args below meth c s₁ B hml hv
  obtain ⟨rfl, hsz, hP, hK, hN, hT⟩ := hv
  dsimp only at hsz hP hK hN hT hD
  subst hsz
  have hts := atoms_spec (ws := Cond.codeWith y cc nL ret hh :: qw) B.pre
  have hown : s.vm.findClass y.cls = some m.cls := findClass_of_methodNamed B.named
  have hb := body ⟨⟨l, D, cy, ad, o⟩, ⟨p, e, s⟩, ⟨m, (ar ad o x).toArray, below, meth, c⟩, MQ below (qQc ⟨l, D, cy, ad, o⟩ (q_A ad s.heap.size) (post x S)) (ar ad o x).toArray s rm.cells rm.slots (q_A ad s.heap.size)⟩ x S rfl hpre
    ⟨B.exec, B.bytes, hml, hown, fun w hw => hts w (List.mem_cons_of_mem _ hw), B.returns, B.notSynchronized, hK, hD, hN, hT, fun _ h => h⟩ (vx_table (x := y) B (hts _ List.mem_cons_self))
  have hl := lv_entry (ar ad o x) (n := nL) (hlen x)
  rw [lg_entry_eq]
  exact hb s.heap [] _ hP va_S.rf hl
def qMw (y : MethodName) (cc : ByteArray) (nL : Nat) (ret : Option FieldType) (n : Nat) (hh : List (Nat × Nat × Nat × Nat)) : Prop :=
  Cond.static y ∈ qw ∧ Cond.initialized y.cls ∈ qw ∧ Cond.codeWith y cc nL ret hh ∈ qw ∧ y.cls ≠ "java/lang/invoke/MethodHandle" ∧ y.cls ≠ "java/lang/invoke/VarHandle" ∧ (parseMethodDescriptor y.desc).map (fun d => d.parameters.length) = some n
theorem qw_goodW {hh : List (Nat × Nat × Nat × Nat)} {nL : Nat} {y : MethodName} {cc : ByteArray} {ret : Option FieldType} {own : String} {idx : Nat} (h : Cond.codeWith y cc nL ret hh ∈ qw) (h1 : Cond.methodLink own idx y ∈ qw) (h2 : Cond.static y ∈ qw) (h3 : Cond.initialized y.cls ∈ qw) : GoodIn qw (va_wsS own idx y (Cond.codeWith y cc nL ret hh :: qw)) := by
  intro w hw
  have hm : w ∈ qw := by
    simp only [va_wsS, List.mem_append, List.mem_cons, List.not_mem_nil, or_false] at hw
    rcases hw with hw | hw
    · rcases hw with rfl | rfl | rfl <;> assumption
    · rcases hw with rfl | hw
      · exact h
      · exact hw
  exact ⟨hm, good_of_word (List.mem_filter.mp hm).2⟩
theorem q_callSW {na : Nat} {hh : List (Nat × Nat × Nat × Nat)} {postv : α → qM → Option Value → qM → Prop} {k' : Nat × Nat} (hC : qC Γ cc own nL rt R po) (hM : qCW Γ.1 y c2 nL2 ret hh rm ar pre postv) (hms : qMw y c2 nL2 ret na hh) (hlk : Cond.methodLink own idx y ∈ qw) (hd : decode cc pc = .ok (.invokestatic idx, 3)) (x : α) {st2 : List Value} (hs : (ar (q_ad Γ) (q_o Γ) x).reverse ++ st2 = st) (has : (ar (q_ad Γ) (q_o Γ) x).length = na)
    (hcat : (st2.map fun v => v.category).sum ≤ 8) (hR : qRm rm R nL2 k) (hn : pc + 3 = n) (hk' : (k.1 + rm.cells, k.2 + rm.slots) = k') (hpre : pre x S) (kk : ∀ (v : Option Value) (S' : qM), postv x S v S' → qV Γ R nL n ls (v.toList ++ st2) S' k') : qV Γ R nL pc ls st S k := by
  refine q_goon (rm := rm) (post := postv) (x := x) (args9 := (ar (q_ad Γ) (q_o Γ) x).toArray) (fun H locs la hP hS hl => ?_) hn hk' kk
  obtain ⟨⟨l, D, cy, ad, o⟩, ⟨p, e, s⟩, ⟨m, args, below, meth, c⟩, Q⟩ := Γ
  obtain ⟨h1, h2, h3, h4, h5, h6, h7, h8, h9, h10, h11, h12⟩ := hC
  obtain ⟨m1, m2, m3, m4, m5, m6⟩ := hms
  exact vx_runSW (Ts := qw) ⟨h1, h2, h3, h4, h5⟩ (hM x S H.size hpre) (vx_cwSW na h5 (qw_goodW m3 hlk m1 m2) rfl rfl rfl ⟨m4, m5, m6⟩ hR.1)
    ⟨q_blind, fun U hU hW => ⟨rfl, by rw [hU], by rw [hU]; exact hP, va_K.moved hW.alike h8, qN.warm hW h10, q_TC h11 hS hU hW⟩⟩ rfl has hl.1 hs.symm (lv_room hcat) hd hR.2
/-- a call of an instance method that throws E, caught here by the row x of the table, the rows ahead naming other classes -/
theorem q_xcV {na t i ci hp ct : Nat} {fs As : List Value} {hh : List (Nat × Nat × Nat × Nat)} {k' : Nat × Nat} (hC : qC Γ cc own nL rt R po) (hTb : qTb Γ hh) (hM : qCX Γ.1 y c2 nL2 ret rm ar pre E post) (hms : qMv y c2 nL2 ret na) (hlk : Cond.methodLink own idx y ∈ qw) (hd : decode cc pc = .ok (.invokevirtual idx, 3)) (x : α) (hx : ar (q_ad Γ) (q_o Γ) x = .ref (q_ad Γ t i) :: As) {st2 : List Value} (hs : As.reverse ++ .ref (q_ad Γ t i) :: st2 = st) (has : As.length = na)
    (he : q_enc (q_ad Γ) Γ.1.2.2.1 (S t i) t i = .inr (ci, fs)) (hci : (q_cl[ci]?).map (fun q => q.1) = some y.cls) (hi : i < q_cnt t)
    (hcat : (st2.map fun v => v.category).sum ≤ 8) (hR : qRm rm R nL2 k) (hpre : pre x S)
    (hpa : List (Nat × Nat × Nat × Nat)) (hsu : List (Nat × Nat × Nat × Nat)) (a b : Nat) (hsp : hh = hpa ++ (a, b, hp, ct) :: hsu) (hpass : ∀ z ∈ hpa, z.2.2.2 ≠ 0 ∧ ∃ nm : String, Cond.classLink own z.2.2.2 nm ∈ qw ∧ ∀ U, qN (q_o Γ) U → va_Nc E nm U) (hcov : covers ⟨a, b, hp, ct⟩ pc = true) (h0 : ct ≠ 0)
    (hcl : Cond.classLink own ct E ∈ qw) (hins : Cond.instantiable E 6 ∈ qw) (hk' : (k.1 + rm.cells, k.2 + rm.slots) = k') (kk : ∀ (q : Nat) (S' : qM), post x S S' → qV Γ R nL hp ls [.ref q] S' k') : qV Γ R nL pc ls st S k := by
  obtain ⟨⟨l, D, cy, ad, o⟩, ⟨p, e, s⟩, ⟨m, args, below, meth, c⟩, Q⟩ := Γ
  obtain ⟨h1, h2, h3, h4, h5, h6, h7, h8, h9, h10, h11, h12⟩ := hC
  obtain ⟨m0, m1, m2, m3, m4, m5, m6⟩ := hms
  have hTb : c.exceptionTable.toList = tableOf hh := hTb
  subst hk'
  intro H locs la hP hS hl
  obtain ⟨q0, hq0, hq1⟩ := q_get (ad := ad) (cy := cy) (S := S) hi
  rw [show q_enc ad cy (S t i) t i = .inr (ci, fs) from he] at hq1
  have hx' : ar ad o x = .ref (ad t i) :: As := hx
  cases hc0 : q_cl[ci]? with
  | none => rw [hc0] at hci; cases hci
  | some q =>
    rw [hc0] at hci
    have hcl' : q.1 = y.cls := Option.some.inj hci
    have hrec := va_recv h8 hP hc0 hq1
    rw [hcl'] at hrec
    have hr := vx_runV (Ts := qw) (C := y.cls) (l := l) (e := e) (below := below) (meth := meth) (locs := locs) (cells := k.1) (slots := k.2) ⟨h1, h2, h3, h4, h5⟩ (hM x S H.size hpre) ⟨callB_of na h5 (qw_goodIn m3) rfl rfl rfl (h5 _ m2) (h5 _ hlk) ⟨m4, m5, m6⟩ hR.1, h5 _ m0, h5 _ m1⟩
      ⟨q_blind, hrec, fun U hU hW => ⟨(congrArg List.toArray hx').symm, by rw [hU], by rw [hU]; exact hP, va_K.moved hW.alike h8, qN.warm hW h10, q_TC h11 hS hU hW⟩⟩ (g := F0 m pc la st) rfl has hl.1 hs.symm (lv_room hcat) hd hR.2
    intro T hT X
    rcases hr T hT X with ⟨v, st₀, t, T', L, h0', X', hL, e1, e2, hf, stp⟩ | ⟨q9, st₀, t, T', L, E', ce, h0', X', hL, e1, e2, ⟨hE9, ⟨S', hp', hP'⟩, hF⟩, hce, hcv, hcl9, stp⟩
    · exact hf.elim
    · rw [hE9] at hcl9
      obtain ⟨k1, k2, k3⟩ := vx_keep (A0 := q_A ad s.heap.size) h0' e1 hS (fun q _ z => q_AF hS.1 q z) (fun q z => q_AF hS.1 q z) hL hF
      have hcat := vx_catch (p := p) (l := l) (e := e) (R := R) (s := s) (m := m) (args := args) (below := below) (meth := meth) (c := c) (H := T'.heap) (locs := locs ++ L) (cells := k.1 + rm.cells) (slots := k.2 + rm.slots) (Q := Q) (pc := pc) (ls := la) (rest := st2) (own := own) (name := E) (E := E) (ce := ce) (q := q9) h4 (tableOf hpa) ⟨a, b, hp, ct⟩ (tableOf hsu)
        (by rw [hTb, hsp]; simp [tableOf]) (fun z hz => by
          obtain ⟨w, hw, rfl⟩ := List.mem_map.mp hz
          obtain ⟨z1, nm, z2, z3⟩ := hpass w hw
          exact Or.inr ⟨z1, nm, h5 _ z2, z3 s h10⟩) hcov h0 (h5 _ hcl) (q_castR (h5 _ hins)) (by rw [e1]; exact hce) hcv hcl9
        (kk q9 S' hp' T'.heap (locs ++ L) la (by rw [e1]; exact hP') k3 hl)
      obtain ⟨t2, a1, b1⟩ := hcat T' rfl X'
      exact ⟨t2, stp.trans a1, b1⟩
end QX
def hh_L_above : List (Nat × Nat × Nat × Nat) := [(0, 8, 9, 17), (0, 8, 15, 23), (0, 8, 21, 31)]
theorem mw_L_above : qMw yL_above cL_above 5 (some .long) 4 hh_L_above := ⟨qw_mem (i := 941) (by decide +kernel) rfl, qw_mem (i := 29) (by decide +kernel) rfl, qw_mem (i := 942) (by decide +kernel) rfl, by decide, by decide, by decide +kernel⟩
def hh_L_act : List (Nat × Nat × Nat × Nat) := [(0, 14, 15, 17), (0, 14, 21, 23), (0, 14, 27, 76)]
theorem mw_L_act : qMw yL_act cL_act 8 (some .long) 7 hh_L_act := ⟨qw_mem (i := 1099) (by decide +kernel) rfl, qw_mem (i := 29) (by decide +kernel) rfl, qw_mem (i := 1100) (by decide +kernel) rfl, by decide, by decide, by decide +kernel⟩
def hh_L_check : List (Nat × Nat × Nat × Nat) := [(0, 6, 7, 17)]
theorem mw_L_check : qMw yL_check cL_check 3 (some .long) 2 hh_L_check := ⟨qw_mem (i := 1017) (by decide +kernel) rfl, qw_mem (i := 29) (by decide +kernel) rfl, qw_mem (i := 1018) (by decide +kernel) rfl, by decide, by decide, by decide +kernel⟩
def hh_L_copy : List (Nat × Nat × Nat × Nat) := [(0, 7, 8, 17)]
theorem mw_L_copy : qMw yL_copy cL_copy 4 (some .long) 3 hh_L_copy := ⟨qw_mem (i := 403) (by decide +kernel) rfl, qw_mem (i := 29) (by decide +kernel) rfl, qw_mem (i := 404) (by decide +kernel) rfl, by decide, by decide, by decide +kernel⟩
def hh_L_fault : List (Nat × Nat × Nat × Nat) := [(0, 5, 6, 31)]
theorem mw_L_fault : qMw yL_fault cL_fault 2 (some .long) 1 hh_L_fault := ⟨qw_mem (i := 713) (by decide +kernel) rfl, qw_mem (i := 29) (by decide +kernel) rfl, qw_mem (i := 714) (by decide +kernel) rfl, by decide, by decide, by decide +kernel⟩
def hh_L_field : List (Nat × Nat × Nat × Nat) := [(0, 16, 17, 17), (0, 16, 23, 23), (0, 16, 29, 31)]
theorem mw_L_field : qMw yL_field cL_field 9 (some .long) 8 hh_L_field := ⟨qw_mem (i := 987) (by decide +kernel) rfl, qw_mem (i := 29) (by decide +kernel) rfl, qw_mem (i := 988) (by decide +kernel) rfl, by decide, by decide, by decide +kernel⟩
def hh_L_fits : List (Nat × Nat × Nat × Nat) := [(0, 14, 15, 17), (0, 14, 20, 66)]
theorem mw_L_fits : qMw yL_fits cL_fits 4 (some .long) 3 hh_L_fits := ⟨qw_mem (i := 739) (by decide +kernel) rfl, qw_mem (i := 29) (by decide +kernel) rfl, qw_mem (i := 740) (by decide +kernel) rfl, by decide, by decide, by decide +kernel⟩
def hh_L_flag : List (Nat × Nat × Nat × Nat) := [(0, 17, 18, 17), (0, 17, 24, 23), (0, 17, 30, 31)]
theorem mw_L_flag : qMw yL_flag cL_flag 6 (some .long) 5 hh_L_flag := ⟨qw_mem (i := 995) (by decide +kernel) rfl, qw_mem (i := 29) (by decide +kernel) rfl, qw_mem (i := 996) (by decide +kernel) rfl, by decide, by decide, by decide +kernel⟩
def hh_L_maker : List (Nat × Nat × Nat × Nat) := [(0, 8, 9, 17), (0, 8, 15, 23), (0, 8, 21, 31)]
theorem mw_L_maker : qMw yL_maker cL_maker 5 (some .long) 4 hh_L_maker := ⟨qw_mem (i := 1006) (by decide +kernel) rfl, qw_mem (i := 29) (by decide +kernel) rfl, qw_mem (i := 1007) (by decide +kernel) rfl, by decide, by decide, by decide +kernel⟩
def hh_L_method : List (Nat × Nat × Nat × Nat) := [(0, 16, 17, 17), (0, 16, 23, 23), (0, 16, 29, 31)]
theorem mw_L_method : qMw yL_method cL_method 9 (some .long) 8 hh_L_method := ⟨qw_mem (i := 965) (by decide +kernel) rfl, qw_mem (i := 29) (by decide +kernel) rfl, qw_mem (i := 966) (by decide +kernel) rfl, by decide, by decide, by decide +kernel⟩
def hh_L_own : List (Nat × Nat × Nat × Nat) := [(0, 14, 15, 17), (0, 14, 20, 66)]
theorem mw_L_own : qMw yL_own cL_own 4 (some .long) 3 hh_L_own := ⟨qw_mem (i := 1044) (by decide +kernel) rfl, qw_mem (i := 29) (by decide +kernel) rfl, qw_mem (i := 1045) (by decide +kernel) rfl, by decide, by decide, by decide +kernel⟩
def hh_L_ownAbove : List (Nat × Nat × Nat × Nat) := [(0, 7, 8, 17), (0, 7, 13, 23), (0, 7, 18, 66)]
theorem mw_L_ownAbove : qMw yL_ownAbove cL_ownAbove 4 (some .long) 3 hh_L_ownAbove := ⟨qw_mem (i := 1052) (by decide +kernel) rfl, qw_mem (i := 29) (by decide +kernel) rfl, qw_mem (i := 1053) (by decide +kernel) rfl, by decide, by decide, by decide +kernel⟩
def hh_L_ownMethod : List (Nat × Nat × Nat × Nat) := [(0, 8, 9, 17), (0, 8, 15, 23), (0, 8, 21, 66)]
theorem mw_L_ownMethod : qMw yL_ownMethod cL_ownMethod 5 (some .long) 4 hh_L_ownMethod := ⟨qw_mem (i := 1087) (by decide +kernel) rfl, qw_mem (i := 29) (by decide +kernel) rfl, qw_mem (i := 1088) (by decide +kernel) rfl, by decide, by decide, by decide +kernel⟩
def hh_L_ownUnder : List (Nat × Nat × Nat × Nat) := [(0, 15, 16, 17), (0, 15, 22, 23), (0, 15, 28, 66), (0, 15, 34, 76)]
theorem mw_L_ownUnder : qMw yL_ownUnder cL_ownUnder 5 (some .long) 4 hh_L_ownUnder := ⟨qw_mem (i := 1059) (by decide +kernel) rfl, qw_mem (i := 29) (by decide +kernel) rfl, qw_mem (i := 1060) (by decide +kernel) rfl, by decide, by decide, by decide +kernel⟩
def hh_L_run : List (Nat × Nat × Nat × Nat) := [(0, 7, 8, 17), (0, 7, 13, 66)]
theorem mw_L_run : qMw yL_run cL_run 4 (some .long) 3 hh_L_run := ⟨qw_mem (i := 534) (by decide +kernel) rfl, qw_mem (i := 29) (by decide +kernel) rfl, qw_mem (i := 535) (by decide +kernel) rfl, by decide, by decide, by decide +kernel⟩
def hh_L_type : List (Nat × Nat × Nat × Nat) := [(0, 8, 9, 17), (0, 8, 15, 23)]
theorem mw_L_type : qMw yL_type cL_type 5 (some .long) 4 hh_L_type := ⟨qw_mem (i := 851) (by decide +kernel) rfl, qw_mem (i := 29) (by decide +kernel) rfl, qw_mem (i := 852) (by decide +kernel) rfl, by decide, by decide, by decide +kernel⟩
def hh_L_under : List (Nat × Nat × Nat × Nat) := [(0, 17, 18, 17), (0, 17, 24, 23), (0, 17, 30, 31)]
theorem mw_L_under : qMw yL_under cL_under 6 (some .long) 5 hh_L_under := ⟨qw_mem (i := 954) (by decide +kernel) rfl, qw_mem (i := 29) (by decide +kernel) rfl, qw_mem (i := 955) (by decide +kernel) rfl, by decide, by decide, by decide +kernel⟩
def hh_L_wipe : List (Nat × Nat × Nat × Nat) := [(0, 6, 7, 17)]
theorem mw_L_wipe : qMw yL_wipe cL_wipe 3 (some .long) 2 hh_L_wipe := ⟨qw_mem (i := 1030) (by decide +kernel) rfl, qw_mem (i := 29) (by decide +kernel) rfl, qw_mem (i := 1031) (by decide +kernel) rfl, by decide, by decide, by decide +kernel⟩
def hh_L_witness : List (Nat × Nat × Nat × Nat) := [(0, 8, 9, 17), (0, 8, 15, 66), (0, 8, 21, 31)]
theorem mw_L_witness : qMw yL_witness cL_witness 5 (some .long) 4 hh_L_witness := ⟨qw_mem (i := 802) (by decide +kernel) rfl, qw_mem (i := 29) (by decide +kernel) rfl, qw_mem (i := 803) (by decide +kernel) rfl, by decide, by decide, by decide +kernel⟩
theorem m_J0_charAt_5068e : qMv yJ0_charAt_5068e cJ0_charAt_5068e 2 (some .char) 1 := ⟨qw_mem (i := 901) (by decide +kernel) rfl, qw_mem (i := 902) (by decide +kernel) rfl, qw_mem (i := 44) (by decide +kernel) rfl, qw_mem (i := 903) (by decide +kernel) rfl, by decide, by decide, by decide +kernel⟩
theorem m_J0_checkIndex_df160 : qMs yJ0_checkIndex_df160 cJ0_checkIndex_df160 2 none 2 := ⟨qw_mem (i := 914) (by decide +kernel) rfl, qw_mem (i := 44) (by decide +kernel) rfl, qw_mem (i := 915) (by decide +kernel) rfl, by decide, by decide, by decide +kernel⟩
theorem m_J0_isLatin1_aae02 : qMv yJ0_isLatin1_aae02 cJ0_isLatin1_aae02 1 (some .boolean) 0 := ⟨qw_mem (i := 905) (by decide +kernel) rfl, qw_mem (i := 906) (by decide +kernel) rfl, qw_mem (i := 44) (by decide +kernel) rfl, qw_mem (i := 907) (by decide +kernel) rfl, by decide, by decide, by decide +kernel⟩
theorem m_J1_charAt_3b067 : qMs yJ1_charAt_3b067 cJ1_charAt_3b067 2 (some .char) 2 := ⟨qw_mem (i := 911) (by decide +kernel) rfl, qw_mem (i := 46) (by decide +kernel) rfl, qw_mem (i := 912) (by decide +kernel) rfl, by decide, by decide, by decide +kernel⟩
theorem m_J3_checkIndex_8e157 : qMs yJ3_checkIndex_8e157 cJ3_checkIndex_8e157 3 (some .int) 3 := ⟨qw_mem (i := 919) (by decide +kernel) rfl, qw_mem (i := 47) (by decide +kernel) rfl, qw_mem (i := 920) (by decide +kernel) rfl, by decide, by decide, by decide +kernel⟩
theorem lk_J0_492 : Cond.methodLink RJ0 492 yJ0_isLatin1_aae02 ∈ qw := qw_mem (i := 904) (by decide +kernel) rfl
theorem lk_J0_495 : Cond.methodLink RJ0 495 yJ1_charAt_3b067 ∈ qw := qw_mem (i := 910) (by decide +kernel) rfl
theorem lk_J0_1059 : Cond.methodLink RJ0 1059 yJ3_checkIndex_8e157 ∈ qw := qw_mem (i := 918) (by decide +kernel) rfl
theorem lk_J1_9 : Cond.methodLink RJ1 9 yJ0_checkIndex_df160 ∈ qw := qw_mem (i := 913) (by decide +kernel) rfl
theorem lk_J2_414 : Cond.methodLink RJ2 414 yJ0_checkIndex_df160 ∈ qw := qw_mem (i := 930) (by decide +kernel) rfl
theorem fj_J0_9 : Cond.fieldLink RJ0 9 "java/lang/String" "value" "[B" ∈ qw := qw_mem (i := 1137) (by decide +kernel) rfl
theorem fj_J0_15 : Cond.fieldLink RJ0 15 "java/lang/String" "coder" "B" ∈ qw := qw_mem (i := 1136) (by decide +kernel) rfl
theorem fj_J0_38 : Cond.fieldLink RJ0 38 "java/lang/String" "COMPACT_STRINGS" "Z" ∈ qw := qw_mem (i := 908) (by decide +kernel) rfl
theorem fj_J0_1053 : Cond.fieldLink RJ0 1053 "jdk/internal/util/Preconditions" "SIOOBE_FORMATTER" "Ljava/util/function/BiFunction;" ∈ qw := qw_mem (i := 916) (by decide +kernel) rfl
theorem fj_J2_44 : Cond.fieldLink RJ2 44 "java/lang/StringUTF16" "$assertionsDisabled" "Z" ∈ qw := qw_mem (i := 934) (by decide +kernel) rfl
theorem fj_J2_59 : Cond.fieldLink RJ2 59 "java/lang/StringUTF16" "HI_BYTE_SHIFT" "I" ∈ qw := qw_mem (i := 936) (by decide +kernel) rfl
theorem fj_J2_63 : Cond.fieldLink RJ2 63 "java/lang/StringUTF16" "LO_BYTE_SHIFT" "I" ∈ qw := qw_mem (i := 938) (by decide +kernel) rfl
/-! ===== THE LAW'S TEXTS ===== -/
section QTX
variable {Γ : qG} {cc : ByteArray} {own : String} {nL : Nat} {rt : Option FieldType} {R : Room} {po : Option Value → qM → Prop} {pc n : Nat} {ls ls' : List (Nat × Value)} {st : List Value} {S : qM} {k : Nat × Nat}
variable {y : MethodName} {c2 : ByteArray} {nL2 idx : Nat} {ret : Option FieldType} {rm : Room} {α : Type} {ar : (Nat → Nat → Nat) → qO → α → List Value} {pre : α → qM → Prop} {post : α → qM → Option Value → qM → Prop} {x : α} {k' : Nat × Nat}
abbrev q_sK (Γ : qG) (j : Nat) : Nat := (q_o Γ).1.2.2.2.1 j
abbrev q_sV (Γ : qG) (j : Nat) : Nat := (q_o Γ).1.2.2.2.2 j
theorem q_ldcS {i : Nat} (j : Nat) (hC : qC Γ cc "LinkwitnessLaw" nL rt R po) (hd : decode cc pc = .ok (.ldc i, 2)) (hj : j < 7) (hi : q_sidx j = i) (hn : pc + 2 = n) (kk : qV Γ R nL n ls (.ref (q_sK Γ j) :: st) S k) : qV Γ R nL pc ls st S k := by
  obtain ⟨⟨l, D, cy, ad, o⟩, ⟨p, e, s⟩, ⟨m, args, below, meth, c⟩, Q⟩ := Γ
  subst hn
  subst hi
  obtain ⟨h1, h2, h3, h4, h5, h6, h7, h8, h9, h10, h11, h12⟩ := hC
  exact fun H locs la hP hS hl => va_ldcS h1 h2 h4 (h10.2.1 j hj) hd (kk H locs la hP hS hl)
/-- a call by a text -/
theorem q_callT {na j : Nat} {As : List Value} (hC : qC Γ cc own nL rt R po) (hM : qCT Γ.1 y c2 nL2 ret rm ar pre post) (hms : qMv y c2 nL2 ret na) (hycls : y.cls = "java/lang/String") (hlk : Cond.methodLink own idx y ∈ qw) (hd : decode cc pc = .ok (.invokevirtual idx, 3)) (x : α) (hj : j < 7) (hx : ar (q_ad Γ) (q_o Γ) x = .ref (q_sK Γ j) :: As) {st2 : List Value} (hs : As.reverse ++ .ref (q_sK Γ j) :: st2 = st) (has : As.length = na)
    (hcat : (st2.map fun v => v.category).sum ≤ 8) (hR : qRm rm R nL2 k) (hn : pc + 3 = n) (hk' : (k.1 + rm.cells, k.2 + rm.slots) = k') (hpre : pre x S) (kk : ∀ (v : Option Value) (S' : qM), post x S v S' → qV Γ R nL n ls (v.toList ++ st2) S' k') : qV Γ R nL pc ls st S k := by
  refine q_goon (rm := rm) (post := post) (x := x) (args9 := (Value.ref (q_sK Γ j) :: As).toArray) (fun H locs la hP hS hl => ?_) hn hk' kk
  obtain ⟨⟨l, D, cy, ad, o⟩, ⟨p, e, s⟩, ⟨m, args, below, meth, c⟩, Q⟩ := Γ
  obtain ⟨h1, h2, h3, h4, h5, h6, h7, h8, h9, h10, h11, h12⟩ := hC
  obtain ⟨m0, m1, m2, m3, m4, m5, m6⟩ := hms
  have hx' : ar ad o x = .ref (o.1.2.2.2.1 j) :: As := hx
  have hrec := vk_recv h11.2.2.2.2.2 hj hS
  exact va_runV (Ts := qw) (C := y.cls) ⟨h1, h2, h3, h4, h5⟩ (hM x S H.size hpre) ⟨callB_of na h5 (qw_goodIn m3) rfl rfl rfl (h5 _ m2) (h5 _ hlk) ⟨m4, m5, m6⟩ hR.1, h5 _ m0, h5 _ m1⟩
    ⟨q_blind, by rw [hycls]; exact hrec, fun U hU hW => ⟨(congrArg List.toArray hx').symm, by rw [hU], by rw [hU]; exact hP, va_K.moved hW.alike h8, qN.warm hW h10, q_TC h11 hS hU hW⟩⟩ rfl has hl.1 hs.symm (lv_room hcat) hd hR.2
theorem q_sCoder {j : Nat} (hC : qC Γ cc own nL rt R po) (hj : j < 7) (hlk : Cond.fieldLink own idx "java/lang/String" "coder" "B" ∈ qw) (hd : decode cc pc = .ok (.getfield idx, 3)) (hn : pc + 3 = n) (kk : qV Γ R nL n ls (.int 0 :: st) S k) : qV Γ R nL pc ls (.ref (q_sK Γ j) :: st) S k := by
  obtain ⟨⟨l, D, cy, ad, o⟩, ⟨p, e, s⟩, ⟨m, args, below, meth, c⟩, Q⟩ := Γ
  subst hn
  obtain ⟨h1, h2, h3, h4, h5, h6, h7, h8, h9, h10, h11, h12⟩ := hC
  exact fun H locs la hP hS hl => vk_getf h1 h2 (h11.2.2.2.2.2.1 j hj).2.1 hS h4 (h5 _ hlk) (fun _ h => h) hd (kk H locs la hP hS hl)
theorem q_sValue {j : Nat} (hC : qC Γ cc own nL rt R po) (hj : j < 7) (hlk : Cond.fieldLink own idx "java/lang/String" "value" "[B" ∈ qw) (hd : decode cc pc = .ok (.getfield idx, 3)) (hn : pc + 3 = n) (kk : qV Γ R nL n ls (.ref (q_sV Γ j) :: st) S k) : qV Γ R nL pc ls (.ref (q_sK Γ j) :: st) S k := by
  obtain ⟨⟨l, D, cy, ad, o⟩, ⟨p, e, s⟩, ⟨m, args, below, meth, c⟩, Q⟩ := Γ
  subst hn
  obtain ⟨h1, h2, h3, h4, h5, h6, h7, h8, h9, h10, h11, h12⟩ := hC
  exact fun H locs la hP hS hl => vk_getf h1 h2 (h11.2.2.2.2.2.1 j hj).2.2.1 hS h4 (h5 _ hlk) (fun _ h => h) hd (kk H locs la hP hS hl)
theorem q_sLen {j : Nat} (hC : qC Γ cc own nL rt R po) (hj : j < 7) (hd : decode cc pc = .ok (.arraylength, 1)) (hn : pc + 1 = n) (kk : qV Γ R nL n ls (.int (nI (q_sln.getD j 0)) :: st) S k) : qV Γ R nL pc ls (.ref (q_sV Γ j) :: st) S k := by
  obtain ⟨⟨l, D, cy, ad, o⟩, ⟨p, e, s⟩, ⟨m, args, below, meth, c⟩, Q⟩ := Γ
  subst hn
  obtain ⟨h1, h2, h3, h4, h5, h6, h7, h8, h9, h10, h11, h12⟩ := hC
  exact fun H locs la hP hS hl => va_tlen h1 h2 (h11.2.2.2.2.2.1 j hj).2.2.2 hS rfl hd (kk H locs la hP hS hl)
theorem q_sByte {j : Nat} {i : Int32} (hC : qC Γ cc own nL rt R po) (hj : j < 7) (hin : vp_in i (q_sln.getD j 0)) (hd : decode cc pc = .ok (.baload, 1)) (hn : pc + 1 = n) (kk : qV Γ R nL n ls (.int ((q_sbyt.getD j []).getD i.toNatClampNeg 0) :: st) S k) : qV Γ R nL pc ls (.int i :: .ref (q_sV Γ j) :: st) S k := by
  obtain ⟨⟨l, D, cy, ad, o⟩, ⟨p, e, s⟩, ⟨m, args, below, meth, c⟩, Q⟩ := Γ
  subst hn
  obtain ⟨h1, h2, h3, h4, h5, h6, h7, h8, h9, h10, h11, h12⟩ := hC
  exact fun H locs la hP hS hl => va_tb h1 h2 (h11.2.2.2.2.2.1 j hj).2.2.2 hS hin rfl hd (kk H locs la hP hS hl)
theorem q_getsCS (hC : qC Γ cc own nL rt R po) (hlk : Cond.fieldLink own idx "java/lang/String" "COMPACT_STRINGS" "Z" ∈ qw) (hd : decode cc pc = .ok (.getstatic idx, 3)) (hn : pc + 3 = n) (kk : qV Γ R nL n ls (.int 1 :: st) S k) : qV Γ R nL pc ls st S k := by
  obtain ⟨⟨l, D, cy, ad, o⟩, ⟨p, e, s⟩, ⟨m, args, below, meth, c⟩, Q⟩ := Γ
  subst hn
  obtain ⟨h1, h2, h3, h4, h5, h6, h7, h8, h9, h10, h11, h12⟩ := hC
  exact fun H locs la hP hS hl => va_gets h1 h2 h11.2.2.2.2.1.1 hS h4 (h5 _ hlk) (fun _ h => h) hd (kk H locs la hP hS hl)
theorem q_getsFM (hC : qC Γ cc own nL rt R po) (hlk : Cond.fieldLink own idx "jdk/internal/util/Preconditions" "SIOOBE_FORMATTER" "Ljava/util/function/BiFunction;" ∈ qw) (hd : decode cc pc = .ok (.getstatic idx, 3)) (hn : pc + 3 = n) (kk : ∀ v : Value, v = .null ∨ (∃ t, v = .ref t) → qV Γ R nL n ls (v :: st) S k) : qV Γ R nL pc ls st S k := by
  obtain ⟨⟨l, D, cy, ad, o⟩, ⟨p, e, s⟩, ⟨m, args, below, meth, c⟩, Q⟩ := Γ
  subst hn
  obtain ⟨h1, h2, h3, h4, h5, h6, h7, h8, h9, h10, h11, h12⟩ := hC
  rcases h11.2.2.2.2.1.2 with hz | ⟨t, hz⟩
  · exact fun H locs la hP hS hl => va_gets h1 h2 hz hS h4 (h5 _ hlk) (fun _ h => h) hd (kk _ (Or.inl rfl) H locs la hP hS hl)
  · exact fun H locs la hP hS hl => va_gets h1 h2 hz hS h4 (h5 _ hlk) (fun _ h => h) hd (kk _ (Or.inr ⟨t, rfl⟩) H locs la hP hS hl)
end QTX
end
section
theorem q_stub : True := trivial
end
