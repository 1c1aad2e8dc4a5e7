-- printed by wip/p36/gen_n1.py
/-! ===== CONSTRUCTORS: a frame whose world is a row of cells that grows ===== -/
def nK (o : qO) (A : Nat → Prop) (U : State) (H : Heap) : Prop := va_Z RX9 "KINDS" "[C" (.ref o.2.1) A U H ∧ va_T .char o.2.1 9 (fun j => .int (q_kinds j)) A U H
theorem nK.moved {o : qO} {A : Nat → Prop} {u U : State} {H : Heap} (hvm : u.vm.Alike U.vm) (h : nK o A u H) : nK o A U H := ⟨va_Z.moved hvm h.1, va_T.moved hvm h.2⟩
theorem nK.kept {o : qO} {A : Nat → Prop} {U : State} {H H1 : Heap} (h : nK o A U H) (hq : ∀ a : Nat, a < H.size → ¬ A a → H1[a]? = H[a]?) : nK o A U H1 := ⟨va_Z.kept h.1 hq, va_T.kept h.2 hq⟩
theorem nK.narrow {o : qO} {A B : Nat → Prop} {U : State} {H : Heap} (h : nK o A U H) (hAB : ∀ q, B q → A q) : nK o B U H := ⟨va_Z.narrow h.1 hAB, va_T.narrow h.2 hAB⟩
abbrev nB (L : qL) (A : Nat → Prop) : va_W → State → Prop := fun ws t => va_P L.2.1 q_cl ws t.heap ∧ va_D A ws
def nC (Γ : qG) (A : Nat → Prop) (cc : ByteArray) (own : String) (nL : Nat) (R : Room) (po : va_W → Prop) : Prop :=
  match Γ with
  | ⟨⟨_, D, cy, _, o⟩, ⟨p, _, s⟩, ⟨m, args, below, meth, c⟩, Q⟩ =>
    p.tables.exec = Jvm.exec ∧ c.code = cc ∧ c.maxLocals = nL ∧ s.vm.findClass own = some m.cls ∧ (∀ w ∈ qw, w.before args s = true) ∧ meth.sig.returnType = none ∧ meth.locks = false ∧
    va_K D q_cl (q_tys cy) s ∧ meth.name = "<init>" ∧ qN o s ∧ nK o A s s.heap ∧ (va_AO RX5 s ∧ va_AO RX0 s) ∧ (∀ q, s.heap.size ≤ q → A q) ∧ (∀ t, MQ below (va_Qv po (nB Γ.1 A) A) args s R.cells R.slots A t → Q t)
def nV (Γ : qG) (A : Nat → Prop) (R : Room) (nL pc : Nat) (ls : List (Nat × Value)) (st : List Value) (ws : va_W) (k : Nat × Nat) : Prop :=
  match Γ with
  | ⟨⟨l, D, _, _, _⟩, ⟨p, e, s⟩, ⟨m, args, below, meth, c⟩, Q⟩ =>
    ∀ (H : Heap) (locs : List Loc) (la : Array Slot), va_P D q_cl ws H → va_D A ws → va_S A s.heap H locs → lv_has la nL ls → W p l e R s m args below meth c H locs k.1 k.2 Q (F0 m pc la st)
section NROWS
variable {Γ : qG} {A : Nat → Prop} {cc : ByteArray} {own : String} {nL : Nat} {R : Room} {po : va_W → Prop} {pc n : Nat} {ls ls' : List (Nat × Value)} {st : List Value} {ws : va_W} {k : Nat × Nat}
theorem n_iconst (hC : nC Γ A cc own nL R po) {i : Int} {v : Int32} (hd : decode cc pc = .ok (.iconst i, 1)) (hv : Int32.ofInt i = v) (hn : pc + 1 = n) (kk : nV Γ A R nL n ls (.int v :: st) ws k) : nV Γ A R nL pc ls st ws k := by
  obtain ⟨⟨l, D, cy, ad, o⟩, ⟨p, e, s⟩, ⟨m, args, below, meth, c⟩, Q⟩ := Γ
  subst hn
  exact fun H locs la hP hD hS hl => lv_iconst hC.1 hC.2.1 hd hv (kk H locs la hP hD hS hl)
theorem n_bipush (hC : nC Γ A cc own nL R po) {i : Int} {v : Int32} (hd : decode cc pc = .ok (.bipush i, 2)) (hv : (Int8.ofInt i).toInt32 = v) (hn : pc + 2 = n) (kk : nV Γ A R nL n ls (.int v :: st) ws k) : nV Γ A R nL pc ls st ws k := by
  obtain ⟨⟨l, D, cy, ad, o⟩, ⟨p, e, s⟩, ⟨m, args, below, meth, c⟩, Q⟩ := Γ
  subst hn
  exact fun H locs la hP hD hS hl => lv_bipush hC.1 hC.2.1 hd hv (kk H locs la hP hD hS hl)
theorem n_ldc (hC : nC Γ A cc own nL R po) {i : Nat} {v : Int32} (hd : decode cc pc = .ok (.ldc i, 2)) (hw : Cond.constant own i v ∈ qw) (hn : pc + 2 = n) (kk : nV Γ A R nL n ls (.int v :: st) ws k) : nV Γ A R nL pc ls st ws k := by
  obtain ⟨⟨l, D, cy, ad, o⟩, ⟨p, e, s⟩, ⟨m, args, below, meth, c⟩, Q⟩ := Γ
  subst hn
  exact fun H locs la hP hD hS hl => lv_ldc hC.1 hC.2.1 hC.2.2.2.1 (hC.2.2.2.2.1 _ hw) hd (kk H locs la hP hD hS hl)
theorem n_iload_n (hC : nC Γ A cc own nL R po) {j : Fin 4} {x : Int32} (q : Nat) (hd : decode cc pc = .ok (.iload_n j, 1)) (hl : ls[q]? = some ((j : Nat), .int x)) (hn : pc + 1 = n) (kk : nV Γ A R nL n ls (.int x :: st) ws k) : nV Γ A R nL pc ls st ws k := by
  obtain ⟨⟨l, D, cy, ad, o⟩, ⟨p, e, s⟩, ⟨m, args, below, meth, c⟩, Q⟩ := Γ
  subst hn
  exact fun H locs la hP hD hS hla => lv_iload_n hC.1 hC.2.1 hd rfl (lv_at hla q hl) (kk H locs la hP hD hS hla)
theorem n_aload_n (hC : nC Γ A cc own nL R po) {j : Fin 4} {x : Nat} (q : Nat) (hd : decode cc pc = .ok (.aload_n j, 1)) (hl : ls[q]? = some ((j : Nat), .ref x)) (hn : pc + 1 = n) (kk : nV Γ A R nL n ls (.ref x :: st) ws k) : nV Γ A R nL pc ls st ws k := by
  obtain ⟨⟨l, D, cy, ad, o⟩, ⟨p, e, s⟩, ⟨m, args, below, meth, c⟩, Q⟩ := Γ
  subst hn
  exact fun H locs la hP hD hS hla => lv_aload_n hC.1 hC.2.1 hd rfl (lv_at hla q hl) (kk H locs la hP hD hS hla)
theorem n_istore_n (hC : nC Γ A cc own nL R po) {j : Fin 4} {x : Int32} (hd : decode cc pc = .ok (.istore_n j, 1)) (hj : (j : Nat) < nL) (hl : q_ls ls j (.int x) = ls') (hn : pc + 1 = n) (kk : nV Γ A R nL n ls' st ws k) : nV Γ A R nL pc ls (.int x :: st) ws k := by
  obtain ⟨⟨l, D, cy, ad, o⟩, ⟨p, e, s⟩, ⟨m, args, below, meth, c⟩, Q⟩ := Γ
  subst hn; subst hl
  exact fun H locs la hP hD hS hla => lv_istore_n hC.1 hC.2.1 hd rfl hla hj rfl (fun la' hla' => kk H locs la' hP hD hS (q_has hla'))
theorem n_iinc (hC : nC Γ A cc own nL R po) {j : Nat} {d : Int} {x v : Int32} (q : Nat) (hd : decode cc pc = .ok (.iinc j d, 3)) (hl0 : ls[q]? = some (j, .int x)) (hv : x + Int32.ofInt d = v) (hj : j < nL) (hl : q_ls ls j (.int v) = ls') (hn : pc + 3 = n) (kk : nV Γ A R nL n ls' st ws k) : nV Γ A R nL pc ls st ws k := by
  obtain ⟨⟨l, D, cy, ad, o⟩, ⟨p, e, s⟩, ⟨m, args, below, meth, c⟩, Q⟩ := Γ
  subst hn; subst hl
  exact fun H locs la hP hD hS hla => lv_iinc hC.1 hC.2.1 hd hla hl0 hv hj rfl (fun la' hla' => kk H locs la' hP hD hS (q_has hla'))
theorem n_dup (hC : nC Γ A cc own nL R po) {va : Value} (hd : decode cc pc = .ok (.dup, 1)) (hva : va.category = 1) (hn : pc + 1 = n) (kk : nV Γ A R nL n ls (va :: va :: st) ws k) : nV Γ A R nL pc ls (va :: st) ws k := by
  obtain ⟨⟨l, D, cy, ad, o⟩, ⟨p, e, s⟩, ⟨m, args, below, meth, c⟩, Q⟩ := Γ
  subst hn
  exact fun H locs la hP hD hS hl => lv_dup hC.1 hC.2.1 hd hva (kk H locs la hP hD hS hl)
theorem n_goto (hC : nC Γ A cc own nL R po) {off : Int} (hd : decode cc pc = .ok (.goto off, 3)) (ht : (pc : Int) + off = (n : Int)) (kk : nV Γ A R nL n ls st ws k) : nV Γ A R nL pc ls st ws k := by
  obtain ⟨⟨l, D, cy, ad, o⟩, ⟨p, e, s⟩, ⟨m, args, below, meth, c⟩, Q⟩ := Γ
  exact fun H locs la hP hD hS hl => lv_goto hC.1 hC.2.1 hd ht (kk H locs la hP hD hS hl)
theorem n_icmp_ge (hC : nC Γ A cc own nL R po) {x y : Int32} {off : Int} {t : Nat} (hd : decode cc pc = .ok (.if_icmp .ge off, 3)) (ht : (pc : Int) + off = (t : Int)) (hn : pc + 3 = n) (kt : y ≤ x → nV Γ A R nL t ls st ws k) (kf : ¬ y ≤ x → nV Γ A R nL n ls st ws k) : nV Γ A R nL pc ls (.int y :: .int x :: st) ws k := by
  obtain ⟨⟨l, D, cy, ad, o⟩, ⟨p, e, s⟩, ⟨m, args, below, meth, c⟩, Q⟩ := Γ
  subst hn
  exact fun H locs la hP hD hS hl => lv_icmp_ge hC.1 hC.2.1 hd ht (fun h => kt h H locs la hP hD hS hl) (fun h => kf h H locs la hP hD hS hl)
theorem n_anull (hC : nC Γ A cc own nL R po) (hd : decode cc pc = .ok (.aconst_null, 1)) (hn : pc + 1 = n) (kk : nV Γ A R nL n ls (.null :: st) ws k) : nV Γ A R nL pc ls st ws k := by
  obtain ⟨⟨l, D, cy, ad, o⟩, ⟨p, e, s⟩, ⟨m, args, below, meth, c⟩, Q⟩ := Γ
  subst hn
  exact fun H locs la hP hD hS hl => lv_null hC.1 hC.2.1 hd (kk H locs la hP hD hS hl)
theorem n_vret (hC : nC Γ A cc own nL R po) (hd : decode cc pc = .ok (.return_, 1)) (hk : k.1 ≤ R.cells ∧ k.2 ≤ R.slots) (hpo : po ws) : nV Γ A R nL pc ls [] ws k := by
  obtain ⟨⟨l, D, cy, ad, o⟩, ⟨p, e, s⟩, ⟨m, args, below, meth, c⟩, Q⟩ := Γ
  obtain ⟨h1, h2, h3, h4, h5, h6, h7, h8, h9, h10, h11, h12, h13, h14⟩ := hC
  intro H locs la hP hD hS hl
  refine W.widen hk.1 hk.2 ?_
  refine q_Wimp h14 ?_
  exact W.vret h1 h2 h6 (fun t ht hW => ⟨⟨ws, rfl, hpo, by rw [ht]; exact hP, hD⟩, hS.F ht⟩) hS.2.2 hd h7
theorem n_obj (hC : nC Γ A cc own nL R po) {idx h : Nat} (hd : decode cc pc = .ok (.invokespecial idx, 3)) (hlk : Cond.methodLink own idx Lib.objectInit ∈ qw) (hi : Cond.instanceMethod Lib.objectInit ∈ qw) (hco : Cond.code Lib.objectInit ⟨#[0xb1]⟩ 1 none ∈ qw) (hcat : (st.map fun v => v.category).sum ≤ 8) (hR : 1 ≤ R.frames ∧ 20 ≤ R.locals) (hn : pc + 3 = n) (kk : nV Γ A R nL n ls st ws k) : nV Γ A R nL pc ls (.ref h :: st) ws k := by
  obtain ⟨⟨l, D, cy, ad, o⟩, ⟨p, e, s⟩, ⟨m, args, below, meth, c⟩, Q⟩ := Γ
  obtain ⟨h1, h2, h3, h4, h5, h6, h7, h8, h9, h10, h11, h12, h13, h14⟩ := hC
  subst hn
  intro H locs la hP hD hS hl
  refine W.objInit h1 h2 h4 (h5 _ hlk) (h5 _ hi) (h5 _ hco) rfl (by rw [h3]; exact hl.1) rfl hd hR.1 (by show 2 * 0 + _ + 12 ≤ _; omega) ?_
  exact kk H locs la hP hD hS hl
theorem n_newI (hC : nC Γ A cc own nL R po) {v : Int32} {N : Nat} {k' : Nat × Nat} (hd : decode cc pc = .ok (.newarray .int, 2)) (hw : Cond.arrayClass .int ∈ qw) (hv : ¬ v < 0) (hN : v.toNatClampNeg = N) (hb : N ≤ 100) (hk : k.1 + 1 ≤ R.cells ∧ k.2 + N ≤ R.slots) (hk' : (k.1 + 1, k.2 + N) = k') (hn : pc + 2 = n) (kk : ∀ q : Nat, nV Γ A R nL n ls (.ref q :: st) (ws ++ [(q, .inl (Γ.1.2.2.1 0, N, .inl (fun _ => 0)))]) k') : nV Γ A R nL pc ls (.int v :: st) ws k := by
  obtain ⟨⟨l, D, cy, ad, o⟩, ⟨p, e, s⟩, ⟨m, args, below, meth, c⟩, Q⟩ := Γ
  obtain ⟨h1, h2, h3, h4, h5, h6, h7, h8, h9, h10, h11, h12, h13, h14⟩ := hC
  subst hn; subst hk'
  intro H locs la hP hD hS hl
  have hb9 : N * componentBytes (newarray.typeOf .int) ≤ 536870912 := Nat.le_trans (Nat.mul_le_mul hb (show componentBytes (newarray.typeOf .int) ≤ 4 by decide)) (by decide)
  refine va_newa (atype := .int) (ty := .int) (N' := N) (a0 := (N, .inl (fun _ => 0))) h1 h2 (h5 _ hw) rfl h8 hP hD hS h13 (fun _ => rfl) hv hN hb9 hk.1 hk.2 hd (fun q cA H1 hK1 hP1 hD1 hS1 => ?_)
  have e1 : s.vm.findClass ("[" ++ (FieldType.int).toString) = some cA := (hK1.2 5 (cA, .int) rfl).2
  have e2 : s.vm.findClass ("[" ++ (FieldType.int).toString) = some (cy 0) := (h8.2 0 (cy 0, .int) rfl).2
  obtain rfl : cA = cy 0 := Option.some.inj (e1.symm.trans e2)
  exact kk q H1 locs la hP1 hD1 hS1 hl
theorem n_newC (hC : nC Γ A cc own nL R po) {v : Int32} {N : Nat} {k' : Nat × Nat} (hd : decode cc pc = .ok (.newarray .char, 2)) (hw : Cond.arrayClass .char ∈ qw) (hv : ¬ v < 0) (hN : v.toNatClampNeg = N) (hb : N ≤ 100) (hk : k.1 + 1 ≤ R.cells ∧ k.2 + N ≤ R.slots) (hk' : (k.1 + 1, k.2 + N) = k') (hn : pc + 2 = n) (kk : ∀ q : Nat, nV Γ A R nL n ls (.ref q :: st) (ws ++ [(q, .inl (Γ.1.2.2.1 1, N, .inl (fun _ => 0)))]) k') : nV Γ A R nL pc ls (.int v :: st) ws k := by
  obtain ⟨⟨l, D, cy, ad, o⟩, ⟨p, e, s⟩, ⟨m, args, below, meth, c⟩, Q⟩ := Γ
  obtain ⟨h1, h2, h3, h4, h5, h6, h7, h8, h9, h10, h11, h12, h13, h14⟩ := hC
  subst hn; subst hk'
  intro H locs la hP hD hS hl
  have hb9 : N * componentBytes (newarray.typeOf .char) ≤ 536870912 := Nat.le_trans (Nat.mul_le_mul hb (show componentBytes (newarray.typeOf .char) ≤ 4 by decide)) (by decide)
  refine va_newa (atype := .char) (ty := .char) (N' := N) (a0 := (N, .inl (fun _ => 0))) h1 h2 (h5 _ hw) rfl h8 hP hD hS h13 (fun _ => rfl) hv hN hb9 hk.1 hk.2 hd (fun q cA H1 hK1 hP1 hD1 hS1 => ?_)
  have e1 : s.vm.findClass ("[" ++ (FieldType.char).toString) = some cA := (hK1.2 5 (cA, .char) rfl).2
  have e2 : s.vm.findClass ("[" ++ (FieldType.char).toString) = some (cy 1) := (h8.2 1 (cy 1, .char) rfl).2
  obtain rfl : cA = cy 1 := Option.some.inj (e1.symm.trans e2)
  exact kk q H1 locs la hP1 hD1 hS1 hl
theorem n_newZ (hC : nC Γ A cc own nL R po) {v : Int32} {N : Nat} {k' : Nat × Nat} (hd : decode cc pc = .ok (.newarray .boolean, 2)) (hw : Cond.arrayClass .boolean ∈ qw) (hv : ¬ v < 0) (hN : v.toNatClampNeg = N) (hb : N ≤ 100) (hk : k.1 + 1 ≤ R.cells ∧ k.2 + N ≤ R.slots) (hk' : (k.1 + 1, k.2 + N) = k') (hn : pc + 2 = n) (kk : ∀ q : Nat, nV Γ A R nL n ls (.ref q :: st) (ws ++ [(q, .inl (Γ.1.2.2.1 2, N, .inl (fun _ => 0)))]) k') : nV Γ A R nL pc ls (.int v :: st) ws k := by
  obtain ⟨⟨l, D, cy, ad, o⟩, ⟨p, e, s⟩, ⟨m, args, below, meth, c⟩, Q⟩ := Γ
  obtain ⟨h1, h2, h3, h4, h5, h6, h7, h8, h9, h10, h11, h12, h13, h14⟩ := hC
  subst hn; subst hk'
  intro H locs la hP hD hS hl
  have hb9 : N * componentBytes (newarray.typeOf .boolean) ≤ 536870912 := Nat.le_trans (Nat.mul_le_mul hb (show componentBytes (newarray.typeOf .boolean) ≤ 4 by decide)) (by decide)
  refine va_newa (atype := .boolean) (ty := .boolean) (N' := N) (a0 := (N, .inl (fun _ => 0))) h1 h2 (h5 _ hw) rfl h8 hP hD hS h13 (fun _ => rfl) hv hN hb9 hk.1 hk.2 hd (fun q cA H1 hK1 hP1 hD1 hS1 => ?_)
  have e1 : s.vm.findClass ("[" ++ (FieldType.boolean).toString) = some cA := (hK1.2 5 (cA, .boolean) rfl).2
  have e2 : s.vm.findClass ("[" ++ (FieldType.boolean).toString) = some (cy 2) := (h8.2 2 (cy 2, .boolean) rfl).2
  obtain rfl : cA = cy 2 := Option.some.inj (e1.symm.trans e2)
  exact kk q H1 locs la hP1 hD1 hS1 hl
theorem n_new (hC : nC Γ A cc own nL R po) {idx ci N : Nat} {C : String} {T : u_T} {fs : List Value} {k' : Nat × Nat} (hd : decode cc pc = .ok (.new idx, 3)) (hc : q_cl[ci]? = some (C, T, N)) (hin : ∀ w ∈ u_ws C T N, w ∈ qw) (ty : Nat → FieldType) (hty : ∀ k, k < N → parseFieldDescriptor (T k).2.2.1 = some (ty k)) (hcl : Cond.classLink own idx C ∈ qw) (hinst : Cond.instantiable C N ∈ qw) (hini : Cond.initialized C ∈ qw) (hfs : ∀ j, j < N → defaultValue (ty j) = vp_V fs j) (hk : k.1 + 1 ≤ R.cells ∧ k.2 + N ≤ R.slots) (hk' : (k.1 + 1, k.2 + N) = k') (hn : pc + 3 = n) (kk : ∀ q : Nat, nV Γ A R nL n ls (.ref q :: st) (ws ++ [(q, .inr (ci, fs))]) k') : nV Γ A R nL pc ls st ws k := by
  obtain ⟨⟨l, D, cy, ad, o⟩, ⟨p, e, s⟩, ⟨m, args, below, meth, c⟩, Q⟩ := Γ
  obtain ⟨h1, h2, h3, h4, h5, h6, h7, h8, h9, h10, h11, h12, h13, h14⟩ := hC
  subst hn; subst hk'
  intro H locs la hP hD hS hl
  exact va_new h1 h2 h5 hin ty hty h4 (h5 _ hcl) (h5 _ hinst) (h5 _ hini) h8 hP hD hS h13 hc hfs hk.1 hk.2 hd (fun q H1 hP1 hD1 hS1 => kk q H1 locs la hP1 hD1 hS1 hl)
def nFp (own : String) (idx ci j : Nat) (ty : FieldType) (b : Bool) : Prop := ∃ (C : String) (T : u_T) (N : Nat) (ty0 : Nat → FieldType), q_cl[ci]? = some (C, T, N) ∧ (∀ w ∈ u_ws C T N, w ∈ qw) ∧ j < N ∧ Cond.fieldLink own idx (T j).1 (T j).2.1 (T j).2.2.1 ∈ qw ∧
  (∀ k, k < N → parseFieldDescriptor (T k).2.2.1 = some (ty0 k)) ∧ (∀ a, a < N → ∀ b, b < N → a ≠ b → (T a).2.1 ≠ (T b).2.1) ∧ (T j).2.2.2 = b ∧ (T j).1 = own ∧ parseFieldDescriptor (T j).2.2.1 = some ty
theorem n_putF (hC : nC Γ A cc own nL R po) {idx ci j a : Nat} {fs : List Value} {v : Value} {ty : FieldType} (q0 : Nat) (hf : nFp own idx ci j ty true) (hd : decode cc pc = .ok (.putfield idx, 3)) (he : ws[q0]? = some (a, .inr (ci, fs))) (hl0 : j < fs.length) (hnr : narrow ty v = v) (hft : fits ty v = true) {ws' : va_W} (hw : ws.set q0 (a, .inr (ci, fs.set j v)) = ws') (hn : pc + 3 = n) (kk : nV Γ A R nL n ls st ws' k) : nV Γ A R nL pc ls (v :: .ref a :: st) ws k := by
  obtain ⟨⟨l, D, cy, ad, o⟩, ⟨p, e, s⟩, ⟨m, args, below, meth, c⟩, Q⟩ := Γ
  obtain ⟨h1, h2, h3, h4, h5, h6, h7, h8, h9, h10, h11, h12, h13, h14⟩ := hC
  subst hn; subst hw
  obtain ⟨C, T, N, ty0, g1, g2, g3, g4, g5, g6, g7, g8, g9⟩ := hf
  intro H locs la hP hD hS hl
  exact va_putF h1 h2 h5 g2 ty0 g5 g6 h4 h8 hP hD hS q0 he g1 j g3 (h5 _ g4) (fun _ h => h) g7 h9 g8 g9 hnr hft hl0 hd (fun H1 locs1 hP1 hD1 hS1 => kk H1 locs1 la hP1 hD1 hS1 hl)
theorem n_putN (hC : nC Γ A cc own nL R po) {idx ci j a : Nat} {fs : List Value} {v : Value} {ty : FieldType} (q0 : Nat) (hf : nFp own idx ci j ty false) (hd : decode cc pc = .ok (.putfield idx, 3)) (he : ws[q0]? = some (a, .inr (ci, fs))) (hl0 : j < fs.length) (hnr : narrow ty v = v) (hft : fits ty v = true) {ws' : va_W} (hw : ws.set q0 (a, .inr (ci, fs.set j v)) = ws') (hn : pc + 3 = n) (kk : nV Γ A R nL n ls st ws' k) : nV Γ A R nL pc ls (v :: .ref a :: st) ws k := by
  obtain ⟨⟨l, D, cy, ad, o⟩, ⟨p, e, s⟩, ⟨m, args, below, meth, c⟩, Q⟩ := Γ
  obtain ⟨h1, h2, h3, h4, h5, h6, h7, h8, h9, h10, h11, h12, h13, h14⟩ := hC
  subst hn; subst hw
  obtain ⟨C, T, N, ty0, g1, g2, g3, g4, g5, g6, g7, g8, g9⟩ := hf
  intro H locs la hP hD hS hl
  exact va_put h1 h2 h5 g2 ty0 g5 g6 h4 h8 hP hD hS q0 he g1 j g3 (h5 _ g4) (fun _ h => h) g7 g9 hnr hft hl0 hd (fun H1 locs1 hP1 hD1 hS1 => kk H1 locs1 la hP1 hD1 hS1 hl)
theorem n_get (hC : nC Γ A cc own nL R po) {idx ci j a : Nat} {fs : List Value} {v : Value} (q0 : Nat) (hf : qFd own idx ci j) (hd : decode cc pc = .ok (.getfield idx, 3)) (he : ws[q0]? = some (a, .inr (ci, fs))) (hv : fs[j]? = some v) (hn : pc + 3 = n) (kk : nV Γ A R nL n ls (v :: st) ws k) : nV Γ A R nL pc ls (.ref a :: st) ws k := by
  obtain ⟨⟨l, D, cy, ad, o⟩, ⟨p, e, s⟩, ⟨m, args, below, meth, c⟩, Q⟩ := Γ
  obtain ⟨h1, h2, h3, h4, h5, h6, h7, h8, h9, h10, h11, h12, h13, h14⟩ := hC
  subst hn
  obtain ⟨C, T, N, g1, g2, g3, g4⟩ := hf
  intro H locs la hP hD hS hl
  exact va_get h1 h2 h5 g2 h4 h8 hP q0 he g1 j g3 (h5 _ g4) (fun _ h => h) hv hd (kk H locs la hP hD hS hl)
theorem n_cast (hC : nC Γ A cc own nL R po) {a N : Nat} {f : Nat → Int32} {x y : Int32} (q0 : Nat) (hd : decode cc pc = .ok (.castore, 1)) (he : ws[q0]? = some (a, .inl (Γ.1.2.2.1 1, N, .inl f))) (hin : vp_in y N) {ws' : va_W} (hw : ws.set q0 (a, .inl (Γ.1.2.2.1 1, N, .inl (upd f y.toNatClampNeg (vp_nar .char x)))) = ws') (hn : pc + 1 = n) (kk : nV Γ A R nL n ls st ws' k) : nV Γ A R nL pc ls (.int x :: .int y :: .ref a :: st) ws k := by
  obtain ⟨⟨l, D, cy, ad, o⟩, ⟨p, e, s⟩, ⟨m, args, below, meth, c⟩, Q⟩ := Γ
  obtain ⟨h1, h2, h3, h4, h5, h6, h7, h8, h9, h10, h11, h12, h13, h14⟩ := hC
  subst hn; subst hw
  intro H locs la hP hD hS hl
  exact va_cast h1 h2 h8 hP hD hS q0 1 he rfl hin hd (fun H1 locs1 hP1 hD1 hS1 => kk H1 locs1 la hP1 hD1 hS1 hl)
theorem n_iast (hC : nC Γ A cc own nL R po) {a N : Nat} {f : Nat → Int32} {x y : Int32} (q0 : Nat) (hd : decode cc pc = .ok (.iastore, 1)) (he : ws[q0]? = some (a, .inl (Γ.1.2.2.1 0, N, .inl f))) (hin : vp_in y N) {ws' : va_W} (hw : ws.set q0 (a, .inl (Γ.1.2.2.1 0, N, .inl (upd f y.toNatClampNeg x))) = ws') (hn : pc + 1 = n) (kk : nV Γ A R nL n ls st ws' k) : nV Γ A R nL pc ls (.int x :: .int y :: .ref a :: st) ws k := by
  obtain ⟨⟨l, D, cy, ad, o⟩, ⟨p, e, s⟩, ⟨m, args, below, meth, c⟩, Q⟩ := Γ
  obtain ⟨h1, h2, h3, h4, h5, h6, h7, h8, h9, h10, h11, h12, h13, h14⟩ := hC
  subst hn; subst hw
  intro H locs la hP hD hS hl
  exact va_iast h1 h2 h8 hP hD hS q0 0 he rfl hin hd (fun H1 locs1 hP1 hD1 hS1 => kk H1 locs1 la hP1 hD1 hS1 hl)
end NROWS
