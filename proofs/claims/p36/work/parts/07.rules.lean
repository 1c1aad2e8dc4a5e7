theorem q_Wimp {p : Program} {l : Launch} {e : Env} {R : Room} {s : State} {m : MethodId} {args : Array Value} {below : List Frame} {meth : Method} {c : Code} {H : Heap} {locs : List Loc} {cells slots : Nat} {Q Q' : State → Prop} {g : JFrame} (h : ∀ t, Q t → Q' t) (k : W p l e R s m args below meth c H locs cells slots Q g) : W p l e R s m args below meth c H locs cells slots Q' g := by
  intro T hT X
  obtain ⟨t, a1, b1⟩ := k T hT X
  exact ⟨t, a1, h t b1⟩
section QRULES
variable {Γ : qG} {cc : ByteArray} {own : String} {nL : Nat} {rt : Option FieldType} {R : Room} {po : Option Value → qM → Prop} {pc n : Nat} {ls ls' : List (Nat × Value)} {st : List Value} {S : qM} {k : Nat × Nat}
theorem q_iconst (hC : qC Γ cc own nL rt R po) {i : Int} {v : Int32} (hd : decode cc pc = .ok (.iconst i, 1)) (hv : Int32.ofInt i = v) (hn : pc + 1 = n) (kk : qV Γ R nL n ls (.int v :: st) S k) : qV Γ R nL pc ls st S k := by
  obtain ⟨⟨l, D, cy, ad, o⟩, ⟨p, e, s⟩, ⟨m, args, below, meth, c⟩, Q⟩ := Γ
  subst hn
  exact fun H locs la hP hS hl => lv_iconst hC.1 hC.2.1 hd hv (kk H locs la hP hS hl)
theorem q_bipush (hC : qC Γ cc own nL rt R po) {i : Int} {v : Int32} (hd : decode cc pc = .ok (.bipush i, 2)) (hv : (Int8.ofInt i).toInt32 = v) (hn : pc + 2 = n) (kk : qV Γ R nL n ls (.int v :: st) S k) : qV Γ R nL pc ls st S k := by
  obtain ⟨⟨l, D, cy, ad, o⟩, ⟨p, e, s⟩, ⟨m, args, below, meth, c⟩, Q⟩ := Γ
  subst hn
  exact fun H locs la hP hS hl => lv_bipush hC.1 hC.2.1 hd hv (kk H locs la hP hS hl)
theorem q_sipush (hC : qC Γ cc own nL rt R po) {i : Int} {v : Int32} (hd : decode cc pc = .ok (.sipush i, 3)) (hv : (Int16.ofInt i).toInt32 = v) (hn : pc + 3 = n) (kk : qV Γ R nL n ls (.int v :: st) S k) : qV Γ R nL pc ls st S k := by
  obtain ⟨⟨l, D, cy, ad, o⟩, ⟨p, e, s⟩, ⟨m, args, below, meth, c⟩, Q⟩ := Γ
  subst hn
  exact fun H locs la hP hS hl => lv_sipush hC.1 hC.2.1 hd hv (kk H locs la hP hS hl)
theorem q_ldc (hC : qC Γ cc own nL rt R po) {i : Nat} {v : Int32} (hd : decode cc pc = .ok (.ldc i, 2)) (hw : Cond.constant own i v ∈ qw) (hn : pc + 2 = n) (kk : qV Γ R nL n ls (.int v :: st) S k) : qV Γ R nL pc ls st S k := by
  obtain ⟨⟨l, D, cy, ad, o⟩, ⟨p, e, s⟩, ⟨m, args, below, meth, c⟩, Q⟩ := Γ
  subst hn
  exact fun H locs la hP hS hl => lv_ldc hC.1 hC.2.1 hC.2.2.2.1 (hC.2.2.2.2.1 _ hw) hd (kk H locs la hP hS hl)
/-- a local that is read: by its place in the row -/
theorem q_iload_n (hC : qC Γ cc own nL rt R po) {j : Fin 4} {x : Int32} (q : Nat) (hd : decode cc pc = .ok (.iload_n j, 1)) (hl : ls[q]? = some ((j : Nat), .int x)) (hn : pc + 1 = n) (kk : qV Γ R nL n ls (.int x :: st) S k) : qV Γ R nL pc ls st S k := by
  obtain ⟨⟨l, D, cy, ad, o⟩, ⟨p, e, s⟩, ⟨m, args, below, meth, c⟩, Q⟩ := Γ
  subst hn
  exact fun H locs la hP hS hla => lv_iload_n hC.1 hC.2.1 hd rfl (lv_at hla q hl) (kk H locs la hP hS hla)
theorem q_iload (hC : qC Γ cc own nL rt R po) {j : Nat} {x : Int32} (q : Nat) (hd : decode cc pc = .ok (.iload j, 2)) (hl : ls[q]? = some (j, .int x)) (hn : pc + 2 = n) (kk : qV Γ R nL n ls (.int x :: st) S k) : qV Γ R nL pc ls st S k := by
  obtain ⟨⟨l, D, cy, ad, o⟩, ⟨p, e, s⟩, ⟨m, args, below, meth, c⟩, Q⟩ := Γ
  subst hn
  exact fun H locs la hP hS hla => lv_iload hC.1 hC.2.1 hd (lv_at hla q hl) (kk H locs la hP hS hla)
theorem q_lload (hC : qC Γ cc own nL rt R po) {j : Nat} {x : Int64} (q : Nat) (hd : decode cc pc = .ok (.lload j, 2)) (hl : ls[q]? = some (j, .long x)) (hn : pc + 2 = n) (kk : qV Γ R nL n ls (.long x :: st) S k) : qV Γ R nL pc ls st S k := by
  obtain ⟨⟨l, D, cy, ad, o⟩, ⟨p, e, s⟩, ⟨m, args, below, meth, c⟩, Q⟩ := Γ
  subst hn
  exact fun H locs la hP hS hla => lv_lload hC.1 hC.2.1 hd (lv_at hla q hl) (kk H locs la hP hS hla)
theorem q_aload_n (hC : qC Γ cc own nL rt R po) {j : Fin 4} {x : Nat} (q : Nat) (hd : decode cc pc = .ok (.aload_n j, 1)) (hl : ls[q]? = some ((j : Nat), .ref x)) (hn : pc + 1 = n) (kk : qV Γ R nL n ls (.ref x :: st) S k) : qV Γ R nL pc ls st S k := by
  obtain ⟨⟨l, D, cy, ad, o⟩, ⟨p, e, s⟩, ⟨m, args, below, meth, c⟩, Q⟩ := Γ
  subst hn
  exact fun H locs la hP hS hla => lv_aload_n hC.1 hC.2.1 hd rfl (lv_at hla q hl) (kk H locs la hP hS hla)
theorem q_aload (hC : qC Γ cc own nL rt R po) {j : Nat} {x : Nat} (q : Nat) (hd : decode cc pc = .ok (.aload j, 2)) (hl : ls[q]? = some (j, .ref x)) (hn : pc + 2 = n) (kk : qV Γ R nL n ls (.ref x :: st) S k) : qV Γ R nL pc ls st S k := by
  obtain ⟨⟨l, D, cy, ad, o⟩, ⟨p, e, s⟩, ⟨m, args, below, meth, c⟩, Q⟩ := Γ
  subst hn
  exact fun H locs la hP hS hla => lv_aload hC.1 hC.2.1 hd (lv_at hla q hl) (kk H locs la hP hS hla)
theorem q_istore_n (hC : qC Γ cc own nL rt R po) {j : Fin 4} {x : Int32} (hd : decode cc pc = .ok (.istore_n j, 1)) (hj : (j : Nat) < nL) (hl : q_ls ls j (.int x) = ls') (hn : pc + 1 = n) (kk : qV Γ R nL n ls' st S k) : qV Γ R nL pc ls (.int x :: st) S k := by
  obtain ⟨⟨l, D, cy, ad, o⟩, ⟨p, e, s⟩, ⟨m, args, below, meth, c⟩, Q⟩ := Γ
  subst hn; subst hl
  exact fun H locs la hP hS hla => lv_istore_n hC.1 hC.2.1 hd rfl hla hj rfl (fun la' hla' => kk H locs la' hP hS (q_has hla'))
theorem q_istore (hC : qC Γ cc own nL rt R po) {j : Nat} {x : Int32} (hd : decode cc pc = .ok (.istore j, 2)) (hj : j < nL) (hl : q_ls ls j (.int x) = ls') (hn : pc + 2 = n) (kk : qV Γ R nL n ls' st S k) : qV Γ R nL pc ls (.int x :: st) S k := by
  obtain ⟨⟨l, D, cy, ad, o⟩, ⟨p, e, s⟩, ⟨m, args, below, meth, c⟩, Q⟩ := Γ
  subst hn; subst hl
  exact fun H locs la hP hS hla => lv_istore hC.1 hC.2.1 hd hla hj rfl (fun la' hla' => kk H locs la' hP hS (q_has hla'))
theorem q_lstore (hC : qC Γ cc own nL rt R po) {j : Nat} {x : Int64} (hd : decode cc pc = .ok (.lstore j, 2)) (hj : j + 1 < nL) (hl : q_lsl ls j (.long x) = ls') (hn : pc + 2 = n) (kk : qV Γ R nL n ls' st S k) : qV Γ R nL pc ls (.long x :: st) S k := by
  obtain ⟨⟨l, D, cy, ad, o⟩, ⟨p, e, s⟩, ⟨m, args, below, meth, c⟩, Q⟩ := Γ
  subst hn; subst hl
  exact fun H locs la hP hS hla => lv_lstore hC.1 hC.2.1 hd hla hj rfl (fun la' hla' => kk H locs la' hP hS (q_has hla'))
theorem q_astore_n (hC : qC Γ cc own nL rt R po) {j : Fin 4} {x : Nat} (hd : decode cc pc = .ok (.astore_n j, 1)) (hj : (j : Nat) < nL) (hl : q_ls ls j (.ref x) = ls') (hn : pc + 1 = n) (kk : qV Γ R nL n ls' st S k) : qV Γ R nL pc ls (.ref x :: st) S k := by
  obtain ⟨⟨l, D, cy, ad, o⟩, ⟨p, e, s⟩, ⟨m, args, below, meth, c⟩, Q⟩ := Γ
  subst hn; subst hl
  exact fun H locs la hP hS hla => lv_astore_n hC.1 hC.2.1 hd rfl hla hj rfl (fun la' hla' => kk H locs la' hP hS (q_has hla'))
theorem q_astore (hC : qC Γ cc own nL rt R po) {j : Nat} {x : Nat} (hd : decode cc pc = .ok (.astore j, 2)) (hj : j < nL) (hl : q_ls ls j (.ref x) = ls') (hn : pc + 2 = n) (kk : qV Γ R nL n ls' st S k) : qV Γ R nL pc ls (.ref x :: st) S k := by
  obtain ⟨⟨l, D, cy, ad, o⟩, ⟨p, e, s⟩, ⟨m, args, below, meth, c⟩, Q⟩ := Γ
  subst hn; subst hl
  exact fun H locs la hP hS hla => lv_astore hC.1 hC.2.1 hd hla hj rfl (fun la' hla' => kk H locs la' hP hS (q_has hla'))
theorem q_iinc (hC : qC Γ cc own nL rt R po) {j : Nat} {d : Int} {x v : Int32} (q : Nat) (hd : decode cc pc = .ok (.iinc j d, 3)) (hl0 : ls[q]? = some (j, .int x)) (hv : x + Int32.ofInt d = v) (hj : j < nL) (hl : q_ls ls j (.int v) = ls') (hn : pc + 3 = n) (kk : qV Γ R nL n ls' st S k) : qV Γ R nL pc ls st S k := by
  obtain ⟨⟨l, D, cy, ad, o⟩, ⟨p, e, s⟩, ⟨m, args, below, meth, c⟩, Q⟩ := Γ
  subst hn; subst hl
  exact fun H locs la hP hS hla => lv_iinc hC.1 hC.2.1 hd hla hl0 hv hj rfl (fun la' hla' => kk H locs la' hP hS (q_has hla'))
theorem q_pop (hC : qC Γ cc own nL rt R po) {va : Value} (hd : decode cc pc = .ok (.pop, 1)) (hva : va.category = 1) (hn : pc + 1 = n) (kk : qV Γ R nL n ls st S k) : qV Γ R nL pc ls (va :: st) S k := by
  obtain ⟨⟨l, D, cy, ad, o⟩, ⟨p, e, s⟩, ⟨m, args, below, meth, c⟩, Q⟩ := Γ
  subst hn
  exact fun H locs la hP hS hl => lv_pop hC.1 hC.2.1 hd hva (kk H locs la hP hS hl)
theorem q_pop2 (hC : qC Γ cc own nL rt R po) {va : Value} (hd : decode cc pc = .ok (.pop2, 1)) (hva : va.category = 2) (hn : pc + 1 = n) (kk : qV Γ R nL n ls st S k) : qV Γ R nL pc ls (va :: st) S k := by
  obtain ⟨⟨l, D, cy, ad, o⟩, ⟨p, e, s⟩, ⟨m, args, below, meth, c⟩, Q⟩ := Γ
  subst hn
  exact fun H locs la hP hS hl => lv_pop2_2 hC.1 hC.2.1 hd hva (kk H locs la hP hS hl)
theorem q_dup (hC : qC Γ cc own nL rt R po) {va : Value} (hd : decode cc pc = .ok (.dup, 1)) (hva : va.category = 1) (hn : pc + 1 = n) (kk : qV Γ R nL n ls (va :: va :: st) S k) : qV Γ R nL pc ls (va :: st) S k := by
  obtain ⟨⟨l, D, cy, ad, o⟩, ⟨p, e, s⟩, ⟨m, args, below, meth, c⟩, Q⟩ := Γ
  subst hn
  exact fun H locs la hP hS hl => lv_dup hC.1 hC.2.1 hd hva (kk H locs la hP hS hl)
theorem q_dup2 (hC : qC Γ cc own nL rt R po) {va vb : Value} (hd : decode cc pc = .ok (.dup2, 1)) (hva : va.category = 1) (hvb : vb.category = 1) (hn : pc + 1 = n) (kk : qV Γ R nL n ls (va :: vb :: va :: vb :: st) S k) : qV Γ R nL pc ls (va :: vb :: st) S k := by
  obtain ⟨⟨l, D, cy, ad, o⟩, ⟨p, e, s⟩, ⟨m, args, below, meth, c⟩, Q⟩ := Γ
  subst hn
  exact fun H locs la hP hS hl => lv_dup2_11 hC.1 hC.2.1 hd hva hvb (kk H locs la hP hS hl)
theorem q_goto (hC : qC Γ cc own nL rt R po) {off : Int} (hd : decode cc pc = .ok (.goto off, 3)) (ht : (pc : Int) + off = (n : Int)) (kk : qV Γ R nL n ls st S k) : qV Γ R nL pc ls st S k := by
  obtain ⟨⟨l, D, cy, ad, o⟩, ⟨p, e, s⟩, ⟨m, args, below, meth, c⟩, Q⟩ := Γ
  exact fun H locs la hP hS hl => lv_goto hC.1 hC.2.1 hd ht (kk H locs la hP hS hl)
theorem q_iadd (hC : qC Γ cc own nL rt R po) {x y : Int32} (hd : decode cc pc = .ok (.iadd, 1)) (hn : pc + 1 = n) (kk : qV Γ R nL n ls (.int (x + y) :: st) S k) : qV Γ R nL pc ls (.int y :: .int x :: st) S k := by
  obtain ⟨⟨l, D, cy, ad, o⟩, ⟨p, e, s⟩, ⟨m, args, below, meth, c⟩, Q⟩ := Γ
  subst hn
  exact fun H locs la hP hS hl => lv_iadd hC.1 hC.2.1 hd (kk H locs la hP hS hl)
theorem q_isub (hC : qC Γ cc own nL rt R po) {x y : Int32} (hd : decode cc pc = .ok (.isub, 1)) (hn : pc + 1 = n) (kk : qV Γ R nL n ls (.int (x - y) :: st) S k) : qV Γ R nL pc ls (.int y :: .int x :: st) S k := by
  obtain ⟨⟨l, D, cy, ad, o⟩, ⟨p, e, s⟩, ⟨m, args, below, meth, c⟩, Q⟩ := Γ
  subst hn
  exact fun H locs la hP hS hl => lv_isub hC.1 hC.2.1 hd (kk H locs la hP hS hl)
theorem q_imul (hC : qC Γ cc own nL rt R po) {x y : Int32} (hd : decode cc pc = .ok (.imul, 1)) (hn : pc + 1 = n) (kk : qV Γ R nL n ls (.int (x * y) :: st) S k) : qV Γ R nL pc ls (.int y :: .int x :: st) S k := by
  obtain ⟨⟨l, D, cy, ad, o⟩, ⟨p, e, s⟩, ⟨m, args, below, meth, c⟩, Q⟩ := Γ
  subst hn
  exact fun H locs la hP hS hl => lv_imul hC.1 hC.2.1 hd (kk H locs la hP hS hl)
theorem q_iand (hC : qC Γ cc own nL rt R po) {x y : Int32} (hd : decode cc pc = .ok (.iand, 1)) (hn : pc + 1 = n) (kk : qV Γ R nL n ls (.int (x &&& y) :: st) S k) : qV Γ R nL pc ls (.int y :: .int x :: st) S k := by
  obtain ⟨⟨l, D, cy, ad, o⟩, ⟨p, e, s⟩, ⟨m, args, below, meth, c⟩, Q⟩ := Γ
  subst hn
  exact fun H locs la hP hS hl => lv_iand hC.1 hC.2.1 hd (kk H locs la hP hS hl)
theorem q_ior (hC : qC Γ cc own nL rt R po) {x y : Int32} (hd : decode cc pc = .ok (.ior, 1)) (hn : pc + 1 = n) (kk : qV Γ R nL n ls (.int (x ||| y) :: st) S k) : qV Γ R nL pc ls (.int y :: .int x :: st) S k := by
  obtain ⟨⟨l, D, cy, ad, o⟩, ⟨p, e, s⟩, ⟨m, args, below, meth, c⟩, Q⟩ := Γ
  subst hn
  exact fun H locs la hP hS hl => lv_ior hC.1 hC.2.1 hd (kk H locs la hP hS hl)
theorem q_ixor (hC : qC Γ cc own nL rt R po) {x y : Int32} (hd : decode cc pc = .ok (.ixor, 1)) (hn : pc + 1 = n) (kk : qV Γ R nL n ls (.int (x ^^^ y) :: st) S k) : qV Γ R nL pc ls (.int y :: .int x :: st) S k := by
  obtain ⟨⟨l, D, cy, ad, o⟩, ⟨p, e, s⟩, ⟨m, args, below, meth, c⟩, Q⟩ := Γ
  subst hn
  exact fun H locs la hP hS hl => lv_ixor hC.1 hC.2.1 hd (kk H locs la hP hS hl)
theorem q_idiv (hC : qC Γ cc own nL rt R po) {x y : Int32} (hd : decode cc pc = .ok (.idiv, 1)) (hne : ¬ y = 0) (hn : pc + 1 = n) (kk : qV Γ R nL n ls (.int (x / y) :: st) S k) : qV Γ R nL pc ls (.int y :: .int x :: st) S k := by
  obtain ⟨⟨l, D, cy, ad, o⟩, ⟨p, e, s⟩, ⟨m, args, below, meth, c⟩, Q⟩ := Γ
  subst hn
  exact fun H locs la hP hS hl => lv_idiv hC.1 hC.2.1 hd hne (kk H locs la hP hS hl)
theorem q_irem (hC : qC Γ cc own nL rt R po) {x y : Int32} (hd : decode cc pc = .ok (.irem, 1)) (hne : ¬ y = 0) (hn : pc + 1 = n) (kk : qV Γ R nL n ls (.int (x - x / y * y) :: st) S k) : qV Γ R nL pc ls (.int y :: .int x :: st) S k := by
  obtain ⟨⟨l, D, cy, ad, o⟩, ⟨p, e, s⟩, ⟨m, args, below, meth, c⟩, Q⟩ := Γ
  subst hn
  exact fun H locs la hP hS hl => lv_irem hC.1 hC.2.1 hd hne (kk H locs la hP hS hl)
theorem q_ishl (hC : qC Γ cc own nL rt R po) {x y : Int32} (hd : decode cc pc = .ok (.ishl, 1)) (hn : pc + 1 = n) (kk : qV Γ R nL n ls (.int (x <<< (y &&& 31)) :: st) S k) : qV Γ R nL pc ls (.int y :: .int x :: st) S k := by
  obtain ⟨⟨l, D, cy, ad, o⟩, ⟨p, e, s⟩, ⟨m, args, below, meth, c⟩, Q⟩ := Γ
  subst hn
  exact fun H locs la hP hS hl => lv_ishl hC.1 hC.2.1 hd (kk H locs la hP hS hl)
theorem q_ishr (hC : qC Γ cc own nL rt R po) {x y : Int32} (hd : decode cc pc = .ok (.ishr, 1)) (hn : pc + 1 = n) (kk : qV Γ R nL n ls (.int (x >>> (y &&& 31)) :: st) S k) : qV Γ R nL pc ls (.int y :: .int x :: st) S k := by
  obtain ⟨⟨l, D, cy, ad, o⟩, ⟨p, e, s⟩, ⟨m, args, below, meth, c⟩, Q⟩ := Γ
  subst hn
  exact fun H locs la hP hS hl => lv_ishr hC.1 hC.2.1 hd (kk H locs la hP hS hl)
theorem q_ladd (hC : qC Γ cc own nL rt R po) {x y : Int64} (hd : decode cc pc = .ok (.ladd, 1)) (hn : pc + 1 = n) (kk : qV Γ R nL n ls (.long (x + y) :: st) S k) : qV Γ R nL pc ls (.long y :: .long x :: st) S k := by
  obtain ⟨⟨l, D, cy, ad, o⟩, ⟨p, e, s⟩, ⟨m, args, below, meth, c⟩, Q⟩ := Γ
  subst hn
  exact fun H locs la hP hS hl => lv_ladd hC.1 hC.2.1 hd (kk H locs la hP hS hl)
theorem q_ldiv (hC : qC Γ cc own nL rt R po) {x y : Int64} (hd : decode cc pc = .ok (.ldiv, 1)) (hne : ¬ y = 0) (hn : pc + 1 = n) (kk : qV Γ R nL n ls (.long (x / y) :: st) S k) : qV Γ R nL pc ls (.long y :: .long x :: st) S k := by
  obtain ⟨⟨l, D, cy, ad, o⟩, ⟨p, e, s⟩, ⟨m, args, below, meth, c⟩, Q⟩ := Γ
  subst hn
  exact fun H locs la hP hS hl => lv_ldiv hC.1 hC.2.1 hd hne (kk H locs la hP hS hl)
theorem q_iushr (hC : qC Γ cc own nL rt R po) {x y : Int32} (hd : decode cc pc = .ok (.iushr, 1)) (hn : pc + 1 = n) (kk : qV Γ R nL n ls (.int ((x.toUInt32 >>> (y.toUInt32 &&& Int32.toUInt32 31)).toInt32) :: st) S k) : qV Γ R nL pc ls (.int y :: .int x :: st) S k := by
  obtain ⟨⟨l, D, cy, ad, o⟩, ⟨p, e, s⟩, ⟨m, args, below, meth, c⟩, Q⟩ := Γ
  subst hn
  exact fun H locs la hP hS hl => lv_iushr hC.1 hC.2.1 hd rfl (kk H locs la hP hS hl)
theorem q_ineg (hC : qC Γ cc own nL rt R po) {x : Int32} (hd : decode cc pc = .ok (.ineg, 1)) (hn : pc + 1 = n) (kk : qV Γ R nL n ls (.int (-x) :: st) S k) : qV Γ R nL pc ls (.int x :: st) S k := by
  obtain ⟨⟨l, D, cy, ad, o⟩, ⟨p, e, s⟩, ⟨m, args, below, meth, c⟩, Q⟩ := Γ
  subst hn
  exact fun H locs la hP hS hl => lv_ineg hC.1 hC.2.1 hd (kk H locs la hP hS hl)
theorem q_i2c (hC : qC Γ cc own nL rt R po) {x : Int32} (hd : decode cc pc = .ok (.i2c, 1)) (hn : pc + 1 = n) (kk : qV Γ R nL n ls (.int ((x.toUInt32 % 65536).toInt32) :: st) S k) : qV Γ R nL pc ls (.int x :: st) S k := by
  obtain ⟨⟨l, D, cy, ad, o⟩, ⟨p, e, s⟩, ⟨m, args, below, meth, c⟩, Q⟩ := Γ
  subst hn
  exact fun H locs la hP hS hl => lv_i2c hC.1 hC.2.1 hd rfl (kk H locs la hP hS hl)
theorem q_i2l (hC : qC Γ cc own nL rt R po) {x : Int32} (hd : decode cc pc = .ok (.i2l, 1)) (hn : pc + 1 = n) (kk : qV Γ R nL n ls (.long x.toInt64 :: st) S k) : qV Γ R nL pc ls (.int x :: st) S k := by
  obtain ⟨⟨l, D, cy, ad, o⟩, ⟨p, e, s⟩, ⟨m, args, below, meth, c⟩, Q⟩ := Γ
  subst hn
  exact fun H locs la hP hS hl => lv_i2l hC.1 hC.2.1 hd rfl (kk H locs la hP hS hl)
theorem q_l2i (hC : qC Γ cc own nL rt R po) {x : Int64} (hd : decode cc pc = .ok (.l2i, 1)) (hn : pc + 1 = n) (kk : qV Γ R nL n ls (.int x.toInt32 :: st) S k) : qV Γ R nL pc ls (.long x :: st) S k := by
  obtain ⟨⟨l, D, cy, ad, o⟩, ⟨p, e, s⟩, ⟨m, args, below, meth, c⟩, Q⟩ := Γ
  subst hn
  exact fun H locs la hP hS hl => lv_l2i hC.1 hC.2.1 hd rfl (kk H locs la hP hS hl)
theorem q_lconst (hC : qC Γ cc own nL rt R po) {i : Fin 2} {v : Int64} (hd : decode cc pc = .ok (.lconst i, 1)) (hv : Int64.ofNat (i : Nat) = v) (hn : pc + 1 = n) (kk : qV Γ R nL n ls (.long v :: st) S k) : qV Γ R nL pc ls st S k := by
  obtain ⟨⟨l, D, cy, ad, o⟩, ⟨p, e, s⟩, ⟨m, args, below, meth, c⟩, Q⟩ := Γ
  subst hn
  exact fun H locs la hP hS hl => lv_lconst hC.1 hC.2.1 hd hv (kk H locs la hP hS hl)
theorem q_ldc2 (hC : qC Γ cc own nL rt R po) {i : Nat} {v : Int64} (hd : decode cc pc = .ok (.ldc2_w i, 3)) (hw : Cond.constantLong own i v ∈ qw) (hn : pc + 3 = n) (kk : qV Γ R nL n ls (.long v :: st) S k) : qV Γ R nL pc ls st S k := by
  obtain ⟨⟨l, D, cy, ad, o⟩, ⟨p, e, s⟩, ⟨m, args, below, meth, c⟩, Q⟩ := Γ
  subst hn
  exact fun H locs la hP hS hl => lv_ldc2 hC.1 hC.2.1 hC.2.2.2.1 (hC.2.2.2.2.1 _ hw) hd (kk H locs la hP hS hl)
theorem q_if_eq (hC : qC Γ cc own nL rt R po) {x : Int32} {off : Int} {t : Nat} (hd : decode cc pc = .ok (.ifCond .eq off, 3)) (ht : (pc : Int) + off = (t : Int)) (hn : pc + 3 = n) (kt : x = 0 → qV Γ R nL t ls st S k) (kf : ¬ x = 0 → qV Γ R nL n ls st S k) : qV Γ R nL pc ls (.int x :: st) S k := by
  obtain ⟨⟨l, D, cy, ad, o⟩, ⟨p, e, s⟩, ⟨m, args, below, meth, c⟩, Q⟩ := Γ
  subst hn
  exact fun H locs la hP hS hl => lv_if_eq hC.1 hC.2.1 hd ht (fun h => kt h H locs la hP hS hl) (fun h => kf h H locs la hP hS hl)
theorem q_icmp_eq (hC : qC Γ cc own nL rt R po) {x y : Int32} {off : Int} {t : Nat} (hd : decode cc pc = .ok (.if_icmp .eq off, 3)) (ht : (pc : Int) + off = (t : Int)) (hn : pc + 3 = n) (kt : x = y → qV Γ R nL t ls st S k) (kf : ¬ x = y → qV Γ R nL n ls st S k) : qV Γ R nL pc ls (.int y :: .int x :: st) S k := by
  obtain ⟨⟨l, D, cy, ad, o⟩, ⟨p, e, s⟩, ⟨m, args, below, meth, c⟩, Q⟩ := Γ
  subst hn
  exact fun H locs la hP hS hl => lv_icmp_eq hC.1 hC.2.1 hd ht (fun h => kt h H locs la hP hS hl) (fun h => kf h H locs la hP hS hl)
theorem q_if_ne (hC : qC Γ cc own nL rt R po) {x : Int32} {off : Int} {t : Nat} (hd : decode cc pc = .ok (.ifCond .ne off, 3)) (ht : (pc : Int) + off = (t : Int)) (hn : pc + 3 = n) (kt : ¬ x = 0 → qV Γ R nL t ls st S k) (kf : x = 0 → qV Γ R nL n ls st S k) : qV Γ R nL pc ls (.int x :: st) S k := by
  obtain ⟨⟨l, D, cy, ad, o⟩, ⟨p, e, s⟩, ⟨m, args, below, meth, c⟩, Q⟩ := Γ
  subst hn
  exact fun H locs la hP hS hl => lv_if_ne hC.1 hC.2.1 hd ht (fun h => kt h H locs la hP hS hl) (fun h => kf h H locs la hP hS hl)
theorem q_icmp_ne (hC : qC Γ cc own nL rt R po) {x y : Int32} {off : Int} {t : Nat} (hd : decode cc pc = .ok (.if_icmp .ne off, 3)) (ht : (pc : Int) + off = (t : Int)) (hn : pc + 3 = n) (kt : ¬ x = y → qV Γ R nL t ls st S k) (kf : x = y → qV Γ R nL n ls st S k) : qV Γ R nL pc ls (.int y :: .int x :: st) S k := by
  obtain ⟨⟨l, D, cy, ad, o⟩, ⟨p, e, s⟩, ⟨m, args, below, meth, c⟩, Q⟩ := Γ
  subst hn
  exact fun H locs la hP hS hl => lv_icmp_ne hC.1 hC.2.1 hd ht (fun h => kt h H locs la hP hS hl) (fun h => kf h H locs la hP hS hl)
theorem q_if_lt (hC : qC Γ cc own nL rt R po) {x : Int32} {off : Int} {t : Nat} (hd : decode cc pc = .ok (.ifCond .lt off, 3)) (ht : (pc : Int) + off = (t : Int)) (hn : pc + 3 = n) (kt : x < 0 → qV Γ R nL t ls st S k) (kf : ¬ x < 0 → qV Γ R nL n ls st S k) : qV Γ R nL pc ls (.int x :: st) S k := by
  obtain ⟨⟨l, D, cy, ad, o⟩, ⟨p, e, s⟩, ⟨m, args, below, meth, c⟩, Q⟩ := Γ
  subst hn
  exact fun H locs la hP hS hl => lv_if_lt hC.1 hC.2.1 hd ht (fun h => kt h H locs la hP hS hl) (fun h => kf h H locs la hP hS hl)
theorem q_icmp_lt (hC : qC Γ cc own nL rt R po) {x y : Int32} {off : Int} {t : Nat} (hd : decode cc pc = .ok (.if_icmp .lt off, 3)) (ht : (pc : Int) + off = (t : Int)) (hn : pc + 3 = n) (kt : x < y → qV Γ R nL t ls st S k) (kf : ¬ x < y → qV Γ R nL n ls st S k) : qV Γ R nL pc ls (.int y :: .int x :: st) S k := by
  obtain ⟨⟨l, D, cy, ad, o⟩, ⟨p, e, s⟩, ⟨m, args, below, meth, c⟩, Q⟩ := Γ
  subst hn
  exact fun H locs la hP hS hl => lv_icmp_lt hC.1 hC.2.1 hd ht (fun h => kt h H locs la hP hS hl) (fun h => kf h H locs la hP hS hl)
theorem q_if_ge (hC : qC Γ cc own nL rt R po) {x : Int32} {off : Int} {t : Nat} (hd : decode cc pc = .ok (.ifCond .ge off, 3)) (ht : (pc : Int) + off = (t : Int)) (hn : pc + 3 = n) (kt : 0 ≤ x → qV Γ R nL t ls st S k) (kf : ¬ 0 ≤ x → qV Γ R nL n ls st S k) : qV Γ R nL pc ls (.int x :: st) S k := by
  obtain ⟨⟨l, D, cy, ad, o⟩, ⟨p, e, s⟩, ⟨m, args, below, meth, c⟩, Q⟩ := Γ
  subst hn
  exact fun H locs la hP hS hl => lv_if_ge hC.1 hC.2.1 hd ht (fun h => kt h H locs la hP hS hl) (fun h => kf h H locs la hP hS hl)
theorem q_icmp_ge (hC : qC Γ cc own nL rt R po) {x y : Int32} {off : Int} {t : Nat} (hd : decode cc pc = .ok (.if_icmp .ge off, 3)) (ht : (pc : Int) + off = (t : Int)) (hn : pc + 3 = n) (kt : y ≤ x → qV Γ R nL t ls st S k) (kf : ¬ y ≤ x → qV Γ R nL n ls st S k) : qV Γ R nL pc ls (.int y :: .int x :: st) S k := by
  obtain ⟨⟨l, D, cy, ad, o⟩, ⟨p, e, s⟩, ⟨m, args, below, meth, c⟩, Q⟩ := Γ
  subst hn
  exact fun H locs la hP hS hl => lv_icmp_ge hC.1 hC.2.1 hd ht (fun h => kt h H locs la hP hS hl) (fun h => kf h H locs la hP hS hl)
theorem q_if_gt (hC : qC Γ cc own nL rt R po) {x : Int32} {off : Int} {t : Nat} (hd : decode cc pc = .ok (.ifCond .gt off, 3)) (ht : (pc : Int) + off = (t : Int)) (hn : pc + 3 = n) (kt : 0 < x → qV Γ R nL t ls st S k) (kf : ¬ 0 < x → qV Γ R nL n ls st S k) : qV Γ R nL pc ls (.int x :: st) S k := by
  obtain ⟨⟨l, D, cy, ad, o⟩, ⟨p, e, s⟩, ⟨m, args, below, meth, c⟩, Q⟩ := Γ
  subst hn
  exact fun H locs la hP hS hl => lv_if_gt hC.1 hC.2.1 hd ht (fun h => kt h H locs la hP hS hl) (fun h => kf h H locs la hP hS hl)
theorem q_icmp_gt (hC : qC Γ cc own nL rt R po) {x y : Int32} {off : Int} {t : Nat} (hd : decode cc pc = .ok (.if_icmp .gt off, 3)) (ht : (pc : Int) + off = (t : Int)) (hn : pc + 3 = n) (kt : y < x → qV Γ R nL t ls st S k) (kf : ¬ y < x → qV Γ R nL n ls st S k) : qV Γ R nL pc ls (.int y :: .int x :: st) S k := by
  obtain ⟨⟨l, D, cy, ad, o⟩, ⟨p, e, s⟩, ⟨m, args, below, meth, c⟩, Q⟩ := Γ
  subst hn
  exact fun H locs la hP hS hl => lv_icmp_gt hC.1 hC.2.1 hd ht (fun h => kt h H locs la hP hS hl) (fun h => kf h H locs la hP hS hl)
theorem q_if_le (hC : qC Γ cc own nL rt R po) {x : Int32} {off : Int} {t : Nat} (hd : decode cc pc = .ok (.ifCond .le off, 3)) (ht : (pc : Int) + off = (t : Int)) (hn : pc + 3 = n) (kt : x ≤ 0 → qV Γ R nL t ls st S k) (kf : ¬ x ≤ 0 → qV Γ R nL n ls st S k) : qV Γ R nL pc ls (.int x :: st) S k := by
  obtain ⟨⟨l, D, cy, ad, o⟩, ⟨p, e, s⟩, ⟨m, args, below, meth, c⟩, Q⟩ := Γ
  subst hn
  exact fun H locs la hP hS hl => lv_if_le hC.1 hC.2.1 hd ht (fun h => kt h H locs la hP hS hl) (fun h => kf h H locs la hP hS hl)
theorem q_icmp_le (hC : qC Γ cc own nL rt R po) {x y : Int32} {off : Int} {t : Nat} (hd : decode cc pc = .ok (.if_icmp .le off, 3)) (ht : (pc : Int) + off = (t : Int)) (hn : pc + 3 = n) (kt : x ≤ y → qV Γ R nL t ls st S k) (kf : ¬ x ≤ y → qV Γ R nL n ls st S k) : qV Γ R nL pc ls (.int y :: .int x :: st) S k := by
  obtain ⟨⟨l, D, cy, ad, o⟩, ⟨p, e, s⟩, ⟨m, args, below, meth, c⟩, Q⟩ := Γ
  subst hn
  exact fun H locs la hP hS hl => lv_icmp_le hC.1 hC.2.1 hd ht (fun h => kt h H locs la hP hS hl) (fun h => kf h H locs la hP hS hl)
theorem q_lcmp (hC : qC Γ cc own nL rt R po) {x y : Int64} (hd : decode cc pc = .ok (.lcmp, 1)) (hn : pc + 1 = n) (kk : qV Γ R nL n ls (.int (lg_cmp x y) :: st) S k) : qV Γ R nL pc ls (.long y :: .long x :: st) S k := by
  obtain ⟨⟨l, D, cy, ad, o⟩, ⟨p, e, s⟩, ⟨m, args, below, meth, c⟩, Q⟩ := Γ
  subst hn
  exact fun H locs la hP hS hl => W.lcmp hC.1 hC.2.1 hd (kk H locs la hP hS hl)
/-- another row of locals that says no more -/
theorem q_loc (hs : ∀ q ∈ ls', q ∈ ls) (kk : qV Γ R nL pc ls' st S k) : qV Γ R nL pc ls st S k := by
  obtain ⟨⟨l, D, cy, ad, o⟩, ⟨p, e, s⟩, ⟨m, args, below, meth, c⟩, Q⟩ := Γ
  exact fun H locs la hP hS hl => kk H locs la hP hS (q_hasSub hl hs)
/-! fields -/
def qFd (own : String) (idx ci j : Nat) : Prop := ∃ (C : String) (T : u_T) (N : Nat), q_cl[ci]? = some (C, T, N) ∧ (∀ w ∈ u_ws C T N, w ∈ qw) ∧ j < N ∧ Cond.fieldLink own idx (T j).1 (T j).2.1 (T j).2.2.1 ∈ qw
def qFp (own : String) (idx ci j : Nat) (ty : FieldType) : Prop := ∃ (C : String) (T : u_T) (N : Nat) (ty0 : Nat → FieldType), q_cl[ci]? = some (C, T, N) ∧ (∀ w ∈ u_ws C T N, w ∈ qw) ∧ j < N ∧ Cond.fieldLink own idx (T j).1 (T j).2.1 (T j).2.2.1 ∈ qw ∧
  (∀ k, k < N → parseFieldDescriptor (T k).2.2.1 = some (ty0 k)) ∧ (∀ a, a < N → ∀ b, b < N → a ≠ b → (T a).2.1 ≠ (T b).2.1) ∧ (T j).2.2.2 = false ∧ parseFieldDescriptor (T j).2.2.1 = some ty
theorem q_get_f (hC : qC Γ cc own nL rt R po) {idx ci j t i : Nat} {fs : List Value} {v : Value} (hf : qFd own idx ci j) (hd : decode cc pc = .ok (.getfield idx, 3)) (he : q_enc (q_ad Γ) Γ.1.2.2.1 (S t i) t i = .inr (ci, fs)) (hv : fs[j]? = some v) (hi : i < q_cnt t) (hn : pc + 3 = n) (kk : qV Γ R nL n ls (v :: st) S k) : qV Γ R nL pc ls (.ref (q_ad Γ t i) :: st) S k := by
  obtain ⟨⟨l, D, cy, ad, o⟩, ⟨p, e, s⟩, ⟨m, args, below, meth, c⟩, Q⟩ := Γ
  subst hn
  obtain ⟨C, T, N, h1, h2, h3, h4⟩ := hf
  intro H locs la hP hS hl
  obtain ⟨q0, hq0, hq1⟩ := q_get (ad := ad) (cy := cy) (S := S) hi
  rw [show q_enc ad cy (S t i) t i = .inr (ci, fs) from he] at hq1
  exact va_get hC.1 hC.2.1 hC.2.2.2.2.1 h2 hC.2.2.2.1 hC.2.2.2.2.2.2.2.1 hP q0 hq1 h1 j h3 (hC.2.2.2.2.1 _ h4) (fun _ h => h) hv hd (kk H locs la hP hS hl)
theorem q_put_f (hC : qC Γ cc own nL rt R po) {idx ci j t i : Nat} {fs : List Value} {v : Value} {ty : FieldType} (w : Int32) (hf : qFp own idx ci j ty) (hd : decode cc pc = .ok (.putfield idx, 3)) (he : q_enc (q_ad Γ) Γ.1.2.2.1 (S t i) t i = .inr (ci, fs)) (hs : q_enc (q_ad Γ) Γ.1.2.2.1 (upd (S t i) j w) t i = .inr (ci, fs.set j v)) (hl0 : j < fs.length) (hnr : narrow ty v = v) (hft : fits ty v = true) (hi : i < q_cnt t) (hn : pc + 3 = n) (kk : qV Γ R nL n ls st (q_up S t i (upd (S t i) j w)) k) : qV Γ R nL pc ls (v :: .ref (q_ad Γ t i) :: st) S k := by
  obtain ⟨⟨l, D, cy, ad, o⟩, ⟨p, e, s⟩, ⟨m, args, below, meth, c⟩, Q⟩ := Γ
  subst hn
  obtain ⟨C, T, N, ty0, h1, h2, h3, h4, h5, h6, h7, h8⟩ := hf
  intro H locs la hP hS hl
  obtain ⟨q0, hq0, hq1⟩ := q_get (ad := ad) (cy := cy) (S := S) hi
  rw [show q_enc ad cy (S t i) t i = .inr (ci, fs) from he] at hq1
  refine va_put hC.1 hC.2.1 hC.2.2.2.2.1 h2 ty0 h5 h6 hC.2.2.2.1 hC.2.2.2.2.2.2.2.1 hP (q_WD hC.2.2.2.2.2.2.2.2.1 q_AA) hS q0 hq1 h1 j h3 (hC.2.2.2.2.1 _ h4) (fun _ h => h) h7 h8 hnr hft hl0 hd (fun H1 locs1 hP1 hD1 hS1 => ?_)
  rw [← show q_enc ad cy (upd (S t i) j w) t i = .inr (ci, fs.set j v) from hs, q_set hq0] at hP1
  exact kk H1 locs1 la hP1 hS1 hl
/-! arrays -/
theorem q_alen (hC : qC Γ cc own nL rt R po) {t i a : Nat} {v : Int32} {x : vp_A} {ty : FieldType} {cA : ClassId} (hd : decode cc pc = .ok (.arraylength, 1)) (he : q_enc (q_ad Γ) Γ.1.2.2.1 (S t i) t i = .inl (cA, x)) (ht : (q_tys Γ.1.2.2.1)[a]? = some (cA, ty)) (hv : Int32.ofNat x.1 = v) (hi : i < q_cnt t) (hn : pc + 1 = n) (kk : qV Γ R nL n ls (.int v :: st) S k) : qV Γ R nL pc ls (.ref (q_ad Γ t i) :: st) S k := by
  obtain ⟨⟨l, D, cy, ad, o⟩, ⟨p, e, s⟩, ⟨m, args, below, meth, c⟩, Q⟩ := Γ
  subst hn
  intro H locs la hP hS hl
  obtain ⟨q0, hq0, hq1⟩ := q_get (ad := ad) (cy := cy) (S := S) hi
  rw [show q_enc ad cy (S t i) t i = .inl (cA, x) from he] at hq1
  exact va_alen hC.1 hC.2.1 hC.2.2.2.2.2.2.2.1 hP q0 a hq1 ht hv hd (kk H locs la hP hS hl)
theorem q_aald (hC : qC Γ cc own nL rt R po) {t i a N : Nat} {C : String} {x : Int32} {g : Nat → Option Nat} {cA : ClassId} (hd : decode cc pc = .ok (.aaload, 1)) (he : q_enc (q_ad Γ) Γ.1.2.2.1 (S t i) t i = .inl (cA, N, .inr (.inr (.inr (.inr g))))) (ht : (q_tys Γ.1.2.2.1)[a]? = some (cA, .object C)) (hin : vp_in x N) (hi : i < q_cnt t) (hn : pc + 1 = n) (kk : qV Γ R nL n ls (va_rf (g x.toNatClampNeg) :: st) S k) : qV Γ R nL pc ls (.int x :: .ref (q_ad Γ t i) :: st) S k := by
  obtain ⟨⟨l, D, cy, ad, o⟩, ⟨p, e, s⟩, ⟨m, args, below, meth, c⟩, Q⟩ := Γ
  subst hn
  intro H locs la hP hS hl
  obtain ⟨q0, hq0, hq1⟩ := q_get (ad := ad) (cy := cy) (S := S) hi
  rw [show q_enc ad cy (S t i) t i = .inl (cA, N, .inr (.inr (.inr (.inr g)))) from he] at hq1
  exact va_aldq hC.1 hC.2.1 hC.2.2.2.2.2.2.2.1 hP q0 a hq1 ht hin hd (kk H locs la hP hS hl)
theorem q_iald (hC : qC Γ cc own nL rt R po) {t i N : Nat} {x : Int32} (hd : decode cc pc = .ok (.iaload, 1)) (he : q_enc (q_ad Γ) Γ.1.2.2.1 (S t i) t i = .inl (Γ.1.2.2.1 0, N, .inl (S t i))) (hi : i < q_cnt t) (hin : vp_in x N) (hn : pc + 1 = n) (kk : qV Γ R nL n ls (.int (S t i x.toNatClampNeg) :: st) S k) : qV Γ R nL pc ls (.int x :: .ref (q_ad Γ t i) :: st) S k := by
  obtain ⟨⟨l, D, cy, ad, o⟩, ⟨p, e, s⟩, ⟨m, args, below, meth, c⟩, Q⟩ := Γ
  subst hn
  intro H locs la hP hS hl
  obtain ⟨q0, hq0, hq1⟩ := q_get (ad := ad) (cy := cy) (S := S) hi
  rw [show q_enc ad cy (S t i) t i = .inl (cy 0, N, .inl (S t i)) from he] at hq1
  exact va_iald hC.1 hC.2.1 hC.2.2.2.2.2.2.2.1 hP q0 0 hq1 rfl hin hd (kk H locs la hP hS hl)
theorem q_cald (hC : qC Γ cc own nL rt R po) {t i N : Nat} {x : Int32} (hd : decode cc pc = .ok (.caload, 1)) (he : q_enc (q_ad Γ) Γ.1.2.2.1 (S t i) t i = .inl (Γ.1.2.2.1 1, N, .inl (S t i))) (hi : i < q_cnt t) (hin : vp_in x N) (hn : pc + 1 = n) (kk : qV Γ R nL n ls (.int (S t i x.toNatClampNeg) :: st) S k) : qV Γ R nL pc ls (.int x :: .ref (q_ad Γ t i) :: st) S k := by
  obtain ⟨⟨l, D, cy, ad, o⟩, ⟨p, e, s⟩, ⟨m, args, below, meth, c⟩, Q⟩ := Γ
  subst hn
  intro H locs la hP hS hl
  obtain ⟨q0, hq0, hq1⟩ := q_get (ad := ad) (cy := cy) (S := S) hi
  rw [show q_enc ad cy (S t i) t i = .inl (cy 1, N, .inl (S t i)) from he] at hq1
  exact va_cald hC.1 hC.2.1 hC.2.2.2.2.2.2.2.1 hP q0 1 hq1 rfl hin hd (kk H locs la hP hS hl)
theorem q_zald (hC : qC Γ cc own nL rt R po) {t i N : Nat} {x : Int32} (hd : decode cc pc = .ok (.baload, 1)) (he : q_enc (q_ad Γ) Γ.1.2.2.1 (S t i) t i = .inl (Γ.1.2.2.1 2, N, .inl (S t i))) (hi : i < q_cnt t) (hin : vp_in x N) (hn : pc + 1 = n) (kk : qV Γ R nL n ls (.int (S t i x.toNatClampNeg) :: st) S k) : qV Γ R nL pc ls (.int x :: .ref (q_ad Γ t i) :: st) S k := by
  obtain ⟨⟨l, D, cy, ad, o⟩, ⟨p, e, s⟩, ⟨m, args, below, meth, c⟩, Q⟩ := Γ
  subst hn
  intro H locs la hP hS hl
  obtain ⟨q0, hq0, hq1⟩ := q_get (ad := ad) (cy := cy) (S := S) hi
  rw [show q_enc ad cy (S t i) t i = .inl (cy 2, N, .inl (S t i)) from he] at hq1
  exact va_zald hC.1 hC.2.1 hC.2.2.2.2.2.2.2.1 hP q0 2 hq1 rfl hin hd (kk H locs la hP hS hl)
theorem q_iast (hC : qC Γ cc own nL rt R po) {t i N : Nat} {x y : Int32} (hd : decode cc pc = .ok (.iastore, 1)) (he : ∀ f, q_enc (q_ad Γ) Γ.1.2.2.1 f t i = .inl (Γ.1.2.2.1 0, N, .inl f)) (hi : i < q_cnt t) (hin : vp_in y N) (hn : pc + 1 = n) (kk : qV Γ R nL n ls st (q_up S t i (upd (S t i) y.toNatClampNeg x)) k) : qV Γ R nL pc ls (.int x :: .int y :: .ref (q_ad Γ t i) :: st) S k := by
  obtain ⟨⟨l, D, cy, ad, o⟩, ⟨p, e, s⟩, ⟨m, args, below, meth, c⟩, Q⟩ := Γ
  subst hn
  intro H locs la hP hS hl
  obtain ⟨q0, hq0, hq1⟩ := q_get (ad := ad) (cy := cy) (S := S) hi
  rw [show q_enc ad cy (S t i) t i = .inl (cy 0, N, .inl (S t i)) from he _] at hq1
  refine va_iast hC.1 hC.2.1 hC.2.2.2.2.2.2.2.1 hP (q_WD hC.2.2.2.2.2.2.2.2.1 q_AA) hS q0 0 hq1 rfl hin hd (fun H1 locs1 hP1 hD1 hS1 => ?_)
  rw [← show q_enc ad cy (upd (S t i) y.toNatClampNeg x) t i = .inl (cy 0, N, .inl (upd (S t i) y.toNatClampNeg x)) from he _, q_set hq0] at hP1
  exact kk H1 locs1 la hP1 hS1 hl
theorem q_cast (hC : qC Γ cc own nL rt R po) {t i N : Nat} {x y : Int32} (hd : decode cc pc = .ok (.castore, 1)) (he : ∀ f, q_enc (q_ad Γ) Γ.1.2.2.1 f t i = .inl (Γ.1.2.2.1 1, N, .inl f)) (hi : i < q_cnt t) (hin : vp_in y N) (hn : pc + 1 = n) (kk : qV Γ R nL n ls st (q_up S t i (upd (S t i) y.toNatClampNeg (vp_nar .char x))) k) : qV Γ R nL pc ls (.int x :: .int y :: .ref (q_ad Γ t i) :: st) S k := by
  obtain ⟨⟨l, D, cy, ad, o⟩, ⟨p, e, s⟩, ⟨m, args, below, meth, c⟩, Q⟩ := Γ
  subst hn
  intro H locs la hP hS hl
  obtain ⟨q0, hq0, hq1⟩ := q_get (ad := ad) (cy := cy) (S := S) hi
  rw [show q_enc ad cy (S t i) t i = .inl (cy 1, N, .inl (S t i)) from he _] at hq1
  refine va_cast hC.1 hC.2.1 hC.2.2.2.2.2.2.2.1 hP (q_WD hC.2.2.2.2.2.2.2.2.1 q_AA) hS q0 1 hq1 rfl hin hd (fun H1 locs1 hP1 hD1 hS1 => ?_)
  rw [← show q_enc ad cy (upd (S t i) y.toNatClampNeg (vp_nar .char x)) t i = .inl (cy 1, N, .inl (upd (S t i) y.toNatClampNeg (vp_nar .char x))) from he _, q_set hq0] at hP1
  exact kk H1 locs1 la hP1 hS1 hl
theorem q_zast (hC : qC Γ cc own nL rt R po) {t i N : Nat} {x y : Int32} (hd : decode cc pc = .ok (.bastore, 1)) (he : ∀ f, q_enc (q_ad Γ) Γ.1.2.2.1 f t i = .inl (Γ.1.2.2.1 2, N, .inl f)) (hi : i < q_cnt t) (hin : vp_in y N) (hn : pc + 1 = n) (kk : qV Γ R nL n ls st (q_up S t i (upd (S t i) y.toNatClampNeg (vp_nar .boolean x))) k) : qV Γ R nL pc ls (.int x :: .int y :: .ref (q_ad Γ t i) :: st) S k := by
  obtain ⟨⟨l, D, cy, ad, o⟩, ⟨p, e, s⟩, ⟨m, args, below, meth, c⟩, Q⟩ := Γ
  subst hn
  intro H locs la hP hS hl
  obtain ⟨q0, hq0, hq1⟩ := q_get (ad := ad) (cy := cy) (S := S) hi
  rw [show q_enc ad cy (S t i) t i = .inl (cy 2, N, .inl (S t i)) from he _] at hq1
  refine va_zast hC.1 hC.2.1 hC.2.2.2.2.2.2.2.1 hP (q_WD hC.2.2.2.2.2.2.2.2.1 q_AA) hS q0 2 hq1 rfl hin hd (fun H1 locs1 hP1 hD1 hS1 => ?_)
  rw [← show q_enc ad cy (upd (S t i) y.toNatClampNeg (vp_nar .boolean x)) t i = .inl (cy 2, N, .inl (upd (S t i) y.toNatClampNeg (vp_nar .boolean x))) from he _, q_set hq0] at hP1
  exact kk H1 locs1 la hP1 hS1 hl
/-! returns -/
theorem q_iret {rt' : FieldType} (hC : qC Γ cc own nL (some rt') R po) {x : Int32} (hd : decode cc pc = .ok (.ireturn, 1)) (hnr : narrow rt' (.int x) = .int x) (hk : k.1 ≤ R.cells ∧ k.2 ≤ R.slots) (hpo : po (some (.int x)) S) : qV Γ R nL pc ls [.int x] S k := by
  obtain ⟨⟨l, D, cy, ad, o⟩, ⟨p, e, s⟩, ⟨m, args, below, meth, c⟩, Q⟩ := Γ
  obtain ⟨h1, h2, h3, h4, h5, h6, h7, h8, h9, h10, h11, h12⟩ := hC
  intro H locs la hP hS hl
  refine W.widen hk.1 hk.2 ?_
  refine q_Wimp h12 ?_
  exact W.zret h1 h2 h6 hnr (fun t ht hW => ⟨⟨_, S, rfl, hpo, by rw [ht]; exact hP⟩, hS.F ht⟩) hS.2.2 hd h7
theorem q_vret (hC : qC Γ cc own nL none R po) (hd : decode cc pc = .ok (.return_, 1)) (hk : k.1 ≤ R.cells ∧ k.2 ≤ R.slots) (hpo : po none S) : qV Γ R nL pc ls [] S k := by
  obtain ⟨⟨l, D, cy, ad, o⟩, ⟨p, e, s⟩, ⟨m, args, below, meth, c⟩, Q⟩ := Γ
  obtain ⟨h1, h2, h3, h4, h5, h6, h7, h8, h9, h10, h11, h12⟩ := hC
  intro H locs la hP hS hl
  refine W.widen hk.1 hk.2 ?_
  refine q_Wimp h12 ?_
  exact W.vret h1 h2 h6 (fun t ht hW => ⟨⟨_, S, rfl, hpo, by rw [ht]; exact hP⟩, hS.F ht⟩) hS.2.2 hd h7
theorem q_lret (hC : qC Γ cc own nL (some .long) R po) {x : Int64} (hd : decode cc pc = .ok (.lreturn, 1)) (hk : k.1 ≤ R.cells ∧ k.2 ≤ R.slots) (hpo : po (some (.long x)) S) : qV Γ R nL pc ls [.long x] S k := by
  obtain ⟨⟨l, D, cy, ad, o⟩, ⟨p, e, s⟩, ⟨m, args, below, meth, c⟩, Q⟩ := Γ
  obtain ⟨h1, h2, h3, h4, h5, h6, h7, h8, h9, h10, h11, h12⟩ := hC
  intro H locs la hP hS hl
  refine W.widen hk.1 hk.2 ?_
  refine q_Wimp h12 ?_
  exact W.lret h1 h2 h6 (fun t ht hW => ⟨⟨_, S, rfl, hpo, by rw [ht]; exact hP⟩, hS.F ht⟩) hS.2.2 hd h7
/-! calls -/
/-- what is known of a method that is called, apart from the call's own place: instance methods (own class selects it), static ones -/
def qMs (y : MethodName) (cc : ByteArray) (nL : Nat) (ret : Option FieldType) (n : Nat) : Prop :=
  Cond.static y ∈ qw ∧ Cond.initialized y.cls ∈ qw ∧ Cond.code y cc nL ret ∈ qw ∧ y.cls ≠ "java/lang/invoke/MethodHandle" ∧ y.cls ≠ "java/lang/invoke/VarHandle" ∧ (parseMethodDescriptor y.desc).map (fun d => d.parameters.length) = some n
def qMv (y : MethodName) (cc : ByteArray) (nL : Nat) (ret : Option FieldType) (n : Nat) : Prop :=
  Cond.instanceMethod y ∈ qw ∧ Cond.selects y.cls y y ∈ qw ∧ Cond.initialized y.cls ∈ qw ∧ Cond.code y cc nL ret ∈ qw ∧ y.cls ≠ "java/lang/invoke/MethodHandle" ∧ y.cls ≠ "java/lang/invoke/VarHandle" ∧ (parseMethodDescriptor y.desc).map (fun d => d.parameters.length) = some n
theorem q_AF {ad : Nat → Nat → Nat} {a b : Nat} (h : a ≤ b) : ∀ q, q_A ad b q → q_A ad a q := fun q hq => hq.elim Or.inl (fun z => Or.inr (Nat.le_trans h z))
theorem q_TC {o : qO} {ad : Nat → Nat → Nat} {s U : State} {H : Heap} {locs : List Loc} (hT : qT o (q_A ad s.heap.size) s s.heap) (hS : va_S (q_A ad s.heap.size) s.heap H locs) (hU : U.heap = H) (hW : s.WarmedH U.vm) : qT o (q_A ad H.size) U U.heap := by
  rw [hU]
  exact ((hT.kept hS.1 hS.2.1).narrow (q_AF hS.1)).moved hW.alike
section QCALL
variable {y : MethodName} {c2 : ByteArray} {nL2 idx : Nat} {ret : Option FieldType} {rm : Room} {α : Type} {ar : (Nat → Nat → Nat) → qO → α → List Value} {pre : α → qM → Prop} {post : α → qM → Option Value → qM → Prop} {x : α} {k' : Nat × Nat}
theorem q_goon {ls2 : List Value} {args9 : Array Value} (hr : ∀ (H : Heap) (locs : List Loc) (la : Array Slot), va_P Γ.1.2.1 q_cl (q_W (q_ad Γ) Γ.1.2.2.1 S) H → va_S (q_A (q_ad Γ) Γ.2.1.2.2.heap.size) Γ.2.1.2.2.heap H locs → lv_has la nL ls →
      va_Run Γ.2.1.1 Γ.1.1 Γ.2.1.2.1 R Γ.2.1.2.2 Γ.2.2.1.1 Γ.2.2.1.2.1 Γ.2.2.1.2.2.1 Γ.2.2.1.2.2.2.1 Γ.2.2.1.2.2.2.2 H locs k.1 k.2 rm.cells rm.slots (F0 Γ.2.2.1.1 pc la st) ls2 (qQc Γ.1 (q_A (q_ad Γ) H.size) (post x S) args9) (q_A (q_ad Γ) H.size))
    (hn : pc + 3 = n) (hk' : (k.1 + rm.cells, k.2 + rm.slots) = k') (kk : ∀ (v : Option Value) (S' : qM), post x S v S' → qV Γ R nL n ls (v.toList ++ ls2) S' k') : qV Γ R nL pc ls st S k := by
  obtain ⟨⟨l, D, cy, ad, o⟩, ⟨p, e, s⟩, ⟨m, args, below, meth, c⟩, Q⟩ := Γ
  subst hn; subst hk'
  intro H locs la hP hS hl T hT X
  obtain ⟨v, st₀, t, T', L, h0, X', hL, e1, e2, ⟨⟨v', S', hv, hp, hP'⟩, hz, hk⟩, stp⟩ := hr H locs la hP hS hl T hT X
  cases hv
  rw [h0] at hz hk
  have hS' : va_S (q_A ad s.heap.size) s.heap T'.heap (locs ++ L) := by
    refine ⟨Nat.le_trans hS.1 (by rw [e1]; exact hz), fun q h1 h2 => ?_, fun q hq => ?_⟩
    · rw [e1, hk q (Nat.lt_of_lt_of_le h1 hS.1) (fun z => h2 (q_AF hS.1 q z))]
      exact hS.2.1 q h1 h2
    · rcases List.mem_append.mp hq with h | h
      · exact hS.2.2 q h
      · exact q_AF hS.1 _ (hL q h)
  obtain ⟨t2, a1, b1⟩ := kk v S' hp T'.heap (locs ++ L) la (by rw [e1]; exact hP') hS' hl T' rfl X'
  exact ⟨t2, stp t2 a1, b1⟩
theorem q_blind {L : qL} {as : List Value} {S : qM} {sz : Nat} : FrameBlind (va_Pc as (fun U => U.heap.size = sz ∧ va_P L.2.1 q_cl (q_W L.2.2.2.1 L.2.2.1 S) U.heap ∧ va_K L.2.1 q_cl (q_tys L.2.2.1) U ∧ qN L.2.2.2.2 U ∧ qT L.2.2.2.2 (q_A L.2.2.2.1 sz) U U.heap)) := by
  intro a U g mk q
  obtain ⟨q0, q1, qP, qK, qn, qt⟩ := q
  exact ⟨q0, q1, qP, va_K.moved (u := U) (U := U.calling g mk a) (Vm.Alike.refl U.vm) qK, qN.same (u := U) (U := U.calling g mk a) rfl qn, qT.moved (u := U) (U := U.calling g mk a) (Vm.Alike.refl U.vm) qt⟩
abbrev qRm (rm R : Room) (nL2 : Nat) (k : Nat × Nat) : Prop := (rm.frames + 1 ≤ R.frames ∧ 8 + (nL2 + 11) + rm.locals ≤ R.locals) ∧ k.1 + rm.cells ≤ R.cells ∧ k.2 + rm.slots ≤ R.slots
theorem q_callS {na : Nat} (hC : qC Γ cc own nL rt R po) (hM : qCT Γ.1 y c2 nL2 ret rm ar pre post) (hms : qMs y c2 nL2 ret na) (hlk : Cond.methodLink own idx y ∈ qw) (hd : decode cc pc = .ok (.invokestatic idx, 3)) (x : α) {st2 : List Value} (hs : (ar (q_ad Γ) (q_o Γ) x).reverse ++ st2 = st) (has : (ar (q_ad Γ) (q_o Γ) x).length = na)
    (hcat : (st2.map fun v => v.category).sum ≤ 8) (hR : qRm rm R nL2 k) (hn : pc + 3 = n) (hk' : (k.1 + rm.cells, k.2 + rm.slots) = k') (hpre : pre x S) (kk : ∀ (v : Option Value) (S' : qM), post x S v S' → qV Γ R nL n ls (v.toList ++ st2) S' k') : qV Γ R nL pc ls st S k := by
  refine q_goon (rm := rm) (post := post) (x := x) (args9 := (ar (q_ad Γ) (q_o Γ) x).toArray) (fun H locs la hP hS hl => ?_) hn hk' kk
  obtain ⟨⟨l, D, cy, ad, o⟩, ⟨p, e, s⟩, ⟨m, args, below, meth, c⟩, Q⟩ := Γ
  obtain ⟨h1, h2, h3, h4, h5, h6, h7, h8, h9, h10, h11, h12⟩ := hC
  obtain ⟨m1, m2, m3, m4, m5, m6⟩ := hms
  exact va_runS (Ts := qw) ⟨h1, h2, h3, h4, h5⟩ (hM x S H.size hpre) ⟨callB_of na h5 (qw_goodIn m3) rfl rfl rfl (h5 _ m2) (h5 _ hlk) ⟨m4, m5, m6⟩ hR.1, h5 _ m1⟩
    ⟨q_blind, fun U hU hW => ⟨rfl, by rw [hU], by rw [hU]; exact hP, va_K.moved hW.alike h8, qN.warm hW h10, q_TC h11 hS hU hW⟩⟩ rfl has hl.1 hs.symm (lv_room hcat) hd hR.2
theorem q_callSN {na : Nat} {host : String} (hC : qC Γ cc own nL rt R po) (hM : qCT Γ.1 y c2 nL2 ret rm ar pre post) (hms : qMs y c2 nL2 ret na) (hlk : Cond.methodLinkNest own idx y host ∈ q_nest) (hd : decode cc pc = .ok (.invokestatic idx, 3)) (x : α) {st2 : List Value} (hs : (ar (q_ad Γ) (q_o Γ) x).reverse ++ st2 = st) (has : (ar (q_ad Γ) (q_o Γ) x).length = na)
    (hcat : (st2.map fun v => v.category).sum ≤ 8) (hR : qRm rm R nL2 k) (hn : pc + 3 = n) (hk' : (k.1 + rm.cells, k.2 + rm.slots) = k') (hpre : pre x S) (kk : ∀ (v : Option Value) (S' : qM), post x S v S' → qV Γ R nL n ls (v.toList ++ st2) S' k') : qV Γ R nL pc ls st S k := by
  refine q_goon (rm := rm) (post := post) (x := x) (args9 := (ar (q_ad Γ) (q_o Γ) x).toArray) (fun H locs la hP hS hl => ?_) hn hk' kk
  obtain ⟨⟨l, D, cy, ad, o⟩, ⟨p, e, s⟩, ⟨m, args, below, meth, c⟩, Q⟩ := Γ
  obtain ⟨h1, h2, h3, h4, h5, h6, h7, h8, h9, h10, h11, h12⟩ := hC
  obtain ⟨m1, m2, m3, m4, m5, m6⟩ := hms
  exact va_runSN (Ts := qw) (host := host) ⟨h1, h2, h3, h4, h5⟩ (hM x S H.size hpre) ⟨va_cnB na h5 (qw_goodIn m3) rfl rfl rfl (h10.1 _ hlk) (h5 _ m2) ⟨m4, m5, m6⟩ hR.1, h5 _ m1, trivial⟩
    ⟨q_blind, fun U hU hW => ⟨rfl, by rw [hU], by rw [hU]; exact hP, va_K.moved hW.alike h8, qN.warm hW h10, q_TC h11 hS hU hW⟩⟩ rfl has hl.1 hs.symm (lv_room hcat) hd hR.2
theorem q_callV {na t i ci : Nat} {fs : List Value} {As : List Value} (hC : qC Γ cc own nL rt R po) (hM : qCT Γ.1 y c2 nL2 ret rm ar pre post) (hms : qMv y c2 nL2 ret na) (hlk : Cond.methodLink own idx y ∈ qw) (hd : decode cc pc = .ok (.invokevirtual idx, 3)) (x : α) (hx : ar (q_ad Γ) (q_o Γ) x = .ref (q_ad Γ t i) :: As) {st2 : List Value} (hs : As.reverse ++ .ref (q_ad Γ t i) :: st2 = st) (has : As.length = na)
    (he : q_enc (q_ad Γ) Γ.1.2.2.1 (S t i) t i = .inr (ci, fs)) (hci : (q_cl[ci]?).map (fun q => q.1) = some y.cls) (hi : i < q_cnt t)
    (hcat : (st2.map fun v => v.category).sum ≤ 8) (hR : qRm rm R nL2 k) (hn : pc + 3 = n) (hk' : (k.1 + rm.cells, k.2 + rm.slots) = k') (hpre : pre x S) (kk : ∀ (v : Option Value) (S' : qM), post x S v S' → qV Γ R nL n ls (v.toList ++ st2) S' k') : qV Γ R nL pc ls st S k := by
  refine q_goon (rm := rm) (post := post) (x := x) (args9 := (Value.ref (q_ad Γ t i) :: As).toArray) (fun H locs la hP hS hl => ?_) hn hk' kk
  obtain ⟨⟨l, D, cy, ad, o⟩, ⟨p, e, s⟩, ⟨m, args, below, meth, c⟩, Q⟩ := Γ
  obtain ⟨h1, h2, h3, h4, h5, h6, h7, h8, h9, h10, h11, h12⟩ := hC
  obtain ⟨m0, m1, m2, m3, m4, m5, m6⟩ := hms
  obtain ⟨q0, hq0, hq1⟩ := q_get (ad := ad) (cy := cy) (S := S) hi
  rw [show q_enc ad cy (S t i) t i = .inr (ci, fs) from he] at hq1
  have hx' : ar ad o x = .ref (ad t i) :: As := hx
  cases hc0 : q_cl[ci]? with
  | none => rw [hc0] at hci; cases hci
  | some q =>
    rw [hc0] at hci
    have hcl : q.1 = y.cls := Option.some.inj hci
    have hrec := va_recv h8 hP hc0 hq1
    rw [hcl] at hrec
    exact va_runV (Ts := qw) (C := y.cls) ⟨h1, h2, h3, h4, h5⟩ (hM x S H.size hpre) ⟨callB_of na h5 (qw_goodIn m3) rfl rfl rfl (h5 _ m2) (h5 _ hlk) ⟨m4, m5, m6⟩ hR.1, h5 _ m0, h5 _ m1⟩
      ⟨q_blind, hrec, fun U hU hW => ⟨(congrArg List.toArray hx').symm, by rw [hU], by rw [hU]; exact hP, va_K.moved hW.alike h8, qN.warm hW h10, q_TC h11 hS hU hW⟩⟩ rfl has hl.1 hs.symm (lv_room hcat) hd hR.2
end QCALL
section QSTAT
variable {idx : Nat}
/-! statics -/
theorem q_getsK (hC : qC Γ cc own nL rt R po) (hlk : Cond.fieldLink own idx RX9 "KINDS" "[C" ∈ qw) (hd : decode cc pc = .ok (.getstatic idx, 3)) (hn : pc + 3 = n) (kk : qV Γ R nL n ls (.ref (q_o Γ).2.1 :: st) S k) : qV Γ R nL pc ls st S k := by
  obtain ⟨⟨l, D, cy, ad, o⟩, ⟨p, e, s⟩, ⟨m, args, below, meth, c⟩, Q⟩ := Γ
  subst hn
  obtain ⟨h1, h2, h3, h4, h5, h6, h7, h8, h9, h10, h11, h12⟩ := hC
  exact fun H locs la hP hS hl => va_gets h1 h2 h11.2.1.1 hS h4 (h5 _ hlk) (fun _ h => h) hd (kk H locs la hP hS hl)
theorem q_getsKN (hC : qC Γ cc own nL rt R po) {host : String} (hlk : Cond.fieldLinkNest own idx RX9 "KINDS" "[C" host ∈ q_nest) (hd : decode cc pc = .ok (.getstatic idx, 3)) (hn : pc + 3 = n) (kk : qV Γ R nL n ls (.ref (q_o Γ).2.1 :: st) S k) : qV Γ R nL pc ls st S k := by
  obtain ⟨⟨l, D, cy, ad, o⟩, ⟨p, e, s⟩, ⟨m, args, below, meth, c⟩, Q⟩ := Γ
  subst hn
  obtain ⟨h1, h2, h3, h4, h5, h6, h7, h8, h9, h10, h11, h12⟩ := hC
  exact fun H locs la hP hS hl => va_getsN h1 h2 h11.2.1.1 hS h4 (va_Nw.use rfl (h10.1 _ hlk)) (fun _ h => h) hd (kk H locs la hP hS hl)
theorem q_getsPN (hC : qC Γ cc own nL rt R po) {host : String} (hlk : Cond.fieldLinkNest own idx RX9 "PAIRS" "[I" host ∈ q_nest) (hd : decode cc pc = .ok (.getstatic idx, 3)) (hn : pc + 3 = n) (kk : qV Γ R nL n ls (.ref (q_o Γ).2.2 :: st) S k) : qV Γ R nL pc ls st S k := by
  obtain ⟨⟨l, D, cy, ad, o⟩, ⟨p, e, s⟩, ⟨m, args, below, meth, c⟩, Q⟩ := Γ
  subst hn
  obtain ⟨h1, h2, h3, h4, h5, h6, h7, h8, h9, h10, h11, h12⟩ := hC
  exact fun H locs la hP hS hl => va_getsN h1 h2 h11.2.2.1.1 hS h4 (va_Nw.use rfl (h10.1 _ hlk)) (fun _ h => h) hd (kk H locs la hP hS hl)
theorem q_kald (hC : qC Γ cc own nL rt R po) {x : Int32} (hd : decode cc pc = .ok (.caload, 1)) (hin : vp_in x 9) (hn : pc + 1 = n) (kk : qV Γ R nL n ls (.int (q_kinds x.toNatClampNeg) :: st) S k) : qV Γ R nL pc ls (.int x :: .ref (q_o Γ).2.1 :: st) S k := by
  obtain ⟨⟨l, D, cy, ad, o⟩, ⟨p, e, s⟩, ⟨m, args, below, meth, c⟩, Q⟩ := Γ
  subst hn
  obtain ⟨h1, h2, h3, h4, h5, h6, h7, h8, h9, h10, h11, h12⟩ := hC
  exact fun H locs la hP hS hl => va_tc h1 h2 h11.2.1.2 hS hin rfl hd (kk H locs la hP hS hl)
theorem q_klen (hC : qC Γ cc own nL rt R po) (hd : decode cc pc = .ok (.arraylength, 1)) (hn : pc + 1 = n) (kk : qV Γ R nL n ls (.int 9 :: st) S k) : qV Γ R nL pc ls (.ref (q_o Γ).2.1 :: st) S k := by
  obtain ⟨⟨l, D, cy, ad, o⟩, ⟨p, e, s⟩, ⟨m, args, below, meth, c⟩, Q⟩ := Γ
  subst hn
  obtain ⟨h1, h2, h3, h4, h5, h6, h7, h8, h9, h10, h11, h12⟩ := hC
  exact fun H locs la hP hS hl => va_tlen h1 h2 h11.2.1.2 hS rfl hd (kk H locs la hP hS hl)
theorem q_pald (hC : qC Γ cc own nL rt R po) {x : Int32} (hd : decode cc pc = .ok (.iaload, 1)) (hin : vp_in x 16) (hn : pc + 1 = n) (kk : qV Γ R nL n ls (.int (q_pairs x.toNatClampNeg) :: st) S k) : qV Γ R nL pc ls (.int x :: .ref (q_o Γ).2.2 :: st) S k := by
  obtain ⟨⟨l, D, cy, ad, o⟩, ⟨p, e, s⟩, ⟨m, args, below, meth, c⟩, Q⟩ := Γ
  subst hn
  obtain ⟨h1, h2, h3, h4, h5, h6, h7, h8, h9, h10, h11, h12⟩ := hC
  exact fun H locs la hP hS hl => va_ti h1 h2 h11.2.2.1.2 hS hin rfl hd (kk H locs la hP hS hl)
theorem q_plen (hC : qC Γ cc own nL rt R po) (hd : decode cc pc = .ok (.arraylength, 1)) (hn : pc + 1 = n) (kk : qV Γ R nL n ls (.int 16 :: st) S k) : qV Γ R nL pc ls (.ref (q_o Γ).2.2 :: st) S k := by
  obtain ⟨⟨l, D, cy, ad, o⟩, ⟨p, e, s⟩, ⟨m, args, below, meth, c⟩, Q⟩ := Γ
  subst hn
  obtain ⟨h1, h2, h3, h4, h5, h6, h7, h8, h9, h10, h11, h12⟩ := hC
  exact fun H locs la hP hS hl => va_tlen h1 h2 h11.2.2.1.2 hS rfl hd (kk H locs la hP hS hl)
/-! the script -/
theorem q_sald (hC : qC Γ cc own nL rt R po) {x : Int32} (hd : decode cc pc = .ok (.iaload, 1)) (hin : vp_in x (q_o Γ).1.2.1) (hn : pc + 1 = n) (kk : qV Γ R nL n ls (.int ((q_o Γ).1.2.2.1 x.toNatClampNeg) :: st) S k) : qV Γ R nL pc ls (.int x :: .ref (q_o Γ).1.1 :: st) S k := by
  obtain ⟨⟨l, D, cy, ad, o⟩, ⟨p, e, s⟩, ⟨m, args, below, meth, c⟩, Q⟩ := Γ
  subst hn
  obtain ⟨h1, h2, h3, h4, h5, h6, h7, h8, h9, h10, h11, h12⟩ := hC
  exact fun H locs la hP hS hl => va_sld h1 h2 h11.1.1 h11.1.2.1 h11.1.2.2 hS hin hd (kk H locs la hP hS hl)
theorem q_slen (hC : qC Γ cc own nL rt R po) (hd : decode cc pc = .ok (.arraylength, 1)) (hn : pc + 1 = n) (kk : qV Γ R nL n ls (.int (nI (q_o Γ).1.2.1) :: st) S k) : qV Γ R nL pc ls (.ref (q_o Γ).1.1 :: st) S k := by
  obtain ⟨⟨l, D, cy, ad, o⟩, ⟨p, e, s⟩, ⟨m, args, below, meth, c⟩, Q⟩ := Γ
  subst hn
  obtain ⟨h1, h2, h3, h4, h5, h6, h7, h8, h9, h10, h11, h12⟩ := hC
  exact fun H locs la hP hS hl => va_slen h1 h2 h11.1.1 h11.1.2.1 h11.1.2.2 hS hd (kk H locs la hP hS hl)
end QSTAT
/-! the libraries, the clients -/
theorem q_lib (hC : qC Γ cc own nL rt R po) {x : Int32} (j : Nat) (hd : decode cc pc = .ok (.aaload, 1)) (hx : x = nI j) (hj : j < 4) (hn : pc + 1 = n) (kk : qV Γ R nL n ls (.ref (q_ad Γ 0 j) :: st) S k) : qV Γ R nL pc ls (.int x :: .ref (q_ad Γ 37 0) :: st) S k := by
  subst hx
  refine q_aald (a := 3) (N := 4) (C := RX5) (g := fun j => some (q_ad Γ 0 j)) hC hd rfl rfl (vp_in_nI hj (by decide)) (by decide) hn ?_
  have e : (nI j).toNatClampNeg = j := nI_clamp (by omega)
  rw [e]
  exact kk
theorem q_cli (hC : qC Γ cc own nL rt R po) {x : Int32} (j : Nat) (hd : decode cc pc = .ok (.aaload, 1)) (hx : x = nI j) (hj : j < 4) (hn : pc + 1 = n) (kk : qV Γ R nL n ls (.ref (q_ad Γ 27 j) :: st) S k) : qV Γ R nL pc ls (.int x :: .ref (q_ad Γ 38 0) :: st) S k := by
  subst hx
  refine q_aald (a := 4) (N := 4) (C := RX0) (g := fun j => some (q_ad Γ 27 j)) hC hd rfl rfl (vp_in_nI hj (by decide)) (by decide) hn ?_
  have e : (nI j).toNatClampNeg = j := nI_clamp (by omega)
  rw [e]
  exact kk
end QRULES
