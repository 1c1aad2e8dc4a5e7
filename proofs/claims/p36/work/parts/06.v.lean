/-! ===== THE POOL: one place for each cell of the system, (tag, number); its contents are ints by tag, number and slot ===== -/
abbrev qM : Type := Nat → Nat → Nat → Int32
def q_cnt (k : Nat) : Nat := if k < 27 then 4 else if k = 28 then 6 else if k < 33 then 5 else if k < 35 then 2 else if k < 40 then 1 else 0
def q_pool : List (Nat × Nat) := (List.range 40).flatMap fun k => (List.range (q_cnt k)).map fun i => (k, i)
abbrev q_cl : List vw_C := [(RX0, TX0, 6), (RX2, TX2, 9), (RX3, TX3, 14), (RX4, TX4, 5), (RX5, TX5, 6), (RX6, TX6, 3), (RX7, TX7, 4), (RX8, TX8, 4), (RX9, TX9, 9)]
def q_rf (ad : Nat → Nat → Nat) (x : Int32) : Value := if x < 0 then .null else .ref (ad 0 x.toNatClampNeg)
/-- the length of an array's row, by its tag -/
def q_len (k : Nat) : Nat := if k < 9 then 5 else if k < 17 then 30 else if k = 18 then 6 else if k = 19 then 36 else if k = 20 then 36 else if k < 23 then 6 else if k < 26 then 36 else if k = 26 then 9 else if k < 35 then 8 else if k < 40 then 4 else 0
/-- which of the array classes: 0 int, 1 char, 2 boolean -/
def q_ac (k : Nat) : Nat := if k = 2 then 1 else if k < 6 then 2 else if k = 6 then 1 else if k < 9 then 0 else if k = 10 then 1 else if k = 11 then 1 else if k = 14 then 1 else if k = 15 then 1 else 0
def q_enc (ad : Nat → Nat → Nat) (cy : Nat → ClassId) (f : Nat → Int32) (k i : Nat) : va_E :=
  if k = 0 then .inr (4, [.ref (ad 1 i), .ref (ad 17 i), .int (f 2), .int (f 3), .int (f 4), .int (f 5)])
  else if k = 1 then .inr (1, [.ref (ad 2 i), .ref (ad 3 i), .ref (ad 4 i), .ref (ad 5 i), .ref (ad 6 i), .ref (ad 7 i), .ref (ad 8 i), .ref (ad 9 i), .ref (ad 13 i)])
  else if k = 9 then .inr (5, [.ref (ad 10 i), .ref (ad 11 i), .ref (ad 12 i)])
  else if k = 13 then .inr (5, [.ref (ad 14 i), .ref (ad 15 i), .ref (ad 16 i)])
  else if k = 17 then .inr (2, [.int (f 0), .int (f 1), .ref (ad 18 i), .ref (ad 19 i), .ref (ad 20 i), .ref (ad 21 i), .ref (ad 22 i), .ref (ad 23 i), .ref (ad 24 i), .ref (ad 25 i), .int (f 10), .int (f 11), .int (f 12), .ref (ad 26 i)])
  else if k = 27 then .inr (0, [.ref (ad 28 i), .int (f 1), .ref (ad 29 i), .ref (ad 30 i), .ref (ad 31 i), .ref (ad 32 i)])
  else if k = 28 then .inr (6, [.int (f 0), .int (f 1), .int (f 2), .int (f 3)])
  else if k = 33 then .inr (7, [.int (f 0), .int (f 1), .int (f 2), .ref (ad 34 i)])
  else if k = 35 then .inr (3, [.ref (ad 27 4), .ref (ad 28 5), q_rf ad (f 2), q_rf ad (f 3), .int (f 4)])
  else if k = 36 then .inr (8, [.ref (ad 37 0), .ref (ad 38 0), .ref (ad 41 0), .ref (ad 40 0), .ref (ad 33 0), .ref (ad 33 1), .ref (ad 35 0), .ref (ad 39 0), .int (f 8)])
  else if k = 37 then .inl (cy 3, 4, .inr (.inr (.inr (.inr (fun j => some (ad 0 j))))))
  else if k = 38 then .inl (cy 4, 4, .inr (.inr (.inr (.inr (fun j => some (ad 27 j))))))
  else .inl (cy (q_ac k), q_len k, .inl f)
def q_tys (cy : Nat → ClassId) : List (ClassId × FieldType) := [(cy 0, .int), (cy 1, .char), (cy 2, .boolean), (cy 3, .object RX5), (cy 4, .object RX0)]
def q_W (ad : Nat → Nat → Nat) (cy : Nat → ClassId) (S : qM) : va_W := q_pool.map fun x => (ad x.1 x.2, q_enc ad cy (S x.1 x.2) x.1 x.2)
def q_up (S : qM) (k i : Nat) (f : Nat → Int32) : qM := fun k' i' => if k' = k ∧ i' = i then f else S k' i'
def q_D (ad : Nat → Nat → Nat) : Prop := ∀ x ∈ q_pool, ∀ y ∈ q_pool, ad x.1 x.2 = ad y.1 y.2 → x = y
def q_A (ad : Nat → Nat → Nat) (sz : Nat) : Nat → Prop := fun q => (∃ x ∈ q_pool, q = ad x.1 x.2) ∨ sz ≤ q
theorem q_pool_nd : va_nd (q_pool.map fun x => x.1 * 10 + x.2) = true := by decide +kernel
theorem q_pool_inj {i j : Nat} {x : Nat × Nat} (hi : q_pool[i]? = some x) (hj : q_pool[j]? = some x) : i = j :=
  va_nd_inj _ q_pool_nd i j (x.1 * 10 + x.2) (by simp [hi]) (by simp [hj])
theorem q_cnt_le {k i : Nat} (h : i < q_cnt k) : k < 40 := by
  unfold q_cnt at h
  repeat' split at h
  all_goals omega
theorem q_mem {k i : Nat} (h : i < q_cnt k) : (k, i) ∈ q_pool := by
  refine List.mem_flatMap.mpr ⟨k, List.mem_range.mpr (q_cnt_le h), List.mem_map.mpr ⟨i, List.mem_range.mpr h, rfl⟩⟩
theorem q_get {ad : Nat → Nat → Nat} {cy : Nat → ClassId} {S : qM} {k i : Nat} (h : i < q_cnt k) : ∃ n : Nat, q_pool[n]? = some (k, i) ∧ (q_W ad cy S)[n]? = some (ad k i, q_enc ad cy (S k i) k i) := by
  obtain ⟨n, hn⟩ := List.getElem?_of_mem (q_mem h)
  exact ⟨n, hn, by simp [q_W, hn]⟩
theorem q_set {ad : Nat → Nat → Nat} {cy : Nat → ClassId} {S : qM} {k i n : Nat} {f : Nat → Int32} (hn : q_pool[n]? = some (k, i)) : (q_W ad cy S).set n (ad k i, q_enc ad cy f k i) = q_W ad cy (q_up S k i f) := by
  apply List.ext_getElem?
  intro j
  rw [List.getElem?_set]
  by_cases hj : n = j
  · subst hj
    obtain ⟨hlt, -⟩ := List.getElem?_eq_some_iff.mp hn
    have h2 : n < (q_W ad cy S).length := by simpa [q_W] using hlt
    rw [if_pos rfl, if_pos h2]
    simp [q_W, hn, q_up]
  · rw [if_neg hj]
    simp only [q_W, List.getElem?_map]
    cases hx : q_pool[j]? with
    | none => rfl
    | some x =>
      have hne : ¬ (x.1 = k ∧ x.2 = i) := by
        rintro ⟨h1, h2⟩
        have hxe : x = (k, i) := Prod.ext h1 h2
        subst hxe
        exact hj (q_pool_inj hn hx)
      simp [q_up, if_neg hne]
theorem q_WD {ad : Nat → Nat → Nat} {cy : Nat → ClassId} {S : qM} {A : Nat → Prop} (hd : q_D ad) (hA : ∀ x ∈ q_pool, A (ad x.1 x.2)) : va_D A (q_W ad cy S) := by
  refine ⟨fun i j p q hi hj hpq => ?_, fun k q hk => ?_⟩
  · simp only [q_W, List.getElem?_map] at hi hj
    cases hx : q_pool[i]? with
    | none => rw [hx] at hi; cases hi
    | some x =>
      cases hy : q_pool[j]? with
      | none => rw [hy] at hj; cases hj
      | some y =>
        rw [hx] at hi; rw [hy] at hj
        cases hi; cases hj
        have := hd x (List.mem_of_getElem? hx) y (List.mem_of_getElem? hy) hpq
        subst this
        exact q_pool_inj hx hy
  · simp only [q_W, List.getElem?_map] at hk
    cases hx : q_pool[k]? with
    | none => rw [hx] at hk; cases hk
    | some x => rw [hx] at hk; cases hk; exact hA x (List.mem_of_getElem? hx)
/-- reading behind a write -/
theorem q_up_same {S : qM} {k i : Nat} {f : Nat → Int32} : q_up S k i f k i = f := by simp [q_up]
theorem q_up_k {S : qM} {k i k' i' : Nat} {f : Nat → Int32} (h : k' ≠ k) : q_up S k i f k' i' = S k' i' := by simp [q_up, h]
theorem q_up_i {S : qM} {k i k' i' : Nat} {f : Nat → Int32} (h : i' ≠ i) : q_up S k i f k' i' = S k' i' := by simp [q_up, h]
/-! ===== LOCALS: a row in the order of their places ===== -/
def q_ins : List (Nat × Value) → Nat → Value → List (Nat × Value)
  | [], i, v => [(i, v)]
  | (j, w) :: t, i, v => if i < j then (i, v) :: (j, w) :: t else (j, w) :: q_ins t i v
def q_ls (ls : List (Nat × Value)) (i : Nat) (v : Value) : List (Nat × Value) := q_ins (ls.filter (fun q => !(q.1 == i) && !(q.1 + 1 == i && q.2.category == 2))) i v
def q_lsl (ls : List (Nat × Value)) (i : Nat) (v : Value) : List (Nat × Value) := q_ins (ls.filter (fun q => !(q.1 == i) && (!(q.1 == i + 1) && !(q.1 + 1 == i && q.2.category == 2)))) i v
theorem q_ins_mem {i : Nat} {v : Value} {q : Nat × Value} : ∀ {ls : List (Nat × Value)}, q ∈ q_ins ls i v → q ∈ (i, v) :: ls := by
  intro ls
  induction ls with
  | nil => intro h; exact h
  | cons x t ih =>
    obtain ⟨j, w⟩ := x
    intro h
    unfold q_ins at h
    split at h
    · exact h
    · rcases List.mem_cons.mp h with h | h
      · exact List.mem_cons_of_mem _ (h ▸ List.mem_cons_self)
      · rcases List.mem_cons.mp (ih h) with h | h
        · exact h ▸ List.mem_cons_self
        · exact List.mem_cons_of_mem _ (List.mem_cons_of_mem _ h)
theorem q_has {la : Array Slot} {nL i : Nat} {v : Value} {l : List (Nat × Value)} (h : lv_has la nL ((i, v) :: l)) : lv_has la nL (q_ins l i v) := ⟨h.1, h.2.1, fun q hq => h.2.2 q (q_ins_mem hq)⟩
theorem q_hasSub {la : Array Slot} {nL : Nat} {l l' : List (Nat × Value)} (h : lv_has la nL l) (hs : ∀ q ∈ l', q ∈ l) : lv_has la nL l' := ⟨h.1, h.2.1, fun q hq => h.2.2 q (hs q hq)⟩
/-! ===== THE WORDS that every method keeps ===== -/
def qw : List Cond := lw_tbl.filter goodWord
def q_isNest : Cond → Bool
  | .methodLinkNest .. => true
  | .fieldLinkNest .. => true
  | _ => false
def q_nest : List Cond := lw_tbl.filter q_isNest
theorem qw_mem {w : Cond} {i : Nat} (h : lw_tbl[i]? = some w) (hg : goodWord w = true) : w ∈ qw := List.mem_filter.mpr ⟨List.mem_of_getElem? h, hg⟩
theorem q_nest_mem {w : Cond} {i : Nat} (h : lw_tbl[i]? = some w) (hg : q_isNest w = true) : w ∈ q_nest := List.mem_filter.mpr ⟨List.mem_of_getElem? h, hg⟩
theorem qw_goodIn {y : MethodName} {cc : ByteArray} {nL : Nat} {ret : Option FieldType} (h : Cond.code y cc nL ret ∈ qw) : GoodIn qw (Cond.code y cc nL ret :: qw) := by
  intro w hw
  have hm : w ∈ qw := (List.mem_cons.mp hw).elim (fun e => e ▸ h) id
  exact ⟨hm, good_of_word (List.mem_filter.mp hm).2⟩
/-! ===== WHAT ALL METHODS SEE of the outside: the script, two static rows, the law's texts, what a throw reads ===== -/
abbrev qO : Type := (Nat × Nat × ((Nat → Int32) × (Nat → Nat) × (Nat → Nat))) × (Nat × Nat)
def q_sidx (j : Nat) : Nat := [128, 141, 146, 150, 156, 183, 185].getD j 0
def q_stxt (j : Nat) : String := ["pppokv", "nnsaf", "nsfFF", "oaf", "ci-", "nsciugpGP", "ABCDEX"].getD j ""
def q_sln : List Nat := [6, 5, 5, 3, 3, 9, 6]
def q_sbyt : List (List Int32) := [[112, 112, 112, 111, 107, 118], [110, 110, 115, 97, 102], [110, 115, 102, 70, 70], [111, 97, 102], [99, 105, 45], [110, 115, 99, 105, 117, 103, 112, 71, 80], [65, 66, 67, 68, 69, 88]]
def q_nsee : String := "java/util/NoSuchElementException"
def q_iae : String := "java/lang/IllegalArgumentException"
def q_ioobe : String := "java/lang/IndexOutOfBoundsException"
def q_uoe : String := "java/lang/UnsupportedOperationException"
def qN (o : qO) (U : State) : Prop := (∀ w ∈ q_nest, va_Nw w U) ∧ (∀ j, j < 7 → vk_R "LinkwitnessLaw" (q_sidx j) (q_stxt j) (o.1.2.2.2.1 j) U) ∧ va_Nc q_nsee q_ioobe U ∧ va_Nc q_nsee q_iae U ∧ va_Nc q_nsee q_uoe U ∧ va_Nc q_iae q_ioobe U
theorem qN.warm {o : qO} {s U : State} (hW : s.WarmedH U.vm) (h : qN o s) : qN o U := by
  obtain ⟨h, hr, n1, n2, n3, n4⟩ := h
  refine ⟨fun w hw => ?_, fun j hj => vk_R.warm hW (hr j hj), va_Nc.moved hW.alike n1, va_Nc.moved hW.alike n2, va_Nc.moved hW.alike n3, va_Nc.moved hW.alike n4⟩
  have h1 := h w hw
  have h2 := (List.mem_filter.mp hw).2
  cases w <;> first | exact va_Nw.warmM hW h1 | exact va_Nw.warmF hW h1 | (exfalso; revert h2; simp [q_isNest])
theorem qN.same {o : qO} {u U : State} (h : u.vm = U.vm) (hN : qN o u) : qN o U := by
  obtain ⟨hN, hr, n1, n2, n3, n4⟩ := hN
  have ha : u.vm.Alike U.vm := by rw [h]; exact Vm.Alike.refl U.vm
  refine ⟨fun w hw => ?_, fun j hj => vk_R.same h.symm (hr j hj), va_Nc.moved ha n1, va_Nc.moved ha n2, va_Nc.moved ha n3, va_Nc.moved ha n4⟩
  have h1 := hN w hw
  have h2 := (List.mem_filter.mp hw).2
  cases w <;> first | exact va_Nw.same rfl h h1 | (exfalso; revert h2; simp [q_isNest])
def q_kinds (j : Nat) : Int32 := [110, 115, 99, 105, 117, 103, 112, 71, 80].getD j 0
def q_pairs (j : Nat) : Int32 := [0, 1, 3, 5, 9, 17, 2, 6, 10, 18, 4, 12, 20, 8, 24, 16].getD j 0
def qE (o : qO) (A : Nat → Prop) (U : State) (H : Heap) : Prop :=
  (vx_Zq Bundle.tN "UNASSIGNED_STACK" Bundle.steD A U H ∧ vx_Zq Bundle.tN "SUPPRESSED_SENTINEL" Bundle.listD A U H) ∧
  (va_Z "java/lang/String" "COMPACT_STRINGS" "Z" (.int 1) A U H ∧ va_Zq "jdk/internal/util/Preconditions" "SIOOBE_FORMATTER" "Ljava/util/function/BiFunction;" A U H) ∧
  vk_S 7 q_sln q_sbyt o.1.2.2.2.1 o.1.2.2.2.2 A U H
theorem qE.moved {o : qO} {A : Nat → Prop} {u U : State} {H : Heap} (hvm : u.vm.Alike U.vm) (h : qE o A u H) : qE o A U H :=
  ⟨⟨vx_Zq.moved hvm h.1.1, vx_Zq.moved hvm h.1.2⟩, ⟨va_Z.moved hvm h.2.1.1, va_Zq.moved hvm h.2.1.2⟩, vk_S.moved hvm h.2.2⟩
theorem qE.kept {o : qO} {A : Nat → Prop} {U : State} {H H1 : Heap} (h : qE o A U H) (hq : ∀ a : Nat, a < H.size → ¬ A a → H1[a]? = H[a]?) : qE o A U H1 :=
  ⟨⟨vx_Zq.kept h.1.1 hq, vx_Zq.kept h.1.2 hq⟩, ⟨va_Z.kept h.2.1.1 hq, va_Zq.kept h.2.1.2 hq⟩, vk_S.kept h.2.2 hq⟩
theorem qE.narrow {o : qO} {A B : Nat → Prop} {U : State} {H : Heap} (h : qE o A U H) (hAB : ∀ q, B q → A q) : qE o B U H :=
  ⟨⟨vx_Zq.narrow h.1.1 hAB, vx_Zq.narrow h.1.2 hAB⟩, ⟨va_Z.narrow h.2.1.1 hAB, va_Zq.narrow h.2.1.2 hAB⟩, vk_S.narrow h.2.2 hAB⟩
def qT (o : qO) (A : Nat → Prop) (U : State) (H : Heap) : Prop :=
  (va_X o.1.1 o.1.2.1 o.1.2.2.1 U H ∧ o.1.1 < H.size ∧ ¬ A o.1.1) ∧
  (va_Z RX9 "KINDS" "[C" (.ref o.2.1) A U H ∧ va_T .char o.2.1 9 (fun j => .int (q_kinds j)) A U H) ∧
  (va_Z RX9 "PAIRS" "[I" (.ref o.2.2) A U H ∧ va_T .int o.2.2 16 (fun j => .int (q_pairs j)) A U H) ∧ qE o A U H
theorem qT.moved {o : qO} {A : Nat → Prop} {u U : State} {H : Heap} (hvm : u.vm.Alike U.vm) (h : qT o A u H) : qT o A U H :=
  ⟨⟨va_X.moved hvm h.1.1, h.1.2.1, h.1.2.2⟩, ⟨va_Z.moved hvm h.2.1.1, va_T.moved hvm h.2.1.2⟩, ⟨va_Z.moved hvm h.2.2.1.1, va_T.moved hvm h.2.2.1.2⟩, h.2.2.2.moved hvm⟩
theorem qT.kept {o : qO} {A : Nat → Prop} {U : State} {H H1 : Heap} (h : qT o A U H) (hz : H.size ≤ H1.size) (hq : ∀ a : Nat, a < H.size → ¬ A a → H1[a]? = H[a]?) : qT o A U H1 :=
  ⟨⟨va_X.kept h.1.1 (hq _ h.1.2.1 h.1.2.2), Nat.lt_of_lt_of_le h.1.2.1 hz, h.1.2.2⟩, ⟨va_Z.kept h.2.1.1 hq, va_T.kept h.2.1.2 hq⟩, ⟨va_Z.kept h.2.2.1.1 hq, va_T.kept h.2.2.1.2 hq⟩, h.2.2.2.kept hq⟩
theorem qT.narrow {o : qO} {A B : Nat → Prop} {U : State} {H : Heap} (h : qT o A U H) (hAB : ∀ q, B q → A q) : qT o B U H :=
  ⟨⟨h.1.1, h.1.2.1, fun z => h.1.2.2 (hAB _ z)⟩, ⟨va_Z.narrow h.2.1.1 hAB, va_T.narrow h.2.1.2 hAB⟩, ⟨va_Z.narrow h.2.2.1.1 hAB, va_T.narrow h.2.2.1.2 hAB⟩, h.2.2.2.narrow hAB⟩
/-! ===== THE JUDGEMENT of a frame ===== -/
/-- what stays in all launches' part: the launch, the tables' numbers, the places, the outside -/
abbrev qL : Type := Launch × va_G × (Nat → ClassId) × (Nat → Nat → Nat) × qO
abbrev qG : Type := qL × (Program × Env × State) × (MethodId × Array Value × List Frame × Method × Code) × (State → Prop)
def q_ad (Γ : qG) : Nat → Nat → Nat := Γ.1.2.2.2.1
def q_o (Γ : qG) : qO := Γ.1.2.2.2.2
def qQc (L : qL) (A : Nat → Prop) (po : Option Value → qM → Prop) : Array Value → State → Outcome → State → Prop := fun _ st oc t =>
  (∃ (v : Option Value) (S : qM), oc = .returned v ∧ po v S ∧ va_P L.2.1 q_cl (q_W L.2.2.2.1 L.2.2.1 S) t.heap) ∧ va_F A st t
def qC (Γ : qG) (cc : ByteArray) (own : String) (nL : Nat) (rt : Option FieldType) (R : Room) (po : Option Value → qM → Prop) : Prop :=
  match Γ with
  | ⟨⟨_, D, cy, ad, o⟩, ⟨p, _, s⟩, ⟨m, args, below, meth, c⟩, Q⟩ =>
    p.tables.exec = Jvm.exec ∧ c.code = cc ∧ c.maxLocals = nL ∧ s.vm.findClass own = some m.cls ∧ (∀ w ∈ qw, w.before args s = true) ∧ meth.sig.returnType = rt ∧ meth.locks = false ∧
    va_K D q_cl (q_tys cy) s ∧ q_D ad ∧ qN o s ∧ qT o (q_A ad s.heap.size) s s.heap ∧ (∀ t, MQ below (qQc Γ.1 (q_A ad s.heap.size) po) args s R.cells R.slots (q_A ad s.heap.size) t → Q t)
def qV (Γ : qG) (R : Room) (nL pc : Nat) (ls : List (Nat × Value)) (st : List Value) (S : qM) (k : Nat × Nat) : Prop :=
  match Γ with
  | ⟨⟨l, D, cy, ad, _⟩, ⟨p, e, s⟩, ⟨m, args, below, meth, c⟩, Q⟩ =>
    ∀ (H : Heap) (locs : List Loc) (la : Array Slot), va_P D q_cl (q_W ad cy S) H → va_S (q_A ad s.heap.size) s.heap H locs → lv_has la nL ls → W p l e R s m args below meth c H locs k.1 k.2 Q (F0 m pc la st)
theorem q_AA {ad : Nat → Nat → Nat} {sz : Nat} : ∀ x ∈ q_pool, q_A ad sz (ad x.1 x.2) := fun x h => Or.inl ⟨x, h, rfl⟩
/-! a method's contract: its arguments by a parameter x -/
def qCT (L : qL) (y : MethodName) (cc : ByteArray) (nL : Nat) (ret : Option FieldType) (rm : Room) {α : Type} (ar : (Nat → Nat → Nat) → qO → α → List Value) (pre : α → qM → Prop) (post : α → qM → Option Value → qM → Prop) : Prop :=
  ∀ (x : α) (S : qM) (sz : Nat), pre x S → Met L.1 y (Cond.code y cc nL ret :: qw) rm
    (va_Pc (ar L.2.2.2.1 L.2.2.2.2 x) (fun U => U.heap.size = sz ∧ va_P L.2.1 q_cl (q_W L.2.2.2.1 L.2.2.1 S) U.heap ∧ va_K L.2.1 q_cl (q_tys L.2.2.1) U ∧ qN L.2.2.2.2 U ∧ qT L.2.2.2.2 (q_A L.2.2.2.1 sz) U U.heap))
    (qQc L (q_A L.2.2.2.1 sz) (post x S)) rm.cells rm.slots (q_A L.2.2.2.1 sz)
/-- answers that are ints, nothing, longs -/
abbrev qPi {α : Type} (post : α → qM → Int32 → qM → Prop) : α → qM → Option Value → qM → Prop := fun x S v S' => ∃ r : Int32, v = some (.int r) ∧ post x S r S'
abbrev qPl {α : Type} (post : α → qM → Int64 → qM → Prop) : α → qM → Option Value → qM → Prop := fun x S v S' => ∃ r : Int64, v = some (.long r) ∧ post x S r S'
abbrev qPv {α : Type} (post : α → qM → qM → Prop) : α → qM → Option Value → qM → Prop := fun x S v S' => v = none ∧ post x S S'
theorem q_met {L : qL} {y : MethodName} {cc : ByteArray} {nL : Nat} {ret : Option FieldType} {rm : Room} {α : Type} {ar : (Nat → Nat → Nat) → qO → α → List Value} {pre : α → qM → Prop} {post : α → qM → Option Value → qM → Prop}
    (hD : q_D L.2.2.2.1) (hy : plainName y.cls = true) (hlen : ∀ x, (lg_sl (ar L.2.2.2.1 L.2.2.2.2 x)).length ≤ nL)
    (body : ∀ (Γ : qG) (x : α) (S : qM), Γ.1 = L → pre x S → qC Γ cc y.cls nL ret rm (post x S) → qV Γ rm nL 0 (lv_args 0 (ar (q_ad Γ) (q_o Γ) x)) [] S (0, 0)) : qCT L y cc nL ret rm ar pre post := by
  obtain ⟨l, D, cy, ad, o⟩ := L
  intro x S sz hpre
  refine Met.ofW (cc := cc) (maxL := nL) (ret := ret) hy rfl ?_
  intro p e s m args below meth c s₁ B hml hv
  obtain ⟨rfl, hsz, hP, hK, hN, hT⟩ := hv
  dsimp only at hsz hP hK hN hT hD
  subst hsz
  have hts := atoms_spec (ws := Cond.code y cc nL ret :: qw) B.pre
  have hown : s.vm.findClass y.cls = some m.cls := findClass_of_methodNamed B.named
  have hb := body ⟨⟨l, D, cy, ad, o⟩, ⟨p, e, s⟩, ⟨m, (ar ad o x).toArray, below, meth, c⟩, MQ below (qQc ⟨l, D, cy, ad, o⟩ (q_A ad s.heap.size) (post x S)) (ar ad o x).toArray s rm.cells rm.slots (q_A ad s.heap.size)⟩ x S rfl hpre
    ⟨B.exec, B.bytes, hml, hown, fun w hw => hts w (List.mem_cons_of_mem _ hw), B.returns, B.notSynchronized, hK, hD, hN, hT, fun _ h => h⟩
  have hl := lv_entry (ar ad o x) (n := nL) (hlen x)
  rw [lg_entry_eq]
  exact hb s.heap [] _ hP va_S.rf hl
