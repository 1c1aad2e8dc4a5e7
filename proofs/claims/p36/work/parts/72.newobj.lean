-- printed by wip/p36/gen_n2.py
section NREF
variable {Γ : qG} {A : Nat → Prop} {cc : ByteArray} {own : String} {nL : Nat} {R : Room} {po : va_W → Prop} {pc n idx : Nat} {ls : List (Nat × Value)} {st : List Value} {ws : va_W} {k : Nat × Nat}
theorem n_inL {w ws : va_W} {v ci : Nat} (h : ∃ vs, (v, Sum.inr (ci, vs)) ∈ w) : ∃ vs, (v, Sum.inr (ci, vs)) ∈ ws ++ w := by
  obtain ⟨vs, h⟩ := h
  exact ⟨vs, List.mem_append.mpr (Or.inr h)⟩
theorem n_anewX5 (hC : nC Γ A cc own nL R po) {v : Int32} {N : Nat} {k' : Nat × Nat} (hd : decode cc pc = .ok (.anewarray idx, 3)) (hcl : Cond.classLink own idx RX5 ∈ qw) (hv : ¬ v < 0) (hN : v.toNatClampNeg = N) (hb : N ≤ 100) (hk : k.1 + 1 ≤ R.cells ∧ k.2 + N ≤ R.slots) (hk' : (k.1 + 1, k.2 + N) = k') (hn : pc + 3 = n) (kk : ∀ q : Nat, nV Γ A R nL n ls (.ref q :: st) (ws ++ [(q, .inl (Γ.1.2.2.1 3, N, .inr (.inr (.inr (.inr (fun _ => none))))))]) k') : nV Γ A R nL pc ls (.int v :: st) ws k := by
  obtain ⟨⟨l, D, cy, ad, o⟩, ⟨p, e, s⟩, ⟨m, args, below, meth, c⟩, Q⟩ := Γ
  obtain ⟨h1, h2, h3, h4, h5, h6, h7, h8, h9, h10, h11, h12, h13, h14⟩ := hC
  subst hn; subst hk'
  intro H locs la hP hD hS hl
  refine va_newq h1 h2 h4 (h5 _ hcl) h12.1 h8 hP hD hS h13 hv hN (by omega) hk.1 hk.2 hd (fun q cA H1 hK1 hP1 hD1 hS1 => ?_)
  obtain ⟨-, -, -, -, -, e1⟩ := (hK1.2 5 (cA, .object RX5) rfl).2
  obtain ⟨-, -, -, -, -, e2⟩ := (h8.2 3 (cy 3, .object RX5) rfl).2
  obtain rfl : cA = cy 3 := Option.some.inj (e1.symm.trans e2)
  exact kk q H1 locs la hP1 hD1 hS1 hl
theorem n_aastX5 (hC : nC Γ A cc own nL R po) {a N v : Nat} {f : Nat → Option Nat} {y : Int32} (q0 : Nat) (hd : decode cc pc = .ok (.aastore, 1)) (he : ws[q0]? = some (a, .inl (Γ.1.2.2.1 3, N, .inr (.inr (.inr (.inr f)))))) (hv : ∃ vs, (v, Sum.inr (4, vs)) ∈ ws) (hin : vp_in y N) {ws' : va_W} (hw : ws.set q0 (a, .inl (Γ.1.2.2.1 3, N, .inr (.inr (.inr (.inr (va_up f y.toNatClampNeg (some v))))))) = ws') (hn : pc + 1 = n) (kk : nV Γ A R nL n ls st ws' k) : nV Γ A R nL pc ls (.ref v :: .int y :: .ref a :: st) ws k := by
  obtain ⟨⟨l, D, cy, ad, o⟩, ⟨p, e, s⟩, ⟨m, args, below, meth, c⟩, Q⟩ := Γ
  obtain ⟨h1, h2, h3, h4, h5, h6, h7, h8, h9, h10, h11, h12, h13, h14⟩ := hC
  subst hn; subst hw
  obtain ⟨vs, hv⟩ := hv
  obtain ⟨qk, hqk⟩ := List.getElem?_of_mem hv
  intro H locs la hP hD hS hl
  exact va_astq h1 h2 h8 hP hD hS q0 3 qk 4 he rfl hqk rfl hin hd (fun H1 locs1 hP1 hD1 hS1 => kk H1 locs1 la hP1 hD1 hS1 hl)
theorem n_anewX0 (hC : nC Γ A cc own nL R po) {v : Int32} {N : Nat} {k' : Nat × Nat} (hd : decode cc pc = .ok (.anewarray idx, 3)) (hcl : Cond.classLink own idx RX0 ∈ qw) (hv : ¬ v < 0) (hN : v.toNatClampNeg = N) (hb : N ≤ 100) (hk : k.1 + 1 ≤ R.cells ∧ k.2 + N ≤ R.slots) (hk' : (k.1 + 1, k.2 + N) = k') (hn : pc + 3 = n) (kk : ∀ q : Nat, nV Γ A R nL n ls (.ref q :: st) (ws ++ [(q, .inl (Γ.1.2.2.1 4, N, .inr (.inr (.inr (.inr (fun _ => none))))))]) k') : nV Γ A R nL pc ls (.int v :: st) ws k := by
  obtain ⟨⟨l, D, cy, ad, o⟩, ⟨p, e, s⟩, ⟨m, args, below, meth, c⟩, Q⟩ := Γ
  obtain ⟨h1, h2, h3, h4, h5, h6, h7, h8, h9, h10, h11, h12, h13, h14⟩ := hC
  subst hn; subst hk'
  intro H locs la hP hD hS hl
  refine va_newq h1 h2 h4 (h5 _ hcl) h12.2 h8 hP hD hS h13 hv hN (by omega) hk.1 hk.2 hd (fun q cA H1 hK1 hP1 hD1 hS1 => ?_)
  obtain ⟨-, -, -, -, -, e1⟩ := (hK1.2 5 (cA, .object RX0) rfl).2
  obtain ⟨-, -, -, -, -, e2⟩ := (h8.2 4 (cy 4, .object RX0) rfl).2
  obtain rfl : cA = cy 4 := Option.some.inj (e1.symm.trans e2)
  exact kk q H1 locs la hP1 hD1 hS1 hl
theorem n_aastX0 (hC : nC Γ A cc own nL R po) {a N v : Nat} {f : Nat → Option Nat} {y : Int32} (q0 : Nat) (hd : decode cc pc = .ok (.aastore, 1)) (he : ws[q0]? = some (a, .inl (Γ.1.2.2.1 4, N, .inr (.inr (.inr (.inr f)))))) (hv : ∃ vs, (v, Sum.inr (0, vs)) ∈ ws) (hin : vp_in y N) {ws' : va_W} (hw : ws.set q0 (a, .inl (Γ.1.2.2.1 4, N, .inr (.inr (.inr (.inr (va_up f y.toNatClampNeg (some v))))))) = ws') (hn : pc + 1 = n) (kk : nV Γ A R nL n ls st ws' k) : nV Γ A R nL pc ls (.ref v :: .int y :: .ref a :: st) ws k := by
  obtain ⟨⟨l, D, cy, ad, o⟩, ⟨p, e, s⟩, ⟨m, args, below, meth, c⟩, Q⟩ := Γ
  obtain ⟨h1, h2, h3, h4, h5, h6, h7, h8, h9, h10, h11, h12, h13, h14⟩ := hC
  subst hn; subst hw
  obtain ⟨vs, hv⟩ := hv
  obtain ⟨qk, hqk⟩ := List.getElem?_of_mem hv
  intro H locs la hP hD hS hl
  exact va_astq h1 h2 h8 hP hD hS q0 4 qk 0 he rfl hqk rfl hin hd (fun H1 locs1 hP1 hD1 hS1 => kk H1 locs1 la hP1 hD1 hS1 hl)
end NREF
theorem in_po_X5 {cy : Nat → ClassId} {h : Nat} {w : va_W} (hp : po_X5 cy h w) : ∃ vs, (h, Sum.inr (4, vs)) ∈ w := by
  obtain ⟨q5, q16, w1, w2, -, -, rfl⟩ := hp
  exact ⟨_, List.mem_cons_self⟩
theorem in_po_X0 {cy : Nat → ClassId} {h : Nat} {w : va_W} (hp : po_X0 cy h w) : ∃ vs, (h, Sum.inr (0, vs)) ∈ w := by
  obtain ⟨q5, q23, q31, q39, q47, w1, -, rfl⟩ := hp
  exact ⟨_, List.mem_cons_self⟩
theorem n_pack {Γ : qG} {A : Nat → Prop} {R : Room} {nL pc : Nat} {ls : List (Nat × Value)} {st : List Value} {X pl w : va_W} {k : Nat × Nat} (kk : ∀ pl', pl' = pl ++ w → nV Γ A R nL pc ls st (X ++ pl') k) : nV Γ A R nL pc ls st (X ++ pl ++ w) k := by
  rw [List.append_assoc]
  exact kk _ rfl
abbrev rm_X9_init : Room := { frames := 4, cells := 365, slots := 5771, locals := 82 }
def po_X9 (cy : Nat → ClassId) (h : Nat) (ws : va_W) : Prop := ∃ (q6 q14 q23 q32 q38 q49 q60 q94 q94_2 q94_3 q94_4 q120 q120_2 q120_3 q120_4 q147 q147_2 q147_3 q147_4 q147_5 q147_6 q147_7 q147_8 q72 : Nat) (w1 w2 w3 w4 w5 w6 w7 w8 w9 w10 w11 w12 w13 w14 w15 w16 w17 w18 w19 : va_W), po_X8 cy q38 w1 ∧ po_X8 cy q49 w2 ∧ po_X4 cy q60 w3 ∧ po_X5 cy q94 w4 ∧ po_X5 cy q94_2 w5 ∧ po_X5 cy q94_3 w6 ∧ po_X5 cy q94_4 w7 ∧ po_X0 cy q120 w8 ∧ po_X0 cy q120_2 w9 ∧ po_X0 cy q120_3 w10 ∧ po_X0 cy q120_4 w11 ∧ po_X5 cy q147 w12 ∧ po_X5 cy q147_2 w13 ∧ po_X5 cy q147_3 w14 ∧ po_X5 cy q147_4 w15 ∧ po_X5 cy q147_5 w16 ∧ po_X5 cy q147_6 w17 ∧ po_X5 cy q147_7 w18 ∧ po_X5 cy q147_8 w19 ∧ ws = [(h, .inr (8, [.ref q6, .ref q14, .ref q23, .ref q32, .ref q38, .ref q49, .ref q60, .ref q72, .int 0])), (q6, .inl (cy 3, 4, .inr (.inr (.inr (.inr (va_up (va_up (va_up (va_up (fun _ => none) 0 (some q94)) 1 (some q94_2)) 2 (some q94_3)) 3 (some q94_4))))))), (q14, .inl (cy 4, 4, .inr (.inr (.inr (.inr (va_up (va_up (va_up (va_up (fun _ => none) 0 (some q120)) 1 (some q120_2)) 2 (some q120_3)) 3 (some q120_4))))))), (q23, .inl (cy 3, 8, .inr (.inr (.inr (.inr (va_up (va_up (va_up (va_up (va_up (va_up (va_up (va_up (fun _ => none) 0 (some q147)) 1 (some q147_2)) 2 (some q147_3)) 3 (some q147_4)) 4 (some q147_5)) 5 (some q147_6)) 6 (some q147_7)) 7 (some q147_8))))))), (q32, .inl (cy 0, 24, .inl (fun _ => 0)))] ++ (w1 ++ w2 ++ w3 ++ [(q72, .inl (cy 0, 4, .inl (fun _ => 0)))] ++ w4 ++ w5 ++ w6 ++ w7 ++ w8 ++ w9 ++ w10 ++ w11 ++ w12 ++ w13 ++ w14 ++ w15 ++ w16 ++ w17 ++ w18 ++ w19)
set_option maxHeartbeats 4000000 in
set_option maxRecDepth 100000 in
theorem c_X9_init (L : qL) : nCT L yX9_init cX9_init 2 rm_X9_init (.inr (8, [.null, .null, .null, .null, .null, .null, .null, .null, .int 0])) (po_X9 L.2.2.1) := by
  refine n_met (by decide) rfl (by decide) (fun Γ A h hΓ hC => ?_)
  subst hΓ
  refine n_aload_n hC 0 dX9_init_0 rfl rfl ?_
  refine n_obj hC dX9_init_1 ol_X9 oi_i oi_c (Nat.le_of_ble_eq_true rfl) ⟨by decide, by decide⟩ rfl ?_
  refine n_aload_n hC 0 dX9_init_4 rfl rfl ?_
  refine n_iconst hC dX9_init_5 (v := 4) (by decide) rfl ?_
  refine n_anewX5 (N := 4) hC dX9_init_6 cw_X9_9 (by decide) (by decide) (by decide) ⟨by decide, by decide⟩ (k' := (1, 4)) rfl rfl (fun q6 => ?_)
  refine n_putF hC 0 np_X9_11 dX9_init_9 rfl (Nat.le_of_ble_eq_true rfl) rfl rfl (ws' := [(h, .inr (8, [.ref q6, .null, .null, .null, .null, .null, .null, .null, .int 0])), (q6, .inl (Γ.1.2.2.1 3, 4, .inr (.inr (.inr (.inr (fun _ => none))))))]) rfl rfl ?_
  refine n_aload_n hC 0 dX9_init_12 rfl rfl ?_
  refine n_iconst hC dX9_init_13 (v := 4) (by decide) rfl ?_
  refine n_anewX0 (N := 4) hC dX9_init_14 cw_X9_15 (by decide) (by decide) (by decide) ⟨by decide, by decide⟩ (k' := (2, 8)) rfl rfl (fun q14 => ?_)
  refine n_putF hC 0 np_X9_17 dX9_init_17 rfl (Nat.le_of_ble_eq_true rfl) rfl rfl (ws' := [(h, .inr (8, [.ref q6, .ref q14, .null, .null, .null, .null, .null, .null, .int 0])), (q6, .inl (Γ.1.2.2.1 3, 4, .inr (.inr (.inr (.inr (fun _ => none)))))), (q14, .inl (Γ.1.2.2.1 4, 4, .inr (.inr (.inr (.inr (fun _ => none))))))]) rfl rfl ?_
  refine n_aload_n hC 0 dX9_init_20 rfl rfl ?_
  refine n_bipush hC dX9_init_21 (v := 8) (by decide) rfl ?_
  refine n_anewX5 (N := 8) hC dX9_init_23 cw_X9_9 (by decide) (by decide) (by decide) ⟨by decide, by decide⟩ (k' := (3, 16)) rfl rfl (fun q23 => ?_)
  refine n_putF hC 0 np_X9_21 dX9_init_26 rfl (Nat.le_of_ble_eq_true rfl) rfl rfl (ws' := [(h, .inr (8, [.ref q6, .ref q14, .ref q23, .null, .null, .null, .null, .null, .int 0])), (q6, .inl (Γ.1.2.2.1 3, 4, .inr (.inr (.inr (.inr (fun _ => none)))))), (q14, .inl (Γ.1.2.2.1 4, 4, .inr (.inr (.inr (.inr (fun _ => none)))))), (q23, .inl (Γ.1.2.2.1 3, 8, .inr (.inr (.inr (.inr (fun _ => none))))))]) rfl rfl ?_
  refine n_aload_n hC 0 dX9_init_29 rfl rfl ?_
  refine n_bipush hC dX9_init_30 (v := 24) (by decide) rfl ?_
  refine n_newI (N := 24) hC dX9_init_32 ac_int (by decide) (by decide) (by decide) ⟨by decide, by decide⟩ (k' := (4, 40)) rfl rfl (fun q32 => ?_)
  refine n_putF hC 0 np_X9_24 dX9_init_34 rfl (Nat.le_of_ble_eq_true rfl) rfl rfl (ws' := [(h, .inr (8, [.ref q6, .ref q14, .ref q23, .ref q32, .null, .null, .null, .null, .int 0])), (q6, .inl (Γ.1.2.2.1 3, 4, .inr (.inr (.inr (.inr (fun _ => none)))))), (q14, .inl (Γ.1.2.2.1 4, 4, .inr (.inr (.inr (.inr (fun _ => none)))))), (q23, .inl (Γ.1.2.2.1 3, 8, .inr (.inr (.inr (.inr (fun _ => none)))))), (q32, .inl (Γ.1.2.2.1 0, 24, .inl (fun _ => 0)))]) rfl rfl ?_
  refine n_aload_n hC 0 dX9_init_37 rfl rfl ?_
  refine n_new (ci := 7) (N := 4) (C := RX8) (T := TX8) (fs := [.int 0, .int 0, .int 0, .null]) hC dX9_init_38 rfl in_X8 tyX8 tyX8_ok cw_X9_28 ins_X8 ini_X8 nfs_X8 ⟨by decide, by decide⟩ (k' := (5, 44)) rfl rfl (fun q38 => ?_)
  refine n_dup hC dX9_init_41 rfl rfl ?_
  refine n_callN hC (c_X8_init Γ.1) mi_X8_init ln_X9_30 dX9_init_42 (Nat.le_of_ble_eq_true rfl) ⟨⟨by decide, by decide⟩, by decide, by decide⟩ rfl (k' := (6, 52)) rfl (fun w1 hw1 => ?_)
  refine n_putF hC 0 np_X9_31 dX9_init_45 rfl (Nat.le_of_ble_eq_true rfl) rfl rfl (ws' := [(h, .inr (8, [.ref q6, .ref q14, .ref q23, .ref q32, .ref q38, .null, .null, .null, .int 0])), (q6, .inl (Γ.1.2.2.1 3, 4, .inr (.inr (.inr (.inr (fun _ => none)))))), (q14, .inl (Γ.1.2.2.1 4, 4, .inr (.inr (.inr (.inr (fun _ => none)))))), (q23, .inl (Γ.1.2.2.1 3, 8, .inr (.inr (.inr (.inr (fun _ => none)))))), (q32, .inl (Γ.1.2.2.1 0, 24, .inl (fun _ => 0)))] ++ w1) rfl rfl ?_
  refine n_aload_n hC 0 dX9_init_48 rfl rfl ?_
  refine n_new (ci := 7) (N := 4) (C := RX8) (T := TX8) (fs := [.int 0, .int 0, .int 0, .null]) hC dX9_init_49 rfl in_X8 tyX8 tyX8_ok cw_X9_28 ins_X8 ini_X8 nfs_X8 ⟨by decide, by decide⟩ (k' := (7, 56)) rfl rfl (fun q49 => ?_)
  refine n_dup hC dX9_init_52 rfl rfl ?_
  refine n_callN hC (c_X8_init Γ.1) mi_X8_init ln_X9_30 dX9_init_53 (Nat.le_of_ble_eq_true rfl) ⟨⟨by decide, by decide⟩, by decide, by decide⟩ rfl (k' := (8, 64)) rfl (fun w2 hw2 => ?_)
  refine n_putF hC 0 np_X9_35 dX9_init_56 rfl (Nat.le_of_ble_eq_true rfl) rfl rfl (ws' := [(h, .inr (8, [.ref q6, .ref q14, .ref q23, .ref q32, .ref q38, .ref q49, .null, .null, .int 0])), (q6, .inl (Γ.1.2.2.1 3, 4, .inr (.inr (.inr (.inr (fun _ => none)))))), (q14, .inl (Γ.1.2.2.1 4, 4, .inr (.inr (.inr (.inr (fun _ => none)))))), (q23, .inl (Γ.1.2.2.1 3, 8, .inr (.inr (.inr (.inr (fun _ => none)))))), (q32, .inl (Γ.1.2.2.1 0, 24, .inl (fun _ => 0)))] ++ w1 ++ w2) rfl rfl ?_
  refine n_pack (fun p2 hp2 => ?_)
  refine n_aload_n hC 0 dX9_init_59 rfl rfl ?_
  refine n_new (ci := 3) (N := 5) (C := RX4) (T := TX4) (fs := [.null, .null, .null, .null, .int 0]) hC dX9_init_60 rfl in_X4 tyX4 tyX4_ok cw_X9_38 ins_X4 ini_X4 nfs_X4 ⟨by decide, by decide⟩ (k' := (9, 69)) rfl rfl (fun q60 => ?_)
  refine n_dup hC dX9_init_63 rfl rfl ?_
  refine n_callN hC (c_X4_init Γ.1) mi_X4_init ln_X9_40 dX9_init_64 (Nat.le_of_ble_eq_true rfl) ⟨⟨by decide, by decide⟩, by decide, by decide⟩ rfl (k' := (16, 115)) rfl (fun w3 hw3 => ?_)
  refine n_putF hC 0 np_X9_41 dX9_init_67 rfl (Nat.le_of_ble_eq_true rfl) rfl rfl (ws' := [(h, .inr (8, [.ref q6, .ref q14, .ref q23, .ref q32, .ref q38, .ref q49, .ref q60, .null, .int 0])), (q6, .inl (Γ.1.2.2.1 3, 4, .inr (.inr (.inr (.inr (fun _ => none)))))), (q14, .inl (Γ.1.2.2.1 4, 4, .inr (.inr (.inr (.inr (fun _ => none)))))), (q23, .inl (Γ.1.2.2.1 3, 8, .inr (.inr (.inr (.inr (fun _ => none)))))), (q32, .inl (Γ.1.2.2.1 0, 24, .inl (fun _ => 0)))] ++ p2 ++ w3) rfl rfl ?_
  refine n_pack (fun p3 hp3 => ?_)
  refine n_aload_n hC 0 dX9_init_70 rfl rfl ?_
  refine n_iconst hC dX9_init_71 (v := 4) (by decide) rfl ?_
  refine n_newI (N := 4) hC dX9_init_72 ac_int (by decide) (by decide) (by decide) ⟨by decide, by decide⟩ (k' := (17, 119)) rfl rfl (fun q72 => ?_)
  refine n_putF hC 0 np_X9_45 dX9_init_74 rfl (Nat.le_of_ble_eq_true rfl) rfl rfl (ws' := [(h, .inr (8, [.ref q6, .ref q14, .ref q23, .ref q32, .ref q38, .ref q49, .ref q60, .ref q72, .int 0])), (q6, .inl (Γ.1.2.2.1 3, 4, .inr (.inr (.inr (.inr (fun _ => none)))))), (q14, .inl (Γ.1.2.2.1 4, 4, .inr (.inr (.inr (.inr (fun _ => none)))))), (q23, .inl (Γ.1.2.2.1 3, 8, .inr (.inr (.inr (.inr (fun _ => none)))))), (q32, .inl (Γ.1.2.2.1 0, 24, .inl (fun _ => 0)))] ++ p3 ++ [(q72, .inl (Γ.1.2.2.1 0, 4, .inl (fun _ => 0)))]) rfl rfl ?_
  refine n_pack (fun p4 hp4 => ?_)
  refine n_aload_n hC 0 dX9_init_77 rfl rfl ?_
  refine n_iconst hC dX9_init_78 (v := 0) (by decide) rfl ?_
  refine n_putN hC 0 np_X9_48 dX9_init_79 rfl (Nat.le_of_ble_eq_true rfl) rfl rfl (ws' := [(h, .inr (8, [.ref q6, .ref q14, .ref q23, .ref q32, .ref q38, .ref q49, .ref q60, .ref q72, .int 0])), (q6, .inl (Γ.1.2.2.1 3, 4, .inr (.inr (.inr (.inr (fun _ => none)))))), (q14, .inl (Γ.1.2.2.1 4, 4, .inr (.inr (.inr (.inr (fun _ => none)))))), (q23, .inl (Γ.1.2.2.1 3, 8, .inr (.inr (.inr (.inr (fun _ => none)))))), (q32, .inl (Γ.1.2.2.1 0, 24, .inl (fun _ => 0)))] ++ p4) rfl rfl ?_
  refine n_iconst hC dX9_init_82 (v := 0) (by decide) rfl ?_
  refine n_istore_n hC dX9_init_83 (by decide) (ls' := [(0, _), (1, _)]) rfl rfl ?_
  refine n_iload_n hC 1 dX9_init_84 rfl rfl ?_
  refine n_iconst hC dX9_init_85 (v := 4) (by decide) rfl ?_
  refine n_icmp_ge hC dX9_init_86 (t := 108) (n := 89) (by decide) rfl (fun h86 => absurd h86 (by decide)) (fun _ => ?_)
  refine n_aload_n hC 0 dX9_init_89 rfl rfl ?_
  refine n_get hC 0 f_X9_11 dX9_init_90 rfl rfl rfl ?_
  refine n_iload_n hC 1 dX9_init_93 rfl rfl ?_
  refine n_new (ci := 4) (N := 6) (C := RX5) (T := TX5) (fs := [.null, .null, .int 0, .int 0, .int 0, .int 0]) hC dX9_init_94 rfl in_X5 tyX5 tyX5_ok cw_X9_9 ins_X5 ini_X5 nfs_X5 ⟨by decide, by decide⟩ (k' := (18, 125)) rfl rfl (fun q94 => ?_)
  refine n_dup hC dX9_init_97 rfl rfl ?_
  refine n_callN hC (c_X5_init Γ.1) mi_X5_init ln_X9_52 dX9_init_98 (Nat.le_of_ble_eq_true rfl) ⟨⟨by decide, by decide⟩, by decide, by decide⟩ rfl (k' := (44, 576)) rfl (fun w4 hw4 => ?_)
  refine n_aastX5 hC 1 dX9_init_101 rfl (n_inL (in_po_X5 hw4)) (q_inl (by decide)) (ws' := [(h, .inr (8, [.ref q6, .ref q14, .ref q23, .ref q32, .ref q38, .ref q49, .ref q60, .ref q72, .int 0])), (q6, .inl (Γ.1.2.2.1 3, 4, .inr (.inr (.inr (.inr (va_up (fun _ => none) 0 (some q94))))))), (q14, .inl (Γ.1.2.2.1 4, 4, .inr (.inr (.inr (.inr (fun _ => none)))))), (q23, .inl (Γ.1.2.2.1 3, 8, .inr (.inr (.inr (.inr (fun _ => none)))))), (q32, .inl (Γ.1.2.2.1 0, 24, .inl (fun _ => 0)))] ++ p4 ++ w4) rfl rfl ?_
  refine n_pack (fun p5 hp5 => ?_)
  refine n_iinc hC 1 dX9_init_102 rfl (v := 1) (by decide) (by decide) (ls' := [(0, _), (1, _)]) rfl rfl ?_
  refine n_goto hC dX9_init_105 (n := 84) (by decide) ?_
  refine n_iload_n hC 1 dX9_init_84 rfl rfl ?_
  refine n_iconst hC dX9_init_85 (v := 4) (by decide) rfl ?_
  refine n_icmp_ge hC dX9_init_86 (t := 108) (n := 89) (by decide) rfl (fun h86 => absurd h86 (by decide)) (fun _ => ?_)
  refine n_aload_n hC 0 dX9_init_89 rfl rfl ?_
  refine n_get hC 0 f_X9_11 dX9_init_90 rfl rfl rfl ?_
  refine n_iload_n hC 1 dX9_init_93 rfl rfl ?_
  refine n_new (ci := 4) (N := 6) (C := RX5) (T := TX5) (fs := [.null, .null, .int 0, .int 0, .int 0, .int 0]) hC dX9_init_94 rfl in_X5 tyX5 tyX5_ok cw_X9_9 ins_X5 ini_X5 nfs_X5 ⟨by decide, by decide⟩ (k' := (45, 582)) rfl rfl (fun q94_2 => ?_)
  refine n_dup hC dX9_init_97 rfl rfl ?_
  refine n_callN hC (c_X5_init Γ.1) mi_X5_init ln_X9_52 dX9_init_98 (Nat.le_of_ble_eq_true rfl) ⟨⟨by decide, by decide⟩, by decide, by decide⟩ rfl (k' := (71, 1033)) rfl (fun w5 hw5 => ?_)
  refine n_aastX5 hC 1 dX9_init_101 rfl (n_inL (in_po_X5 hw5)) (q_inl (by decide)) (ws' := [(h, .inr (8, [.ref q6, .ref q14, .ref q23, .ref q32, .ref q38, .ref q49, .ref q60, .ref q72, .int 0])), (q6, .inl (Γ.1.2.2.1 3, 4, .inr (.inr (.inr (.inr (va_up (va_up (fun _ => none) 0 (some q94)) 1 (some q94_2))))))), (q14, .inl (Γ.1.2.2.1 4, 4, .inr (.inr (.inr (.inr (fun _ => none)))))), (q23, .inl (Γ.1.2.2.1 3, 8, .inr (.inr (.inr (.inr (fun _ => none)))))), (q32, .inl (Γ.1.2.2.1 0, 24, .inl (fun _ => 0)))] ++ p5 ++ w5) rfl rfl ?_
  refine n_pack (fun p6 hp6 => ?_)
  refine n_iinc hC 1 dX9_init_102 rfl (v := 2) (by decide) (by decide) (ls' := [(0, _), (1, _)]) rfl rfl ?_
  refine n_goto hC dX9_init_105 (n := 84) (by decide) ?_
  refine n_iload_n hC 1 dX9_init_84 rfl rfl ?_
  refine n_iconst hC dX9_init_85 (v := 4) (by decide) rfl ?_
  refine n_icmp_ge hC dX9_init_86 (t := 108) (n := 89) (by decide) rfl (fun h86 => absurd h86 (by decide)) (fun _ => ?_)
  refine n_aload_n hC 0 dX9_init_89 rfl rfl ?_
  refine n_get hC 0 f_X9_11 dX9_init_90 rfl rfl rfl ?_
  refine n_iload_n hC 1 dX9_init_93 rfl rfl ?_
  refine n_new (ci := 4) (N := 6) (C := RX5) (T := TX5) (fs := [.null, .null, .int 0, .int 0, .int 0, .int 0]) hC dX9_init_94 rfl in_X5 tyX5 tyX5_ok cw_X9_9 ins_X5 ini_X5 nfs_X5 ⟨by decide, by decide⟩ (k' := (72, 1039)) rfl rfl (fun q94_3 => ?_)
  refine n_dup hC dX9_init_97 rfl rfl ?_
  refine n_callN hC (c_X5_init Γ.1) mi_X5_init ln_X9_52 dX9_init_98 (Nat.le_of_ble_eq_true rfl) ⟨⟨by decide, by decide⟩, by decide, by decide⟩ rfl (k' := (98, 1490)) rfl (fun w6 hw6 => ?_)
  refine n_aastX5 hC 1 dX9_init_101 rfl (n_inL (in_po_X5 hw6)) (q_inl (by decide)) (ws' := [(h, .inr (8, [.ref q6, .ref q14, .ref q23, .ref q32, .ref q38, .ref q49, .ref q60, .ref q72, .int 0])), (q6, .inl (Γ.1.2.2.1 3, 4, .inr (.inr (.inr (.inr (va_up (va_up (va_up (fun _ => none) 0 (some q94)) 1 (some q94_2)) 2 (some q94_3))))))), (q14, .inl (Γ.1.2.2.1 4, 4, .inr (.inr (.inr (.inr (fun _ => none)))))), (q23, .inl (Γ.1.2.2.1 3, 8, .inr (.inr (.inr (.inr (fun _ => none)))))), (q32, .inl (Γ.1.2.2.1 0, 24, .inl (fun _ => 0)))] ++ p6 ++ w6) rfl rfl ?_
  refine n_pack (fun p7 hp7 => ?_)
  refine n_iinc hC 1 dX9_init_102 rfl (v := 3) (by decide) (by decide) (ls' := [(0, _), (1, _)]) rfl rfl ?_
  refine n_goto hC dX9_init_105 (n := 84) (by decide) ?_
  refine n_iload_n hC 1 dX9_init_84 rfl rfl ?_
  refine n_iconst hC dX9_init_85 (v := 4) (by decide) rfl ?_
  refine n_icmp_ge hC dX9_init_86 (t := 108) (n := 89) (by decide) rfl (fun h86 => absurd h86 (by decide)) (fun _ => ?_)
  refine n_aload_n hC 0 dX9_init_89 rfl rfl ?_
  refine n_get hC 0 f_X9_11 dX9_init_90 rfl rfl rfl ?_
  refine n_iload_n hC 1 dX9_init_93 rfl rfl ?_
  refine n_new (ci := 4) (N := 6) (C := RX5) (T := TX5) (fs := [.null, .null, .int 0, .int 0, .int 0, .int 0]) hC dX9_init_94 rfl in_X5 tyX5 tyX5_ok cw_X9_9 ins_X5 ini_X5 nfs_X5 ⟨by decide, by decide⟩ (k' := (99, 1496)) rfl rfl (fun q94_4 => ?_)
  refine n_dup hC dX9_init_97 rfl rfl ?_
  refine n_callN hC (c_X5_init Γ.1) mi_X5_init ln_X9_52 dX9_init_98 (Nat.le_of_ble_eq_true rfl) ⟨⟨by decide, by decide⟩, by decide, by decide⟩ rfl (k' := (125, 1947)) rfl (fun w7 hw7 => ?_)
  refine n_aastX5 hC 1 dX9_init_101 rfl (n_inL (in_po_X5 hw7)) (q_inl (by decide)) (ws' := [(h, .inr (8, [.ref q6, .ref q14, .ref q23, .ref q32, .ref q38, .ref q49, .ref q60, .ref q72, .int 0])), (q6, .inl (Γ.1.2.2.1 3, 4, .inr (.inr (.inr (.inr (va_up (va_up (va_up (va_up (fun _ => none) 0 (some q94)) 1 (some q94_2)) 2 (some q94_3)) 3 (some q94_4))))))), (q14, .inl (Γ.1.2.2.1 4, 4, .inr (.inr (.inr (.inr (fun _ => none)))))), (q23, .inl (Γ.1.2.2.1 3, 8, .inr (.inr (.inr (.inr (fun _ => none)))))), (q32, .inl (Γ.1.2.2.1 0, 24, .inl (fun _ => 0)))] ++ p7 ++ w7) rfl rfl ?_
  refine n_pack (fun p8 hp8 => ?_)
  refine n_iinc hC 1 dX9_init_102 rfl (v := 4) (by decide) (by decide) (ls' := [(0, _), (1, _)]) rfl rfl ?_
  refine n_goto hC dX9_init_105 (n := 84) (by decide) ?_
  refine n_iload_n hC 1 dX9_init_84 rfl rfl ?_
  refine n_iconst hC dX9_init_85 (v := 4) (by decide) rfl ?_
  refine n_icmp_ge hC dX9_init_86 (t := 108) (n := 89) (by decide) rfl (fun _ => ?_) (fun h86 => absurd (by decide) h86)
  refine n_iconst hC dX9_init_108 (v := 0) (by decide) rfl ?_
  refine n_istore_n hC dX9_init_109 (by decide) (ls' := [(0, _), (1, _)]) rfl rfl ?_
  refine n_iload_n hC 1 dX9_init_110 rfl rfl ?_
  refine n_iconst hC dX9_init_111 (v := 4) (by decide) rfl ?_
  refine n_icmp_ge hC dX9_init_112 (t := 134) (n := 115) (by decide) rfl (fun h112 => absurd h112 (by decide)) (fun _ => ?_)
  refine n_aload_n hC 0 dX9_init_115 rfl rfl ?_
  refine n_get hC 0 f_X9_17 dX9_init_116 rfl rfl rfl ?_
  refine n_iload_n hC 1 dX9_init_119 rfl rfl ?_
  refine n_new (ci := 0) (N := 6) (C := RX0) (T := TX0) (fs := [.null, .int 0, .null, .null, .null, .null]) hC dX9_init_120 rfl in_X0 tyX0 tyX0_ok cw_X9_15 ins_X0 ini_X0 nfs_X0 ⟨by decide, by decide⟩ (k' := (126, 1953)) rfl rfl (fun q120 => ?_)
  refine n_dup hC dX9_init_123 rfl rfl ?_
  refine n_callN hC (c_X0_init Γ.1) mi_X0_init ln_X9_53 dX9_init_124 (Nat.le_of_ble_eq_true rfl) ⟨⟨by decide, by decide⟩, by decide, by decide⟩ rfl (k' := (131, 1989)) rfl (fun w8 hw8 => ?_)
  refine n_aastX0 hC 2 dX9_init_127 rfl (n_inL (in_po_X0 hw8)) (q_inl (by decide)) (ws' := [(h, .inr (8, [.ref q6, .ref q14, .ref q23, .ref q32, .ref q38, .ref q49, .ref q60, .ref q72, .int 0])), (q6, .inl (Γ.1.2.2.1 3, 4, .inr (.inr (.inr (.inr (va_up (va_up (va_up (va_up (fun _ => none) 0 (some q94)) 1 (some q94_2)) 2 (some q94_3)) 3 (some q94_4))))))), (q14, .inl (Γ.1.2.2.1 4, 4, .inr (.inr (.inr (.inr (va_up (fun _ => none) 0 (some q120))))))), (q23, .inl (Γ.1.2.2.1 3, 8, .inr (.inr (.inr (.inr (fun _ => none)))))), (q32, .inl (Γ.1.2.2.1 0, 24, .inl (fun _ => 0)))] ++ p8 ++ w8) rfl rfl ?_
  refine n_pack (fun p9 hp9 => ?_)
  refine n_iinc hC 1 dX9_init_128 rfl (v := 1) (by decide) (by decide) (ls' := [(0, _), (1, _)]) rfl rfl ?_
  refine n_goto hC dX9_init_131 (n := 110) (by decide) ?_
  refine n_iload_n hC 1 dX9_init_110 rfl rfl ?_
  refine n_iconst hC dX9_init_111 (v := 4) (by decide) rfl ?_
  refine n_icmp_ge hC dX9_init_112 (t := 134) (n := 115) (by decide) rfl (fun h112 => absurd h112 (by decide)) (fun _ => ?_)
  refine n_aload_n hC 0 dX9_init_115 rfl rfl ?_
  refine n_get hC 0 f_X9_17 dX9_init_116 rfl rfl rfl ?_
  refine n_iload_n hC 1 dX9_init_119 rfl rfl ?_
  refine n_new (ci := 0) (N := 6) (C := RX0) (T := TX0) (fs := [.null, .int 0, .null, .null, .null, .null]) hC dX9_init_120 rfl in_X0 tyX0 tyX0_ok cw_X9_15 ins_X0 ini_X0 nfs_X0 ⟨by decide, by decide⟩ (k' := (132, 1995)) rfl rfl (fun q120_2 => ?_)
  refine n_dup hC dX9_init_123 rfl rfl ?_
  refine n_callN hC (c_X0_init Γ.1) mi_X0_init ln_X9_53 dX9_init_124 (Nat.le_of_ble_eq_true rfl) ⟨⟨by decide, by decide⟩, by decide, by decide⟩ rfl (k' := (137, 2031)) rfl (fun w9 hw9 => ?_)
  refine n_aastX0 hC 2 dX9_init_127 rfl (n_inL (in_po_X0 hw9)) (q_inl (by decide)) (ws' := [(h, .inr (8, [.ref q6, .ref q14, .ref q23, .ref q32, .ref q38, .ref q49, .ref q60, .ref q72, .int 0])), (q6, .inl (Γ.1.2.2.1 3, 4, .inr (.inr (.inr (.inr (va_up (va_up (va_up (va_up (fun _ => none) 0 (some q94)) 1 (some q94_2)) 2 (some q94_3)) 3 (some q94_4))))))), (q14, .inl (Γ.1.2.2.1 4, 4, .inr (.inr (.inr (.inr (va_up (va_up (fun _ => none) 0 (some q120)) 1 (some q120_2))))))), (q23, .inl (Γ.1.2.2.1 3, 8, .inr (.inr (.inr (.inr (fun _ => none)))))), (q32, .inl (Γ.1.2.2.1 0, 24, .inl (fun _ => 0)))] ++ p9 ++ w9) rfl rfl ?_
  refine n_pack (fun p10 hp10 => ?_)
  refine n_iinc hC 1 dX9_init_128 rfl (v := 2) (by decide) (by decide) (ls' := [(0, _), (1, _)]) rfl rfl ?_
  refine n_goto hC dX9_init_131 (n := 110) (by decide) ?_
  refine n_iload_n hC 1 dX9_init_110 rfl rfl ?_
  refine n_iconst hC dX9_init_111 (v := 4) (by decide) rfl ?_
  refine n_icmp_ge hC dX9_init_112 (t := 134) (n := 115) (by decide) rfl (fun h112 => absurd h112 (by decide)) (fun _ => ?_)
  refine n_aload_n hC 0 dX9_init_115 rfl rfl ?_
  refine n_get hC 0 f_X9_17 dX9_init_116 rfl rfl rfl ?_
  refine n_iload_n hC 1 dX9_init_119 rfl rfl ?_
  refine n_new (ci := 0) (N := 6) (C := RX0) (T := TX0) (fs := [.null, .int 0, .null, .null, .null, .null]) hC dX9_init_120 rfl in_X0 tyX0 tyX0_ok cw_X9_15 ins_X0 ini_X0 nfs_X0 ⟨by decide, by decide⟩ (k' := (138, 2037)) rfl rfl (fun q120_3 => ?_)
  refine n_dup hC dX9_init_123 rfl rfl ?_
  refine n_callN hC (c_X0_init Γ.1) mi_X0_init ln_X9_53 dX9_init_124 (Nat.le_of_ble_eq_true rfl) ⟨⟨by decide, by decide⟩, by decide, by decide⟩ rfl (k' := (143, 2073)) rfl (fun w10 hw10 => ?_)
  refine n_aastX0 hC 2 dX9_init_127 rfl (n_inL (in_po_X0 hw10)) (q_inl (by decide)) (ws' := [(h, .inr (8, [.ref q6, .ref q14, .ref q23, .ref q32, .ref q38, .ref q49, .ref q60, .ref q72, .int 0])), (q6, .inl (Γ.1.2.2.1 3, 4, .inr (.inr (.inr (.inr (va_up (va_up (va_up (va_up (fun _ => none) 0 (some q94)) 1 (some q94_2)) 2 (some q94_3)) 3 (some q94_4))))))), (q14, .inl (Γ.1.2.2.1 4, 4, .inr (.inr (.inr (.inr (va_up (va_up (va_up (fun _ => none) 0 (some q120)) 1 (some q120_2)) 2 (some q120_3))))))), (q23, .inl (Γ.1.2.2.1 3, 8, .inr (.inr (.inr (.inr (fun _ => none)))))), (q32, .inl (Γ.1.2.2.1 0, 24, .inl (fun _ => 0)))] ++ p10 ++ w10) rfl rfl ?_
  refine n_pack (fun p11 hp11 => ?_)
  refine n_iinc hC 1 dX9_init_128 rfl (v := 3) (by decide) (by decide) (ls' := [(0, _), (1, _)]) rfl rfl ?_
  refine n_goto hC dX9_init_131 (n := 110) (by decide) ?_
  refine n_iload_n hC 1 dX9_init_110 rfl rfl ?_
  refine n_iconst hC dX9_init_111 (v := 4) (by decide) rfl ?_
  refine n_icmp_ge hC dX9_init_112 (t := 134) (n := 115) (by decide) rfl (fun h112 => absurd h112 (by decide)) (fun _ => ?_)
  refine n_aload_n hC 0 dX9_init_115 rfl rfl ?_
  refine n_get hC 0 f_X9_17 dX9_init_116 rfl rfl rfl ?_
  refine n_iload_n hC 1 dX9_init_119 rfl rfl ?_
  refine n_new (ci := 0) (N := 6) (C := RX0) (T := TX0) (fs := [.null, .int 0, .null, .null, .null, .null]) hC dX9_init_120 rfl in_X0 tyX0 tyX0_ok cw_X9_15 ins_X0 ini_X0 nfs_X0 ⟨by decide, by decide⟩ (k' := (144, 2079)) rfl rfl (fun q120_4 => ?_)
  refine n_dup hC dX9_init_123 rfl rfl ?_
  refine n_callN hC (c_X0_init Γ.1) mi_X0_init ln_X9_53 dX9_init_124 (Nat.le_of_ble_eq_true rfl) ⟨⟨by decide, by decide⟩, by decide, by decide⟩ rfl (k' := (149, 2115)) rfl (fun w11 hw11 => ?_)
  refine n_aastX0 hC 2 dX9_init_127 rfl (n_inL (in_po_X0 hw11)) (q_inl (by decide)) (ws' := [(h, .inr (8, [.ref q6, .ref q14, .ref q23, .ref q32, .ref q38, .ref q49, .ref q60, .ref q72, .int 0])), (q6, .inl (Γ.1.2.2.1 3, 4, .inr (.inr (.inr (.inr (va_up (va_up (va_up (va_up (fun _ => none) 0 (some q94)) 1 (some q94_2)) 2 (some q94_3)) 3 (some q94_4))))))), (q14, .inl (Γ.1.2.2.1 4, 4, .inr (.inr (.inr (.inr (va_up (va_up (va_up (va_up (fun _ => none) 0 (some q120)) 1 (some q120_2)) 2 (some q120_3)) 3 (some q120_4))))))), (q23, .inl (Γ.1.2.2.1 3, 8, .inr (.inr (.inr (.inr (fun _ => none)))))), (q32, .inl (Γ.1.2.2.1 0, 24, .inl (fun _ => 0)))] ++ p11 ++ w11) rfl rfl ?_
  refine n_pack (fun p12 hp12 => ?_)
  refine n_iinc hC 1 dX9_init_128 rfl (v := 4) (by decide) (by decide) (ls' := [(0, _), (1, _)]) rfl rfl ?_
  refine n_goto hC dX9_init_131 (n := 110) (by decide) ?_
  refine n_iload_n hC 1 dX9_init_110 rfl rfl ?_
  refine n_iconst hC dX9_init_111 (v := 4) (by decide) rfl ?_
  refine n_icmp_ge hC dX9_init_112 (t := 134) (n := 115) (by decide) rfl (fun _ => ?_) (fun h112 => absurd (by decide) h112)
  refine n_iconst hC dX9_init_134 (v := 0) (by decide) rfl ?_
  refine n_istore_n hC dX9_init_135 (by decide) (ls' := [(0, _), (1, _)]) rfl rfl ?_
  refine n_iload_n hC 1 dX9_init_136 rfl rfl ?_
  refine n_bipush hC dX9_init_137 (v := 8) (by decide) rfl ?_
  refine n_icmp_ge hC dX9_init_139 (t := 161) (n := 142) (by decide) rfl (fun h139 => absurd h139 (by decide)) (fun _ => ?_)
  refine n_aload_n hC 0 dX9_init_142 rfl rfl ?_
  refine n_get hC 0 f_X9_21 dX9_init_143 rfl rfl rfl ?_
  refine n_iload_n hC 1 dX9_init_146 rfl rfl ?_
  refine n_new (ci := 4) (N := 6) (C := RX5) (T := TX5) (fs := [.null, .null, .int 0, .int 0, .int 0, .int 0]) hC dX9_init_147 rfl in_X5 tyX5 tyX5_ok cw_X9_9 ins_X5 ini_X5 nfs_X5 ⟨by decide, by decide⟩ (k' := (150, 2121)) rfl rfl (fun q147 => ?_)
  refine n_dup hC dX9_init_150 rfl rfl ?_
  refine n_callN hC (c_X5_init Γ.1) mi_X5_init ln_X9_52 dX9_init_151 (Nat.le_of_ble_eq_true rfl) ⟨⟨by decide, by decide⟩, by decide, by decide⟩ rfl (k' := (176, 2572)) rfl (fun w12 hw12 => ?_)
  refine n_aastX5 hC 3 dX9_init_154 rfl (n_inL (in_po_X5 hw12)) (q_inl (by decide)) (ws' := [(h, .inr (8, [.ref q6, .ref q14, .ref q23, .ref q32, .ref q38, .ref q49, .ref q60, .ref q72, .int 0])), (q6, .inl (Γ.1.2.2.1 3, 4, .inr (.inr (.inr (.inr (va_up (va_up (va_up (va_up (fun _ => none) 0 (some q94)) 1 (some q94_2)) 2 (some q94_3)) 3 (some q94_4))))))), (q14, .inl (Γ.1.2.2.1 4, 4, .inr (.inr (.inr (.inr (va_up (va_up (va_up (va_up (fun _ => none) 0 (some q120)) 1 (some q120_2)) 2 (some q120_3)) 3 (some q120_4))))))), (q23, .inl (Γ.1.2.2.1 3, 8, .inr (.inr (.inr (.inr (va_up (fun _ => none) 0 (some q147))))))), (q32, .inl (Γ.1.2.2.1 0, 24, .inl (fun _ => 0)))] ++ p12 ++ w12) rfl rfl ?_
  refine n_pack (fun p13 hp13 => ?_)
  refine n_iinc hC 1 dX9_init_155 rfl (v := 1) (by decide) (by decide) (ls' := [(0, _), (1, _)]) rfl rfl ?_
  refine n_goto hC dX9_init_158 (n := 136) (by decide) ?_
  refine n_iload_n hC 1 dX9_init_136 rfl rfl ?_
  refine n_bipush hC dX9_init_137 (v := 8) (by decide) rfl ?_
  refine n_icmp_ge hC dX9_init_139 (t := 161) (n := 142) (by decide) rfl (fun h139 => absurd h139 (by decide)) (fun _ => ?_)
  refine n_aload_n hC 0 dX9_init_142 rfl rfl ?_
  refine n_get hC 0 f_X9_21 dX9_init_143 rfl rfl rfl ?_
  refine n_iload_n hC 1 dX9_init_146 rfl rfl ?_
  refine n_new (ci := 4) (N := 6) (C := RX5) (T := TX5) (fs := [.null, .null, .int 0, .int 0, .int 0, .int 0]) hC dX9_init_147 rfl in_X5 tyX5 tyX5_ok cw_X9_9 ins_X5 ini_X5 nfs_X5 ⟨by decide, by decide⟩ (k' := (177, 2578)) rfl rfl (fun q147_2 => ?_)
  refine n_dup hC dX9_init_150 rfl rfl ?_
  refine n_callN hC (c_X5_init Γ.1) mi_X5_init ln_X9_52 dX9_init_151 (Nat.le_of_ble_eq_true rfl) ⟨⟨by decide, by decide⟩, by decide, by decide⟩ rfl (k' := (203, 3029)) rfl (fun w13 hw13 => ?_)
  refine n_aastX5 hC 3 dX9_init_154 rfl (n_inL (in_po_X5 hw13)) (q_inl (by decide)) (ws' := [(h, .inr (8, [.ref q6, .ref q14, .ref q23, .ref q32, .ref q38, .ref q49, .ref q60, .ref q72, .int 0])), (q6, .inl (Γ.1.2.2.1 3, 4, .inr (.inr (.inr (.inr (va_up (va_up (va_up (va_up (fun _ => none) 0 (some q94)) 1 (some q94_2)) 2 (some q94_3)) 3 (some q94_4))))))), (q14, .inl (Γ.1.2.2.1 4, 4, .inr (.inr (.inr (.inr (va_up (va_up (va_up (va_up (fun _ => none) 0 (some q120)) 1 (some q120_2)) 2 (some q120_3)) 3 (some q120_4))))))), (q23, .inl (Γ.1.2.2.1 3, 8, .inr (.inr (.inr (.inr (va_up (va_up (fun _ => none) 0 (some q147)) 1 (some q147_2))))))), (q32, .inl (Γ.1.2.2.1 0, 24, .inl (fun _ => 0)))] ++ p13 ++ w13) rfl rfl ?_
  refine n_pack (fun p14 hp14 => ?_)
  refine n_iinc hC 1 dX9_init_155 rfl (v := 2) (by decide) (by decide) (ls' := [(0, _), (1, _)]) rfl rfl ?_
  refine n_goto hC dX9_init_158 (n := 136) (by decide) ?_
  refine n_iload_n hC 1 dX9_init_136 rfl rfl ?_
  refine n_bipush hC dX9_init_137 (v := 8) (by decide) rfl ?_
  refine n_icmp_ge hC dX9_init_139 (t := 161) (n := 142) (by decide) rfl (fun h139 => absurd h139 (by decide)) (fun _ => ?_)
  refine n_aload_n hC 0 dX9_init_142 rfl rfl ?_
  refine n_get hC 0 f_X9_21 dX9_init_143 rfl rfl rfl ?_
  refine n_iload_n hC 1 dX9_init_146 rfl rfl ?_
  refine n_new (ci := 4) (N := 6) (C := RX5) (T := TX5) (fs := [.null, .null, .int 0, .int 0, .int 0, .int 0]) hC dX9_init_147 rfl in_X5 tyX5 tyX5_ok cw_X9_9 ins_X5 ini_X5 nfs_X5 ⟨by decide, by decide⟩ (k' := (204, 3035)) rfl rfl (fun q147_3 => ?_)
  refine n_dup hC dX9_init_150 rfl rfl ?_
  refine n_callN hC (c_X5_init Γ.1) mi_X5_init ln_X9_52 dX9_init_151 (Nat.le_of_ble_eq_true rfl) ⟨⟨by decide, by decide⟩, by decide, by decide⟩ rfl (k' := (230, 3486)) rfl (fun w14 hw14 => ?_)
  refine n_aastX5 hC 3 dX9_init_154 rfl (n_inL (in_po_X5 hw14)) (q_inl (by decide)) (ws' := [(h, .inr (8, [.ref q6, .ref q14, .ref q23, .ref q32, .ref q38, .ref q49, .ref q60, .ref q72, .int 0])), (q6, .inl (Γ.1.2.2.1 3, 4, .inr (.inr (.inr (.inr (va_up (va_up (va_up (va_up (fun _ => none) 0 (some q94)) 1 (some q94_2)) 2 (some q94_3)) 3 (some q94_4))))))), (q14, .inl (Γ.1.2.2.1 4, 4, .inr (.inr (.inr (.inr (va_up (va_up (va_up (va_up (fun _ => none) 0 (some q120)) 1 (some q120_2)) 2 (some q120_3)) 3 (some q120_4))))))), (q23, .inl (Γ.1.2.2.1 3, 8, .inr (.inr (.inr (.inr (va_up (va_up (va_up (fun _ => none) 0 (some q147)) 1 (some q147_2)) 2 (some q147_3))))))), (q32, .inl (Γ.1.2.2.1 0, 24, .inl (fun _ => 0)))] ++ p14 ++ w14) rfl rfl ?_
  refine n_pack (fun p15 hp15 => ?_)
  refine n_iinc hC 1 dX9_init_155 rfl (v := 3) (by decide) (by decide) (ls' := [(0, _), (1, _)]) rfl rfl ?_
  refine n_goto hC dX9_init_158 (n := 136) (by decide) ?_
  refine n_iload_n hC 1 dX9_init_136 rfl rfl ?_
  refine n_bipush hC dX9_init_137 (v := 8) (by decide) rfl ?_
  refine n_icmp_ge hC dX9_init_139 (t := 161) (n := 142) (by decide) rfl (fun h139 => absurd h139 (by decide)) (fun _ => ?_)
  refine n_aload_n hC 0 dX9_init_142 rfl rfl ?_
  refine n_get hC 0 f_X9_21 dX9_init_143 rfl rfl rfl ?_
  refine n_iload_n hC 1 dX9_init_146 rfl rfl ?_
  refine n_new (ci := 4) (N := 6) (C := RX5) (T := TX5) (fs := [.null, .null, .int 0, .int 0, .int 0, .int 0]) hC dX9_init_147 rfl in_X5 tyX5 tyX5_ok cw_X9_9 ins_X5 ini_X5 nfs_X5 ⟨by decide, by decide⟩ (k' := (231, 3492)) rfl rfl (fun q147_4 => ?_)
  refine n_dup hC dX9_init_150 rfl rfl ?_
  refine n_callN hC (c_X5_init Γ.1) mi_X5_init ln_X9_52 dX9_init_151 (Nat.le_of_ble_eq_true rfl) ⟨⟨by decide, by decide⟩, by decide, by decide⟩ rfl (k' := (257, 3943)) rfl (fun w15 hw15 => ?_)
  refine n_aastX5 hC 3 dX9_init_154 rfl (n_inL (in_po_X5 hw15)) (q_inl (by decide)) (ws' := [(h, .inr (8, [.ref q6, .ref q14, .ref q23, .ref q32, .ref q38, .ref q49, .ref q60, .ref q72, .int 0])), (q6, .inl (Γ.1.2.2.1 3, 4, .inr (.inr (.inr (.inr (va_up (va_up (va_up (va_up (fun _ => none) 0 (some q94)) 1 (some q94_2)) 2 (some q94_3)) 3 (some q94_4))))))), (q14, .inl (Γ.1.2.2.1 4, 4, .inr (.inr (.inr (.inr (va_up (va_up (va_up (va_up (fun _ => none) 0 (some q120)) 1 (some q120_2)) 2 (some q120_3)) 3 (some q120_4))))))), (q23, .inl (Γ.1.2.2.1 3, 8, .inr (.inr (.inr (.inr (va_up (va_up (va_up (va_up (fun _ => none) 0 (some q147)) 1 (some q147_2)) 2 (some q147_3)) 3 (some q147_4))))))), (q32, .inl (Γ.1.2.2.1 0, 24, .inl (fun _ => 0)))] ++ p15 ++ w15) rfl rfl ?_
  refine n_pack (fun p16 hp16 => ?_)
  refine n_iinc hC 1 dX9_init_155 rfl (v := 4) (by decide) (by decide) (ls' := [(0, _), (1, _)]) rfl rfl ?_
  refine n_goto hC dX9_init_158 (n := 136) (by decide) ?_
  refine n_iload_n hC 1 dX9_init_136 rfl rfl ?_
  refine n_bipush hC dX9_init_137 (v := 8) (by decide) rfl ?_
  refine n_icmp_ge hC dX9_init_139 (t := 161) (n := 142) (by decide) rfl (fun h139 => absurd h139 (by decide)) (fun _ => ?_)
  refine n_aload_n hC 0 dX9_init_142 rfl rfl ?_
  refine n_get hC 0 f_X9_21 dX9_init_143 rfl rfl rfl ?_
  refine n_iload_n hC 1 dX9_init_146 rfl rfl ?_
  refine n_new (ci := 4) (N := 6) (C := RX5) (T := TX5) (fs := [.null, .null, .int 0, .int 0, .int 0, .int 0]) hC dX9_init_147 rfl in_X5 tyX5 tyX5_ok cw_X9_9 ins_X5 ini_X5 nfs_X5 ⟨by decide, by decide⟩ (k' := (258, 3949)) rfl rfl (fun q147_5 => ?_)
  refine n_dup hC dX9_init_150 rfl rfl ?_
  refine n_callN hC (c_X5_init Γ.1) mi_X5_init ln_X9_52 dX9_init_151 (Nat.le_of_ble_eq_true rfl) ⟨⟨by decide, by decide⟩, by decide, by decide⟩ rfl (k' := (284, 4400)) rfl (fun w16 hw16 => ?_)
  refine n_aastX5 hC 3 dX9_init_154 rfl (n_inL (in_po_X5 hw16)) (q_inl (by decide)) (ws' := [(h, .inr (8, [.ref q6, .ref q14, .ref q23, .ref q32, .ref q38, .ref q49, .ref q60, .ref q72, .int 0])), (q6, .inl (Γ.1.2.2.1 3, 4, .inr (.inr (.inr (.inr (va_up (va_up (va_up (va_up (fun _ => none) 0 (some q94)) 1 (some q94_2)) 2 (some q94_3)) 3 (some q94_4))))))), (q14, .inl (Γ.1.2.2.1 4, 4, .inr (.inr (.inr (.inr (va_up (va_up (va_up (va_up (fun _ => none) 0 (some q120)) 1 (some q120_2)) 2 (some q120_3)) 3 (some q120_4))))))), (q23, .inl (Γ.1.2.2.1 3, 8, .inr (.inr (.inr (.inr (va_up (va_up (va_up (va_up (va_up (fun _ => none) 0 (some q147)) 1 (some q147_2)) 2 (some q147_3)) 3 (some q147_4)) 4 (some q147_5))))))), (q32, .inl (Γ.1.2.2.1 0, 24, .inl (fun _ => 0)))] ++ p16 ++ w16) rfl rfl ?_
  refine n_pack (fun p17 hp17 => ?_)
  refine n_iinc hC 1 dX9_init_155 rfl (v := 5) (by decide) (by decide) (ls' := [(0, _), (1, _)]) rfl rfl ?_
  refine n_goto hC dX9_init_158 (n := 136) (by decide) ?_
  refine n_iload_n hC 1 dX9_init_136 rfl rfl ?_
  refine n_bipush hC dX9_init_137 (v := 8) (by decide) rfl ?_
  refine n_icmp_ge hC dX9_init_139 (t := 161) (n := 142) (by decide) rfl (fun h139 => absurd h139 (by decide)) (fun _ => ?_)
  refine n_aload_n hC 0 dX9_init_142 rfl rfl ?_
  refine n_get hC 0 f_X9_21 dX9_init_143 rfl rfl rfl ?_
  refine n_iload_n hC 1 dX9_init_146 rfl rfl ?_
  refine n_new (ci := 4) (N := 6) (C := RX5) (T := TX5) (fs := [.null, .null, .int 0, .int 0, .int 0, .int 0]) hC dX9_init_147 rfl in_X5 tyX5 tyX5_ok cw_X9_9 ins_X5 ini_X5 nfs_X5 ⟨by decide, by decide⟩ (k' := (285, 4406)) rfl rfl (fun q147_6 => ?_)
  refine n_dup hC dX9_init_150 rfl rfl ?_
  refine n_callN hC (c_X5_init Γ.1) mi_X5_init ln_X9_52 dX9_init_151 (Nat.le_of_ble_eq_true rfl) ⟨⟨by decide, by decide⟩, by decide, by decide⟩ rfl (k' := (311, 4857)) rfl (fun w17 hw17 => ?_)
  refine n_aastX5 hC 3 dX9_init_154 rfl (n_inL (in_po_X5 hw17)) (q_inl (by decide)) (ws' := [(h, .inr (8, [.ref q6, .ref q14, .ref q23, .ref q32, .ref q38, .ref q49, .ref q60, .ref q72, .int 0])), (q6, .inl (Γ.1.2.2.1 3, 4, .inr (.inr (.inr (.inr (va_up (va_up (va_up (va_up (fun _ => none) 0 (some q94)) 1 (some q94_2)) 2 (some q94_3)) 3 (some q94_4))))))), (q14, .inl (Γ.1.2.2.1 4, 4, .inr (.inr (.inr (.inr (va_up (va_up (va_up (va_up (fun _ => none) 0 (some q120)) 1 (some q120_2)) 2 (some q120_3)) 3 (some q120_4))))))), (q23, .inl (Γ.1.2.2.1 3, 8, .inr (.inr (.inr (.inr (va_up (va_up (va_up (va_up (va_up (va_up (fun _ => none) 0 (some q147)) 1 (some q147_2)) 2 (some q147_3)) 3 (some q147_4)) 4 (some q147_5)) 5 (some q147_6))))))), (q32, .inl (Γ.1.2.2.1 0, 24, .inl (fun _ => 0)))] ++ p17 ++ w17) rfl rfl ?_
  refine n_pack (fun p18 hp18 => ?_)
  refine n_iinc hC 1 dX9_init_155 rfl (v := 6) (by decide) (by decide) (ls' := [(0, _), (1, _)]) rfl rfl ?_
  refine n_goto hC dX9_init_158 (n := 136) (by decide) ?_
  refine n_iload_n hC 1 dX9_init_136 rfl rfl ?_
  refine n_bipush hC dX9_init_137 (v := 8) (by decide) rfl ?_
  refine n_icmp_ge hC dX9_init_139 (t := 161) (n := 142) (by decide) rfl (fun h139 => absurd h139 (by decide)) (fun _ => ?_)
  refine n_aload_n hC 0 dX9_init_142 rfl rfl ?_
  refine n_get hC 0 f_X9_21 dX9_init_143 rfl rfl rfl ?_
  refine n_iload_n hC 1 dX9_init_146 rfl rfl ?_
  refine n_new (ci := 4) (N := 6) (C := RX5) (T := TX5) (fs := [.null, .null, .int 0, .int 0, .int 0, .int 0]) hC dX9_init_147 rfl in_X5 tyX5 tyX5_ok cw_X9_9 ins_X5 ini_X5 nfs_X5 ⟨by decide, by decide⟩ (k' := (312, 4863)) rfl rfl (fun q147_7 => ?_)
  refine n_dup hC dX9_init_150 rfl rfl ?_
  refine n_callN hC (c_X5_init Γ.1) mi_X5_init ln_X9_52 dX9_init_151 (Nat.le_of_ble_eq_true rfl) ⟨⟨by decide, by decide⟩, by decide, by decide⟩ rfl (k' := (338, 5314)) rfl (fun w18 hw18 => ?_)
  refine n_aastX5 hC 3 dX9_init_154 rfl (n_inL (in_po_X5 hw18)) (q_inl (by decide)) (ws' := [(h, .inr (8, [.ref q6, .ref q14, .ref q23, .ref q32, .ref q38, .ref q49, .ref q60, .ref q72, .int 0])), (q6, .inl (Γ.1.2.2.1 3, 4, .inr (.inr (.inr (.inr (va_up (va_up (va_up (va_up (fun _ => none) 0 (some q94)) 1 (some q94_2)) 2 (some q94_3)) 3 (some q94_4))))))), (q14, .inl (Γ.1.2.2.1 4, 4, .inr (.inr (.inr (.inr (va_up (va_up (va_up (va_up (fun _ => none) 0 (some q120)) 1 (some q120_2)) 2 (some q120_3)) 3 (some q120_4))))))), (q23, .inl (Γ.1.2.2.1 3, 8, .inr (.inr (.inr (.inr (va_up (va_up (va_up (va_up (va_up (va_up (va_up (fun _ => none) 0 (some q147)) 1 (some q147_2)) 2 (some q147_3)) 3 (some q147_4)) 4 (some q147_5)) 5 (some q147_6)) 6 (some q147_7))))))), (q32, .inl (Γ.1.2.2.1 0, 24, .inl (fun _ => 0)))] ++ p18 ++ w18) rfl rfl ?_
  refine n_pack (fun p19 hp19 => ?_)
  refine n_iinc hC 1 dX9_init_155 rfl (v := 7) (by decide) (by decide) (ls' := [(0, _), (1, _)]) rfl rfl ?_
  refine n_goto hC dX9_init_158 (n := 136) (by decide) ?_
  refine n_iload_n hC 1 dX9_init_136 rfl rfl ?_
  refine n_bipush hC dX9_init_137 (v := 8) (by decide) rfl ?_
  refine n_icmp_ge hC dX9_init_139 (t := 161) (n := 142) (by decide) rfl (fun h139 => absurd h139 (by decide)) (fun _ => ?_)
  refine n_aload_n hC 0 dX9_init_142 rfl rfl ?_
  refine n_get hC 0 f_X9_21 dX9_init_143 rfl rfl rfl ?_
  refine n_iload_n hC 1 dX9_init_146 rfl rfl ?_
  refine n_new (ci := 4) (N := 6) (C := RX5) (T := TX5) (fs := [.null, .null, .int 0, .int 0, .int 0, .int 0]) hC dX9_init_147 rfl in_X5 tyX5 tyX5_ok cw_X9_9 ins_X5 ini_X5 nfs_X5 ⟨by decide, by decide⟩ (k' := (339, 5320)) rfl rfl (fun q147_8 => ?_)
  refine n_dup hC dX9_init_150 rfl rfl ?_
  refine n_callN hC (c_X5_init Γ.1) mi_X5_init ln_X9_52 dX9_init_151 (Nat.le_of_ble_eq_true rfl) ⟨⟨by decide, by decide⟩, by decide, by decide⟩ rfl (k' := (365, 5771)) rfl (fun w19 hw19 => ?_)
  refine n_aastX5 hC 3 dX9_init_154 rfl (n_inL (in_po_X5 hw19)) (q_inl (by decide)) (ws' := [(h, .inr (8, [.ref q6, .ref q14, .ref q23, .ref q32, .ref q38, .ref q49, .ref q60, .ref q72, .int 0])), (q6, .inl (Γ.1.2.2.1 3, 4, .inr (.inr (.inr (.inr (va_up (va_up (va_up (va_up (fun _ => none) 0 (some q94)) 1 (some q94_2)) 2 (some q94_3)) 3 (some q94_4))))))), (q14, .inl (Γ.1.2.2.1 4, 4, .inr (.inr (.inr (.inr (va_up (va_up (va_up (va_up (fun _ => none) 0 (some q120)) 1 (some q120_2)) 2 (some q120_3)) 3 (some q120_4))))))), (q23, .inl (Γ.1.2.2.1 3, 8, .inr (.inr (.inr (.inr (va_up (va_up (va_up (va_up (va_up (va_up (va_up (va_up (fun _ => none) 0 (some q147)) 1 (some q147_2)) 2 (some q147_3)) 3 (some q147_4)) 4 (some q147_5)) 5 (some q147_6)) 6 (some q147_7)) 7 (some q147_8))))))), (q32, .inl (Γ.1.2.2.1 0, 24, .inl (fun _ => 0)))] ++ p19 ++ w19) rfl rfl ?_
  refine n_pack (fun p20 hp20 => ?_)
  refine n_iinc hC 1 dX9_init_155 rfl (v := 8) (by decide) (by decide) (ls' := [(0, _), (1, _)]) rfl rfl ?_
  refine n_goto hC dX9_init_158 (n := 136) (by decide) ?_
  refine n_iload_n hC 1 dX9_init_136 rfl rfl ?_
  refine n_bipush hC dX9_init_137 (v := 8) (by decide) rfl ?_
  refine n_icmp_ge hC dX9_init_139 (t := 161) (n := 142) (by decide) rfl (fun _ => ?_) (fun h139 => absurd (by decide) h139)
  refine n_vret hC dX9_init_161 ⟨by decide, by decide⟩ ?_
  subst hp2 hp3 hp4 hp5 hp6 hp7 hp8 hp9 hp10 hp11 hp12 hp13 hp14 hp15 hp16 hp17 hp18 hp19 hp20
  exact ⟨q6, q14, q23, q32, q38, q49, q60, q94, q94_2, q94_3, q94_4, q120, q120_2, q120_3, q120_4, q147, q147_2, q147_3, q147_4, q147_5, q147_6, q147_7, q147_8, q72, w1, w2, w3, w4, w5, w6, w7, w8, w9, w10, w11, w12, w13, w14, w15, w16, w17, w18, w19, hw1, hw2, hw3, hw4, hw5, hw6, hw7, hw8, hw9, hw10, hw11, hw12, hw13, hw14, hw15, hw16, hw17, hw18, hw19, rfl⟩
