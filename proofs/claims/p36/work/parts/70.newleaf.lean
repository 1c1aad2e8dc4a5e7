-- printed by wip/p36/gen_n2.py
theorem n_fill {f : Nat → Int32} {m : Nat} {v c : Int32} (h : ∀ j, j < m → f j = c) (hv : v = c) (hm : m < 2 ^ 31) : ∀ j, j < m + 1 → upd f (nI m).toNatClampNeg v j = c := by
  intro j hj
  rw [nI_clamp hm]
  by_cases e : j = m
  · subst e; simp only [upd, if_true]; exact hv
  · simp only [upd, if_neg e]; exact h j (by omega)
section NSTAT
variable {Γ : qG} {A : Nat → Prop} {cc : ByteArray} {own : String} {nL : Nat} {R : Room} {po : va_W → Prop} {pc n idx : Nat} {ls : List (Nat × Value)} {st : List Value} {ws : va_W} {k : Nat × Nat}
theorem n_gkN (hC : nC Γ A cc own nL R po) {host : String} (hlk : Cond.fieldLinkNest own idx RX9 "KINDS" "[C" host ∈ q_nest) (hd : decode cc pc = .ok (.getstatic idx, 3)) (hn : pc + 3 = n) (kk : nV Γ A R nL n ls (.ref (q_o Γ).2.1 :: st) ws k) : nV Γ A R nL pc ls st ws k := by
  obtain ⟨⟨l, D, cy, ad, o⟩, ⟨p, e, s⟩, ⟨m, args, below, meth, c⟩, Q⟩ := Γ
  subst hn
  obtain ⟨h1, h2, h3, h4, h5, h6, h7, h8, h9, h10, h11, h12, h13, h14⟩ := hC
  exact fun H locs la hP hD hS hl => va_getsN h1 h2 h11.1 hS h4 (va_Nw.use rfl (h10.1 _ hlk)) (fun _ h => h) hd (kk H locs la hP hD hS hl)
theorem n_klen (hC : nC Γ A cc own nL R po) (hd : decode cc pc = .ok (.arraylength, 1)) (hn : pc + 1 = n) (kk : nV Γ A R nL n ls (.int 9 :: st) ws k) : nV Γ A R nL pc ls (.ref (q_o Γ).2.1 :: st) ws k := by
  obtain ⟨⟨l, D, cy, ad, o⟩, ⟨p, e, s⟩, ⟨m, args, below, meth, c⟩, Q⟩ := Γ
  subst hn
  obtain ⟨h1, h2, h3, h4, h5, h6, h7, h8, h9, h10, h11, h12, h13, h14⟩ := hC
  exact fun H locs la hP hD hS hl => va_tlen h1 h2 h11.2 hS rfl hd (kk H locs la hP hD hS hl)
end NSTAT
theorem nfs_X0 : ∀ j, j < 6 → defaultValue (tyX0 j) = vp_V [.null, .int 0, .null, .null, .null, .null] j := by
  intro j hj
  rcases (by omega : j = 0 ∨ j = 1 ∨ j = 2 ∨ j = 3 ∨ j = 4 ∨ j = 5) with rfl | rfl | rfl | rfl | rfl | rfl <;> rfl
theorem nfs_X2 : ∀ j, j < 9 → defaultValue (tyX2 j) = vp_V [.null, .null, .null, .null, .null, .null, .null, .null, .null] j := by
  intro j hj
  rcases (by omega : j = 0 ∨ j = 1 ∨ j = 2 ∨ j = 3 ∨ j = 4 ∨ j = 5 ∨ j = 6 ∨ j = 7 ∨ j = 8) with rfl | rfl | rfl | rfl | rfl | rfl | rfl | rfl | rfl <;> rfl
theorem nfs_X3 : ∀ j, j < 14 → defaultValue (tyX3 j) = vp_V [.int 0, .int 0, .null, .null, .null, .null, .null, .null, .null, .null, .int 0, .int 0, .int 0, .null] j := by
  intro j hj
  rcases (by omega : j = 0 ∨ j = 1 ∨ j = 2 ∨ j = 3 ∨ j = 4 ∨ j = 5 ∨ j = 6 ∨ j = 7 ∨ j = 8 ∨ j = 9 ∨ j = 10 ∨ j = 11 ∨ j = 12 ∨ j = 13) with rfl | rfl | rfl | rfl | rfl | rfl | rfl | rfl | rfl | rfl | rfl | rfl | rfl | rfl <;> rfl
theorem nfs_X4 : ∀ j, j < 5 → defaultValue (tyX4 j) = vp_V [.null, .null, .null, .null, .int 0] j := by
  intro j hj
  rcases (by omega : j = 0 ∨ j = 1 ∨ j = 2 ∨ j = 3 ∨ j = 4) with rfl | rfl | rfl | rfl | rfl <;> rfl
theorem nfs_X5 : ∀ j, j < 6 → defaultValue (tyX5 j) = vp_V [.null, .null, .int 0, .int 0, .int 0, .int 0] j := by
  intro j hj
  rcases (by omega : j = 0 ∨ j = 1 ∨ j = 2 ∨ j = 3 ∨ j = 4 ∨ j = 5) with rfl | rfl | rfl | rfl | rfl | rfl <;> rfl
theorem nfs_X6 : ∀ j, j < 3 → defaultValue (tyX6 j) = vp_V [.null, .null, .null] j := by
  intro j hj
  rcases (by omega : j = 0 ∨ j = 1 ∨ j = 2) with rfl | rfl | rfl <;> rfl
theorem nfs_X7 : ∀ j, j < 4 → defaultValue (tyX7 j) = vp_V [.int 0, .int 0, .int 0, .int 0] j := by
  intro j hj
  rcases (by omega : j = 0 ∨ j = 1 ∨ j = 2 ∨ j = 3) with rfl | rfl | rfl | rfl <;> rfl
theorem nfs_X8 : ∀ j, j < 4 → defaultValue (tyX8 j) = vp_V [.int 0, .int 0, .int 0, .null] j := by
  intro j hj
  rcases (by omega : j = 0 ∨ j = 1 ∨ j = 2 ∨ j = 3) with rfl | rfl | rfl | rfl <;> rfl
theorem nfs_X9 : ∀ j, j < 9 → defaultValue (tyX9 j) = vp_V [.null, .null, .null, .null, .null, .null, .null, .null, .int 0] j := by
  intro j hj
  rcases (by omega : j = 0 ∨ j = 1 ∨ j = 2 ∨ j = 3 ∨ j = 4 ∨ j = 5 ∨ j = 6 ∨ j = 7 ∨ j = 8) with rfl | rfl | rfl | rfl | rfl | rfl | rfl | rfl | rfl <;> rfl
abbrev rm_X7_init : Room := { frames := 1, cells := 0, slots := 0, locals := 20 }
def po_X7 (cy : Nat → ClassId) (h : Nat) (ws : va_W) : Prop := ws = [(h, .inr (6, [.int 0, .int (-1), .int 0, .int (-1)]))]
set_option maxHeartbeats 4000000 in
set_option maxRecDepth 100000 in
theorem c_X7_init (L : qL) : nCT L yX7_init cX7_init 1 rm_X7_init (.inr (6, [.int 0, .int 0, .int 0, .int 0])) (po_X7 L.2.2.1) := by
  refine n_met (by decide) rfl (by decide) (fun Γ A h hΓ hC => ?_)
  subst hΓ
  refine n_aload_n hC 0 dX7_init_0 rfl rfl ?_
  refine n_obj hC dX7_init_1 ol_X7 oi_i oi_c (Nat.le_of_ble_eq_true rfl) ⟨by decide, by decide⟩ rfl ?_
  refine n_aload_n hC 0 dX7_init_4 rfl rfl ?_
  refine n_iconst hC dX7_init_5 (v := 0) (by decide) rfl ?_
  refine n_putN hC 0 np_X7_9 dX7_init_6 rfl (Nat.le_of_ble_eq_true rfl) rfl rfl (ws' := [(h, .inr (6, [.int 0, .int 0, .int 0, .int 0]))]) rfl rfl ?_
  refine n_aload_n hC 0 dX7_init_9 rfl rfl ?_
  refine n_iconst hC dX7_init_10 (v := (-1)) (by decide) rfl ?_
  refine n_putN hC 0 np_X7_15 dX7_init_11 rfl (Nat.le_of_ble_eq_true rfl) rfl rfl (ws' := [(h, .inr (6, [.int 0, .int (-1), .int 0, .int 0]))]) rfl rfl ?_
  refine n_aload_n hC 0 dX7_init_14 rfl rfl ?_
  refine n_iconst hC dX7_init_15 (v := 0) (by decide) rfl ?_
  refine n_putN hC 0 np_X7_19 dX7_init_16 rfl (Nat.le_of_ble_eq_true rfl) rfl rfl (ws' := [(h, .inr (6, [.int 0, .int (-1), .int 0, .int 0]))]) rfl rfl ?_
  refine n_aload_n hC 0 dX7_init_19 rfl rfl ?_
  refine n_iconst hC dX7_init_20 (v := (-1)) (by decide) rfl ?_
  refine n_putN hC 0 np_X7_22 dX7_init_21 rfl (Nat.le_of_ble_eq_true rfl) rfl rfl (ws' := [(h, .inr (6, [.int 0, .int (-1), .int 0, .int (-1)]))]) rfl rfl ?_
  refine n_vret hC dX7_init_24 ⟨by decide, by decide⟩ ?_
  exact rfl
abbrev rm_X8_init : Room := { frames := 1, cells := 1, slots := 8, locals := 20 }
def po_X8 (cy : Nat → ClassId) (h : Nat) (ws : va_W) : Prop := ∃ q23 : Nat, ws = [(h, .inr (7, [.int 0, .int 0, .int 45, .ref q23])), (q23, .inl (cy 0, 8, .inl (fun _ => 0)))]
set_option maxHeartbeats 4000000 in
set_option maxRecDepth 100000 in
theorem c_X8_init (L : qL) : nCT L yX8_init cX8_init 1 rm_X8_init (.inr (7, [.int 0, .int 0, .int 0, .null])) (po_X8 L.2.2.1) := by
  refine n_met (by decide) rfl (by decide) (fun Γ A h hΓ hC => ?_)
  subst hΓ
  refine n_aload_n hC 0 dX8_init_0 rfl rfl ?_
  refine n_obj hC dX8_init_1 ol_X8 oi_i oi_c (Nat.le_of_ble_eq_true rfl) ⟨by decide, by decide⟩ rfl ?_
  refine n_aload_n hC 0 dX8_init_4 rfl rfl ?_
  refine n_iconst hC dX8_init_5 (v := 0) (by decide) rfl ?_
  refine n_putN hC 0 np_X8_9 dX8_init_6 rfl (Nat.le_of_ble_eq_true rfl) rfl rfl (ws' := [(h, .inr (7, [.int 0, .int 0, .int 0, .null]))]) rfl rfl ?_
  refine n_aload_n hC 0 dX8_init_9 rfl rfl ?_
  refine n_iconst hC dX8_init_10 (v := 0) (by decide) rfl ?_
  refine n_putN hC 0 np_X8_15 dX8_init_11 rfl (Nat.le_of_ble_eq_true rfl) rfl rfl (ws' := [(h, .inr (7, [.int 0, .int 0, .int 0, .null]))]) rfl rfl ?_
  refine n_aload_n hC 0 dX8_init_14 rfl rfl ?_
  refine n_bipush hC dX8_init_15 (v := 45) (by decide) rfl ?_
  refine n_putN hC 0 np_X8_19 dX8_init_17 rfl (Nat.le_of_ble_eq_true rfl) rfl rfl (ws' := [(h, .inr (7, [.int 0, .int 0, .int 45, .null]))]) rfl rfl ?_
  refine n_aload_n hC 0 dX8_init_20 rfl rfl ?_
  refine n_bipush hC dX8_init_21 (v := 8) (by decide) rfl ?_
  refine n_newI (N := 8) hC dX8_init_23 ac_int (by decide) (by decide) (by decide) ⟨by decide, by decide⟩ (k' := (1, 8)) rfl rfl (fun q23 => ?_)
  refine n_putF hC 0 np_X8_23 dX8_init_25 rfl (Nat.le_of_ble_eq_true rfl) rfl rfl (ws' := [(h, .inr (7, [.int 0, .int 0, .int 45, .ref q23])), (q23, .inl (Γ.1.2.2.1 0, 8, .inl (fun _ => 0)))]) rfl rfl ?_
  refine n_vret hC dX8_init_28 ⟨by decide, by decide⟩ ?_
  exact ⟨q23, rfl⟩
abbrev rm_X3_init : Room := { frames := 1, cells := 9, slots := 207, locals := 20 }
def po_X3 (cy : Nat → ClassId) (h : Nat) (ws : va_W) : Prop := ∃ q7 q15 q23 q31 q39 q47 q55 q63 q73 : Nat, ws = [(h, .inr (2, [.int 0, .int 0, .ref q7, .ref q15, .ref q23, .ref q31, .ref q39, .ref q47, .ref q55, .ref q63, .int 0, .int 0, .int 0, .ref q73])), (q7, .inl (cy 0, 6, .inl (fun _ => 0))), (q15, .inl (cy 0, 36, .inl (fun _ => 0))), (q23, .inl (cy 0, 36, .inl (fun _ => 0))), (q31, .inl (cy 0, 6, .inl (fun _ => 0))), (q39, .inl (cy 0, 6, .inl (fun _ => 0))), (q47, .inl (cy 0, 36, .inl (fun _ => 0))), (q55, .inl (cy 0, 36, .inl (fun _ => 0))), (q63, .inl (cy 0, 36, .inl (fun _ => 0))), (q73, .inl (cy 0, 9, .inl (fun _ => 0)))]
set_option maxHeartbeats 4000000 in
set_option maxRecDepth 100000 in
theorem c_X3_init (L : qL) : nCT L yX3_init cX3_init 1 rm_X3_init (.inr (2, [.int 0, .int 0, .null, .null, .null, .null, .null, .null, .null, .null, .int 0, .int 0, .int 0, .null])) (po_X3 L.2.2.1) := by
  refine n_met (by decide) rfl (by decide) (fun Γ A h hΓ hC => ?_)
  subst hΓ
  refine n_aload_n hC 0 dX3_init_0 rfl rfl ?_
  refine n_obj hC dX3_init_1 ol_X3 oi_i oi_c (Nat.le_of_ble_eq_true rfl) ⟨by decide, by decide⟩ rfl ?_
  refine n_aload_n hC 0 dX3_init_4 rfl rfl ?_
  refine n_bipush hC dX3_init_5 (v := 6) (by decide) rfl ?_
  refine n_newI (N := 6) hC dX3_init_7 ac_int (by decide) (by decide) (by decide) ⟨by decide, by decide⟩ (k' := (1, 6)) rfl rfl (fun q7 => ?_)
  refine n_putF hC 0 np_X3_9 dX3_init_9 rfl (Nat.le_of_ble_eq_true rfl) rfl rfl (ws' := [(h, .inr (2, [.int 0, .int 0, .ref q7, .null, .null, .null, .null, .null, .null, .null, .int 0, .int 0, .int 0, .null])), (q7, .inl (Γ.1.2.2.1 0, 6, .inl (fun _ => 0)))]) rfl rfl ?_
  refine n_aload_n hC 0 dX3_init_12 rfl rfl ?_
  refine n_bipush hC dX3_init_13 (v := 36) (by decide) rfl ?_
  refine n_newI (N := 36) hC dX3_init_15 ac_int (by decide) (by decide) (by decide) ⟨by decide, by decide⟩ (k' := (2, 42)) rfl rfl (fun q15 => ?_)
  refine n_putF hC 0 np_X3_15 dX3_init_17 rfl (Nat.le_of_ble_eq_true rfl) rfl rfl (ws' := [(h, .inr (2, [.int 0, .int 0, .ref q7, .ref q15, .null, .null, .null, .null, .null, .null, .int 0, .int 0, .int 0, .null])), (q7, .inl (Γ.1.2.2.1 0, 6, .inl (fun _ => 0))), (q15, .inl (Γ.1.2.2.1 0, 36, .inl (fun _ => 0)))]) rfl rfl ?_
  refine n_aload_n hC 0 dX3_init_20 rfl rfl ?_
  refine n_bipush hC dX3_init_21 (v := 36) (by decide) rfl ?_
  refine n_newI (N := 36) hC dX3_init_23 ac_int (by decide) (by decide) (by decide) ⟨by decide, by decide⟩ (k' := (3, 78)) rfl rfl (fun q23 => ?_)
  refine n_putF hC 0 np_X3_18 dX3_init_25 rfl (Nat.le_of_ble_eq_true rfl) rfl rfl (ws' := [(h, .inr (2, [.int 0, .int 0, .ref q7, .ref q15, .ref q23, .null, .null, .null, .null, .null, .int 0, .int 0, .int 0, .null])), (q7, .inl (Γ.1.2.2.1 0, 6, .inl (fun _ => 0))), (q15, .inl (Γ.1.2.2.1 0, 36, .inl (fun _ => 0))), (q23, .inl (Γ.1.2.2.1 0, 36, .inl (fun _ => 0)))]) rfl rfl ?_
  refine n_aload_n hC 0 dX3_init_28 rfl rfl ?_
  refine n_bipush hC dX3_init_29 (v := 6) (by decide) rfl ?_
  refine n_newI (N := 6) hC dX3_init_31 ac_int (by decide) (by decide) (by decide) ⟨by decide, by decide⟩ (k' := (4, 84)) rfl rfl (fun q31 => ?_)
  refine n_putF hC 0 np_X3_21 dX3_init_33 rfl (Nat.le_of_ble_eq_true rfl) rfl rfl (ws' := [(h, .inr (2, [.int 0, .int 0, .ref q7, .ref q15, .ref q23, .ref q31, .null, .null, .null, .null, .int 0, .int 0, .int 0, .null])), (q7, .inl (Γ.1.2.2.1 0, 6, .inl (fun _ => 0))), (q15, .inl (Γ.1.2.2.1 0, 36, .inl (fun _ => 0))), (q23, .inl (Γ.1.2.2.1 0, 36, .inl (fun _ => 0))), (q31, .inl (Γ.1.2.2.1 0, 6, .inl (fun _ => 0)))]) rfl rfl ?_
  refine n_aload_n hC 0 dX3_init_36 rfl rfl ?_
  refine n_bipush hC dX3_init_37 (v := 6) (by decide) rfl ?_
  refine n_newI (N := 6) hC dX3_init_39 ac_int (by decide) (by decide) (by decide) ⟨by decide, by decide⟩ (k' := (5, 90)) rfl rfl (fun q39 => ?_)
  refine n_putF hC 0 np_X3_24 dX3_init_41 rfl (Nat.le_of_ble_eq_true rfl) rfl rfl (ws' := [(h, .inr (2, [.int 0, .int 0, .ref q7, .ref q15, .ref q23, .ref q31, .ref q39, .null, .null, .null, .int 0, .int 0, .int 0, .null])), (q7, .inl (Γ.1.2.2.1 0, 6, .inl (fun _ => 0))), (q15, .inl (Γ.1.2.2.1 0, 36, .inl (fun _ => 0))), (q23, .inl (Γ.1.2.2.1 0, 36, .inl (fun _ => 0))), (q31, .inl (Γ.1.2.2.1 0, 6, .inl (fun _ => 0))), (q39, .inl (Γ.1.2.2.1 0, 6, .inl (fun _ => 0)))]) rfl rfl ?_
  refine n_aload_n hC 0 dX3_init_44 rfl rfl ?_
  refine n_bipush hC dX3_init_45 (v := 36) (by decide) rfl ?_
  refine n_newI (N := 36) hC dX3_init_47 ac_int (by decide) (by decide) (by decide) ⟨by decide, by decide⟩ (k' := (6, 126)) rfl rfl (fun q47 => ?_)
  refine n_putF hC 0 np_X3_27 dX3_init_49 rfl (Nat.le_of_ble_eq_true rfl) rfl rfl (ws' := [(h, .inr (2, [.int 0, .int 0, .ref q7, .ref q15, .ref q23, .ref q31, .ref q39, .ref q47, .null, .null, .int 0, .int 0, .int 0, .null])), (q7, .inl (Γ.1.2.2.1 0, 6, .inl (fun _ => 0))), (q15, .inl (Γ.1.2.2.1 0, 36, .inl (fun _ => 0))), (q23, .inl (Γ.1.2.2.1 0, 36, .inl (fun _ => 0))), (q31, .inl (Γ.1.2.2.1 0, 6, .inl (fun _ => 0))), (q39, .inl (Γ.1.2.2.1 0, 6, .inl (fun _ => 0))), (q47, .inl (Γ.1.2.2.1 0, 36, .inl (fun _ => 0)))]) rfl rfl ?_
  refine n_aload_n hC 0 dX3_init_52 rfl rfl ?_
  refine n_bipush hC dX3_init_53 (v := 36) (by decide) rfl ?_
  refine n_newI (N := 36) hC dX3_init_55 ac_int (by decide) (by decide) (by decide) ⟨by decide, by decide⟩ (k' := (7, 162)) rfl rfl (fun q55 => ?_)
  refine n_putF hC 0 np_X3_30 dX3_init_57 rfl (Nat.le_of_ble_eq_true rfl) rfl rfl (ws' := [(h, .inr (2, [.int 0, .int 0, .ref q7, .ref q15, .ref q23, .ref q31, .ref q39, .ref q47, .ref q55, .null, .int 0, .int 0, .int 0, .null])), (q7, .inl (Γ.1.2.2.1 0, 6, .inl (fun _ => 0))), (q15, .inl (Γ.1.2.2.1 0, 36, .inl (fun _ => 0))), (q23, .inl (Γ.1.2.2.1 0, 36, .inl (fun _ => 0))), (q31, .inl (Γ.1.2.2.1 0, 6, .inl (fun _ => 0))), (q39, .inl (Γ.1.2.2.1 0, 6, .inl (fun _ => 0))), (q47, .inl (Γ.1.2.2.1 0, 36, .inl (fun _ => 0))), (q55, .inl (Γ.1.2.2.1 0, 36, .inl (fun _ => 0)))]) rfl rfl ?_
  refine n_aload_n hC 0 dX3_init_60 rfl rfl ?_
  refine n_bipush hC dX3_init_61 (v := 36) (by decide) rfl ?_
  refine n_newI (N := 36) hC dX3_init_63 ac_int (by decide) (by decide) (by decide) ⟨by decide, by decide⟩ (k' := (8, 198)) rfl rfl (fun q63 => ?_)
  refine n_putF hC 0 np_X3_33 dX3_init_65 rfl (Nat.le_of_ble_eq_true rfl) rfl rfl (ws' := [(h, .inr (2, [.int 0, .int 0, .ref q7, .ref q15, .ref q23, .ref q31, .ref q39, .ref q47, .ref q55, .ref q63, .int 0, .int 0, .int 0, .null])), (q7, .inl (Γ.1.2.2.1 0, 6, .inl (fun _ => 0))), (q15, .inl (Γ.1.2.2.1 0, 36, .inl (fun _ => 0))), (q23, .inl (Γ.1.2.2.1 0, 36, .inl (fun _ => 0))), (q31, .inl (Γ.1.2.2.1 0, 6, .inl (fun _ => 0))), (q39, .inl (Γ.1.2.2.1 0, 6, .inl (fun _ => 0))), (q47, .inl (Γ.1.2.2.1 0, 36, .inl (fun _ => 0))), (q55, .inl (Γ.1.2.2.1 0, 36, .inl (fun _ => 0))), (q63, .inl (Γ.1.2.2.1 0, 36, .inl (fun _ => 0)))]) rfl rfl ?_
  refine n_aload_n hC 0 dX3_init_68 rfl rfl ?_
  refine n_gkN hC fn_X3_36 dX3_init_69 rfl ?_
  refine n_klen hC dX3_init_72 rfl ?_
  refine n_newI (N := 9) hC dX3_init_73 ac_int (by decide) (by decide) (by decide) ⟨by decide, by decide⟩ (k' := (9, 207)) rfl rfl (fun q73 => ?_)
  refine n_putF hC 0 np_X3_40 dX3_init_75 rfl (Nat.le_of_ble_eq_true rfl) rfl rfl (ws' := [(h, .inr (2, [.int 0, .int 0, .ref q7, .ref q15, .ref q23, .ref q31, .ref q39, .ref q47, .ref q55, .ref q63, .int 0, .int 0, .int 0, .ref q73])), (q7, .inl (Γ.1.2.2.1 0, 6, .inl (fun _ => 0))), (q15, .inl (Γ.1.2.2.1 0, 36, .inl (fun _ => 0))), (q23, .inl (Γ.1.2.2.1 0, 36, .inl (fun _ => 0))), (q31, .inl (Γ.1.2.2.1 0, 6, .inl (fun _ => 0))), (q39, .inl (Γ.1.2.2.1 0, 6, .inl (fun _ => 0))), (q47, .inl (Γ.1.2.2.1 0, 36, .inl (fun _ => 0))), (q55, .inl (Γ.1.2.2.1 0, 36, .inl (fun _ => 0))), (q63, .inl (Γ.1.2.2.1 0, 36, .inl (fun _ => 0))), (q73, .inl (Γ.1.2.2.1 0, 9, .inl (fun _ => 0)))]) rfl rfl ?_
  refine n_vret hC dX3_init_78 ⟨by decide, by decide⟩ ?_
  exact ⟨q7, q15, q23, q31, q39, q47, q55, q63, q73, rfl⟩
abbrev rm_X6_init : Room := { frames := 1, cells := 3, slots := 90, locals := 20 }
def po_X6 (cy : Nat → ClassId) (h : Nat) (ws : va_W) : Prop := ∃ (q7 q15 q23 : Nat) (f g : Nat → Int32), (∀ j, j < 30 → f j = 45) ∧ (∀ j, j < 30 → g j = 45) ∧ ws = [(h, .inr (5, [.ref q7, .ref q15, .ref q23])), (q7, .inl (cy 1, 30, .inl f)), (q15, .inl (cy 1, 30, .inl g)), (q23, .inl (cy 0, 30, .inl (fun _ => 0)))]
set_option maxHeartbeats 4000000 in
set_option maxRecDepth 100000 in
theorem c_X6_init (L : qL) : nCT L yX6_init cX6_init 2 rm_X6_init (.inr (5, [.null, .null, .null])) (po_X6 L.2.2.1) := by
  refine n_met (by decide) rfl (by decide) (fun Γ A h hΓ hC => ?_)
  subst hΓ
  have L1 : ∀ (q7 q15 q23 : Nat) (n m : Nat) (f g : Nat → Int32), m + n = 30 → (∀ j, j < m → f j = 45) → (∀ j, j < m → g j = 45) → nV Γ A rm_X6_init 2 30 [(0, .ref h), (1, .int (nI m))] [] ([(h, .inr (5, [.ref q7, .ref q15, .ref q23])), (q7, .inl (Γ.1.2.2.1 1, 30, .inl f)), (q15, .inl (Γ.1.2.2.1 1, 30, .inl g)), (q23, .inl (Γ.1.2.2.1 0, 30, .inl (fun _ => 0)))]) (3, 90) := by
    intro q7 q15 q23 n
    induction n with
    | zero =>
      intro m f g hmn hf hg
      obtain rfl : m = 30 := by omega
      refine n_iload_n hC 1 dX6_init_30 rfl rfl ?_
      refine n_bipush hC dX6_init_31 (v := 30) (by decide) rfl ?_
      refine n_icmp_ge hC dX6_init_33 (t := 58) (n := 36) (by decide) rfl (fun _ => ?_) (fun h33 => absurd (Int32.le_refl _) h33)
      refine n_vret hC dX6_init_58 ⟨by decide, by decide⟩ ?_
      exact ⟨q7, q15, q23, f, g, hf, hg, rfl⟩
    | succ n ih =>
      intro m f g hmn hf hg
      have hm : m < 30 := by omega
      refine n_iload_n hC 1 dX6_init_30 rfl rfl ?_
      refine n_bipush hC dX6_init_31 (v := 30) (by decide) rfl ?_
      refine n_icmp_ge hC dX6_init_33 (t := 58) (n := 36) (by decide) rfl (fun h33 => absurd h33 (nI_ge hm (by decide))) (fun _ => ?_)
      refine n_aload_n hC 0 dX6_init_36 rfl rfl ?_
      refine n_get hC 0 f_X6_9 dX6_init_37 rfl rfl rfl ?_
      refine n_iload_n hC 1 dX6_init_40 rfl rfl ?_
      refine n_bipush hC dX6_init_41 (v := 45) (by decide) rfl ?_
      refine n_cast hC 1 dX6_init_43 rfl (vp_in_nI hm (by decide)) (ws' := [(h, .inr (5, [.ref q7, .ref q15, .ref q23])), (q7, .inl (Γ.1.2.2.1 1, 30, .inl (upd f (nI m).toNatClampNeg (vp_nar .char 45)))), (q15, .inl (Γ.1.2.2.1 1, 30, .inl g)), (q23, .inl (Γ.1.2.2.1 0, 30, .inl (fun _ => 0)))]) rfl rfl ?_
      refine n_aload_n hC 0 dX6_init_44 rfl rfl ?_
      refine n_get hC 0 f_X6_15 dX6_init_45 rfl rfl rfl ?_
      refine n_iload_n hC 1 dX6_init_48 rfl rfl ?_
      refine n_bipush hC dX6_init_49 (v := 45) (by decide) rfl ?_
      refine n_cast hC 2 dX6_init_51 rfl (vp_in_nI hm (by decide)) (ws' := [(h, .inr (5, [.ref q7, .ref q15, .ref q23])), (q7, .inl (Γ.1.2.2.1 1, 30, .inl (upd f (nI m).toNatClampNeg (vp_nar .char 45)))), (q15, .inl (Γ.1.2.2.1 1, 30, .inl (upd g (nI m).toNatClampNeg (vp_nar .char 45)))), (q23, .inl (Γ.1.2.2.1 0, 30, .inl (fun _ => 0)))]) rfl rfl ?_
      refine n_iinc hC 1 dX6_init_52 rfl (v := nI (m + 1)) (z_inc m) (by decide) (ls' := [(0, _), (1, _)]) rfl rfl ?_
      refine n_goto hC dX6_init_55 (n := 30) (by decide) ?_
      exact ih (m + 1) _ _ (by omega) (n_fill hf rfl (by omega)) (n_fill hg rfl (by omega))
  refine n_aload_n hC 0 dX6_init_0 rfl rfl ?_
  refine n_obj hC dX6_init_1 ol_X6 oi_i oi_c (Nat.le_of_ble_eq_true rfl) ⟨by decide, by decide⟩ rfl ?_
  refine n_aload_n hC 0 dX6_init_4 rfl rfl ?_
  refine n_bipush hC dX6_init_5 (v := 30) (by decide) rfl ?_
  refine n_newC (N := 30) hC dX6_init_7 ac_char (by decide) (by decide) (by decide) ⟨by decide, by decide⟩ (k' := (1, 30)) rfl rfl (fun q7 => ?_)
  refine n_putF hC 0 np_X6_9 dX6_init_9 rfl (Nat.le_of_ble_eq_true rfl) rfl rfl (ws' := [(h, .inr (5, [.ref q7, .null, .null])), (q7, .inl (Γ.1.2.2.1 1, 30, .inl (fun _ => 0)))]) rfl rfl ?_
  refine n_aload_n hC 0 dX6_init_12 rfl rfl ?_
  refine n_bipush hC dX6_init_13 (v := 30) (by decide) rfl ?_
  refine n_newC (N := 30) hC dX6_init_15 ac_char (by decide) (by decide) (by decide) ⟨by decide, by decide⟩ (k' := (2, 60)) rfl rfl (fun q15 => ?_)
  refine n_putF hC 0 np_X6_15 dX6_init_17 rfl (Nat.le_of_ble_eq_true rfl) rfl rfl (ws' := [(h, .inr (5, [.ref q7, .ref q15, .null])), (q7, .inl (Γ.1.2.2.1 1, 30, .inl (fun _ => 0))), (q15, .inl (Γ.1.2.2.1 1, 30, .inl (fun _ => 0)))]) rfl rfl ?_
  refine n_aload_n hC 0 dX6_init_20 rfl rfl ?_
  refine n_bipush hC dX6_init_21 (v := 30) (by decide) rfl ?_
  refine n_newI (N := 30) hC dX6_init_23 ac_int (by decide) (by decide) (by decide) ⟨by decide, by decide⟩ (k' := (3, 90)) rfl rfl (fun q23 => ?_)
  refine n_putF hC 0 np_X6_18 dX6_init_25 rfl (Nat.le_of_ble_eq_true rfl) rfl rfl (ws' := [(h, .inr (5, [.ref q7, .ref q15, .ref q23])), (q7, .inl (Γ.1.2.2.1 1, 30, .inl (fun _ => 0))), (q15, .inl (Γ.1.2.2.1 1, 30, .inl (fun _ => 0))), (q23, .inl (Γ.1.2.2.1 0, 30, .inl (fun _ => 0)))]) rfl rfl ?_
  refine n_iconst hC dX6_init_28 (v := 0) (by decide) rfl ?_
  refine n_istore_n hC dX6_init_29 (by decide) (ls' := [(0, _), (1, _)]) rfl rfl ?_
  exact L1 q7 q15 q23 30 0 _ _ rfl (fun j hj => absurd hj (Nat.not_lt_zero _)) (fun j hj => absurd hj (Nat.not_lt_zero _))
