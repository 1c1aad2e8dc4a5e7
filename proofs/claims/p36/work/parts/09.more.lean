section QMORE
variable {Γ : qG} {cc : ByteArray} {own : String} {nL : Nat} {rt : Option FieldType} {R : Room} {po : Option Value → qM → Prop} {pc n : Nat} {ls ls' : List (Nat × Value)} {st : List Value} {S : qM} {k : Nat × Nat}
theorem q_ldc_w (hC : qC Γ cc own nL rt R po) {i : Nat} {v : Int32} (hd : decode cc pc = .ok (.ldc_w i, 3)) (hw : Cond.constant own i v ∈ qw) (hn : pc + 3 = n) (kk : qV Γ R nL n ls (.int v :: st) S k) : qV Γ R nL pc ls st S k := by
  obtain ⟨⟨l, D, cy, ad, o⟩, ⟨p, e, s⟩, ⟨m, args, below, meth, c⟩, Q⟩ := Γ
  subst hn
  exact fun H locs la hP hS hl => lv_ldcw hC.1 hC.2.1 hC.2.2.2.1 (hC.2.2.2.2.1 _ hw) hd (kk H locs la hP hS hl)
end QMORE
theorem q_inl {a : Int32} {n : Nat} (h : ¬ (a < 0 ∨ n ≤ a.toNatClampNeg)) : vp_in a n := h
