section QMORE
variable {Γ : qG} {cc : ByteArray} {own : String} {nL : Nat} {rt : Option FieldType} {R : Room} {po : Option Value → qM → Prop} {pc n : Nat} {ls ls' : List (Nat × Value)} {st : List Value} {S : qM} {k : Nat × Nat}
theorem q_ldc_w (hC : qC Γ cc own nL rt R po) {i : Nat} {v : Int32} (hd : decode cc pc = .ok (.ldc_w i, 3)) (hw : Cond.constant own i v ∈ qw) (hn : pc + 3 = n) (kk : qV Γ R nL n ls (.int v :: st) S k) : qV Γ R nL pc ls st S k := by
  obtain ⟨⟨l, D, cy, ad, o⟩, ⟨p, e, s⟩, ⟨m, args, below, meth, c⟩, Q⟩ := Γ
  subst hn
  exact fun H locs la hP hS hl => lv_ldcw hC.1 hC.2.1 hC.2.2.2.1 (hC.2.2.2.2.1 _ hw) hd (kk H locs la hP hS hl)
end QMORE
theorem q_inl {a : Int32} {n : Nat} (h : ¬ (a < 0 ∨ n ≤ a.toNatClampNeg)) : vp_in a n := h
theorem q_locp {Γ : qG} {R : Room} {nL pc : Nat} {ls ls' : List (Nat × Value)} {st : List Value} {S : qM} {k : Nat × Nat} (ps : List Nat) (h : ps.map (fun j => ls[j]?) = ls'.map some) (kk : qV Γ R nL pc ls' st S k) : qV Γ R nL pc ls st S k := by
  refine q_loc (fun q hq => ?_) kk
  obtain ⟨n, hn⟩ := List.getElem?_of_mem hq
  have h1 : (ps.map (fun j => ls[j]?))[n]? = some (some q) := by rw [h, List.getElem?_map, hn]; rfl
  rw [List.getElem?_map] at h1
  cases hp : ps[n]? with
  | none => rw [hp] at h1; cases h1
  | some j => rw [hp] at h1; exact List.mem_of_getElem? (Option.some.inj h1)
theorem q_upup {S : qM} {k i : Nat} {f g : Nat → Int32} : q_up (q_up S k i f) k i g = q_up S k i g := by
  funext k' i'
  unfold q_up
  split <;> rfl
theorem z_updupd {f : Nat → Int32} {a : Nat} {x y : Int32} : upd (upd f a x) a y = upd f a y := by
  funext j
  unfold upd
  split <;> rfl
theorem z_upds {f : Nat → Int32} {a : Nat} {x : Int32} : upd f a x a = x := by simp [upd]
theorem q_put_i {Γ : qG} {cc : ByteArray} {own : String} {nL : Nat} {rt : Option FieldType} {R : Room} {po : Option Value → qM → Prop} {pc n : Nat} {ls : List (Nat × Value)} {st : List Value} {S : qM} {k : Nat × Nat} (hC : qC Γ cc own nL rt R po) {idx ci j t i : Nat} {fs : List Value} {ty : FieldType} {w : Int32} (hf : qFp own idx ci j ty) (hd : decode cc pc = .ok (.putfield idx, 3)) (he : q_enc (q_ad Γ) Γ.1.2.2.1 (S t i) t i = .inr (ci, fs)) (hs : q_enc (q_ad Γ) Γ.1.2.2.1 (upd (S t i) j w) t i = .inr (ci, fs.set j (.int w))) (hl0 : j < fs.length) (hnr : narrow ty (.int w) = .int w) (hft : fits ty (.int w) = true) (hi : i < q_cnt t) (hn : pc + 3 = n) (kk : qV Γ R nL n ls st (q_up S t i (upd (S t i) j w)) k) : qV Γ R nL pc ls (.int w :: .ref (q_ad Γ t i) :: st) S k :=
  q_put_f hC w hf hd he hs hl0 hnr hft hi hn kk
