-- printed by wip/p36/gen_n4.py
theorem n_flat_ex {parts : List va_W} : ∀ {o l : Nat} {w : va_W} {x : Nat × va_E}, parts[o]? = some w → w[l]? = some x → ∃ j : Nat, parts.flatten[j]? = some x := by
  intro o l w x ho hl
  have hw : w ∈ parts := List.mem_of_getElem? ho
  have hx : x ∈ w := List.mem_of_getElem? hl
  exact List.getElem?_of_mem (List.mem_flatten.mpr ⟨w, hw, hx⟩)
theorem n_D_right {A : Nat → Prop} {p r : va_W} (hD : va_D A (p ++ r)) : va_D A r := by
  have e : ∀ (k : Nat) (q : Nat × va_E), r[k]? = some q → (p ++ r)[p.length + k]? = some q := fun k q hq => by rw [List.getElem?_append_right (by omega), show p.length + k - p.length = k by omega]; exact hq
  exact ⟨fun i j a b hi hj hab => by have := hD.1 _ _ a b (e i a hi) (e j b hj) hab; omega, fun k q hq => hD.2 _ q (e k q hq)⟩
theorem n_flat_inj {A : Nat → Prop} : ∀ {parts : List va_W}, va_D A parts.flatten → ∀ {o o' l l' : Nat} {w w' : va_W} {x x' : Nat × va_E}, parts[o]? = some w → w[l]? = some x → parts[o']? = some w' → w'[l']? = some x' → x.1 = x'.1 → o = o' ∧ l = l' := by
  intro parts
  induction parts with
  | nil => intro _ o o' l l' w w' x x' ho; simp at ho
  | cons p ps ih =>
    intro hD o o' l l' w w' x x' ho hl ho' hl' e
    rw [List.flatten_cons] at hD
    have hL : ∀ (k : Nat) (q : Nat × va_E), p[k]? = some q → (p ++ ps.flatten)[k]? = some q ∧ k < p.length := fun k q hq => by
      have h1 := (List.getElem?_eq_some_iff.mp hq).1
      exact ⟨by rw [List.getElem?_append_left h1]; exact hq, h1⟩
    have hR : ∀ (k : Nat) (q : Nat × va_E), ps.flatten[k]? = some q → (p ++ ps.flatten)[p.length + k]? = some q := fun k q hq => by rw [List.getElem?_append_right (by omega), show p.length + k - p.length = k by omega]; exact hq
    cases o with
    | zero =>
      obtain rfl : p = w := Option.some.inj ho
      obtain ⟨h1, h2⟩ := hL l x hl
      cases o' with
      | zero =>
        obtain rfl : p = w' := Option.some.inj ho'
        exact ⟨rfl, hD.1 _ _ x x' h1 (hL l' x' hl').1 e⟩
      | succ o' =>
        obtain ⟨j, hj⟩ := n_flat_ex (parts := ps) (o := o') ho' hl'
        have := hD.1 _ _ x x' h1 (hR j x' hj) e
        omega
    | succ o =>
      obtain ⟨i, hi⟩ := n_flat_ex (parts := ps) (o := o) ho hl
      cases o' with
      | zero =>
        obtain rfl : p = w' := Option.some.inj ho'
        have := hD.1 _ _ x x' (hR i x hi) (hL l' x' hl').1 e
        have := (hL l' x' hl').2
        omega
      | succ o' =>
        obtain ⟨h1, h2⟩ := ih (n_D_right hD) (o := o) (o' := o') ho hl ho' hl' e
        exact ⟨by omega, h2⟩
def n_ow (k i : Nat) : Nat := if k < 27 then 5 + i else if k < 33 then (if i < 4 then 9 + i else 3) else if k < 35 then 1 + i else if k = 35 then 3 else if k = 39 then 4 else 0
def n_lo (k i : Nat) : Nat := if k < 27 then k else if k < 33 then (if i < 4 then k - 27 else if i = 4 then 1 + (k - 27) else 7) else if k < 35 then k - 33 else if k = 35 then 0 else if k = 39 then 0 else k - 36
theorem n_code_nd : va_nd (q_pool.map fun x => n_ow x.1 x.2 * 100 + n_lo x.1 x.2) = true := by decide +kernel
theorem n_lo_lt : ∀ x ∈ q_pool, n_lo x.1 x.2 < 100 := by decide +kernel
theorem n_code_inj {x y : Nat × Nat} (hx : x ∈ q_pool) (hy : y ∈ q_pool) (h1 : n_ow x.1 x.2 = n_ow y.1 y.2) (h2 : n_lo x.1 x.2 = n_lo y.1 y.2) : x = y := by
  obtain ⟨i, hi⟩ := List.getElem?_of_mem hx
  obtain ⟨j, hj⟩ := List.getElem?_of_mem hy
  have := va_nd_inj _ n_code_nd i j (n_ow x.1 x.2 * 100 + n_lo x.1 x.2) (by simp [hi]) (by simp [hj, h1, h2])
  subst this
  exact Option.some.inj (hi.symm.trans hj)
/-- the pool out of its parts -/
theorem n_pool_of {A : Nat → Prop} {D : va_G} {cy : Nat → ClassId} {parts : List va_W} {ad : Nat → Nat → Nat} {S : qM} {H : Heap} (hD : va_D A parts.flatten) (hP : va_P D q_cl parts.flatten H)
    (hx : ∀ x ∈ q_pool, ∃ (w : va_W) (e : va_E), parts[n_ow x.1 x.2]? = some w ∧ w[n_lo x.1 x.2]? = some (ad x.1 x.2, e) ∧ (va_at D q_cl (ad x.1 x.2, e) H → va_at D q_cl (ad x.1 x.2, q_enc ad cy (S x.1 x.2) x.1 x.2) H)) :
    q_D ad ∧ (∀ x ∈ q_pool, A (ad x.1 x.2)) ∧ va_P D q_cl (q_W ad cy S) H := by
  refine ⟨fun x h1 y h2 e => ?_, fun x h1 => ?_, fun k q hk => ?_⟩
  · obtain ⟨w, e1, a1, a2, -⟩ := hx x h1
    obtain ⟨w', e2, b1, b2, -⟩ := hx y h2
    obtain ⟨c1, c2⟩ := n_flat_inj hD a1 a2 b1 b2 e
    exact n_code_inj h1 h2 c1 c2
  · obtain ⟨w, e1, a1, a2, -⟩ := hx x h1
    obtain ⟨j, hj⟩ := n_flat_ex a1 a2
    exact hD.2 j _ hj
  · simp only [q_W, List.getElem?_map] at hk
    cases hx0 : q_pool[k]? with
    | none => rw [hx0] at hk; cases hk
    | some x =>
      rw [hx0] at hk; cases hk
      obtain ⟨w, e1, a1, a2, a3⟩ := hx x (List.mem_of_getElem? hx0)
      obtain ⟨j, hj⟩ := n_flat_ex a1 a2
      exact a3 (hP j _ hj)
