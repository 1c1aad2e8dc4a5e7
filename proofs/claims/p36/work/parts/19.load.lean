/-! ===== WHAT LOADING LEAVES, cell by cell ===== -/
theorem z_30 {m : Nat} (hm : m < 6) : (30 + nI m).toNatClampNeg = 30 + m := by
  have : 30 + nI m = nI (30 + m) := by
    show nI 30 + nI m = _
    rw [nI_add]
  rw [this, nI_clamp (by omega)]
theorem z_56 {m : Nat} (hm : m < 6) : ((5 : Int32) * 6 + nI m).toNatClampNeg = 30 + m := by
  have h := (z_pl_all 5 (by omega) m hm).2
  exact h
theorem z_t6 {t m : Nat} (ht : t < 6) (hm : m < 6) : (nI t * 6 + nI m).toNatClampNeg = t * 6 + m := (z_pl_all t ht m hm).2
theorem z_c5 : (5 : Int32).toNatClampNeg = 5 := by decide
/-- the row of X in 'above' -/
def z_xa1 (A : Nat → Int32) (itf : Int32) : Nat → Nat → Int32 → Int32
  | 0, _, v => v
  | n + 1, m, v => z_xa1 A itf n (m + 1) (if z_has itf (nI m) = 0 then v else v ||| A m)
def z_xab (A : Nat → Int32) (itf sup : Int32) : Int32 := if sup = -1 then z_xa1 A itf 5 0 itf else z_xa1 A itf 5 0 itf ||| ((1 <<< (sup &&& 31)) ||| A sup.toNatClampNeg)
theorem z_s1It_spec {i j : Nat} : ∀ (n m : Nat) (T : qM), m + n ≤ 5 →
    (∀ k' i', ¬ (k' = 18 ∧ i' = i) → z_s1It i j n m T k' i' = T k' i') ∧ (∀ p, p ≠ 5 → z_s1It i j n m T 18 i p = T 18 i p) ∧ z_s1It i j n m T 18 i 5 = z_xa1 (T 18 i) (T 28 j 2) n m (T 18 i 5) := by
  intro n
  induction n with
  | zero => intro m T _; exact ⟨fun _ _ _ => rfl, fun _ _ => rfl, rfl⟩
  | succ n ih =>
    intro m T hm
    have e : z_s1It i j (n + 1) m T = z_s1It i j n (m + 1) (z_s1Step i j m T) := rfl
    obtain ⟨h1, h2, h3⟩ := ih (m + 1) (z_s1Step i j m T) (by omega)
    have g1 : ∀ k' i', ¬ (k' = 18 ∧ i' = i) → z_s1Step i j m T k' i' = T k' i' := by
      intro k' i' hk
      unfold z_s1Step
      split
      · rfl
      · simp only [q_up, if_neg hk]
    have g2 : ∀ p, p ≠ 5 → z_s1Step i j m T 18 i p = T 18 i p := by
      intro p hp
      unfold z_s1Step
      split
      · rfl
      · simp only [q_up, and_self, if_true, upd, z_c5, if_neg hp]
    have g3 : z_s1Step i j m T 18 i 5 = if z_has (T 28 j 2) (nI m) = 0 then T 18 i 5 else T 18 i 5 ||| T 18 i m := by
      unfold z_s1Step
      split
      · rfl
      · simp only [q_up, and_self, if_true, upd, z_c5]
        rw [nI_clamp (by omega)]
    rw [e]
    refine ⟨fun k' i' hk => (h1 k' i' hk).trans (g1 k' i' hk), fun p hp => (h2 p hp).trans (g2 p hp), ?_⟩
    rw [h3, g3, g1 28 j (by omega)]
    have cong : ∀ (A B : Nat → Int32) (itf : Int32), (∀ p, p ≠ 5 → A p = B p) → ∀ n m v, m + n ≤ 5 → z_xa1 A itf n m v = z_xa1 B itf n m v := by
      intro A B itf hAB n
      induction n with
      | zero => intros; rfl
      | succ n ih2 =>
        intro m v hmn
        unfold z_xa1
        rw [hAB m (by omega)]
        exact ih2 _ _ (by omega)
    rw [cong _ (T 18 i) _ g2 n (m + 1) _ (by omega)]
    rfl
theorem z_inh_congr {f g : Nat → Int32} {itf sup : Int32} {m : Nat} (hm : m < 6) (hs : z_v5 sup) (h : ∀ p, p < 30 → f p = g p) : z_inh f itf sup (nI m) = z_inh g itf sup (nI m) := by
  have hp : ∀ t, t < 5 → f (z_pl (nI t) (nI m)) = g (z_pl (nI t) (nI m)) := by
    intro t ht
    refine h _ ?_
    have := z_t6 (t := t) (m := m) (by omega) hm
    show (nI t * 6 + nI m).toNatClampNeg < 30
    omega
  have e0 := hp 0 (by omega)
  have e1 := hp 1 (by omega)
  have e2 := hp 2 (by omega)
  have e3 := hp 3 (by omega)
  have e4 := hp 4 (by omega)
  have eF : z_inhF f sup (nI m) = z_inhF g sup (nI m) := by
    unfold z_inhF
    rcases hs with rfl | ⟨t, ht, rfl⟩
    · rfl
    · rw [hp t ht]
  unfold z_inh z_inhS
  rw [eF]
  rw [show (0 : Int32) = nI 0 from rfl, show (1 : Int32) = nI 1 from rfl, show (2 : Int32) = nI 2 from rfl, show (3 : Int32) = nI 3 from rfl, show (4 : Int32) = nI 4 from rfl, e0, e1, e2, e3, e4]
/-- X's own row of the first methods -/
def z_xfi (f : Nat → Int32) (sup mem : Int32) (m : Nat) : Int32 := if mem = nI m then 5 else if sup = -1 then -1 else f (sup * 6 + nI m).toNatClampNeg
theorem z_xfi_congr {f g : Nat → Int32} {sup mem : Int32} {m : Nat} (hm : m < 6) (hs : z_v5 sup) (h : ∀ p, p < 30 → f p = g p) : z_xfi f sup mem m = z_xfi g sup mem m := by
  unfold z_xfi
  split
  · rfl
  · split
    · rfl
    · rename_i h1
      obtain ⟨t, ht, rfl⟩ := z_v5n hs h1
      rw [z_t6 (by omega) hm]
      exact h _ (by omega)
theorem z_s2It_spec {i j : Nat} : ∀ (n m : Nat) (T : qM), m + n ≤ 6 → z_v5 (T 28 j 1) →
    (∀ k' i', ¬ ((k' = 19 ∨ k' = 20 ∨ k' = 25) ∧ i' = i) → z_s2It i j n m T k' i' = T k' i') ∧
    (∀ p, p < 30 + m → z_s2It i j n m T 19 i p = T 19 i p ∧ z_s2It i j n m T 20 i p = T 20 i p ∧ z_s2It i j n m T 25 i p = T 25 i p) ∧
    (∀ p, 30 + m + n ≤ p → z_s2It i j n m T 19 i p = T 19 i p ∧ z_s2It i j n m T 20 i p = T 20 i p ∧ z_s2It i j n m T 25 i p = T 25 i p) ∧
    (∀ q, m ≤ q → q < m + n → z_s2It i j n m T 19 i (30 + q) = z_xfi (T 19 i) (T 28 j 1) (T 28 j 3) q ∧ z_s2It i j n m T 20 i (30 + q) = z_xfi (T 20 i) (T 28 j 1) (T 28 j 3) q ∧ z_s2It i j n m T 25 i (30 + q) = z_inh (T 25 i) (T 28 j 2) (T 28 j 1) (nI q)) := by
  intro n
  induction n with
  | zero => intro m T _ _; exact ⟨fun _ _ _ => rfl, fun _ _ => ⟨rfl, rfl, rfl⟩, fun _ _ => ⟨rfl, rfl, rfl⟩, fun q h1 h2 => absurd h2 (by omega)⟩
  | succ n ih =>
    intro m T hm hs
    have e : z_s2It i j (n + 1) m T = z_s2It i j n (m + 1) (z_s2Step i j m T) := rfl
    have g1 : ∀ k' i', ¬ ((k' = 19 ∨ k' = 20 ∨ k' = 25) ∧ i' = i) → z_s2Step i j m T k' i' = T k' i' := by
      intro k' i' hk
      unfold z_s2Step
      simp only [q_up]
      rw [if_neg (by omega), if_neg (by omega), if_neg (by omega)]
    have e28 : z_s2Step i j m T 28 j = T 28 j := g1 28 j (by omega)
    have g2 : ∀ p, p ≠ 30 + m → z_s2Step i j m T 19 i p = T 19 i p ∧ z_s2Step i j m T 20 i p = T 20 i p ∧ z_s2Step i j m T 25 i p = T 25 i p := by
      intro p hp
      unfold z_s2Step
      simp (config := {decide := true}) only [q_up, upd, z_30 (show m < 6 by omega), if_neg hp, and_self, if_true, if_false, false_and]
    have g3 : z_s2Step i j m T 19 i (30 + m) = z_xfi (T 19 i) (T 28 j 1) (T 28 j 3) m ∧ z_s2Step i j m T 20 i (30 + m) = z_xfi (T 20 i) (T 28 j 1) (T 28 j 3) m ∧ z_s2Step i j m T 25 i (30 + m) = z_inh (T 25 i) (T 28 j 2) (T 28 j 1) (nI m) := by
      unfold z_s2Step
      simp (config := {decide := true}) only [q_up, upd, z_30 (show m < 6 by omega), and_self, if_true, if_false, false_and]
      exact ⟨rfl, rfl, trivial⟩
    obtain ⟨h1, h2, h3, h4⟩ := ih (m + 1) (z_s2Step i j m T) (by omega) (by rw [e28]; exact hs)
    rw [e]
    refine ⟨fun k' i' hk => (h1 k' i' hk).trans (g1 k' i' hk), fun p hp => ?_, fun p hp => ?_, fun q hq1 hq2 => ?_⟩
    · obtain ⟨a, b, c⟩ := h2 p (by omega)
      obtain ⟨a', b', c'⟩ := g2 p (by omega)
      exact ⟨a.trans a', b.trans b', c.trans c'⟩
    · obtain ⟨a, b, c⟩ := h3 p (by omega)
      obtain ⟨a', b', c'⟩ := g2 p (by omega)
      exact ⟨a.trans a', b.trans b', c.trans c'⟩
    · rcases Nat.lt_or_ge m q with hlt | hge
      · obtain ⟨a, b, c⟩ := h4 q (by omega) (by omega)
        rw [e28] at a b c
        refine ⟨a.trans (z_xfi_congr (by omega) hs fun p hp => (g2 p (by omega)).1), b.trans (z_xfi_congr (by omega) hs fun p hp => (g2 p (by omega)).2.1), c.trans (z_inh_congr (by omega) hs fun p hp => (g2 p (by omega)).2.2)⟩
      · obtain rfl : q = m := by omega
        obtain ⟨a, b, c⟩ := h2 (30 + q) (by omega)
        obtain ⟨a', b', c'⟩ := g3
        exact ⟨a.trans a', b.trans b', c.trans c'⟩
/-- what is resolved, and selected, by the row of a type -/
def z_rnear (S : qM) (i : Nat) (row : Int32) (m : Nat) : Int32 := z_near (S 18 i) (S 21 i m &&& S 18 i row.toNatClampNeg)
def z_rres (S : qM) (i : Nat) (row : Int32) (m : Nat) : Int32 := if S 19 i (row * 6 + nI m).toNatClampNeg = -1 then z_lowest (if z_bc (z_rnear S i row m &&& S 22 i m) = 1 then z_rnear S i row m &&& S 22 i m else z_rnear S i row m) else S 19 i (row * 6 + nI m).toNatClampNeg
def z_rsel (S : qM) (i : Nat) (row : Int32) (m : Nat) : Int32 := if S 20 i (row * 6 + nI m).toNatClampNeg = -1 then (if z_bc (z_rnear S i row m &&& S 22 i m) = 1 then z_lowest (z_rnear S i row m &&& S 22 i m) else if z_bc (z_rnear S i row m &&& S 22 i m) = 0 then -65 else -73)
  else if S 20 i (row * 6 + nI m).toNatClampNeg = 5 then S 20 i (row * 6 + nI m).toNatClampNeg else if S 11 i (S 20 i (row * 6 + nI m).toNatClampNeg * 6 + nI m).toNatClampNeg = 97 then -65 else S 20 i (row * 6 + nI m).toNatClampNeg
theorem z_dcStep_eq {i : Nat} {row : Int32} {m : Nat} {T : qM} (hm : m < 6) : z_dcStep i row m T = q_up (q_up T 23 i (upd (T 23 i) (row * 6 + nI m).toNatClampNeg (z_rres T i row m))) 24 i (upd (T 24 i) (row * 6 + nI m).toNatClampNeg (z_rsel T i row m)) := by
  unfold z_dcStep z_rres z_rsel z_rnear
  rw [nI_clamp (show m < 2 ^ 31 by omega)]
theorem z_dcIt_spec {i t : Nat} (ht : t < 6) : ∀ (n m : Nat) (T : qM), m + n ≤ 6 →
    (∀ k' i', ¬ ((k' = 23 ∨ k' = 24) ∧ i' = i) → z_dcIt i (nI t) n m T k' i' = T k' i') ∧
    (∀ p, (p < t * 6 + m ∨ t * 6 + m + n ≤ p) → z_dcIt i (nI t) n m T 23 i p = T 23 i p ∧ z_dcIt i (nI t) n m T 24 i p = T 24 i p) ∧
    (∀ q, m ≤ q → q < m + n → z_dcIt i (nI t) n m T 23 i (t * 6 + q) = z_rres T i (nI t) q ∧ z_dcIt i (nI t) n m T 24 i (t * 6 + q) = z_rsel T i (nI t) q) := by
  intro n
  induction n with
  | zero => intro m T _; exact ⟨fun _ _ _ => rfl, fun _ _ => ⟨rfl, rfl⟩, fun q h1 h2 => absurd h2 (by omega)⟩
  | succ n ih =>
    intro m T hm
    have e : z_dcIt i (nI t) (n + 1) m T = z_dcIt i (nI t) n (m + 1) (z_dcStep i (nI t) m T) := rfl
    have g1 : ∀ k' i', ¬ ((k' = 23 ∨ k' = 24) ∧ i' = i) → z_dcStep i (nI t) m T k' i' = T k' i' := by
      intro k' i' hk
      rw [z_dcStep_eq (by omega)]
      simp only [q_up]
      rw [if_neg (by omega), if_neg (by omega)]
    have g2 : ∀ p, p ≠ t * 6 + m → z_dcStep i (nI t) m T 23 i p = T 23 i p ∧ z_dcStep i (nI t) m T 24 i p = T 24 i p := by
      intro p hp
      rw [z_dcStep_eq (by omega)]
      simp (config := {decide := true}) only [q_up, upd, z_t6 ht (show m < 6 by omega), if_neg hp, and_self, if_true, if_false, false_and]
    have g3 : z_dcStep i (nI t) m T 23 i (t * 6 + m) = z_rres T i (nI t) m ∧ z_dcStep i (nI t) m T 24 i (t * 6 + m) = z_rsel T i (nI t) m := by
      rw [z_dcStep_eq (by omega)]
      simp (config := {decide := true}) only [q_up, upd, z_t6 ht (show m < 6 by omega), and_self, if_true, if_false, false_and]
    have hr : ∀ q, z_rres (z_dcStep i (nI t) m T) i (nI t) q = z_rres T i (nI t) q ∧ z_rsel (z_dcStep i (nI t) m T) i (nI t) q = z_rsel T i (nI t) q := by
      intro q
      unfold z_rres z_rsel z_rnear
      rw [g1 18 i (by omega), g1 19 i (by omega), g1 20 i (by omega), g1 21 i (by omega), g1 22 i (by omega), g1 11 i (by omega)]
      exact ⟨rfl, rfl⟩
    obtain ⟨h1, h2, h3⟩ := ih (m + 1) (z_dcStep i (nI t) m T) (by omega)
    rw [e]
    refine ⟨fun k' i' hk => (h1 k' i' hk).trans (g1 k' i' hk), fun p hp => ?_, fun q hq1 hq2 => ?_⟩
    · obtain ⟨a, b⟩ := h2 p (by omega)
      obtain ⟨a', b'⟩ := g2 p (by omega)
      exact ⟨a.trans a', b.trans b'⟩
    · rcases Nat.lt_or_ge m q with hlt | hge
      · obtain ⟨a, b⟩ := h3 q (by omega) (by omega)
        exact ⟨a.trans (hr q).1, b.trans (hr q).2⟩
      · obtain rfl : q = m := by omega
        obtain ⟨a, b⟩ := h2 (t * 6 + q) (by omega)
        exact ⟨a.trans g3.1, b.trans g3.2⟩
