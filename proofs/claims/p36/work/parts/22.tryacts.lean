-- printed by wip/p36/gen_m2.py
/-- a number that may be none: 0 is none -/
def z_c (n : Nat) : Int32 := nI n - 1
theorem z_c0 : z_c 0 = -1 := by decide
theorem z_cs (n : Nat) : z_c (n + 1) = nI n := by
  unfold z_c
  rw [nI_succ]
  show nI n + 1 - 1 = nI n
  rw [Int32.add_sub_cancel]
theorem z_cinc (n : Nat) : z_c n + Int32.ofInt 1 = z_c (n + 1) := by
  rw [z_cs]
  unfold z_c
  show nI n - 1 + 1 = nI n
  rw [Int32.sub_add_cancel]
theorem z_clt : ∀ e, e < 8 → ∀ o, o < 8 → (z_c e < z_c o ↔ e < o) := by decide +kernel
theorem z_cv6 {n : Nat} (h : n ≤ 6) : z_v6 (z_c n) := by
  cases n with
  | zero => exact Or.inl z_c0
  | succ n => exact Or.inr ⟨n, by omega, z_cs n⟩
theorem z_clt6 {n : Nat} (h : n ≤ 6) (h0 : 0 < n) : z_lt (z_c n) 6 := by
  cases n with
  | zero => omega
  | succ n => exact ⟨n, by omega, z_cs n⟩
theorem z_cp (x : Int32) (n : Nat) : x + z_c n + 1 = x + nI n := by
  unfold z_c
  rw [Int32.add_assoc, Int32.sub_add_cancel]
theorem z_code (k t m o : Nat) : ((nI k * 7 + z_c t + 1) * 7 + z_c m + 1) * 7 + z_c o + 1 = nI (((k * 7 + t) * 7 + m) * 7 + o) := by
  rw [z_cp, z_cp, z_cp]
  show ((nI k * nI 7 + nI t) * nI 7 + nI m) * nI 7 + nI o = _
  rw [pk_mul, nI_add, pk_mul, nI_add, pk_mul, nI_add]
def z_NF : Int32 := 1048576
theorem z_codelt {k t m o : Nat} (hk : k < 9) (ht : t ≤ 6) (hm : m ≤ 6) (ho : o ≤ 6) : ((nI k * 7 + z_c t + 1) * 7 + z_c m + 1) * 7 + z_c o + 1 < z_NF := by
  rw [z_code]
  exact nI_lt (b := 1048576) (by omega) (by decide)
/-- an act tells two loaded machines apart (br: the later one has not loaded) -/
def z_tell (S : qM) (a b : Nat) (br kind type mem obj : Int32) : Prop := 0 ≤ z_pf S a kind type mem obj ∧ (¬ br = 0 ∨ z_pf S b kind type mem obj < 0)
/-- the bounds of what is tried, as numbers that may be none -/
def z_lt9 (S : qM) : Nat := if S 28 5 0 = 0 then 4 else 5
def z_fo (S : qM) (br : Int32) : Nat := if S 28 5 0 = 0 then 0 else if br = 0 then 5 else 0
def z_ts (k : Nat) : Nat := if z_hasType (nI k) = 0 then 0 else 1
def z_te (S : qM) (k : Nat) : Nat := if z_hasType (nI k) = 0 then 0 else z_lt9 S + 1
def z_ms (k : Nat) : Nat := if z_hasMember (nI k) = 0 then 0 else 1
def z_me (k : Nat) : Nat := if z_hasMember (nI k) = 0 then 0 else 6
def z_os (S : qM) (br : Int32) (k : Nat) : Nat := if z_hasObject (nI k) = 0 then 0 else z_fo S br + 1
def z_oe (S : qM) (k : Nat) : Nat := if z_hasObject (nI k) = 0 then 0 else z_lt9 S + 1
/-- what is tried -/
def z_E (S : qM) (a : Nat) (br : Int32) (k t m o : Nat) : Prop := k < 9 ∧ (z_ts k ≤ t ∧ t ≤ z_te S k) ∧ (z_ms k ≤ m ∧ m ≤ z_me k ∧ (m = 0 ∨ ¬ z_has (z_wt S a (nI k) br) (z_c m) = 0)) ∧ (z_os S br k ≤ o ∧ o ≤ z_oe S k)
theorem z_lt9_r {S : qM} : z_lt9 S ≤ 5 := by unfold z_lt9; split <;> omega
theorem z_E_r {S : qM} {br : Int32} {k t m o : Nat} (hk : k < 9) (ht : t ≤ z_te S k) (hm : z_ms k ≤ m ∧ m ≤ z_me k) (ho : z_os S br k ≤ o ∧ o ≤ z_oe S k) : t ≤ 6 ∧ m ≤ 6 ∧ o ≤ 6 ∧ z_actR (nI k) (z_c t) (z_c m) (z_c o) := by
  have h5 := z_lt9_r (S := S)
  have t6 : t ≤ 6 := by unfold z_te at ht; split at ht <;> omega
  have m6 : m ≤ 6 := by have := hm.2; unfold z_me at this; split at this <;> omega
  have o6 : o ≤ 6 := by have := ho.2; unfold z_oe at this; split at this <;> omega
  refine ⟨t6, m6, o6, ⟨k, hk, rfl⟩, z_cv6 t6, z_cv6 o6, fun h0 => ?_, fun h23 => ?_⟩
  · refine z_clt6 m6 ?_
    have := hm.1
    unfold z_ms at this
    have hh : ∀ k, k < 9 → ¬ nI k = 0 → ¬ z_hasMember (nI k) = 0 := by decide +kernel
    rw [if_neg (hh k hk h0)] at this
    omega
  · refine z_clt6 o6 ?_
    have := ho.1
    unfold z_os at this
    have hh : ∀ k, k < 9 → (nI k = 2 ∨ nI k = 3) → ¬ z_hasObject (nI k) = 0 := by decide +kernel
    rw [if_neg (hh k hk h23)] at this
    omega
/-- what comes of it -/
def z_taPost (a b : Nat) (br : Int32) (S S' : qM) : Prop :=
  (∃ (k t m o : Nat) (c : Int32), z_E S a br k t m o ∧ z_tell S a b br (nI k) (z_c t) (z_c m) (z_c o) ∧ c < z_NF ∧ S' = z_keep c (nI k) (z_c t) (z_c m) (z_c o) S) ∨
  (S' = S ∧ (S 35 0 4 = z_NF → ∀ k t m o, z_E S a br k t m o → ¬ z_tell S a b br (nI k) (z_c t) (z_c m) (z_c o)))
theorem z_has0 (m : Int32) : z_has 0 m = 0 := by
  unfold z_has z_bit
  rw [Int32.zero_shiftRight, Int32.zero_and]
  exact if_neg (by decide)
theorem z_c0i {n : Nat} (h : n ≤ 6) (e : z_c n = -1) : n = 0 := by
  have hh : ∀ n, n < 7 → z_c n = -1 → n = 0 := by decide +kernel
  exact hh n (by omega) e
theorem z_osoe {S : qM} {br : Int32} {k : Nat} : z_os S br k ≤ z_oe S k + 1 := by
  unfold z_os z_oe z_fo z_lt9
  repeat' split
  all_goals omega
theorem z_mse {k : Nat} : z_ms k ≤ z_me k + 1 := by
  unfold z_ms z_me
  split <;> omega
theorem z_tse {S : qM} {k : Nat} : z_ts k ≤ z_te S k + 1 := by
  unfold z_ts z_te
  split <;> omega
abbrev rm_X4_tryActs : Room := { frames := 2, cells := 0, slots := 0, locals := 61 }
set_option maxHeartbeats 4000000 in
set_option maxRecDepth 100000 in
theorem c_X4_tryActs {L : qL} (hD : q_D L.2.2.2.1) : qCT L yX4_tryActs cX4_tryActs 13 none rm_X4_tryActs (fun ad _ (x : Nat × Nat × Int32) => [.ref (ad 35 0), .int x.2.2]) (fun x S => x.1 < 4 ∧ x.2.1 < 4 ∧ S 35 0 2 = nI x.1 ∧ S 35 0 3 = nI x.2.1 ∧ z_wf S x.1 ∧ z_wf S x.2.1 ∧ z_bool (S 28 5 0)) (qPv (fun x S S' => z_taPost x.1 x.2.1 x.2.2 S S')) := by
  refine q_met hD (by decide) (fun _ => Nat.le_of_ble_eq_true rfl) (fun Γ x S hΓ hpre hC => ?_)
  subst hΓ
  obtain ⟨a, b, br⟩ := x
  obtain ⟨ha, hb, hoa, hob, hWa, hWb, hbool⟩ := hpre
  have ha : a < 4 := ha
  have hb : b < 4 := hb
  have hoa : S 35 0 2 = nI a := hoa
  have hob : S 35 0 3 = nI b := hob
  have hWa : z_wf S a := hWa
  have hWb : z_wf S b := hWb
  have hbool : z_bool (S 28 5 0) := hbool
  have J36 : ∀ lt fo : Int32, lt = nI (z_lt9 S) → fo = nI (z_fo S br) → qV Γ rm_X4_tryActs 13 36 [(0, .ref (q_ad Γ 35 0)), (1, .int br), (2, .int lt), (3, .int fo)] [] S (0, 0) := by
    intro lt fo hlt hfo
    have JO : ∀ (k t mm : Nat) (U te me oe ty mb : Int32), k < 9 → t ≤ z_te S k → (z_ms k ≤ mm ∧ mm ≤ z_me k ∧ (mm = 0 ∨ ¬ z_has (z_wt S a (nI k) br) (z_c mm) = 0)) → z_ts k ≤ t → ty = z_c t → mb = z_c mm → oe = z_c (z_oe S k) →
        ((∀ o', z_os S br k ≤ o' → o' ≤ z_oe S k → ¬ z_tell S a b br (nI k) (z_c t) (z_c mm) (z_c o')) → qV Γ rm_X4_tryActs 13 302 [(0, .ref (q_ad Γ 35 0)), (1, .int br), (2, .int lt), (3, .int fo), (4, .int (nI k)), (5, .int U), (6, .int te), (7, .int me), (8, .int oe), (9, .int ty), (10, .int mb)] [] S (0, 0)) →
        ∀ (n o : Nat) (ob : Int32), o + n = z_oe S k + 1 → z_os S br k ≤ o → ob = z_c o → (∀ o', z_os S br k ≤ o' → o' < o → ¬ z_tell S a b br (nI k) (z_c t) (z_c mm) (z_c o')) → qV Γ rm_X4_tryActs 13 196 [(0, .ref (q_ad Γ 35 0)), (1, .int br), (2, .int lt), (3, .int fo), (4, .int (nI k)), (5, .int U), (6, .int te), (7, .int me), (8, .int oe), (9, .int ty), (10, .int mb), (11, .int ob)] [] S (0, 0) := by
      intro k t mm U te me oe ty mb hk ht hmm hts ety emb eoe hK n
      induction n with
      | zero =>
        intro o ob hon hos eob hall
        have ho7 : z_oe S k ≤ 6 := by have := z_lt9_r (S := S); unfold z_oe; split <;> omega
        refine q_iload hC 11 dX4_tryActs_196 rfl rfl ?_
        refine q_iload hC 8 dX4_tryActs_198 rfl rfl ?_
        refine q_icmp_gt hC dX4_tryActs_200 (t := 302) (n := 203) (by decide) rfl (fun h200 => ?_) (fun h200 => absurd (by rw [eoe, eob]; exact (z_clt _ (by omega) _ (by omega)).mpr (by omega)) h200)
        refine q_locp [0, 1, 2, 3, 4, 5, 6, 7, 8, 9, 10] (ls' := [(0, _), (1, _), (2, _), (3, _), (4, _), (5, _), (6, _), (7, _), (8, _), (9, _), (10, _)]) rfl ?_
        exact hK (fun o' h1 h2 => hall o' h1 (by omega))
      | succ n ih =>
        intro o ob hon hos eob hall
        have ho7 : z_oe S k ≤ 6 := by have := z_lt9_r (S := S); unfold z_oe; split <;> omega
        obtain ⟨t6, m6, o6, hact⟩ := z_E_r (br := br) (o := o) hk ht ⟨hmm.1, hmm.2.1⟩ ⟨hos, by omega⟩
        have hE : z_E S a br k t mm o := ⟨hk, ⟨hts, ht⟩, hmm, hos, by omega⟩
        refine q_iload hC 11 dX4_tryActs_196 rfl rfl ?_
        refine q_iload hC 8 dX4_tryActs_198 rfl rfl ?_
        refine q_icmp_gt hC dX4_tryActs_200 (t := 302) (n := 203) (by decide) rfl (fun h200 => absurd h200 (fun hh => absurd ((z_clt _ (by omega) _ (by omega)).mp (eob ▸ eoe ▸ hh)) (by omega))) (fun h200 => ?_)
        refine q_iload hC 4 dX4_tryActs_203 rfl rfl ?_
        refine q_bipush hC dX4_tryActs_205 (v := 7) (by decide) rfl ?_
        refine q_imul hC dX4_tryActs_207 rfl ?_
        refine q_iload hC 9 dX4_tryActs_208 rfl rfl ?_
        refine q_iadd hC dX4_tryActs_210 rfl ?_
        refine q_iconst hC dX4_tryActs_211 (v := 1) (by decide) rfl ?_
        refine q_iadd hC dX4_tryActs_212 rfl ?_
        refine q_bipush hC dX4_tryActs_213 (v := 7) (by decide) rfl ?_
        refine q_imul hC dX4_tryActs_215 rfl ?_
        refine q_iload hC 10 dX4_tryActs_216 rfl rfl ?_
        refine q_iadd hC dX4_tryActs_218 rfl ?_
        refine q_iconst hC dX4_tryActs_219 (v := 1) (by decide) rfl ?_
        refine q_iadd hC dX4_tryActs_220 rfl ?_
        refine q_bipush hC dX4_tryActs_221 (v := 7) (by decide) rfl ?_
        refine q_imul hC dX4_tryActs_223 rfl ?_
        refine q_iload hC 11 dX4_tryActs_224 rfl rfl ?_
        refine q_iadd hC dX4_tryActs_226 rfl ?_
        refine q_iconst hC dX4_tryActs_227 (v := 1) (by decide) rfl ?_
        refine q_iadd hC dX4_tryActs_228 rfl ?_
        refine q_istore hC dX4_tryActs_229 (by decide) (ls' := [(0, _), (1, _), (2, _), (3, _), (4, _), (5, _), (6, _), (7, _), (8, _), (9, _), (10, _), (11, _), (12, _)]) rfl rfl ?_
        refine q_iload hC 12 dX4_tryActs_231 rfl rfl ?_
        refine q_aload_n hC 0 dX4_tryActs_233 rfl rfl ?_
        refine q_get_f hC f_X4_33 dX4_tryActs_234 rfl rfl (Nat.le_of_ble_eq_true rfl) rfl ?_
        refine q_icmp_lt hC dX4_tryActs_237 (t := 241) (n := 240) (by decide) rfl (fun h237 => ?_) (fun h237 => ?_)
        · refine q_aload_n hC 0 dX4_tryActs_241 rfl rfl ?_
          refine q_get_f hC f_X4_25 dX4_tryActs_242 rfl (q_rfs hoa ha) (Nat.le_of_ble_eq_true rfl) rfl ?_
          refine q_iload hC 4 dX4_tryActs_245 rfl rfl ?_
          refine q_iload hC 9 dX4_tryActs_247 rfl rfl ?_
          refine q_iload hC 10 dX4_tryActs_249 rfl rfl ?_
          refine q_iload hC 11 dX4_tryActs_251 rfl rfl ?_
          refine q_callV hC (c_X5_perform (q_hD hC)) m_X5_perform lk_X4_106 dX4_tryActs_253 (a, nI k, ty, mb, ob) rfl rfl rfl rfl rfl ha (Nat.le_of_ble_eq_true rfl) ⟨⟨by decide, by decide⟩, by decide, by decide⟩ rfl (k' := (0, 0)) rfl ⟨ha, hWa.2.2.2.2.2.1, hWa.2.2.2.2.2.2, by rw [ety, emb, eob]; exact hact⟩ (fun v S' hp => ?_)
          obtain ⟨r253_2, rfl, hr253_2, rfl⟩ := hp
          have hr253_2 : r253_2 = z_pf S a (nI k) (z_c t) (z_c mm) (z_c o) := by rw [hr253_2, ety, emb, eob]
          show qV Γ _ _ 256 _ (.int _ :: _) _ _
          refine q_if_lt hC dX4_tryActs_256 (t := 296) (n := 259) (by decide) rfl (fun h256 => ?_) (fun h256 => ?_)
          · refine q_iinc hC 11 dX4_tryActs_296 rfl (v := z_c (o + 1)) (by rw [eob]; exact z_cinc o) (by decide) (ls' := [(0, _), (1, _), (2, _), (3, _), (4, _), (5, _), (6, _), (7, _), (8, _), (9, _), (10, _), (11, _), (12, _)]) rfl rfl ?_
            refine q_goto hC dX4_tryActs_299 (n := 196) (by decide) ?_
            refine q_locp [0, 1, 2, 3, 4, 5, 6, 7, 8, 9, 10, 11] (ls' := [(0, _), (1, _), (2, _), (3, _), (4, _), (5, _), (6, _), (7, _), (8, _), (9, _), (10, _), (11, _)]) rfl ?_
            exact ih (o + 1) _ (by omega) (by omega) rfl (fun o' h1 h2 => by
              rcases Nat.lt_or_ge o' o with h | h
              · exact hall o' h1 h
              · obtain rfl : o' = o := by omega
                subst hr253_2
                exact fun hh => by first | exact absurd hh.1 (Int32.not_le.mpr (by assumption)) | exact hh.2.elim (fun z => z (by assumption)) (fun z => absurd z (Int32.not_lt.mpr (by assumption))))
          · refine q_iload_n hC 1 dX4_tryActs_259 rfl rfl ?_
            refine q_if_ne hC dX4_tryActs_260 (t := 281) (n := 263) (by decide) rfl (fun h260 => ?_) (fun h260 => ?_)
            · refine q_aload_n hC 0 dX4_tryActs_281 rfl rfl ?_
              refine q_iload hC 12 dX4_tryActs_282 rfl rfl ?_
              refine q_iload hC 4 dX4_tryActs_284 rfl rfl ?_
              refine q_iload hC 9 dX4_tryActs_286 rfl rfl ?_
              refine q_iload hC 10 dX4_tryActs_288 rfl rfl ?_
              refine q_iload hC 11 dX4_tryActs_290 rfl rfl ?_
              refine q_callV hC (c_X4_keep (q_hD hC)) m_X4_keep lk_X4_110 dX4_tryActs_292 (((nI k * 7 + ty + 1) * 7 + mb + 1) * 7 + ob + 1, nI k, ty, mb, ob) rfl rfl rfl rfl rfl (Nat.le_of_ble_eq_true rfl) (Nat.le_of_ble_eq_true rfl) ⟨⟨by decide, by decide⟩, by decide, by decide⟩ rfl (k' := (0, 0)) rfl hbool (fun v S' hp => ?_)
              obtain ⟨rfl, rfl⟩ := hp
              show qV Γ _ _ 295 _ _ _ _
              refine q_vret hC dX4_tryActs_295 ⟨by decide, by decide⟩ ⟨rfl, ?_⟩
              exact Or.inl ⟨k, t, mm, o, ((nI k * 7 + ty + 1) * 7 + mb + 1) * 7 + ob + 1, hE, ⟨by subst hr253_2; exact Int32.not_lt.mp (by assumption), by subst hr253_2; first | exact Or.inl (by assumption) | exact Or.inr (Int32.not_le.mp (by assumption))⟩, by rw [ety, emb, eob]; exact z_codelt hk t6 m6 o6, by rw [ety, emb, eob]⟩
            · refine q_aload_n hC 0 dX4_tryActs_263 rfl rfl ?_
              refine q_get_f hC f_X4_29 dX4_tryActs_264 rfl (q_rfs hob hb) (Nat.le_of_ble_eq_true rfl) rfl ?_
              refine q_iload hC 4 dX4_tryActs_267 rfl rfl ?_
              refine q_iload hC 9 dX4_tryActs_269 rfl rfl ?_
              refine q_iload hC 10 dX4_tryActs_271 rfl rfl ?_
              refine q_iload hC 11 dX4_tryActs_273 rfl rfl ?_
              refine q_callV hC (c_X5_perform (q_hD hC)) m_X5_perform lk_X4_106 dX4_tryActs_275 (b, nI k, ty, mb, ob) rfl rfl rfl rfl rfl hb (Nat.le_of_ble_eq_true rfl) ⟨⟨by decide, by decide⟩, by decide, by decide⟩ rfl (k' := (0, 0)) rfl ⟨hb, hWb.2.2.2.2.2.1, hWb.2.2.2.2.2.2, by rw [ety, emb, eob]; exact hact⟩ (fun v S' hp => ?_)
              obtain ⟨r275_6, rfl, hr275_6, rfl⟩ := hp
              have hr275_6 : r275_6 = z_pf S b (nI k) (z_c t) (z_c mm) (z_c o) := by rw [hr275_6, ety, emb, eob]
              show qV Γ _ _ 278 _ (.int _ :: _) _ _
              refine q_if_ge hC dX4_tryActs_278 (t := 296) (n := 281) (by decide) rfl (fun h278 => ?_) (fun h278 => ?_)
              · refine q_iinc hC 11 dX4_tryActs_296 rfl (v := z_c (o + 1)) (by rw [eob]; exact z_cinc o) (by decide) (ls' := [(0, _), (1, _), (2, _), (3, _), (4, _), (5, _), (6, _), (7, _), (8, _), (9, _), (10, _), (11, _), (12, _)]) rfl rfl ?_
                refine q_goto hC dX4_tryActs_299 (n := 196) (by decide) ?_
                refine q_locp [0, 1, 2, 3, 4, 5, 6, 7, 8, 9, 10, 11] (ls' := [(0, _), (1, _), (2, _), (3, _), (4, _), (5, _), (6, _), (7, _), (8, _), (9, _), (10, _), (11, _)]) rfl ?_
                exact ih (o + 1) _ (by omega) (by omega) rfl (fun o' h1 h2 => by
                  rcases Nat.lt_or_ge o' o with h | h
                  · exact hall o' h1 h
                  · obtain rfl : o' = o := by omega
                    subst hr253_2 hr275_6
                    exact fun hh => by first | exact absurd hh.1 (Int32.not_le.mpr (by assumption)) | exact hh.2.elim (fun z => z (by assumption)) (fun z => absurd z (Int32.not_lt.mpr (by assumption))))
              · refine q_aload_n hC 0 dX4_tryActs_281 rfl rfl ?_
                refine q_iload hC 12 dX4_tryActs_282 rfl rfl ?_
                refine q_iload hC 4 dX4_tryActs_284 rfl rfl ?_
                refine q_iload hC 9 dX4_tryActs_286 rfl rfl ?_
                refine q_iload hC 10 dX4_tryActs_288 rfl rfl ?_
                refine q_iload hC 11 dX4_tryActs_290 rfl rfl ?_
                refine q_callV hC (c_X4_keep (q_hD hC)) m_X4_keep lk_X4_110 dX4_tryActs_292 (((nI k * 7 + ty + 1) * 7 + mb + 1) * 7 + ob + 1, nI k, ty, mb, ob) rfl rfl rfl rfl rfl (Nat.le_of_ble_eq_true rfl) (Nat.le_of_ble_eq_true rfl) ⟨⟨by decide, by decide⟩, by decide, by decide⟩ rfl (k' := (0, 0)) rfl hbool (fun v S' hp => ?_)
                obtain ⟨rfl, rfl⟩ := hp
                show qV Γ _ _ 295 _ _ _ _
                refine q_vret hC dX4_tryActs_295 ⟨by decide, by decide⟩ ⟨rfl, ?_⟩
                exact Or.inl ⟨k, t, mm, o, ((nI k * 7 + ty + 1) * 7 + mb + 1) * 7 + ob + 1, hE, ⟨by subst hr253_2 hr275_6; exact Int32.not_lt.mp (by assumption), by subst hr253_2 hr275_6; first | exact Or.inl (by assumption) | exact Or.inr (Int32.not_le.mp (by assumption))⟩, by rw [ety, emb, eob]; exact z_codelt hk t6 m6 o6, by rw [ety, emb, eob]⟩
        · refine q_vret hC dX4_tryActs_240 ⟨by decide, by decide⟩ ⟨rfl, ?_⟩
          exact Or.inr ⟨rfl, fun hnf => absurd (by rw [hnf, ety, emb, eob]; exact z_codelt hk t6 m6 o6) h237⟩
    have JM : ∀ (k t : Nat) (U te me oe ty : Int32), k < 9 → z_ts k ≤ t → t ≤ z_te S k → U = z_wt S a (nI k) br → ty = z_c t → me = z_c (z_me k) → oe = z_c (z_oe S k) →
        ((∀ m', z_ms k ≤ m' → m' ≤ z_me k → (m' = 0 ∨ ¬ z_has (z_wt S a (nI k) br) (z_c m') = 0) → ∀ o', z_os S br k ≤ o' → o' ≤ z_oe S k → ¬ z_tell S a b br (nI k) (z_c t) (z_c m') (z_c o')) → qV Γ rm_X4_tryActs 13 308 [(0, .ref (q_ad Γ 35 0)), (1, .int br), (2, .int lt), (3, .int fo), (4, .int (nI k)), (5, .int U), (6, .int te), (7, .int me), (8, .int oe), (9, .int ty)] [] S (0, 0)) →
        ∀ (n mm : Nat) (mb : Int32), mm + n = z_me k + 1 → z_ms k ≤ mm → mb = z_c mm → (∀ m', z_ms k ≤ m' → m' < mm → (m' = 0 ∨ ¬ z_has (z_wt S a (nI k) br) (z_c m') = 0) → ∀ o', z_os S br k ≤ o' → o' ≤ z_oe S k → ¬ z_tell S a b br (nI k) (z_c t) (z_c m') (z_c o')) → qV Γ rm_X4_tryActs 13 155 [(0, .ref (q_ad Γ 35 0)), (1, .int br), (2, .int lt), (3, .int fo), (4, .int (nI k)), (5, .int U), (6, .int te), (7, .int me), (8, .int oe), (9, .int ty), (10, .int mb)] [] S (0, 0) := by
      intro k t U te me oe ty hk hts ht eU ety eme eoe hK n
      have hm6 : z_me k ≤ 6 := by unfold z_me; split <;> omega
      induction n with
      | zero =>
        intro mm mb hmn hms emb hall
        refine q_iload hC 10 dX4_tryActs_155 rfl rfl ?_
        refine q_iload hC 7 dX4_tryActs_157 rfl rfl ?_
        refine q_icmp_gt hC dX4_tryActs_159 (t := 308) (n := 162) (by decide) rfl (fun h159 => ?_) (fun h159 => absurd (by rw [eme, emb]; exact (z_clt _ (by omega) _ (by omega)).mpr (by omega)) h159)
        refine q_locp [0, 1, 2, 3, 4, 5, 6, 7, 8, 9] (ls' := [(0, _), (1, _), (2, _), (3, _), (4, _), (5, _), (6, _), (7, _), (8, _), (9, _)]) rfl ?_
        exact hK (fun m' h1 h2 => hall m' h1 (by omega))
      | succ n ih =>
        intro mm mb hmn hms emb hall
        have hnext : (((mm = 0 ∨ ¬ z_has (z_wt S a (nI k) br) (z_c mm) = 0)) → ∀ o', z_os S br k ≤ o' → o' ≤ z_oe S k → ¬ z_tell S a b br (nI k) (z_c t) (z_c mm) (z_c o')) → qV Γ rm_X4_tryActs 13 302 [(0, .ref (q_ad Γ 35 0)), (1, .int br), (2, .int lt), (3, .int fo), (4, .int (nI k)), (5, .int U), (6, .int te), (7, .int me), (8, .int oe), (9, .int ty), (10, .int mb)] [] S (0, 0) := by
          intro hP
          refine q_iinc hC 10 dX4_tryActs_302 rfl (v := z_c (mm + 1)) (by rw [emb]; exact z_cinc mm) (by decide) (ls' := [(0, _), (1, _), (2, _), (3, _), (4, _), (5, _), (6, _), (7, _), (8, _), (9, _), (10, _)]) rfl rfl ?_
          refine q_goto hC dX4_tryActs_305 (n := 155) (by decide) ?_
          exact ih (mm + 1) _ (by omega) (by omega) rfl (fun m' h1 h2 => by
            rcases Nat.lt_or_ge m' mm with h | h
            · exact hall m' h1 h
            · obtain rfl : m' = mm := by omega
              exact hP)
        refine q_iload hC 10 dX4_tryActs_155 rfl rfl ?_
        refine q_iload hC 7 dX4_tryActs_157 rfl rfl ?_
        refine q_icmp_gt hC dX4_tryActs_159 (t := 308) (n := 162) (by decide) rfl (fun h159 => absurd h159 (fun hh => absurd ((z_clt _ (by omega) _ (by omega)).mp (emb ▸ eme ▸ hh)) (by omega))) (fun h159 => ?_)
        refine q_iload hC 10 dX4_tryActs_162 rfl rfl ?_
        refine q_iconst hC dX4_tryActs_164 (v := (-1)) (by decide) rfl ?_
        refine q_icmp_eq hC dX4_tryActs_165 (t := 181) (n := 168) (by decide) rfl (fun h165 => ?_) (fun h165 => ?_)
        · refine q_iload hC 4 dX4_tryActs_181 rfl rfl ?_
          refine q_callSN hC (c_X9_hasObject (q_hD hC)) m_X9_hasObject ln_X4_103 dX4_tryActs_183 (nI k) rfl rfl (Nat.le_of_ble_eq_true rfl) ⟨⟨by decide, by decide⟩, by decide, by decide⟩ rfl (k' := (0, 0)) rfl trivial (fun v S' hp => ?_)
          obtain ⟨r183_2, rfl, hr183_2, rfl⟩ := hp
          show qV Γ _ _ 186 _ (.int _ :: _) _ _
          refine q_if_eq hC dX4_tryActs_186 (t := 193) (n := 189) (by decide) rfl (fun h186 => ?_) (fun h186 => ?_)
          · refine q_iconst hC dX4_tryActs_193 (v := (-1)) (by decide) rfl ?_
            refine q_istore hC dX4_tryActs_194 (by decide) (ls' := [(0, _), (1, _), (2, _), (3, _), (4, _), (5, _), (6, _), (7, _), (8, _), (9, _), (10, _), (11, _)]) rfl rfl ?_
            exact JO k t mm U te me oe ty mb hk ht ⟨hms, by omega, by subst hr183_2; first | exact Or.inr (by rw [← emb, ← eU]; assumption) | exact Or.inl (z_c0i (by omega) (emb.symm.trans (by assumption)))⟩ hts ety emb eoe (fun hh => hnext (fun _ => hh)) _ (z_os S br k) _ (Nat.add_sub_cancel' (z_osoe (S := S) (br := br) (k := k))) (Nat.le_refl _) (by subst hr183_2; unfold z_os; first | (rw [if_pos (by assumption)]; exact z_c0.symm) | (rw [if_neg (by assumption), z_cs]; exact hfo)) (fun o' h1 h2 => absurd h1 (by omega))
          · refine q_iload_n hC 3 dX4_tryActs_189 rfl rfl ?_
            refine q_goto hC dX4_tryActs_190 (n := 194) (by decide) ?_
            refine q_istore hC dX4_tryActs_194 (by decide) (ls' := [(0, _), (1, _), (2, _), (3, _), (4, _), (5, _), (6, _), (7, _), (8, _), (9, _), (10, _), (11, _)]) rfl rfl ?_
            exact JO k t mm U te me oe ty mb hk ht ⟨hms, by omega, by subst hr183_2; first | exact Or.inr (by rw [← emb, ← eU]; assumption) | exact Or.inl (z_c0i (by omega) (emb.symm.trans (by assumption)))⟩ hts ety emb eoe (fun hh => hnext (fun _ => hh)) _ (z_os S br k) _ (Nat.add_sub_cancel' (z_osoe (S := S) (br := br) (k := k))) (Nat.le_refl _) (by subst hr183_2; unfold z_os; first | (rw [if_pos (by assumption)]; exact z_c0.symm) | (rw [if_neg (by assumption), z_cs]; exact hfo)) (fun o' h1 h2 => absurd h1 (by omega))
        · refine q_iload hC 5 dX4_tryActs_168 rfl rfl ?_
          refine q_iload hC 10 dX4_tryActs_170 rfl rfl ?_
          refine q_callSN hC (c_X9_has (q_hD hC)) m_X9_has ln_X4_81 dX4_tryActs_172 (U, mb) rfl rfl (Nat.le_of_ble_eq_true rfl) ⟨⟨by decide, by decide⟩, by decide, by decide⟩ rfl (k' := (0, 0)) rfl trivial (fun v S' hp => ?_)
          obtain ⟨r172_4, rfl, hr172_4, rfl⟩ := hp
          show qV Γ _ _ 175 _ (.int _ :: _) _ _
          refine q_if_ne hC dX4_tryActs_175 (t := 181) (n := 178) (by decide) rfl (fun h175 => ?_) (fun h175 => ?_)
          · refine q_iload hC 4 dX4_tryActs_181 rfl rfl ?_
            refine q_callSN hC (c_X9_hasObject (q_hD hC)) m_X9_hasObject ln_X4_103 dX4_tryActs_183 (nI k) rfl rfl (Nat.le_of_ble_eq_true rfl) ⟨⟨by decide, by decide⟩, by decide, by decide⟩ rfl (k' := (0, 0)) rfl trivial (fun v S' hp => ?_)
            obtain ⟨r183_6, rfl, hr183_6, rfl⟩ := hp
            show qV Γ _ _ 186 _ (.int _ :: _) _ _
            refine q_if_eq hC dX4_tryActs_186 (t := 193) (n := 189) (by decide) rfl (fun h186 => ?_) (fun h186 => ?_)
            · refine q_iconst hC dX4_tryActs_193 (v := (-1)) (by decide) rfl ?_
              refine q_istore hC dX4_tryActs_194 (by decide) (ls' := [(0, _), (1, _), (2, _), (3, _), (4, _), (5, _), (6, _), (7, _), (8, _), (9, _), (10, _), (11, _)]) rfl rfl ?_
              exact JO k t mm U te me oe ty mb hk ht ⟨hms, by omega, by subst hr172_4 hr183_6; first | exact Or.inr (by rw [← emb, ← eU]; assumption) | exact Or.inl (z_c0i (by omega) (emb.symm.trans (by assumption)))⟩ hts ety emb eoe (fun hh => hnext (fun _ => hh)) _ (z_os S br k) _ (Nat.add_sub_cancel' (z_osoe (S := S) (br := br) (k := k))) (Nat.le_refl _) (by subst hr172_4 hr183_6; unfold z_os; first | (rw [if_pos (by assumption)]; exact z_c0.symm) | (rw [if_neg (by assumption), z_cs]; exact hfo)) (fun o' h1 h2 => absurd h1 (by omega))
            · refine q_iload_n hC 3 dX4_tryActs_189 rfl rfl ?_
              refine q_goto hC dX4_tryActs_190 (n := 194) (by decide) ?_
              refine q_istore hC dX4_tryActs_194 (by decide) (ls' := [(0, _), (1, _), (2, _), (3, _), (4, _), (5, _), (6, _), (7, _), (8, _), (9, _), (10, _), (11, _)]) rfl rfl ?_
              exact JO k t mm U te me oe ty mb hk ht ⟨hms, by omega, by subst hr172_4 hr183_6; first | exact Or.inr (by rw [← emb, ← eU]; assumption) | exact Or.inl (z_c0i (by omega) (emb.symm.trans (by assumption)))⟩ hts ety emb eoe (fun hh => hnext (fun _ => hh)) _ (z_os S br k) _ (Nat.add_sub_cancel' (z_osoe (S := S) (br := br) (k := k))) (Nat.le_refl _) (by subst hr172_4 hr183_6; unfold z_os; first | (rw [if_pos (by assumption)]; exact z_c0.symm) | (rw [if_neg (by assumption), z_cs]; exact hfo)) (fun o' h1 h2 => absurd h1 (by omega))
          · refine q_goto hC dX4_tryActs_178 (n := 302) (by decide) ?_
            exact hnext (fun hh => by
              subst hr172_4
              exact absurd (by assumption) (hh.elim (fun z => by subst z; exact absurd emb (by rw [z_c0]; assumption)) (fun z => by rw [← emb, ← eU] at z; exact z)))
    have JT : ∀ (k : Nat) (U te me oe : Int32), k < 9 → U = z_wt S a (nI k) br → te = z_c (z_te S k) → me = z_c (z_me k) → oe = z_c (z_oe S k) →
        ((∀ t', z_ts k ≤ t' → t' ≤ z_te S k → ∀ m', z_ms k ≤ m' → m' ≤ z_me k → (m' = 0 ∨ ¬ z_has (z_wt S a (nI k) br) (z_c m') = 0) → ∀ o', z_os S br k ≤ o' → o' ≤ z_oe S k → ¬ z_tell S a b br (nI k) (z_c t') (z_c m') (z_c o')) → qV Γ rm_X4_tryActs 13 314 [(0, .ref (q_ad Γ 35 0)), (1, .int br), (2, .int lt), (3, .int fo), (4, .int (nI k)), (5, .int U), (6, .int te), (7, .int me), (8, .int oe)] [] S (0, 0)) →
        ∀ (n t : Nat) (ty : Int32), t + n = z_te S k + 1 → z_ts k ≤ t → ty = z_c t → (∀ t', z_ts k ≤ t' → t' < t → ∀ m', z_ms k ≤ m' → m' ≤ z_me k → (m' = 0 ∨ ¬ z_has (z_wt S a (nI k) br) (z_c m') = 0) → ∀ o', z_os S br k ≤ o' → o' ≤ z_oe S k → ¬ z_tell S a b br (nI k) (z_c t') (z_c m') (z_c o')) → qV Γ rm_X4_tryActs 13 133 [(0, .ref (q_ad Γ 35 0)), (1, .int br), (2, .int lt), (3, .int fo), (4, .int (nI k)), (5, .int U), (6, .int te), (7, .int me), (8, .int oe), (9, .int ty)] [] S (0, 0) := by
      intro k U te me oe hk eU ete eme eoe hK n
      have ht6 : z_te S k ≤ 6 := by have := z_lt9_r (S := S); unfold z_te; split <;> omega
      induction n with
      | zero =>
        intro t ty htn hts ety hall
        refine q_iload hC 9 dX4_tryActs_133 rfl rfl ?_
        refine q_iload hC 6 dX4_tryActs_135 rfl rfl ?_
        refine q_icmp_gt hC dX4_tryActs_137 (t := 314) (n := 140) (by decide) rfl (fun h137 => ?_) (fun h137 => absurd (by rw [ete, ety]; exact (z_clt _ (by omega) _ (by omega)).mpr (by omega)) h137)
        refine q_locp [0, 1, 2, 3, 4, 5, 6, 7, 8] (ls' := [(0, _), (1, _), (2, _), (3, _), (4, _), (5, _), (6, _), (7, _), (8, _)]) rfl ?_
        exact hK (fun t' h1 h2 => hall t' h1 (by omega))
      | succ n ih =>
        intro t ty htn hts ety hall
        have hnext : (∀ m', z_ms k ≤ m' → m' ≤ z_me k → (m' = 0 ∨ ¬ z_has (z_wt S a (nI k) br) (z_c m') = 0) → ∀ o', z_os S br k ≤ o' → o' ≤ z_oe S k → ¬ z_tell S a b br (nI k) (z_c t) (z_c m') (z_c o')) → qV Γ rm_X4_tryActs 13 308 [(0, .ref (q_ad Γ 35 0)), (1, .int br), (2, .int lt), (3, .int fo), (4, .int (nI k)), (5, .int U), (6, .int te), (7, .int me), (8, .int oe), (9, .int ty)] [] S (0, 0) := by
          intro hP
          refine q_iinc hC 9 dX4_tryActs_308 rfl (v := z_c (t + 1)) (by rw [ety]; exact z_cinc t) (by decide) (ls' := [(0, _), (1, _), (2, _), (3, _), (4, _), (5, _), (6, _), (7, _), (8, _), (9, _)]) rfl rfl ?_
          refine q_goto hC dX4_tryActs_311 (n := 133) (by decide) ?_
          exact ih (t + 1) _ (by omega) (by omega) rfl (fun t' h1 h2 => by
            rcases Nat.lt_or_ge t' t with h | h
            · exact hall t' h1 h
            · obtain rfl : t' = t := by omega
              exact hP)
        refine q_iload hC 9 dX4_tryActs_133 rfl rfl ?_
        refine q_iload hC 6 dX4_tryActs_135 rfl rfl ?_
        refine q_icmp_gt hC dX4_tryActs_137 (t := 314) (n := 140) (by decide) rfl (fun h137 => absurd h137 (fun hh => absurd ((z_clt _ (by omega) _ (by omega)).mp (ety ▸ ete ▸ hh)) (by omega))) (fun h137 => ?_)
        refine q_iload hC 4 dX4_tryActs_140 rfl rfl ?_
        refine q_callSN hC (c_X9_hasMember (q_hD hC)) m_X9_hasMember ln_X4_96 dX4_tryActs_142 (nI k) rfl rfl (Nat.le_of_ble_eq_true rfl) ⟨⟨by decide, by decide⟩, by decide, by decide⟩ rfl (k' := (0, 0)) rfl trivial (fun v S' hp => ?_)
        obtain ⟨r142_1, rfl, hr142_1, rfl⟩ := hp
        show qV Γ _ _ 145 _ (.int _ :: _) _ _
        refine q_if_eq hC dX4_tryActs_145 (t := 152) (n := 148) (by decide) rfl (fun h145 => ?_) (fun h145 => ?_)
        · refine q_iconst hC dX4_tryActs_152 (v := (-1)) (by decide) rfl ?_
          refine q_istore hC dX4_tryActs_153 (by decide) (ls' := [(0, _), (1, _), (2, _), (3, _), (4, _), (5, _), (6, _), (7, _), (8, _), (9, _), (10, _)]) rfl rfl ?_
          exact JM k t U te me oe ty hk hts (by omega) eU ety eme eoe hnext _ (z_ms k) _ (Nat.add_sub_cancel' z_mse) (Nat.le_refl _) (by subst hr142_1; unfold z_ms; first | (rw [if_pos (by assumption)]; exact z_c0.symm) | (rw [if_neg (by assumption), z_cs]; rfl)) (fun m' h1 h2 => absurd h1 (by omega))
        · refine q_iconst hC dX4_tryActs_148 (v := 0) (by decide) rfl ?_
          refine q_goto hC dX4_tryActs_149 (n := 153) (by decide) ?_
          refine q_istore hC dX4_tryActs_153 (by decide) (ls' := [(0, _), (1, _), (2, _), (3, _), (4, _), (5, _), (6, _), (7, _), (8, _), (9, _), (10, _)]) rfl rfl ?_
          exact JM k t U te me oe ty hk hts (by omega) eU ety eme eoe hnext _ (z_ms k) _ (Nat.add_sub_cancel' z_mse) (Nat.le_refl _) (by subst hr142_1; unfold z_ms; first | (rw [if_pos (by assumption)]; exact z_c0.symm) | (rw [if_neg (by assumption), z_cs]; rfl)) (fun m' h1 h2 => absurd h1 (by omega))
    have JK : ∀ (n k : Nat), k + n = 9 → (∀ k', k' < k → ∀ t' m' o', z_E S a br k' t' m' o' → ¬ z_tell S a b br (nI k') (z_c t') (z_c m') (z_c o')) → qV Γ rm_X4_tryActs 13 39 [(0, .ref (q_ad Γ 35 0)), (1, .int br), (2, .int lt), (3, .int fo), (4, .int (nI k))] [] S (0, 0) := by
      intro n
      induction n with
      | zero =>
        intro k hkn hall
        obtain rfl : k = 9 := by omega
        refine q_iload hC 4 dX4_tryActs_39 rfl rfl ?_
        refine q_getsKN hC fn_X4_88 dX4_tryActs_41 rfl ?_
        refine q_klen hC dX4_tryActs_44 rfl ?_
        refine q_icmp_ge hC dX4_tryActs_45 (t := 320) (n := 48) (by decide) rfl (fun h45 => ?_) (fun h45 => absurd (by decide) h45)
        refine q_vret hC dX4_tryActs_320 ⟨by decide, by decide⟩ ⟨rfl, ?_⟩
        exact Or.inr ⟨rfl, fun _ k t m o hE => hall k hE.1 t m o hE⟩
      | succ n ih =>
        intro k hkn hall
        have hk : k < 9 := by omega
        have hnext : (∀ t' m' o', z_E S a br k t' m' o' → ¬ z_tell S a b br (nI k) (z_c t') (z_c m') (z_c o')) → qV Γ rm_X4_tryActs 13 314 [(0, .ref (q_ad Γ 35 0)), (1, .int br), (2, .int lt), (3, .int fo), (4, .int (nI k))] [] S (0, 0) := by
          intro hP
          refine q_iinc hC 4 dX4_tryActs_314 rfl (v := nI (k + 1)) (z_inc k) (by decide) (ls' := [(0, _), (1, _), (2, _), (3, _), (4, _)]) rfl rfl ?_
          refine q_goto hC dX4_tryActs_317 (n := 39) (by decide) ?_
          exact ih (k + 1) (by omega) (fun k' h1 => by
            rcases Nat.lt_or_ge k' k with h | h
            · exact hall k' h
            · obtain rfl : k' = k := by omega
              exact hP)
        have J73 : ∀ U : Int32, U = z_wt S a (nI k) br → qV Γ rm_X4_tryActs 13 73 [(0, .ref (q_ad Γ 35 0)), (1, .int br), (2, .int lt), (3, .int fo), (4, .int (nI k)), (5, .int U)] [] S (0, 0) := by
          intro U eU
          have J118 : ∀ te me oe : Int32, te = z_c (z_te S k) → me = z_c (z_me k) → oe = z_c (z_oe S k) → qV Γ rm_X4_tryActs 13 118 [(0, .ref (q_ad Γ 35 0)), (1, .int br), (2, .int lt), (3, .int fo), (4, .int (nI k)), (5, .int U), (6, .int te), (7, .int me), (8, .int oe)] [] S (0, 0) := by
            intro te me oe ete eme eoe
            refine q_iload hC 4 dX4_tryActs_118 rfl rfl ?_
            refine q_callSN hC (c_X9_hasType (q_hD hC)) m_X9_hasType ln_X4_100 dX4_tryActs_120 (nI k) rfl rfl (Nat.le_of_ble_eq_true rfl) ⟨⟨by decide, by decide⟩, by decide, by decide⟩ rfl (k' := (0, 0)) rfl trivial (fun v S' hp => ?_)
            obtain ⟨r120_1, rfl, hr120_1, rfl⟩ := hp
            show qV Γ _ _ 123 _ (.int _ :: _) _ _
            refine q_if_eq hC dX4_tryActs_123 (t := 130) (n := 126) (by decide) rfl (fun h123 => ?_) (fun h123 => ?_)
            · refine q_iconst hC dX4_tryActs_130 (v := (-1)) (by decide) rfl ?_
              refine q_istore hC dX4_tryActs_131 (by decide) (ls' := [(0, _), (1, _), (2, _), (3, _), (4, _), (5, _), (6, _), (7, _), (8, _), (9, _)]) rfl rfl ?_
              refine JT k U te me oe hk eU ete eme eoe (fun hh => ?_) _ (z_ts k) _ (Nat.add_sub_cancel' z_tse) (Nat.le_refl _) (by subst hr120_1; unfold z_ts; first | (rw [if_pos (by assumption)]; exact z_c0.symm) | (rw [if_neg (by assumption), z_cs]; rfl)) (fun t' h1 h2 => absurd h1 (by omega))
              refine q_locp [0, 1, 2, 3, 4] (ls' := [(0, _), (1, _), (2, _), (3, _), (4, _)]) rfl ?_
              exact hnext (fun t' m' o' hE => hh t' hE.2.1.1 hE.2.1.2 m' hE.2.2.1.1 hE.2.2.1.2.1 hE.2.2.1.2.2 o' hE.2.2.2.1 hE.2.2.2.2)
            · refine q_iconst hC dX4_tryActs_126 (v := 0) (by decide) rfl ?_
              refine q_goto hC dX4_tryActs_127 (n := 131) (by decide) ?_
              refine q_istore hC dX4_tryActs_131 (by decide) (ls' := [(0, _), (1, _), (2, _), (3, _), (4, _), (5, _), (6, _), (7, _), (8, _), (9, _)]) rfl rfl ?_
              refine JT k U te me oe hk eU ete eme eoe (fun hh => ?_) _ (z_ts k) _ (Nat.add_sub_cancel' z_tse) (Nat.le_refl _) (by subst hr120_1; unfold z_ts; first | (rw [if_pos (by assumption)]; exact z_c0.symm) | (rw [if_neg (by assumption), z_cs]; rfl)) (fun t' h1 h2 => absurd h1 (by omega))
              refine q_locp [0, 1, 2, 3, 4] (ls' := [(0, _), (1, _), (2, _), (3, _), (4, _)]) rfl ?_
              exact hnext (fun t' m' o' hE => hh t' hE.2.1.1 hE.2.1.2 m' hE.2.2.1.1 hE.2.2.1.2.1 hE.2.2.1.2.2 o' hE.2.2.2.1 hE.2.2.2.2)
          have J103 : ∀ te me : Int32, te = z_c (z_te S k) → me = z_c (z_me k) → qV Γ rm_X4_tryActs 13 103 [(0, .ref (q_ad Γ 35 0)), (1, .int br), (2, .int lt), (3, .int fo), (4, .int (nI k)), (5, .int U), (6, .int te), (7, .int me)] [] S (0, 0) := by
            intro te me ete eme
            refine q_iload hC 4 dX4_tryActs_103 rfl rfl ?_
            refine q_callSN hC (c_X9_hasObject (q_hD hC)) m_X9_hasObject ln_X4_103 dX4_tryActs_105 (nI k) rfl rfl (Nat.le_of_ble_eq_true rfl) ⟨⟨by decide, by decide⟩, by decide, by decide⟩ rfl (k' := (0, 0)) rfl trivial (fun v S' hp => ?_)
            obtain ⟨r105_1, rfl, hr105_1, rfl⟩ := hp
            show qV Γ _ _ 108 _ (.int _ :: _) _ _
            refine q_if_eq hC dX4_tryActs_108 (t := 115) (n := 111) (by decide) rfl (fun h108 => ?_) (fun h108 => ?_)
            · refine q_iconst hC dX4_tryActs_115 (v := (-1)) (by decide) rfl ?_
              refine q_istore hC dX4_tryActs_116 (by decide) (ls' := [(0, _), (1, _), (2, _), (3, _), (4, _), (5, _), (6, _), (7, _), (8, _)]) rfl rfl ?_
              exact J118 _ _ _ ete eme (by subst hr105_1; unfold z_oe; first | (rw [if_pos (by assumption)]; exact z_c0.symm) | (rw [if_neg (by assumption), z_cs]; exact hlt) | (rw [if_neg (by assumption)]; rfl))
            · refine q_iload_n hC 2 dX4_tryActs_111 rfl rfl ?_
              refine q_goto hC dX4_tryActs_112 (n := 116) (by decide) ?_
              refine q_istore hC dX4_tryActs_116 (by decide) (ls' := [(0, _), (1, _), (2, _), (3, _), (4, _), (5, _), (6, _), (7, _), (8, _)]) rfl rfl ?_
              exact J118 _ _ _ ete eme (by subst hr105_1; unfold z_oe; first | (rw [if_pos (by assumption)]; exact z_c0.symm) | (rw [if_neg (by assumption), z_cs]; exact hlt) | (rw [if_neg (by assumption)]; rfl))
          have J88 : ∀ te : Int32, te = z_c (z_te S k) → qV Γ rm_X4_tryActs 13 88 [(0, .ref (q_ad Γ 35 0)), (1, .int br), (2, .int lt), (3, .int fo), (4, .int (nI k)), (5, .int U), (6, .int te)] [] S (0, 0) := by
            intro te ete
            refine q_iload hC 4 dX4_tryActs_88 rfl rfl ?_
            refine q_callSN hC (c_X9_hasMember (q_hD hC)) m_X9_hasMember ln_X4_96 dX4_tryActs_90 (nI k) rfl rfl (Nat.le_of_ble_eq_true rfl) ⟨⟨by decide, by decide⟩, by decide, by decide⟩ rfl (k' := (0, 0)) rfl trivial (fun v S' hp => ?_)
            obtain ⟨r90_1, rfl, hr90_1, rfl⟩ := hp
            show qV Γ _ _ 93 _ (.int _ :: _) _ _
            refine q_if_eq hC dX4_tryActs_93 (t := 100) (n := 96) (by decide) rfl (fun h93 => ?_) (fun h93 => ?_)
            · refine q_iconst hC dX4_tryActs_100 (v := (-1)) (by decide) rfl ?_
              refine q_istore hC dX4_tryActs_101 (by decide) (ls' := [(0, _), (1, _), (2, _), (3, _), (4, _), (5, _), (6, _), (7, _)]) rfl rfl ?_
              exact J103 _ _ ete (by subst hr90_1; unfold z_me; first | (rw [if_pos (by assumption)]; exact z_c0.symm) | (rw [if_neg (by assumption), z_cs]; exact hlt) | (rw [if_neg (by assumption)]; rfl))
            · refine q_iconst hC dX4_tryActs_96 (v := 5) (by decide) rfl ?_
              refine q_goto hC dX4_tryActs_97 (n := 101) (by decide) ?_
              refine q_istore hC dX4_tryActs_101 (by decide) (ls' := [(0, _), (1, _), (2, _), (3, _), (4, _), (5, _), (6, _), (7, _)]) rfl rfl ?_
              exact J103 _ _ ete (by subst hr90_1; unfold z_me; first | (rw [if_pos (by assumption)]; exact z_c0.symm) | (rw [if_neg (by assumption), z_cs]; exact hlt) | (rw [if_neg (by assumption)]; rfl))
          refine q_iload hC 4 dX4_tryActs_73 rfl rfl ?_
          refine q_callSN hC (c_X9_hasType (q_hD hC)) m_X9_hasType ln_X4_100 dX4_tryActs_75 (nI k) rfl rfl (Nat.le_of_ble_eq_true rfl) ⟨⟨by decide, by decide⟩, by decide, by decide⟩ rfl (k' := (0, 0)) rfl trivial (fun v S' hp => ?_)
          obtain ⟨r75_1, rfl, hr75_1, rfl⟩ := hp
          show qV Γ _ _ 78 _ (.int _ :: _) _ _
          refine q_if_eq hC dX4_tryActs_78 (t := 85) (n := 81) (by decide) rfl (fun h78 => ?_) (fun h78 => ?_)
          · refine q_iconst hC dX4_tryActs_85 (v := (-1)) (by decide) rfl ?_
            refine q_istore hC dX4_tryActs_86 (by decide) (ls' := [(0, _), (1, _), (2, _), (3, _), (4, _), (5, _), (6, _)]) rfl rfl ?_
            exact J88 _ (by subst hr75_1; unfold z_te; first | (rw [if_pos (by assumption)]; exact z_c0.symm) | (rw [if_neg (by assumption), z_cs]; exact hlt) | (rw [if_neg (by assumption)]; rfl))
          · refine q_iload_n hC 2 dX4_tryActs_81 rfl rfl ?_
            refine q_goto hC dX4_tryActs_82 (n := 86) (by decide) ?_
            refine q_istore hC dX4_tryActs_86 (by decide) (ls' := [(0, _), (1, _), (2, _), (3, _), (4, _), (5, _), (6, _)]) rfl rfl ?_
            exact J88 _ (by subst hr75_1; unfold z_te; first | (rw [if_pos (by assumption)]; exact z_c0.symm) | (rw [if_neg (by assumption), z_cs]; exact hlt) | (rw [if_neg (by assumption)]; rfl))
        refine q_iload hC 4 dX4_tryActs_39 rfl rfl ?_
        refine q_getsKN hC fn_X4_88 dX4_tryActs_41 rfl ?_
        refine q_klen hC dX4_tryActs_44 rfl ?_
        refine q_icmp_ge hC dX4_tryActs_45 (t := 320) (n := 48) (by decide) rfl (fun h45 => absurd h45 (nI_ge hk (by decide))) (fun h45 => ?_)
        refine q_aload_n hC 0 dX4_tryActs_48 rfl rfl ?_
        refine q_iload hC 4 dX4_tryActs_49 rfl rfl ?_
        refine q_iload_n hC 1 dX4_tryActs_51 rfl rfl ?_
        refine q_callV hC (c_X4_worthTrying (q_hD hC)) m_X4_worthTrying lk_X4_92 dX4_tryActs_52 (a, nI k, br) rfl rfl rfl rfl rfl (Nat.le_of_ble_eq_true rfl) (Nat.le_of_ble_eq_true rfl) ⟨⟨by decide, by decide⟩, by decide, by decide⟩ rfl (k' := (0, 0)) rfl ⟨ha, hoa, ⟨k, hk, rfl⟩⟩ (fun v S' hp => ?_)
        obtain ⟨r52_1, rfl, hr52_1, rfl⟩ := hp
        show qV Γ _ _ 55 _ (.int _ :: _) _ _
        refine q_istore hC dX4_tryActs_55 (by decide) (ls' := [(0, _), (1, _), (2, _), (3, _), (4, _), (5, _)]) rfl rfl ?_
        refine q_iload hC 5 dX4_tryActs_57 rfl rfl ?_
        refine q_if_ne hC dX4_tryActs_59 (t := 73) (n := 62) (by decide) rfl (fun h59 => ?_) (fun h59 => ?_)
        · exact J73 _ (by subst hr52_1; rfl)
        · refine q_iload hC 4 dX4_tryActs_62 rfl rfl ?_
          refine q_callSN hC (c_X9_hasMember (q_hD hC)) m_X9_hasMember ln_X4_96 dX4_tryActs_64 (nI k) rfl rfl (Nat.le_of_ble_eq_true rfl) ⟨⟨by decide, by decide⟩, by decide, by decide⟩ rfl (k' := (0, 0)) rfl trivial (fun v S' hp => ?_)
          obtain ⟨r64_3, rfl, hr64_3, rfl⟩ := hp
          show qV Γ _ _ 67 _ (.int _ :: _) _ _
          refine q_if_eq hC dX4_tryActs_67 (t := 73) (n := 70) (by decide) rfl (fun h67 => ?_) (fun h67 => ?_)
          · exact J73 _ (by subst hr52_1 hr64_3; rfl)
          · refine q_goto hC dX4_tryActs_70 (n := 314) (by decide) ?_
            refine q_locp [0, 1, 2, 3, 4] (ls' := [(0, _), (1, _), (2, _), (3, _), (4, _)]) rfl ?_
            exact hnext (fun t' m' o' hE => absurd hE.2.2.1.2.2 (by
              subst hr52_1 hr64_3
              have hz : z_wt S a (nI k) br = 0 := by assumption
              have h1 := hE.2.2.1.1
              unfold z_ms at h1
              rw [if_neg (by assumption)] at h1
              rw [hz, z_has0]
              exact fun z => z.elim (fun z => absurd h1 (by omega)) (fun z => z rfl)))
    refine q_iconst hC dX4_tryActs_36 (v := 0) (by decide) rfl ?_
    refine q_istore hC dX4_tryActs_37 (by decide) (ls' := [(0, _), (1, _), (2, _), (3, _), (4, _)]) rfl rfl ?_
    exact JK 9 0 (by omega) (fun k' h => absurd h (by omega))
  show qV Γ _ _ 0 [(0, .ref (q_ad Γ 35 0)), (1, .int br)] [] S (0, 0)
  refine q_aload_n hC 0 dX4_tryActs_0 rfl rfl ?_
  refine q_get_f hC f_X4_21 dX4_tryActs_1 rfl rfl (Nat.le_of_ble_eq_true rfl) rfl ?_
  refine q_get_f hC f_X4_84 dX4_tryActs_4 rfl rfl (Nat.le_of_ble_eq_true rfl) rfl ?_
  refine q_if_eq hC dX4_tryActs_7 (t := 14) (n := 10) (by decide) rfl (fun h7 => ?_) (fun h7 => ?_)
  · refine q_iconst hC dX4_tryActs_14 (v := 4) (by decide) rfl ?_
    refine q_istore_n hC dX4_tryActs_15 (by decide) (ls' := [(0, _), (1, _), (2, _)]) rfl rfl ?_
    refine q_aload_n hC 0 dX4_tryActs_16 rfl rfl ?_
    refine q_get_f hC f_X4_21 dX4_tryActs_17 rfl rfl (Nat.le_of_ble_eq_true rfl) rfl ?_
    refine q_get_f hC f_X4_84 dX4_tryActs_20 rfl rfl (Nat.le_of_ble_eq_true rfl) rfl ?_
    refine q_if_eq hC dX4_tryActs_23 (t := 34) (n := 26) (by decide) rfl (fun _ => ?_) (fun h => (by first | exact absurd h h7 | exact absurd h7 h))
    refine q_iconst hC dX4_tryActs_34 (v := 0) (by decide) rfl ?_
    refine q_istore_n hC dX4_tryActs_35 (by decide) (ls' := [(0, _), (1, _), (2, _), (3, _)]) rfl rfl ?_
    exact J36 _ _ (by unfold z_lt9; simp only [if_pos h7]; rfl) (by unfold z_fo; simp only [if_pos h7]; rfl)
  · refine q_iconst hC dX4_tryActs_10 (v := 5) (by decide) rfl ?_
    refine q_goto hC dX4_tryActs_11 (n := 15) (by decide) ?_
    refine q_istore_n hC dX4_tryActs_15 (by decide) (ls' := [(0, _), (1, _), (2, _)]) rfl rfl ?_
    refine q_aload_n hC 0 dX4_tryActs_16 rfl rfl ?_
    refine q_get_f hC f_X4_21 dX4_tryActs_17 rfl rfl (Nat.le_of_ble_eq_true rfl) rfl ?_
    refine q_get_f hC f_X4_84 dX4_tryActs_20 rfl rfl (Nat.le_of_ble_eq_true rfl) rfl ?_
    refine q_if_eq hC dX4_tryActs_23 (t := 34) (n := 26) (by decide) rfl (fun h => (by first | exact absurd h h7 | exact absurd h7 h)) (fun _ => ?_)
    refine q_iload_n hC 1 dX4_tryActs_26 rfl rfl ?_
    refine q_if_ne hC dX4_tryActs_27 (t := 34) (n := 30) (by decide) rfl (fun h27 => ?_) (fun h27 => ?_)
    · refine q_iconst hC dX4_tryActs_34 (v := 0) (by decide) rfl ?_
      refine q_istore_n hC dX4_tryActs_35 (by decide) (ls' := [(0, _), (1, _), (2, _), (3, _)]) rfl rfl ?_
      exact J36 _ _ (by unfold z_lt9; simp only [if_neg h7, if_neg h27]; rfl) (by unfold z_fo; simp only [if_neg h7, if_neg h27]; rfl)
    · refine q_iconst hC dX4_tryActs_30 (v := 5) (by decide) rfl ?_
      refine q_goto hC dX4_tryActs_31 (n := 35) (by decide) ?_
      refine q_istore_n hC dX4_tryActs_35 (by decide) (ls' := [(0, _), (1, _), (2, _), (3, _)]) rfl rfl ?_
      exact J36 _ _ (by unfold z_lt9; simp only [if_neg h7, if_pos h27]; rfl) (by unfold z_fo; simp only [if_neg h7, if_pos h27]; rfl)
