-- printed by wip/p36/gen_m2.py
abbrev rm_X9_doesLeastTell : Room := { frames := 4, cells := 0, slots := 0, locals := 99 }
set_option maxHeartbeats 4000000 in
set_option maxRecDepth 100000 in
theorem c_X9_doesLeastTell {L : qL} (hD : q_D L.2.2.2.1) : qCT L yX9_doesLeastTell cX9_doesLeastTell 3 (some .boolean) rm_X9_doesLeastTell (fun ad _ (x : qM × Nat × Nat) => [.ref (ad 36 0), .int (nI x.2.1), .int (nI x.2.2)]) (fun x S => x.2.1 < 4 ∧ x.2.2 < 4 ∧ z_lib x.1 x.2.1 ∧ z_lib x.1 x.2.2 ∧ z_cur x.1 S x.2.1 ∧ z_cur x.1 S x.2.2 ∧ ∃ f L s k t m o, z_Xs f L s ∧ z_V L k t m o ∧ z_tells x.1 x.2.1 x.2.2 f (nI k) (z_c t) (z_c m) (z_c o) ∧ z_cl1 S f k t m o) (qPi (fun x S r S' => r = 1 ∧ z_ltP x.1 S S' x.2.1 x.2.2)) := by
  refine q_met hD (by decide) (fun _ => Nat.le_of_ble_eq_true rfl) (fun Γ x S hΓ hpre hC => ?_)
  subst hΓ
  obtain ⟨B, a, b⟩ := x
  obtain ⟨ha, hb, la, lb, ca, cb, f, L, s, k, t, m, o, hX, hv, ht, hc⟩ := hpre
  have ha : a < 4 := ha
  have hb : b < 4 := hb
  have la : z_lib B a := la
  have lb : z_lib B b := lb
  have ca : z_cur B S a := ca
  have cb : z_cur B S b := cb
  have ht : z_tells B a b f (nI k) (z_c t) (z_c m) (z_c o) := ht
  have hc : z_cl1 S f k t m o := hc
  have hne : ¬ b = a := fun e => by rw [e] at ht; exact ht.2 ht.1
  obtain ⟨ho1, ha1, hr1⟩ := z_cl1_run la ca hX hv hc
  show qV Γ _ _ 0 [(0, .ref (q_ad Γ 36 0)), (1, .int (nI a)), (2, .int (nI b))] [] S (0, 0)
  refine q_aload_n hC 0 dX9_doesLeastTell_0 rfl rfl ?_
  refine q_get_f hC f_X9_35 dX9_doesLeastTell_1 rfl rfl (Nat.le_of_ble_eq_true rfl) rfl ?_
  refine q_aload_n hC 0 dX9_doesLeastTell_4 rfl rfl ?_
  refine q_get_f hC f_X9_41 dX9_doesLeastTell_5 rfl rfl (Nat.le_of_ble_eq_true rfl) rfl ?_
  refine q_get_f hC f_X9_259 dX9_doesLeastTell_8 rfl rfl (Nat.le_of_ble_eq_true rfl) rfl ?_
  refine q_aload_n hC 0 dX9_doesLeastTell_11 rfl rfl ?_
  refine q_get_f hC f_X9_11 dX9_doesLeastTell_12 rfl rfl (Nat.le_of_ble_eq_true rfl) rfl ?_
  refine q_iload_n hC 1 dX9_doesLeastTell_15 rfl rfl ?_
  refine q_lib hC a dX9_doesLeastTell_16 rfl ha rfl ?_
  refine q_callV hC (c_X8_follow (q_hD hC)) m_X8_follow lk_X9_238 dX9_doesLeastTell_17 (1, 4, a, 1) rfl rfl rfl rfl rfl (Nat.le_of_ble_eq_true rfl) (Nat.le_of_ble_eq_true rfl) ⟨⟨by decide, by decide⟩, by decide, by decide⟩ rfl (k' := (0, 0)) rfl ⟨(show 1 < 2 by decide), (show 4 < 5 by decide), ha, ca.2, ho1, (show 1 ≤ 8 by decide), ha1⟩ (fun v S' hp => ?_)
  obtain ⟨rfl, hS1⟩ := hp
  have hS1 : S' = z_folIt 1 4 a 1 0 (z_f0 1 4 a S) := hS1
  rw [← hS1] at hr1
  revert hr1
  generalize S' = T
  intro hr1
  obtain ⟨g1, -, hc1, ca1⟩ := z_cl1_goes hc hr1
  have cb1 : z_cur B T b := z_cur_out cb (fun k _ => hr1.2.2.1 k b (by omega) (by omega))
  obtain ⟨ho2, ha2, hr2⟩ := z_cl1_run lb cb1 hX hv hc1
  show qV Γ _ _ 20 _ _ _ _
  refine q_aload_n hC 0 dX9_doesLeastTell_20 rfl rfl ?_
  refine q_get_f hC f_X9_35 dX9_doesLeastTell_21 rfl rfl (Nat.le_of_ble_eq_true rfl) rfl ?_
  refine q_get_f hC f_X9_248 dX9_doesLeastTell_24 rfl rfl (Nat.le_of_ble_eq_true rfl) rfl ?_
  refine q_bipush hC dX9_doesLeastTell_27 (v := 45) (by decide) rfl ?_
  refine q_icmp_eq hC dX9_doesLeastTell_29 (t := 34) (n := 32) (by decide) rfl (fun h29 => ?_) (fun h29 => absurd (g1 ht.1) h29)
  refine q_aload_n hC 0 dX9_doesLeastTell_34 rfl rfl ?_
  refine q_get_f hC f_X9_35 dX9_doesLeastTell_35 rfl rfl (Nat.le_of_ble_eq_true rfl) rfl ?_
  refine q_aload_n hC 0 dX9_doesLeastTell_38 rfl rfl ?_
  refine q_get_f hC f_X9_41 dX9_doesLeastTell_39 rfl rfl (Nat.le_of_ble_eq_true rfl) rfl ?_
  refine q_get_f hC f_X9_259 dX9_doesLeastTell_42 rfl rfl (Nat.le_of_ble_eq_true rfl) rfl ?_
  refine q_aload_n hC 0 dX9_doesLeastTell_45 rfl rfl ?_
  refine q_get_f hC f_X9_11 dX9_doesLeastTell_46 rfl rfl (Nat.le_of_ble_eq_true rfl) rfl ?_
  refine q_iload_n hC 2 dX9_doesLeastTell_49 rfl rfl ?_
  refine q_lib hC b dX9_doesLeastTell_50 rfl hb rfl ?_
  refine q_callV hC (c_X8_follow (q_hD hC)) m_X8_follow lk_X9_238 dX9_doesLeastTell_51 (1, 4, b, 1) rfl rfl rfl rfl rfl (Nat.le_of_ble_eq_true rfl) (Nat.le_of_ble_eq_true rfl) ⟨⟨by decide, by decide⟩, by decide, by decide⟩ rfl (k' := (0, 0)) rfl ⟨(show 1 < 2 by decide), (show 4 < 5 by decide), hb, cb1.2, ho2, (show 1 ≤ 8 by decide), ha2⟩ (fun v S' hp => ?_)
  obtain ⟨rfl, hS2⟩ := hp
  have hS2 : S' = z_folIt 1 4 b 1 0 (z_f0 1 4 b T) := hS2
  rw [← hS2] at hr2
  obtain ⟨-, g2, -, cb2⟩ := z_cl1_goes hc1 hr2
  have ca2 : z_cur B S' a := z_cur_out ca1 (fun k _ => hr2.2.2.1 k a (by omega) (by omega))
  show qV Γ _ _ 54 _ _ _ _
  refine q_aload_n hC 0 dX9_doesLeastTell_54 rfl rfl ?_
  refine q_get_f hC f_X9_35 dX9_doesLeastTell_55 rfl rfl (Nat.le_of_ble_eq_true rfl) rfl ?_
  refine q_get_f hC f_X9_248 dX9_doesLeastTell_58 rfl rfl (Nat.le_of_ble_eq_true rfl) rfl ?_
  refine q_bipush hC dX9_doesLeastTell_61 (v := 45) (by decide) rfl ?_
  refine q_icmp_eq hC dX9_doesLeastTell_63 (t := 70) (n := 66) (by decide) rfl (fun h63 => absurd h63 (g2 ht.2)) (fun h63 => ?_)
  refine q_iconst hC dX9_doesLeastTell_66 (v := 1) (by decide) rfl ?_
  refine q_goto hC dX9_doesLeastTell_67 (n := 71) (by decide) ?_
  refine q_iret hC dX9_doesLeastTell_71 rfl ⟨by decide, by decide⟩ ⟨_, rfl, ?_⟩
  refine ⟨rfl, ca2, cb2, fun k i h1 h2 => ?_⟩
  have h1' : k < 27 → i ≠ a ∧ i ≠ b := h1
  rw [hr2.2.2.1 k i (by omega) h2, hr1.2.2.1 k i (by omega) h2]
/-- what keeps while the rows grow, apart from them: no release -/
def z_sK (S T : qM) : Prop := T 36 0 8 = S 36 0 8
theorem z_ns0 : ∀ s, 1 ≤ s → s ≤ 6 → ¬ nI s = (0 : Int32) := by
  intro s h1 h6
  have key : ∀ s, s < 7 → 1 ≤ s → ¬ nI s = (0 : Int32) := by decide +kernel
  exact key s (by omega) h1
abbrev rm_X9_areFittingsSound : Room := { frames := 6, cells := 0, slots := 0, locals := 146 }
set_option maxHeartbeats 4000000 in
set_option maxRecDepth 100000 in
theorem c_X9_areFittingsSound {L : qL} (hD : q_D L.2.2.2.1) : qCT L yX9_areFittingsSound cX9_areFittingsSound 4 (some .boolean) rm_X9_areFittingsSound (fun ad _ (x : Unit) => [.ref (ad 36 0)]) (fun _ S => ∃ B, z_sH B S 0) (qPi (fun _ S r S' => r = 1 ∧ z_sK S S' ∧ ∃ B, z_sH B S' 4)) := by
  refine q_met hD (by decide) (fun _ => Nat.le_of_ble_eq_true rfl) (fun Γ x S hΓ hpre hC => ?_)
  subst hΓ
  obtain ⟨B0, hH0⟩ := hpre
  have L1 : ∀ (n x : Nat) (B T : qM), x + n = 4 → z_sH B T x → z_sK S T → qV Γ rm_X9_areFittingsSound 4 2 [(0, .ref (q_ad Γ 36 0)), (1, .int (nI x))] [] T (0, 0) := by
    intro n
    induction n with
    | zero =>
      intro x B T hxn hI hK
      obtain rfl : x = 4 := by omega
      refine q_iload_n hC 1 dX9_areFittingsSound_2 rfl rfl ?_
      refine q_iconst hC dX9_areFittingsSound_3 (v := 4) (by decide) rfl ?_
      refine q_icmp_ge hC dX9_areFittingsSound_4 (t := 117) (n := 7) (by decide) rfl (fun h4 => ?_) (fun h4 => absurd (by decide) h4)
      refine q_iconst hC dX9_areFittingsSound_117 (v := 1) (by decide) rfl ?_
      refine q_iret hC dX9_areFittingsSound_118 rfl ⟨by decide, by decide⟩ ⟨_, rfl, ?_⟩
      exact ⟨rfl, hK, B, hI⟩
    | succ n ih =>
      intro x B T hxn hI hK
      have hx : x < 4 := by omega
      have L2 : ∀ (l y : Nat) (B T : qM), y + l = 4 → z_sI B T x y → z_sK S T → qV Γ rm_X9_areFittingsSound 4 16 [(0, .ref (q_ad Γ 36 0)), (1, .int (nI x)), (2, .int (nI y))] [] T (0, 0) := by
        intro l
        induction l with
        | zero =>
          intro y B T hyl hI hK
          obtain rfl : y = 4 := by omega
          refine q_iload_n hC 2 dX9_areFittingsSound_16 rfl rfl ?_
          refine q_iconst hC dX9_areFittingsSound_17 (v := 4) (by decide) rfl ?_
          refine q_icmp_ge hC dX9_areFittingsSound_18 (t := 111) (n := 21) (by decide) rfl (fun h18 => ?_) (fun h18 => absurd (by decide) h18)
          refine q_iinc hC 1 dX9_areFittingsSound_111 rfl (v := nI (x + 1)) (z_inc x) (by decide) (ls' := [(0, _), (1, _), (2, _)]) rfl rfl ?_
          refine q_goto hC dX9_areFittingsSound_114 (n := 2) (by decide) ?_
          refine q_locp [0, 1] (ls' := [(0, _), (1, _)]) rfl ?_
          exact ih (x + 1) B _ (by omega) (z_sI_end hx hI) hK
        | succ l ih2 =>
          intro y B T hyl hI hK
          have hy : y < 4 := by omega
          have hrx := z_sI_x hx hI
          have NX : ∀ (B U : qM), z_sI B U x (y + 1) → z_sK S U → qV Γ rm_X9_areFittingsSound 4 105 [(0, .ref (q_ad Γ 36 0)), (1, .int (nI x)), (2, .int (nI y))] [] U (0, 0) := by
            intro B U hU hKU
            refine q_iinc hC 2 dX9_areFittingsSound_105 rfl (v := nI (y + 1)) (z_inc y) (by decide) (ls' := [(0, _), (1, _), (2, _)]) rfl rfl ?_
            refine q_goto hC dX9_areFittingsSound_108 (n := 16) (by decide) ?_
            exact ih2 (y + 1) B _ (by omega) hU hKU
          have hJx : T 0 x 2 = 0 → z_raw T x ∧ z_wf T x ∧ z_s36 T x := fun e => absurd e hrx
          have hJy : T 0 y 2 = 0 → z_raw T y ∧ z_wf T y ∧ z_s36 T y := by
            intro e
            rcases hI.1 y hy with g | g
            · exact absurd e g.1
            · exact g.2
          refine q_iload_n hC 2 dX9_areFittingsSound_16 rfl rfl ?_
          refine q_iconst hC dX9_areFittingsSound_17 (v := 4) (by decide) rfl ?_
          refine q_icmp_ge hC dX9_areFittingsSound_18 (t := 111) (n := 21) (by decide) rfl (fun h18 => absurd h18 (nI_ge hy (by decide))) (fun h18 => ?_)
          refine q_aload_n hC 0 dX9_areFittingsSound_21 rfl rfl ?_
          refine q_get_f hC f_X9_11 dX9_areFittingsSound_22 rfl rfl (Nat.le_of_ble_eq_true rfl) rfl ?_
          refine q_iload_n hC 1 dX9_areFittingsSound_25 rfl rfl ?_
          refine q_lib hC x dX9_areFittingsSound_26 rfl hx rfl ?_
          refine q_callV hC (c_X5_law (q_hD hC)) m_X5_law lk_X9_148 dX9_areFittingsSound_27 (x, ()) rfl rfl rfl rfl rfl hx (Nat.le_of_ble_eq_true rfl) ⟨⟨by decide, by decide⟩, by decide, by decide⟩ rfl (k' := (0, 0)) rfl ⟨hx, hJx⟩ (fun v S' hp => ?_)
          obtain ⟨rx, rfl, erx, hqx⟩ := hp
          have e9 : T = S' := by
            rcases hqx with ⟨-, e⟩ | ⟨e, -⟩
            · exact e.symm
            · exact absurd e hrx
          subst e9
          have erx : rx = T 0 x 3 := erx
          show qV Γ _ _ 30 _ (.int _ :: _) _ _
          refine q_iconst hC dX9_areFittingsSound_30 (v := (-1)) (by decide) rfl ?_
          refine q_icmp_ne hC dX9_areFittingsSound_31 (t := 105) (n := 34) (by decide) rfl (fun h31 => ?_) (fun h31 => ?_)
          · refine NX B T (z_sI_skip hI (fun g => h31 (erx.trans g.1.2)) ?_) hK
            refine hI.2.2.1 y hy (Or.inr ?_)
            rcases Nat.eq_zero_or_pos x with e | e
            · subst e; exact absurd (erx.trans hI.2.1.2) h31
            · exact e
          · refine q_aload_n hC 0 dX9_areFittingsSound_34 rfl rfl ?_
            refine q_get_f hC f_X9_11 dX9_areFittingsSound_35 rfl rfl (Nat.le_of_ble_eq_true rfl) rfl ?_
            refine q_iload_n hC 2 dX9_areFittingsSound_38 rfl rfl ?_
            refine q_lib hC y dX9_areFittingsSound_39 rfl hy rfl ?_
            refine q_callV hC (c_X5_law (q_hD hC)) m_X5_law lk_X9_148 dX9_areFittingsSound_40 (y, ()) rfl rfl rfl rfl rfl hy (Nat.le_of_ble_eq_true rfl) ⟨⟨by decide, by decide⟩, by decide, by decide⟩ rfl (k' := (0, 0)) rfl ⟨hy, hJy⟩ (fun v S' hp => ?_)
            obtain ⟨ry, rfl, ery, hqy⟩ := hp
            obtain ⟨B1, hI1, hy2⟩ := z_sI_law hx hy hI hqy
            have ery : ry = S' 0 y 3 := ery
            have hK1 : z_sK S S' := by
              rcases hqy with ⟨-, e⟩ | ⟨-, l1, -⟩
              · rw [e]; exact hK
              · show S' 36 0 8 = S 36 0 8
                rw [l1 36 0 (by omega)]; exact hK
            have hx3 : x = y ∨ ¬ S' 0 x 2 = 0 := Or.inr (z_sI_x hx hI1)
            have rx1 : S' 0 x 3 = T 0 x 3 := by
              rcases hqy with ⟨-, e⟩ | ⟨e2, l1, -⟩
              · rw [e]
              · rw [l1 0 x (fun z => hrx (by rw [z.2]; exact e2))]
            revert hI1 hy2 ery hK1 hx3 rx1
            generalize S' = U
            intro hI1 hy2 ery hK1 hx3 rx1
            show qV Γ _ _ 43 _ (.int _ :: _) _ _
            refine q_iconst hC dX9_areFittingsSound_43 (v := (-1)) (by decide) rfl ?_
            refine q_icmp_eq hC dX9_areFittingsSound_44 (t := 50) (n := 47) (by decide) rfl (fun h44 => ?_) (fun h44 => ?_)
            · have rdx : z_rdy U x := ⟨z_sI_x hx hI1, by rw [rx1, ← erx]; exact h31⟩
              have rdy9 : z_rdy U y := ⟨hy2, ery.symm.trans h44⟩
              refine q_aload_n hC 0 dX9_areFittingsSound_50 rfl rfl ?_
              refine q_get_f hC f_X9_41 dX9_areFittingsSound_51 rfl rfl (Nat.le_of_ble_eq_true rfl) rfl ?_
              refine q_aload_n hC 0 dX9_areFittingsSound_54 rfl rfl ?_
              refine q_get_f hC f_X9_11 dX9_areFittingsSound_55 rfl rfl (Nat.le_of_ble_eq_true rfl) rfl ?_
              refine q_iload_n hC 1 dX9_areFittingsSound_58 rfl rfl ?_
              refine q_lib hC x dX9_areFittingsSound_59 rfl hx rfl ?_
              refine q_aload_n hC 0 dX9_areFittingsSound_60 rfl rfl ?_
              refine q_get_f hC f_X9_11 dX9_areFittingsSound_61 rfl rfl (Nat.le_of_ble_eq_true rfl) rfl ?_
              refine q_iload_n hC 2 dX9_areFittingsSound_64 rfl rfl ?_
              refine q_lib hC y dX9_areFittingsSound_65 rfl hy rfl ?_
              refine q_callV hC (c_X4_find (q_hD hC)) m_X4_find lk_X9_255 dX9_areFittingsSound_66 (x, y) rfl rfl rfl rfl rfl (Nat.le_of_ble_eq_true rfl) (Nat.le_of_ble_eq_true rfl) ⟨⟨by decide, by decide⟩, by decide, by decide⟩ rfl (k' := (0, 0)) rfl ⟨hx, hy, (z_st_rdy (hI1.1 x hx) rdx).2.2, (z_st_rdy (hI1.1 y hy) rdy9).2.2⟩ (fun v S' hp => ?_)
              obtain ⟨rr, rfl, hfd⟩ := hp
              obtain ⟨hI2, qx, qy, hTo, lx, ly, cx, cy⟩ := z_sI_find hx hy hI1 rdx rdy9 hfd
              have hK2 : z_sK S S' := by
                show S' 36 0 8 = S 36 0 8
                have e36 : S' 36 0 = (z_set35 x y U) 36 0 := hfd.1.1.2.2.1 36 0 (by omega) (by omega) (by omega) (by omega) (by omega)
                rw [e36, z_set35_o 36 0 (by omega)]; exact hK1
              revert hI2 qx qy hTo cx cy hK2
              generalize S' = W
              intro hI2 qx qy hTo cx cy hK2
              show qV Γ _ _ 69 _ (.int _ :: _) _ _
              refine q_istore_n hC dX9_areFittingsSound_69 (by decide) (ls' := [(0, _), (1, _), (2, _), (3, _)]) rfl rfl ?_
              refine q_iload_n hC 3 dX9_areFittingsSound_70 rfl rfl ?_
              refine q_if_ne hC dX9_areFittingsSound_71 (t := 89) (n := 74) (by decide) rfl (fun h71 => ?_) (fun h71 => ?_)
              · obtain ⟨s9, s1, s6, er, -, f, L, k, t, m, o, hX, hv, hte, hfo⟩ : ∃ s, 1 ≤ s ∧ s ≤ 6 ∧ rr = nI s ∧ z_Min B1 x y s ∧ ∃ f L k t m o, z_Xs f L s ∧ z_V L k t m o ∧ z_tells B1 x y f (nI k) (z_c t) (z_c m) (z_c o) ∧ z_found W f k t m o := hTo.elim (fun z => absurd z.1 h71) id
                have hnf : ¬ z_Fit B1 x y := fun g => g f L s9 hX k t m o hv hte
                have nxy : ¬ (nI x : Int32) = nI y := by
                  intro e
                  have exy : x = y := by
                    have h1 := congrArg Int32.toNatClampNeg e
                    rw [nI_clamp (by omega), nI_clamp (by omega)] at h1
                    exact h1
                  rw [exy] at hte
                  exact hte.2 hte.1
                refine q_iload_n hC 1 dX9_areFittingsSound_89 rfl rfl ?_
                refine q_iload_n hC 2 dX9_areFittingsSound_90 rfl rfl ?_
                refine q_icmp_eq hC dX9_areFittingsSound_91 (t := 103) (n := 94) (by decide) rfl (fun h91 => absurd h91 nxy) (fun h91 => ?_)
                refine q_aload_n hC 0 dX9_areFittingsSound_94 rfl rfl ?_
                refine q_iload_n hC 1 dX9_areFittingsSound_95 rfl rfl ?_
                refine q_iload_n hC 2 dX9_areFittingsSound_96 rfl rfl ?_
                refine q_callV hC (c_X9_doesLeastTell (q_hD hC)) m_X9_doesLeastTell lk_X9_301 dX9_areFittingsSound_97 (B1, x, y) rfl rfl rfl rfl rfl (Nat.le_of_ble_eq_true rfl) (Nat.le_of_ble_eq_true rfl) ⟨⟨by decide, by decide⟩, by decide, by decide⟩ rfl (k' := (0, 0)) rfl ⟨hx, hy, lx, ly, cx, cy, f, L, s9, k, t, m, o, hX, hv, hte, hfo.2⟩ (fun v S' hp => ?_)
                obtain ⟨r9, rfl, hr9, hlt⟩ := hp
                have hr9 : r9 = 1 := hr9
                subst hr9
                have hlt : z_ltP B1 W S' x y := hlt
                obtain ⟨hI4, -, -⟩ := z_sI_lt hx hy hI2 qx qy cx cy lx ly hlt
                have hK4 : z_sK S S' := by
                  show S' 36 0 8 = S 36 0 8
                  rw [hlt.2.2 36 0 (by omega) (by omega)]; exact hK2
                have nr4 : ¬ S' 0 y 2 = 0 := by
                  have h2 := (z_sI_lt hx hy hI2 qx qy cx cy lx ly hlt).2.2.1
                  exact h2
                show qV Γ _ _ 100 _ (.int _ :: _) _ _
                refine q_if_ne hC dX9_areFittingsSound_100 (t := 105) (n := 103) (by decide) rfl (fun h100 => ?_) (fun h100 => absurd h100 (by decide))
                refine q_locp [0, 1, 2] (ls' := [(0, _), (1, _), (2, _)]) rfl ?_
                exact NX B1 _ (z_sI_skip hI4 (fun g => hnf g.2.2) nr4) hK4
              · refine q_aload_n hC 0 dX9_areFittingsSound_74 rfl rfl ?_
                refine q_get_f hC f_X9_45 dX9_areFittingsSound_75 rfl rfl (Nat.le_of_ble_eq_true rfl) rfl ?_
                refine q_iload_n hC 1 dX9_areFittingsSound_78 rfl rfl ?_
                refine q_dup2 hC dX9_areFittingsSound_79 rfl rfl rfl ?_
                refine q_iald hC dX9_areFittingsSound_80 rfl (Nat.le_of_ble_eq_true rfl) (vp_in_nI hx (by decide)) rfl ?_
                refine q_iconst hC dX9_areFittingsSound_81 (v := 1) (by decide) rfl ?_
                refine q_iload_n hC 2 dX9_areFittingsSound_82 rfl rfl ?_
                refine q_ishl hC dX9_areFittingsSound_83 rfl ?_
                refine q_ior hC dX9_areFittingsSound_84 rfl ?_
                refine q_iast hC dX9_areFittingsSound_85 (fun _ => rfl) (Nat.le_of_ble_eq_true rfl) (vp_in_nI hx (by decide)) rfl ?_
                refine q_goto hC dX9_areFittingsSound_86 (n := 105) (by decide) ?_
                have hfit : z_Fit B1 x y := by
                  rcases hTo with ⟨-, hf⟩ | ⟨s, s1, s6, er, -⟩
                  · exact hf
                  · exact absurd (er.symm.trans h71) (z_ns0 s s1 s6)
                have hI3 := z_sI_bit hx hy hI2 qx qy hfit
                refine q_locp [0, 1, 2] (ls' := [(0, _), (1, _), (2, _)]) rfl ?_
                refine NX B1 _ ?_ ?_
                · rw [nI_clamp (show x < 2 ^ 31 by omega)]; exact hI3
                · show _ = S 36 0 8
                  simp (config := {decide := true}) only [q_up, false_and, if_false]; exact hK2
            · refine q_goto hC dX9_areFittingsSound_47 (n := 105) (by decide) ?_
              exact NX B1 U (z_sI_skip hI1 (fun g => h44 (ery.trans g.2.1.2)) hy2) hK1
      refine q_iload_n hC 1 dX9_areFittingsSound_2 rfl rfl ?_
      refine q_iconst hC dX9_areFittingsSound_3 (v := 4) (by decide) rfl ?_
      refine q_icmp_ge hC dX9_areFittingsSound_4 (t := 117) (n := 7) (by decide) rfl (fun h4 => absurd h4 (nI_ge hx (by decide))) (fun h4 => ?_)
      refine q_aload_n hC 0 dX9_areFittingsSound_7 rfl rfl ?_
      refine q_get_f hC f_X9_45 dX9_areFittingsSound_8 rfl rfl (Nat.le_of_ble_eq_true rfl) rfl ?_
      refine q_iload_n hC 1 dX9_areFittingsSound_11 rfl rfl ?_
      refine q_iconst hC dX9_areFittingsSound_12 (v := 0) (by decide) rfl ?_
      refine q_iast hC dX9_areFittingsSound_13 (fun _ => rfl) (Nat.le_of_ble_eq_true rfl) (vp_in_nI hx (by decide)) rfl ?_
      refine q_iconst hC dX9_areFittingsSound_14 (v := 0) (by decide) rfl ?_
      refine q_istore_n hC dX9_areFittingsSound_15 (by decide) (ls' := [(0, _), (1, _), (2, _)]) rfl rfl ?_
      rw [nI_clamp (show x < 2 ^ 31 by omega)]
      exact L2 4 0 B _ (by omega) (z_sI_0 hx hI) (by show _ = S 36 0 8; simp (config := {decide := true}) only [q_up, false_and, if_false]; exact hK)
  show qV Γ _ _ 0 [(0, .ref (q_ad Γ 36 0))] [] S (0, 0)
  refine q_iconst hC dX9_areFittingsSound_0 (v := 0) (by decide) rfl ?_
  refine q_istore_n hC dX9_areFittingsSound_1 (by decide) (ls' := [(0, _), (1, _)]) rfl rfl ?_
  exact L1 4 0 B0 S (by omega) hH0 rfl
abbrev rm_X9_doesFittingGoOn : Room := { frames := 1, cells := 0, slots := 0, locals := 21 }
set_option maxHeartbeats 4000000 in
set_option maxRecDepth 100000 in
theorem c_X9_doesFittingGoOn {L : qL} (hD : q_D L.2.2.2.1) : qCT L yX9_doesFittingGoOn cX9_doesFittingGoOn 3 (some .boolean) rm_X9_doesFittingGoOn (fun ad _ (x : Unit) => [.ref (ad 36 0)]) (fun _ S => ∃ B, z_sH B S 4) (qPi (fun _ S r S' => r = 1 ∧ S = S')) := by
  refine q_met hD (by decide) (fun _ => Nat.le_of_ble_eq_true rfl) (fun Γ x S hΓ hpre hC => ?_)
  subst hΓ
  obtain ⟨B, hH⟩ := hpre
  have L1 : ∀ (n x : Nat), x + n = 4 → qV Γ rm_X9_doesFittingGoOn 3 2 [(0, .ref (q_ad Γ 36 0)), (1, .int (nI x))] [] S (0, 0) := by
    intro n
    induction n with
    | zero =>
      intro x hxn
      obtain rfl : x = 4 := by omega
      refine q_iload_n hC 1 dX9_doesFittingGoOn_2 rfl rfl ?_
      refine q_iconst hC dX9_doesFittingGoOn_3 (v := 4) (by decide) rfl ?_
      refine q_icmp_ge hC dX9_doesFittingGoOn_4 (t := 59) (n := 7) (by decide) rfl (fun h4 => ?_) (fun h4 => absurd (by decide) h4)
      refine q_iconst hC dX9_doesFittingGoOn_59 (v := 1) (by decide) rfl ?_
      refine q_iret hC dX9_doesFittingGoOn_60 rfl ⟨by decide, by decide⟩ ⟨_, rfl, ?_⟩
      exact ⟨rfl, rfl⟩
    | succ n ih =>
      intro x hxn
      have hx : x < 4 := by omega
      have ecx : (nI x).toNatClampNeg = x := nI_clamp (by omega)
      have L2 : ∀ (l y : Nat), y + l = 4 → qV Γ rm_X9_doesFittingGoOn 3 9 [(0, .ref (q_ad Γ 36 0)), (1, .int (nI x)), (2, .int (nI y))] [] S (0, 0) := by
        intro l
        induction l with
        | zero =>
          intro y hyl
          obtain rfl : y = 4 := by omega
          refine q_iload_n hC 2 dX9_doesFittingGoOn_9 rfl rfl ?_
          refine q_iconst hC dX9_doesFittingGoOn_10 (v := 4) (by decide) rfl ?_
          refine q_icmp_ge hC dX9_doesFittingGoOn_11 (t := 53) (n := 14) (by decide) rfl (fun h11 => ?_) (fun h11 => absurd (by decide) h11)
          refine q_iinc hC 1 dX9_doesFittingGoOn_53 rfl (v := nI (x + 1)) (z_inc x) (by decide) (ls' := [(0, _), (1, _), (2, _)]) rfl rfl ?_
          refine q_goto hC dX9_doesFittingGoOn_56 (n := 2) (by decide) ?_
          refine q_locp [0, 1] (ls' := [(0, _), (1, _)]) rfl ?_
          exact ih (x + 1) (by omega)
        | succ l ih2 =>
          intro y hyl
          have hy : y < 4 := by omega
          have ecy : (nI y).toNatClampNeg = y := nI_clamp (by omega)
          refine q_iload_n hC 2 dX9_doesFittingGoOn_9 rfl rfl ?_
          refine q_iconst hC dX9_doesFittingGoOn_10 (v := 4) (by decide) rfl ?_
          refine q_icmp_ge hC dX9_doesFittingGoOn_11 (t := 53) (n := 14) (by decide) rfl (fun h11 => absurd h11 (nI_ge hy (by decide))) (fun h11 => ?_)
          refine q_aload_n hC 0 dX9_doesFittingGoOn_14 rfl rfl ?_
          refine q_get_f hC f_X9_45 dX9_doesFittingGoOn_15 rfl rfl (Nat.le_of_ble_eq_true rfl) rfl ?_
          refine q_iload_n hC 1 dX9_doesFittingGoOn_18 rfl rfl ?_
          refine q_iald hC dX9_doesFittingGoOn_19 rfl (Nat.le_of_ble_eq_true rfl) (vp_in_nI hx (by decide)) rfl ?_
          refine q_iload_n hC 2 dX9_doesFittingGoOn_20 rfl rfl ?_
          refine q_callS hC (c_X9_has (q_hD hC)) m_X9_has lk_X9_111 dX9_doesFittingGoOn_21 (S 39 0 (nI x).toNatClampNeg, nI y) rfl rfl (Nat.le_of_ble_eq_true rfl) ⟨⟨by decide, by decide⟩, by decide, by decide⟩ rfl (k' := (0, 0)) rfl trivial (fun v S' hp => ?_)
          obtain ⟨r21_1, rfl, rfl, rfl⟩ := hp
          show qV Γ _ _ 24 _ (.int _ :: _) _ _
          refine q_if_eq hC dX9_doesFittingGoOn_24 (t := 47) (n := 27) (by decide) rfl (fun h24 => ?_) (fun h24 => ?_)
          · refine q_iinc hC 2 dX9_doesFittingGoOn_47 rfl (v := nI (y + 1)) (z_inc y) (by decide) (ls' := [(0, _), (1, _), (2, _)]) rfl rfl ?_
            refine q_goto hC dX9_doesFittingGoOn_50 (n := 9) (by decide) ?_
            exact ih2 (y + 1) (by omega)
          · refine q_aload_n hC 0 dX9_doesFittingGoOn_27 rfl rfl ?_
            refine q_get_f hC f_X9_45 dX9_doesFittingGoOn_28 rfl rfl (Nat.le_of_ble_eq_true rfl) rfl ?_
            refine q_iload_n hC 2 dX9_doesFittingGoOn_31 rfl rfl ?_
            refine q_iald hC dX9_doesFittingGoOn_32 rfl (Nat.le_of_ble_eq_true rfl) (vp_in_nI hy (by decide)) rfl ?_
            refine q_aload_n hC 0 dX9_doesFittingGoOn_33 rfl rfl ?_
            refine q_get_f hC f_X9_45 dX9_doesFittingGoOn_34 rfl rfl (Nat.le_of_ble_eq_true rfl) rfl ?_
            refine q_iload_n hC 1 dX9_doesFittingGoOn_37 rfl rfl ?_
            refine q_iald hC dX9_doesFittingGoOn_38 rfl (Nat.le_of_ble_eq_true rfl) (vp_in_nI hx (by decide)) rfl ?_
            refine q_iconst hC dX9_doesFittingGoOn_39 (v := (-1)) (by decide) rfl ?_
            refine q_ixor hC dX9_doesFittingGoOn_40 rfl ?_
            refine q_iand hC dX9_doesFittingGoOn_41 rfl ?_
            refine q_if_eq hC dX9_doesFittingGoOn_42 (t := 47) (n := 45) (by decide) rfl (fun h42 => ?_) (fun h42 => absurd (by rw [ecx, ecy]; exact z_goes_on hx hy hH (by rw [ecx] at h24; exact h24)) h42)
            refine q_iinc hC 2 dX9_doesFittingGoOn_47 rfl (v := nI (y + 1)) (z_inc y) (by decide) (ls' := [(0, _), (1, _), (2, _)]) rfl rfl ?_
            refine q_goto hC dX9_doesFittingGoOn_50 (n := 9) (by decide) ?_
            exact ih2 (y + 1) (by omega)
      refine q_iload_n hC 1 dX9_doesFittingGoOn_2 rfl rfl ?_
      refine q_iconst hC dX9_doesFittingGoOn_3 (v := 4) (by decide) rfl ?_
      refine q_icmp_ge hC dX9_doesFittingGoOn_4 (t := 59) (n := 7) (by decide) rfl (fun h4 => absurd h4 (nI_ge hx (by decide))) (fun h4 => ?_)
      refine q_iconst hC dX9_doesFittingGoOn_7 (v := 0) (by decide) rfl ?_
      refine q_istore_n hC dX9_doesFittingGoOn_8 (by decide) (ls' := [(0, _), (1, _), (2, _)]) rfl rfl ?_
      exact L2 4 0 (by omega)
  show qV Γ _ _ 0 [(0, .ref (q_ad Γ 36 0))] [] S (0, 0)
  refine q_iconst hC dX9_doesFittingGoOn_0 (v := 0) (by decide) rfl ?_
  refine q_istore_n hC dX9_doesFittingGoOn_1 (by decide) (ls' := [(0, _), (1, _)]) rfl rfl ?_
  exact L1 4 0 (by omega)
abbrev rm_X9_areNumbersSound : Room := { frames := 0, cells := 0, slots := 0, locals := 0 }
set_option maxHeartbeats 4000000 in
set_option maxRecDepth 100000 in
theorem c_X9_areNumbersSound {L : qL} (hD : q_D L.2.2.2.1) : qCT L yX9_areNumbersSound cX9_areNumbersSound 4 (some .boolean) rm_X9_areNumbersSound (fun ad _ (x : Unit) => [.ref (ad 36 0)]) (fun _ S => S 36 0 8 = 0) (qPi (fun _ S r S' => r = 1 ∧ S = S')) := by
  refine q_met hD (by decide) (fun _ => Nat.le_of_ble_eq_true rfl) (fun Γ x S hΓ hpre hC => ?_)
  subst hΓ
  have h8 : S 36 0 8 = 0 := hpre
  show qV Γ _ _ 0 [(0, .ref (q_ad Γ 36 0))] [] S (0, 0)
  refine q_iconst hC dX9_areNumbersSound_0 (v := 0) (by decide) rfl ?_
  refine q_istore_n hC dX9_areNumbersSound_1 (by decide) (ls' := [(0, _), (1, _)]) rfl rfl ?_
  refine q_iload_n hC 1 dX9_areNumbersSound_2 rfl rfl ?_
  refine q_aload_n hC 0 dX9_areNumbersSound_3 rfl rfl ?_
  refine q_get_f hC f_X9_48 dX9_areNumbersSound_4 rfl rfl (Nat.le_of_ble_eq_true rfl) rfl ?_
  refine q_icmp_ge hC dX9_areNumbersSound_7 (t := 57) (n := 10) (by decide) rfl (fun h7 => ?_) (fun h7 => absurd (by rw [h8]; exact Int32.le_refl _) h7)
  refine q_iconst hC dX9_areNumbersSound_57 (v := 1) (by decide) rfl ?_
  refine q_iret hC dX9_areNumbersSound_58 rfl ⟨by decide, by decide⟩ ⟨_, rfl, ?_⟩
  exact ⟨rfl, rfl⟩
abbrev rm_X9_isSound : Room := { frames := 7, cells := 0, slots := 0, locals := 169 }
set_option maxHeartbeats 4000000 in
set_option maxRecDepth 100000 in
theorem c_X9_isSound {L : qL} (hD : q_D L.2.2.2.1) : qCT L yX9_isSound cX9_isSound 1 (some .boolean) rm_X9_isSound (fun ad _ (x : Unit) => [.ref (ad 36 0)]) (fun _ S => ∃ B, z_sH B S 0 ∧ S 36 0 8 = 0) (qPi (fun _ S r S' => r = 1)) := by
  refine q_met hD (by decide) (fun _ => Nat.le_of_ble_eq_true rfl) (fun Γ x S hΓ hpre hC => ?_)
  subst hΓ
  obtain ⟨B, hH, h8⟩ := hpre
  have h8 : S 36 0 8 = 0 := h8
  show qV Γ _ _ 0 [(0, .ref (q_ad Γ 36 0))] [] S (0, 0)
  refine q_aload_n hC 0 dX9_isSound_0 rfl rfl ?_
  refine q_callV hC (c_X9_areFittingsSound (q_hD hC)) m_X9_areFittingsSound lk_X9_291 dX9_isSound_1 () rfl rfl rfl rfl rfl (Nat.le_of_ble_eq_true rfl) (Nat.le_of_ble_eq_true rfl) ⟨⟨by decide, by decide⟩, by decide, by decide⟩ rfl (k' := (0, 0)) rfl ⟨B, hH⟩ (fun v S' hp => ?_)
  obtain ⟨r9, rfl, hr9, hk9, hB9⟩ := hp
  have hr9 : r9 = 1 := hr9
  subst hr9
  have hB9 : ∃ B, z_sH B S' 4 := hB9
  have h89 : S' 36 0 8 = 0 := (show S' 36 0 8 = S 36 0 8 from hk9).trans h8
  revert hB9 h89
  generalize S' = T
  intro hB9 h89
  show qV Γ _ _ 4 _ (.int _ :: _) _ _
  refine q_if_eq hC dX9_isSound_4 (t := 25) (n := 7) (by decide) rfl (fun h4 => absurd h4 z_1n0) (fun h4 => ?_)
  refine q_aload_n hC 0 dX9_isSound_7 rfl rfl ?_
  refine q_callV hC (c_X9_doesFittingGoOn (q_hD hC)) m_X9_doesFittingGoOn lk_X9_295 dX9_isSound_8 () rfl rfl rfl rfl rfl (Nat.le_of_ble_eq_true rfl) (Nat.le_of_ble_eq_true rfl) ⟨⟨by decide, by decide⟩, by decide, by decide⟩ rfl (k' := (0, 0)) rfl hB9 (fun v S' hp => ?_)
  obtain ⟨r8, rfl, hr8, rfl⟩ := hp
  have hr8 : r8 = 1 := hr8
  subst hr8
  show qV Γ _ _ 11 _ (.int _ :: _) _ _
  refine q_if_eq hC dX9_isSound_11 (t := 25) (n := 14) (by decide) rfl (fun h11 => absurd h11 z_1n0) (fun h11 => ?_)
  refine q_aload_n hC 0 dX9_isSound_14 rfl rfl ?_
  refine q_callV hC (c_X9_areNumbersSound (q_hD hC)) m_X9_areNumbersSound lk_X9_298 dX9_isSound_15 () rfl rfl rfl rfl rfl (Nat.le_of_ble_eq_true rfl) (Nat.le_of_ble_eq_true rfl) ⟨⟨by decide, by decide⟩, by decide, by decide⟩ rfl (k' := (0, 0)) rfl h89 (fun v S' hp => ?_)
  obtain ⟨r7, rfl, hr7, rfl⟩ := hp
  have hr7 : r7 = 1 := hr7
  subst hr7
  show qV Γ _ _ 18 _ (.int _ :: _) _ _
  refine q_if_eq hC dX9_isSound_18 (t := 25) (n := 21) (by decide) rfl (fun h18 => absurd h18 z_1n0) (fun h18 => ?_)
  refine q_iconst hC dX9_isSound_21 (v := 1) (by decide) rfl ?_
  refine q_goto hC dX9_isSound_22 (n := 26) (by decide) ?_
  refine q_iret hC dX9_isSound_26 rfl ⟨by decide, by decide⟩ ⟨_, rfl, ?_⟩
  rfl
