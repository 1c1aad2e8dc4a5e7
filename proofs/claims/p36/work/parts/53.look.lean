-- printed by wip/p36/gen_m2.py
/-- a library that was asked for its law, and is lawful -/
def z_rdy (S : qM) (i : Nat) : Prop := ¬ S 0 i 2 = 0 ∧ S 0 i 3 = -1
theorem z_law_rdy {S T : qM} {i : Nat} (h : z_rdy S i) (hq : z_lawQ S T i) : T = S := by
  rcases hq with ⟨-, e⟩ | ⟨e, -⟩
  · exact e
  · exact absurd e h.1
theorem z_found_at {S T : qM} {a b : Nat} {r : Int32} (h : z_findP S a b r T) (hr : ¬ r = 0) : ∃ f k t m o, z_ownf f ∧ z_found T f k t m o := by
  obtain ⟨-, h | ⟨s, hs1, hs6, rfl, h⟩⟩ := h
  · exact absurd h.1 hr
  · rcases h with ⟨-, k, t, m, o, -, -, hf⟩ | ⟨-, ⟨u, p, mm, k, t, m', o, hu, hp, hc, -, -, hf⟩, -, -⟩
    · exact ⟨_, k, t, m, o, z_fn_own, hf⟩
    · refine ⟨_, k, t, m', o, z_fx_own (by omega) ?_, hf⟩
      obtain ⟨-, h | h, -⟩ := hc
      · omega
      · exact h.2.2
abbrev rm_X9_run : Room := { frames := 6, cells := 0, slots := 0, locals := 133 }
set_option maxHeartbeats 4000000 in
set_option maxRecDepth 100000 in
theorem c_X9_run {L : qL} (hD : q_D L.2.2.2.1) : qCT L yX9_run cX9_run 3 (some .int) rm_X9_run (fun ad _ (x : Nat × Nat × Nat) => [.ref (ad 36 0), .int (nI x.1), .int (nI x.2.1)]) (fun x S => x.1 < 4 ∧ x.2.1 < 4 ∧ z_rdy S x.2.1 ∧ z_wf S x.2.1 ∧ z_own S x.1 ∧ x.2.2 ≤ 8 ∧ z_acts S x.1 x.2.2) (qPi (fun x S r S' => r = S' 33 0 1 ∧ S' = z_folIt 0 x.1 x.2.1 x.2.2 0 (z_f0 0 x.1 x.2.1 S))) := by
  refine q_met hD (by decide) (fun _ => Nat.le_of_ble_eq_true rfl) (fun Γ x S hΓ hpre hC => ?_)
  subst hΓ
  obtain ⟨c, i, N⟩ := x
  obtain ⟨hc4, hi, hRi, hw, ho, hN, ha⟩ := hpre
  have hc4 : c < 4 := hc4
  have hc : c < 5 := by omega
  have hi : i < 4 := hi
  have hRi : z_rdy S i := hRi
  have hw : z_wf S i := hw
  have ho : z_own S c := ho
  have hN : N ≤ 8 := hN
  have ha : z_acts S c N := ha
  show qV Γ _ _ 0 [(0, .ref (q_ad Γ 36 0)), (1, .int (nI c)), (2, .int (nI i))] [] S (0, 0)
  refine q_iload_n hC 1 dX9_run_0 rfl rfl ?_
  refine q_iconst hC dX9_run_1 (v := 4) (by decide) rfl ?_
  refine q_callS hC (c_X9_needPlace (q_hD hC)) m_X9_needPlace lk_X9_54 dX9_run_2 (c, 4) rfl rfl (Nat.le_of_ble_eq_true rfl) ⟨⟨by decide, by decide⟩, by decide, by decide⟩ rfl (k' := (0, 0)) rfl ⟨hc4, (show (4 : Nat) < 2 ^ 31 by decide)⟩ (fun v S' hp => ?_)
  obtain ⟨rfl, rfl⟩ := hp
  show qV Γ _ _ 5 _ _ _ _
  refine q_iload_n hC 2 dX9_run_5 rfl rfl ?_
  refine q_iconst hC dX9_run_6 (v := 4) (by decide) rfl ?_
  refine q_callS hC (c_X9_needPlace (q_hD hC)) m_X9_needPlace lk_X9_54 dX9_run_7 (i, 4) rfl rfl (Nat.le_of_ble_eq_true rfl) ⟨⟨by decide, by decide⟩, by decide, by decide⟩ rfl (k' := (0, 0)) rfl ⟨hi, (show (4 : Nat) < 2 ^ 31 by decide)⟩ (fun v S' hp => ?_)
  obtain ⟨rfl, rfl⟩ := hp
  show qV Γ _ _ 10 _ _ _ _
  refine q_aload_n hC 0 dX9_run_10 rfl rfl ?_
  refine q_get_f hC f_X9_11 dX9_run_11 rfl rfl (Nat.le_of_ble_eq_true rfl) rfl ?_
  refine q_iload_n hC 2 dX9_run_14 rfl rfl ?_
  refine q_lib hC i dX9_run_15 rfl hi rfl ?_
  refine q_callV hC (c_X5_law (q_hD hC)) m_X5_law lk_X9_148 dX9_run_16 (i, ()) rfl rfl rfl rfl rfl hi (Nat.le_of_ble_eq_true rfl) ⟨⟨by decide, by decide⟩, by decide, by decide⟩ rfl (k' := (0, 0)) rfl ⟨hi, fun e => absurd e hRi.1⟩ (fun v S' hp => ?_)
  obtain ⟨rli, rfl, erli, hqi⟩ := hp
  have e9 : S = S' := (z_law_rdy hRi hqi).symm
  subst e9
  have erli : rli = S 0 i 3 := erli
  rw [hRi.2] at erli
  subst erli
  show qV Γ _ _ 19 _ (.int _ :: _) _ _
  refine q_iconst hC dX9_run_19 (v := (-1)) (by decide) rfl ?_
  refine q_icmp_ne hC dX9_run_20 (t := 27) (n := 23) (by decide) rfl (fun h20 => absurd rfl h20) (fun h20 => ?_)
  refine q_iconst hC dX9_run_23 (v := 1) (by decide) rfl ?_
  refine q_goto hC dX9_run_24 (n := 28) (by decide) ?_
  refine q_callS hC (c_X9_needSupport (q_hD hC)) m_X9_needSupport lk_X9_151 dX9_run_28 1 rfl rfl (Nat.le_of_ble_eq_true rfl) ⟨⟨by decide, by decide⟩, by decide, by decide⟩ rfl (k' := (0, 0)) rfl z_1n0 (fun v S' hp => ?_)
  obtain ⟨rfl, rfl⟩ := hp
  show qV Γ _ _ 31 _ _ _ _
  refine q_aload_n hC 0 dX9_run_31 rfl rfl ?_
  refine q_get_f hC f_X9_31 dX9_run_32 rfl rfl (Nat.le_of_ble_eq_true rfl) rfl ?_
  refine q_aload_n hC 0 dX9_run_35 rfl rfl ?_
  refine q_get_f hC f_X9_17 dX9_run_36 rfl rfl (Nat.le_of_ble_eq_true rfl) rfl ?_
  refine q_iload_n hC 1 dX9_run_39 rfl rfl ?_
  refine q_cli hC c dX9_run_40 rfl hc4 rfl ?_
  refine q_aload_n hC 0 dX9_run_41 rfl rfl ?_
  refine q_get_f hC f_X9_11 dX9_run_42 rfl rfl (Nat.le_of_ble_eq_true rfl) rfl ?_
  refine q_iload_n hC 2 dX9_run_45 rfl rfl ?_
  refine q_lib hC i dX9_run_46 rfl hi rfl ?_
  refine q_callV hC (c_X8_follow (q_hD hC)) m_X8_follow lk_X9_238 dX9_run_47 (0, c, i, N) rfl rfl rfl rfl rfl (Nat.le_of_ble_eq_true rfl) (Nat.le_of_ble_eq_true rfl) ⟨⟨by decide, by decide⟩, by decide, by decide⟩ rfl (k' := (0, 0)) rfl ⟨(show 0 < 2 by decide), hc, hi, hw, ho, hN, ha⟩ (fun v S' hp => ?_)
  obtain ⟨rfl, rfl⟩ := hp
  show qV Γ _ _ 50 _ _ _ _
  refine q_aload_n hC 0 dX9_run_50 rfl rfl ?_
  refine q_get_f hC f_X9_31 dX9_run_51 rfl rfl (Nat.le_of_ble_eq_true rfl) rfl ?_
  refine q_get_f hC f_X9_242 dX9_run_54 rfl rfl (Nat.le_of_ble_eq_true rfl) rfl ?_
  refine q_iret hC dX9_run_57 rfl ⟨by decide, by decide⟩ ⟨_, rfl, ?_⟩
  exact ⟨rfl, rfl⟩
abbrev rm_X9_fault : Room := { frames := 1, cells := 0, slots := 0, locals := 20 }
set_option maxHeartbeats 4000000 in
set_option maxRecDepth 100000 in
theorem c_X9_fault {L : qL} (hD : q_D L.2.2.2.1) : qCT L yX9_fault cX9_fault 1 (some .char) rm_X9_fault (fun ad _ (x : Unit) => [.ref (ad 36 0)]) (fun x S => ¬ S 33 0 0 = 0 ∧ narrow .char (.int (S 33 0 2)) = .int (S 33 0 2)) (qPi (fun x S r S' => r = S 33 0 2 ∧ S = S')) := by
  refine q_met hD (by decide) (fun _ => Nat.le_of_ble_eq_true rfl) (fun Γ x S hΓ hpre hC => ?_)
  subst hΓ
  obtain ⟨h0, h2⟩ := hpre
  have h0 : ¬ S 33 0 0 = 0 := h0
  have h2 : narrow .char (.int (S 33 0 2)) = .int (S 33 0 2) := h2
  show qV Γ _ _ 0 [(0, .ref (q_ad Γ 36 0))] [] S (0, 0)
  refine q_aload_n hC 0 dX9_fault_0 rfl rfl ?_
  refine q_get_f hC f_X9_31 dX9_fault_1 rfl rfl (Nat.le_of_ble_eq_true rfl) rfl ?_
  refine q_get_f hC f_X9_245 dX9_fault_4 rfl rfl (Nat.le_of_ble_eq_true rfl) rfl ?_
  refine q_callS hC (c_X9_needElement (q_hD hC)) m_X9_needElement lk_X9_227 dX9_fault_7 _ rfl rfl (Nat.le_of_ble_eq_true rfl) ⟨⟨by decide, by decide⟩, by decide, by decide⟩ rfl (k' := (0, 0)) rfl h0 (fun v S' hp => ?_)
  obtain ⟨rfl, rfl⟩ := hp
  show qV Γ _ _ 10 _ _ _ _
  refine q_aload_n hC 0 dX9_fault_10 rfl rfl ?_
  refine q_get_f hC f_X9_31 dX9_fault_11 rfl rfl (Nat.le_of_ble_eq_true rfl) rfl ?_
  refine q_get_f hC f_X9_248 dX9_fault_14 rfl rfl (Nat.le_of_ble_eq_true rfl) rfl ?_
  refine q_iret hC dX9_fault_17 h2 ⟨by decide, by decide⟩ ⟨_, rfl, ?_⟩
  exact ⟨rfl, rfl⟩
abbrev rm_X9_fits : Room := { frames := 6, cells := 0, slots := 0, locals := 146 }
set_option maxHeartbeats 4000000 in
set_option maxRecDepth 100000 in
theorem c_X9_fits {L : qL} (hD : q_D L.2.2.2.1) : qCT L yX9_fits cX9_fits 3 (some .boolean) rm_X9_fits (fun ad _ (x : Nat × Nat × Unit) => [.ref (ad 36 0), .int (nI x.1), .int (nI x.2.1)]) (fun x S => x.1 < 4 ∧ x.2.1 < 4 ∧ z_rdy S x.1 ∧ z_rdy S x.2.1 ∧ z_wf S x.1 ∧ z_wf S x.2.1) (qPi (fun x S r S' => ∃ r9, z_findP (z_set35 x.1 x.2.1 S) x.1 x.2.1 r9 S' ∧ r = if r9 = 0 then 1 else 0)) := by
  refine q_met hD (by decide) (fun _ => Nat.le_of_ble_eq_true rfl) (fun Γ x S hΓ hpre hC => ?_)
  subst hΓ
  obtain ⟨a, b, u⟩ := x
  obtain ⟨ha, hb, hRa, hRb, hwa, hwb⟩ := hpre
  have ha : a < 4 := ha
  have hb : b < 4 := hb
  have hRa : z_rdy S a := hRa
  have hRb : z_rdy S b := hRb
  have hwa : z_wf S a := hwa
  have hwb : z_wf S b := hwb
  show qV Γ _ _ 0 [(0, .ref (q_ad Γ 36 0)), (1, .int (nI a)), (2, .int (nI b))] [] S (0, 0)
  refine q_iload_n hC 1 dX9_fits_0 rfl rfl ?_
  refine q_iconst hC dX9_fits_1 (v := 4) (by decide) rfl ?_
  refine q_callS hC (c_X9_needPlace (q_hD hC)) m_X9_needPlace lk_X9_54 dX9_fits_2 (a, 4) rfl rfl (Nat.le_of_ble_eq_true rfl) ⟨⟨by decide, by decide⟩, by decide, by decide⟩ rfl (k' := (0, 0)) rfl ⟨ha, (show (4 : Nat) < 2 ^ 31 by decide)⟩ (fun v S' hp => ?_)
  obtain ⟨rfl, rfl⟩ := hp
  show qV Γ _ _ 5 _ _ _ _
  refine q_iload_n hC 2 dX9_fits_5 rfl rfl ?_
  refine q_iconst hC dX9_fits_6 (v := 4) (by decide) rfl ?_
  refine q_callS hC (c_X9_needPlace (q_hD hC)) m_X9_needPlace lk_X9_54 dX9_fits_7 (b, 4) rfl rfl (Nat.le_of_ble_eq_true rfl) ⟨⟨by decide, by decide⟩, by decide, by decide⟩ rfl (k' := (0, 0)) rfl ⟨hb, (show (4 : Nat) < 2 ^ 31 by decide)⟩ (fun v S' hp => ?_)
  obtain ⟨rfl, rfl⟩ := hp
  show qV Γ _ _ 10 _ _ _ _
  refine q_aload_n hC 0 dX9_fits_10 rfl rfl ?_
  refine q_get_f hC f_X9_11 dX9_fits_11 rfl rfl (Nat.le_of_ble_eq_true rfl) rfl ?_
  refine q_iload_n hC 1 dX9_fits_14 rfl rfl ?_
  refine q_lib hC a dX9_fits_15 rfl ha rfl ?_
  refine q_callV hC (c_X5_law (q_hD hC)) m_X5_law lk_X9_148 dX9_fits_16 (a, ()) rfl rfl rfl rfl rfl ha (Nat.le_of_ble_eq_true rfl) ⟨⟨by decide, by decide⟩, by decide, by decide⟩ rfl (k' := (0, 0)) rfl ⟨ha, fun e => absurd e hRa.1⟩ (fun v S' hp => ?_)
  obtain ⟨rla, rfl, erla, hqa⟩ := hp
  have e9 : S = S' := (z_law_rdy hRa hqa).symm
  subst e9
  have erla : rla = S 0 a 3 := erla
  rw [hRa.2] at erla
  subst erla
  show qV Γ _ _ 19 _ (.int _ :: _) _ _
  refine q_iconst hC dX9_fits_19 (v := (-1)) (by decide) rfl ?_
  refine q_icmp_ne hC dX9_fits_20 (t := 40) (n := 23) (by decide) rfl (fun h20 => absurd rfl h20) (fun h20 => ?_)
  refine q_aload_n hC 0 dX9_fits_23 rfl rfl ?_
  refine q_get_f hC f_X9_11 dX9_fits_24 rfl rfl (Nat.le_of_ble_eq_true rfl) rfl ?_
  refine q_iload_n hC 2 dX9_fits_27 rfl rfl ?_
  refine q_lib hC b dX9_fits_28 rfl hb rfl ?_
  refine q_callV hC (c_X5_law (q_hD hC)) m_X5_law lk_X9_148 dX9_fits_29 (b, ()) rfl rfl rfl rfl rfl hb (Nat.le_of_ble_eq_true rfl) ⟨⟨by decide, by decide⟩, by decide, by decide⟩ rfl (k' := (0, 0)) rfl ⟨hb, fun e => absurd e hRb.1⟩ (fun v S' hp => ?_)
  obtain ⟨rlb, rfl, erlb, hqb⟩ := hp
  have e9 : S = S' := (z_law_rdy hRb hqb).symm
  subst e9
  have erlb : rlb = S 0 b 3 := erlb
  rw [hRb.2] at erlb
  subst erlb
  show qV Γ _ _ 32 _ (.int _ :: _) _ _
  refine q_iconst hC dX9_fits_32 (v := (-1)) (by decide) rfl ?_
  refine q_icmp_ne hC dX9_fits_33 (t := 40) (n := 36) (by decide) rfl (fun h33 => absurd rfl h33) (fun h33 => ?_)
  refine q_iconst hC dX9_fits_36 (v := 1) (by decide) rfl ?_
  refine q_goto hC dX9_fits_37 (n := 41) (by decide) ?_
  refine q_callS hC (c_X9_needSupport (q_hD hC)) m_X9_needSupport lk_X9_151 dX9_fits_41 1 rfl rfl (Nat.le_of_ble_eq_true rfl) ⟨⟨by decide, by decide⟩, by decide, by decide⟩ rfl (k' := (0, 0)) rfl z_1n0 (fun v S' hp => ?_)
  obtain ⟨rfl, rfl⟩ := hp
  show qV Γ _ _ 44 _ _ _ _
  refine q_aload_n hC 0 dX9_fits_44 rfl rfl ?_
  refine q_get_f hC f_X9_41 dX9_fits_45 rfl rfl (Nat.le_of_ble_eq_true rfl) rfl ?_
  refine q_aload_n hC 0 dX9_fits_48 rfl rfl ?_
  refine q_get_f hC f_X9_11 dX9_fits_49 rfl rfl (Nat.le_of_ble_eq_true rfl) rfl ?_
  refine q_iload_n hC 1 dX9_fits_52 rfl rfl ?_
  refine q_lib hC a dX9_fits_53 rfl ha rfl ?_
  refine q_aload_n hC 0 dX9_fits_54 rfl rfl ?_
  refine q_get_f hC f_X9_11 dX9_fits_55 rfl rfl (Nat.le_of_ble_eq_true rfl) rfl ?_
  refine q_iload_n hC 2 dX9_fits_58 rfl rfl ?_
  refine q_lib hC b dX9_fits_59 rfl hb rfl ?_
  refine q_callV hC (c_X4_find (q_hD hC)) m_X4_find lk_X9_255 dX9_fits_60 (a, b) rfl rfl rfl rfl rfl (Nat.le_of_ble_eq_true rfl) (Nat.le_of_ble_eq_true rfl) ⟨⟨by decide, by decide⟩, by decide, by decide⟩ rfl (k' := (0, 0)) rfl ⟨ha, hb, hwa, hwb⟩ (fun v S' hp => ?_)
  obtain ⟨rr, rfl, hfd⟩ := hp
  show qV Γ _ _ 63 _ (.int _ :: _) _ _
  refine q_if_ne hC dX9_fits_63 (t := 70) (n := 66) (by decide) rfl (fun h63 => ?_) (fun h63 => ?_)
  · refine q_iconst hC dX9_fits_70 (v := 0) (by decide) rfl ?_
    refine q_iret hC dX9_fits_71 rfl ⟨by decide, by decide⟩ ⟨_, rfl, ?_⟩
    first
      | exact ⟨rr, hfd, (if_neg h63).symm⟩
      | exact ⟨rr, hfd, (if_pos h63).symm⟩
  · refine q_iconst hC dX9_fits_66 (v := 1) (by decide) rfl ?_
    refine q_goto hC dX9_fits_67 (n := 71) (by decide) ?_
    refine q_iret hC dX9_fits_71 rfl ⟨by decide, by decide⟩ ⟨_, rfl, ?_⟩
    first
      | exact ⟨rr, hfd, (if_neg h63).symm⟩
      | exact ⟨rr, hfd, (if_pos h63).symm⟩
abbrev rmx_X9_witness : Room := { frames := 7, cells := 1, slots := 6, locals := 146 }
set_option maxHeartbeats 4000000 in
set_option maxRecDepth 100000 in
theorem b_X9_witness {L : qL} (hD : q_D L.2.2.2.1) (hl : L.1.stackTraces = false) : qCB L yX9_witness cX9_witness 5 (some .int) rmx_X9_witness (fun ad _ (x : Nat × Nat × Nat) => [.ref (ad 36 0), .int (nI x.1), .int (nI x.2.1), .int (nI x.2.2)]) (fun x S => x.1 < 4 ∧ x.2.1 < 4 ∧ z_rdy S x.1 ∧ z_rdy S x.2.1 ∧ z_wf S x.1 ∧ z_wf S x.2.1 ∧ x.2.2 < 4) (qPi (fun x S r S' => ∃ T, z_findP (z_set35 x.1 x.2.1 S) x.1 x.2.1 r T ∧ ¬ r = 0 ∧ S' = z_cbIt x.2.2 4 1 0 (z_cb0 x.2.2 4 T))) q_nsee (fun x S S' => z_findP (z_set35 x.1 x.2.1 S) x.1 x.2.1 0 S') := by
  refine q_metB hD (by decide) (fun _ => Nat.le_of_ble_eq_true rfl) (fun Γ x S hΓ hpre hC hX => ?_)
  subst hΓ
  obtain ⟨a, b, c⟩ := x
  obtain ⟨ha, hb, hRa, hRb, hwa, hwb, hc4⟩ := hpre
  have ha : a < 4 := ha
  have hb : b < 4 := hb
  have hRa : z_rdy S a := hRa
  have hRb : z_rdy S b := hRb
  have hwa : z_wf S a := hwa
  have hwb : z_wf S b := hwb
  have hc4 : c < 4 := hc4
  have hc : c < 5 := by omega
  show qV Γ _ _ 0 [(0, .ref (q_ad Γ 36 0)), (1, .int (nI a)), (2, .int (nI b)), (3, .int (nI c))] [] S (0, 0)
  refine q_iload_n hC 1 dX9_witness_0 rfl rfl ?_
  refine q_iconst hC dX9_witness_1 (v := 4) (by decide) rfl ?_
  refine q_callS hC (c_X9_needPlace (q_hD hC)) m_X9_needPlace lk_X9_54 dX9_witness_2 (a, 4) rfl rfl (Nat.le_of_ble_eq_true rfl) ⟨⟨by decide, by decide⟩, by decide, by decide⟩ rfl (k' := (0, 0)) rfl ⟨ha, (show (4 : Nat) < 2 ^ 31 by decide)⟩ (fun v S' hp => ?_)
  obtain ⟨rfl, rfl⟩ := hp
  show qV Γ _ _ 5 _ _ _ _
  refine q_iload_n hC 2 dX9_witness_5 rfl rfl ?_
  refine q_iconst hC dX9_witness_6 (v := 4) (by decide) rfl ?_
  refine q_callS hC (c_X9_needPlace (q_hD hC)) m_X9_needPlace lk_X9_54 dX9_witness_7 (b, 4) rfl rfl (Nat.le_of_ble_eq_true rfl) ⟨⟨by decide, by decide⟩, by decide, by decide⟩ rfl (k' := (0, 0)) rfl ⟨hb, (show (4 : Nat) < 2 ^ 31 by decide)⟩ (fun v S' hp => ?_)
  obtain ⟨rfl, rfl⟩ := hp
  show qV Γ _ _ 10 _ _ _ _
  refine q_iload_n hC 3 dX9_witness_10 rfl rfl ?_
  refine q_iconst hC dX9_witness_11 (v := 4) (by decide) rfl ?_
  refine q_callS hC (c_X9_needPlace (q_hD hC)) m_X9_needPlace lk_X9_54 dX9_witness_12 (c, 4) rfl rfl (Nat.le_of_ble_eq_true rfl) ⟨⟨by decide, by decide⟩, by decide, by decide⟩ rfl (k' := (0, 0)) rfl ⟨hc4, (show (4 : Nat) < 2 ^ 31 by decide)⟩ (fun v S' hp => ?_)
  obtain ⟨rfl, rfl⟩ := hp
  show qV Γ _ _ 15 _ _ _ _
  refine q_aload_n hC 0 dX9_witness_15 rfl rfl ?_
  refine q_get_f hC f_X9_11 dX9_witness_16 rfl rfl (Nat.le_of_ble_eq_true rfl) rfl ?_
  refine q_iload_n hC 1 dX9_witness_19 rfl rfl ?_
  refine q_lib hC a dX9_witness_20 rfl ha rfl ?_
  refine q_callV hC (c_X5_law (q_hD hC)) m_X5_law lk_X9_148 dX9_witness_21 (a, ()) rfl rfl rfl rfl rfl ha (Nat.le_of_ble_eq_true rfl) ⟨⟨by decide, by decide⟩, by decide, by decide⟩ rfl (k' := (0, 0)) rfl ⟨ha, fun e => absurd e hRa.1⟩ (fun v S' hp => ?_)
  obtain ⟨rla, rfl, erla, hqa⟩ := hp
  have e9 : S = S' := (z_law_rdy hRa hqa).symm
  subst e9
  have erla : rla = S 0 a 3 := erla
  rw [hRa.2] at erla
  subst erla
  show qV Γ _ _ 24 _ (.int _ :: _) _ _
  refine q_iconst hC dX9_witness_24 (v := (-1)) (by decide) rfl ?_
  refine q_icmp_ne hC dX9_witness_25 (t := 45) (n := 28) (by decide) rfl (fun h25 => absurd rfl h25) (fun h25 => ?_)
  refine q_aload_n hC 0 dX9_witness_28 rfl rfl ?_
  refine q_get_f hC f_X9_11 dX9_witness_29 rfl rfl (Nat.le_of_ble_eq_true rfl) rfl ?_
  refine q_iload_n hC 2 dX9_witness_32 rfl rfl ?_
  refine q_lib hC b dX9_witness_33 rfl hb rfl ?_
  refine q_callV hC (c_X5_law (q_hD hC)) m_X5_law lk_X9_148 dX9_witness_34 (b, ()) rfl rfl rfl rfl rfl hb (Nat.le_of_ble_eq_true rfl) ⟨⟨by decide, by decide⟩, by decide, by decide⟩ rfl (k' := (0, 0)) rfl ⟨hb, fun e => absurd e hRb.1⟩ (fun v S' hp => ?_)
  obtain ⟨rlb, rfl, erlb, hqb⟩ := hp
  have e9 : S = S' := (z_law_rdy hRb hqb).symm
  subst e9
  have erlb : rlb = S 0 b 3 := erlb
  rw [hRb.2] at erlb
  subst erlb
  show qV Γ _ _ 37 _ (.int _ :: _) _ _
  refine q_iconst hC dX9_witness_37 (v := (-1)) (by decide) rfl ?_
  refine q_icmp_ne hC dX9_witness_38 (t := 45) (n := 41) (by decide) rfl (fun h38 => absurd rfl h38) (fun h38 => ?_)
  refine q_iconst hC dX9_witness_41 (v := 1) (by decide) rfl ?_
  refine q_goto hC dX9_witness_42 (n := 46) (by decide) ?_
  refine q_callS hC (c_X9_needSupport (q_hD hC)) m_X9_needSupport lk_X9_151 dX9_witness_46 1 rfl rfl (Nat.le_of_ble_eq_true rfl) ⟨⟨by decide, by decide⟩, by decide, by decide⟩ rfl (k' := (0, 0)) rfl z_1n0 (fun v S' hp => ?_)
  obtain ⟨rfl, rfl⟩ := hp
  show qV Γ _ _ 49 _ _ _ _
  refine q_aload_n hC 0 dX9_witness_49 rfl rfl ?_
  refine q_get_f hC f_X9_41 dX9_witness_50 rfl rfl (Nat.le_of_ble_eq_true rfl) rfl ?_
  refine q_aload_n hC 0 dX9_witness_53 rfl rfl ?_
  refine q_get_f hC f_X9_11 dX9_witness_54 rfl rfl (Nat.le_of_ble_eq_true rfl) rfl ?_
  refine q_iload_n hC 1 dX9_witness_57 rfl rfl ?_
  refine q_lib hC a dX9_witness_58 rfl ha rfl ?_
  refine q_aload_n hC 0 dX9_witness_59 rfl rfl ?_
  refine q_get_f hC f_X9_11 dX9_witness_60 rfl rfl (Nat.le_of_ble_eq_true rfl) rfl ?_
  refine q_iload_n hC 2 dX9_witness_63 rfl rfl ?_
  refine q_lib hC b dX9_witness_64 rfl hb rfl ?_
  refine q_callV hC (c_X4_find (q_hD hC)) m_X4_find lk_X9_255 dX9_witness_65 (a, b) rfl rfl rfl rfl rfl (Nat.le_of_ble_eq_true rfl) (Nat.le_of_ble_eq_true rfl) ⟨⟨by decide, by decide⟩, by decide, by decide⟩ rfl (k' := (0, 0)) rfl ⟨ha, hb, hwa, hwb⟩ (fun v S' hp => ?_)
  obtain ⟨rr, rfl, hfd⟩ := hp
  have hfd : z_findP (z_set35 a b S) a b rr S' := hfd
  revert hfd
  generalize S' = T
  intro hfd
  show qV Γ _ _ 68 _ (.int _ :: _) _ _
  refine q_istore hC dX9_witness_68 (by decide) (ls' := [(0, _), (1, _), (2, _), (3, _), (4, _)]) rfl rfl ?_
  refine q_iload hC 4 dX9_witness_70 rfl rfl ?_
  refine q_if_eq hC dX9_witness_72 (t := 79) (n := 75) (by decide) rfl (fun h72 => ?_) (fun h72 => ?_)
  · refine q_iconst hC dX9_witness_79 (v := 0) (by decide) rfl ?_
    exact q_xS hC hX (x_X9_needElement (q_hD hC) hl) m_X9_needElement lk_X9_227 dX9_witness_80 () rfl rfl (Nat.le_of_ble_eq_true rfl) ⟨⟨by decide, by decide⟩, by decide, by decide⟩ trivial (fun U hU => by rw [show U = T from hU]; have h72' : rr = 0 := h72; rw [h72'] at hfd; exact hfd)
  · obtain ⟨f, k, t, m, o, hof, hfo⟩ := z_found_at hfd h72
    obtain ⟨-, f28, f27, -⟩ := hfo
    have hb0 : z_bool (T 28 4 0) := by rw [f28 0 (by omega)]; exact hof.1
    refine q_iconst hC dX9_witness_75 (v := 1) (by decide) rfl ?_
    refine q_goto hC dX9_witness_76 (n := 80) (by decide) ?_
    refine q_callS hC (c_X9_needElement (q_hD hC)) m_X9_needElement lk_X9_227 dX9_witness_80 1 rfl rfl (Nat.le_of_ble_eq_true rfl) ⟨⟨by decide, by decide⟩, by decide, by decide⟩ rfl (k' := (0, 0)) rfl z_1n0 (fun v S' hp => ?_)
    obtain ⟨rfl, rfl⟩ := hp
    show qV Γ _ _ 83 _ _ _ _
    refine q_aload_n hC 0 dX9_witness_83 rfl rfl ?_
    refine q_get_f hC f_X9_17 dX9_witness_84 rfl rfl (Nat.le_of_ble_eq_true rfl) rfl ?_
    refine q_iload_n hC 3 dX9_witness_87 rfl rfl ?_
    refine q_cli hC c dX9_witness_88 rfl hc4 rfl ?_
    refine q_aload_n hC 0 dX9_witness_89 rfl rfl ?_
    refine q_get_f hC f_X9_41 dX9_witness_90 rfl rfl (Nat.le_of_ble_eq_true rfl) rfl ?_
    refine q_get_f hC f_X9_259 dX9_witness_93 rfl rfl (Nat.le_of_ble_eq_true rfl) rfl ?_
    refine q_callV hC (c_X0_become (q_hD hC)) m_X0_become lk_X9_263 dX9_witness_96 (c, 4, 1) rfl rfl rfl rfl rfl hc (Nat.le_of_ble_eq_true rfl) ⟨⟨by decide, by decide⟩, by decide, by decide⟩ rfl (k' := (0, 0)) rfl ⟨hc, (show 4 < 5 by decide), (show ¬ 4 = c by omega), hb0, (show 1 ≤ 8 by decide), f27⟩ (fun v S' hp => ?_)
    obtain ⟨rfl, rfl⟩ := hp
    show qV Γ _ _ 99 _ _ _ _
    refine q_iload hC 4 dX9_witness_99 rfl rfl ?_
    refine q_iret hC dX9_witness_101 rfl ⟨by decide, by decide⟩ ⟨_, rfl, ?_⟩
    exact ⟨T, hfd, h72, rfl⟩
