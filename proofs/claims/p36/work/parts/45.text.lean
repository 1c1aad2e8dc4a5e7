-- printed by wip/p36/gen_t.py: the JDK's methods of texts
def q_ch (j k : Nat) : Int32 := (q_sbyt.getD j []).getD k 0
theorem q_ch_all : ∀ j, j < 7 → ∀ k, k < q_sln.getD j 0 → ((q_ch j k &&& 255).toUInt32 % 65536).toInt32 = q_ch j k ∧ narrow .char (.int (q_ch j k)) = .int (q_ch j k) := by decide +kernel
theorem q_sln_lt : ∀ j, j < 7 → q_sln.getD j 0 < 10 := by decide
abbrev rm_J0_isLatin1_aae02 : Room := { frames := 0, cells := 0, slots := 0, locals := 0 }
set_option maxHeartbeats 4000000 in
set_option maxRecDepth 100000 in
theorem c_J0_isLatin1_aae02 {L : qL} (hD : q_D L.2.2.2.1) : qCT L yJ0_isLatin1_aae02 cJ0_isLatin1_aae02 1 (some .boolean) rm_J0_isLatin1_aae02 (fun _ o (x : Nat) => [.ref (o.1.2.2.2.1 x)]) (fun x _ => x < 7) (qPi (fun x S r S' => r = 1 ∧ S = S')) := by
  refine q_met hD (by decide) (fun _ => Nat.le_of_ble_eq_true rfl) (fun Γ x S hΓ hpre hC => ?_)
  subst hΓ
  have hj : x < 7 := hpre
  show qV Γ _ _ 0 [(0, .ref (q_sK Γ x))] [] S (0, 0)
  refine q_getsCS hC fj_J0_38 dJ0_isLatin1_aae02_0 rfl ?_
  refine q_if_eq hC dJ0_isLatin1_aae02_3 (t := 17) (n := 6) (by decide) rfl (fun h => absurd h (by decide)) (fun _ => ?_)
  refine q_aload_n hC 0 dJ0_isLatin1_aae02_6 rfl rfl ?_
  refine q_sCoder hC hj fj_J0_15 dJ0_isLatin1_aae02_7 rfl ?_
  refine q_if_ne hC dJ0_isLatin1_aae02_10 (t := 17) (n := 13) (by decide) rfl (fun h => absurd rfl h) (fun _ => ?_)
  refine q_iconst hC dJ0_isLatin1_aae02_13 (v := 1) (by decide) rfl ?_
  refine q_goto hC dJ0_isLatin1_aae02_14 (n := 18) (by decide) ?_
  refine q_iret hC dJ0_isLatin1_aae02_18 rfl ⟨by decide, by decide⟩ ⟨_, rfl, ?_⟩
  exact ⟨rfl, rfl⟩
abbrev rm_J3_checkIndex_8e157 : Room := { frames := 0, cells := 0, slots := 0, locals := 0 }
set_option maxHeartbeats 4000000 in
set_option maxRecDepth 100000 in
theorem c_J3_checkIndex_8e157 {L : qL} (hD : q_D L.2.2.2.1) : qCT L yJ3_checkIndex_8e157 cJ3_checkIndex_8e157 3 (some .int) rm_J3_checkIndex_8e157 (fun _ _ (x : Nat × Nat × Option Nat) => [.int (nI x.1), .int (nI x.2.1), va_rf x.2.2]) (fun x _ => x.1 < x.2.1 ∧ x.2.1 < 2 ^ 31) (qPi (fun x S r S' => S = S')) := by
  refine q_met hD (by decide) (fun x => by obtain ⟨a, b, o⟩ := x; cases o <;> exact Nat.le_of_ble_eq_true rfl) (fun Γ x S hΓ hpre hC => ?_)
  subst hΓ
  obtain ⟨a, b, o⟩ := x
  obtain ⟨h1, h2⟩ := hpre
  have h1 : a < b := h1
  have h2 : b < 2 ^ 31 := h2
  have key : ∀ v : Value, v.category = 1 → qV Γ rm_J3_checkIndex_8e157 3 0 [(0, .int (nI a)), (1, .int (nI b)), (2, v)] [] S (0, 0) := by
    intro v hv
    refine q_iload_n hC 0 dJ3_checkIndex_8e157_0 rfl rfl ?_
    refine q_if_lt hC dJ3_checkIndex_8e157_1 (t := 9) (n := 4) (by decide) rfl (fun h => absurd h (nI_pos (by omega))) (fun _ => ?_)
    refine q_iload_n hC 0 dJ3_checkIndex_8e157_4 rfl rfl ?_
    refine q_iload_n hC 1 dJ3_checkIndex_8e157_5 rfl rfl ?_
    refine q_icmp_lt hC dJ3_checkIndex_8e157_6 (t := 16) (n := 9) (by decide) rfl (fun _ => ?_) (fun h => absurd (nI_lt h1 h2) h)
    refine q_iload_n hC 0 dJ3_checkIndex_8e157_16 rfl rfl ?_
    refine q_iret hC dJ3_checkIndex_8e157_17 rfl ⟨by decide, by decide⟩ ⟨_, rfl, ?_⟩
    exact rfl
  cases o with
  | none => exact key .null rfl
  | some t => exact key (.ref t) rfl
abbrev rm_J0_checkIndex_df160 : Room := { frames := 1, cells := 0, slots := 0, locals := 30 }
set_option maxHeartbeats 4000000 in
set_option maxRecDepth 100000 in
theorem c_J0_checkIndex_df160 {L : qL} (hD : q_D L.2.2.2.1) : qCT L yJ0_checkIndex_df160 cJ0_checkIndex_df160 2 none rm_J0_checkIndex_df160 (fun _ _ (x : Nat × Nat) => [.int (nI x.1), .int (nI x.2)]) (fun x _ => x.1 < x.2 ∧ x.2 < 2 ^ 31) (qPv (fun x S S' => S = S')) := by
  refine q_met hD (by decide) (fun _ => Nat.le_of_ble_eq_true rfl) (fun Γ x S hΓ hpre hC => ?_)
  subst hΓ
  obtain ⟨a, b⟩ := x
  show qV Γ _ _ 0 [(0, .int (nI a)), (1, .int (nI b))] [] S (0, 0)
  refine q_iload_n hC 0 dJ0_checkIndex_df160_0 rfl rfl ?_
  refine q_iload_n hC 1 dJ0_checkIndex_df160_1 rfl rfl ?_
  refine q_getsFM hC fj_J0_1053 dJ0_checkIndex_df160_2 rfl (fun fv hfv => ?_)
  obtain ⟨o, rfl⟩ : ∃ o : Option Nat, fv = va_rf o := by
    rcases hfv with h | ⟨t, h⟩
    · exact ⟨none, h⟩
    · exact ⟨some t, h⟩
  refine q_callS hC (c_J3_checkIndex_8e157 (q_hD hC)) m_J3_checkIndex_8e157 lk_J0_1059 dJ0_checkIndex_df160_5 (a, b, o) rfl rfl (Nat.le_of_ble_eq_true rfl) ⟨⟨by decide, by decide⟩, by decide, by decide⟩ rfl (k' := (0, 0)) rfl hpre (fun v S' hp => ?_)
  obtain ⟨r, rfl, rfl⟩ := hp
  show qV Γ _ _ 8 _ (.int _ :: _) _ _
  refine q_pop hC dJ0_checkIndex_df160_8 rfl rfl ?_
  refine q_vret hC dJ0_checkIndex_df160_9 ⟨by decide, by decide⟩ ⟨rfl, ?_⟩
  exact rfl
abbrev rm_J1_charAt_3b067 : Room := { frames := 2, cells := 0, slots := 0, locals := 60 }
set_option maxHeartbeats 4000000 in
set_option maxRecDepth 100000 in
theorem c_J1_charAt_3b067 {L : qL} (hD : q_D L.2.2.2.1) : qCT L yJ1_charAt_3b067 cJ1_charAt_3b067 2 (some .char) rm_J1_charAt_3b067 (fun _ o (x : Nat × Nat) => [.ref (o.1.2.2.2.2 x.1), .int (nI x.2)]) (fun x _ => x.1 < 7 ∧ x.2 < q_sln.getD x.1 0) (qPi (fun x S r S' => r = q_ch x.1 x.2 ∧ S = S')) := by
  refine q_met hD (by decide) (fun _ => Nat.le_of_ble_eq_true rfl) (fun Γ x S hΓ hpre hC => ?_)
  subst hΓ
  obtain ⟨j, k⟩ := x
  obtain ⟨hj, hk⟩ := hpre
  have hj : j < 7 := hj
  have hk : k < q_sln.getD j 0 := hk
  have hl := q_sln_lt j hj
  obtain ⟨e1, e2⟩ := q_ch_all j hj k hk
  have ek : (nI k).toNatClampNeg = k := nI_clamp (by omega)
  have e1' : ((((q_sbyt.getD j []).getD (nI k).toNatClampNeg 0) &&& 255).toUInt32 % 65536).toInt32 = q_ch j k := by rw [ek]; exact e1
  show qV Γ _ _ 0 [(0, .ref (q_sV Γ j)), (1, .int (nI k))] [] S (0, 0)
  refine q_iload_n hC 1 dJ1_charAt_3b067_0 rfl rfl ?_
  refine q_aload_n hC 0 dJ1_charAt_3b067_1 rfl rfl ?_
  refine q_sLen hC hj dJ1_charAt_3b067_2 rfl ?_
  refine q_callS hC (c_J0_checkIndex_df160 (q_hD hC)) m_J0_checkIndex_df160 lk_J1_9 dJ1_charAt_3b067_3 (k, q_sln.getD j 0) rfl rfl (Nat.le_of_ble_eq_true rfl) ⟨⟨by decide, by decide⟩, by decide, by decide⟩ rfl (k' := (0, 0)) rfl ⟨hk, by show q_sln.getD j 0 < 2 ^ 31; omega⟩ (fun v S' hp => ?_)
  obtain ⟨rfl, rfl⟩ := hp
  show qV Γ _ _ 6 _ _ _ _
  refine q_aload_n hC 0 dJ1_charAt_3b067_6 rfl rfl ?_
  refine q_iload_n hC 1 dJ1_charAt_3b067_7 rfl rfl ?_
  refine q_sByte hC hj (vp_in_nI hk (by omega)) dJ1_charAt_3b067_8 rfl ?_
  refine q_sipush hC dJ1_charAt_3b067_9 (v := 255) (by decide) rfl ?_
  refine q_iand hC dJ1_charAt_3b067_12 rfl ?_
  refine q_i2c hC dJ1_charAt_3b067_13 rfl ?_
  refine q_iret hC dJ1_charAt_3b067_14 (by rw [e1']; exact e2) ⟨by decide, by decide⟩ ⟨_, rfl, ?_⟩
  exact ⟨e1', rfl⟩
abbrev rm_J0_charAt_5068e : Room := { frames := 3, cells := 0, slots := 0, locals := 90 }
set_option maxHeartbeats 4000000 in
set_option maxRecDepth 100000 in
theorem c_J0_charAt_5068e {L : qL} (hD : q_D L.2.2.2.1) : qCT L yJ0_charAt_5068e cJ0_charAt_5068e 2 (some .char) rm_J0_charAt_5068e (fun _ o (x : Nat × Nat) => [.ref (o.1.2.2.2.1 x.1), .int (nI x.2)]) (fun x _ => x.1 < 7 ∧ x.2 < q_sln.getD x.1 0) (qPi (fun x S r S' => r = q_ch x.1 x.2 ∧ S = S')) := by
  refine q_met hD (by decide) (fun _ => Nat.le_of_ble_eq_true rfl) (fun Γ x S hΓ hpre hC => ?_)
  subst hΓ
  obtain ⟨j, k⟩ := x
  obtain ⟨hj, hk⟩ := hpre
  have hj : j < 7 := hj
  have hk : k < q_sln.getD j 0 := hk
  have e2 := (q_ch_all j hj k hk).2
  show qV Γ _ _ 0 [(0, .ref (q_sK Γ j)), (1, .int (nI k))] [] S (0, 0)
  refine q_aload_n hC 0 dJ0_charAt_5068e_0 rfl rfl ?_
  refine q_callT hC (c_J0_isLatin1_aae02 (q_hD hC)) m_J0_isLatin1_aae02 rfl lk_J0_492 dJ0_charAt_5068e_1 j hj rfl rfl rfl (Nat.le_of_ble_eq_true rfl) ⟨⟨by decide, by decide⟩, by decide, by decide⟩ rfl (k' := (0, 0)) rfl hj (fun v S' hp => ?_)
  obtain ⟨r, rfl, rfl, rfl⟩ := hp
  show qV Γ _ _ 4 _ (.int _ :: _) _ _
  refine q_if_eq hC dJ0_charAt_5068e_4 (t := 16) (n := 7) (by decide) rfl (fun h => absurd h (by decide)) (fun _ => ?_)
  refine q_aload_n hC 0 dJ0_charAt_5068e_7 rfl rfl ?_
  refine q_sValue hC hj fj_J0_9 dJ0_charAt_5068e_8 rfl ?_
  refine q_iload_n hC 1 dJ0_charAt_5068e_11 rfl rfl ?_
  refine q_callS hC (c_J1_charAt_3b067 (q_hD hC)) m_J1_charAt_3b067 lk_J0_495 dJ0_charAt_5068e_12 (j, k) rfl rfl (Nat.le_of_ble_eq_true rfl) ⟨⟨by decide, by decide⟩, by decide, by decide⟩ rfl (k' := (0, 0)) rfl ⟨hj, hk⟩ (fun v S' hp => ?_)
  obtain ⟨r, rfl, rfl, rfl⟩ := hp
  show qV Γ _ _ 15 _ (.int _ :: _) _ _
  refine q_iret hC dJ0_charAt_5068e_15 e2 ⟨by decide, by decide⟩ ⟨_, rfl, ?_⟩
  exact ⟨rfl, rfl⟩
