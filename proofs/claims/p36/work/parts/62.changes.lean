-- printed by wip/p36/gen_m2.py
section QSW
variable {Γ : qG} {cc : ByteArray} {own : String} {nL : Nat} {rt : Option FieldType} {R : Room} {po : Option Value → qM → Prop} {pc : Nat} {ls : List (Nat × Value)} {st : List Value} {S : qM} {k : Nat × Nat}
theorem q_tsw {dflt lo hi : Int} {offs : Array Int} {len : Nat} {x : Int32} {off : Int} {tgt : Nat} (hC : qC Γ cc own nL rt R po) (hd : decode cc pc = .ok (.tableswitch dflt lo hi offs, len)) (h1 : ¬ x.toInt < lo) (h2 : ¬ hi < x.toInt) (ho : offs[(x.toInt - lo).toNat]? = some off) (ht : (pc : Int) + off = (tgt : Int))
    (kk : qV Γ R nL tgt ls st S k) : qV Γ R nL pc ls (.int x :: st) S k := by
  obtain ⟨⟨l, D, cy, ad, o⟩, ⟨p, e, s⟩, ⟨m, args, below, meth, c⟩, Q⟩ := Γ
  exact fun H locs la hP hS hl => lv_tableIn hC.1 hC.2.1 hd h1 h2 ho ht (kk H locs la hP hS hl)
theorem q_tswO {dflt lo hi : Int} {offs : Array Int} {len : Nat} {x : Int32} {tgt : Nat} (hC : qC Γ cc own nL rt R po) (hd : decode cc pc = .ok (.tableswitch dflt lo hi offs, len)) (h : x.toInt < lo ∨ hi < x.toInt) (ht : (pc : Int) + dflt = (tgt : Int))
    (kk : qV Γ R nL tgt ls st S k) : qV Γ R nL pc ls (.int x :: st) S k := by
  obtain ⟨⟨l, D, cy, ad, o⟩, ⟨p, e, s⟩, ⟨m, args, below, meth, c⟩, Q⟩ := Γ
  exact fun H locs la hP hS hl => lv_tableOut hC.1 hC.2.1 hd h ht (kk H locs la hP hS hl)
end QSW
theorem z_a65 : ∀ t, t < 5 → ((((65 : Int32) + nI t).toUInt32 % 65536).toInt32) = nI (65 + t) := by decide +kernel
theorem z_a97 : ∀ t, t < 3 → ((((97 : Int32) + nI t).toUInt32 % 65536).toInt32) = nI (97 + t) := by decide +kernel
theorem z_chs0 : ∀ k, k < 6 → q_ch 0 k = 112 ∨ q_ch 0 k = 111 ∨ q_ch 0 k = 107 ∨ q_ch 0 k = 118 := by decide +kernel
theorem z_chs1 : ∀ k, k < 5 → q_ch 1 k = 110 ∨ q_ch 1 k = 115 ∨ q_ch 1 k = 97 ∨ q_ch 1 k = 102 := by decide +kernel
theorem z_chs2 : ∀ k, k < 5 → q_ch 2 k = 110 ∨ q_ch 2 k = 115 ∨ q_ch 2 k = 102 ∨ q_ch 2 k = 70 := by decide +kernel
theorem z_chs3 : ∀ k, k < 3 → q_ch 3 k = 111 ∨ q_ch 3 k = 97 ∨ q_ch 3 k = 102 := by decide +kernel
theorem z_chs4 : ∀ k, k < 3 → q_ch 4 k = 45 ∨ q_ch 4 k = 99 ∨ q_ch 4 k = 105 := by decide +kernel
abbrev rm_L_changes : Room := { frames := 10, cells := 1, slots := 6, locals := 187 }
set_option maxHeartbeats 4000000 in
set_option maxRecDepth 100000 in
theorem c_L_changes {L : qL} (hD : q_D L.2.2.2.1) (hs : L.2.2.2.2.1.2.1 ≤ 260) (hl : L.1.stackTraces = false) : qCT L yL_changes cL_changes 9 none rm_L_changes (fun ad _ (x : Nat × Nat) => [.ref (ad 36 0), .int (nI x.1), .int (nI x.2)]) (fun x S => x.1 < 4 ∧ x.2 < 1000000 ∧ z_Q S x.1) (qPv (fun x S S' => z_mw S S' x.1)) := by
  refine q_met hD (by decide) (fun _ => Nat.le_of_ble_eq_true rfl) (fun Γ x S hΓ hpre hC => ?_)
  subst hΓ
  obtain ⟨i, v⟩ := x
  obtain ⟨hi, hv, hQ⟩ := hpre
  have hi : i < 4 := hi
  have hv : v < 1000000 := hv
  have hv31 : v < 2 ^ 31 := by omega
  have hQ : z_Q S i := hQ
  have D : ∀ (a d : Nat), a < 2 ^ 31 → 0 < d → d < 2 ^ 31 → (nI a : Int32) / nI d = nI (a / d) := fun a d h1 h2 h3 => pk_div h1 h2 h3
  have M : ∀ (a d : Nat), a < 2 ^ 31 → 0 < d → d < 2 ^ 31 → (nI a : Int32) - nI a / nI d * nI d = nI (a % d) := fun a d h1 h2 h3 => pk_rem h1 h2 h3
  have J132 : ∀ (t u a b n : Nat) (sg : Int32), t < 5 → u < 5 → a < 3 → b < 2 → n < 100 → z_sg4 sg → qV Γ rm_L_changes 9 132 [(0, .ref (q_ad Γ 36 0)), (1, .int (nI i)), (2, .int (nI v)), (3, .int (nI (65 + t))), (4, .int (nI (65 + u))), (5, .int (nI (97 + a))), (6, .int (nI b)), (7, .int sg), (8, .int (nI n))] [] S (0, 0) := by
    intro t u a b n sg ht hu ha hb hn hsg
    refine q_aload_n hC 0 dL_changes_132 rfl rfl ?_
    refine q_iload_n hC 1 dL_changes_133 rfl rfl ?_
    refine q_iload_n hC 3 dL_changes_134 rfl rfl ?_
    refine q_iload_n hC 2 dL_changes_135 rfl rfl ?_
    refine q_bipush hC dL_changes_136 (v := 25) (by decide) rfl ?_
    refine q_idiv hC dL_changes_138 (by decide) rfl ?_
    rw [show (nI v : Int32) / 25 = nI (v / 25) from D v 25 hv31 (by decide) (by decide)]
    refine q_iconst hC dL_changes_139 (v := 3) (by decide) rfl ?_
    refine q_irem hC dL_changes_140 (by decide) rfl ?_
    rw [show (nI (v / 25) : Int32) - nI (v / 25) / 3 * 3 = nI (v / 25 % 3) from M (v / 25) 3 (by omega) (by decide) (by decide)]
    refine q_if_ne hC dL_changes_141 (t := 149) (n := 144) (by decide) rfl (fun h141 => ?_) (fun h141 => ?_)
    · refine q_iload hC 4 dL_changes_149 rfl rfl ?_
      refine q_callSW hC (cw_L_above (q_hD hC) hl) mw_L_above lk_L_136 dL_changes_151 (i, t, (nI (65 + u))) rfl rfl (Nat.le_of_ble_eq_true rfl) ⟨⟨by decide, by decide⟩, by decide, by decide⟩ rfl (k' := (1, 6)) rfl ⟨hi, ht, (Or.inr ⟨u, hu, rfl⟩), hQ⟩ (fun v S' hp => ?_)
      obtain ⟨r9, rfl, hw9⟩ := hp
      have hw9 : z_mw S S' i := hw9
      show qV Γ _ _ 154 _ (.long _ :: _) _ _
      refine q_pop2 hC dL_changes_154 rfl rfl ?_
      refine q_goto hC dL_changes_155 (n := 335) (by decide) ?_
      refine q_vret hC dL_changes_335 ⟨by decide, by decide⟩ ⟨rfl, ?_⟩
      exact hw9
    · refine q_bipush hC dL_changes_144 (v := 45) (by decide) rfl ?_
      refine q_goto hC dL_changes_146 (n := 151) (by decide) ?_
      refine q_callSW hC (cw_L_above (q_hD hC) hl) mw_L_above lk_L_136 dL_changes_151 (i, t, 45) rfl rfl (Nat.le_of_ble_eq_true rfl) ⟨⟨by decide, by decide⟩, by decide, by decide⟩ rfl (k' := (1, 6)) rfl ⟨hi, ht, (Or.inl rfl), hQ⟩ (fun v S' hp => ?_)
      obtain ⟨r9, rfl, hw9⟩ := hp
      have hw9 : z_mw S S' i := hw9
      show qV Γ _ _ 154 _ (.long _ :: _) _ _
      refine q_pop2 hC dL_changes_154 rfl rfl ?_
      refine q_goto hC dL_changes_155 (n := 335) (by decide) ?_
      refine q_vret hC dL_changes_335 ⟨by decide, by decide⟩ ⟨rfl, ?_⟩
      exact hw9
  have J158 : ∀ (t u a b n : Nat) (sg : Int32), t < 5 → u < 5 → a < 3 → b < 2 → n < 100 → z_sg4 sg → qV Γ rm_L_changes 9 158 [(0, .ref (q_ad Γ 36 0)), (1, .int (nI i)), (2, .int (nI v)), (3, .int (nI (65 + t))), (4, .int (nI (65 + u))), (5, .int (nI (97 + a))), (6, .int (nI b)), (7, .int sg), (8, .int (nI n))] [] S (0, 0) := by
    intro t u a b n sg ht hu ha hb hn hsg
    refine q_aload_n hC 0 dL_changes_158 rfl rfl ?_
    refine q_iload_n hC 1 dL_changes_159 rfl rfl ?_
    refine q_iload_n hC 3 dL_changes_160 rfl rfl ?_
    refine q_iload hC 4 dL_changes_161 rfl rfl ?_
    refine q_iload_n hC 2 dL_changes_163 rfl rfl ?_
    refine q_bipush hC dL_changes_164 (v := 25) (by decide) rfl ?_
    refine q_idiv hC dL_changes_166 (by decide) rfl ?_
    rw [show (nI v : Int32) / 25 = nI (v / 25) from D v 25 hv31 (by decide) (by decide)]
    refine q_iconst hC dL_changes_167 (v := 3) (by decide) rfl ?_
    refine q_irem hC dL_changes_168 (by decide) rfl ?_
    rw [show (nI (v / 25) : Int32) - nI (v / 25) / 3 * 3 = nI (v / 25 % 3) from M (v / 25) 3 (by omega) (by decide) (by decide)]
    refine q_if_le hC dL_changes_169 (t := 176) (n := 172) (by decide) rfl (fun h169 => ?_) (fun h169 => ?_)
    · refine q_iconst hC dL_changes_176 (v := 0) (by decide) rfl ?_
      refine q_callSW hC (cw_L_under (q_hD hC) hl) mw_L_under lk_L_138 dL_changes_177 (i, t, u, 0) rfl rfl (Nat.le_of_ble_eq_true rfl) ⟨⟨by decide, by decide⟩, by decide, by decide⟩ rfl (k' := (1, 6)) rfl ⟨hi, ht, hu, Or.inl rfl, hQ⟩ (fun v S' hp => ?_)
      obtain ⟨r9, rfl, hw9⟩ := hp
      have hw9 : z_mw S S' i := hw9
      show qV Γ _ _ 180 _ (.long _ :: _) _ _
      refine q_pop2 hC dL_changes_180 rfl rfl ?_
      refine q_goto hC dL_changes_181 (n := 335) (by decide) ?_
      refine q_vret hC dL_changes_335 ⟨by decide, by decide⟩ ⟨rfl, ?_⟩
      exact hw9
    · refine q_iconst hC dL_changes_172 (v := 1) (by decide) rfl ?_
      refine q_goto hC dL_changes_173 (n := 177) (by decide) ?_
      refine q_callSW hC (cw_L_under (q_hD hC) hl) mw_L_under lk_L_138 dL_changes_177 (i, t, u, 1) rfl rfl (Nat.le_of_ble_eq_true rfl) ⟨⟨by decide, by decide⟩, by decide, by decide⟩ rfl (k' := (1, 6)) rfl ⟨hi, ht, hu, Or.inr rfl, hQ⟩ (fun v S' hp => ?_)
      obtain ⟨r9, rfl, hw9⟩ := hp
      have hw9 : z_mw S S' i := hw9
      show qV Γ _ _ 180 _ (.long _ :: _) _ _
      refine q_pop2 hC dL_changes_180 rfl rfl ?_
      refine q_goto hC dL_changes_181 (n := 335) (by decide) ?_
      refine q_vret hC dL_changes_335 ⟨by decide, by decide⟩ ⟨rfl, ?_⟩
      exact hw9
  have J184 : ∀ (t u a b n : Nat) (sg : Int32), t < 5 → u < 5 → a < 3 → b < 2 → n < 100 → z_sg4 sg → qV Γ rm_L_changes 9 184 [(0, .ref (q_ad Γ 36 0)), (1, .int (nI i)), (2, .int (nI v)), (3, .int (nI (65 + t))), (4, .int (nI (65 + u))), (5, .int (nI (97 + a))), (6, .int (nI b)), (7, .int sg), (8, .int (nI n))] [] S (0, 0) := by
    intro t u a b n sg ht hu ha hb hn hsg
    refine q_aload_n hC 0 dL_changes_184 rfl rfl ?_
    refine q_iload_n hC 1 dL_changes_185 rfl rfl ?_
    refine q_iload_n hC 3 dL_changes_186 rfl rfl ?_
    refine q_iload hC 5 dL_changes_187 rfl rfl ?_
    refine q_iload hC 6 dL_changes_189 rfl rfl ?_
    refine q_iload_n hC 2 dL_changes_191 rfl rfl ?_
    refine q_sipush hC dL_changes_192 (v := 150) (by decide) rfl ?_
    refine q_idiv hC dL_changes_195 (by decide) rfl ?_
    rw [show (nI v : Int32) / 150 = nI (v / 150) from D v 150 hv31 (by decide) (by decide)]
    refine q_iconst hC dL_changes_196 (v := 5) (by decide) rfl ?_
    refine q_irem hC dL_changes_197 (by decide) rfl ?_
    rw [show (nI (v / 150) : Int32) - nI (v / 150) / 5 * 5 = nI (v / 150 % 5) from M (v / 150) 5 (by omega) (by decide) (by decide)]
    refine q_if_ne hC dL_changes_198 (t := 206) (n := 201) (by decide) rfl (fun h198 => ?_) (fun h198 => ?_)
    · refine q_iload hC 7 dL_changes_206 rfl rfl ?_
      refine q_ldcS 1 hC dL_changes_208 (by decide) rfl rfl ?_
      refine q_iload_n hC 2 dL_changes_210 rfl rfl ?_
      refine q_iconst hC dL_changes_211 (v := 3) (by decide) rfl ?_
      refine q_idiv hC dL_changes_212 (by decide) rfl ?_
      rw [show (nI v : Int32) / 3 = nI (v / 3) from D v 3 hv31 (by decide) (by decide)]
      refine q_iconst hC dL_changes_213 (v := 5) (by decide) rfl ?_
      refine q_irem hC dL_changes_214 (by decide) rfl ?_
      rw [show (nI (v / 3) : Int32) - nI (v / 3) / 5 * 5 = nI (v / 3 % 5) from M (v / 3) 5 (by omega) (by decide) (by decide)]
      refine q_callT hC (c_J0_charAt_5068e (q_hD hC)) m_J0_charAt_5068e rfl lk_L_130 dL_changes_215 (1, v / 3 % 5) (show 1 < 7 by decide) rfl rfl rfl (Nat.le_of_ble_eq_true rfl) ⟨⟨by decide, by decide⟩, by decide, by decide⟩ rfl (k' := (0, 0)) rfl ⟨(show 1 < 7 by decide), (show v / 3 % 5 < 5 by omega)⟩ (fun v S' hp => ?_)
      obtain ⟨rc, rfl, hrc, rfl⟩ := hp
      have hrc : rc = q_ch 1 (v / 3 % 5) := hrc
      show qV Γ _ _ 218 _ (.int _ :: _) _ _
      refine q_iload hC 8 dL_changes_218 rfl rfl ?_
      refine q_callSW hC (cw_L_method (q_hD hC) hl) mw_L_method lk_L_143 dL_changes_220 (i, t, a, b, sg, rc, n) rfl rfl (Nat.le_of_ble_eq_true rfl) ⟨⟨by decide, by decide⟩, by decide, by decide⟩ rfl (k' := (1, 6)) rfl ⟨hi, ht, ha, hb, (Or.inr hsg), (by rw [hrc]; exact z_chs1 _ (by omega)), hn, hQ⟩ (fun v S' hp => ?_)
      obtain ⟨r9, rfl, hw9⟩ := hp
      have hw9 : z_mw S S' i := hw9
      show qV Γ _ _ 223 _ (.long _ :: _) _ _
      refine q_pop2 hC dL_changes_223 rfl rfl ?_
      refine q_goto hC dL_changes_224 (n := 335) (by decide) ?_
      refine q_vret hC dL_changes_335 ⟨by decide, by decide⟩ ⟨rfl, ?_⟩
      exact hw9
    · refine q_bipush hC dL_changes_201 (v := 45) (by decide) rfl ?_
      refine q_goto hC dL_changes_203 (n := 208) (by decide) ?_
      refine q_ldcS 1 hC dL_changes_208 (by decide) rfl rfl ?_
      refine q_iload_n hC 2 dL_changes_210 rfl rfl ?_
      refine q_iconst hC dL_changes_211 (v := 3) (by decide) rfl ?_
      refine q_idiv hC dL_changes_212 (by decide) rfl ?_
      rw [show (nI v : Int32) / 3 = nI (v / 3) from D v 3 hv31 (by decide) (by decide)]
      refine q_iconst hC dL_changes_213 (v := 5) (by decide) rfl ?_
      refine q_irem hC dL_changes_214 (by decide) rfl ?_
      rw [show (nI (v / 3) : Int32) - nI (v / 3) / 5 * 5 = nI (v / 3 % 5) from M (v / 3) 5 (by omega) (by decide) (by decide)]
      refine q_callT hC (c_J0_charAt_5068e (q_hD hC)) m_J0_charAt_5068e rfl lk_L_130 dL_changes_215 (1, v / 3 % 5) (show 1 < 7 by decide) rfl rfl rfl (Nat.le_of_ble_eq_true rfl) ⟨⟨by decide, by decide⟩, by decide, by decide⟩ rfl (k' := (0, 0)) rfl ⟨(show 1 < 7 by decide), (show v / 3 % 5 < 5 by omega)⟩ (fun v S' hp => ?_)
      obtain ⟨rc, rfl, hrc, rfl⟩ := hp
      have hrc : rc = q_ch 1 (v / 3 % 5) := hrc
      show qV Γ _ _ 218 _ (.int _ :: _) _ _
      refine q_iload hC 8 dL_changes_218 rfl rfl ?_
      refine q_callSW hC (cw_L_method (q_hD hC) hl) mw_L_method lk_L_143 dL_changes_220 (i, t, a, b, 45, rc, n) rfl rfl (Nat.le_of_ble_eq_true rfl) ⟨⟨by decide, by decide⟩, by decide, by decide⟩ rfl (k' := (1, 6)) rfl ⟨hi, ht, ha, hb, (Or.inl rfl), (by rw [hrc]; exact z_chs1 _ (by omega)), hn, hQ⟩ (fun v S' hp => ?_)
      obtain ⟨r9, rfl, hw9⟩ := hp
      have hw9 : z_mw S S' i := hw9
      show qV Γ _ _ 223 _ (.long _ :: _) _ _
      refine q_pop2 hC dL_changes_223 rfl rfl ?_
      refine q_goto hC dL_changes_224 (n := 335) (by decide) ?_
      refine q_vret hC dL_changes_335 ⟨by decide, by decide⟩ ⟨rfl, ?_⟩
      exact hw9
  have J227 : ∀ (t u a b n : Nat) (sg : Int32), t < 5 → u < 5 → a < 3 → b < 2 → n < 100 → z_sg4 sg → qV Γ rm_L_changes 9 227 [(0, .ref (q_ad Γ 36 0)), (1, .int (nI i)), (2, .int (nI v)), (3, .int (nI (65 + t))), (4, .int (nI (65 + u))), (5, .int (nI (97 + a))), (6, .int (nI b)), (7, .int sg), (8, .int (nI n))] [] S (0, 0) := by
    intro t u a b n sg ht hu ha hb hn hsg
    refine q_aload_n hC 0 dL_changes_227 rfl rfl ?_
    refine q_iload_n hC 1 dL_changes_228 rfl rfl ?_
    refine q_iload_n hC 3 dL_changes_229 rfl rfl ?_
    refine q_iload hC 5 dL_changes_230 rfl rfl ?_
    refine q_iload hC 6 dL_changes_232 rfl rfl ?_
    refine q_iload_n hC 2 dL_changes_234 rfl rfl ?_
    refine q_sipush hC dL_changes_235 (v := 150) (by decide) rfl ?_
    refine q_idiv hC dL_changes_238 (by decide) rfl ?_
    rw [show (nI v : Int32) / 150 = nI (v / 150) from D v 150 hv31 (by decide) (by decide)]
    refine q_iconst hC dL_changes_239 (v := 5) (by decide) rfl ?_
    refine q_irem hC dL_changes_240 (by decide) rfl ?_
    rw [show (nI (v / 150) : Int32) - nI (v / 150) / 5 * 5 = nI (v / 150 % 5) from M (v / 150) 5 (by omega) (by decide) (by decide)]
    refine q_if_ne hC dL_changes_241 (t := 249) (n := 244) (by decide) rfl (fun h241 => ?_) (fun h241 => ?_)
    · refine q_iload hC 7 dL_changes_249 rfl rfl ?_
      refine q_ldcS 2 hC dL_changes_251 (by decide) rfl rfl ?_
      refine q_iload_n hC 2 dL_changes_253 rfl rfl ?_
      refine q_iconst hC dL_changes_254 (v := 3) (by decide) rfl ?_
      refine q_idiv hC dL_changes_255 (by decide) rfl ?_
      rw [show (nI v : Int32) / 3 = nI (v / 3) from D v 3 hv31 (by decide) (by decide)]
      refine q_iconst hC dL_changes_256 (v := 5) (by decide) rfl ?_
      refine q_irem hC dL_changes_257 (by decide) rfl ?_
      rw [show (nI (v / 3) : Int32) - nI (v / 3) / 5 * 5 = nI (v / 3 % 5) from M (v / 3) 5 (by omega) (by decide) (by decide)]
      refine q_callT hC (c_J0_charAt_5068e (q_hD hC)) m_J0_charAt_5068e rfl lk_L_130 dL_changes_258 (2, v / 3 % 5) (show 2 < 7 by decide) rfl rfl rfl (Nat.le_of_ble_eq_true rfl) ⟨⟨by decide, by decide⟩, by decide, by decide⟩ rfl (k' := (0, 0)) rfl ⟨(show 2 < 7 by decide), (show v / 3 % 5 < 5 by omega)⟩ (fun v S' hp => ?_)
      obtain ⟨rc, rfl, hrc, rfl⟩ := hp
      have hrc : rc = q_ch 2 (v / 3 % 5) := hrc
      show qV Γ _ _ 261 _ (.int _ :: _) _ _
      refine q_iload hC 8 dL_changes_261 rfl rfl ?_
      refine q_callSW hC (cw_L_field (q_hD hC) hl) mw_L_field lk_L_148 dL_changes_263 (i, t, a, b, sg, rc, n) rfl rfl (Nat.le_of_ble_eq_true rfl) ⟨⟨by decide, by decide⟩, by decide, by decide⟩ rfl (k' := (1, 6)) rfl ⟨hi, ht, ha, hb, (Or.inr hsg), (by rw [hrc]; exact z_chs2 _ (by omega)), hn, hQ⟩ (fun v S' hp => ?_)
      obtain ⟨r9, rfl, hw9⟩ := hp
      have hw9 : z_mw S S' i := hw9
      show qV Γ _ _ 266 _ (.long _ :: _) _ _
      refine q_pop2 hC dL_changes_266 rfl rfl ?_
      refine q_goto hC dL_changes_267 (n := 335) (by decide) ?_
      refine q_vret hC dL_changes_335 ⟨by decide, by decide⟩ ⟨rfl, ?_⟩
      exact hw9
    · refine q_bipush hC dL_changes_244 (v := 45) (by decide) rfl ?_
      refine q_goto hC dL_changes_246 (n := 251) (by decide) ?_
      refine q_ldcS 2 hC dL_changes_251 (by decide) rfl rfl ?_
      refine q_iload_n hC 2 dL_changes_253 rfl rfl ?_
      refine q_iconst hC dL_changes_254 (v := 3) (by decide) rfl ?_
      refine q_idiv hC dL_changes_255 (by decide) rfl ?_
      rw [show (nI v : Int32) / 3 = nI (v / 3) from D v 3 hv31 (by decide) (by decide)]
      refine q_iconst hC dL_changes_256 (v := 5) (by decide) rfl ?_
      refine q_irem hC dL_changes_257 (by decide) rfl ?_
      rw [show (nI (v / 3) : Int32) - nI (v / 3) / 5 * 5 = nI (v / 3 % 5) from M (v / 3) 5 (by omega) (by decide) (by decide)]
      refine q_callT hC (c_J0_charAt_5068e (q_hD hC)) m_J0_charAt_5068e rfl lk_L_130 dL_changes_258 (2, v / 3 % 5) (show 2 < 7 by decide) rfl rfl rfl (Nat.le_of_ble_eq_true rfl) ⟨⟨by decide, by decide⟩, by decide, by decide⟩ rfl (k' := (0, 0)) rfl ⟨(show 2 < 7 by decide), (show v / 3 % 5 < 5 by omega)⟩ (fun v S' hp => ?_)
      obtain ⟨rc, rfl, hrc, rfl⟩ := hp
      have hrc : rc = q_ch 2 (v / 3 % 5) := hrc
      show qV Γ _ _ 261 _ (.int _ :: _) _ _
      refine q_iload hC 8 dL_changes_261 rfl rfl ?_
      refine q_callSW hC (cw_L_field (q_hD hC) hl) mw_L_field lk_L_148 dL_changes_263 (i, t, a, b, 45, rc, n) rfl rfl (Nat.le_of_ble_eq_true rfl) ⟨⟨by decide, by decide⟩, by decide, by decide⟩ rfl (k' := (1, 6)) rfl ⟨hi, ht, ha, hb, (Or.inl rfl), (by rw [hrc]; exact z_chs2 _ (by omega)), hn, hQ⟩ (fun v S' hp => ?_)
      obtain ⟨r9, rfl, hw9⟩ := hp
      have hw9 : z_mw S S' i := hw9
      show qV Γ _ _ 266 _ (.long _ :: _) _ _
      refine q_pop2 hC dL_changes_266 rfl rfl ?_
      refine q_goto hC dL_changes_267 (n := 335) (by decide) ?_
      refine q_vret hC dL_changes_335 ⟨by decide, by decide⟩ ⟨rfl, ?_⟩
      exact hw9
  have J270 : ∀ (t u a b n : Nat) (sg : Int32), t < 5 → u < 5 → a < 3 → b < 2 → n < 100 → z_sg4 sg → qV Γ rm_L_changes 9 270 [(0, .ref (q_ad Γ 36 0)), (1, .int (nI i)), (2, .int (nI v)), (3, .int (nI (65 + t))), (4, .int (nI (65 + u))), (5, .int (nI (97 + a))), (6, .int (nI b)), (7, .int sg), (8, .int (nI n))] [] S (0, 0) := by
    intro t u a b n sg ht hu ha hb hn hsg
    refine q_aload_n hC 0 dL_changes_270 rfl rfl ?_
    refine q_iload_n hC 1 dL_changes_271 rfl rfl ?_
    refine q_iload_n hC 3 dL_changes_272 rfl rfl ?_
    refine q_ldcS 3 hC dL_changes_273 (by decide) rfl rfl ?_
    refine q_iload_n hC 2 dL_changes_275 rfl rfl ?_
    refine q_bipush hC dL_changes_276 (v := 25) (by decide) rfl ?_
    refine q_idiv hC dL_changes_278 (by decide) rfl ?_
    rw [show (nI v : Int32) / 25 = nI (v / 25) from D v 25 hv31 (by decide) (by decide)]
    refine q_iconst hC dL_changes_279 (v := 3) (by decide) rfl ?_
    refine q_irem hC dL_changes_280 (by decide) rfl ?_
    rw [show (nI (v / 25) : Int32) - nI (v / 25) / 3 * 3 = nI (v / 25 % 3) from M (v / 25) 3 (by omega) (by decide) (by decide)]
    refine q_callT hC (c_J0_charAt_5068e (q_hD hC)) m_J0_charAt_5068e rfl lk_L_130 dL_changes_281 (3, v / 25 % 3) (show 3 < 7 by decide) rfl rfl rfl (Nat.le_of_ble_eq_true rfl) ⟨⟨by decide, by decide⟩, by decide, by decide⟩ rfl (k' := (0, 0)) rfl ⟨(show 3 < 7 by decide), (show v / 25 % 3 < 3 by omega)⟩ (fun v S' hp => ?_)
    obtain ⟨rc, rfl, hrc, rfl⟩ := hp
    have hrc : rc = q_ch 3 (v / 25 % 3) := hrc
    show qV Γ _ _ 284 _ (.int _ :: _) _ _
    refine q_iload_n hC 2 dL_changes_284 rfl rfl ?_
    refine q_bipush hC dL_changes_285 (v := 75) (by decide) rfl ?_
    refine q_idiv hC dL_changes_287 (by decide) rfl ?_
    rw [show (nI v : Int32) / 75 = nI (v / 75) from D v 75 hv31 (by decide) (by decide)]
    refine q_iconst hC dL_changes_288 (v := 2) (by decide) rfl ?_
    refine q_irem hC dL_changes_289 (by decide) rfl ?_
    rw [show (nI (v / 75) : Int32) - nI (v / 75) / 2 * 2 = nI (v / 75 % 2) from M (v / 75) 2 (by omega) (by decide) (by decide)]
    refine q_if_ne hC dL_changes_290 (t := 297) (n := 293) (by decide) rfl (fun h290 => ?_) (fun h290 => ?_)
    · refine q_iconst hC dL_changes_297 (v := 0) (by decide) rfl ?_
      refine q_callSW hC (cw_L_flag (q_hD hC) hl) mw_L_flag lk_L_152 dL_changes_298 (i, t, rc, 0) rfl rfl (Nat.le_of_ble_eq_true rfl) ⟨⟨by decide, by decide⟩, by decide, by decide⟩ rfl (k' := (1, 6)) rfl ⟨hi, ht, (by rw [hrc]; exact z_chs3 _ (by omega)), Or.inl rfl, hQ⟩ (fun v S' hp => ?_)
      obtain ⟨r9, rfl, hw9⟩ := hp
      have hw9 : z_mw S S' i := hw9
      show qV Γ _ _ 301 _ (.long _ :: _) _ _
      refine q_pop2 hC dL_changes_301 rfl rfl ?_
      refine q_goto hC dL_changes_302 (n := 335) (by decide) ?_
      refine q_vret hC dL_changes_335 ⟨by decide, by decide⟩ ⟨rfl, ?_⟩
      exact hw9
    · refine q_iconst hC dL_changes_293 (v := 1) (by decide) rfl ?_
      refine q_goto hC dL_changes_294 (n := 298) (by decide) ?_
      refine q_callSW hC (cw_L_flag (q_hD hC) hl) mw_L_flag lk_L_152 dL_changes_298 (i, t, rc, 1) rfl rfl (Nat.le_of_ble_eq_true rfl) ⟨⟨by decide, by decide⟩, by decide, by decide⟩ rfl (k' := (1, 6)) rfl ⟨hi, ht, (by rw [hrc]; exact z_chs3 _ (by omega)), Or.inr rfl, hQ⟩ (fun v S' hp => ?_)
      obtain ⟨r9, rfl, hw9⟩ := hp
      have hw9 : z_mw S S' i := hw9
      show qV Γ _ _ 301 _ (.long _ :: _) _ _
      refine q_pop2 hC dL_changes_301 rfl rfl ?_
      refine q_goto hC dL_changes_302 (n := 335) (by decide) ?_
      refine q_vret hC dL_changes_335 ⟨by decide, by decide⟩ ⟨rfl, ?_⟩
      exact hw9
  have J305 : ∀ (t u a b n : Nat) (sg : Int32), t < 5 → u < 5 → a < 3 → b < 2 → n < 100 → z_sg4 sg → qV Γ rm_L_changes 9 305 [(0, .ref (q_ad Γ 36 0)), (1, .int (nI i)), (2, .int (nI v)), (3, .int (nI (65 + t))), (4, .int (nI (65 + u))), (5, .int (nI (97 + a))), (6, .int (nI b)), (7, .int sg), (8, .int (nI n))] [] S (0, 0) := by
    intro t u a b n sg ht hu ha hb hn hsg
    refine q_aload_n hC 0 dL_changes_305 rfl rfl ?_
    refine q_iload_n hC 1 dL_changes_306 rfl rfl ?_
    refine q_iload_n hC 3 dL_changes_307 rfl rfl ?_
    refine q_iload hC 7 dL_changes_308 rfl rfl ?_
    refine q_callSW hC (cw_L_maker (q_hD hC) hl) mw_L_maker lk_L_154 dL_changes_310 (i, t, sg) rfl rfl (Nat.le_of_ble_eq_true rfl) ⟨⟨by decide, by decide⟩, by decide, by decide⟩ rfl (k' := (1, 6)) rfl ⟨hi, ht, hsg, hQ⟩ (fun v S' hp => ?_)
    obtain ⟨r9, rfl, hw9⟩ := hp
    have hw9 : z_mw S S' i := hw9
    show qV Γ _ _ 313 _ (.long _ :: _) _ _
    refine q_pop2 hC dL_changes_313 rfl rfl ?_
    refine q_goto hC dL_changes_314 (n := 335) (by decide) ?_
    refine q_vret hC dL_changes_335 ⟨by decide, by decide⟩ ⟨rfl, ?_⟩
    exact hw9
  have J317 : ∀ (t u a b n : Nat) (sg : Int32), t < 5 → u < 5 → a < 3 → b < 2 → n < 100 → z_sg4 sg → qV Γ rm_L_changes 9 317 [(0, .ref (q_ad Γ 36 0)), (1, .int (nI i)), (2, .int (nI v)), (3, .int (nI (65 + t))), (4, .int (nI (65 + u))), (5, .int (nI (97 + a))), (6, .int (nI b)), (7, .int sg), (8, .int (nI n))] [] S (0, 0) := by
    intro t u a b n sg ht hu ha hb hn hsg
    refine q_aload_n hC 0 dL_changes_317 rfl rfl ?_
    refine q_iload_n hC 1 dL_changes_318 rfl rfl ?_
    refine q_iload_n hC 3 dL_changes_319 rfl rfl ?_
    refine q_ldcS 4 hC dL_changes_320 (by decide) rfl rfl ?_
    refine q_iload_n hC 2 dL_changes_322 rfl rfl ?_
    refine q_bipush hC dL_changes_323 (v := 25) (by decide) rfl ?_
    refine q_idiv hC dL_changes_325 (by decide) rfl ?_
    rw [show (nI v : Int32) / 25 = nI (v / 25) from D v 25 hv31 (by decide) (by decide)]
    refine q_iconst hC dL_changes_326 (v := 3) (by decide) rfl ?_
    refine q_irem hC dL_changes_327 (by decide) rfl ?_
    rw [show (nI (v / 25) : Int32) - nI (v / 25) / 3 * 3 = nI (v / 25 % 3) from M (v / 25) 3 (by omega) (by decide) (by decide)]
    refine q_callT hC (c_J0_charAt_5068e (q_hD hC)) m_J0_charAt_5068e rfl lk_L_130 dL_changes_328 (4, v / 25 % 3) (show 4 < 7 by decide) rfl rfl rfl (Nat.le_of_ble_eq_true rfl) ⟨⟨by decide, by decide⟩, by decide, by decide⟩ rfl (k' := (0, 0)) rfl ⟨(show 4 < 7 by decide), (show v / 25 % 3 < 3 by omega)⟩ (fun v S' hp => ?_)
    obtain ⟨rc, rfl, hrc, rfl⟩ := hp
    have hrc : rc = q_ch 4 (v / 25 % 3) := hrc
    show qV Γ _ _ 331 _ (.int _ :: _) _ _
    refine q_callSW hC (cw_L_type (q_hD hC)) mw_L_type lk_L_120 dL_changes_331 (i, t, rc) rfl rfl (Nat.le_of_ble_eq_true rfl) ⟨⟨by decide, by decide⟩, by decide, by decide⟩ rfl (k' := (0, 0)) rfl ⟨hi, ht, (by rw [hrc]; exact z_chs4 _ (by omega)), hQ.1⟩ (fun v S' hp => ?_)
    obtain ⟨r9, rfl, hw9, -⟩ := hp
    have hw9 : z_mw S S' i := hw9
    show qV Γ _ _ 334 _ (.long _ :: _) _ _
    refine q_pop2 hC dL_changes_334 rfl rfl ?_
    refine q_vret hC dL_changes_335 ⟨by decide, by decide⟩ ⟨rfl, ?_⟩
    exact hw9
  have J79 : ∀ (t u a b n w : Nat) (sg : Int32), w < 11 → t < 5 → u < 5 → a < 3 → b < 2 → n < 100 → z_sg4 sg → qV Γ rm_L_changes 9 79 [(0, .ref (q_ad Γ 36 0)), (1, .int (nI i)), (2, .int (nI v)), (3, .int (nI (65 + t))), (4, .int (nI (65 + u))), (5, .int (nI (97 + a))), (6, .int (nI b)), (7, .int sg), (8, .int (nI n))] [.int (nI w)] S (0, 0) := by
    intro t u a b n w sg hw ht hu ha hb hn hsg
    rcases (by omega : w = 0 ∨ w = 1 ∨ w = 2 ∨ w = 3 ∨ w = 4 ∨ w = 5 ∨ w = 6 ∨ w = 7 ∨ w = 8 ∨ w = 9 ∨ w = 10) with rfl | rfl | rfl | rfl | rfl | rfl | rfl | rfl | rfl | rfl | rfl
    · exact q_tsw (tgt := 132) hC dL_changes_79 (by decide) (by decide) rfl (by decide) (J132 t u a b n sg ht hu ha hb hn hsg)
    · exact q_tsw (tgt := 158) hC dL_changes_79 (by decide) (by decide) rfl (by decide) (J158 t u a b n sg ht hu ha hb hn hsg)
    · exact q_tsw (tgt := 158) hC dL_changes_79 (by decide) (by decide) rfl (by decide) (J158 t u a b n sg ht hu ha hb hn hsg)
    · exact q_tsw (tgt := 184) hC dL_changes_79 (by decide) (by decide) rfl (by decide) (J184 t u a b n sg ht hu ha hb hn hsg)
    · exact q_tsw (tgt := 184) hC dL_changes_79 (by decide) (by decide) rfl (by decide) (J184 t u a b n sg ht hu ha hb hn hsg)
    · exact q_tsw (tgt := 184) hC dL_changes_79 (by decide) (by decide) rfl (by decide) (J184 t u a b n sg ht hu ha hb hn hsg)
    · exact q_tsw (tgt := 227) hC dL_changes_79 (by decide) (by decide) rfl (by decide) (J227 t u a b n sg ht hu ha hb hn hsg)
    · exact q_tsw (tgt := 227) hC dL_changes_79 (by decide) (by decide) rfl (by decide) (J227 t u a b n sg ht hu ha hb hn hsg)
    · exact q_tsw (tgt := 270) hC dL_changes_79 (by decide) (by decide) rfl (by decide) (J270 t u a b n sg ht hu ha hb hn hsg)
    · exact q_tsw (tgt := 305) hC dL_changes_79 (by decide) (by decide) rfl (by decide) (J305 t u a b n sg ht hu ha hb hn hsg)
    · exact q_tswO (tgt := 317) hC dL_changes_79 (by decide) (by decide) (J317 t u a b n sg ht hu ha hb hn hsg)
  show qV Γ _ _ 0 [(0, .ref (q_ad Γ 36 0)), (1, .int (nI i)), (2, .int (nI v))] [] S (0, 0)
  refine q_bipush hC dL_changes_0 (v := 65) (by decide) rfl ?_
  refine q_iload_n hC 2 dL_changes_2 rfl rfl ?_
  refine q_iconst hC dL_changes_3 (v := 5) (by decide) rfl ?_
  refine q_irem hC dL_changes_4 (by decide) rfl ?_
  rw [show (nI (v) : Int32) - nI (v) / 5 * 5 = nI (v % 5) from M (v) 5 (by omega) (by decide) (by decide)]
  refine q_iadd hC dL_changes_5 rfl ?_
  refine q_i2c hC dL_changes_6 rfl ?_
  rw [z_a65 (v % 5) (by omega)]
  refine q_istore_n hC dL_changes_7 (by decide) (ls' := [(0, _), (1, _), (2, _), (3, _)]) rfl rfl ?_
  refine q_bipush hC dL_changes_8 (v := 65) (by decide) rfl ?_
  refine q_iload_n hC 2 dL_changes_10 rfl rfl ?_
  refine q_iconst hC dL_changes_11 (v := 5) (by decide) rfl ?_
  refine q_idiv hC dL_changes_12 (by decide) rfl ?_
  rw [show (nI v : Int32) / 5 = nI (v / 5) from D v 5 hv31 (by decide) (by decide)]
  refine q_iconst hC dL_changes_13 (v := 5) (by decide) rfl ?_
  refine q_irem hC dL_changes_14 (by decide) rfl ?_
  rw [show (nI (v / 5) : Int32) - nI (v / 5) / 5 * 5 = nI (v / 5 % 5) from M (v / 5) 5 (by omega) (by decide) (by decide)]
  refine q_iadd hC dL_changes_15 rfl ?_
  refine q_i2c hC dL_changes_16 rfl ?_
  rw [z_a65 (v / 5 % 5) (by omega)]
  refine q_istore hC dL_changes_17 (by decide) (ls' := [(0, _), (1, _), (2, _), (3, _), (4, _)]) rfl rfl ?_
  refine q_bipush hC dL_changes_19 (v := 97) (by decide) rfl ?_
  refine q_iload_n hC 2 dL_changes_21 rfl rfl ?_
  refine q_bipush hC dL_changes_22 (v := 25) (by decide) rfl ?_
  refine q_idiv hC dL_changes_24 (by decide) rfl ?_
  rw [show (nI v : Int32) / 25 = nI (v / 25) from D v 25 hv31 (by decide) (by decide)]
  refine q_iconst hC dL_changes_25 (v := 2) (by decide) rfl ?_
  refine q_irem hC dL_changes_26 (by decide) rfl ?_
  rw [show (nI (v / 25) : Int32) - nI (v / 25) / 2 * 2 = nI (v / 25 % 2) from M (v / 25) 2 (by omega) (by decide) (by decide)]
  refine q_iadd hC dL_changes_27 rfl ?_
  refine q_i2c hC dL_changes_28 rfl ?_
  rw [z_a97 (v / 25 % 2) (by omega)]
  refine q_istore hC dL_changes_29 (by decide) (ls' := [(0, _), (1, _), (2, _), (3, _), (4, _), (5, _)]) rfl rfl ?_
  refine q_iload_n hC 2 dL_changes_31 rfl rfl ?_
  refine q_bipush hC dL_changes_32 (v := 50) (by decide) rfl ?_
  refine q_idiv hC dL_changes_34 (by decide) rfl ?_
  rw [show (nI v : Int32) / 50 = nI (v / 50) from D v 50 hv31 (by decide) (by decide)]
  refine q_iconst hC dL_changes_35 (v := 5) (by decide) rfl ?_
  refine q_irem hC dL_changes_36 (by decide) rfl ?_
  rw [show (nI (v / 50) : Int32) - nI (v / 50) / 5 * 5 = nI (v / 50 % 5) from M (v / 50) 5 (by omega) (by decide) (by decide)]
  refine q_if_ne hC dL_changes_37 (t := 44) (n := 40) (by decide) rfl (fun h37 => ?_) (fun h37 => ?_)
  · refine q_iconst hC dL_changes_44 (v := 0) (by decide) rfl ?_
    refine q_istore hC dL_changes_45 (by decide) (ls' := [(0, _), (1, _), (2, _), (3, _), (4, _), (5, _), (6, _)]) rfl rfl ?_
    refine q_ldcS 0 hC dL_changes_47 (by decide) rfl rfl ?_
    refine q_iload_n hC 2 dL_changes_49 rfl rfl ?_
    refine q_sipush hC dL_changes_50 (v := 250) (by decide) rfl ?_
    refine q_idiv hC dL_changes_53 (by decide) rfl ?_
    rw [show (nI v : Int32) / 250 = nI (v / 250) from D v 250 hv31 (by decide) (by decide)]
    refine q_bipush hC dL_changes_54 (v := 6) (by decide) rfl ?_
    refine q_irem hC dL_changes_56 (by decide) rfl ?_
    rw [show (nI (v / 250) : Int32) - nI (v / 250) / 6 * 6 = nI (v / 250 % 6) from M (v / 250) 6 (by omega) (by decide) (by decide)]
    refine q_callT hC (c_J0_charAt_5068e (q_hD hC)) m_J0_charAt_5068e rfl lk_L_130 dL_changes_57 (0, v / 250 % 6) (show 0 < 7 by decide) rfl rfl rfl (Nat.le_of_ble_eq_true rfl) ⟨⟨by decide, by decide⟩, by decide, by decide⟩ rfl (k' := (0, 0)) rfl ⟨(show 0 < 7 by decide), (show v / 250 % 6 < 6 by omega)⟩ (fun v S' hp => ?_)
    obtain ⟨rc, rfl, hrc, rfl⟩ := hp
    have hrc : rc = q_ch 0 (v / 250 % 6) := hrc
    show qV Γ _ _ 60 _ (.int _ :: _) _ _
    refine q_istore hC dL_changes_60 (by decide) (ls' := [(0, _), (1, _), (2, _), (3, _), (4, _), (5, _), (6, _), (7, _)]) rfl rfl ?_
    refine q_iload_n hC 2 dL_changes_62 rfl rfl ?_
    refine q_sipush hC dL_changes_63 (v := 1500) (by decide) rfl ?_
    refine q_idiv hC dL_changes_66 (by decide) rfl ?_
    rw [show (nI v : Int32) / 1500 = nI (v / 1500) from D v 1500 hv31 (by decide) (by decide)]
    refine q_bipush hC dL_changes_67 (v := 100) (by decide) rfl ?_
    refine q_irem hC dL_changes_69 (by decide) rfl ?_
    rw [show (nI (v / 1500) : Int32) - nI (v / 1500) / 100 * 100 = nI (v / 1500 % 100) from M (v / 1500) 100 (by omega) (by decide) (by decide)]
    refine q_istore hC dL_changes_70 (by decide) (ls' := [(0, _), (1, _), (2, _), (3, _), (4, _), (5, _), (6, _), (7, _), (8, _)]) rfl rfl ?_
    refine q_iload_n hC 2 dL_changes_72 rfl rfl ?_
    refine q_bipush hC dL_changes_73 (v := 7) (by decide) rfl ?_
    refine q_idiv hC dL_changes_75 (by decide) rfl ?_
    rw [show (nI v : Int32) / 7 = nI (v / 7) from D v 7 hv31 (by decide) (by decide)]
    refine q_bipush hC dL_changes_76 (v := 11) (by decide) rfl ?_
    refine q_irem hC dL_changes_78 (by decide) rfl ?_
    rw [show (nI (v / 7) : Int32) - nI (v / 7) / 11 * 11 = nI (v / 7 % 11) from M (v / 7) 11 (by omega) (by decide) (by decide)]
    exact J79 (v % 5) (v / 5 % 5) (v / 25 % 2) 0 (v / 1500 % 100) (v / 7 % 11) rc (by omega) (by omega) (by omega) (by omega) (by decide) (by omega) (by rw [hrc]; exact z_chs0 _ (by omega))
  · refine q_iconst hC dL_changes_40 (v := 1) (by decide) rfl ?_
    refine q_goto hC dL_changes_41 (n := 45) (by decide) ?_
    refine q_istore hC dL_changes_45 (by decide) (ls' := [(0, _), (1, _), (2, _), (3, _), (4, _), (5, _), (6, _)]) rfl rfl ?_
    refine q_ldcS 0 hC dL_changes_47 (by decide) rfl rfl ?_
    refine q_iload_n hC 2 dL_changes_49 rfl rfl ?_
    refine q_sipush hC dL_changes_50 (v := 250) (by decide) rfl ?_
    refine q_idiv hC dL_changes_53 (by decide) rfl ?_
    rw [show (nI v : Int32) / 250 = nI (v / 250) from D v 250 hv31 (by decide) (by decide)]
    refine q_bipush hC dL_changes_54 (v := 6) (by decide) rfl ?_
    refine q_irem hC dL_changes_56 (by decide) rfl ?_
    rw [show (nI (v / 250) : Int32) - nI (v / 250) / 6 * 6 = nI (v / 250 % 6) from M (v / 250) 6 (by omega) (by decide) (by decide)]
    refine q_callT hC (c_J0_charAt_5068e (q_hD hC)) m_J0_charAt_5068e rfl lk_L_130 dL_changes_57 (0, v / 250 % 6) (show 0 < 7 by decide) rfl rfl rfl (Nat.le_of_ble_eq_true rfl) ⟨⟨by decide, by decide⟩, by decide, by decide⟩ rfl (k' := (0, 0)) rfl ⟨(show 0 < 7 by decide), (show v / 250 % 6 < 6 by omega)⟩ (fun v S' hp => ?_)
    obtain ⟨rc, rfl, hrc, rfl⟩ := hp
    have hrc : rc = q_ch 0 (v / 250 % 6) := hrc
    show qV Γ _ _ 60 _ (.int _ :: _) _ _
    refine q_istore hC dL_changes_60 (by decide) (ls' := [(0, _), (1, _), (2, _), (3, _), (4, _), (5, _), (6, _), (7, _)]) rfl rfl ?_
    refine q_iload_n hC 2 dL_changes_62 rfl rfl ?_
    refine q_sipush hC dL_changes_63 (v := 1500) (by decide) rfl ?_
    refine q_idiv hC dL_changes_66 (by decide) rfl ?_
    rw [show (nI v : Int32) / 1500 = nI (v / 1500) from D v 1500 hv31 (by decide) (by decide)]
    refine q_bipush hC dL_changes_67 (v := 100) (by decide) rfl ?_
    refine q_irem hC dL_changes_69 (by decide) rfl ?_
    rw [show (nI (v / 1500) : Int32) - nI (v / 1500) / 100 * 100 = nI (v / 1500 % 100) from M (v / 1500) 100 (by omega) (by decide) (by decide)]
    refine q_istore hC dL_changes_70 (by decide) (ls' := [(0, _), (1, _), (2, _), (3, _), (4, _), (5, _), (6, _), (7, _), (8, _)]) rfl rfl ?_
    refine q_iload_n hC 2 dL_changes_72 rfl rfl ?_
    refine q_bipush hC dL_changes_73 (v := 7) (by decide) rfl ?_
    refine q_idiv hC dL_changes_75 (by decide) rfl ?_
    rw [show (nI v : Int32) / 7 = nI (v / 7) from D v 7 hv31 (by decide) (by decide)]
    refine q_bipush hC dL_changes_76 (v := 11) (by decide) rfl ?_
    refine q_irem hC dL_changes_78 (by decide) rfl ?_
    rw [show (nI (v / 7) : Int32) - nI (v / 7) / 11 * 11 = nI (v / 7 % 11) from M (v / 7) 11 (by omega) (by decide) (by decide)]
    exact J79 (v % 5) (v / 5 % 5) (v / 25 % 2) 1 (v / 1500 % 100) (v / 7 % 11) rc (by omega) (by omega) (by omega) (by omega) (by decide) (by omega) (by rw [hrc]; exact z_chs0 _ (by omega))
