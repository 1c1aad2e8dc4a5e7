-- printed by wip/p36/gen_m2.py
abbrev rm_L_law : Room := { frames := 22, cells := 600192, slots := 7294824, locals := 10944 }
set_option maxHeartbeats 4000000 in
set_option maxRecDepth 100000 in
theorem t_L_law {Γ : qG} {S : qM} {a b : Nat} (hC : qC Γ cL_law RL 13 (some .boolean) rm_L_law (fun v _ => ∃ r : Int32, v = some (.int r) ∧ r = 1)) (hs : Γ.1.2.2.2.2.1.2.1 ≤ 260) (hl : Γ.1.1.stackTraces = false) (hJ : ∀ i, i < 4 → S 0 i 2 = 0 ∧ z_J S i) (h36 : S 36 0 8 = 0) (ha : a ≤ 100000) (hb : b ≤ 1000000) : qV Γ rm_L_law 13 8 [(0, .ref (q_o Γ).1.1), (1, .ref (q_ad Γ 36 0))] [] S (a, b) := by
  have hs : (q_o Γ).1.2.1 ≤ 260 := hs
  have M : ∀ (a d : Nat), a < 2 ^ 31 → 0 < d → d < 2 ^ 31 → (nI a : Int32) - nI a / nI d * nI d = nI (a % d) := fun a d h1 h2 h3 => pk_rem h1 h2 h3
  have J189 : ∀ (B : qM) (v2 fi : Int32) (sz : Int64), z_lib B 0 → z_lib B 1 → z_rdy B 0 → z_rdy B 1 → z_rs B → ((¬ fi = 0 ∧ z_Fit B 0 1) ∨ (fi = 0 ∧ ∃ s, s ≤ 6 ∧ sz = (nI s).toInt64 ∧ z_Min B 0 1 s)) → ∀ (n m : Nat) (T : qM) (a b : Nat), m + n = 40 → z_LI B T → a + 3 * n ≤ 500000 → b + 18 * n ≤ 5000000 → qV Γ rm_L_law 13 189 [(0, .ref (q_o Γ).1.1), (1, .ref (q_ad Γ 36 0)), (2, .int v2), (3, .int fi), (4, .long sz), (6, .int (nI m))] [] T (a, b) := by
    intro B v2 fi sz l0 l1 r0 r1 hrs HF n
    induction n with
    | zero =>
      intro m T a b hmn hLI ha hb
      obtain rfl : m = 40 := by omega
      refine q_iload hC 5 dL_law_189 rfl rfl ?_
      refine q_bipush hC dL_law_191 (v := 40) (by decide) rfl ?_
      refine q_icmp_ge hC dL_law_193 (t := 310) (n := 196) (by decide) rfl (fun h193 => ?_) (fun h193 => absurd (Int32.le_refl _) h193)
      refine q_aload_n hC 1 dL_law_310 rfl rfl ?_
      refine q_callS hC (c_L_isSound (q_hD hC)) m_L_isSound lk_L_218 dL_law_311 () rfl rfl (Nat.le_of_ble_eq_true rfl) ⟨⟨by decide, by decide⟩, (show a + 0 ≤ 600192 by omega), (show b + 0 ≤ 7294824 by omega)⟩ rfl (k' := (a, b)) rfl ⟨B, z_sH_of l0 l1 r0 r1 hrs hLI⟩ (fun v S' hp => ?_)
      obtain ⟨r9, rfl, h9⟩ := hp
      have h9 : r9 = 1 := h9
      subst h9
      show qV Γ _ _ 314 _ (.long _ :: _) _ _
      refine q_lconst hC dL_law_314 (v := 1) (by decide) rfl ?_
      refine q_lcmp hC dL_law_315 rfl ?_
      refine q_if_ne hC dL_law_316 (t := 323) (n := 319) (by decide) rfl (fun h316 => absurd (show lg_cmp 1 1 = 0 by decide) h316) (fun h316 => ?_)
      refine q_iconst hC dL_law_319 (v := 1) (by decide) rfl ?_
      refine q_goto hC dL_law_320 (n := 324) (by decide) ?_
      refine q_iret hC dL_law_324 rfl ⟨(show _ ≤ 600192 by omega), (show _ ≤ 7294824 by omega)⟩ ⟨_, rfl, ?_⟩
      rfl
    | succ n ih =>
      intro m T a b hmn hLI ha hb
      have hm : m < 40 := by omega
      have J304 : ∀ (U : qM), z_LI B U → qV Γ rm_L_law 13 304 [(0, .ref (q_o Γ).1.1), (1, .ref (q_ad Γ 36 0)), (2, .int v2), (3, .int fi), (4, .long sz), (6, .int (nI m))] [] U (a + 3, b + 18) := by
        intro U hU
        refine q_iinc hC 5 dL_law_304 rfl (v := nI (m + 1)) (z_inc m) (by decide) (ls' := [(0, _), (1, _), (2, _), (3, _), (4, _), (6, _)]) rfl rfl ?_
        refine q_goto hC dL_law_307 (n := 189) (by decide) ?_
        exact ih (m + 1) _ _ _ (by omega) hU (by omega) (by omega)
      refine q_iload hC 5 dL_law_189 rfl rfl ?_
      refine q_bipush hC dL_law_191 (v := 40) (by decide) rfl ?_
      refine q_icmp_ge hC dL_law_193 (t := 310) (n := 196) (by decide) rfl (fun h193 => absurd h193 (nI_ge hm (by decide))) (fun h193 => ?_)
      refine q_iconst hC dL_law_196 (v := 1) (by decide) rfl ?_
      refine q_iload hC 5 dL_law_197 rfl rfl ?_
      refine q_iconst hC dL_law_199 (v := 3) (by decide) rfl ?_
      refine q_irem hC dL_law_200 (by decide) rfl ?_
      rw [show (nI m : Int32) - nI m / 3 * 3 = nI (m % 3) from M m 3 (by omega) (by decide) (by decide)]
      refine q_iadd hC dL_law_201 rfl ?_
      rw [show (1 : Int32) + nI (m % 3) = nI (1 + m % 3) from nI_add 1 (m % 3)]
      refine q_istore hC dL_law_202 (by decide) (ls' := [(0, _), (1, _), (2, _), (3, _), (4, _), (6, _), (7, _)]) rfl rfl ?_
      refine q_aload_n hC 1 dL_law_204 rfl rfl ?_
      refine q_iconst hC dL_law_205 (v := 0) (by decide) rfl ?_
      refine q_aload_n hC 0 dL_law_206 rfl rfl ?_
      refine q_bipush hC dL_law_207 (v := 40) (by decide) rfl ?_
      refine q_iconst hC dL_law_209 (v := 4) (by decide) rfl ?_
      refine q_iload hC 5 dL_law_210 rfl rfl ?_
      refine q_imul hC dL_law_212 rfl ?_
      rw [show (4 : Int32) * nI m = nI (4 * m) from pk_mul 4 m]
      refine q_iadd hC dL_law_213 rfl ?_
      rw [show (40 : Int32) + nI (4 * m) = nI (40 + 4 * m) from nI_add 40 (4 * m)]
      refine q_iload hC 6 dL_law_214 rfl rfl ?_
      refine q_callS hC (c_L_asks (q_hD hC) hs hl) m_L_asks lk_L_214 dL_law_216 (0, 40 + 4 * m, 1 + m % 3) rfl rfl (Nat.le_of_ble_eq_true rfl) ⟨⟨by decide, by decide⟩, (show a + 3 ≤ 600192 by omega), (show b + 18 ≤ 7294824 by omega)⟩ rfl (k' := (a + 3, b + 18)) rfl ⟨(show 0 < 4 by decide), (show 40 + 4 * m < 1000 by omega), (show 1 + m % 3 ≤ 3 by omega)⟩ (fun v S' hp => ?_)
      obtain ⟨T1, hT1⟩ : ∃ U, U = S' := ⟨_, rfl⟩
      subst hT1
      obtain ⟨rp, rfl, f, L, s, N, hr1, hN3, hX, hT1⟩ := hp
      have hr1 : rp = nI (s - 1) := hr1
      have hT1 : z_acl 0 T T1 f L N := hT1
      have hL1 := z_LI_acl hLI hT1
      obtain ⟨ow1, ac1, -, -⟩ := z_acl_r hX hT1
      show qV Γ _ _ 219 _ (.int _ :: _) _ _
      refine q_istore hC dL_law_219 (by decide) (ls' := [(0, _), (1, _), (2, _), (3, _), (4, _), (6, _), (7, _), (8, _)]) rfl rfl ?_
      refine q_aload_n hC 1 dL_law_221 rfl rfl ?_
      refine q_iconst hC dL_law_222 (v := 0) (by decide) rfl ?_
      refine q_iconst hC dL_law_223 (v := 0) (by decide) rfl ?_
      refine q_callSW hC (cw_L_run (q_hD hC)) mw_L_run lk_L_207 dL_law_224 (0, 0, N) rfl rfl (Nat.le_of_ble_eq_true rfl) ⟨⟨by decide, by decide⟩, (show a + 3 + 0 ≤ 600192 by omega), (show b + 18 + 0 ≤ 7294824 by omega)⟩ rfl (k' := (a + 3, b + 18)) rfl ⟨(show 0 < 4 by decide), (show 0 < 4 by decide), z_cur_rdy hL1.1 r0, hL1.1.2, ow1, (show N ≤ 8 by omega), ac1⟩ (fun v S' hp => ?_)
      obtain ⟨U, hU⟩ : ∃ U, U = S' := ⟨_, rfl⟩
      subst hU
      obtain ⟨rd, rfl, hrd, hU9⟩ := hp
      have hrun0 := z_runA hL1 (Or.inl rfl) l0 hX hT1 hU9
      have hLU := z_LI_run hL1 (Or.inl rfl) hrun0
      have hT2 := z_acl_run hrun0 hT1
      obtain ⟨ow2, ac2, -, -⟩ := z_acl_r hX hT2
      have hrd : rd = (U 33 0 1).toInt64 := hrd
      show qV Γ _ _ 227 _ (.long _ :: _) _ _
      refine q_lstore hC dL_law_227 (by decide) (ls' := [(0, _), (1, _), (2, _), (3, _), (4, _), (6, _), (7, _), (8, _), (9, _)]) rfl rfl ?_
      refine q_aload_n hC 1 dL_law_229 rfl rfl ?_
      refine q_callSW hC (cw_L_fault (q_hD hC)) mw_L_fault lk_L_209 dL_law_230 () rfl rfl (Nat.le_of_ble_eq_true rfl) ⟨⟨by decide, by decide⟩, (show a + 3 + 0 ≤ 600192 by omega), (show b + 18 + 0 ≤ 7294824 by omega)⟩ rfl (k' := (a + 3, b + 18)) rfl ⟨(by rw [hrun0.2.2.2.1]; decide), hrun0.2.2.2.2.1⟩ (fun v S' hp => ?_)
      obtain ⟨rf, rfl, hrf, rfl⟩ := hp
      have hrf : rf = (U 33 0 2).toInt64 := hrf
      subst hrf
      show qV Γ _ _ 233 _ (.long _ :: _) _ _
      refine q_ldc2 hC dL_law_233 cl_L_212 rfl ?_
      refine q_lcmp hC dL_law_236 rfl ?_
      refine q_if_ne hC dL_law_237 (t := 304) (n := 240) (by decide) rfl (fun h237 => ?_) (fun h237 => ?_)
      · refine q_locp [0, 1, 2, 3, 4, 5] (ls' := [(0, _), (1, _), (2, _), (3, _), (4, _), (6, _)]) rfl ?_
        exact J304 _ hLU
      · refine q_lload hC 8 dL_law_240 rfl rfl ?_
        refine q_lconst hC dL_law_242 (v := 0) (by decide) rfl ?_
        refine q_lcmp hC dL_law_243 rfl ?_
        refine q_if_ne hC dL_law_244 (t := 250) (n := 247) (by decide) rfl (fun h244 => ?_) (fun h244 => ?_)
        · refine q_aload_n hC 1 dL_law_250 rfl rfl ?_
          refine q_iconst hC dL_law_251 (v := 0) (by decide) rfl ?_
          refine q_iconst hC dL_law_252 (v := 1) (by decide) rfl ?_
          refine q_callSW hC (cw_L_run (q_hD hC)) mw_L_run lk_L_207 dL_law_253 (0, 1, N) rfl rfl (Nat.le_of_ble_eq_true rfl) ⟨⟨by decide, by decide⟩, (show a + 3 + 0 ≤ 600192 by omega), (show b + 18 + 0 ≤ 7294824 by omega)⟩ rfl (k' := (a + 3, b + 18)) rfl ⟨(show 0 < 4 by decide), (show 1 < 4 by decide), z_cur_rdy hLU.2.1 r1, hLU.2.1.2, ow2, (show N ≤ 8 by omega), ac2⟩ (fun v S' hp => ?_)
          obtain ⟨W, hW⟩ : ∃ U, U = S' := ⟨_, rfl⟩
          subst hW
          obtain ⟨re, rfl, hre, hW9⟩ := hp
          have hrun1 := z_runA hLU (Or.inr rfl) l1 hX hT2 hW9
          have hLW := z_LI_run hLU (Or.inr rfl) hrun1
          have hre : re = (W 33 0 1).toInt64 := hre
          show qV Γ _ _ 256 _ (.long _ :: _) _ _
          refine q_lstore hC dL_law_256 (by decide) (ls' := [(0, _), (1, _), (2, _), (3, _), (4, _), (6, _), (7, _), (8, _), (9, _), (11, _)]) rfl rfl ?_
          refine q_aload_n hC 1 dL_law_258 rfl rfl ?_
          refine q_callSW hC (cw_L_fault (q_hD hC)) mw_L_fault lk_L_209 dL_law_259 () rfl rfl (Nat.le_of_ble_eq_true rfl) ⟨⟨by decide, by decide⟩, (show a + 3 + 0 ≤ 600192 by omega), (show b + 18 + 0 ≤ 7294824 by omega)⟩ rfl (k' := (a + 3, b + 18)) rfl ⟨(by rw [hrun1.2.2.2.1]; decide), hrun1.2.2.2.2.1⟩ (fun v S' hp => ?_)
          obtain ⟨rg, rfl, hrg, rfl⟩ := hp
          have hrg : rg = (W 33 0 2).toInt64 := hrg
          subst hrg
          show qV Γ _ _ 262 _ (.long _ :: _) _ _
          refine q_ldc2 hC dL_law_262 cl_L_212 rfl ?_
          refine q_lcmp hC dL_law_265 rfl ?_
          refine q_if_ne hC dL_law_266 (t := 272) (n := 269) (by decide) rfl (fun h266 => ?_) (fun h266 => ?_)
          · have hN1 : 1 ≤ N := by
              rcases Nat.eq_zero_or_pos N with e | e
              · exfalso
                refine h244 ?_
                obtain ⟨-, -, -, -, -, w0, hw0, hc0⟩ := hrun0
                rcases hc0 with ⟨-, e0, -⟩ | ⟨e0, -⟩
                · rw [hrd, hw0, e0, e]; decide
                · exact absurd (z_l45.mp h237) e0
              · exact e
            obtain ⟨g0, ⟨w, hwN, g1⟩, k, t, m', o, hv, ht⟩ := z_runs hT1 hrun0 hrun1 (z_l45.mp h237) (fun e => h266 (z_l45.mpr e)) hN1
            rcases HF with ⟨-, hF⟩ | ⟨hfi, sl, hs6, hsz, hMin⟩
            · exact absurd ht (hF f L s hX k t m' o hv)
            · subst hfi
              refine q_iload_n hC 3 dL_law_272 rfl rfl ?_
              refine q_if_ne hC dL_law_273 (t := 302) (n := 276) (by decide) rfl (fun h273 => absurd rfl h273) (fun h273 => ?_)
              refine q_lload hC 9 dL_law_276 rfl rfl ?_
              refine q_lload hC 8 dL_law_278 rfl rfl ?_
              refine q_lcmp hC dL_law_280 rfl ?_
              refine q_if_ge hC dL_law_281 (t := 302) (n := 284) (by decide) rfl (fun h281 => absurd h281 (by rw [hrd, hre, g0, g1]; exact Int32.not_le.mpr (z_l3 N (by omega) w hwN))) (fun h281 => ?_)
              refine q_lload hC 8 dL_law_284 rfl rfl ?_
              refine q_lconst hC dL_law_286 (v := 1) (by decide) rfl ?_
              refine q_lcmp hC dL_law_287 rfl ?_
              refine q_if_ne hC dL_law_288 (t := 304) (n := 291) (by decide) rfl (fun h288 => ?_) (fun h288 => ?_)
              · refine q_locp [0, 1, 2, 3, 4, 5] (ls' := [(0, _), (1, _), (2, _), (3, _), (4, _), (6, _)]) rfl ?_
                exact J304 _ hLW
              · refine q_iload hC 7 dL_law_291 rfl rfl ?_
                refine q_i2l hC dL_law_293 rfl ?_
                refine q_lconst hC dL_law_294 (v := 1) (by decide) rfl ?_
                refine q_ladd hC dL_law_295 rfl ?_
                refine q_lload hC 4 dL_law_296 rfl rfl ?_
                refine q_lcmp hC dL_law_298 rfl ?_
                refine q_if_ge hC dL_law_299 (t := 304) (n := 302) (by decide) rfl (fun h299 => ?_) (fun h299 => absurd (by
                      rw [hr1, hsz]
                      have hss := z_Xs_sz hX
                      refine z_l6 (s - 1) (by omega) sl (by omega) ?_
                      rcases Nat.lt_or_ge s sl with e | e
                      · exact absurd ht (hMin f L s hX e k t m' o hv)
                      · omega) h299)
                refine q_locp [0, 1, 2, 3, 4, 5] (ls' := [(0, _), (1, _), (2, _), (3, _), (4, _), (6, _)]) rfl ?_
                exact J304 _ hLW
          · refine q_goto hC dL_law_269 (n := 304) (by decide) ?_
            refine q_locp [0, 1, 2, 3, 4, 5] (ls' := [(0, _), (1, _), (2, _), (3, _), (4, _), (6, _)]) rfl ?_
            exact J304 _ hLW
        · refine q_goto hC dL_law_247 (n := 304) (by decide) ?_
          refine q_locp [0, 1, 2, 3, 4, 5] (ls' := [(0, _), (1, _), (2, _), (3, _), (4, _), (6, _)]) rfl ?_
          exact J304 _ hLU
  have J91 : ∀ (B : qM) (v2 v3 : Int32) (a b : Nat), a ≤ 200000 → b ≤ 2000000 → z_rdy B 0 → z_rdy B 1 → z_Q B 0 → z_Q B 1 → z_rs B → qV Γ rm_L_law 13 91 [(0, .ref (q_o Γ).1.1), (1, .ref (q_ad Γ 36 0)), (2, .int v2), (3, .int v3)] [] B (a, b) := by
    intro B v2 v3 a b ha hb r0 r1 q0 q1 hrs
    obtain ⟨l0, c0⟩ := z_lib_Q r0 q0
    obtain ⟨l1, c1⟩ := z_lib_Q r1 q1
    have hB : z_LI B B := ⟨c0, c1, fun _ _ _ => rfl⟩
    refine q_aload_n hC 1 dL_law_91 rfl rfl ?_
    refine q_iconst hC dL_law_92 (v := 0) (by decide) rfl ?_
    refine q_iconst hC dL_law_93 (v := 1) (by decide) rfl ?_
    refine q_callSW hC (cw_L_fits (q_hD hC)) mw_L_fits lk_L_202 dL_law_94 (0, 1, ()) rfl rfl (Nat.le_of_ble_eq_true rfl) ⟨⟨by decide, by decide⟩, (show a + 0 ≤ 600192 by omega), (show b + 0 ≤ 7294824 by omega)⟩ rfl (k' := (a, b)) rfl ⟨(show 0 < 4 by decide), (show 1 < 4 by decide), z_cur_rdy hB.1 r0, z_cur_rdy hB.2.1 r1, hB.1.2, hB.2.1.2⟩ (fun v S' hp => ?_)
    obtain ⟨T1, hT1⟩ : ∃ U, U = S' := ⟨_, rfl⟩
    subst hT1
    obtain ⟨rr, rfl, r9, hfd, hrr⟩ := hp
    show qV Γ _ _ 97 _ (.long _ :: _) _ _
    have hrr : rr = if r9 = 0 then 1 else 0 := hrr
    obtain ⟨hLT, hy1, hy2⟩ := z_fits l0 l1 hB hfd
    by_cases e9 : r9 = 0
    · have hF := hy1 e9
      rw [if_pos e9] at hrr
      subst hrr
      refine q_lconst hC dL_law_97 (v := 1) (by decide) rfl ?_
      refine q_lcmp hC dL_law_98 rfl ?_
      refine q_if_ne hC dL_law_99 (t := 106) (n := 102) (by decide) rfl (fun h99 => absurd (show lg_cmp 1 1 = 0 by decide) h99) (fun h99 => ?_)
      refine q_iconst hC dL_law_102 (v := 1) (by decide) rfl ?_
      refine q_goto hC dL_law_103 (n := 107) (by decide) ?_
      refine q_istore_n hC dL_law_107 (by decide) (ls' := [(0, _), (1, _), (2, _), (3, _)]) rfl rfl ?_
      refine q_lconst hC dL_law_108 (v := 0) (by decide) rfl ?_
      refine q_lstore hC dL_law_109 (by decide) (ls' := [(0, _), (1, _), (2, _), (3, _), (4, _)]) rfl rfl ?_
      refine q_iload_n hC 3 dL_law_111 rfl rfl ?_
      refine q_if_ne hC dL_law_112 (t := 170) (n := 115) (by decide) rfl (fun _ => ?_) (fun h => absurd h (by decide))
      refine q_aload_n hC 1 dL_law_170 rfl rfl ?_
      refine q_iconst hC dL_law_171 (v := 0) (by decide) rfl ?_
      refine q_iconst hC dL_law_172 (v := 1) (by decide) rfl ?_
      refine q_iconst hC dL_law_173 (v := 3) (by decide) rfl ?_
      refine q_callSW hC (cw_L_witness (q_hD hC) hl) mw_L_witness lk_L_204 dL_law_174 (0, 1, 3) rfl rfl (Nat.le_of_ble_eq_true rfl) ⟨⟨by decide, by decide⟩, (show a + 1 ≤ 600192 by omega), (show b + 6 ≤ 7294824 by omega)⟩ rfl (k' := (a + 1, b + 6)) rfl ⟨(show 0 < 4 by decide), (show 1 < 4 by decide), z_cur_rdy hLT.1 r0, z_cur_rdy hLT.2.1 r1, hLT.1.2, hLT.2.1.2, (show 3 < 4 by decide)⟩ (fun v S' hp => ?_)
      obtain ⟨T2, hT2⟩ : ∃ U, U = S' := ⟨_, rfl⟩
      subst hT2
      obtain ⟨r8, rfl, hp⟩ := hp
      obtain ⟨hL2, hr8⟩ := z_wit0 l0 l1 hLT hF hp
      subst hr8
      show qV Γ _ _ 177 _ (.long _ :: _) _ _
      refine q_ldc2 hC dL_law_177 cl_L_33 rfl ?_
      refine q_lcmp hC dL_law_180 rfl ?_
      refine q_if_eq hC dL_law_181 (t := 186) (n := 184) (by decide) rfl (fun h181 => ?_) (fun h181 => absurd (show lg_cmp (-4000000000000000003) (-4000000000000000003) = 0 by decide +kernel) h181)
      refine q_iconst hC dL_law_186 (v := 0) (by decide) rfl ?_
      refine q_istore hC dL_law_187 (by decide) (ls' := [(0, _), (1, _), (2, _), (3, _), (4, _), (6, _)]) rfl rfl ?_
      exact J189 B v2 _ _ l0 l1 r0 r1 hrs (Or.inl ⟨(show ¬ (1 : Int32) = 0 by decide), hF⟩) 40 0 _ _ _ rfl hL2 (by omega) (by omega)
    · have hF := hy2 e9
      rw [if_neg e9] at hrr
      subst hrr
      refine q_lconst hC dL_law_97 (v := 1) (by decide) rfl ?_
      refine q_lcmp hC dL_law_98 rfl ?_
      refine q_if_ne hC dL_law_99 (t := 106) (n := 102) (by decide) rfl (fun h99 => ?_) (fun h99 => absurd h99 (show ¬ lg_cmp 0 1 = 0 by decide))
      refine q_iconst hC dL_law_106 (v := 0) (by decide) rfl ?_
      refine q_istore_n hC dL_law_107 (by decide) (ls' := [(0, _), (1, _), (2, _), (3, _)]) rfl rfl ?_
      refine q_lconst hC dL_law_108 (v := 0) (by decide) rfl ?_
      refine q_lstore hC dL_law_109 (by decide) (ls' := [(0, _), (1, _), (2, _), (3, _), (4, _)]) rfl rfl ?_
      refine q_iload_n hC 3 dL_law_111 rfl rfl ?_
      refine q_if_ne hC dL_law_112 (t := 170) (n := 115) (by decide) rfl (fun h => absurd h (by decide)) (fun _ => ?_)
      refine q_aload_n hC 1 dL_law_115 rfl rfl ?_
      refine q_iconst hC dL_law_116 (v := 0) (by decide) rfl ?_
      refine q_iconst hC dL_law_117 (v := 1) (by decide) rfl ?_
      refine q_iconst hC dL_law_118 (v := 3) (by decide) rfl ?_
      refine q_callSW hC (cw_L_witness (q_hD hC) hl) mw_L_witness lk_L_204 dL_law_119 (0, 1, 3) rfl rfl (Nat.le_of_ble_eq_true rfl) ⟨⟨by decide, by decide⟩, (show a + 1 ≤ 600192 by omega), (show b + 6 ≤ 7294824 by omega)⟩ rfl (k' := (a + 1, b + 6)) rfl ⟨(show 0 < 4 by decide), (show 1 < 4 by decide), z_cur_rdy hLT.1 r0, z_cur_rdy hLT.2.1 r1, hLT.1.2, hLT.2.1.2, (show 3 < 4 by decide)⟩ (fun v S' hp => ?_)
      obtain ⟨T2, hT2⟩ : ∃ U, U = S' := ⟨_, rfl⟩
      subst hT2
      obtain ⟨r8, rfl, hp⟩ := hp
      obtain ⟨hL2, s, hs6, hr8, hMin, f, L, k, t, m, o, T9, hX, ht, hT2, h1⟩ := z_wit1 l0 l1 hLT hF hp
      obtain ⟨ow2, ac2, -, -⟩ := z_acl_r hX hT2
      subst hr8
      show qV Γ _ _ 122 _ (.long _ :: _) _ _
      refine q_lstore hC dL_law_122 (by decide) (ls' := [(0, _), (1, _), (2, _), (3, _), (4, _)]) rfl rfl ?_
      refine q_aload_n hC 1 dL_law_124 rfl rfl ?_
      refine q_iconst hC dL_law_125 (v := 3) (by decide) rfl ?_
      refine q_iconst hC dL_law_126 (v := 0) (by decide) rfl ?_
      refine q_callSW hC (cw_L_run (q_hD hC)) mw_L_run lk_L_207 dL_law_127 (3, 0, 1) rfl rfl (Nat.le_of_ble_eq_true rfl) ⟨⟨by decide, by decide⟩, (show a + 1 + 0 ≤ 600192 by omega), (show b + 6 + 0 ≤ 7294824 by omega)⟩ rfl (k' := (a + 1, b + 6)) rfl ⟨(show 3 < 4 by decide), (show 0 < 4 by decide), z_cur_rdy hL2.1 r0, hL2.1.2, ow2, (show 1 ≤ 8 by decide), ac2⟩ (fun v S' hp => ?_)
      obtain ⟨U, hU⟩ : ∃ U, U = S' := ⟨_, rfl⟩
      subst hU
      obtain ⟨rd, rfl, hrd, hU9⟩ := hp
      have hrun0 := z_runA hL2 (Or.inl rfl) l0 hX hT2 hU9
      have hLU := z_LI_run hL2 (Or.inl rfl) hrun0
      have hT3 := z_acl_run hrun0 hT2
      have h3 := z_one_run hrun0 h1
      obtain ⟨ow3, ac3, -, -⟩ := z_acl_r hX hT3
      obtain ⟨u45, u1⟩ := (z_run1 h1 hrun0).1 ht.1
      have hrd : rd = (U 33 0 1).toInt64 := hrd
      rw [u1] at hrd
      subst hrd
      show qV Γ _ _ 130 _ (.long _ :: _) _ _
      refine q_lconst hC dL_law_130 (v := 1) (by decide) rfl ?_
      refine q_lcmp hC dL_law_131 rfl ?_
      refine q_if_ne hC dL_law_132 (t := 168) (n := 135) (by decide) rfl (fun h132 => absurd (show lg_cmp ((1 : Int32).toInt64) 1 = 0 by decide +kernel) h132) (fun h132 => ?_)
      refine q_aload_n hC 1 dL_law_135 rfl rfl ?_
      refine q_callSW hC (cw_L_fault (q_hD hC)) mw_L_fault lk_L_209 dL_law_136 () rfl rfl (Nat.le_of_ble_eq_true rfl) ⟨⟨by decide, by decide⟩, (show a + 1 + 0 ≤ 600192 by omega), (show b + 6 + 0 ≤ 7294824 by omega)⟩ rfl (k' := (a + 1, b + 6)) rfl ⟨(by rw [hrun0.2.2.2.1]; decide), hrun0.2.2.2.2.1⟩ (fun v S' hp => ?_)
      obtain ⟨rf, rfl, hrf, rfl⟩ := hp
      have hrf : rf = (U 33 0 2).toInt64 := hrf
      subst hrf
      show qV Γ _ _ 139 _ (.long _ :: _) _ _
      refine q_ldc2 hC dL_law_139 cl_L_212 rfl ?_
      refine q_lcmp hC dL_law_142 rfl ?_
      refine q_if_ne hC dL_law_143 (t := 168) (n := 146) (by decide) rfl (fun h143 => absurd (z_l45.mpr u45) h143) (fun h143 => ?_)
      refine q_aload_n hC 1 dL_law_146 rfl rfl ?_
      refine q_iconst hC dL_law_147 (v := 3) (by decide) rfl ?_
      refine q_iconst hC dL_law_148 (v := 1) (by decide) rfl ?_
      refine q_callSW hC (cw_L_run (q_hD hC)) mw_L_run lk_L_207 dL_law_149 (3, 1, 1) rfl rfl (Nat.le_of_ble_eq_true rfl) ⟨⟨by decide, by decide⟩, (show a + 1 + 0 ≤ 600192 by omega), (show b + 6 + 0 ≤ 7294824 by omega)⟩ rfl (k' := (a + 1, b + 6)) rfl ⟨(show 3 < 4 by decide), (show 1 < 4 by decide), z_cur_rdy hLU.2.1 r1, hLU.2.1.2, ow3, (show 1 ≤ 8 by decide), ac3⟩ (fun v S' hp => ?_)
      obtain ⟨W, hW⟩ : ∃ U, U = S' := ⟨_, rfl⟩
      subst hW
      obtain ⟨re, rfl, hre, hW9⟩ := hp
      have hrun1 := z_runA hLU (Or.inr rfl) l1 hX hT3 hW9
      have hLW := z_LI_run hLU (Or.inr rfl) hrun1
      obtain ⟨w45, w1⟩ := (z_run1 h3 hrun1).2 ht.2
      have hre : re = (W 33 0 1).toInt64 := hre
      rw [w1] at hre
      subst hre
      show qV Γ _ _ 152 _ (.long _ :: _) _ _
      refine q_lconst hC dL_law_152 (v := 0) (by decide) rfl ?_
      refine q_lcmp hC dL_law_153 rfl ?_
      refine q_if_ne hC dL_law_154 (t := 168) (n := 157) (by decide) rfl (fun h154 => absurd (show lg_cmp ((0 : Int32).toInt64) 0 = 0 by decide +kernel) h154) (fun h154 => ?_)
      refine q_aload_n hC 1 dL_law_157 rfl rfl ?_
      refine q_callSW hC (cw_L_fault (q_hD hC)) mw_L_fault lk_L_209 dL_law_158 () rfl rfl (Nat.le_of_ble_eq_true rfl) ⟨⟨by decide, by decide⟩, (show a + 1 + 0 ≤ 600192 by omega), (show b + 6 + 0 ≤ 7294824 by omega)⟩ rfl (k' := (a + 1, b + 6)) rfl ⟨(by rw [hrun1.2.2.2.1]; decide), hrun1.2.2.2.2.1⟩ (fun v S' hp => ?_)
      obtain ⟨rg, rfl, hrg, rfl⟩ := hp
      have hrg : rg = (W 33 0 2).toInt64 := hrg
      subst hrg
      show qV Γ _ _ 161 _ (.long _ :: _) _ _
      refine q_ldc2 hC dL_law_161 cl_L_212 rfl ?_
      refine q_lcmp hC dL_law_164 rfl ?_
      refine q_if_ne hC dL_law_165 (t := 186) (n := 168) (by decide) rfl (fun h165 => ?_) (fun h165 => absurd (z_l45.mp h165) w45)
      refine q_iconst hC dL_law_186 (v := 0) (by decide) rfl ?_
      refine q_istore hC dL_law_187 (by decide) (ls' := [(0, _), (1, _), (2, _), (3, _), (4, _), (6, _)]) rfl rfl ?_
      exact J189 B v2 _ _ l0 l1 r0 r1 hrs (Or.inr ⟨rfl, s, hs6, rfl, hMin⟩) 40 0 _ _ _ rfl hLW (by omega) (by omega)
  have J47 : ∀ (S3 : qM) (v : Nat), v < 4 → z_rdy S3 0 → z_Q S3 0 → z_rs S3 → ∀ (n m : Nat) (T : qM) (a b : Nat), m + n = 1 + v → z_mw S3 T 1 → a + n ≤ 200000 → b + 6 * n ≤ 2000000 → qV Γ rm_L_law 13 47 [(0, .ref (q_o Γ).1.1), (1, .ref (q_ad Γ 36 0)), (2, .int (nI (1 + v))), (3, .int (nI m))] [] T (a, b) := by
    intro S3 v hv r0 q0 hrs n
    induction n with
    | zero =>
      intro m T a b hmn hT ha hb
      obtain rfl : m = 1 + v := by omega
      refine q_iload_n hC 3 dL_law_47 rfl rfl ?_
      refine q_iload_n hC 2 dL_law_48 rfl rfl ?_
      refine q_icmp_ge hC dL_law_49 (t := 81) (n := 52) (by decide) rfl (fun h49 => ?_) (fun h49 => absurd (Int32.le_refl _) h49)
      refine q_aload_n hC 1 dL_law_81 rfl rfl ?_
      refine q_iconst hC dL_law_82 (v := 1) (by decide) rfl ?_
      refine q_callS hC (c_L_isMended (q_hD hC)) m_L_isMended lk_L_195 dL_law_83 (1, ()) rfl rfl (Nat.le_of_ble_eq_true rfl) ⟨⟨by decide, by decide⟩, (show a + 0 ≤ 600192 by omega), (show b + 0 ≤ 7294824 by omega)⟩ rfl (k' := (a, b)) rfl ⟨(show 1 < 4 by decide), hT.2⟩ (fun v S' hp => ?_)
      obtain ⟨T5, hT5⟩ : ∃ U, U = S' := ⟨_, rfl⟩
      subst hT5
      obtain ⟨r9, rfl, hr9, hw5, rd5⟩ := hp
      have hr9 : r9 = 1 := hr9
      subst hr9
      have hw5 : z_mw T T5 1 := hw5
      have hm5 := z_mw_tr hT hw5
      show qV Γ _ _ 86 _ (.int _ :: _) _ _
      refine q_if_ne hC dL_law_86 (t := 91) (n := 89) (by decide) rfl (fun h86 => ?_) (fun h86 => absurd h86 (by decide))
      exact J91 T5 _ _ a b (by omega) (by omega) (z_mw_rdy hm5 (by decide) r0) rd5 (z_mw_Q hm5 (by decide) q0) hw5.2 (z_rs_mw (by decide) hm5 hrs)
    | succ n ih =>
      intro m T a b hmn hT ha hb
      have hm : m < 1 + v := by omega
      refine q_iload_n hC 3 dL_law_47 rfl rfl ?_
      refine q_iload_n hC 2 dL_law_48 rfl rfl ?_
      refine q_icmp_ge hC dL_law_49 (t := 81) (n := 52) (by decide) rfl (fun h49 => absurd h49 (nI_ge hm (by omega))) (fun h49 => ?_)
      refine q_aload_n hC 1 dL_law_52 rfl rfl ?_
      refine q_iconst hC dL_law_53 (v := 1) (by decide) rfl ?_
      refine q_aload_n hC 0 dL_law_54 rfl rfl ?_
      refine q_bipush hC dL_law_55 (v := 31) (by decide) rfl ?_
      refine q_iload_n hC 3 dL_law_57 rfl rfl ?_
      refine q_iadd hC dL_law_58 rfl ?_
      rw [show (31 : Int32) + nI m = nI (31 + m) from nI_add 31 m]
      refine q_callS hC (c_L_cell (q_hD hC) hs) m_L_cell lk_L_113 dL_law_59 (31 + m, ()) rfl rfl (Nat.le_of_ble_eq_true rfl) ⟨⟨by decide, by decide⟩, (show a + 0 ≤ 600192 by omega), (show b + 0 ≤ 7294824 by omega)⟩ rfl (k' := (a, b)) rfl (show 31 + m < 2 ^ 31 by omega) (fun v S' hp => ?_)
      obtain ⟨rc, rfl, rfl⟩ := hp
      show qV Γ _ _ 62 _ (.int _ :: _) _ _
      refine q_ldc hC dL_law_62 cn_L_169 rfl ?_
      refine q_iload_n hC 3 dL_law_64 rfl rfl ?_
      refine q_imul hC dL_law_65 rfl ?_
      refine q_iadd hC dL_law_66 rfl ?_
      refine q_ldc hC dL_law_67 cn_L_123 rfl ?_
      refine q_callS hC (c_L_chosen (q_hD hC)) m_L_chosen lk_L_117 dL_law_69 (rc + 104729 * nI m, 1000000) rfl rfl (Nat.le_of_ble_eq_true rfl) ⟨⟨by decide, by decide⟩, (show a + 0 ≤ 600192 by omega), (show b + 0 ≤ 7294824 by omega)⟩ rfl (k' := (a, b)) rfl ⟨(show 1 ≤ 1000000 by decide), (show 1000000 < 2 ^ 31 by decide)⟩ (fun v S' hp => ?_)
      obtain ⟨r9, rfl, ⟨w, hw, rfl⟩, rfl⟩ := hp
      have hw : w < 1000000 := hw
      show qV Γ _ _ 72 _ (.int _ :: _) _ _
      refine q_callS hC (c_L_changes (q_hD hC) hs hl) m_L_changes lk_L_124 dL_law_72 (1, w) rfl rfl (Nat.le_of_ble_eq_true rfl) ⟨⟨by decide, by decide⟩, (show a + 1 ≤ 600192 by omega), (show b + 6 ≤ 7294824 by omega)⟩ rfl (k' := (a + 1, b + 6)) rfl ⟨(show 1 < 4 by decide), hw, hT.2⟩ (fun v S' hp => ?_)
      obtain ⟨rfl, hw9⟩ := hp
      have hw9 : z_mw T S' 1 := hw9
      show qV Γ _ _ 75 _ _ _ _
      refine q_iinc hC 3 dL_law_75 rfl (v := nI (m + 1)) (z_inc m) (by decide) (ls' := [(0, _), (1, _), (2, _), (3, _)]) rfl rfl ?_
      refine q_goto hC dL_law_78 (n := 47) (by decide) ?_
      exact ih (m + 1) _ _ _ (by omega) (z_mw_tr hT hw9) (by omega) (by omega)
  show qV Γ _ _ 8 [(0, .ref (q_o Γ).1.1), (1, .ref (q_ad Γ 36 0))] [] S (a, b)
  refine q_aload_n hC 1 dL_law_8 rfl rfl ?_
  refine q_iconst hC dL_law_9 (v := 0) (by decide) rfl ?_
  refine q_aload_n hC 0 dL_law_10 rfl rfl ?_
  refine q_iconst hC dL_law_11 (v := 0) (by decide) rfl ?_
  refine q_callS hC (c_L_makes (q_hD hC) hs hl) m_L_makes lk_L_191 dL_law_12 (0, 0) rfl rfl (Nat.le_of_ble_eq_true rfl) ⟨⟨by decide, by decide⟩, (show a + 18 ≤ 600192 by omega), (show b + 108 ≤ 7294824 by omega)⟩ rfl (k' := (a + 18, b + 108)) rfl ⟨(show 0 < 4 by decide), (show 0 < 1000 by decide), ⟨(hJ 0 (by decide)).2, fun e => absurd (hJ 0 (by decide)).1 e⟩⟩ (fun v S' hp => ?_)
  obtain ⟨S1, hS1⟩ : ∃ U, U = S' := ⟨_, rfl⟩
  subst hS1
  obtain ⟨rfl, hw1⟩ := hp
  have hw1 : z_mw S S1 0 := hw1
  show qV Γ _ _ 15 _ _ _ _
  refine q_aload_n hC 1 dL_law_15 rfl rfl ?_
  refine q_iconst hC dL_law_16 (v := 0) (by decide) rfl ?_
  refine q_callS hC (c_L_isMended (q_hD hC)) m_L_isMended lk_L_195 dL_law_17 (0, ()) rfl rfl (Nat.le_of_ble_eq_true rfl) ⟨⟨by decide, by decide⟩, (show a + 18 + 0 ≤ 600192 by omega), (show b + 108 + 0 ≤ 7294824 by omega)⟩ rfl (k' := (a + 18, b + 108)) rfl ⟨(show 0 < 4 by decide), hw1.2⟩ (fun v S' hp => ?_)
  obtain ⟨S2, hS2⟩ : ∃ U, U = S' := ⟨_, rfl⟩
  subst hS2
  obtain ⟨r9, rfl, hr9, hw2, rd2⟩ := hp
  have hr9 : r9 = 1 := hr9
  subst hr9
  have hw2 : z_mw S1 S2 0 := hw2
  have hm2 := z_mw_tr hw1 hw2
  have j1 : z_J S2 1 := (z_mw_Q hm2 (by decide) ⟨(hJ 1 (by decide)).2, fun e => absurd (hJ 1 (by decide)).1 e⟩).1
  have hrs2 : z_rs S2 := z_rs_mw (by decide) hm2 ⟨fun i _ h4 => hJ i h4, h36⟩
  show qV Γ _ _ 20 _ (.int _ :: _) _ _
  refine q_if_ne hC dL_law_20 (t := 25) (n := 23) (by decide) rfl (fun h20 => ?_) (fun h20 => absurd h20 (by decide))
  refine q_aload_n hC 1 dL_law_25 rfl rfl ?_
  refine q_iconst hC dL_law_26 (v := 0) (by decide) rfl ?_
  refine q_iconst hC dL_law_27 (v := 1) (by decide) rfl ?_
  refine q_callSW hC (cw_L_copy (q_hD hC)) mw_L_copy lk_L_199 dL_law_28 (0, 1) rfl rfl (Nat.le_of_ble_eq_true rfl) ⟨⟨by decide, by decide⟩, (show a + 18 + 0 ≤ 600192 by omega), (show b + 108 + 0 ≤ 7294824 by omega)⟩ rfl (k' := (a + 18, b + 108)) rfl ⟨(show 0 < 4 by decide), (show 1 < 4 by decide), (show ¬ 0 = 1 by decide), hw2.2.1.1, j1⟩ (fun v S' hp => ?_)
  obtain ⟨S3, hS3⟩ : ∃ U, U = S' := ⟨_, rfl⟩
  subst hS3
  obtain ⟨r9, rfl, hw3⟩ := hp
  have hw3 : z_mw S2 S3 1 := hw3
  show qV Γ _ _ 31 _ (.long _ :: _) _ _
  refine q_pop2 hC dL_law_31 rfl rfl ?_
  refine q_iconst hC dL_law_32 (v := 1) (by decide) rfl ?_
  refine q_aload_n hC 0 dL_law_33 rfl rfl ?_
  refine q_bipush hC dL_law_34 (v := 30) (by decide) rfl ?_
  refine q_callS hC (c_L_cell (q_hD hC) hs) m_L_cell lk_L_113 dL_law_36 (30, ()) rfl rfl (Nat.le_of_ble_eq_true rfl) ⟨⟨by decide, by decide⟩, (show a + 18 + 0 ≤ 600192 by omega), (show b + 108 + 0 ≤ 7294824 by omega)⟩ rfl (k' := (a + 18, b + 108)) rfl (show 30 < 2 ^ 31 by decide) (fun v S' hp => ?_)
  obtain ⟨rc, rfl, rfl⟩ := hp
  show qV Γ _ _ 39 _ (.int _ :: _) _ _
  refine q_iconst hC dL_law_39 (v := 4) (by decide) rfl ?_
  refine q_callS hC (c_L_chosen (q_hD hC)) m_L_chosen lk_L_117 dL_law_40 (rc, 4) rfl rfl (Nat.le_of_ble_eq_true rfl) ⟨⟨by decide, by decide⟩, (show a + 18 + 0 ≤ 600192 by omega), (show b + 108 + 0 ≤ 7294824 by omega)⟩ rfl (k' := (a + 18, b + 108)) rfl ⟨(show 1 ≤ 4 by decide), (show 4 < 2 ^ 31 by decide)⟩ (fun v S' hp => ?_)
  obtain ⟨r9, rfl, ⟨v, hv, rfl⟩, rfl⟩ := hp
  have hv : v < 4 := hv
  show qV Γ _ _ 43 _ (.int _ :: _) _ _
  refine q_iadd hC dL_law_43 rfl ?_
  rw [show (1 : Int32) + nI v = nI (1 + v) from nI_add 1 v]
  refine q_istore_n hC dL_law_44 (by decide) (ls' := [(0, _), (1, _), (2, _)]) rfl rfl ?_
  refine q_iconst hC dL_law_45 (v := 0) (by decide) rfl ?_
  refine q_istore_n hC dL_law_46 (by decide) (ls' := [(0, _), (1, _), (2, _), (3, _)]) rfl rfl ?_
  exact J47 _ v hv (z_mw_rdy hw3 (by decide) rd2) (z_mw_Q hw3 (by decide) hw2.2) (z_rs_mw (by decide) hw3 hrs2) (1 + v) 0 _ _ _ (Nat.zero_add _) (z_mw_rf hw3.2) (by omega) (by omega)
