-- printed by wip/p36/gen_m2.py
def z_sg (S : qM) (i t : Nat) : Nat → Int32 := if t = 9 then S 10 i else S 14 i
def z_kd (S : qM) (i t : Nat) : Nat → Int32 := if t = 9 then S 11 i else S 15 i
theorem z_sg9 {S : qM} {i : Nat} : z_sg S i 9 = S 10 i := rfl
theorem z_sg13 {S : qM} {i : Nat} : z_sg S i 13 = S 14 i := rfl
theorem z_kd9 {S : qM} {i : Nat} : z_kd S i 9 = S 11 i := rfl
theorem z_kd13 {S : qM} {i : Nat} : z_kd S i 13 = S 15 i := rfl
def z_ufK (S : qM) (i : Nat) (own made : Int32) : Int32 := if S 0 i 4 = 0 then 0 else if (S 18 i (5 : Int32).toNatClampNeg >>> (own &&& 31)) &&& 1 = 1 then (if made = -1 then 1 else if made = 5 then 1 else 0) else 0
def z_ufS (k : Int32) : Int32 := if k = 115 then 1 else if k = 70 then 1 else 0
def z_ufF (kind : Int32) : Int32 := if kind = 1 then 1 else if kind = 5 then 1 else if kind = 6 then 1 else 0
def z_ufD (kind k st fs : Int32) : Int32 := if st = fs then (if (if kind = 8 then 1 else if kind = 6 then 1 else (0 : Int32)) = 0 then 45 else if k = 70 then 76 else if k = 102 then 76 else 45) else 73
def z_uf (S : qM) (i : Nat) (sg kd : Nat → Int32) (kind own mem made : Int32) : Int32 :=
  if sg (own * 6 + mem).toNatClampNeg = 112 then z_ufD kind (kd (own * 6 + mem).toNatClampNeg) (z_ufS (kd (own * 6 + mem).toNatClampNeg)) (z_ufF kind)
  else if sg (own * 6 + mem).toNatClampNeg = 111 then (if z_ufK S i own made = 0 then 76 else z_ufD kind (kd (own * 6 + mem).toNatClampNeg) (z_ufS (kd (own * 6 + mem).toNatClampNeg)) (z_ufF kind)) else 76
abbrev rm_X5_useFault : Room := { frames := 0, cells := 0, slots := 0, locals := 0 }
set_option maxHeartbeats 4000000 in
set_option maxRecDepth 100000 in
theorem c_X5_useFault {L : qL} (hD : q_D L.2.2.2.1) : qCT L yX5_useFault cX5_useFault 12 (some .char) rm_X5_useFault (fun ad _ (x : Nat × Nat × Int32 × Int32 × Int32 × Int32) => [.ref (ad 0 x.1), .int x.2.2.1, .ref (ad x.2.1 x.1), .int x.2.2.2.1, .int x.2.2.2.2.1, .int x.2.2.2.2.2]) (fun x _ => x.1 < 4 ∧ (x.2.1 = 9 ∨ x.2.1 = 13) ∧ z_lt x.2.2.2.1 5 ∧ z_lt x.2.2.2.2.1 6) (qPi (fun x S r S' => r = z_uf S x.1 (z_sg S x.1 x.2.1) (z_kd S x.1 x.2.1) x.2.2.1 x.2.2.2.1 x.2.2.2.2.1 x.2.2.2.2.2 ∧ S = S')) := by
  refine q_met hD (by decide) (fun _ => Nat.le_of_ble_eq_true rfl) (fun Γ x S hΓ hpre hC => ?_)
  subst hΓ
  obtain ⟨i, t, kind, own, mem, made⟩ := x
  obtain ⟨hi, ht, hown, hmem⟩ := hpre
  have hi : i < 4 := hi
  have ht : t = 9 ∨ t = 13 := ht
  have hown : z_lt own 5 := hown
  have hmem : z_lt mem 6 := hmem
  rcases ht with rfl | rfl
  · obtain ⟨sg, hsg⟩ : ∃ v, v = S 10 i (own * 6 + mem).toNatClampNeg := ⟨_, rfl⟩
    obtain ⟨kd, hkd⟩ : ∃ v, v = S 11 i (own * 6 + mem).toNatClampNeg := ⟨_, rfl⟩
    have J137 : ∀ (kin st fs : Int32), z_ufD kind kd st fs = z_uf S i (z_sg S i 9) (z_kd S i 9) kind own mem made → qV Γ rm_X5_useFault 12 137 [(0, .ref (q_ad Γ 0 i)), (1, .int kind), (2, .ref (q_ad Γ 9 i)), (3, .int own), (4, .int mem), (5, .int made), (6, .int sg), (7, .int kd), (8, .int kin), (9, .int st), (10, .int fs)] [] S (0, 0) := by
      intro kin st fs hF
      refine q_iload hC 9 dX5_useFault_137 rfl rfl ?_
      refine q_iload hC 10 dX5_useFault_139 rfl rfl ?_
      refine q_icmp_eq hC dX5_useFault_141 (t := 147) (n := 144) (by decide) rfl (fun h141 => ?_) (fun h141 => ?_)
      · refine q_iload_n hC 1 dX5_useFault_147 rfl rfl ?_
        refine q_bipush hC dX5_useFault_148 (v := 8) (by decide) rfl ?_
        refine q_icmp_eq hC dX5_useFault_150 (t := 159) (n := 153) (by decide) rfl (fun h150 => ?_) (fun h150 => ?_)
        · refine q_iconst hC dX5_useFault_159 (v := 1) (by decide) rfl ?_
          refine q_goto hC dX5_useFault_160 (n := 164) (by decide) ?_
          refine q_istore hC dX5_useFault_164 (by decide) (ls' := [(0, _), (1, _), (2, _), (3, _), (4, _), (5, _), (6, _), (7, _), (8, _), (9, _), (10, _), (11, _)]) rfl rfl ?_
          refine q_iload hC 11 dX5_useFault_166 rfl rfl ?_
          refine q_if_eq hC dX5_useFault_168 (t := 190) (n := 171) (by decide) rfl (fun h => absurd h (by decide)) (fun _ => ?_)
          refine q_iload hC 7 dX5_useFault_171 rfl rfl ?_
          refine q_bipush hC dX5_useFault_173 (v := 70) (by decide) rfl ?_
          refine q_icmp_eq hC dX5_useFault_175 (t := 185) (n := 178) (by decide) rfl (fun h175 => ?_) (fun h175 => ?_)
          · refine q_bipush hC dX5_useFault_185 (v := 76) (by decide) rfl ?_
            refine q_goto hC dX5_useFault_187 (n := 192) (by decide) ?_
            refine q_iret hC dX5_useFault_192 rfl ⟨by decide, by decide⟩ ⟨_, rfl, ?_⟩
            exact ⟨by rw [← hF]; simp only [z_ufD, if_pos h141, if_pos h150, if_pos h175, z_e10, if_true, if_false], rfl⟩
          · refine q_iload hC 7 dX5_useFault_178 rfl rfl ?_
            refine q_bipush hC dX5_useFault_180 (v := 102) (by decide) rfl ?_
            refine q_icmp_ne hC dX5_useFault_182 (t := 190) (n := 185) (by decide) rfl (fun h182 => ?_) (fun h182 => ?_)
            · refine q_bipush hC dX5_useFault_190 (v := 45) (by decide) rfl ?_
              refine q_iret hC dX5_useFault_192 rfl ⟨by decide, by decide⟩ ⟨_, rfl, ?_⟩
              exact ⟨by rw [← hF]; simp only [z_ufD, if_pos h141, if_pos h150, if_neg h175, if_neg h182, z_e10, if_true, if_false], rfl⟩
            · refine q_bipush hC dX5_useFault_185 (v := 76) (by decide) rfl ?_
              refine q_goto hC dX5_useFault_187 (n := 192) (by decide) ?_
              refine q_iret hC dX5_useFault_192 rfl ⟨by decide, by decide⟩ ⟨_, rfl, ?_⟩
              exact ⟨by rw [← hF]; simp only [z_ufD, if_pos h141, if_pos h150, if_neg h175, if_pos h182, z_e10, if_true, if_false], rfl⟩
        · refine q_iload_n hC 1 dX5_useFault_153 rfl rfl ?_
          refine q_bipush hC dX5_useFault_154 (v := 6) (by decide) rfl ?_
          refine q_icmp_ne hC dX5_useFault_156 (t := 163) (n := 159) (by decide) rfl (fun h156 => ?_) (fun h156 => ?_)
          · refine q_iconst hC dX5_useFault_163 (v := 0) (by decide) rfl ?_
            refine q_istore hC dX5_useFault_164 (by decide) (ls' := [(0, _), (1, _), (2, _), (3, _), (4, _), (5, _), (6, _), (7, _), (8, _), (9, _), (10, _), (11, _)]) rfl rfl ?_
            refine q_iload hC 11 dX5_useFault_166 rfl rfl ?_
            refine q_if_eq hC dX5_useFault_168 (t := 190) (n := 171) (by decide) rfl (fun _ => ?_) (fun h => absurd (by decide) h)
            refine q_bipush hC dX5_useFault_190 (v := 45) (by decide) rfl ?_
            refine q_iret hC dX5_useFault_192 rfl ⟨by decide, by decide⟩ ⟨_, rfl, ?_⟩
            exact ⟨by rw [← hF]; simp only [z_ufD, if_pos h141, if_neg h150, if_neg h156, z_e10, if_true, if_false], rfl⟩
          · refine q_iconst hC dX5_useFault_159 (v := 1) (by decide) rfl ?_
            refine q_goto hC dX5_useFault_160 (n := 164) (by decide) ?_
            refine q_istore hC dX5_useFault_164 (by decide) (ls' := [(0, _), (1, _), (2, _), (3, _), (4, _), (5, _), (6, _), (7, _), (8, _), (9, _), (10, _), (11, _)]) rfl rfl ?_
            refine q_iload hC 11 dX5_useFault_166 rfl rfl ?_
            refine q_if_eq hC dX5_useFault_168 (t := 190) (n := 171) (by decide) rfl (fun h => absurd h (by decide)) (fun _ => ?_)
            refine q_iload hC 7 dX5_useFault_171 rfl rfl ?_
            refine q_bipush hC dX5_useFault_173 (v := 70) (by decide) rfl ?_
            refine q_icmp_eq hC dX5_useFault_175 (t := 185) (n := 178) (by decide) rfl (fun h175 => ?_) (fun h175 => ?_)
            · refine q_bipush hC dX5_useFault_185 (v := 76) (by decide) rfl ?_
              refine q_goto hC dX5_useFault_187 (n := 192) (by decide) ?_
              refine q_iret hC dX5_useFault_192 rfl ⟨by decide, by decide⟩ ⟨_, rfl, ?_⟩
              exact ⟨by rw [← hF]; simp only [z_ufD, if_pos h141, if_neg h150, if_pos h156, if_pos h175, z_e10, if_true, if_false], rfl⟩
            · refine q_iload hC 7 dX5_useFault_178 rfl rfl ?_
              refine q_bipush hC dX5_useFault_180 (v := 102) (by decide) rfl ?_
              refine q_icmp_ne hC dX5_useFault_182 (t := 190) (n := 185) (by decide) rfl (fun h182 => ?_) (fun h182 => ?_)
              · refine q_bipush hC dX5_useFault_190 (v := 45) (by decide) rfl ?_
                refine q_iret hC dX5_useFault_192 rfl ⟨by decide, by decide⟩ ⟨_, rfl, ?_⟩
                exact ⟨by rw [← hF]; simp only [z_ufD, if_pos h141, if_neg h150, if_pos h156, if_neg h175, if_neg h182, z_e10, if_true, if_false], rfl⟩
              · refine q_bipush hC dX5_useFault_185 (v := 76) (by decide) rfl ?_
                refine q_goto hC dX5_useFault_187 (n := 192) (by decide) ?_
                refine q_iret hC dX5_useFault_192 rfl ⟨by decide, by decide⟩ ⟨_, rfl, ?_⟩
                exact ⟨by rw [← hF]; simp only [z_ufD, if_pos h141, if_neg h150, if_pos h156, if_neg h175, if_pos h182, z_e10, if_true, if_false], rfl⟩
      · refine q_bipush hC dX5_useFault_144 (v := 73) (by decide) rfl ?_
        refine q_iret hC dX5_useFault_146 rfl ⟨by decide, by decide⟩ ⟨_, rfl, ?_⟩
        exact ⟨by rw [← hF]; simp only [z_ufD, if_neg h141, z_e10, if_true, if_false], rfl⟩
    have J114 : ∀ (kin st : Int32), z_ufD kind kd st (z_ufF kind) = z_uf S i (z_sg S i 9) (z_kd S i 9) kind own mem made → qV Γ rm_X5_useFault 12 114 [(0, .ref (q_ad Γ 0 i)), (1, .int kind), (2, .ref (q_ad Γ 9 i)), (3, .int own), (4, .int mem), (5, .int made), (6, .int sg), (7, .int kd), (8, .int kin), (9, .int st)] [] S (0, 0) := by
      intro kin st hF
      refine q_iload_n hC 1 dX5_useFault_114 rfl rfl ?_
      refine q_iconst hC dX5_useFault_115 (v := 1) (by decide) rfl ?_
      refine q_icmp_eq hC dX5_useFault_116 (t := 130) (n := 119) (by decide) rfl (fun h116 => ?_) (fun h116 => ?_)
      · refine q_iconst hC dX5_useFault_130 (v := 1) (by decide) rfl ?_
        refine q_goto hC dX5_useFault_131 (n := 135) (by decide) ?_
        refine q_istore hC dX5_useFault_135 (by decide) (ls' := [(0, _), (1, _), (2, _), (3, _), (4, _), (5, _), (6, _), (7, _), (8, _), (9, _), (10, _)]) rfl rfl ?_
        exact J137 _ _ _ (by rw [← hF]; simp only [z_ufF, if_pos h116])
      · refine q_iload_n hC 1 dX5_useFault_119 rfl rfl ?_
        refine q_iconst hC dX5_useFault_120 (v := 5) (by decide) rfl ?_
        refine q_icmp_eq hC dX5_useFault_121 (t := 130) (n := 124) (by decide) rfl (fun h121 => ?_) (fun h121 => ?_)
        · refine q_iconst hC dX5_useFault_130 (v := 1) (by decide) rfl ?_
          refine q_goto hC dX5_useFault_131 (n := 135) (by decide) ?_
          refine q_istore hC dX5_useFault_135 (by decide) (ls' := [(0, _), (1, _), (2, _), (3, _), (4, _), (5, _), (6, _), (7, _), (8, _), (9, _), (10, _)]) rfl rfl ?_
          exact J137 _ _ _ (by rw [← hF]; simp only [z_ufF, if_neg h116, if_pos h121])
        · refine q_iload_n hC 1 dX5_useFault_124 rfl rfl ?_
          refine q_bipush hC dX5_useFault_125 (v := 6) (by decide) rfl ?_
          refine q_icmp_ne hC dX5_useFault_127 (t := 134) (n := 130) (by decide) rfl (fun h127 => ?_) (fun h127 => ?_)
          · refine q_iconst hC dX5_useFault_134 (v := 0) (by decide) rfl ?_
            refine q_istore hC dX5_useFault_135 (by decide) (ls' := [(0, _), (1, _), (2, _), (3, _), (4, _), (5, _), (6, _), (7, _), (8, _), (9, _), (10, _)]) rfl rfl ?_
            exact J137 _ _ _ (by rw [← hF]; simp only [z_ufF, if_neg h116, if_neg h121, if_neg h127])
          · refine q_iconst hC dX5_useFault_130 (v := 1) (by decide) rfl ?_
            refine q_goto hC dX5_useFault_131 (n := 135) (by decide) ?_
            refine q_istore hC dX5_useFault_135 (by decide) (ls' := [(0, _), (1, _), (2, _), (3, _), (4, _), (5, _), (6, _), (7, _), (8, _), (9, _), (10, _)]) rfl rfl ?_
            exact J137 _ _ _ (by rw [← hF]; simp only [z_ufF, if_neg h116, if_neg h121, if_pos h127])
    have J93 : ∀ (kin : Int32), z_ufD kind kd (z_ufS kd) (z_ufF kind) = z_uf S i (z_sg S i 9) (z_kd S i 9) kind own mem made → qV Γ rm_X5_useFault 12 93 [(0, .ref (q_ad Γ 0 i)), (1, .int kind), (2, .ref (q_ad Γ 9 i)), (3, .int own), (4, .int mem), (5, .int made), (6, .int sg), (7, .int kd), (8, .int kin)] [] S (0, 0) := by
      intro kin hF
      refine q_iload hC 7 dX5_useFault_93 rfl rfl ?_
      refine q_bipush hC dX5_useFault_95 (v := 115) (by decide) rfl ?_
      refine q_icmp_eq hC dX5_useFault_97 (t := 107) (n := 100) (by decide) rfl (fun h97 => ?_) (fun h97 => ?_)
      · refine q_iconst hC dX5_useFault_107 (v := 1) (by decide) rfl ?_
        refine q_goto hC dX5_useFault_108 (n := 112) (by decide) ?_
        refine q_istore hC dX5_useFault_112 (by decide) (ls' := [(0, _), (1, _), (2, _), (3, _), (4, _), (5, _), (6, _), (7, _), (8, _), (9, _)]) rfl rfl ?_
        exact J114 _ _ (by rw [← hF]; simp only [z_ufS, if_pos h97])
      · refine q_iload hC 7 dX5_useFault_100 rfl rfl ?_
        refine q_bipush hC dX5_useFault_102 (v := 70) (by decide) rfl ?_
        refine q_icmp_ne hC dX5_useFault_104 (t := 111) (n := 107) (by decide) rfl (fun h104 => ?_) (fun h104 => ?_)
        · refine q_iconst hC dX5_useFault_111 (v := 0) (by decide) rfl ?_
          refine q_istore hC dX5_useFault_112 (by decide) (ls' := [(0, _), (1, _), (2, _), (3, _), (4, _), (5, _), (6, _), (7, _), (8, _), (9, _)]) rfl rfl ?_
          exact J114 _ _ (by rw [← hF]; simp only [z_ufS, if_neg h97, if_neg h104])
        · refine q_iconst hC dX5_useFault_107 (v := 1) (by decide) rfl ?_
          refine q_goto hC dX5_useFault_108 (n := 112) (by decide) ?_
          refine q_istore hC dX5_useFault_112 (by decide) (ls' := [(0, _), (1, _), (2, _), (3, _), (4, _), (5, _), (6, _), (7, _), (8, _), (9, _)]) rfl rfl ?_
          exact J114 _ _ (by rw [← hF]; simp only [z_ufS, if_neg h97, if_pos h104])
    have J71 : ∀ (kin : Int32), kin = z_ufK S i own made → qV Γ rm_X5_useFault 12 71 [(0, .ref (q_ad Γ 0 i)), (1, .int kind), (2, .ref (q_ad Γ 9 i)), (3, .int own), (4, .int mem), (5, .int made), (6, .int sg), (7, .int kd), (8, .int kin)] [] S (0, 0) := by
      intro kin hkin
      refine q_iload hC 6 dX5_useFault_71 rfl rfl ?_
      refine q_bipush hC dX5_useFault_73 (v := 112) (by decide) rfl ?_
      refine q_icmp_eq hC dX5_useFault_75 (t := 93) (n := 78) (by decide) rfl (fun h75 => ?_) (fun h75 => ?_)
      · exact J93 _ (by subst hkin; simp only [z_uf, z_sg9, z_kd9, ← hsg, ← hkd, if_pos h75])
      · refine q_iload hC 6 dX5_useFault_78 rfl rfl ?_
        refine q_bipush hC dX5_useFault_80 (v := 111) (by decide) rfl ?_
        refine q_icmp_ne hC dX5_useFault_82 (t := 90) (n := 85) (by decide) rfl (fun h82 => ?_) (fun h82 => ?_)
        · refine q_bipush hC dX5_useFault_90 (v := 76) (by decide) rfl ?_
          refine q_iret hC dX5_useFault_92 rfl ⟨by decide, by decide⟩ ⟨_, rfl, ?_⟩
          exact ⟨by subst hkin; simp only [z_uf, z_sg9, z_kd9, ← hsg, ← hkd, if_neg h75, if_neg h82], rfl⟩
        · refine q_iload hC 8 dX5_useFault_85 rfl rfl ?_
          refine q_if_ne hC dX5_useFault_87 (t := 93) (n := 90) (by decide) rfl (fun h87 => ?_) (fun h87 => ?_)
          · exact J93 _ (by subst hkin; simp only [z_uf, z_sg9, z_kd9, ← hsg, ← hkd, if_neg h75, if_pos h82, if_neg h87])
          · refine q_bipush hC dX5_useFault_90 (v := 76) (by decide) rfl ?_
            refine q_iret hC dX5_useFault_92 rfl ⟨by decide, by decide⟩ ⟨_, rfl, ?_⟩
            exact ⟨by subst hkin; simp only [z_uf, z_sg9, z_kd9, ← hsg, ← hkd, if_neg h75, if_pos h82, if_pos h87], rfl⟩
    show qV Γ _ _ 0 [(0, .ref (q_ad Γ 0 i)), (1, .int kind), (2, .ref (q_ad Γ 9 i)), (3, .int own), (4, .int mem), (5, .int made)] [] S (0, 0)
    refine q_aload_n hC 2 dX5_useFault_0 rfl rfl ?_
    refine q_get_f hC f_X5_109 dX5_useFault_1 rfl rfl hi rfl ?_
    refine q_iload_n hC 3 dX5_useFault_4 rfl rfl ?_
    refine q_bipush hC dX5_useFault_5 (v := 6) (by decide) rfl ?_
    refine q_imul hC dX5_useFault_7 rfl ?_
    refine q_iload hC 4 dX5_useFault_8 rfl rfl ?_
    refine q_iadd hC dX5_useFault_10 rfl ?_
    refine q_cald hC dX5_useFault_11 rfl hi (z_in30 hown hmem) rfl ?_
    refine q_istore hC dX5_useFault_12 (by decide) (ls' := [(0, _), (1, _), (2, _), (3, _), (4, _), (5, _), (6, _)]) rfl rfl ?_
    refine q_aload_n hC 2 dX5_useFault_14 rfl rfl ?_
    refine q_get_f hC f_X5_114 dX5_useFault_15 rfl rfl hi rfl ?_
    refine q_iload_n hC 3 dX5_useFault_18 rfl rfl ?_
    refine q_bipush hC dX5_useFault_19 (v := 6) (by decide) rfl ?_
    refine q_imul hC dX5_useFault_21 rfl ?_
    refine q_iload hC 4 dX5_useFault_22 rfl rfl ?_
    refine q_iadd hC dX5_useFault_24 rfl ?_
    refine q_cald hC dX5_useFault_25 rfl hi (z_in30 hown hmem) rfl ?_
    refine q_istore hC dX5_useFault_26 (by decide) (ls' := [(0, _), (1, _), (2, _), (3, _), (4, _), (5, _), (6, _), (7, _)]) rfl rfl ?_
    show qV Γ _ _ 28 [(0, _), (1, _), (2, _), (3, _), (4, _), (5, _), (6, .int (S 10 i (own * 6 + mem).toNatClampNeg)), (7, .int (S 11 i (own * 6 + mem).toNatClampNeg))] [] S (0, 0)
    rw [← hsg, ← hkd]
    refine q_aload_n hC 0 dX5_useFault_28 rfl rfl ?_
    refine q_get_f hC f_X5_33 dX5_useFault_29 rfl rfl hi rfl ?_
    refine q_if_eq hC dX5_useFault_32 (t := 68) (n := 35) (by decide) rfl (fun h32 => ?_) (fun h32 => ?_)
    · refine q_iconst hC dX5_useFault_68 (v := 0) (by decide) rfl ?_
      refine q_istore hC dX5_useFault_69 (by decide) (ls' := [(0, _), (1, _), (2, _), (3, _), (4, _), (5, _), (6, _), (7, _), (8, _)]) rfl rfl ?_
      exact J71 _ (by simp only [z_ufK, if_pos h32])
    · refine q_aload_n hC 0 dX5_useFault_35 rfl rfl ?_
      refine q_get_f hC f_X5_21 dX5_useFault_36 rfl rfl hi rfl ?_
      refine q_get_f hC f_X5_149 dX5_useFault_39 rfl rfl hi rfl ?_
      refine q_iconst hC dX5_useFault_42 (v := 5) (by decide) rfl ?_
      refine q_iald hC dX5_useFault_43 rfl hi (q_inl (by decide)) rfl ?_
      refine q_iload_n hC 3 dX5_useFault_44 rfl rfl ?_
      refine q_ishr hC dX5_useFault_45 rfl ?_
      refine q_iconst hC dX5_useFault_46 (v := 1) (by decide) rfl ?_
      refine q_iand hC dX5_useFault_47 rfl ?_
      refine q_iconst hC dX5_useFault_48 (v := 1) (by decide) rfl ?_
      refine q_icmp_ne hC dX5_useFault_49 (t := 68) (n := 52) (by decide) rfl (fun h49 => ?_) (fun h49 => ?_)
      · refine q_iconst hC dX5_useFault_68 (v := 0) (by decide) rfl ?_
        refine q_istore hC dX5_useFault_69 (by decide) (ls' := [(0, _), (1, _), (2, _), (3, _), (4, _), (5, _), (6, _), (7, _), (8, _)]) rfl rfl ?_
        exact J71 _ (by simp only [z_ufK, if_neg h32, if_neg h49])
      · refine q_iload hC 5 dX5_useFault_52 rfl rfl ?_
        refine q_iconst hC dX5_useFault_54 (v := (-1)) (by decide) rfl ?_
        refine q_icmp_eq hC dX5_useFault_55 (t := 64) (n := 58) (by decide) rfl (fun h55 => ?_) (fun h55 => ?_)
        · refine q_iconst hC dX5_useFault_64 (v := 1) (by decide) rfl ?_
          refine q_goto hC dX5_useFault_65 (n := 69) (by decide) ?_
          refine q_istore hC dX5_useFault_69 (by decide) (ls' := [(0, _), (1, _), (2, _), (3, _), (4, _), (5, _), (6, _), (7, _), (8, _)]) rfl rfl ?_
          exact J71 _ (by simp only [z_ufK, if_neg h32, if_pos h49, if_pos h55])
        · refine q_iload hC 5 dX5_useFault_58 rfl rfl ?_
          refine q_iconst hC dX5_useFault_60 (v := 5) (by decide) rfl ?_
          refine q_icmp_ne hC dX5_useFault_61 (t := 68) (n := 64) (by decide) rfl (fun h61 => ?_) (fun h61 => ?_)
          · refine q_iconst hC dX5_useFault_68 (v := 0) (by decide) rfl ?_
            refine q_istore hC dX5_useFault_69 (by decide) (ls' := [(0, _), (1, _), (2, _), (3, _), (4, _), (5, _), (6, _), (7, _), (8, _)]) rfl rfl ?_
            exact J71 _ (by simp only [z_ufK, if_neg h32, if_pos h49, if_neg h55, if_neg h61])
          · refine q_iconst hC dX5_useFault_64 (v := 1) (by decide) rfl ?_
            refine q_goto hC dX5_useFault_65 (n := 69) (by decide) ?_
            refine q_istore hC dX5_useFault_69 (by decide) (ls' := [(0, _), (1, _), (2, _), (3, _), (4, _), (5, _), (6, _), (7, _), (8, _)]) rfl rfl ?_
            exact J71 _ (by simp only [z_ufK, if_neg h32, if_pos h49, if_neg h55, if_pos h61])
  · obtain ⟨sg, hsg⟩ : ∃ v, v = S 14 i (own * 6 + mem).toNatClampNeg := ⟨_, rfl⟩
    obtain ⟨kd, hkd⟩ : ∃ v, v = S 15 i (own * 6 + mem).toNatClampNeg := ⟨_, rfl⟩
    have J137 : ∀ (kin st fs : Int32), z_ufD kind kd st fs = z_uf S i (z_sg S i 13) (z_kd S i 13) kind own mem made → qV Γ rm_X5_useFault 12 137 [(0, .ref (q_ad Γ 0 i)), (1, .int kind), (2, .ref (q_ad Γ 13 i)), (3, .int own), (4, .int mem), (5, .int made), (6, .int sg), (7, .int kd), (8, .int kin), (9, .int st), (10, .int fs)] [] S (0, 0) := by
      intro kin st fs hF
      refine q_iload hC 9 dX5_useFault_137 rfl rfl ?_
      refine q_iload hC 10 dX5_useFault_139 rfl rfl ?_
      refine q_icmp_eq hC dX5_useFault_141 (t := 147) (n := 144) (by decide) rfl (fun h141 => ?_) (fun h141 => ?_)
      · refine q_iload_n hC 1 dX5_useFault_147 rfl rfl ?_
        refine q_bipush hC dX5_useFault_148 (v := 8) (by decide) rfl ?_
        refine q_icmp_eq hC dX5_useFault_150 (t := 159) (n := 153) (by decide) rfl (fun h150 => ?_) (fun h150 => ?_)
        · refine q_iconst hC dX5_useFault_159 (v := 1) (by decide) rfl ?_
          refine q_goto hC dX5_useFault_160 (n := 164) (by decide) ?_
          refine q_istore hC dX5_useFault_164 (by decide) (ls' := [(0, _), (1, _), (2, _), (3, _), (4, _), (5, _), (6, _), (7, _), (8, _), (9, _), (10, _), (11, _)]) rfl rfl ?_
          refine q_iload hC 11 dX5_useFault_166 rfl rfl ?_
          refine q_if_eq hC dX5_useFault_168 (t := 190) (n := 171) (by decide) rfl (fun h => absurd h (by decide)) (fun _ => ?_)
          refine q_iload hC 7 dX5_useFault_171 rfl rfl ?_
          refine q_bipush hC dX5_useFault_173 (v := 70) (by decide) rfl ?_
          refine q_icmp_eq hC dX5_useFault_175 (t := 185) (n := 178) (by decide) rfl (fun h175 => ?_) (fun h175 => ?_)
          · refine q_bipush hC dX5_useFault_185 (v := 76) (by decide) rfl ?_
            refine q_goto hC dX5_useFault_187 (n := 192) (by decide) ?_
            refine q_iret hC dX5_useFault_192 rfl ⟨by decide, by decide⟩ ⟨_, rfl, ?_⟩
            exact ⟨by rw [← hF]; simp only [z_ufD, if_pos h141, if_pos h150, if_pos h175, z_e10, if_true, if_false], rfl⟩
          · refine q_iload hC 7 dX5_useFault_178 rfl rfl ?_
            refine q_bipush hC dX5_useFault_180 (v := 102) (by decide) rfl ?_
            refine q_icmp_ne hC dX5_useFault_182 (t := 190) (n := 185) (by decide) rfl (fun h182 => ?_) (fun h182 => ?_)
            · refine q_bipush hC dX5_useFault_190 (v := 45) (by decide) rfl ?_
              refine q_iret hC dX5_useFault_192 rfl ⟨by decide, by decide⟩ ⟨_, rfl, ?_⟩
              exact ⟨by rw [← hF]; simp only [z_ufD, if_pos h141, if_pos h150, if_neg h175, if_neg h182, z_e10, if_true, if_false], rfl⟩
            · refine q_bipush hC dX5_useFault_185 (v := 76) (by decide) rfl ?_
              refine q_goto hC dX5_useFault_187 (n := 192) (by decide) ?_
              refine q_iret hC dX5_useFault_192 rfl ⟨by decide, by decide⟩ ⟨_, rfl, ?_⟩
              exact ⟨by rw [← hF]; simp only [z_ufD, if_pos h141, if_pos h150, if_neg h175, if_pos h182, z_e10, if_true, if_false], rfl⟩
        · refine q_iload_n hC 1 dX5_useFault_153 rfl rfl ?_
          refine q_bipush hC dX5_useFault_154 (v := 6) (by decide) rfl ?_
          refine q_icmp_ne hC dX5_useFault_156 (t := 163) (n := 159) (by decide) rfl (fun h156 => ?_) (fun h156 => ?_)
          · refine q_iconst hC dX5_useFault_163 (v := 0) (by decide) rfl ?_
            refine q_istore hC dX5_useFault_164 (by decide) (ls' := [(0, _), (1, _), (2, _), (3, _), (4, _), (5, _), (6, _), (7, _), (8, _), (9, _), (10, _), (11, _)]) rfl rfl ?_
            refine q_iload hC 11 dX5_useFault_166 rfl rfl ?_
            refine q_if_eq hC dX5_useFault_168 (t := 190) (n := 171) (by decide) rfl (fun _ => ?_) (fun h => absurd (by decide) h)
            refine q_bipush hC dX5_useFault_190 (v := 45) (by decide) rfl ?_
            refine q_iret hC dX5_useFault_192 rfl ⟨by decide, by decide⟩ ⟨_, rfl, ?_⟩
            exact ⟨by rw [← hF]; simp only [z_ufD, if_pos h141, if_neg h150, if_neg h156, z_e10, if_true, if_false], rfl⟩
          · refine q_iconst hC dX5_useFault_159 (v := 1) (by decide) rfl ?_
            refine q_goto hC dX5_useFault_160 (n := 164) (by decide) ?_
            refine q_istore hC dX5_useFault_164 (by decide) (ls' := [(0, _), (1, _), (2, _), (3, _), (4, _), (5, _), (6, _), (7, _), (8, _), (9, _), (10, _), (11, _)]) rfl rfl ?_
            refine q_iload hC 11 dX5_useFault_166 rfl rfl ?_
            refine q_if_eq hC dX5_useFault_168 (t := 190) (n := 171) (by decide) rfl (fun h => absurd h (by decide)) (fun _ => ?_)
            refine q_iload hC 7 dX5_useFault_171 rfl rfl ?_
            refine q_bipush hC dX5_useFault_173 (v := 70) (by decide) rfl ?_
            refine q_icmp_eq hC dX5_useFault_175 (t := 185) (n := 178) (by decide) rfl (fun h175 => ?_) (fun h175 => ?_)
            · refine q_bipush hC dX5_useFault_185 (v := 76) (by decide) rfl ?_
              refine q_goto hC dX5_useFault_187 (n := 192) (by decide) ?_
              refine q_iret hC dX5_useFault_192 rfl ⟨by decide, by decide⟩ ⟨_, rfl, ?_⟩
              exact ⟨by rw [← hF]; simp only [z_ufD, if_pos h141, if_neg h150, if_pos h156, if_pos h175, z_e10, if_true, if_false], rfl⟩
            · refine q_iload hC 7 dX5_useFault_178 rfl rfl ?_
              refine q_bipush hC dX5_useFault_180 (v := 102) (by decide) rfl ?_
              refine q_icmp_ne hC dX5_useFault_182 (t := 190) (n := 185) (by decide) rfl (fun h182 => ?_) (fun h182 => ?_)
              · refine q_bipush hC dX5_useFault_190 (v := 45) (by decide) rfl ?_
                refine q_iret hC dX5_useFault_192 rfl ⟨by decide, by decide⟩ ⟨_, rfl, ?_⟩
                exact ⟨by rw [← hF]; simp only [z_ufD, if_pos h141, if_neg h150, if_pos h156, if_neg h175, if_neg h182, z_e10, if_true, if_false], rfl⟩
              · refine q_bipush hC dX5_useFault_185 (v := 76) (by decide) rfl ?_
                refine q_goto hC dX5_useFault_187 (n := 192) (by decide) ?_
                refine q_iret hC dX5_useFault_192 rfl ⟨by decide, by decide⟩ ⟨_, rfl, ?_⟩
                exact ⟨by rw [← hF]; simp only [z_ufD, if_pos h141, if_neg h150, if_pos h156, if_neg h175, if_pos h182, z_e10, if_true, if_false], rfl⟩
      · refine q_bipush hC dX5_useFault_144 (v := 73) (by decide) rfl ?_
        refine q_iret hC dX5_useFault_146 rfl ⟨by decide, by decide⟩ ⟨_, rfl, ?_⟩
        exact ⟨by rw [← hF]; simp only [z_ufD, if_neg h141, z_e10, if_true, if_false], rfl⟩
    have J114 : ∀ (kin st : Int32), z_ufD kind kd st (z_ufF kind) = z_uf S i (z_sg S i 13) (z_kd S i 13) kind own mem made → qV Γ rm_X5_useFault 12 114 [(0, .ref (q_ad Γ 0 i)), (1, .int kind), (2, .ref (q_ad Γ 13 i)), (3, .int own), (4, .int mem), (5, .int made), (6, .int sg), (7, .int kd), (8, .int kin), (9, .int st)] [] S (0, 0) := by
      intro kin st hF
      refine q_iload_n hC 1 dX5_useFault_114 rfl rfl ?_
      refine q_iconst hC dX5_useFault_115 (v := 1) (by decide) rfl ?_
      refine q_icmp_eq hC dX5_useFault_116 (t := 130) (n := 119) (by decide) rfl (fun h116 => ?_) (fun h116 => ?_)
      · refine q_iconst hC dX5_useFault_130 (v := 1) (by decide) rfl ?_
        refine q_goto hC dX5_useFault_131 (n := 135) (by decide) ?_
        refine q_istore hC dX5_useFault_135 (by decide) (ls' := [(0, _), (1, _), (2, _), (3, _), (4, _), (5, _), (6, _), (7, _), (8, _), (9, _), (10, _)]) rfl rfl ?_
        exact J137 _ _ _ (by rw [← hF]; simp only [z_ufF, if_pos h116])
      · refine q_iload_n hC 1 dX5_useFault_119 rfl rfl ?_
        refine q_iconst hC dX5_useFault_120 (v := 5) (by decide) rfl ?_
        refine q_icmp_eq hC dX5_useFault_121 (t := 130) (n := 124) (by decide) rfl (fun h121 => ?_) (fun h121 => ?_)
        · refine q_iconst hC dX5_useFault_130 (v := 1) (by decide) rfl ?_
          refine q_goto hC dX5_useFault_131 (n := 135) (by decide) ?_
          refine q_istore hC dX5_useFault_135 (by decide) (ls' := [(0, _), (1, _), (2, _), (3, _), (4, _), (5, _), (6, _), (7, _), (8, _), (9, _), (10, _)]) rfl rfl ?_
          exact J137 _ _ _ (by rw [← hF]; simp only [z_ufF, if_neg h116, if_pos h121])
        · refine q_iload_n hC 1 dX5_useFault_124 rfl rfl ?_
          refine q_bipush hC dX5_useFault_125 (v := 6) (by decide) rfl ?_
          refine q_icmp_ne hC dX5_useFault_127 (t := 134) (n := 130) (by decide) rfl (fun h127 => ?_) (fun h127 => ?_)
          · refine q_iconst hC dX5_useFault_134 (v := 0) (by decide) rfl ?_
            refine q_istore hC dX5_useFault_135 (by decide) (ls' := [(0, _), (1, _), (2, _), (3, _), (4, _), (5, _), (6, _), (7, _), (8, _), (9, _), (10, _)]) rfl rfl ?_
            exact J137 _ _ _ (by rw [← hF]; simp only [z_ufF, if_neg h116, if_neg h121, if_neg h127])
          · refine q_iconst hC dX5_useFault_130 (v := 1) (by decide) rfl ?_
            refine q_goto hC dX5_useFault_131 (n := 135) (by decide) ?_
            refine q_istore hC dX5_useFault_135 (by decide) (ls' := [(0, _), (1, _), (2, _), (3, _), (4, _), (5, _), (6, _), (7, _), (8, _), (9, _), (10, _)]) rfl rfl ?_
            exact J137 _ _ _ (by rw [← hF]; simp only [z_ufF, if_neg h116, if_neg h121, if_pos h127])
    have J93 : ∀ (kin : Int32), z_ufD kind kd (z_ufS kd) (z_ufF kind) = z_uf S i (z_sg S i 13) (z_kd S i 13) kind own mem made → qV Γ rm_X5_useFault 12 93 [(0, .ref (q_ad Γ 0 i)), (1, .int kind), (2, .ref (q_ad Γ 13 i)), (3, .int own), (4, .int mem), (5, .int made), (6, .int sg), (7, .int kd), (8, .int kin)] [] S (0, 0) := by
      intro kin hF
      refine q_iload hC 7 dX5_useFault_93 rfl rfl ?_
      refine q_bipush hC dX5_useFault_95 (v := 115) (by decide) rfl ?_
      refine q_icmp_eq hC dX5_useFault_97 (t := 107) (n := 100) (by decide) rfl (fun h97 => ?_) (fun h97 => ?_)
      · refine q_iconst hC dX5_useFault_107 (v := 1) (by decide) rfl ?_
        refine q_goto hC dX5_useFault_108 (n := 112) (by decide) ?_
        refine q_istore hC dX5_useFault_112 (by decide) (ls' := [(0, _), (1, _), (2, _), (3, _), (4, _), (5, _), (6, _), (7, _), (8, _), (9, _)]) rfl rfl ?_
        exact J114 _ _ (by rw [← hF]; simp only [z_ufS, if_pos h97])
      · refine q_iload hC 7 dX5_useFault_100 rfl rfl ?_
        refine q_bipush hC dX5_useFault_102 (v := 70) (by decide) rfl ?_
        refine q_icmp_ne hC dX5_useFault_104 (t := 111) (n := 107) (by decide) rfl (fun h104 => ?_) (fun h104 => ?_)
        · refine q_iconst hC dX5_useFault_111 (v := 0) (by decide) rfl ?_
          refine q_istore hC dX5_useFault_112 (by decide) (ls' := [(0, _), (1, _), (2, _), (3, _), (4, _), (5, _), (6, _), (7, _), (8, _), (9, _)]) rfl rfl ?_
          exact J114 _ _ (by rw [← hF]; simp only [z_ufS, if_neg h97, if_neg h104])
        · refine q_iconst hC dX5_useFault_107 (v := 1) (by decide) rfl ?_
          refine q_goto hC dX5_useFault_108 (n := 112) (by decide) ?_
          refine q_istore hC dX5_useFault_112 (by decide) (ls' := [(0, _), (1, _), (2, _), (3, _), (4, _), (5, _), (6, _), (7, _), (8, _), (9, _)]) rfl rfl ?_
          exact J114 _ _ (by rw [← hF]; simp only [z_ufS, if_neg h97, if_pos h104])
    have J71 : ∀ (kin : Int32), kin = z_ufK S i own made → qV Γ rm_X5_useFault 12 71 [(0, .ref (q_ad Γ 0 i)), (1, .int kind), (2, .ref (q_ad Γ 13 i)), (3, .int own), (4, .int mem), (5, .int made), (6, .int sg), (7, .int kd), (8, .int kin)] [] S (0, 0) := by
      intro kin hkin
      refine q_iload hC 6 dX5_useFault_71 rfl rfl ?_
      refine q_bipush hC dX5_useFault_73 (v := 112) (by decide) rfl ?_
      refine q_icmp_eq hC dX5_useFault_75 (t := 93) (n := 78) (by decide) rfl (fun h75 => ?_) (fun h75 => ?_)
      · exact J93 _ (by subst hkin; simp only [z_uf, z_sg13, z_kd13, ← hsg, ← hkd, if_pos h75])
      · refine q_iload hC 6 dX5_useFault_78 rfl rfl ?_
        refine q_bipush hC dX5_useFault_80 (v := 111) (by decide) rfl ?_
        refine q_icmp_ne hC dX5_useFault_82 (t := 90) (n := 85) (by decide) rfl (fun h82 => ?_) (fun h82 => ?_)
        · refine q_bipush hC dX5_useFault_90 (v := 76) (by decide) rfl ?_
          refine q_iret hC dX5_useFault_92 rfl ⟨by decide, by decide⟩ ⟨_, rfl, ?_⟩
          exact ⟨by subst hkin; simp only [z_uf, z_sg13, z_kd13, ← hsg, ← hkd, if_neg h75, if_neg h82], rfl⟩
        · refine q_iload hC 8 dX5_useFault_85 rfl rfl ?_
          refine q_if_ne hC dX5_useFault_87 (t := 93) (n := 90) (by decide) rfl (fun h87 => ?_) (fun h87 => ?_)
          · exact J93 _ (by subst hkin; simp only [z_uf, z_sg13, z_kd13, ← hsg, ← hkd, if_neg h75, if_pos h82, if_neg h87])
          · refine q_bipush hC dX5_useFault_90 (v := 76) (by decide) rfl ?_
            refine q_iret hC dX5_useFault_92 rfl ⟨by decide, by decide⟩ ⟨_, rfl, ?_⟩
            exact ⟨by subst hkin; simp only [z_uf, z_sg13, z_kd13, ← hsg, ← hkd, if_neg h75, if_pos h82, if_pos h87], rfl⟩
    show qV Γ _ _ 0 [(0, .ref (q_ad Γ 0 i)), (1, .int kind), (2, .ref (q_ad Γ 13 i)), (3, .int own), (4, .int mem), (5, .int made)] [] S (0, 0)
    refine q_aload_n hC 2 dX5_useFault_0 rfl rfl ?_
    refine q_get_f hC f_X5_109 dX5_useFault_1 rfl rfl hi rfl ?_
    refine q_iload_n hC 3 dX5_useFault_4 rfl rfl ?_
    refine q_bipush hC dX5_useFault_5 (v := 6) (by decide) rfl ?_
    refine q_imul hC dX5_useFault_7 rfl ?_
    refine q_iload hC 4 dX5_useFault_8 rfl rfl ?_
    refine q_iadd hC dX5_useFault_10 rfl ?_
    refine q_cald hC dX5_useFault_11 rfl hi (z_in30 hown hmem) rfl ?_
    refine q_istore hC dX5_useFault_12 (by decide) (ls' := [(0, _), (1, _), (2, _), (3, _), (4, _), (5, _), (6, _)]) rfl rfl ?_
    refine q_aload_n hC 2 dX5_useFault_14 rfl rfl ?_
    refine q_get_f hC f_X5_114 dX5_useFault_15 rfl rfl hi rfl ?_
    refine q_iload_n hC 3 dX5_useFault_18 rfl rfl ?_
    refine q_bipush hC dX5_useFault_19 (v := 6) (by decide) rfl ?_
    refine q_imul hC dX5_useFault_21 rfl ?_
    refine q_iload hC 4 dX5_useFault_22 rfl rfl ?_
    refine q_iadd hC dX5_useFault_24 rfl ?_
    refine q_cald hC dX5_useFault_25 rfl hi (z_in30 hown hmem) rfl ?_
    refine q_istore hC dX5_useFault_26 (by decide) (ls' := [(0, _), (1, _), (2, _), (3, _), (4, _), (5, _), (6, _), (7, _)]) rfl rfl ?_
    show qV Γ _ _ 28 [(0, _), (1, _), (2, _), (3, _), (4, _), (5, _), (6, .int (S 14 i (own * 6 + mem).toNatClampNeg)), (7, .int (S 15 i (own * 6 + mem).toNatClampNeg))] [] S (0, 0)
    rw [← hsg, ← hkd]
    refine q_aload_n hC 0 dX5_useFault_28 rfl rfl ?_
    refine q_get_f hC f_X5_33 dX5_useFault_29 rfl rfl hi rfl ?_
    refine q_if_eq hC dX5_useFault_32 (t := 68) (n := 35) (by decide) rfl (fun h32 => ?_) (fun h32 => ?_)
    · refine q_iconst hC dX5_useFault_68 (v := 0) (by decide) rfl ?_
      refine q_istore hC dX5_useFault_69 (by decide) (ls' := [(0, _), (1, _), (2, _), (3, _), (4, _), (5, _), (6, _), (7, _), (8, _)]) rfl rfl ?_
      exact J71 _ (by simp only [z_ufK, if_pos h32])
    · refine q_aload_n hC 0 dX5_useFault_35 rfl rfl ?_
      refine q_get_f hC f_X5_21 dX5_useFault_36 rfl rfl hi rfl ?_
      refine q_get_f hC f_X5_149 dX5_useFault_39 rfl rfl hi rfl ?_
      refine q_iconst hC dX5_useFault_42 (v := 5) (by decide) rfl ?_
      refine q_iald hC dX5_useFault_43 rfl hi (q_inl (by decide)) rfl ?_
      refine q_iload_n hC 3 dX5_useFault_44 rfl rfl ?_
      refine q_ishr hC dX5_useFault_45 rfl ?_
      refine q_iconst hC dX5_useFault_46 (v := 1) (by decide) rfl ?_
      refine q_iand hC dX5_useFault_47 rfl ?_
      refine q_iconst hC dX5_useFault_48 (v := 1) (by decide) rfl ?_
      refine q_icmp_ne hC dX5_useFault_49 (t := 68) (n := 52) (by decide) rfl (fun h49 => ?_) (fun h49 => ?_)
      · refine q_iconst hC dX5_useFault_68 (v := 0) (by decide) rfl ?_
        refine q_istore hC dX5_useFault_69 (by decide) (ls' := [(0, _), (1, _), (2, _), (3, _), (4, _), (5, _), (6, _), (7, _), (8, _)]) rfl rfl ?_
        exact J71 _ (by simp only [z_ufK, if_neg h32, if_neg h49])
      · refine q_iload hC 5 dX5_useFault_52 rfl rfl ?_
        refine q_iconst hC dX5_useFault_54 (v := (-1)) (by decide) rfl ?_
        refine q_icmp_eq hC dX5_useFault_55 (t := 64) (n := 58) (by decide) rfl (fun h55 => ?_) (fun h55 => ?_)
        · refine q_iconst hC dX5_useFault_64 (v := 1) (by decide) rfl ?_
          refine q_goto hC dX5_useFault_65 (n := 69) (by decide) ?_
          refine q_istore hC dX5_useFault_69 (by decide) (ls' := [(0, _), (1, _), (2, _), (3, _), (4, _), (5, _), (6, _), (7, _), (8, _)]) rfl rfl ?_
          exact J71 _ (by simp only [z_ufK, if_neg h32, if_pos h49, if_pos h55])
        · refine q_iload hC 5 dX5_useFault_58 rfl rfl ?_
          refine q_iconst hC dX5_useFault_60 (v := 5) (by decide) rfl ?_
          refine q_icmp_ne hC dX5_useFault_61 (t := 68) (n := 64) (by decide) rfl (fun h61 => ?_) (fun h61 => ?_)
          · refine q_iconst hC dX5_useFault_68 (v := 0) (by decide) rfl ?_
            refine q_istore hC dX5_useFault_69 (by decide) (ls' := [(0, _), (1, _), (2, _), (3, _), (4, _), (5, _), (6, _), (7, _), (8, _)]) rfl rfl ?_
            exact J71 _ (by simp only [z_ufK, if_neg h32, if_pos h49, if_neg h55, if_neg h61])
          · refine q_iconst hC dX5_useFault_64 (v := 1) (by decide) rfl ?_
            refine q_goto hC dX5_useFault_65 (n := 69) (by decide) ?_
            refine q_istore hC dX5_useFault_69 (by decide) (ls' := [(0, _), (1, _), (2, _), (3, _), (4, _), (5, _), (6, _), (7, _), (8, _)]) rfl rfl ?_
            exact J71 _ (by simp only [z_ufK, if_neg h32, if_pos h49, if_neg h55, if_pos h61])
def z_sel (x : Int32) : Prop := x < 0 ∨ z_lt x 6
theorem z_seln {x : Int32} (h : z_sel x) (h1 : ¬ x < 0) : z_lt x 6 := h.elim (fun z => absurd z h1) id
theorem z_nlt0 {x : Int32} (h : 0 ≤ x) : ¬ x < 0 := Int32.not_lt.mpr h
def z_dis (S : qM) (i : Nat) (kind row mem : Int32) : Int32 :=
  if 0 ≤ S 24 i (row * 6 + mem).toNatClampNeg then (if S 24 i (row * 6 + mem).toNatClampNeg = 5 then 100 else
    if kind = 3 then (if S 10 i (S 24 i (row * 6 + mem).toNatClampNeg * 6 + mem).toNatClampNeg = 112 then S 12 i (S 24 i (row * 6 + mem).toNatClampNeg * 6 + mem).toNatClampNeg else -76) else S 12 i (S 24 i (row * 6 + mem).toNatClampNeg * 6 + mem).toNatClampNeg)
  else S 24 i (row * 6 + mem).toNatClampNeg
theorem z_plx {row mem : Int32} (hrow : z_lt row 6) (hm : z_lt mem 6) : (row * 6 + mem).toNatClampNeg < 36 := by
  obtain ⟨m, hm, rfl⟩ := hm
  exact z_plt hrow hm
abbrev rm_X5_dispatch : Room := { frames := 0, cells := 0, slots := 0, locals := 0 }
set_option maxHeartbeats 4000000 in
set_option maxRecDepth 100000 in
theorem c_X5_dispatch {L : qL} (hD : q_D L.2.2.2.1) : qCT L yX5_dispatch cX5_dispatch 6 (some .int) rm_X5_dispatch (fun ad _ (x : Nat × Int32 × Int32 × Int32) => [.ref (ad 0 x.1), .int x.2.1, .int x.2.2.1, .int x.2.2.2]) (fun x S => x.1 < 4 ∧ z_lt x.2.2.1 6 ∧ z_lt x.2.2.2 6 ∧ ∀ p, p < 36 → z_sel (S 24 x.1 p)) (qPi (fun x S r S' => r = z_dis S x.1 x.2.1 x.2.2.1 x.2.2.2 ∧ S = S')) := by
  refine q_met hD (by decide) (fun _ => Nat.le_of_ble_eq_true rfl) (fun Γ x S hΓ hpre hC => ?_)
  subst hΓ
  obtain ⟨i, kind, row, mem⟩ := x
  obtain ⟨hi, hrow, hmem, hsel⟩ := hpre
  have hi : i < 4 := hi
  have hrow : z_lt row 6 := hrow
  have hmem : z_lt mem 6 := hmem
  have hsel : ∀ p, p < 36 → z_sel (S 24 i p) := hsel
  show qV Γ _ _ 0 [(0, .ref (q_ad Γ 0 i)), (1, .int kind), (2, .int row), (3, .int mem)] [] S (0, 0)
  refine q_aload_n hC 0 dX5_dispatch_0 rfl rfl ?_
  refine q_get_f hC f_X5_21 dX5_dispatch_1 rfl rfl hi rfl ?_
  refine q_get_f hC f_X5_165 dX5_dispatch_4 rfl rfl hi rfl ?_
  refine q_iload_n hC 2 dX5_dispatch_7 rfl rfl ?_
  refine q_bipush hC dX5_dispatch_8 (v := 6) (by decide) rfl ?_
  refine q_imul hC dX5_dispatch_10 rfl ?_
  refine q_iload_n hC 3 dX5_dispatch_11 rfl rfl ?_
  refine q_iadd hC dX5_dispatch_12 rfl ?_
  refine q_iald hC dX5_dispatch_13 rfl hi (z_in36 hrow hmem) rfl ?_
  refine q_istore hC dX5_dispatch_14 (by decide) (ls' := [(0, _), (1, _), (2, _), (3, _), (4, _)]) rfl rfl ?_
  refine q_iload hC 4 dX5_dispatch_16 rfl rfl ?_
  refine q_if_ge hC dX5_dispatch_18 (t := 24) (n := 21) (by decide) rfl (fun h18 => ?_) (fun h18 => ?_)
  · refine q_iload hC 4 dX5_dispatch_24 rfl rfl ?_
    refine q_iconst hC dX5_dispatch_26 (v := 5) (by decide) rfl ?_
    refine q_icmp_ne hC dX5_dispatch_27 (t := 33) (n := 30) (by decide) rfl (fun h27 => ?_) (fun h27 => ?_)
    · refine q_iload hC 4 dX5_dispatch_33 rfl rfl ?_
      refine q_bipush hC dX5_dispatch_35 (v := 6) (by decide) rfl ?_
      refine q_imul hC dX5_dispatch_37 rfl ?_
      refine q_iload_n hC 3 dX5_dispatch_38 rfl rfl ?_
      refine q_iadd hC dX5_dispatch_39 rfl ?_
      refine q_istore hC dX5_dispatch_40 (by decide) (ls' := [(0, _), (1, _), (2, _), (3, _), (4, _), (5, _)]) rfl rfl ?_
      refine q_iload_n hC 1 dX5_dispatch_42 rfl rfl ?_
      refine q_iconst hC dX5_dispatch_43 (v := 3) (by decide) rfl ?_
      refine q_icmp_ne hC dX5_dispatch_44 (t := 70) (n := 47) (by decide) rfl (fun h44 => ?_) (fun h44 => ?_)
      · refine q_aload_n hC 0 dX5_dispatch_70 rfl rfl ?_
        refine q_get_f hC f_X5_12 dX5_dispatch_71 rfl rfl hi rfl ?_
        refine q_get_f hC f_X5_105 dX5_dispatch_74 rfl rfl hi rfl ?_
        refine q_get_f hC f_X5_156 dX5_dispatch_77 rfl rfl hi rfl ?_
        refine q_iload hC 5 dX5_dispatch_80 rfl rfl ?_
        refine q_iald hC dX5_dispatch_82 rfl hi (z_in30 (z_lt5 (z_seln (hsel _ (z_plx hrow hmem)) (z_nlt0 h18)) h27) hmem) rfl ?_
        refine q_iret hC dX5_dispatch_83 rfl ⟨by decide, by decide⟩ ⟨_, rfl, ?_⟩
        exact ⟨by simp only [z_dis, if_pos h18, if_neg h27, if_neg h44], rfl⟩
      · refine q_aload_n hC 0 dX5_dispatch_47 rfl rfl ?_
        refine q_get_f hC f_X5_12 dX5_dispatch_48 rfl rfl hi rfl ?_
        refine q_get_f hC f_X5_105 dX5_dispatch_51 rfl rfl hi rfl ?_
        refine q_get_f hC f_X5_109 dX5_dispatch_54 rfl rfl hi rfl ?_
        refine q_iload hC 5 dX5_dispatch_57 rfl rfl ?_
        refine q_cald hC dX5_dispatch_59 rfl hi (z_in30 (z_lt5 (z_seln (hsel _ (z_plx hrow hmem)) (z_nlt0 h18)) h27) hmem) rfl ?_
        refine q_bipush hC dX5_dispatch_60 (v := 112) (by decide) rfl ?_
        refine q_icmp_eq hC dX5_dispatch_62 (t := 70) (n := 65) (by decide) rfl (fun h62 => ?_) (fun h62 => ?_)
        · refine q_aload_n hC 0 dX5_dispatch_70 rfl rfl ?_
          refine q_get_f hC f_X5_12 dX5_dispatch_71 rfl rfl hi rfl ?_
          refine q_get_f hC f_X5_105 dX5_dispatch_74 rfl rfl hi rfl ?_
          refine q_get_f hC f_X5_156 dX5_dispatch_77 rfl rfl hi rfl ?_
          refine q_iload hC 5 dX5_dispatch_80 rfl rfl ?_
          refine q_iald hC dX5_dispatch_82 rfl hi (z_in30 (z_lt5 (z_seln (hsel _ (z_plx hrow hmem)) (z_nlt0 h18)) h27) hmem) rfl ?_
          refine q_iret hC dX5_dispatch_83 rfl ⟨by decide, by decide⟩ ⟨_, rfl, ?_⟩
          exact ⟨by simp only [z_dis, if_pos h18, if_neg h27, if_pos h44, if_pos h62], rfl⟩
        · refine q_bipush hC dX5_dispatch_65 (v := (-76)) (by decide) rfl ?_
          refine q_goto hC dX5_dispatch_67 (n := 83) (by decide) ?_
          refine q_iret hC dX5_dispatch_83 rfl ⟨by decide, by decide⟩ ⟨_, rfl, ?_⟩
          exact ⟨by simp only [z_dis, if_pos h18, if_neg h27, if_pos h44, if_neg h62], rfl⟩
    · refine q_bipush hC dX5_dispatch_30 (v := 100) (by decide) rfl ?_
      refine q_iret hC dX5_dispatch_32 rfl ⟨by decide, by decide⟩ ⟨_, rfl, ?_⟩
      exact ⟨by simp only [z_dis, if_pos h18, if_pos h27], rfl⟩
  · refine q_iload hC 4 dX5_dispatch_21 rfl rfl ?_
    refine q_iret hC dX5_dispatch_23 rfl ⟨by decide, by decide⟩ ⟨_, rfl, ?_⟩
    exact ⟨by simp only [z_dis, if_neg h18], rfl⟩
