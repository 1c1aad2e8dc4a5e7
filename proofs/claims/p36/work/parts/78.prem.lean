-- printed once, start 5: what the Statement gives of the start
set_option maxHeartbeats 4000000 in
set_option maxRecDepth 100000 in
theorem n_prem {s : State} {b L : Nat} {xs : Nat → Int32} (hts : ∀ w ∈ lw_tbl, w.before #[.ref b] s = true) (hg : (Cond.and given_1 narrow_1).before #[.ref b] s = true) (hX : va_X b L xs s s.heap) (hb : b < s.heap.size) : ∃ o : qO, o.1.1 = b ∧ o.1.2.1 = L ∧ qN o s ∧ qT o (fun q => s.heap.size ≤ q) s s.heap := by
  have hs := flat_of_before _ hg
  have hA : ∀ a : Nat, a < s.heap.size → ¬ (fun q => s.heap.size ≤ q) a := fun a h => Nat.not_le.mpr h
  have W : ∀ {w : Cond} {i : Nat}, lw_tbl[i]? = some w → w.before #[.ref b] s = true := fun h => hts _ (List.mem_of_getElem? h)
  have hKe : ∀ j : Nat, j < 9 → (Term.elem (.static "Linkwitness" "KINDS" "[C") (.int (Int32.ofNat j))).eval #[.ref b] s none [] s = some (.int (q_kinds j)) := by
    intro j hj
    rcases (by omega : j = 0 ∨ j = 1 ∨ j = 2 ∨ j = 3 ∨ j = 4 ∨ j = 5 ∨ j = 6 ∨ j = 7 ∨ j = 8) with rfl | rfl | rfl | rfl | rfl | rfl | rfl | rfl | rfl
    · exact va_eqt (hs (.eq (.elem (.static "Linkwitness" "KINDS" "[C") (.int 0)) (.int 110)) (by decide +kernel))
    · exact va_eqt (hs (.eq (.elem (.static "Linkwitness" "KINDS" "[C") (.int 1)) (.int 115)) (by decide +kernel))
    · exact va_eqt (hs (.eq (.elem (.static "Linkwitness" "KINDS" "[C") (.int 2)) (.int 99)) (by decide +kernel))
    · exact va_eqt (hs (.eq (.elem (.static "Linkwitness" "KINDS" "[C") (.int 3)) (.int 105)) (by decide +kernel))
    · exact va_eqt (hs (.eq (.elem (.static "Linkwitness" "KINDS" "[C") (.int 4)) (.int 117)) (by decide +kernel))
    · exact va_eqt (hs (.eq (.elem (.static "Linkwitness" "KINDS" "[C") (.int 5)) (.int 103)) (by decide +kernel))
    · exact va_eqt (hs (.eq (.elem (.static "Linkwitness" "KINDS" "[C") (.int 6)) (.int 112)) (by decide +kernel))
    · exact va_eqt (hs (.eq (.elem (.static "Linkwitness" "KINDS" "[C") (.int 7)) (.int 71)) (by decide +kernel))
    · exact va_eqt (hs (.eq (.elem (.static "Linkwitness" "KINDS" "[C") (.int 8)) (.int 80)) (by decide +kernel))
  obtain ⟨tK, hK1, hK2⟩ := va_Tof (ty := .char) (N := 9) (f := fun j => .int (q_kinds j)) (by decide) (hs (.arrayOf (.static "Linkwitness" "KINDS" "[C") .char) (by decide +kernel)) (va_eqt (hs (.eq (.length (.static "Linkwitness" "KINDS" "[C")) (.int 9)) (by decide +kernel))) hKe hA
  have hKZ : va_Z RX9 "KINDS" "[C" (.ref tK) (fun q => s.heap.size ≤ q) s s.heap := va_Zof (W (i := 284) (by decide +kernel)) (W (i := 30) (by decide +kernel)) hK1 hA
  have hPe : ∀ j : Nat, j < 16 → (Term.elem (.static "Linkwitness" "PAIRS" "[I") (.int (Int32.ofNat j))).eval #[.ref b] s none [] s = some (.int (q_pairs j)) := by
    intro j hj
    rcases (by omega : j = 0 ∨ j = 1 ∨ j = 2 ∨ j = 3 ∨ j = 4 ∨ j = 5 ∨ j = 6 ∨ j = 7 ∨ j = 8 ∨ j = 9 ∨ j = 10 ∨ j = 11 ∨ j = 12 ∨ j = 13 ∨ j = 14 ∨ j = 15) with rfl | rfl | rfl | rfl | rfl | rfl | rfl | rfl | rfl | rfl | rfl | rfl | rfl | rfl | rfl | rfl
    · exact va_eqt (hs (.eq (.elem (.static "Linkwitness" "PAIRS" "[I") (.int 0)) (.int 0)) (by decide +kernel))
    · exact va_eqt (hs (.eq (.elem (.static "Linkwitness" "PAIRS" "[I") (.int 1)) (.int 1)) (by decide +kernel))
    · exact va_eqt (hs (.eq (.elem (.static "Linkwitness" "PAIRS" "[I") (.int 2)) (.int 3)) (by decide +kernel))
    · exact va_eqt (hs (.eq (.elem (.static "Linkwitness" "PAIRS" "[I") (.int 3)) (.int 5)) (by decide +kernel))
    · exact va_eqt (hs (.eq (.elem (.static "Linkwitness" "PAIRS" "[I") (.int 4)) (.int 9)) (by decide +kernel))
    · exact va_eqt (hs (.eq (.elem (.static "Linkwitness" "PAIRS" "[I") (.int 5)) (.int 17)) (by decide +kernel))
    · exact va_eqt (hs (.eq (.elem (.static "Linkwitness" "PAIRS" "[I") (.int 6)) (.int 2)) (by decide +kernel))
    · exact va_eqt (hs (.eq (.elem (.static "Linkwitness" "PAIRS" "[I") (.int 7)) (.int 6)) (by decide +kernel))
    · exact va_eqt (hs (.eq (.elem (.static "Linkwitness" "PAIRS" "[I") (.int 8)) (.int 10)) (by decide +kernel))
    · exact va_eqt (hs (.eq (.elem (.static "Linkwitness" "PAIRS" "[I") (.int 9)) (.int 18)) (by decide +kernel))
    · exact va_eqt (hs (.eq (.elem (.static "Linkwitness" "PAIRS" "[I") (.int 10)) (.int 4)) (by decide +kernel))
    · exact va_eqt (hs (.eq (.elem (.static "Linkwitness" "PAIRS" "[I") (.int 11)) (.int 12)) (by decide +kernel))
    · exact va_eqt (hs (.eq (.elem (.static "Linkwitness" "PAIRS" "[I") (.int 12)) (.int 20)) (by decide +kernel))
    · exact va_eqt (hs (.eq (.elem (.static "Linkwitness" "PAIRS" "[I") (.int 13)) (.int 8)) (by decide +kernel))
    · exact va_eqt (hs (.eq (.elem (.static "Linkwitness" "PAIRS" "[I") (.int 14)) (.int 24)) (by decide +kernel))
    · exact va_eqt (hs (.eq (.elem (.static "Linkwitness" "PAIRS" "[I") (.int 15)) (.int 16)) (by decide +kernel))
  obtain ⟨tP, hP1, hP2⟩ := va_Tof (ty := .int) (N := 16) (f := fun j => .int (q_pairs j)) (by decide) (hs (.arrayOf (.static "Linkwitness" "PAIRS" "[I") .int) (by decide +kernel)) (va_eqt (hs (.eq (.length (.static "Linkwitness" "PAIRS" "[I")) (.int 16)) (by decide +kernel))) hPe hA
  have hPZ : va_Z RX9 "PAIRS" "[I" (.ref tP) (fun q => s.heap.size ≤ q) s s.heap := va_Zof (W (i := 791) (by decide +kernel)) (W (i := 30) (by decide +kernel)) hP1 hA
  have hUq : vx_Zq "java/lang/Throwable" "UNASSIGNED_STACK" "[Ljava/lang/StackTraceElement;" (fun q => s.heap.size ≤ q) s s.heap := vx_Zqof (W (i := 423) (by decide +kernel)) (W (i := 39) (by decide +kernel)) (hs _ (by decide +kernel)) hA
  have hSq : vx_Zq "java/lang/Throwable" "SUPPRESSED_SENTINEL" "Ljava/util/List;" (fun q => s.heap.size ≤ q) s s.heap := vx_Zqof (W (i := 425) (by decide +kernel)) (W (i := 39) (by decide +kernel)) (hs _ (by decide +kernel)) hA
  have hCZ : va_Z "java/lang/String" "COMPACT_STRINGS" "Z" (.int 1) (fun q => s.heap.size ≤ q) s s.heap := va_Zof (W (i := 909) (by decide +kernel)) (W (i := 44) (by decide +kernel)) (va_eqt (hs _ (by decide +kernel))) hA
  have hPq : va_Zq "jdk/internal/util/Preconditions" "SIOOBE_FORMATTER" "Ljava/util/function/BiFunction;" (fun q => s.heap.size ≤ q) s s.heap := va_Zqof (W (i := 917) (by decide +kernel)) (W (i := 47) (by decide +kernel)) (hs _ (by decide +kernel)) hA
  obtain ⟨aK, aV, hSS, hSe⟩ := vk_Sof (args := #[.ref b]) (s := s) (N := 7) (tm := fun i => Term.string "LinkwitnessLaw" (q_sidx i)) (len := q_sln) (byt := q_sbyt) (A := fun q => s.heap.size ≤ q)
    (fun i hi => by rcases (by omega : i = 0 ∨ i = 1 ∨ i = 2 ∨ i = 3 ∨ i = 4 ∨ i = 5 ∨ i = 6) with rfl | rfl | rfl | rfl | rfl | rfl | rfl <;> decide)
    (fun i hi => by rcases (by omega : i = 0 ∨ i = 1 ∨ i = 2 ∨ i = 3 ∨ i = 4 ∨ i = 5 ∨ i = 6) with rfl | rfl | rfl | rfl | rfl | rfl | rfl <;> exact hs _ (by decide +kernel))
    (fun i hi => by rcases (by omega : i = 0 ∨ i = 1 ∨ i = 2 ∨ i = 3 ∨ i = 4 ∨ i = 5 ∨ i = 6) with rfl | rfl | rfl | rfl | rfl | rfl | rfl <;> exact hs _ (by decide +kernel))
    (fun i hi => by rcases (by omega : i = 0 ∨ i = 1 ∨ i = 2 ∨ i = 3 ∨ i = 4 ∨ i = 5 ∨ i = 6) with rfl | rfl | rfl | rfl | rfl | rfl | rfl <;> exact hs _ (by decide +kernel))
    (fun i hi => by rcases (by omega : i = 0 ∨ i = 1 ∨ i = 2 ∨ i = 3 ∨ i = 4 ∨ i = 5 ∨ i = 6) with rfl | rfl | rfl | rfl | rfl | rfl | rfl <;> exact hs _ (by decide +kernel))
    (fun i hi j hj => by
      rcases (by omega : i = 0 ∨ i = 1 ∨ i = 2 ∨ i = 3 ∨ i = 4 ∨ i = 5 ∨ i = 6) with rfl | rfl | rfl | rfl | rfl | rfl | rfl
      · have hj : j < 6 := hj
        rcases (by omega : j = 0 ∨ j = 1 ∨ j = 2 ∨ j = 3 ∨ j = 4 ∨ j = 5) with rfl | rfl | rfl | rfl | rfl | rfl <;> exact hs _ (by decide +kernel)
      · have hj : j < 5 := hj
        rcases (by omega : j = 0 ∨ j = 1 ∨ j = 2 ∨ j = 3 ∨ j = 4) with rfl | rfl | rfl | rfl | rfl <;> exact hs _ (by decide +kernel)
      · have hj : j < 5 := hj
        rcases (by omega : j = 0 ∨ j = 1 ∨ j = 2 ∨ j = 3 ∨ j = 4) with rfl | rfl | rfl | rfl | rfl <;> exact hs _ (by decide +kernel)
      · have hj : j < 3 := hj
        rcases (by omega : j = 0 ∨ j = 1 ∨ j = 2) with rfl | rfl | rfl <;> exact hs _ (by decide +kernel)
      · have hj : j < 3 := hj
        rcases (by omega : j = 0 ∨ j = 1 ∨ j = 2) with rfl | rfl | rfl <;> exact hs _ (by decide +kernel)
      · have hj : j < 9 := hj
        rcases (by omega : j = 0 ∨ j = 1 ∨ j = 2 ∨ j = 3 ∨ j = 4 ∨ j = 5 ∨ j = 6 ∨ j = 7 ∨ j = 8) with rfl | rfl | rfl | rfl | rfl | rfl | rfl | rfl | rfl <;> exact hs _ (by decide +kernel)
      · have hj : j < 6 := hj
        rcases (by omega : j = 0 ∨ j = 1 ∨ j = 2 ∨ j = 3 ∨ j = 4 ∨ j = 5) with rfl | rfl | rfl | rfl | rfl | rfl <;> exact hs _ (by decide +kernel))
    (fun i j hi hj hne => by
      rcases (by omega : i = 0 ∨ i = 1 ∨ i = 2 ∨ i = 3 ∨ i = 4 ∨ i = 5 ∨ i = 6) with rfl | rfl | rfl | rfl | rfl | rfl | rfl <;> (rcases (by omega : j = 0 ∨ j = 1 ∨ j = 2 ∨ j = 3 ∨ j = 4 ∨ j = 5 ∨ j = 6) with rfl | rfl | rfl | rfl | rfl | rfl | rfl) <;> first | exact absurd rfl hne | exact Or.inl (hs _ (by decide +kernel)) | exact Or.inr (hs _ (by decide +kernel))) hA
  refine ⟨((b, L, (xs, aK, aV)), (tK, tP)), rfl, rfl, ⟨fun w hw => ?_, fun j hj => ?_, va_Nc.of (hs _ (by decide +kernel)), va_Nc.of (hs _ (by decide +kernel)), va_Nc.of (hs _ (by decide +kernel)), va_Nc.of (hs _ (by decide +kernel))⟩, ⟨hX, hb, Nat.not_le.mpr hb⟩, ⟨hKZ, hK2⟩, ⟨hPZ, hP2⟩, ⟨hUq, hSq⟩, ⟨hCZ, hPq⟩, hSS⟩
  · have h1 := hts w (List.mem_filter.mp hw).1
    have h2 := (List.mem_filter.mp hw).2
    cases w <;> first | exact va_Nw.of rfl h1 | (exfalso; revert h2; simp [q_isNest])
  · rcases (by omega : j = 0 ∨ j = 1 ∨ j = 2 ∨ j = 3 ∨ j = 4 ∨ j = 5 ∨ j = 6) with rfl | rfl | rfl | rfl | rfl | rfl | rfl
    · exact vk_R.of (W (i := 899) (by decide +kernel)) (hSe 0 (by decide))
    · exact vk_R.of (W (i := 963) (by decide +kernel)) (hSe 1 (by decide))
    · exact vk_R.of (W (i := 985) (by decide +kernel)) (hSe 2 (by decide))
    · exact vk_R.of (W (i := 993) (by decide +kernel)) (hSe 3 (by decide))
    · exact vk_R.of (W (i := 1012) (by decide +kernel)) (hSe 4 (by decide))
    · exact vk_R.of (W (i := 1096) (by decide +kernel)) (hSe 5 (by decide))
    · exact vk_R.of (W (i := 1097) (by decide +kernel)) (hSe 6 (by decide))
