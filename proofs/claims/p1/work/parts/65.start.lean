set_option maxHeartbeats 4000000 in
set_option maxRecDepth 100000 in
theorem ax_S_start {s : State} {args : Array Value} {A : Nat → Prop} (hts : ∀ w ∈ lw_tbl, w.before args s = true) (hgv : (Jvm.Cond.and given_1 narrow_1).before args s = true) (hA : ∀ a : Nat, a < s.heap.size → ¬ A a) : ∃ sa ta : Nat → Nat, ax_S sa ta A s s.heap := by
  have hs := flat_of_before _ hgv
  obtain ⟨cD, kD, hcD, -⟩ := Cond.instantiable_spec (hts (.instantiable RX4 6) (by decide +kernel))
  have hr61 := hts (.stringRef RX4 61 "no such source") (by decide +kernel)
  obtain ⟨-, -, -, sa61, -, -, -, -, -, he61⟩ := Cond.stringRef_spec hcD hr61
  have hr79 := hts (.stringRef RX4 79 "no such kind, or number not in its range") (by decide +kernel)
  obtain ⟨-, -, -, sa79, -, -, -, -, -, he79⟩ := Cond.stringRef_spec hcD hr79
  have hr91 := hts (.stringRef RX4 91 "no such part") (by decide +kernel)
  obtain ⟨-, -, -, sa91, -, -, -, -, -, he91⟩ := Cond.stringRef_spec hcD hr91
  have hr133 := hts (.stringRef RX4 133 "no such source, or place") (by decide +kernel)
  obtain ⟨-, -, -, sa133, -, -, -, -, -, he133⟩ := Cond.stringRef_spec hcD hr133
  have hr202 := hts (.stringRef RX4 202 "what is not 0 to 4") (by decide +kernel)
  obtain ⟨-, -, -, sa202, -, -, -, -, -, he202⟩ := Cond.stringRef_spec hcD hr202
  have hr262 := hts (.stringRef RX4 262 "no such place") (by decide +kernel)
  obtain ⟨-, -, -, sa262, -, -, -, -, -, he262⟩ := Cond.stringRef_spec hcD hr262
  have hr264 := hts (.stringRef RX4 264 "place or phase is not 0 to 7, or strength not 1 to 9") (by decide +kernel)
  obtain ⟨-, -, -, sa264, -, -, -, -, -, he264⟩ := Cond.stringRef_spec hcD hr264
  have hR : ∀ {k a : Nat} {tx : String}, (Cond.stringRef RX4 k tx).before args s = true → (Term.string RX4 k).eval args s none [] s = some (.ref a) → vk_R RX4 k tx a s := fun h1 h2 => ⟨h1, h2⟩
  obtain ⟨ta0, hv0, hT0⟩ := va_Tof (tm := (.static "Diffractory" "LEAST_NUMBER" "[I")) (ty := .int) (N := 11) (f := ax_tab0) (A := A) (by decide) (hs (.arrayOf (.static "Diffractory" "LEAST_NUMBER" "[I") .int) (by decide +kernel)) (va_eqt (hs (.eq (.length (.static "Diffractory" "LEAST_NUMBER" "[I")) (.int 11)) (by decide +kernel))) (fun j hj => by
    rcases (show j = 0 ∨ j = 1 ∨ j = 2 ∨ j = 3 ∨ j = 4 ∨ j = 5 ∨ j = 6 ∨ j = 7 ∨ j = 8 ∨ j = 9 ∨ j = 10 by omega) with rfl | rfl | rfl | rfl | rfl | rfl | rfl | rfl | rfl | rfl | rfl
    · exact va_eqt (hs (.eq (.elem (.static "Diffractory" "LEAST_NUMBER" "[I") (.int 0)) (.int 0)) (by decide +kernel))
    · exact va_eqt (hs (.eq (.elem (.static "Diffractory" "LEAST_NUMBER" "[I") (.int 1)) (.int 0)) (by decide +kernel))
    · exact va_eqt (hs (.eq (.elem (.static "Diffractory" "LEAST_NUMBER" "[I") (.int 2)) (.int 0)) (by decide +kernel))
    · exact va_eqt (hs (.eq (.elem (.static "Diffractory" "LEAST_NUMBER" "[I") (.int 3)) (.int 0)) (by decide +kernel))
    · exact va_eqt (hs (.eq (.elem (.static "Diffractory" "LEAST_NUMBER" "[I") (.int 4)) (.int 0)) (by decide +kernel))
    · exact va_eqt (hs (.eq (.elem (.static "Diffractory" "LEAST_NUMBER" "[I") (.int 5)) (.int 0)) (by decide +kernel))
    · exact va_eqt (hs (.eq (.elem (.static "Diffractory" "LEAST_NUMBER" "[I") (.int 6)) (.int 1)) (by decide +kernel))
    · exact va_eqt (hs (.eq (.elem (.static "Diffractory" "LEAST_NUMBER" "[I") (.int 7)) (.int 0)) (by decide +kernel))
    · exact va_eqt (hs (.eq (.elem (.static "Diffractory" "LEAST_NUMBER" "[I") (.int 8)) (.int 0)) (by decide +kernel))
    · exact va_eqt (hs (.eq (.elem (.static "Diffractory" "LEAST_NUMBER" "[I") (.int 9)) (.int 0)) (by decide +kernel))
    · exact va_eqt (hs (.eq (.elem (.static "Diffractory" "LEAST_NUMBER" "[I") (.int 10)) (.int 0)) (by decide +kernel))) hA
  have hz0 := va_Zref (hts (.laysStatic "Diffractory" "LEAST_NUMBER" "[I") (by decide +kernel)) (hts (.initialized "Diffractory") (by decide +kernel)) hv0 hA
  obtain ⟨ta1, hv1, hT1⟩ := va_Tof (tm := (.static "Diffractory" "MOST_NUMBER" "[I")) (ty := .int) (N := 11) (f := ax_tab1) (A := A) (by decide) (hs (.arrayOf (.static "Diffractory" "MOST_NUMBER" "[I") .int) (by decide +kernel)) (va_eqt (hs (.eq (.length (.static "Diffractory" "MOST_NUMBER" "[I")) (.int 11)) (by decide +kernel))) (fun j hj => by
    rcases (show j = 0 ∨ j = 1 ∨ j = 2 ∨ j = 3 ∨ j = 4 ∨ j = 5 ∨ j = 6 ∨ j = 7 ∨ j = 8 ∨ j = 9 ∨ j = 10 by omega) with rfl | rfl | rfl | rfl | rfl | rfl | rfl | rfl | rfl | rfl | rfl
    · exact va_eqt (hs (.eq (.elem (.static "Diffractory" "MOST_NUMBER" "[I") (.int 0)) (.int 255)) (by decide +kernel))
    · exact va_eqt (hs (.eq (.elem (.static "Diffractory" "MOST_NUMBER" "[I") (.int 1)) (.int 16777215)) (by decide +kernel))
    · exact va_eqt (hs (.eq (.elem (.static "Diffractory" "MOST_NUMBER" "[I") (.int 2)) (.int 0)) (by decide +kernel))
    · exact va_eqt (hs (.eq (.elem (.static "Diffractory" "MOST_NUMBER" "[I") (.int 3)) (.int 0)) (by decide +kernel))
    · exact va_eqt (hs (.eq (.elem (.static "Diffractory" "MOST_NUMBER" "[I") (.int 4)) (.int 7)) (by decide +kernel))
    · exact va_eqt (hs (.eq (.elem (.static "Diffractory" "MOST_NUMBER" "[I") (.int 5)) (.int 0)) (by decide +kernel))
    · exact va_eqt (hs (.eq (.elem (.static "Diffractory" "MOST_NUMBER" "[I") (.int 6)) (.int 3)) (by decide +kernel))
    · exact va_eqt (hs (.eq (.elem (.static "Diffractory" "MOST_NUMBER" "[I") (.int 7)) (.int 0)) (by decide +kernel))
    · exact va_eqt (hs (.eq (.elem (.static "Diffractory" "MOST_NUMBER" "[I") (.int 8)) (.int 7)) (by decide +kernel))
    · exact va_eqt (hs (.eq (.elem (.static "Diffractory" "MOST_NUMBER" "[I") (.int 9)) (.int 0)) (by decide +kernel))
    · exact va_eqt (hs (.eq (.elem (.static "Diffractory" "MOST_NUMBER" "[I") (.int 10)) (.int 3)) (by decide +kernel))) hA
  have hz1 := va_Zref (hts (.laysStatic "Diffractory" "MOST_NUMBER" "[I") (by decide +kernel)) (hts (.initialized "Diffractory") (by decide +kernel)) hv1 hA
  obtain ⟨ta2, hv2, hT2⟩ := va_Tof (tm := (.static "DiffractoryModel" "LEAST" "[I")) (ty := .int) (N := 11) (f := ax_tab0) (A := A) (by decide) (hs (.arrayOf (.static "DiffractoryModel" "LEAST" "[I") .int) (by decide +kernel)) (va_eqt (hs (.eq (.length (.static "DiffractoryModel" "LEAST" "[I")) (.int 11)) (by decide +kernel))) (fun j hj => by
    rcases (show j = 0 ∨ j = 1 ∨ j = 2 ∨ j = 3 ∨ j = 4 ∨ j = 5 ∨ j = 6 ∨ j = 7 ∨ j = 8 ∨ j = 9 ∨ j = 10 by omega) with rfl | rfl | rfl | rfl | rfl | rfl | rfl | rfl | rfl | rfl | rfl
    · exact va_eqt (hs (.eq (.elem (.static "DiffractoryModel" "LEAST" "[I") (.int 0)) (.int 0)) (by decide +kernel))
    · exact va_eqt (hs (.eq (.elem (.static "DiffractoryModel" "LEAST" "[I") (.int 1)) (.int 0)) (by decide +kernel))
    · exact va_eqt (hs (.eq (.elem (.static "DiffractoryModel" "LEAST" "[I") (.int 2)) (.int 0)) (by decide +kernel))
    · exact va_eqt (hs (.eq (.elem (.static "DiffractoryModel" "LEAST" "[I") (.int 3)) (.int 0)) (by decide +kernel))
    · exact va_eqt (hs (.eq (.elem (.static "DiffractoryModel" "LEAST" "[I") (.int 4)) (.int 0)) (by decide +kernel))
    · exact va_eqt (hs (.eq (.elem (.static "DiffractoryModel" "LEAST" "[I") (.int 5)) (.int 0)) (by decide +kernel))
    · exact va_eqt (hs (.eq (.elem (.static "DiffractoryModel" "LEAST" "[I") (.int 6)) (.int 1)) (by decide +kernel))
    · exact va_eqt (hs (.eq (.elem (.static "DiffractoryModel" "LEAST" "[I") (.int 7)) (.int 0)) (by decide +kernel))
    · exact va_eqt (hs (.eq (.elem (.static "DiffractoryModel" "LEAST" "[I") (.int 8)) (.int 0)) (by decide +kernel))
    · exact va_eqt (hs (.eq (.elem (.static "DiffractoryModel" "LEAST" "[I") (.int 9)) (.int 0)) (by decide +kernel))
    · exact va_eqt (hs (.eq (.elem (.static "DiffractoryModel" "LEAST" "[I") (.int 10)) (.int 0)) (by decide +kernel))) hA
  have hz2 := va_Zref (hts (.laysStatic "DiffractoryModel" "LEAST" "[I") (by decide +kernel)) (hts (.initialized "DiffractoryModel") (by decide +kernel)) hv2 hA
  obtain ⟨ta3, hv3, hT3⟩ := va_Tof (tm := (.static "DiffractoryModel" "MOST" "[I")) (ty := .int) (N := 11) (f := ax_tab1) (A := A) (by decide) (hs (.arrayOf (.static "DiffractoryModel" "MOST" "[I") .int) (by decide +kernel)) (va_eqt (hs (.eq (.length (.static "DiffractoryModel" "MOST" "[I")) (.int 11)) (by decide +kernel))) (fun j hj => by
    rcases (show j = 0 ∨ j = 1 ∨ j = 2 ∨ j = 3 ∨ j = 4 ∨ j = 5 ∨ j = 6 ∨ j = 7 ∨ j = 8 ∨ j = 9 ∨ j = 10 by omega) with rfl | rfl | rfl | rfl | rfl | rfl | rfl | rfl | rfl | rfl | rfl
    · exact va_eqt (hs (.eq (.elem (.static "DiffractoryModel" "MOST" "[I") (.int 0)) (.int 255)) (by decide +kernel))
    · exact va_eqt (hs (.eq (.elem (.static "DiffractoryModel" "MOST" "[I") (.int 1)) (.int 16777215)) (by decide +kernel))
    · exact va_eqt (hs (.eq (.elem (.static "DiffractoryModel" "MOST" "[I") (.int 2)) (.int 0)) (by decide +kernel))
    · exact va_eqt (hs (.eq (.elem (.static "DiffractoryModel" "MOST" "[I") (.int 3)) (.int 0)) (by decide +kernel))
    · exact va_eqt (hs (.eq (.elem (.static "DiffractoryModel" "MOST" "[I") (.int 4)) (.int 7)) (by decide +kernel))
    · exact va_eqt (hs (.eq (.elem (.static "DiffractoryModel" "MOST" "[I") (.int 5)) (.int 0)) (by decide +kernel))
    · exact va_eqt (hs (.eq (.elem (.static "DiffractoryModel" "MOST" "[I") (.int 6)) (.int 3)) (by decide +kernel))
    · exact va_eqt (hs (.eq (.elem (.static "DiffractoryModel" "MOST" "[I") (.int 7)) (.int 0)) (by decide +kernel))
    · exact va_eqt (hs (.eq (.elem (.static "DiffractoryModel" "MOST" "[I") (.int 8)) (.int 7)) (by decide +kernel))
    · exact va_eqt (hs (.eq (.elem (.static "DiffractoryModel" "MOST" "[I") (.int 9)) (.int 0)) (by decide +kernel))
    · exact va_eqt (hs (.eq (.elem (.static "DiffractoryModel" "MOST" "[I") (.int 10)) (.int 3)) (by decide +kernel))) hA
  have hz3 := va_Zref (hts (.laysStatic "DiffractoryModel" "MOST" "[I") (by decide +kernel)) (hts (.initialized "DiffractoryModel") (by decide +kernel)) hv3 hA
  obtain ⟨ta4, hv4, hT4⟩ := va_Tof (tm := (.static "java/util/ArrayList" "DEFAULTCAPACITY_EMPTY_ELEMENTDATA" "[Ljava/lang/Object;")) (ty := .object "java/lang/Object") (N := 0) (f := fun _ => .null) (A := A) (by decide) (hs (.arrayOf (.static "java/util/ArrayList" "DEFAULTCAPACITY_EMPTY_ELEMENTDATA" "[Ljava/lang/Object;") (.object "java/lang/Object")) (by decide +kernel)) (va_eqt (hs (.eq (.length (.static "java/util/ArrayList" "DEFAULTCAPACITY_EMPTY_ELEMENTDATA" "[Ljava/lang/Object;")) (.int 0)) (by decide +kernel))) (fun j hj => absurd hj (Nat.not_lt_zero j)) hA
  have hz4 := va_Zref (hts (.laysStatic "java/util/ArrayList" "DEFAULTCAPACITY_EMPTY_ELEMENTDATA" "[Ljava/lang/Object;") (by decide +kernel)) (hts (.initialized "java/util/ArrayList") (by decide +kernel)) hv4 hA
  have hnz := va_Zof (hts (.laysStatic "java/lang/Math" "negativeZeroDoubleBits" "J") (by decide +kernel)) (hts (.initialized "java/lang/Math") (by decide +kernel)) (va_eql (hs (.eq (.static "java/lang/Math" "negativeZeroDoubleBits" "J") (.long (-9223372036854775808))) (by decide +kernel))) hA
  have hzU := vx_Zqof (hts (.laysStatic Bundle.tN "UNASSIGNED_STACK" Bundle.steD) (by decide +kernel)) (hts (.initialized Bundle.tN) (by decide +kernel)) (hs (.isRef (.static Bundle.tN "UNASSIGNED_STACK" Bundle.steD)) (by decide +kernel)) hA
  have hzN := vx_Zqof (hts (.laysStatic Bundle.tN "SUPPRESSED_SENTINEL" Bundle.listD) (by decide +kernel)) (hts (.initialized Bundle.tN) (by decide +kernel)) (hs (.isRef (.static Bundle.tN "SUPPRESSED_SENTINEL" Bundle.listD)) (by decide +kernel)) hA
  refine ⟨fun k => match k with | 0 => sa61 | 1 => sa79 | 2 => sa91 | 3 => sa133 | 4 => sa202 | 5 => sa262 | _ => sa264, fun k => match k with | 0 => ta0 | 1 => ta1 | 2 => ta2 | 3 => ta3 | _ => ta4, ?_, ?_, ?_, ?_, ?_, ?_, ?_, ?_, ?_, ?_, ?_, ?_, ?_, ?_, ?_, ?_, ?_, ?_, ?_, ?_, ?_, ?_, ?_, ?_, ?_, ?_, ?_, ?_, ?_, ?_, ?_, ?_, ?_, ?_⟩
  · exact hR hr61 he61
  · exact hR hr79 he79
  · exact hR hr91 he91
  · exact hR hr133 he133
  · exact hR hr202 he202
  · exact hR hr262 he262
  · exact hR hr264 he264
  · exact va_Nw.of rfl (hts (.methodLinkNest RX4 23 yX0_init RX4) (by decide +kernel))
  · exact va_Nw.of rfl (hts (.methodLinkNest RX4 30 yX2_init RX4) (by decide +kernel))
  · exact va_Nw.of rfl (hts (.methodLinkNest RX7 138 yX6_init RX7) (by decide +kernel))
  · exact va_Nw.of rfl (hts (.castable "java/lang/IllegalArgumentException" "java/lang/IllegalArgumentException") (by decide +kernel))
  · exact va_Nw.of rfl (hts (.castable "java/lang/IllegalStateException" "java/lang/IllegalStateException") (by decide +kernel))
  · exact va_Nw.of rfl (hts (.castable "java/lang/IndexOutOfBoundsException" "java/lang/IndexOutOfBoundsException") (by decide +kernel))
  · exact va_Nw.of rfl (hts (.castable "DiffractoryModel$Source" "java/lang/Object") (by decide +kernel))
  · exact va_Nw.of rfl (hts (.castable "DiffractoryModel$Part" "java/lang/Object") (by decide +kernel))
  · exact va_Nw.of rfl (hts (.declares (Bundle.initS "java/lang/RuntimeException")) (by decide +kernel))
  · exact va_Nw.of rfl (hts (.declares (Bundle.initS "java/lang/Exception")) (by decide +kernel))
  · exact va_Nw.of rfl (hts (.declares (Bundle.initS Bundle.tN)) (by decide +kernel))
  · exact hzU
  · exact hzN
  · exact hz0
  · exact hT0
  · exact hz1
  · exact hT1
  · exact hz2
  · exact hT2
  · exact hz3
  · exact hT3
  · exact hz4
  · exact hT4
  · exact hnz
  · exact va_AO.of (hts (.arrayOver (.object "Diffractory$Source")) (by decide +kernel))
  · exact va_AO.of (hts (.arrayOver (.object "Diffractory$Part")) (by decide +kernel))
  · exact va_AO.of (hts (.arrayOver (.object "java/lang/Object")) (by decide +kernel))
