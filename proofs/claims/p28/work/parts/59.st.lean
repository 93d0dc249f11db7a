set_option maxHeartbeats 4000000 in
set_option maxRecDepth 100000 in
theorem ax_S_start {s : State} {args : Array Value} {A : Nat → Prop} (hts : ∀ w ∈ lw_tbl, w.before args s = true) (hgv : (Jvm.Cond.and given_1 narrow_1).before args s = true) (hA : ∀ a : Nat, a < s.heap.size → ¬ A a) : ∃ ta : Nat → Nat, ax_S ta A s s.heap := by
  have hs := flat_of_before _ hgv
  obtain ⟨ta0, hv0, hT0⟩ := va_Tof (tm := (.static "Diffractory" "LEAST_NUMBER" "[I")) (ty := .int) (N := 11) (f := ax_tab0) (A := A) (by decide) (hs (.arrayOf (.static "Diffractory" "LEAST_NUMBER" "[I") .int) (by decide +kernel)) (va_eqt (hs (.eq (.length (.static "Diffractory" "LEAST_NUMBER" "[I")) (.int 11)) (by decide +kernel))) (fun j hj => by
    rcases (show j = 0 ∨ j = 1 ∨ j = 2 ∨ j = 3 ∨ j = 4 ∨ j = 5 ∨ j = 6 ∨ j = 7 ∨ j = 8 ∨ j = 9 ∨ j = 10 by omega) with rfl | rfl | rfl | rfl | rfl | rfl | rfl | rfl | rfl | rfl | rfl
    · exact va_eqt (hs (.eq (.elem (.static "Diffractory" "LEAST_NUMBER" "[I") (.int 0)) (.int 0)) (by decide +kernel))
    · exact va_eqt (hs (.eq (.elem (.static "Diffractory" "LEAST_NUMBER" "[I") (.int 1)) (.int 0)) (by decide +kernel))
    · exact va_eqt (hs (.eq (.elem (.static "Diffractory" "LEAST_NUMBER" "[I") (.int 2)) (.int 0)) (by decide +kernel))
    · exact va_eqt (hs (.eq (.elem (.static "Diffractory" "LEAST_NUMBER" "[I") (.int 3)) (.int 0)) (by decide +kernel))
    · exact va_eqt (hs (.eq (.elem (.static "Diffractory" "LEAST_NUMBER" "[I") (.int 4)) (.int 0)) (by decide +kernel))
    · exact va_eqt (hs (.eq (.elem (.static "Diffractory" "LEAST_NUMBER" "[I") (.int 5)) (.int 0)) (by decide +kernel))
    · exact va_eqt (hs (.eq (.elem (.static "Diffractory" "LEAST_NUMBER" "[I") (.int 6)) (.int 1)) (by decide +kernel))
    · exact va_eqt (hs (.eq (.elem (.static "Diffractory" "LEAST_NUMBER" "[I") (.int 7)) (.int 0)) (by decide +kernel))
    · exact va_eqt (hs (.eq (.elem (.static "Diffractory" "LEAST_NUMBER" "[I") (.int 8)) (.int 0)) (by decide +kernel))
    · exact va_eqt (hs (.eq (.elem (.static "Diffractory" "LEAST_NUMBER" "[I") (.int 9)) (.int 0)) (by decide +kernel))
    · exact va_eqt (hs (.eq (.elem (.static "Diffractory" "LEAST_NUMBER" "[I") (.int 10)) (.int 0)) (by decide +kernel))) hA
  have hz0 := va_Zref (hts (.laysStatic "Diffractory" "LEAST_NUMBER" "[I") (by decide +kernel)) (hts (.initialized "Diffractory") (by decide +kernel)) hv0 hA
  obtain ⟨ta1, hv1, hT1⟩ := va_Tof (tm := (.static "Diffractory" "MOST_NUMBER" "[I")) (ty := .int) (N := 11) (f := ax_tab1) (A := A) (by decide) (hs (.arrayOf (.static "Diffractory" "MOST_NUMBER" "[I") .int) (by decide +kernel)) (va_eqt (hs (.eq (.length (.static "Diffractory" "MOST_NUMBER" "[I")) (.int 11)) (by decide +kernel))) (fun j hj => by
    rcases (show j = 0 ∨ j = 1 ∨ j = 2 ∨ j = 3 ∨ j = 4 ∨ j = 5 ∨ j = 6 ∨ j = 7 ∨ j = 8 ∨ j = 9 ∨ j = 10 by omega) with rfl | rfl | rfl | rfl | rfl | rfl | rfl | rfl | rfl | rfl | rfl
    · exact va_eqt (hs (.eq (.elem (.static "Diffractory" "MOST_NUMBER" "[I") (.int 0)) (.int 255)) (by decide +kernel))
    · exact va_eqt (hs (.eq (.elem (.static "Diffractory" "MOST_NUMBER" "[I") (.int 1)) (.int 16777215)) (by decide +kernel))
    · exact va_eqt (hs (.eq (.elem (.static "Diffractory" "MOST_NUMBER" "[I") (.int 2)) (.int 0)) (by decide +kernel))
    · exact va_eqt (hs (.eq (.elem (.static "Diffractory" "MOST_NUMBER" "[I") (.int 3)) (.int 0)) (by decide +kernel))
    · exact va_eqt (hs (.eq (.elem (.static "Diffractory" "MOST_NUMBER" "[I") (.int 4)) (.int 7)) (by decide +kernel))
    · exact va_eqt (hs (.eq (.elem (.static "Diffractory" "MOST_NUMBER" "[I") (.int 5)) (.int 0)) (by decide +kernel))
    · exact va_eqt (hs (.eq (.elem (.static "Diffractory" "MOST_NUMBER" "[I") (.int 6)) (.int 3)) (by decide +kernel))
    · exact va_eqt (hs (.eq (.elem (.static "Diffractory" "MOST_NUMBER" "[I") (.int 7)) (.int 0)) (by decide +kernel))
    · exact va_eqt (hs (.eq (.elem (.static "Diffractory" "MOST_NUMBER" "[I") (.int 8)) (.int 7)) (by decide +kernel))
    · exact va_eqt (hs (.eq (.elem (.static "Diffractory" "MOST_NUMBER" "[I") (.int 9)) (.int 0)) (by decide +kernel))
    · exact va_eqt (hs (.eq (.elem (.static "Diffractory" "MOST_NUMBER" "[I") (.int 10)) (.int 3)) (by decide +kernel))) hA
  have hz1 := va_Zref (hts (.laysStatic "Diffractory" "MOST_NUMBER" "[I") (by decide +kernel)) (hts (.initialized "Diffractory") (by decide +kernel)) hv1 hA
  refine ⟨fun k => match k with | 0 => ta0 | _ => ta1, ?_, ?_, ?_, ?_, ?_, ?_, ?_, ?_⟩
  · exact va_Nw.of rfl (hts (.methodLinkNest RX4 23 yX0_init RX4) (by decide +kernel))
  · exact va_Nw.of rfl (hts (.methodLinkNest RX4 30 yX2_init RX4) (by decide +kernel))
  · exact hz0
  · exact hT0
  · exact hz1
  · exact hT1
  · exact va_AO.of (hts (.arrayOver (.object "Diffractory$Source")) (by decide +kernel))
  · exact va_AO.of (hts (.arrayOver (.object "Diffractory$Part")) (by decide +kernel))
