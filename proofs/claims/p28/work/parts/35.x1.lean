theorem ax_hi24 {k n : Nat} (h : n ≤ hiN k) : n < 16777216 := by
  have : hiN k < 16777216 := by
    unfold hiN
    rcases (show k = 0 ∨ k = 1 ∨ k = 2 ∨ k = 3 ∨ k = 4 ∨ k = 5 ∨ k = 6 ∨ k = 7 ∨ k = 8 ∨ k = 9 ∨ k = 10 ∨ 11 ≤ k by omega) with h | h | h | h | h | h | h | h | h | h | h | h
    iterate 11 (subst h; decide)
    rw [List.getD_eq_getElem?_getD, List.getElem?_eq_none (by simpa using h)]
    decide
  omega
def smX (x : Nat → Nat) : Nat → Nat
  | 0 => 0
  | n + 1 => smX x n + x n
theorem ax_smX {x : Nat → Nat} (h : ∀ j, j < 8 → x j ≤ 9) : ∀ n, n ≤ 8 → smX x n ≤ 9 * n
  | 0, _ => Nat.le_refl _
  | n + 1, hn => by
    have h1 := ax_smX h n (by omega)
    have h2 := h n (by omega)
    show smX x n + x n ≤ _
    omega
/-- can a part be undone -/
abbrev cbu (q : PT) : Prop := q.2.2.2.1 = 0 ∧ q.1 ≠ 10 ∧ (q.1 = 0 → q.2.1 = 255) ∧ (q.1 ≠ 0 → ∀ j, j < 8 → q.2.2.2.2.2 j ≠ 9)
abbrev cbt (q : PT) : Prop := q.1 = 4 ∨ q.1 = 6 ∨ q.1 = 8 ∨ q.1 = 10
/-- by how much power grows at most -/
def lfn (q : PT) : Nat := if q.1 = 2 ∨ q.1 = 3 then 8 else if q.1 = 6 then q.2.1 * q.2.1 else if q.1 = 7 then 81 else if q.1 = 10 ∧ 2 ≤ q.2.1 then 4 else 1

set_option maxHeartbeats 4000000 in
set_option maxRecDepth 100000 in
theorem c_X1_sumOfExposures (l : Launch) (dC : Nat → ClassId) (dI : Nat → Nat → Nat) (cI : ClassId) (ta : Nat → Nat) (L : List Nat) (f : Nat → va_E) (a : Nat) (e9 : Nat) (q : PT) (ha : a ∈ L) (he : e9 ∈ L) (hfa : f a = .inr (1, pfs q e9)) (hfe : f e9 = .inl (cI, 8, .inl (nIf q.2.2.2.2.2))) (hok : okP q) : Met l yX1_sumOfExposures wsX1_sumOfExposures ({ frames := 0, cells := 0, slots := 0, locals := 0 }) (va_Pc [.ref a] (ax_R (dC, dI) vwCl ([] ++ va_pl L f) [(cI, .int)] ta)) (va_Qi (fun (r : Int32) (u9 : Unit) => r = (nI (smX q.2.2.2.2.2 8))) (fun _ _ => True) ax_no) 0 0 ax_no := by
  refine Met.ofW (cc := cX1_sumOfExposures) (maxL := 3) (ret := (some .int)) (by decide) rfl ?_
  intro p e s m args below meth c s₁ B hml hv
  obtain ⟨rfl, hP, hK, hE⟩ := hv
  have hx := B.exec
  have hb := B.bytes
  have hr := B.returns
  have hts := atoms_spec (ws := wsX1_sumOfExposures) B.pre
  have hown : s.vm.findClass RX1 = some m.cls := findClass_of_methodNamed B.named
  have hlocks := B.notSynchronized
  have hS : va_S ax_no s.heap s.heap [] := va_S.rf
  have hl := lv_entry ([.ref a]) (n := 3) (Nat.le_of_ble_eq_true rfl)
  rw [lg_entry_eq]
  generalize (lg_sl ([.ref a]) ++ List.replicate (3 - (lg_sl ([.ref a])).length) Slot.unset).toArray = ls at hl ⊢
  have hl : lv_has ls 3 [(0, .ref a)] := hl
  have hP : va_P (dC, dI) vwCl ([] ++ va_pl L f) s.heap := hP
  obtain ⟨hk11, hlo9, hhi9, hin2, hdi9, hti9, hex9, hexz⟩ := hok
  have hn24 := ax_hi24 hhi9
  refine lv_iconst (v := 0) hx hb dX1_sumOfExposures_0 (by decide) ?_
  refine lv_istore_n (lv' := [(1, .int 0), (0, .ref a)]) hx hb dX1_sumOfExposures_1 rfl hl (by decide) rfl (fun ls hl => ?_)
  refine lv_iconst (v := 0) hx hb dX1_sumOfExposures_2 (by decide) ?_
  refine lv_istore_n (lv' := [(2, .int 0), (1, .int 0), (0, .ref a)]) hx hb dX1_sumOfExposures_3 rfl hl (by decide) rfl (fun ls hl => ?_)
  refine ax_loop (σ := Nat × Nat) (fun z9 H locs ls => (z9.1 ≤ 8) ∧ (z9.2 = smX q.2.2.2.2.2 z9.1) ∧ lv_has ls 3 [(2, .int (nI z9.1)), (1, .int (nI z9.2)), (0, .ref a)] ∧ va_P (dC, dI) vwCl ([] ++ va_pl L f) H ∧ va_S ax_no s.heap H locs) (fun z9 => 8 - z9.1) (fun z9 H locs ls hI ih => ?_) (0, 0) ⟨by omega, rfl, hl, hP, hS⟩
  obtain ⟨i, sm⟩ := z9
  obtain ⟨hi1, hsm, hl, hP, hS⟩ := hI
  have hi1 : i ≤ 8 := hi1
  have hsm : sm = smX q.2.2.2.2.2 i := hsm
  have hl : lv_has ls 3 [(2, .int (nI i)), (1, .int (nI sm)), (0, .ref a)] := hl
  have hP : va_P (dC, dI) vwCl ([] ++ va_pl L f) H := hP
  have ih_1 := ih; clear ih
  refine lv_iload_n hx hb dX1_sumOfExposures_4 rfl (lv_at hl 0 rfl) ?_
  refine lv_bipush (v := 8) hx hb dX1_sumOfExposures_5 (by decide) ?_
  refine lv_icmp_ge (tgt := 25) hx hb dX1_sumOfExposures_7 (by decide) (fun c_2 => ?_) (fun c_2 => ?_)
  · have c_2 : ¬ i < 8 := ax_fgeTN (by omega) (by omega) c_2
    refine lv_iload_n hx hb dX1_sumOfExposures_25 rfl (lv_at hl 1 rfl) ?_
    refine W.widen (k := 0) (n := 0) (Nat.le_of_ble_eq_true rfl) (Nat.le_of_ble_eq_true rfl) ?_
    exact W.iret (v := (nI sm)) hx hb hr (fun t8 ht hW => ⟨⟨(nI sm), (), rfl, by rw [hsm, show i = 8 by omega], trivial⟩, hS.F ht⟩) hS.2.2 dX1_sumOfExposures_26
  · have c_2 : i < 8 := ax_fgeFN (by omega) (by omega) c_2
    have hs9 := ax_smX hex9 i (by omega)
    refine lv_iload_n hx hb dX1_sumOfExposures_10 rfl (lv_at hl 1 rfl) ?_
    refine lv_aload_n hx hb dX1_sumOfExposures_11 rfl (lv_at hl 2 rfl) ?_
    obtain ⟨k_3, hk_4⟩ := ax_pg (X := []) (f := f) ha hfa
    refine va_get (D := (dC, dI)) (ci := 1) (v := .ref e9) (C := RX1) (T := TX1) (N := 6) hx hb hts (by decide +kernel) hown hK hP k_3 hk_4 rfl 5 (by decide) (hts (.fieldLink RX1 22 "Diffractory$Part" "exposures" "[I") (by decide +kernel)) (fun _ h9 => h9) rfl dX1_sumOfExposures_12 ?_
    refine lv_iload_n hx hb dX1_sumOfExposures_15 rfl (lv_at hl 0 rfl) ?_
    obtain ⟨k_5, hk_6⟩ := ax_pg (X := []) (f := f) he hfe
    refine va_iald hx hb hK hP k_5 0 hk_6 rfl (ax_in (by omega) (by omega)) dX1_sumOfExposures_16 ?_
    refine ax_i (y := (nI (q.2.2.2.2.2 i))) (by rw [nI_clamp (n := i) (by omega)]; rfl) ?_
    refine lv_iadd hx hb dX1_sumOfExposures_17 ?_
    refine ax_i (y := (nI (sm + (q.2.2.2.2.2 i)))) (ax_addN sm (q.2.2.2.2.2 i)) ?_
    refine lv_istore_n (lv' := [(1, .int (nI (sm + (q.2.2.2.2.2 i)))), (2, .int (nI i)), (0, .ref a)]) hx hb dX1_sumOfExposures_18 rfl hl (by decide) rfl (fun ls hl => ?_)
    refine lv_iinc (v := (nI (i + 1))) (lv' := [(2, .int (nI (i + 1))), (1, .int (nI (sm + (q.2.2.2.2.2 i)))), (0, .ref a)]) hx hb dX1_sumOfExposures_19 hl (k := 1) rfl (nI_succ _).symm (by decide) rfl (fun ls hl => ?_)
    refine lv_goto (tgt := 4) hx hb dX1_sumOfExposures_22 (by decide) ?_
    exact ih_1 (i + 1, sm + (q.2.2.2.2.2 i)) H locs ls ⟨by omega, by rw [hsm]; rfl, hl, hP, hS⟩ (show 8 - (i + 1) < 8 - i by omega)

set_option maxHeartbeats 4000000 in
set_option maxRecDepth 100000 in
theorem c_X1_canBeUndone (l : Launch) (dC : Nat → ClassId) (dI : Nat → Nat → Nat) (cI : ClassId) (ta : Nat → Nat) (L : List Nat) (f : Nat → va_E) (a : Nat) (e9 : Nat) (q : PT) (ha : a ∈ L) (he : e9 ∈ L) (hfa : f a = .inr (1, pfs q e9)) (hfe : f e9 = .inl (cI, 8, .inl (nIf q.2.2.2.2.2))) (hok : okP q) : Met l yX1_canBeUndone wsX1_canBeUndone ({ frames := 0, cells := 0, slots := 0, locals := 0 }) (va_Pc [.ref a] (ax_R (dC, dI) vwCl ([] ++ va_pl L f) [(cI, .int)] ta)) (va_Qi (fun (r : Int32) (u9 : Unit) => ax_bo r (cbu q)) (fun _ _ => True) ax_no) 0 0 ax_no := by
  refine Met.ofW (cc := cX1_canBeUndone) (maxL := 2) (ret := (some .boolean)) (by decide) rfl ?_
  intro p e s m args below meth c s₁ B hml hv
  obtain ⟨rfl, hP, hK, hE⟩ := hv
  have hx := B.exec
  have hb := B.bytes
  have hr := B.returns
  have hts := atoms_spec (ws := wsX1_canBeUndone) B.pre
  have hown : s.vm.findClass RX1 = some m.cls := findClass_of_methodNamed B.named
  have hlocks := B.notSynchronized
  have hS : va_S ax_no s.heap s.heap [] := va_S.rf
  have hl := lv_entry ([.ref a]) (n := 2) (Nat.le_of_ble_eq_true rfl)
  rw [lg_entry_eq]
  generalize (lg_sl ([.ref a]) ++ List.replicate (2 - (lg_sl ([.ref a])).length) Slot.unset).toArray = ls at hl ⊢
  have hl : lv_has ls 2 [(0, .ref a)] := hl
  have hP : va_P (dC, dI) vwCl ([] ++ va_pl L f) s.heap := hP
  obtain ⟨hk11, hlo9, hhi9, hin2, hdi9, hti9, hex9, hexz⟩ := hok
  have hn24 := ax_hi24 hhi9
  refine lv_aload_n hx hb dX1_canBeUndone_0 rfl (lv_at hl 0 rfl) ?_
  obtain ⟨k_1, hk_2⟩ := ax_pg (X := []) (f := f) ha hfa
  refine va_get (D := (dC, dI)) (ci := 1) (v := .int (nI q.2.2.2.1)) (C := RX1) (T := TX1) (N := 6) hx hb hts (by decide +kernel) hown hK hP k_1 hk_2 rfl 3 (by decide) (hts (.fieldLink RX1 15 "Diffractory$Part" "dirtyPlaces" "I") (by decide +kernel)) (fun _ h9 => h9) rfl dX1_canBeUndone_1 ?_
  refine lv_if_ne (tgt := 16) hx hb dX1_canBeUndone_4 (by decide) (fun c_3 => ?_) (fun c_3 => ?_)
  · have c_3 : ¬ q.2.2.2.1 = 0 := ax_fneTN (by omega) (by omega) c_3
    refine lv_iconst (v := 0) hx hb dX1_canBeUndone_16 (by decide) ?_
    refine W.widen (k := 0) (n := 0) (Nat.le_of_ble_eq_true rfl) (Nat.le_of_ble_eq_true rfl) ?_
    exact W.zret (v := 0) (ty := .boolean) hx hb hr (by decide +kernel) (fun t8 ht hW => ⟨⟨0, (), rfl, Or.inr ⟨rfl, fun q9 => c_3 q9.1⟩, trivial⟩, hS.F ht⟩) hS.2.2 dX1_canBeUndone_17
  · have c_3 : q.2.2.2.1 = 0 := ax_fneFN (by omega) (by omega) c_3
    refine lv_aload_n hx hb dX1_canBeUndone_7 rfl (lv_at hl 0 rfl) ?_
    obtain ⟨k_4, hk_5⟩ := ax_pg (X := []) (f := f) ha hfa
    refine va_get (D := (dC, dI)) (ci := 1) (v := .int (nI q.1)) (C := RX1) (T := TX1) (N := 6) hx hb hts (by decide +kernel) hown hK hP k_4 hk_5 rfl 0 (by decide) (hts (.fieldLink RX1 26 "Diffractory$Part" "kind" "I") (by decide +kernel)) (fun _ h9 => h9) rfl dX1_canBeUndone_8 ?_
    refine lv_bipush (v := 10) hx hb dX1_canBeUndone_11 (by decide) ?_
    refine lv_icmp_ne (tgt := 18) hx hb dX1_canBeUndone_13 (by decide) (fun c_6 => ?_) (fun c_6 => ?_)
    · have c_6 : ¬ q.1 = 10 := ax_fneTN (by omega) (by omega) c_6
      refine lv_aload_n hx hb dX1_canBeUndone_18 rfl (lv_at hl 0 rfl) ?_
      obtain ⟨k_7, hk_8⟩ := ax_pg (X := []) (f := f) ha hfa
      refine va_get (D := (dC, dI)) (ci := 1) (v := .int (nI q.1)) (C := RX1) (T := TX1) (N := 6) hx hb hts (by decide +kernel) hown hK hP k_7 hk_8 rfl 0 (by decide) (hts (.fieldLink RX1 26 "Diffractory$Part" "kind" "I") (by decide +kernel)) (fun _ h9 => h9) rfl dX1_canBeUndone_19 ?_
      refine lv_if_ne (tgt := 41) hx hb dX1_canBeUndone_22 (by decide) (fun c_9 => ?_) (fun c_9 => ?_)
      · have c_9 : ¬ q.1 = 0 := ax_fneTN (by omega) (by omega) c_9
        refine lv_iconst (v := 0) hx hb dX1_canBeUndone_41 (by decide) ?_
        refine lv_istore_n (lv' := [(1, .int 0), (0, .ref a)]) hx hb dX1_canBeUndone_42 rfl hl (by decide) rfl (fun ls hl => ?_)
        refine ax_loop (σ := Nat) (fun z9 H locs ls => (z9 ≤ 8) ∧ (∀ j, j < z9 → q.2.2.2.2.2 j ≠ 9) ∧ lv_has ls 2 [(1, .int (nI z9)), (0, .ref a)] ∧ va_P (dC, dI) vwCl ([] ++ va_pl L f) H ∧ va_S ax_no s.heap H locs) (fun z9 => 8 - z9) (fun k H locs ls hI ih => ?_) 0 ⟨by omega, fun j hj => absurd hj (by omega), hl, hP, hS⟩
        obtain ⟨hk1, hal, hl, hP, hS⟩ := hI
        have hk1 : k ≤ 8 := hk1
        have hal : ∀ j, j < k → q.2.2.2.2.2 j ≠ 9 := hal
        have hl : lv_has ls 2 [(1, .int (nI k)), (0, .ref a)] := hl
        have hP : va_P (dC, dI) vwCl ([] ++ va_pl L f) H := hP
        have ih_10 := ih; clear ih
        refine lv_iload_n hx hb dX1_canBeUndone_43 rfl (lv_at hl 0 rfl) ?_
        refine lv_bipush (v := 8) hx hb dX1_canBeUndone_44 (by decide) ?_
        refine lv_icmp_ge (tgt := 68) hx hb dX1_canBeUndone_46 (by decide) (fun c_11 => ?_) (fun c_11 => ?_)
        · have c_11 : ¬ k < 8 := ax_fgeTN (by omega) (by omega) c_11
          refine lv_iconst (v := 1) hx hb dX1_canBeUndone_68 (by decide) ?_
          refine W.widen (k := 0) (n := 0) (Nat.le_of_ble_eq_true rfl) (Nat.le_of_ble_eq_true rfl) ?_
          exact W.zret (v := 1) (ty := .boolean) hx hb hr (by decide +kernel) (fun t8 ht hW => ⟨⟨1, (), rfl, Or.inl ⟨rfl, by omega, by omega, fun q9 => absurd q9 c_9, fun _ j hj => hal j (by omega)⟩, trivial⟩, hS.F ht⟩) hS.2.2 dX1_canBeUndone_69
        · have c_11 : k < 8 := ax_fgeFN (by omega) (by omega) c_11
          have hx9k := hex9 k (by omega)
          refine lv_aload_n hx hb dX1_canBeUndone_49 rfl (lv_at hl 1 rfl) ?_
          obtain ⟨k_12, hk_13⟩ := ax_pg (X := []) (f := f) ha hfa
          refine va_get (D := (dC, dI)) (ci := 1) (v := .ref e9) (C := RX1) (T := TX1) (N := 6) hx hb hts (by decide +kernel) hown hK hP k_12 hk_13 rfl 5 (by decide) (hts (.fieldLink RX1 22 "Diffractory$Part" "exposures" "[I") (by decide +kernel)) (fun _ h9 => h9) rfl dX1_canBeUndone_50 ?_
          refine lv_iload_n hx hb dX1_canBeUndone_53 rfl (lv_at hl 0 rfl) ?_
          obtain ⟨k_14, hk_15⟩ := ax_pg (X := []) (f := f) he hfe
          refine va_iald hx hb hK hP k_14 0 hk_15 rfl (ax_in (by omega) (by omega)) dX1_canBeUndone_54 ?_
          refine ax_i (y := (nI (q.2.2.2.2.2 k))) (by rw [nI_clamp (n := k) (by omega)]; rfl) ?_
          refine lv_bipush (v := 9) hx hb dX1_canBeUndone_55 (by decide) ?_
          refine lv_icmp_ne (tgt := 62) hx hb dX1_canBeUndone_57 (by decide) (fun c_16 => ?_) (fun c_16 => ?_)
          · have c_16 : ¬ (q.2.2.2.2.2 k) = 9 := ax_fneTN (by omega) (by omega) c_16
            refine lv_iinc (v := (nI (k + 1))) (lv' := [(1, .int (nI (k + 1))), (0, .ref a)]) hx hb dX1_canBeUndone_62 hl (k := 0) rfl (nI_succ _).symm (by decide) rfl (fun ls hl => ?_)
            refine lv_goto (tgt := 43) hx hb dX1_canBeUndone_65 (by decide) ?_
            exact ih_10 (k + 1) H locs ls ⟨by omega, fun j hj => (Nat.lt_or_ge j k).elim (hal j) (fun q9 => by rw [show j = k by omega]; exact c_16), hl, hP, hS⟩ (show 8 - (k + 1) < 8 - k by omega)
          · have c_16 : (q.2.2.2.2.2 k) = 9 := ax_fneFN (by omega) (by omega) c_16
            refine lv_iconst (v := 0) hx hb dX1_canBeUndone_60 (by decide) ?_
            refine W.widen (k := 0) (n := 0) (Nat.le_of_ble_eq_true rfl) (Nat.le_of_ble_eq_true rfl) ?_
            exact W.zret (v := 0) (ty := .boolean) hx hb hr (by decide +kernel) (fun t8 ht hW => ⟨⟨0, (), rfl, Or.inr ⟨rfl, fun q9 => q9.2.2.2 c_9 k (by omega) c_16⟩, trivial⟩, hS.F ht⟩) hS.2.2 dX1_canBeUndone_61
      · have c_9 : q.1 = 0 := ax_fneFN (by omega) (by omega) c_9
        refine lv_aload_n hx hb dX1_canBeUndone_25 rfl (lv_at hl 0 rfl) ?_
        obtain ⟨k_17, hk_18⟩ := ax_pg (X := []) (f := f) ha hfa
        refine va_get (D := (dC, dI)) (ci := 1) (v := .int (nI q.2.1)) (C := RX1) (T := TX1) (N := 6) hx hb hts (by decide +kernel) hown hK hP k_17 hk_18 rfl 1 (by decide) (hts (.fieldLink RX1 29 "Diffractory$Part" "number" "I") (by decide +kernel)) (fun _ h9 => h9) rfl dX1_canBeUndone_26 ?_
        refine lv_sipush (v := 255) hx hb dX1_canBeUndone_29 (by decide) ?_
        refine lv_icmp_ne (tgt := 39) hx hb dX1_canBeUndone_32 (by decide) (fun c_19 => ?_) (fun c_19 => ?_)
        · have c_19 : ¬ q.2.1 = 255 := ax_fneTN (by omega) (by omega) c_19
          refine lv_iconst (v := 0) hx hb dX1_canBeUndone_39 (by decide) ?_
          refine W.widen (k := 0) (n := 0) (Nat.le_of_ble_eq_true rfl) (Nat.le_of_ble_eq_true rfl) ?_
          exact W.zret (v := 0) (ty := .boolean) hx hb hr (by decide +kernel) (fun t8 ht hW => ⟨⟨0, (), rfl, Or.inr ⟨rfl, fun q9 => c_19 (q9.2.2.1 c_9)⟩, trivial⟩, hS.F ht⟩) hS.2.2 dX1_canBeUndone_40
        · have c_19 : q.2.1 = 255 := ax_fneFN (by omega) (by omega) c_19
          refine lv_iconst (v := 1) hx hb dX1_canBeUndone_35 (by decide) ?_
          refine lv_goto (tgt := 40) hx hb dX1_canBeUndone_36 (by decide) ?_
          refine W.widen (k := 0) (n := 0) (Nat.le_of_ble_eq_true rfl) (Nat.le_of_ble_eq_true rfl) ?_
          exact W.zret (v := 1) (ty := .boolean) hx hb hr (by decide +kernel) (fun t8 ht hW => ⟨⟨1, (), rfl, Or.inl ⟨rfl, by omega, by omega, fun _ => by omega, fun q9 => absurd c_9 q9⟩, trivial⟩, hS.F ht⟩) hS.2.2 dX1_canBeUndone_40
    · have c_6 : q.1 = 10 := ax_fneFN (by omega) (by omega) c_6
      refine lv_iconst (v := 0) hx hb dX1_canBeUndone_16 (by decide) ?_
      refine W.widen (k := 0) (n := 0) (Nat.le_of_ble_eq_true rfl) (Nat.le_of_ble_eq_true rfl) ?_
      exact W.zret (v := 0) (ty := .boolean) hx hb hr (by decide +kernel) (fun t8 ht hW => ⟨⟨0, (), rfl, Or.inr ⟨rfl, fun q9 => q9.2.1 c_6⟩, trivial⟩, hS.F ht⟩) hS.2.2 dX1_canBeUndone_17

set_option maxHeartbeats 4000000 in
set_option maxRecDepth 100000 in
theorem c_X1_canBeTuned (l : Launch) (dC : Nat → ClassId) (dI : Nat → Nat → Nat) (cI : ClassId) (ta : Nat → Nat) (L : List Nat) (f : Nat → va_E) (a : Nat) (e9 : Nat) (q : PT) (ha : a ∈ L) (he : e9 ∈ L) (hfa : f a = .inr (1, pfs q e9)) (hfe : f e9 = .inl (cI, 8, .inl (nIf q.2.2.2.2.2))) (hok : okP q) : Met l yX1_canBeTuned wsX1_canBeTuned ({ frames := 0, cells := 0, slots := 0, locals := 0 }) (va_Pc [.ref a] (ax_R (dC, dI) vwCl ([] ++ va_pl L f) [(cI, .int)] ta)) (va_Qi (fun (r : Int32) (u9 : Unit) => ax_bo r (cbt q)) (fun _ _ => True) ax_no) 0 0 ax_no := by
  refine Met.ofW (cc := cX1_canBeTuned) (maxL := 1) (ret := (some .boolean)) (by decide) rfl ?_
  intro p e s m args below meth c s₁ B hml hv
  obtain ⟨rfl, hP, hK, hE⟩ := hv
  have hx := B.exec
  have hb := B.bytes
  have hr := B.returns
  have hts := atoms_spec (ws := wsX1_canBeTuned) B.pre
  have hown : s.vm.findClass RX1 = some m.cls := findClass_of_methodNamed B.named
  have hlocks := B.notSynchronized
  have hS : va_S ax_no s.heap s.heap [] := va_S.rf
  have hl := lv_entry ([.ref a]) (n := 1) (Nat.le_of_ble_eq_true rfl)
  rw [lg_entry_eq]
  generalize (lg_sl ([.ref a]) ++ List.replicate (1 - (lg_sl ([.ref a])).length) Slot.unset).toArray = ls at hl ⊢
  have hl : lv_has ls 1 [(0, .ref a)] := hl
  have hP : va_P (dC, dI) vwCl ([] ++ va_pl L f) s.heap := hP
  obtain ⟨hk11, hlo9, hhi9, hin2, hdi9, hti9, hex9, hexz⟩ := hok
  have hn24 := ax_hi24 hhi9
  refine lv_aload_n hx hb dX1_canBeTuned_0 rfl (lv_at hl 0 rfl) ?_
  obtain ⟨k_1, hk_2⟩ := ax_pg (X := []) (f := f) ha hfa
  refine va_get (D := (dC, dI)) (ci := 1) (v := .int (nI q.1)) (C := RX1) (T := TX1) (N := 6) hx hb hts (by decide +kernel) hown hK hP k_1 hk_2 rfl 0 (by decide) (hts (.fieldLink RX1 26 "Diffractory$Part" "kind" "I") (by decide +kernel)) (fun _ h9 => h9) rfl dX1_canBeTuned_1 ?_
  refine lv_iconst (v := 4) hx hb dX1_canBeTuned_4 (by decide) ?_
  refine lv_icmp_eq (tgt := 35) hx hb dX1_canBeTuned_5 (by decide) (fun c_3 => ?_) (fun c_3 => ?_)
  · have c_3 : q.1 = 4 := ax_feqTN (by omega) (by omega) c_3
    refine lv_iconst (v := 1) hx hb dX1_canBeTuned_35 (by decide) ?_
    refine lv_goto (tgt := 40) hx hb dX1_canBeTuned_36 (by decide) ?_
    refine W.widen (k := 0) (n := 0) (Nat.le_of_ble_eq_true rfl) (Nat.le_of_ble_eq_true rfl) ?_
    exact W.zret (v := 1) (ty := .boolean) hx hb hr (by decide +kernel) (fun t8 ht hW => ⟨⟨1, (), rfl, Or.inl ⟨rfl, by unfold cbt; omega⟩, trivial⟩, hS.F ht⟩) hS.2.2 dX1_canBeTuned_40
  · have c_3 : ¬ q.1 = 4 := ax_feqFN (by omega) (by omega) c_3
    refine lv_aload_n hx hb dX1_canBeTuned_8 rfl (lv_at hl 0 rfl) ?_
    obtain ⟨k_4, hk_5⟩ := ax_pg (X := []) (f := f) ha hfa
    refine va_get (D := (dC, dI)) (ci := 1) (v := .int (nI q.1)) (C := RX1) (T := TX1) (N := 6) hx hb hts (by decide +kernel) hown hK hP k_4 hk_5 rfl 0 (by decide) (hts (.fieldLink RX1 26 "Diffractory$Part" "kind" "I") (by decide +kernel)) (fun _ h9 => h9) rfl dX1_canBeTuned_9 ?_
    refine lv_bipush (v := 6) hx hb dX1_canBeTuned_12 (by decide) ?_
    refine lv_icmp_eq (tgt := 35) hx hb dX1_canBeTuned_14 (by decide) (fun c_6 => ?_) (fun c_6 => ?_)
    · have c_6 : q.1 = 6 := ax_feqTN (by omega) (by omega) c_6
      refine lv_iconst (v := 1) hx hb dX1_canBeTuned_35 (by decide) ?_
      refine lv_goto (tgt := 40) hx hb dX1_canBeTuned_36 (by decide) ?_
      refine W.widen (k := 0) (n := 0) (Nat.le_of_ble_eq_true rfl) (Nat.le_of_ble_eq_true rfl) ?_
      exact W.zret (v := 1) (ty := .boolean) hx hb hr (by decide +kernel) (fun t8 ht hW => ⟨⟨1, (), rfl, Or.inl ⟨rfl, by unfold cbt; omega⟩, trivial⟩, hS.F ht⟩) hS.2.2 dX1_canBeTuned_40
    · have c_6 : ¬ q.1 = 6 := ax_feqFN (by omega) (by omega) c_6
      refine lv_aload_n hx hb dX1_canBeTuned_17 rfl (lv_at hl 0 rfl) ?_
      obtain ⟨k_7, hk_8⟩ := ax_pg (X := []) (f := f) ha hfa
      refine va_get (D := (dC, dI)) (ci := 1) (v := .int (nI q.1)) (C := RX1) (T := TX1) (N := 6) hx hb hts (by decide +kernel) hown hK hP k_7 hk_8 rfl 0 (by decide) (hts (.fieldLink RX1 26 "Diffractory$Part" "kind" "I") (by decide +kernel)) (fun _ h9 => h9) rfl dX1_canBeTuned_18 ?_
      refine lv_bipush (v := 8) hx hb dX1_canBeTuned_21 (by decide) ?_
      refine lv_icmp_eq (tgt := 35) hx hb dX1_canBeTuned_23 (by decide) (fun c_9 => ?_) (fun c_9 => ?_)
      · have c_9 : q.1 = 8 := ax_feqTN (by omega) (by omega) c_9
        refine lv_iconst (v := 1) hx hb dX1_canBeTuned_35 (by decide) ?_
        refine lv_goto (tgt := 40) hx hb dX1_canBeTuned_36 (by decide) ?_
        refine W.widen (k := 0) (n := 0) (Nat.le_of_ble_eq_true rfl) (Nat.le_of_ble_eq_true rfl) ?_
        exact W.zret (v := 1) (ty := .boolean) hx hb hr (by decide +kernel) (fun t8 ht hW => ⟨⟨1, (), rfl, Or.inl ⟨rfl, by unfold cbt; omega⟩, trivial⟩, hS.F ht⟩) hS.2.2 dX1_canBeTuned_40
      · have c_9 : ¬ q.1 = 8 := ax_feqFN (by omega) (by omega) c_9
        refine lv_aload_n hx hb dX1_canBeTuned_26 rfl (lv_at hl 0 rfl) ?_
        obtain ⟨k_10, hk_11⟩ := ax_pg (X := []) (f := f) ha hfa
        refine va_get (D := (dC, dI)) (ci := 1) (v := .int (nI q.1)) (C := RX1) (T := TX1) (N := 6) hx hb hts (by decide +kernel) hown hK hP k_10 hk_11 rfl 0 (by decide) (hts (.fieldLink RX1 26 "Diffractory$Part" "kind" "I") (by decide +kernel)) (fun _ h9 => h9) rfl dX1_canBeTuned_27 ?_
        refine lv_bipush (v := 10) hx hb dX1_canBeTuned_30 (by decide) ?_
        refine lv_icmp_ne (tgt := 39) hx hb dX1_canBeTuned_32 (by decide) (fun c_12 => ?_) (fun c_12 => ?_)
        · have c_12 : ¬ q.1 = 10 := ax_fneTN (by omega) (by omega) c_12
          refine lv_iconst (v := 0) hx hb dX1_canBeTuned_39 (by decide) ?_
          refine W.widen (k := 0) (n := 0) (Nat.le_of_ble_eq_true rfl) (Nat.le_of_ble_eq_true rfl) ?_
          exact W.zret (v := 0) (ty := .boolean) hx hb hr (by decide +kernel) (fun t8 ht hW => ⟨⟨0, (), rfl, Or.inr ⟨rfl, by unfold cbt; omega⟩, trivial⟩, hS.F ht⟩) hS.2.2 dX1_canBeTuned_40
        · have c_12 : q.1 = 10 := ax_fneFN (by omega) (by omega) c_12
          refine lv_iconst (v := 1) hx hb dX1_canBeTuned_35 (by decide) ?_
          refine lv_goto (tgt := 40) hx hb dX1_canBeTuned_36 (by decide) ?_
          refine W.widen (k := 0) (n := 0) (Nat.le_of_ble_eq_true rfl) (Nat.le_of_ble_eq_true rfl) ?_
          exact W.zret (v := 1) (ty := .boolean) hx hb hr (by decide +kernel) (fun t8 ht hW => ⟨⟨1, (), rfl, Or.inl ⟨rfl, by unfold cbt; omega⟩, trivial⟩, hS.F ht⟩) hS.2.2 dX1_canBeTuned_40

set_option maxHeartbeats 4000000 in
set_option maxRecDepth 100000 in
theorem c_X1_lossFactor (l : Launch) (dC : Nat → ClassId) (dI : Nat → Nat → Nat) (cI : ClassId) (ta : Nat → Nat) (L : List Nat) (f : Nat → va_E) (a : Nat) (e9 : Nat) (q : PT) (ha : a ∈ L) (he : e9 ∈ L) (hfa : f a = .inr (1, pfs q e9)) (hfe : f e9 = .inl (cI, 8, .inl (nIf q.2.2.2.2.2))) (hok : okP q) : Met l yX1_lossFactor wsX1_lossFactor ({ frames := 0, cells := 0, slots := 0, locals := 0 }) (va_Pc [.ref a] (ax_R (dC, dI) vwCl ([] ++ va_pl L f) [(cI, .int)] ta)) (va_Ql (fun (r : Int64) (u9 : Unit) => r = ((nI (lfn q)).toInt64)) (fun _ _ => True) ax_no) 0 0 ax_no := by
  refine Met.ofW (cc := cX1_lossFactor) (maxL := 1) (ret := (some .long)) (by decide) rfl ?_
  intro p e s m args below meth c s₁ B hml hv
  obtain ⟨rfl, hP, hK, hE⟩ := hv
  have hx := B.exec
  have hb := B.bytes
  have hr := B.returns
  have hts := atoms_spec (ws := wsX1_lossFactor) B.pre
  have hown : s.vm.findClass RX1 = some m.cls := findClass_of_methodNamed B.named
  have hlocks := B.notSynchronized
  have hS : va_S ax_no s.heap s.heap [] := va_S.rf
  have hl := lv_entry ([.ref a]) (n := 1) (Nat.le_of_ble_eq_true rfl)
  rw [lg_entry_eq]
  generalize (lg_sl ([.ref a]) ++ List.replicate (1 - (lg_sl ([.ref a])).length) Slot.unset).toArray = ls at hl ⊢
  have hl : lv_has ls 1 [(0, .ref a)] := hl
  have hP : va_P (dC, dI) vwCl ([] ++ va_pl L f) s.heap := hP
  obtain ⟨hk11, hlo9, hhi9, hin2, hdi9, hti9, hex9, hexz⟩ := hok
  have hn24 := ax_hi24 hhi9
  refine lv_aload_n hx hb dX1_lossFactor_0 rfl (lv_at hl 0 rfl) ?_
  obtain ⟨k_1, hk_2⟩ := ax_pg (X := []) (f := f) ha hfa
  refine va_get (D := (dC, dI)) (ci := 1) (v := .int (nI q.1)) (C := RX1) (T := TX1) (N := 6) hx hb hts (by decide +kernel) hown hK hP k_1 hk_2 rfl 0 (by decide) (hts (.fieldLink RX1 26 "Diffractory$Part" "kind" "I") (by decide +kernel)) (fun _ h9 => h9) rfl dX1_lossFactor_1 ?_
  rcases (show q.1 = 0 ∨ q.1 = 1 ∨ q.1 = 2 ∨ q.1 = 3 ∨ q.1 = 4 ∨ q.1 = 5 ∨ q.1 = 6 ∨ q.1 = 7 ∨ q.1 = 8 ∨ q.1 = 9 ∨ q.1 = 10 by omega) with hq9 | hq9 | hq9 | hq9 | hq9 | hq9 | hq9 | hq9 | hq9 | hq9 | hq9
  · refine lv_tableOut (tgt := 91) hx hb dX1_lossFactor_4 (by rw [hq9]; decide) (by decide) ?_
    refine lv_lconst (v := 1) hx hb dX1_lossFactor_91 (by decide) ?_
    refine W.widen (k := 0) (n := 0) (Nat.le_of_ble_eq_true rfl) (Nat.le_of_ble_eq_true rfl) ?_
    exact W.lret (v := 1) hx hb hr (fun t8 ht hW => ⟨⟨1, (), rfl, by unfold lfn; rw [hq9]; first | rfl | (rw [if_neg (by decide), if_neg (by decide), if_neg (by decide)]; first | (rw [if_pos ⟨rfl, by omega⟩]; rfl) | (rw [if_neg (by omega)]; rfl)) | (simp), trivial⟩, hS.F ht⟩) hS.2.2 dX1_lossFactor_92
  · refine lv_tableOut (tgt := 91) hx hb dX1_lossFactor_4 (by rw [hq9]; decide) (by decide) ?_
    refine lv_lconst (v := 1) hx hb dX1_lossFactor_91 (by decide) ?_
    refine W.widen (k := 0) (n := 0) (Nat.le_of_ble_eq_true rfl) (Nat.le_of_ble_eq_true rfl) ?_
    exact W.lret (v := 1) hx hb hr (fun t8 ht hW => ⟨⟨1, (), rfl, by unfold lfn; rw [hq9]; first | rfl | (rw [if_neg (by decide), if_neg (by decide), if_neg (by decide)]; first | (rw [if_pos ⟨rfl, by omega⟩]; rfl) | (rw [if_neg (by omega)]; rfl)) | (simp), trivial⟩, hS.F ht⟩) hS.2.2 dX1_lossFactor_92
  · refine lv_tableIn (tgt := 56) hx hb dX1_lossFactor_4 (by rw [hq9]; decide) (by rw [hq9]; decide) (by rw [hq9]; rfl) (by decide) ?_
    refine lv_ldc2 (v := 8) hx hb hown (hts (.constantLong RX1 46 8) (by decide +kernel)) dX1_lossFactor_56 ?_
    refine W.widen (k := 0) (n := 0) (Nat.le_of_ble_eq_true rfl) (Nat.le_of_ble_eq_true rfl) ?_
    exact W.lret (v := 8) hx hb hr (fun t8 ht hW => ⟨⟨8, (), rfl, by unfold lfn; rw [hq9]; first | rfl | (rw [if_neg (by decide), if_neg (by decide), if_neg (by decide)]; first | (rw [if_pos ⟨rfl, by omega⟩]; rfl) | (rw [if_neg (by omega)]; rfl)) | (simp), trivial⟩, hS.F ht⟩) hS.2.2 dX1_lossFactor_59
  · refine lv_tableIn (tgt := 56) hx hb dX1_lossFactor_4 (by rw [hq9]; decide) (by rw [hq9]; decide) (by rw [hq9]; rfl) (by decide) ?_
    refine lv_ldc2 (v := 8) hx hb hown (hts (.constantLong RX1 46 8) (by decide +kernel)) dX1_lossFactor_56 ?_
    refine W.widen (k := 0) (n := 0) (Nat.le_of_ble_eq_true rfl) (Nat.le_of_ble_eq_true rfl) ?_
    exact W.lret (v := 8) hx hb hr (fun t8 ht hW => ⟨⟨8, (), rfl, by unfold lfn; rw [hq9]; first | rfl | (rw [if_neg (by decide), if_neg (by decide), if_neg (by decide)]; first | (rw [if_pos ⟨rfl, by omega⟩]; rfl) | (rw [if_neg (by omega)]; rfl)) | (simp), trivial⟩, hS.F ht⟩) hS.2.2 dX1_lossFactor_59
  · refine lv_tableIn (tgt := 91) hx hb dX1_lossFactor_4 (by rw [hq9]; decide) (by rw [hq9]; decide) (by rw [hq9]; rfl) (by decide) ?_
    refine lv_lconst (v := 1) hx hb dX1_lossFactor_91 (by decide) ?_
    refine W.widen (k := 0) (n := 0) (Nat.le_of_ble_eq_true rfl) (Nat.le_of_ble_eq_true rfl) ?_
    exact W.lret (v := 1) hx hb hr (fun t8 ht hW => ⟨⟨1, (), rfl, by unfold lfn; rw [hq9]; first | rfl | (rw [if_neg (by decide), if_neg (by decide), if_neg (by decide)]; first | (rw [if_pos ⟨rfl, by omega⟩]; rfl) | (rw [if_neg (by omega)]; rfl)) | (simp), trivial⟩, hS.F ht⟩) hS.2.2 dX1_lossFactor_92
  · refine lv_tableIn (tgt := 91) hx hb dX1_lossFactor_4 (by rw [hq9]; decide) (by rw [hq9]; decide) (by rw [hq9]; rfl) (by decide) ?_
    refine lv_lconst (v := 1) hx hb dX1_lossFactor_91 (by decide) ?_
    refine W.widen (k := 0) (n := 0) (Nat.le_of_ble_eq_true rfl) (Nat.le_of_ble_eq_true rfl) ?_
    exact W.lret (v := 1) hx hb hr (fun t8 ht hW => ⟨⟨1, (), rfl, by unfold lfn; rw [hq9]; first | rfl | (rw [if_neg (by decide), if_neg (by decide), if_neg (by decide)]; first | (rw [if_pos ⟨rfl, by omega⟩]; rfl) | (rw [if_neg (by omega)]; rfl)) | (simp), trivial⟩, hS.F ht⟩) hS.2.2 dX1_lossFactor_92
  · refine lv_tableIn (tgt := 60) hx hb dX1_lossFactor_4 (by rw [hq9]; decide) (by rw [hq9]; decide) (by rw [hq9]; rfl) (by decide) ?_
    refine lv_aload_n hx hb dX1_lossFactor_60 rfl (lv_at hl 0 rfl) ?_
    obtain ⟨k_3, hk_4⟩ := ax_pg (X := []) (f := f) ha hfa
    refine va_get (D := (dC, dI)) (ci := 1) (v := .int (nI q.2.1)) (C := RX1) (T := TX1) (N := 6) hx hb hts (by decide +kernel) hown hK hP k_3 hk_4 rfl 1 (by decide) (hts (.fieldLink RX1 29 "Diffractory$Part" "number" "I") (by decide +kernel)) (fun _ h9 => h9) rfl dX1_lossFactor_61 ?_
    refine lv_aload_n hx hb dX1_lossFactor_64 rfl (lv_at hl 0 rfl) ?_
    obtain ⟨k_5, hk_6⟩ := ax_pg (X := []) (f := f) ha hfa
    refine va_get (D := (dC, dI)) (ci := 1) (v := .int (nI q.2.1)) (C := RX1) (T := TX1) (N := 6) hx hb hts (by decide +kernel) hown hK hP k_5 hk_6 rfl 1 (by decide) (hts (.fieldLink RX1 29 "Diffractory$Part" "number" "I") (by decide +kernel)) (fun _ h9 => h9) rfl dX1_lossFactor_65 ?_
    refine lv_imul hx hb dX1_lossFactor_68 ?_
    refine ax_i (y := (nI (q.2.1 * q.2.1))) (pk_mul q.2.1 q.2.1) ?_
    refine lv_i2l (v := (nI (q.2.1 * q.2.1)).toInt64) hx hb dX1_lossFactor_69 rfl ?_
    refine W.widen (k := 0) (n := 0) (Nat.le_of_ble_eq_true rfl) (Nat.le_of_ble_eq_true rfl) ?_
    exact W.lret (v := (nI (q.2.1 * q.2.1)).toInt64) hx hb hr (fun t8 ht hW => ⟨⟨(nI (q.2.1 * q.2.1)).toInt64, (), rfl, by unfold lfn; rw [hq9]; first | rfl | (rw [if_neg (by decide), if_neg (by decide), if_neg (by decide)]; first | (rw [if_pos ⟨rfl, by omega⟩]; rfl) | (rw [if_neg (by omega)]; rfl)) | (simp), trivial⟩, hS.F ht⟩) hS.2.2 dX1_lossFactor_70
  · refine lv_tableIn (tgt := 71) hx hb dX1_lossFactor_4 (by rw [hq9]; decide) (by rw [hq9]; decide) (by rw [hq9]; rfl) (by decide) ?_
    refine lv_ldc2 (v := 81) hx hb hown (hts (.constantLong RX1 48 81) (by decide +kernel)) dX1_lossFactor_71 ?_
    refine W.widen (k := 0) (n := 0) (Nat.le_of_ble_eq_true rfl) (Nat.le_of_ble_eq_true rfl) ?_
    exact W.lret (v := 81) hx hb hr (fun t8 ht hW => ⟨⟨81, (), rfl, by unfold lfn; rw [hq9]; first | rfl | (rw [if_neg (by decide), if_neg (by decide), if_neg (by decide)]; first | (rw [if_pos ⟨rfl, by omega⟩]; rfl) | (rw [if_neg (by omega)]; rfl)) | (simp), trivial⟩, hS.F ht⟩) hS.2.2 dX1_lossFactor_74
  · refine lv_tableIn (tgt := 91) hx hb dX1_lossFactor_4 (by rw [hq9]; decide) (by rw [hq9]; decide) (by rw [hq9]; rfl) (by decide) ?_
    refine lv_lconst (v := 1) hx hb dX1_lossFactor_91 (by decide) ?_
    refine W.widen (k := 0) (n := 0) (Nat.le_of_ble_eq_true rfl) (Nat.le_of_ble_eq_true rfl) ?_
    exact W.lret (v := 1) hx hb hr (fun t8 ht hW => ⟨⟨1, (), rfl, by unfold lfn; rw [hq9]; first | rfl | (rw [if_neg (by decide), if_neg (by decide), if_neg (by decide)]; first | (rw [if_pos ⟨rfl, by omega⟩]; rfl) | (rw [if_neg (by omega)]; rfl)) | (simp), trivial⟩, hS.F ht⟩) hS.2.2 dX1_lossFactor_92
  · refine lv_tableIn (tgt := 91) hx hb dX1_lossFactor_4 (by rw [hq9]; decide) (by rw [hq9]; decide) (by rw [hq9]; rfl) (by decide) ?_
    refine lv_lconst (v := 1) hx hb dX1_lossFactor_91 (by decide) ?_
    refine W.widen (k := 0) (n := 0) (Nat.le_of_ble_eq_true rfl) (Nat.le_of_ble_eq_true rfl) ?_
    exact W.lret (v := 1) hx hb hr (fun t8 ht hW => ⟨⟨1, (), rfl, by unfold lfn; rw [hq9]; first | rfl | (rw [if_neg (by decide), if_neg (by decide), if_neg (by decide)]; first | (rw [if_pos ⟨rfl, by omega⟩]; rfl) | (rw [if_neg (by omega)]; rfl)) | (simp), trivial⟩, hS.F ht⟩) hS.2.2 dX1_lossFactor_92
  · refine lv_tableIn (tgt := 75) hx hb dX1_lossFactor_4 (by rw [hq9]; decide) (by rw [hq9]; decide) (by rw [hq9]; rfl) (by decide) ?_
    refine lv_aload_n hx hb dX1_lossFactor_75 rfl (lv_at hl 0 rfl) ?_
    obtain ⟨k_7, hk_8⟩ := ax_pg (X := []) (f := f) ha hfa
    refine va_get (D := (dC, dI)) (ci := 1) (v := .int (nI q.2.1)) (C := RX1) (T := TX1) (N := 6) hx hb hts (by decide +kernel) hown hK hP k_7 hk_8 rfl 1 (by decide) (hts (.fieldLink RX1 29 "Diffractory$Part" "number" "I") (by decide +kernel)) (fun _ h9 => h9) rfl dX1_lossFactor_76 ?_
    refine lv_iconst (v := 2) hx hb dX1_lossFactor_79 (by decide) ?_
    refine lv_icmp_lt (tgt := 89) hx hb dX1_lossFactor_80 (by decide) (fun c_9 => ?_) (fun c_9 => ?_)
    · have c_9 : q.2.1 < 2 := ax_fltTN (by omega) (by omega) c_9
      refine lv_lconst (v := 1) hx hb dX1_lossFactor_89 (by decide) ?_
      refine W.widen (k := 0) (n := 0) (Nat.le_of_ble_eq_true rfl) (Nat.le_of_ble_eq_true rfl) ?_
      exact W.lret (v := 1) hx hb hr (fun t8 ht hW => ⟨⟨1, (), rfl, by unfold lfn; rw [hq9]; first | rfl | (rw [if_neg (by decide), if_neg (by decide), if_neg (by decide)]; first | (rw [if_pos ⟨rfl, by omega⟩]; rfl) | (rw [if_neg (by omega)]; rfl)) | (simp), trivial⟩, hS.F ht⟩) hS.2.2 dX1_lossFactor_90
    · have c_9 : ¬ q.2.1 < 2 := ax_fltFN (by omega) (by omega) c_9
      refine lv_ldc2 (v := 4) hx hb hown (hts (.constantLong RX1 50 4) (by decide +kernel)) dX1_lossFactor_83 ?_
      refine lv_goto (tgt := 90) hx hb dX1_lossFactor_86 (by decide) ?_
      refine W.widen (k := 0) (n := 0) (Nat.le_of_ble_eq_true rfl) (Nat.le_of_ble_eq_true rfl) ?_
      exact W.lret (v := 4) hx hb hr (fun t8 ht hW => ⟨⟨4, (), rfl, by unfold lfn; rw [hq9]; first | rfl | (rw [if_neg (by decide), if_neg (by decide), if_neg (by decide)]; first | (rw [if_pos ⟨rfl, by omega⟩]; rfl) | (rw [if_neg (by omega)]; rfl)) | (simp), trivial⟩, hS.F ht⟩) hS.2.2 dX1_lossFactor_90

set_option maxHeartbeats 4000000 in
set_option maxRecDepth 100000 in
theorem c_X1_pass (l : Launch) (dC : Nat → ClassId) (dI : Nat → Nat → Nat) (xl xn xm : Nat) (cL cI : ClassId) (ta : Nat → Nat) (sz : Nat) (u : Nat → Int64) (g : Nat → Int64) (L : List Nat) (f : Nat → va_E) (a : Nat) (e9 : Nat) (q : PT) (ha : a ∈ L) (he : e9 ∈ L) (hfa : f a = .inr (1, pfs q e9)) (hfe : f e9 = .inl (cI, 8, .inl (nIf q.2.2.2.2.2))) (hok : okP q) (hg0 : g = opN q u 0) : Met l yX1_pass wsX1_pass ({ frames := 3, cells := 0, slots := 0, locals := 69 }) (va_Pc [.ref a, .ref xl] (ax_W (dC, dI) vwCl ([(xl, .inr (0, [.ref xn, .ref xm])), (xn, .inl (cL, 64, .inr (.inl u))), (xm, .inl (cL, 64, .inr (.inl g)))] ++ va_pl L f) [(cL, .long), (cI, .int)] ta sz)) (va_Qv (fun (u9 : Unit) => True) (fun (u9 : Unit) (t9 : State) => va_P (dC, dI) vwCl ([(xl, .inr (0, [.ref xm, .ref xn])), (xm, .inl (cL, 64, .inr (.inl (psf q u)))), (xn, .inl (cL, 64, .inr (.inl (fun _ => 0))))] ++ va_pl L f) t9.heap ∧ va_K (dC, dI) vwCl [(cL, .long), (cI, .int)] t9 ∧ va_D (va_A ([(xl, .inr (0, [.ref xn, .ref xm])), (xn, .inl (cL, 64, .inr (.inl u))), (xm, .inl (cL, 64, .inr (.inl g)))] ++ va_pl L f) sz) ([(xl, .inr (0, [.ref xm, .ref xn])), (xm, .inl (cL, 64, .inr (.inl (psf q u)))), (xn, .inl (cL, 64, .inr (.inl (fun _ => 0))))] ++ va_pl L f)) (va_A ([(xl, .inr (0, [.ref xn, .ref xm])), (xn, .inl (cL, 64, .inr (.inl u))), (xm, .inl (cL, 64, .inr (.inl g)))] ++ va_pl L f) sz)) 0 0 (va_A ([(xl, .inr (0, [.ref xn, .ref xm])), (xn, .inl (cL, 64, .inr (.inl u))), (xm, .inl (cL, 64, .inr (.inl g)))] ++ va_pl L f) sz) := by
  refine Met.ofW (cc := cX1_pass) (maxL := 3) (ret := none) (by decide) rfl ?_
  intro p e s m args below meth c s₁ B hml hv
  obtain ⟨rfl, hsz, hP, hK, hD0, hE⟩ := hv
  have hx := B.exec
  have hb := B.bytes
  have hr := B.returns
  have hts := atoms_spec (ws := wsX1_pass) B.pre
  have hown : s.vm.findClass RX1 = some m.cls := findClass_of_methodNamed B.named
  have hlocks := B.notSynchronized
  subst hsz
  have hD := hD0.self (sz := s.heap.size)
  generalize hAe : va_A ([(xl, .inr (0, [.ref xn, .ref xm])), (xn, .inl (cL, 64, .inr (.inl u))), (xm, .inl (cL, 64, .inr (.inl g)))] ++ va_pl L f) s.heap.size = A at hD hE ⊢
  have hA : ∀ q : Nat, s.heap.size ≤ q → A q := fun q h => by rw [← hAe]; exact Or.inr h
  have hS : va_S A s.heap s.heap [] := va_S.rf
  have hl := lv_entry ([.ref a, .ref xl]) (n := 3) (Nat.le_of_ble_eq_true rfl)
  rw [lg_entry_eq]
  generalize (lg_sl ([.ref a, .ref xl]) ++ List.replicate (3 - (lg_sl ([.ref a, .ref xl])).length) Slot.unset).toArray = ls at hl ⊢
  have hl : lv_has ls 3 [(0, .ref a), (1, .ref xl)] := hl
  have hP : va_P (dC, dI) vwCl ([(xl, .inr (0, [.ref xn, .ref xm])), (xn, .inl (cL, 64, .inr (.inl u))), (xm, .inl (cL, 64, .inr (.inl g)))] ++ va_pl L f) s.heap := hP
  obtain ⟨hk11, hlo9, hhi9, hin2, hdi9, hti9, hex9, hexz⟩ := hok
  have hn24 := ax_hi24 hhi9
  refine lv_iconst (v := 0) hx hb dX1_pass_0 (by decide) ?_
  refine lv_istore_n (lv' := [(2, .int 0), (0, .ref a), (1, .ref xl)]) hx hb dX1_pass_1 rfl hl (by decide) rfl (fun ls hl => ?_)
  refine ax_loop (σ := Nat × (Nat → Int64)) (fun z9 H locs ls => (z9.1 ≤ 8) ∧ (z9.2 = opN q u z9.1) ∧ lv_has ls 3 [(2, .int (nI z9.1)), (0, .ref a), (1, .ref xl)] ∧ va_P (dC, dI) vwCl ([(xl, .inr (0, [.ref xn, .ref xm])), (xn, .inl (cL, 64, .inr (.inl u))), (xm, .inl (cL, 64, .inr (.inl z9.2)))] ++ va_pl L f) H ∧ va_D A ([(xl, .inr (0, [.ref xn, .ref xm])), (xn, .inl (cL, 64, .inr (.inl u))), (xm, .inl (cL, 64, .inr (.inl z9.2)))] ++ va_pl L f) ∧ va_S A s.heap H locs) (fun z9 => 8 - z9.1) (fun z9 H locs ls hI ih => ?_) (0, g) ⟨by omega, hg0, hl, hP, hD, hS⟩
  obtain ⟨k, g1⟩ := z9
  obtain ⟨hk1, hg, hl, hP, hD, hS⟩ := hI
  have hk1 : k ≤ 8 := hk1
  have hg : g1 = opN q u k := hg
  have hl : lv_has ls 3 [(2, .int (nI k)), (0, .ref a), (1, .ref xl)] := hl
  have hP : va_P (dC, dI) vwCl ([(xl, .inr (0, [.ref xn, .ref xm])), (xn, .inl (cL, 64, .inr (.inl u))), (xm, .inl (cL, 64, .inr (.inl g1)))] ++ va_pl L f) H := hP
  have hD : va_D A ([(xl, .inr (0, [.ref xn, .ref xm])), (xn, .inl (cL, 64, .inr (.inl u))), (xm, .inl (cL, 64, .inr (.inl g1)))] ++ va_pl L f) := hD
  have ih_1 := ih; clear ih
  refine lv_iload_n hx hb dX1_pass_2 rfl (lv_at hl 0 rfl) ?_
  refine lv_bipush (v := 8) hx hb dX1_pass_3 (by decide) ?_
  refine lv_icmp_ge (tgt := 227) hx hb dX1_pass_5 (by decide) (fun c_2 => ?_) (fun c_2 => ?_)
  · have c_2 : ¬ k < 8 := ax_fgeTN (by omega) (by omega) c_2
    refine lv_aload_n hx hb dX1_pass_227 rfl (lv_at hl 2 rfl) ?_
    refine lv_aload_n hx hb dX1_pass_228 rfl (lv_at hl 1 rfl) ?_
    obtain ⟨k_3, hk_4⟩ := ax_pg (X := [(xl, .inr (0, [.ref xn, .ref xm])), (xn, .inl (cL, 64, .inr (.inl u))), (xm, .inl (cL, 64, .inr (.inl g1)))]) (f := f) ha hfa
    refine va_get (D := (dC, dI)) (ci := 1) (v := .int (nI q.2.2.2.1)) (C := RX1) (T := TX1) (N := 6) hx hb hts (by decide +kernel) hown hK hP k_3 hk_4 rfl 3 (by decide) (hts (.fieldLink RX1 15 "Diffractory$Part" "dirtyPlaces" "I") (by decide +kernel)) (fun _ h9 => h9) rfl dX1_pass_229 ?_
    have hPc := hP.sub (ws' := [(xl, .inr (0, [.ref xn, .ref xm])), (xn, .inl (cL, 64, .inr (.inl u))), (xm, .inl (cL, 64, .inr (.inl g1)))]) [0, 1, 2] rfl
    have hKc := hK.sub (tys' := [(cL, .long)]) [0] rfl
    have hDc := hD.sub (ws' := [(xl, .inr (0, [.ref xn, .ref xm])), (xn, .inl (cL, 64, .inr (.inl u))), (xm, .inl (cL, 64, .inr (.inl g1)))]) [0, 1, 2] (by decide) rfl
    have hFc := va_free (wc := [(xl, .inr (0, [.ref xn, .ref xm])), (xn, .inl (cL, 64, .inr (.inl u))), (xm, .inl (cL, 64, .inr (.inl g1)))]) hD hS hA [0, 1, 2] rfl
    refine va_callv (va_runV (As := [.int (nI q.2.2.2.1)]) (rest := []) ⟨hx, hb, hml, hown, hts⟩ (c_X0_settle l dC dI xl xn xm cL ta H.size u g1 q.2.2.2.1 (by omega)) (cwV 1 hts gX1_pass_X0_settle rfl rfl rfl (by decide +kernel) ⟨Nat.le_of_ble_eq_true rfl, Nat.le_of_ble_eq_true rfl⟩) ⟨ax_fbW, va_recv hK hP (ci := 0) (q0 := 0) rfl rfl, ax_prW hPc hKc hDc hS hFc hE⟩ rfl rfl hl.1 rfl (lv_room (Nat.le_of_ble_eq_true rfl)) dX1_pass_232 ⟨Nat.le_of_ble_eq_true rfl, Nat.le_of_ble_eq_true rfl⟩) hS (fun q _ h9 => hFc q h9) hFc (fun u_7 t8 H locs ht hvm hw_6 hB hz1 hk1 hS => ?_)
    obtain ⟨hP1, hK1, hD1⟩ := hB
    rw [ht] at hP1
    have hK1 := va_K.moved hvm.symm hK1
    obtain ⟨hP, hD⟩ := va_joinQ (X := [(xl, .inr (0, [.ref xn, .ref xm])), (xn, .inl (cL, 64, .inr (.inl u))), (xm, .inl (cL, 64, .inr (.inl g1)))]) (cx := [(xl, .inr (0, [.ref xn, .ref xm])), (xn, .inl (cL, 64, .inr (.inl u))), (xm, .inl (cL, 64, .inr (.inl g1)))]) (wr := []) (w1 := [(xl, .inr (0, [.ref xm, .ref xn])), (xm, .inl (cL, 64, .inr (.inl (stl q.2.2.2.1 g1)))), (xn, .inl (cL, 64, .inr (.inl (fun _ => 0))))]) (pl := va_pl L f) hP hD [0, 1, 2] [] rfl rfl (by decide) (by decide) hk1 hFc hP1 hD1
    have hP : va_P (dC, dI) vwCl ([(xl, .inr (0, [.ref xm, .ref xn])), (xm, .inl (cL, 64, .inr (.inl (stl q.2.2.2.1 g1)))), (xn, .inl (cL, 64, .inr (.inl (fun _ => 0))))] ++ va_pl L f) H := hP
    have hD : va_D A ([(xl, .inr (0, [.ref xm, .ref xn])), (xm, .inl (cL, 64, .inr (.inl (stl q.2.2.2.1 g1)))), (xn, .inl (cL, 64, .inr (.inl (fun _ => 0))))] ++ va_pl L f) := hD
    refine W.widen (k := 0) (n := 0) (Nat.le_of_ble_eq_true rfl) (Nat.le_of_ble_eq_true rfl) ?_
    have hP9 : va_P (dC, dI) vwCl ([(xl, .inr (0, [.ref xm, .ref xn])), (xm, .inl (cL, 64, .inr (.inl (stl q.2.2.2.1 g1)))), (xn, .inl (cL, 64, .inr (.inl (fun _ => 0))))] ++ va_pl L f) H := hP.part [0, 1, 2] rfl
    have hD9 : va_D A ([(xl, .inr (0, [.ref xm, .ref xn])), (xm, .inl (cL, 64, .inr (.inl (stl q.2.2.2.1 g1)))), (xn, .inl (cL, 64, .inr (.inl (fun _ => 0))))] ++ va_pl L f) := hD.part [0, 1, 2] (by decide) rfl
    have hK9 := hK.sub (tys' := [(cL, .long), (cI, .int)]) [0, 1] rfl
    have e9 : stl q.2.2.2.1 g1 = psf q u := by unfold psf; rw [hg, show k = 8 by omega]
    rw [e9] at hP9 hD9
    exact W.vret hx hb hr (fun t8 ht hW => ⟨⟨(), rfl, trivial, by rw [ht]; exact hP9, va_K.moved hW.alike hK9, hD9⟩, hS.F ht⟩) hS.2.2 dX1_pass_235
  · have c_2 : k < 8 := ax_fgeFN (by omega) (by omega) c_2
    refine lv_aload_n hx hb dX1_pass_8 rfl (lv_at hl 1 rfl) ?_
    obtain ⟨k_9, hk_10⟩ := ax_pg (X := [(xl, .inr (0, [.ref xn, .ref xm])), (xn, .inl (cL, 64, .inr (.inl u))), (xm, .inl (cL, 64, .inr (.inl g1)))]) (f := f) ha hfa
    refine va_get (D := (dC, dI)) (ci := 1) (v := .int (nI q.1)) (C := RX1) (T := TX1) (N := 6) hx hb hts (by decide +kernel) hown hK hP k_9 hk_10 rfl 0 (by decide) (hts (.fieldLink RX1 26 "Diffractory$Part" "kind" "I") (by decide +kernel)) (fun _ h9 => h9) rfl dX1_pass_9 ?_
    rcases (show q.1 = 0 ∨ q.1 = 1 ∨ q.1 = 2 ∨ q.1 = 3 ∨ q.1 = 4 ∨ q.1 = 5 ∨ q.1 = 6 ∨ q.1 = 7 ∨ q.1 = 8 ∨ q.1 = 9 ∨ q.1 = 10 by omega) with hq9 | hq9 | hq9 | hq9 | hq9 | hq9 | hq9 | hq9 | hq9 | hq9 | hq9
    · refine lv_tableIn (tgt := 68) hx hb dX1_pass_12 (by rw [hq9]; decide) (by rw [hq9]; decide) (by rw [hq9]; rfl) (by decide) ?_
      have hx9k := hex9 k (by omega)
      have hh9 := hhi9; rw [hq9] at hh9
      have hh9 : q.2.1 ≤ 255 := hh9
      refine lv_aload_n hx hb dX1_pass_68 rfl (lv_at hl 2 rfl) ?_
      refine lv_iload_n hx hb dX1_pass_69 rfl (lv_at hl 0 rfl) ?_
      refine lv_iload_n hx hb dX1_pass_70 rfl (lv_at hl 0 rfl) ?_
      refine lv_iconst (v := 0) hx hb dX1_pass_71 (by decide) ?_
      refine lv_aload_n hx hb dX1_pass_72 rfl (lv_at hl 1 rfl) ?_
      obtain ⟨k_11, hk_12⟩ := ax_pg (X := [(xl, .inr (0, [.ref xn, .ref xm])), (xn, .inl (cL, 64, .inr (.inl u))), (xm, .inl (cL, 64, .inr (.inl g1)))]) (f := f) ha hfa
      refine va_get (D := (dC, dI)) (ci := 1) (v := .int (nI q.2.1)) (C := RX1) (T := TX1) (N := 6) hx hb hts (by decide +kernel) hown hK hP k_11 hk_12 rfl 1 (by decide) (hts (.fieldLink RX1 29 "Diffractory$Part" "number" "I") (by decide +kernel)) (fun _ h9 => h9) rfl dX1_pass_73 ?_
      refine lv_iload_n hx hb dX1_pass_76 rfl (lv_at hl 0 rfl) ?_
      refine lv_ishr hx hb dX1_pass_77 ?_
      refine ax_i (y := (nI (q.2.1 / 2 ^ k))) (ax_shr (by omega) (by omega)) ?_
      have hsh_13 := Nat.div_le_self q.2.1 (2 ^ k)
      refine lv_iconst (v := 1) hx hb dX1_pass_78 (by decide) ?_
      refine lv_iand hx hb dX1_pass_79 ?_
      refine ax_i (y := (nI ((q.2.1 / 2 ^ k) % 2))) (pk_andN (by omega) 1 rfl) ?_
      have hPc := hP.sub (ws' := [(xl, .inr (0, [.ref xn, .ref xm])), (xn, .inl (cL, 64, .inr (.inl u))), (xm, .inl (cL, 64, .inr (.inl g1)))]) [0, 1, 2] rfl
      have hKc := hK.sub (tys' := [(cL, .long)]) [0] rfl
      have hDc := hD.sub (ws' := [(xl, .inr (0, [.ref xn, .ref xm])), (xn, .inl (cL, 64, .inr (.inl u))), (xm, .inl (cL, 64, .inr (.inl g1)))]) [0, 1, 2] (by decide) rfl
      have hFc := va_free (wc := [(xl, .inr (0, [.ref xn, .ref xm])), (xn, .inl (cL, 64, .inr (.inl u))), (xm, .inl (cL, 64, .inr (.inl g1)))]) hD hS hA [0, 1, 2] rfl
      refine va_callv (va_runV (As := [.int (nI k), .int (nI k), .int 0, .int (nI ((q.2.1 / 2 ^ k) % 2))]) (rest := []) ⟨hx, hb, hml, hown, hts⟩ (c_X0_carry l dC dI xl xn xm cL ta H.size u g1 k k 0 (nI ((q.2.1 / 2 ^ k) % 2)) 0 (by omega) (by omega) (by decide) (by omega)) (cwV 4 hts gX1_pass_X0_carry rfl rfl rfl (by decide +kernel) ⟨Nat.le_of_ble_eq_true rfl, Nat.le_of_ble_eq_true rfl⟩) ⟨ax_fbW, va_recv hK hP (ci := 0) (q0 := 0) rfl rfl, ax_prW hPc hKc hDc hS hFc hE⟩ rfl rfl hl.1 rfl (lv_room (Nat.le_of_ble_eq_true rfl)) dX1_pass_80 ⟨Nat.le_of_ble_eq_true rfl, Nat.le_of_ble_eq_true rfl⟩) hS (fun q _ h9 => hFc q h9) hFc (fun u_16 t8 H locs ht hvm hw_15 hB hz1 hk1 hS => ?_)
      obtain ⟨hP1, hK1, hD1⟩ := hB
      rw [ht] at hP1
      have hK1 := va_K.moved hvm.symm hK1
      obtain ⟨hP, hD⟩ := va_joinQ (X := [(xl, .inr (0, [.ref xn, .ref xm])), (xn, .inl (cL, 64, .inr (.inl u))), (xm, .inl (cL, 64, .inr (.inl g1)))]) (cx := [(xl, .inr (0, [.ref xn, .ref xm])), (xn, .inl (cL, 64, .inr (.inl u))), (xm, .inl (cL, 64, .inr (.inl g1)))]) (wr := []) (w1 := [(xl, .inr (0, [.ref xn, .ref xm])), (xn, .inl (cL, 64, .inr (.inl u))), (xm, .inl (cL, 64, .inr (.inl (cr k k 0 (nI ((q.2.1 / 2 ^ k) % 2)) u g1))))]) (pl := va_pl L f) hP hD [0, 1, 2] [] rfl rfl (by decide) (by decide) hk1 hFc hP1 hD1
      have hP : va_P (dC, dI) vwCl ([(xl, .inr (0, [.ref xn, .ref xm])), (xn, .inl (cL, 64, .inr (.inl u))), (xm, .inl (cL, 64, .inr (.inl (cr k k 0 (nI ((q.2.1 / 2 ^ k) % 2)) u g1))))] ++ va_pl L f) H := hP
      have hD : va_D A ([(xl, .inr (0, [.ref xn, .ref xm])), (xn, .inl (cL, 64, .inr (.inl u))), (xm, .inl (cL, 64, .inr (.inl (cr k k 0 (nI ((q.2.1 / 2 ^ k) % 2)) u g1))))] ++ va_pl L f) := hD
      refine lv_goto (tgt := 221) hx hb dX1_pass_83 (by decide) ?_
      refine lv_iinc (v := (nI (k + 1))) (lv' := [(2, .int (nI (k + 1))), (0, .ref a), (1, .ref xl)]) hx hb dX1_pass_221 hl (k := 0) rfl (nI_succ _).symm (by decide) rfl (fun ls hl => ?_)
      refine lv_goto (tgt := 2) hx hb dX1_pass_224 (by decide) ?_
      exact ih_1 (k + 1, (cr k k 0 (nI ((q.2.1 / 2 ^ k) % 2)) u g1)) H locs ls ⟨by omega, by rw [hg]; show _ = opk q k u (opN q u k); unfold opk; simp [hq9], hl, hP, hD, hS⟩ (show 8 - (k + 1) < 8 - k by omega)
    · refine lv_tableIn (tgt := 86) hx hb dX1_pass_12 (by rw [hq9]; decide) (by rw [hq9]; decide) (by rw [hq9]; rfl) (by decide) ?_
      have hx9k := hex9 k (by omega)
      have hh9 := hhi9; rw [hq9] at hh9
      have hh9 : q.2.1 ≤ 16777215 := hh9
      refine lv_aload_n hx hb dX1_pass_86 rfl (lv_at hl 2 rfl) ?_
      refine lv_iload_n hx hb dX1_pass_87 rfl (lv_at hl 0 rfl) ?_
      refine lv_iload_n hx hb dX1_pass_88 rfl (lv_at hl 0 rfl) ?_
      refine lv_aload_n hx hb dX1_pass_89 rfl (lv_at hl 1 rfl) ?_
      obtain ⟨k_18, hk_19⟩ := ax_pg (X := [(xl, .inr (0, [.ref xn, .ref xm])), (xn, .inl (cL, 64, .inr (.inl u))), (xm, .inl (cL, 64, .inr (.inl g1)))]) (f := f) ha hfa
      refine va_get (D := (dC, dI)) (ci := 1) (v := .int (nI q.2.1)) (C := RX1) (T := TX1) (N := 6) hx hb hts (by decide +kernel) hown hK hP k_18 hk_19 rfl 1 (by decide) (hts (.fieldLink RX1 29 "Diffractory$Part" "number" "I") (by decide +kernel)) (fun _ h9 => h9) rfl dX1_pass_90 ?_
      refine lv_iconst (v := 3) hx hb dX1_pass_93 (by decide) ?_
      refine lv_iload_n hx hb dX1_pass_94 rfl (lv_at hl 0 rfl) ?_
      refine lv_imul hx hb dX1_pass_95 ?_
      refine ax_i (y := (nI (3 * k))) (pk_mul 3 k) ?_
      refine lv_ishr hx hb dX1_pass_96 ?_
      refine ax_i (y := (nI (q.2.1 / 2 ^ (3 * k)))) (ax_shr (by omega) (by omega)) ?_
      have hsh_20 := Nat.div_le_self q.2.1 (2 ^ (3 * k))
      refine lv_bipush (v := 7) hx hb dX1_pass_97 (by decide) ?_
      refine lv_iand hx hb dX1_pass_99 ?_
      refine ax_i (y := (nI ((q.2.1 / 2 ^ (3 * k)) % 8))) (pk_andN (by omega) 3 rfl) ?_
      refine lv_iconst (v := 1) hx hb dX1_pass_100 (by decide) ?_
      have hPc := hP.sub (ws' := [(xl, .inr (0, [.ref xn, .ref xm])), (xn, .inl (cL, 64, .inr (.inl u))), (xm, .inl (cL, 64, .inr (.inl g1)))]) [0, 1, 2] rfl
      have hKc := hK.sub (tys' := [(cL, .long)]) [0] rfl
      have hDc := hD.sub (ws' := [(xl, .inr (0, [.ref xn, .ref xm])), (xn, .inl (cL, 64, .inr (.inl u))), (xm, .inl (cL, 64, .inr (.inl g1)))]) [0, 1, 2] (by decide) rfl
      have hFc := va_free (wc := [(xl, .inr (0, [.ref xn, .ref xm])), (xn, .inl (cL, 64, .inr (.inl u))), (xm, .inl (cL, 64, .inr (.inl g1)))]) hD hS hA [0, 1, 2] rfl
      refine va_callv (va_runV (As := [.int (nI k), .int (nI k), .int (nI ((q.2.1 / 2 ^ (3 * k)) % 8)), .int 1]) (rest := []) ⟨hx, hb, hml, hown, hts⟩ (c_X0_carry l dC dI xl xn xm cL ta H.size u g1 k k (nI ((q.2.1 / 2 ^ (3 * k)) % 8)) 1 ((q.2.1 / 2 ^ (3 * k)) % 8) (by omega) (by omega) ((pk_andN (by omega) 3 rfl).trans (by rw [Nat.mod_mod])) (by omega)) (cwV 4 hts gX1_pass_X0_carry rfl rfl rfl (by decide +kernel) ⟨Nat.le_of_ble_eq_true rfl, Nat.le_of_ble_eq_true rfl⟩) ⟨ax_fbW, va_recv hK hP (ci := 0) (q0 := 0) rfl rfl, ax_prW hPc hKc hDc hS hFc hE⟩ rfl rfl hl.1 rfl (lv_room (Nat.le_of_ble_eq_true rfl)) dX1_pass_101 ⟨Nat.le_of_ble_eq_true rfl, Nat.le_of_ble_eq_true rfl⟩) hS (fun q _ h9 => hFc q h9) hFc (fun u_23 t8 H locs ht hvm hw_22 hB hz1 hk1 hS => ?_)
      obtain ⟨hP1, hK1, hD1⟩ := hB
      rw [ht] at hP1
      have hK1 := va_K.moved hvm.symm hK1
      obtain ⟨hP, hD⟩ := va_joinQ (X := [(xl, .inr (0, [.ref xn, .ref xm])), (xn, .inl (cL, 64, .inr (.inl u))), (xm, .inl (cL, 64, .inr (.inl g1)))]) (cx := [(xl, .inr (0, [.ref xn, .ref xm])), (xn, .inl (cL, 64, .inr (.inl u))), (xm, .inl (cL, 64, .inr (.inl g1)))]) (wr := []) (w1 := [(xl, .inr (0, [.ref xn, .ref xm])), (xn, .inl (cL, 64, .inr (.inl u))), (xm, .inl (cL, 64, .inr (.inl (cr k k ((q.2.1 / 2 ^ (3 * k)) % 8) 1 u g1))))]) (pl := va_pl L f) hP hD [0, 1, 2] [] rfl rfl (by decide) (by decide) hk1 hFc hP1 hD1
      have hP : va_P (dC, dI) vwCl ([(xl, .inr (0, [.ref xn, .ref xm])), (xn, .inl (cL, 64, .inr (.inl u))), (xm, .inl (cL, 64, .inr (.inl (cr k k ((q.2.1 / 2 ^ (3 * k)) % 8) 1 u g1))))] ++ va_pl L f) H := hP
      have hD : va_D A ([(xl, .inr (0, [.ref xn, .ref xm])), (xn, .inl (cL, 64, .inr (.inl u))), (xm, .inl (cL, 64, .inr (.inl (cr k k ((q.2.1 / 2 ^ (3 * k)) % 8) 1 u g1))))] ++ va_pl L f) := hD
      refine lv_goto (tgt := 221) hx hb dX1_pass_104 (by decide) ?_
      refine lv_iinc (v := (nI (k + 1))) (lv' := [(2, .int (nI (k + 1))), (0, .ref a), (1, .ref xl)]) hx hb dX1_pass_221 hl (k := 0) rfl (nI_succ _).symm (by decide) rfl (fun ls hl => ?_)
      refine lv_goto (tgt := 2) hx hb dX1_pass_224 (by decide) ?_
      exact ih_1 (k + 1, (cr k k ((q.2.1 / 2 ^ (3 * k)) % 8) 1 u g1)) H locs ls ⟨by omega, by rw [hg]; show _ = opk q k u (opN q u k); unfold opk; simp [hq9], hl, hP, hD, hS⟩ (show 8 - (k + 1) < 8 - k by omega)
    · refine lv_tableIn (tgt := 107) hx hb dX1_pass_12 (by rw [hq9]; decide) (by rw [hq9]; decide) (by rw [hq9]; rfl) (by decide) ?_
      have hx9k := hex9 k (by omega)
      have hh9 := hhi9; rw [hq9] at hh9
      have hh9 : q.2.1 ≤ 0 := hh9
      refine lv_aload_n hx hb dX1_pass_107 rfl (lv_at hl 2 rfl) ?_
      refine lv_iload_n hx hb dX1_pass_108 rfl (lv_at hl 0 rfl) ?_
      refine lv_iconst (v := 1) hx hb dX1_pass_109 (by decide) ?_
      have hPc := hP.sub (ws' := [(xl, .inr (0, [.ref xn, .ref xm])), (xn, .inl (cL, 64, .inr (.inl u))), (xm, .inl (cL, 64, .inr (.inl g1)))]) [0, 1, 2] rfl
      have hKc := hK.sub (tys' := [(cL, .long)]) [0] rfl
      have hDc := hD.sub (ws' := [(xl, .inr (0, [.ref xn, .ref xm])), (xn, .inl (cL, 64, .inr (.inl u))), (xm, .inl (cL, 64, .inr (.inl g1)))]) [0, 1, 2] (by decide) rfl
      have hFc := va_free (wc := [(xl, .inr (0, [.ref xn, .ref xm])), (xn, .inl (cL, 64, .inr (.inl u))), (xm, .inl (cL, 64, .inr (.inl g1)))]) hD hS hA [0, 1, 2] rfl
      refine va_callv (va_runV (As := [.int (nI k), .int 1]) (rest := []) ⟨hx, hb, hml, hown, hts⟩ (c_X0_gather_1 l dC dI xl xn xm cL ta H.size u g1 k (by omega)) (cwV 2 hts gX1_pass_X0_gather rfl rfl rfl (by decide +kernel) ⟨Nat.le_of_ble_eq_true rfl, Nat.le_of_ble_eq_true rfl⟩) ⟨ax_fbW, va_recv hK hP (ci := 0) (q0 := 0) rfl rfl, ax_prW hPc hKc hDc hS hFc hE⟩ rfl rfl hl.1 rfl (lv_room (Nat.le_of_ble_eq_true rfl)) dX1_pass_110 ⟨Nat.le_of_ble_eq_true rfl, Nat.le_of_ble_eq_true rfl⟩) hS (fun q _ h9 => hFc q h9) hFc (fun u_27 t8 H locs ht hvm hw_26 hB hz1 hk1 hS => ?_)
      obtain ⟨hP1, hK1, hD1⟩ := hB
      rw [ht] at hP1
      have hK1 := va_K.moved hvm.symm hK1
      obtain ⟨hP, hD⟩ := va_joinQ (X := [(xl, .inr (0, [.ref xn, .ref xm])), (xn, .inl (cL, 64, .inr (.inl u))), (xm, .inl (cL, 64, .inr (.inl g1)))]) (cx := [(xl, .inr (0, [.ref xn, .ref xm])), (xn, .inl (cL, 64, .inr (.inl u))), (xm, .inl (cL, 64, .inr (.inl g1)))]) (wr := []) (w1 := [(xl, .inr (0, [.ref xn, .ref xm])), (xn, .inl (cL, 64, .inr (.inl u))), (xm, .inl (cL, 64, .inr (.inl (gthR k 1 u g1 8))))]) (pl := va_pl L f) hP hD [0, 1, 2] [] rfl rfl (by decide) (by decide) hk1 hFc hP1 hD1
      have hP : va_P (dC, dI) vwCl ([(xl, .inr (0, [.ref xn, .ref xm])), (xn, .inl (cL, 64, .inr (.inl u))), (xm, .inl (cL, 64, .inr (.inl (gthR k 1 u g1 8))))] ++ va_pl L f) H := hP
      have hD : va_D A ([(xl, .inr (0, [.ref xn, .ref xm])), (xn, .inl (cL, 64, .inr (.inl u))), (xm, .inl (cL, 64, .inr (.inl (gthR k 1 u g1 8))))] ++ va_pl L f) := hD
      refine lv_goto (tgt := 221) hx hb dX1_pass_113 (by decide) ?_
      refine lv_iinc (v := (nI (k + 1))) (lv' := [(2, .int (nI (k + 1))), (0, .ref a), (1, .ref xl)]) hx hb dX1_pass_221 hl (k := 0) rfl (nI_succ _).symm (by decide) rfl (fun ls hl => ?_)
      refine lv_goto (tgt := 2) hx hb dX1_pass_224 (by decide) ?_
      exact ih_1 (k + 1, (gthR k 1 u g1 8)) H locs ls ⟨by omega, by rw [hg]; show _ = opk q k u (opN q u k); unfold opk; simp [hq9], hl, hP, hD, hS⟩ (show 8 - (k + 1) < 8 - k by omega)
    · refine lv_tableIn (tgt := 116) hx hb dX1_pass_12 (by rw [hq9]; decide) (by rw [hq9]; decide) (by rw [hq9]; rfl) (by decide) ?_
      have hx9k := hex9 k (by omega)
      have hh9 := hhi9; rw [hq9] at hh9
      have hh9 : q.2.1 ≤ 0 := hh9
      refine lv_aload_n hx hb dX1_pass_116 rfl (lv_at hl 2 rfl) ?_
      refine lv_iload_n hx hb dX1_pass_117 rfl (lv_at hl 0 rfl) ?_
      refine lv_bipush (v := 7) hx hb dX1_pass_118 (by decide) ?_
      have hPc := hP.sub (ws' := [(xl, .inr (0, [.ref xn, .ref xm])), (xn, .inl (cL, 64, .inr (.inl u))), (xm, .inl (cL, 64, .inr (.inl g1)))]) [0, 1, 2] rfl
      have hKc := hK.sub (tys' := [(cL, .long)]) [0] rfl
      have hDc := hD.sub (ws' := [(xl, .inr (0, [.ref xn, .ref xm])), (xn, .inl (cL, 64, .inr (.inl u))), (xm, .inl (cL, 64, .inr (.inl g1)))]) [0, 1, 2] (by decide) rfl
      have hFc := va_free (wc := [(xl, .inr (0, [.ref xn, .ref xm])), (xn, .inl (cL, 64, .inr (.inl u))), (xm, .inl (cL, 64, .inr (.inl g1)))]) hD hS hA [0, 1, 2] rfl
      refine va_callv (va_runV (As := [.int (nI k), .int 7]) (rest := []) ⟨hx, hb, hml, hown, hts⟩ (c_X0_gather_7 l dC dI xl xn xm cL ta H.size u g1 k (by omega)) (cwV 2 hts gX1_pass_X0_gather rfl rfl rfl (by decide +kernel) ⟨Nat.le_of_ble_eq_true rfl, Nat.le_of_ble_eq_true rfl⟩) ⟨ax_fbW, va_recv hK hP (ci := 0) (q0 := 0) rfl rfl, ax_prW hPc hKc hDc hS hFc hE⟩ rfl rfl hl.1 rfl (lv_room (Nat.le_of_ble_eq_true rfl)) dX1_pass_120 ⟨Nat.le_of_ble_eq_true rfl, Nat.le_of_ble_eq_true rfl⟩) hS (fun q _ h9 => hFc q h9) hFc (fun u_31 t8 H locs ht hvm hw_30 hB hz1 hk1 hS => ?_)
      obtain ⟨hP1, hK1, hD1⟩ := hB
      rw [ht] at hP1
      have hK1 := va_K.moved hvm.symm hK1
      obtain ⟨hP, hD⟩ := va_joinQ (X := [(xl, .inr (0, [.ref xn, .ref xm])), (xn, .inl (cL, 64, .inr (.inl u))), (xm, .inl (cL, 64, .inr (.inl g1)))]) (cx := [(xl, .inr (0, [.ref xn, .ref xm])), (xn, .inl (cL, 64, .inr (.inl u))), (xm, .inl (cL, 64, .inr (.inl g1)))]) (wr := []) (w1 := [(xl, .inr (0, [.ref xn, .ref xm])), (xn, .inl (cL, 64, .inr (.inl u))), (xm, .inl (cL, 64, .inr (.inl (gthR k 7 u g1 8))))]) (pl := va_pl L f) hP hD [0, 1, 2] [] rfl rfl (by decide) (by decide) hk1 hFc hP1 hD1
      have hP : va_P (dC, dI) vwCl ([(xl, .inr (0, [.ref xn, .ref xm])), (xn, .inl (cL, 64, .inr (.inl u))), (xm, .inl (cL, 64, .inr (.inl (gthR k 7 u g1 8))))] ++ va_pl L f) H := hP
      have hD : va_D A ([(xl, .inr (0, [.ref xn, .ref xm])), (xn, .inl (cL, 64, .inr (.inl u))), (xm, .inl (cL, 64, .inr (.inl (gthR k 7 u g1 8))))] ++ va_pl L f) := hD
      refine lv_goto (tgt := 221) hx hb dX1_pass_123 (by decide) ?_
      refine lv_iinc (v := (nI (k + 1))) (lv' := [(2, .int (nI (k + 1))), (0, .ref a), (1, .ref xl)]) hx hb dX1_pass_221 hl (k := 0) rfl (nI_succ _).symm (by decide) rfl (fun ls hl => ?_)
      refine lv_goto (tgt := 2) hx hb dX1_pass_224 (by decide) ?_
      exact ih_1 (k + 1, (gthR k 7 u g1 8)) H locs ls ⟨by omega, by rw [hg]; show _ = opk q k u (opN q u k); unfold opk; simp [hq9], hl, hP, hD, hS⟩ (show 8 - (k + 1) < 8 - k by omega)
    · refine lv_tableIn (tgt := 126) hx hb dX1_pass_12 (by rw [hq9]; decide) (by rw [hq9]; decide) (by rw [hq9]; rfl) (by decide) ?_
      have hx9k := hex9 k (by omega)
      have hh9 := hhi9; rw [hq9] at hh9
      have hh9 : q.2.1 ≤ 7 := hh9
      refine lv_aload_n hx hb dX1_pass_126 rfl (lv_at hl 2 rfl) ?_
      refine lv_iload_n hx hb dX1_pass_127 rfl (lv_at hl 0 rfl) ?_
      refine lv_iload_n hx hb dX1_pass_128 rfl (lv_at hl 0 rfl) ?_
      refine lv_aload_n hx hb dX1_pass_129 rfl (lv_at hl 1 rfl) ?_
      obtain ⟨k_33, hk_34⟩ := ax_pg (X := [(xl, .inr (0, [.ref xn, .ref xm])), (xn, .inl (cL, 64, .inr (.inl u))), (xm, .inl (cL, 64, .inr (.inl g1)))]) (f := f) ha hfa
      refine va_get (D := (dC, dI)) (ci := 1) (v := .int (nI q.2.1)) (C := RX1) (T := TX1) (N := 6) hx hb hts (by decide +kernel) hown hK hP k_33 hk_34 rfl 1 (by decide) (hts (.fieldLink RX1 29 "Diffractory$Part" "number" "I") (by decide +kernel)) (fun _ h9 => h9) rfl dX1_pass_130 ?_
      refine lv_iadd hx hb dX1_pass_133 ?_
      refine ax_i (y := (nI (k + q.2.1))) (ax_addN k q.2.1) ?_
      refine lv_bipush (v := 7) hx hb dX1_pass_134 (by decide) ?_
      refine lv_iand hx hb dX1_pass_136 ?_
      refine ax_i (y := (nI ((k + q.2.1) % 8))) (pk_andN (by omega) 3 rfl) ?_
      refine lv_iconst (v := 0) hx hb dX1_pass_137 (by decide) ?_
      refine lv_iconst (v := 1) hx hb dX1_pass_138 (by decide) ?_
      have hPc := hP.sub (ws' := [(xl, .inr (0, [.ref xn, .ref xm])), (xn, .inl (cL, 64, .inr (.inl u))), (xm, .inl (cL, 64, .inr (.inl g1)))]) [0, 1, 2] rfl
      have hKc := hK.sub (tys' := [(cL, .long)]) [0] rfl
      have hDc := hD.sub (ws' := [(xl, .inr (0, [.ref xn, .ref xm])), (xn, .inl (cL, 64, .inr (.inl u))), (xm, .inl (cL, 64, .inr (.inl g1)))]) [0, 1, 2] (by decide) rfl
      have hFc := va_free (wc := [(xl, .inr (0, [.ref xn, .ref xm])), (xn, .inl (cL, 64, .inr (.inl u))), (xm, .inl (cL, 64, .inr (.inl g1)))]) hD hS hA [0, 1, 2] rfl
      refine va_callv (va_runV (As := [.int (nI k), .int (nI ((k + q.2.1) % 8)), .int 0, .int 1]) (rest := []) ⟨hx, hb, hml, hown, hts⟩ (c_X0_carry l dC dI xl xn xm cL ta H.size u g1 k ((k + q.2.1) % 8) 0 1 0 (by omega) (by omega) (by decide) (by omega)) (cwV 4 hts gX1_pass_X0_carry rfl rfl rfl (by decide +kernel) ⟨Nat.le_of_ble_eq_true rfl, Nat.le_of_ble_eq_true rfl⟩) ⟨ax_fbW, va_recv hK hP (ci := 0) (q0 := 0) rfl rfl, ax_prW hPc hKc hDc hS hFc hE⟩ rfl rfl hl.1 rfl (lv_room (Nat.le_of_ble_eq_true rfl)) dX1_pass_139 ⟨Nat.le_of_ble_eq_true rfl, Nat.le_of_ble_eq_true rfl⟩) hS (fun q _ h9 => hFc q h9) hFc (fun u_37 t8 H locs ht hvm hw_36 hB hz1 hk1 hS => ?_)
      obtain ⟨hP1, hK1, hD1⟩ := hB
      rw [ht] at hP1
      have hK1 := va_K.moved hvm.symm hK1
      obtain ⟨hP, hD⟩ := va_joinQ (X := [(xl, .inr (0, [.ref xn, .ref xm])), (xn, .inl (cL, 64, .inr (.inl u))), (xm, .inl (cL, 64, .inr (.inl g1)))]) (cx := [(xl, .inr (0, [.ref xn, .ref xm])), (xn, .inl (cL, 64, .inr (.inl u))), (xm, .inl (cL, 64, .inr (.inl g1)))]) (wr := []) (w1 := [(xl, .inr (0, [.ref xn, .ref xm])), (xn, .inl (cL, 64, .inr (.inl u))), (xm, .inl (cL, 64, .inr (.inl (cr k ((k + q.2.1) % 8) 0 1 u g1))))]) (pl := va_pl L f) hP hD [0, 1, 2] [] rfl rfl (by decide) (by decide) hk1 hFc hP1 hD1
      have hP : va_P (dC, dI) vwCl ([(xl, .inr (0, [.ref xn, .ref xm])), (xn, .inl (cL, 64, .inr (.inl u))), (xm, .inl (cL, 64, .inr (.inl (cr k ((k + q.2.1) % 8) 0 1 u g1))))] ++ va_pl L f) H := hP
      have hD : va_D A ([(xl, .inr (0, [.ref xn, .ref xm])), (xn, .inl (cL, 64, .inr (.inl u))), (xm, .inl (cL, 64, .inr (.inl (cr k ((k + q.2.1) % 8) 0 1 u g1))))] ++ va_pl L f) := hD
      refine lv_goto (tgt := 221) hx hb dX1_pass_142 (by decide) ?_
      refine lv_iinc (v := (nI (k + 1))) (lv' := [(2, .int (nI (k + 1))), (0, .ref a), (1, .ref xl)]) hx hb dX1_pass_221 hl (k := 0) rfl (nI_succ _).symm (by decide) rfl (fun ls hl => ?_)
      refine lv_goto (tgt := 2) hx hb dX1_pass_224 (by decide) ?_
      exact ih_1 (k + 1, (cr k ((k + q.2.1) % 8) 0 1 u g1)) H locs ls ⟨by omega, by rw [hg]; show _ = opk q k u (opN q u k); unfold opk; simp [hq9], hl, hP, hD, hS⟩ (show 8 - (k + 1) < 8 - k by omega)
    · refine lv_tableIn (tgt := 145) hx hb dX1_pass_12 (by rw [hq9]; decide) (by rw [hq9]; decide) (by rw [hq9]; rfl) (by decide) ?_
      have hx9k := hex9 k (by omega)
      have hh9 := hhi9; rw [hq9] at hh9
      have hh9 : q.2.1 ≤ 0 := hh9
      refine lv_aload_n hx hb dX1_pass_145 rfl (lv_at hl 2 rfl) ?_
      refine lv_iload_n hx hb dX1_pass_146 rfl (lv_at hl 0 rfl) ?_
      refine lv_bipush (v := 7) hx hb dX1_pass_147 (by decide) ?_
      refine lv_iload_n hx hb dX1_pass_149 rfl (lv_at hl 0 rfl) ?_
      refine lv_isub hx hb dX1_pass_150 ?_
      refine ax_i (y := (nI (7 - k))) (pk_sub (a := 7) (b := k) (by omega)) ?_
      refine lv_iconst (v := 0) hx hb dX1_pass_151 (by decide) ?_
      refine lv_iconst (v := 1) hx hb dX1_pass_152 (by decide) ?_
      have hPc := hP.sub (ws' := [(xl, .inr (0, [.ref xn, .ref xm])), (xn, .inl (cL, 64, .inr (.inl u))), (xm, .inl (cL, 64, .inr (.inl g1)))]) [0, 1, 2] rfl
      have hKc := hK.sub (tys' := [(cL, .long)]) [0] rfl
      have hDc := hD.sub (ws' := [(xl, .inr (0, [.ref xn, .ref xm])), (xn, .inl (cL, 64, .inr (.inl u))), (xm, .inl (cL, 64, .inr (.inl g1)))]) [0, 1, 2] (by decide) rfl
      have hFc := va_free (wc := [(xl, .inr (0, [.ref xn, .ref xm])), (xn, .inl (cL, 64, .inr (.inl u))), (xm, .inl (cL, 64, .inr (.inl g1)))]) hD hS hA [0, 1, 2] rfl
      refine va_callv (va_runV (As := [.int (nI k), .int (nI (7 - k)), .int 0, .int 1]) (rest := []) ⟨hx, hb, hml, hown, hts⟩ (c_X0_carry l dC dI xl xn xm cL ta H.size u g1 k (7 - k) 0 1 0 (by omega) (by omega) (by decide) (by omega)) (cwV 4 hts gX1_pass_X0_carry rfl rfl rfl (by decide +kernel) ⟨Nat.le_of_ble_eq_true rfl, Nat.le_of_ble_eq_true rfl⟩) ⟨ax_fbW, va_recv hK hP (ci := 0) (q0 := 0) rfl rfl, ax_prW hPc hKc hDc hS hFc hE⟩ rfl rfl hl.1 rfl (lv_room (Nat.le_of_ble_eq_true rfl)) dX1_pass_153 ⟨Nat.le_of_ble_eq_true rfl, Nat.le_of_ble_eq_true rfl⟩) hS (fun q _ h9 => hFc q h9) hFc (fun u_41 t8 H locs ht hvm hw_40 hB hz1 hk1 hS => ?_)
      obtain ⟨hP1, hK1, hD1⟩ := hB
      rw [ht] at hP1
      have hK1 := va_K.moved hvm.symm hK1
      obtain ⟨hP, hD⟩ := va_joinQ (X := [(xl, .inr (0, [.ref xn, .ref xm])), (xn, .inl (cL, 64, .inr (.inl u))), (xm, .inl (cL, 64, .inr (.inl g1)))]) (cx := [(xl, .inr (0, [.ref xn, .ref xm])), (xn, .inl (cL, 64, .inr (.inl u))), (xm, .inl (cL, 64, .inr (.inl g1)))]) (wr := []) (w1 := [(xl, .inr (0, [.ref xn, .ref xm])), (xn, .inl (cL, 64, .inr (.inl u))), (xm, .inl (cL, 64, .inr (.inl (cr k (7 - k) 0 1 u g1))))]) (pl := va_pl L f) hP hD [0, 1, 2] [] rfl rfl (by decide) (by decide) hk1 hFc hP1 hD1
      have hP : va_P (dC, dI) vwCl ([(xl, .inr (0, [.ref xn, .ref xm])), (xn, .inl (cL, 64, .inr (.inl u))), (xm, .inl (cL, 64, .inr (.inl (cr k (7 - k) 0 1 u g1))))] ++ va_pl L f) H := hP
      have hD : va_D A ([(xl, .inr (0, [.ref xn, .ref xm])), (xn, .inl (cL, 64, .inr (.inl u))), (xm, .inl (cL, 64, .inr (.inl (cr k (7 - k) 0 1 u g1))))] ++ va_pl L f) := hD
      refine lv_goto (tgt := 221) hx hb dX1_pass_156 (by decide) ?_
      refine lv_iinc (v := (nI (k + 1))) (lv' := [(2, .int (nI (k + 1))), (0, .ref a), (1, .ref xl)]) hx hb dX1_pass_221 hl (k := 0) rfl (nI_succ _).symm (by decide) rfl (fun ls hl => ?_)
      refine lv_goto (tgt := 2) hx hb dX1_pass_224 (by decide) ?_
      exact ih_1 (k + 1, (cr k (7 - k) 0 1 u g1)) H locs ls ⟨by omega, by rw [hg]; show _ = opk q k u (opN q u k); unfold opk; simp [hq9], hl, hP, hD, hS⟩ (show 8 - (k + 1) < 8 - k by omega)
    · refine lv_tableIn (tgt := 159) hx hb dX1_pass_12 (by rw [hq9]; decide) (by rw [hq9]; decide) (by rw [hq9]; rfl) (by decide) ?_
      have hx9k := hex9 k (by omega)
      have hh9 := hhi9; rw [hq9] at hh9
      have hh9 : q.2.1 ≤ 3 := hh9
      refine lv_aload_n hx hb dX1_pass_159 rfl (lv_at hl 2 rfl) ?_
      refine lv_iload_n hx hb dX1_pass_160 rfl (lv_at hl 0 rfl) ?_
      refine lv_iload_n hx hb dX1_pass_161 rfl (lv_at hl 0 rfl) ?_
      refine lv_iconst (v := 0) hx hb dX1_pass_162 (by decide) ?_
      refine lv_aload_n hx hb dX1_pass_163 rfl (lv_at hl 1 rfl) ?_
      obtain ⟨k_43, hk_44⟩ := ax_pg (X := [(xl, .inr (0, [.ref xn, .ref xm])), (xn, .inl (cL, 64, .inr (.inl u))), (xm, .inl (cL, 64, .inr (.inl g1)))]) (f := f) ha hfa
      refine va_get (D := (dC, dI)) (ci := 1) (v := .int (nI q.2.1)) (C := RX1) (T := TX1) (N := 6) hx hb hts (by decide +kernel) hown hK hP k_43 hk_44 rfl 1 (by decide) (hts (.fieldLink RX1 29 "Diffractory$Part" "number" "I") (by decide +kernel)) (fun _ h9 => h9) rfl dX1_pass_164 ?_
      have hPc := hP.sub (ws' := [(xl, .inr (0, [.ref xn, .ref xm])), (xn, .inl (cL, 64, .inr (.inl u))), (xm, .inl (cL, 64, .inr (.inl g1)))]) [0, 1, 2] rfl
      have hKc := hK.sub (tys' := [(cL, .long)]) [0] rfl
      have hDc := hD.sub (ws' := [(xl, .inr (0, [.ref xn, .ref xm])), (xn, .inl (cL, 64, .inr (.inl u))), (xm, .inl (cL, 64, .inr (.inl g1)))]) [0, 1, 2] (by decide) rfl
      have hFc := va_free (wc := [(xl, .inr (0, [.ref xn, .ref xm])), (xn, .inl (cL, 64, .inr (.inl u))), (xm, .inl (cL, 64, .inr (.inl g1)))]) hD hS hA [0, 1, 2] rfl
      refine va_callv (va_runV (As := [.int (nI k), .int (nI k), .int 0, .int (nI q.2.1)]) (rest := []) ⟨hx, hb, hml, hown, hts⟩ (c_X0_carry l dC dI xl xn xm cL ta H.size u g1 k k 0 (nI q.2.1) 0 (by omega) (by omega) (by decide) (by omega)) (cwV 4 hts gX1_pass_X0_carry rfl rfl rfl (by decide +kernel) ⟨Nat.le_of_ble_eq_true rfl, Nat.le_of_ble_eq_true rfl⟩) ⟨ax_fbW, va_recv hK hP (ci := 0) (q0 := 0) rfl rfl, ax_prW hPc hKc hDc hS hFc hE⟩ rfl rfl hl.1 rfl (lv_room (Nat.le_of_ble_eq_true rfl)) dX1_pass_167 ⟨Nat.le_of_ble_eq_true rfl, Nat.le_of_ble_eq_true rfl⟩) hS (fun q _ h9 => hFc q h9) hFc (fun u_47 t8 H locs ht hvm hw_46 hB hz1 hk1 hS => ?_)
      obtain ⟨hP1, hK1, hD1⟩ := hB
      rw [ht] at hP1
      have hK1 := va_K.moved hvm.symm hK1
      obtain ⟨hP, hD⟩ := va_joinQ (X := [(xl, .inr (0, [.ref xn, .ref xm])), (xn, .inl (cL, 64, .inr (.inl u))), (xm, .inl (cL, 64, .inr (.inl g1)))]) (cx := [(xl, .inr (0, [.ref xn, .ref xm])), (xn, .inl (cL, 64, .inr (.inl u))), (xm, .inl (cL, 64, .inr (.inl g1)))]) (wr := []) (w1 := [(xl, .inr (0, [.ref xn, .ref xm])), (xn, .inl (cL, 64, .inr (.inl u))), (xm, .inl (cL, 64, .inr (.inl (cr k k 0 (nI q.2.1) u g1))))]) (pl := va_pl L f) hP hD [0, 1, 2] [] rfl rfl (by decide) (by decide) hk1 hFc hP1 hD1
      have hP : va_P (dC, dI) vwCl ([(xl, .inr (0, [.ref xn, .ref xm])), (xn, .inl (cL, 64, .inr (.inl u))), (xm, .inl (cL, 64, .inr (.inl (cr k k 0 (nI q.2.1) u g1))))] ++ va_pl L f) H := hP
      have hD : va_D A ([(xl, .inr (0, [.ref xn, .ref xm])), (xn, .inl (cL, 64, .inr (.inl u))), (xm, .inl (cL, 64, .inr (.inl (cr k k 0 (nI q.2.1) u g1))))] ++ va_pl L f) := hD
      refine lv_goto (tgt := 221) hx hb dX1_pass_170 (by decide) ?_
      refine lv_iinc (v := (nI (k + 1))) (lv' := [(2, .int (nI (k + 1))), (0, .ref a), (1, .ref xl)]) hx hb dX1_pass_221 hl (k := 0) rfl (nI_succ _).symm (by decide) rfl (fun ls hl => ?_)
      refine lv_goto (tgt := 2) hx hb dX1_pass_224 (by decide) ?_
      exact ih_1 (k + 1, (cr k k 0 (nI q.2.1) u g1)) H locs ls ⟨by omega, by rw [hg]; show _ = opk q k u (opN q u k); unfold opk; simp [hq9], hl, hP, hD, hS⟩ (show 8 - (k + 1) < 8 - k by omega)
    · refine lv_tableIn (tgt := 173) hx hb dX1_pass_12 (by rw [hq9]; decide) (by rw [hq9]; decide) (by rw [hq9]; rfl) (by decide) ?_
      have hx9k := hex9 k (by omega)
      have hh9 := hhi9; rw [hq9] at hh9
      have hh9 : q.2.1 ≤ 0 := hh9
      refine lv_aload_n hx hb dX1_pass_173 rfl (lv_at hl 2 rfl) ?_
      refine lv_iload_n hx hb dX1_pass_174 rfl (lv_at hl 0 rfl) ?_
      refine lv_iload_n hx hb dX1_pass_175 rfl (lv_at hl 0 rfl) ?_
      refine lv_iconst (v := 0) hx hb dX1_pass_176 (by decide) ?_
      refine lv_bipush (v := 9) hx hb dX1_pass_177 (by decide) ?_
      refine lv_aload_n hx hb dX1_pass_179 rfl (lv_at hl 1 rfl) ?_
      obtain ⟨k_49, hk_50⟩ := ax_pg (X := [(xl, .inr (0, [.ref xn, .ref xm])), (xn, .inl (cL, 64, .inr (.inl u))), (xm, .inl (cL, 64, .inr (.inl g1)))]) (f := f) ha hfa
      refine va_get (D := (dC, dI)) (ci := 1) (v := .ref e9) (C := RX1) (T := TX1) (N := 6) hx hb hts (by decide +kernel) hown hK hP k_49 hk_50 rfl 5 (by decide) (hts (.fieldLink RX1 22 "Diffractory$Part" "exposures" "[I") (by decide +kernel)) (fun _ h9 => h9) rfl dX1_pass_180 ?_
      refine lv_iload_n hx hb dX1_pass_183 rfl (lv_at hl 0 rfl) ?_
      obtain ⟨k_51, hk_52⟩ := ax_pg (X := [(xl, .inr (0, [.ref xn, .ref xm])), (xn, .inl (cL, 64, .inr (.inl u))), (xm, .inl (cL, 64, .inr (.inl g1)))]) (f := f) he hfe
      refine va_iald hx hb hK hP k_51 1 hk_52 rfl (ax_in (by omega) (by omega)) dX1_pass_184 ?_
      refine ax_i (y := (nI (q.2.2.2.2.2 k))) (by rw [nI_clamp (n := k) (by omega)]; rfl) ?_
      refine lv_isub hx hb dX1_pass_185 ?_
      refine ax_i (y := (nI (9 - (q.2.2.2.2.2 k)))) (pk_sub (a := 9) (b := q.2.2.2.2.2 k) (by omega)) ?_
      have hPc := hP.sub (ws' := [(xl, .inr (0, [.ref xn, .ref xm])), (xn, .inl (cL, 64, .inr (.inl u))), (xm, .inl (cL, 64, .inr (.inl g1)))]) [0, 1, 2] rfl
      have hKc := hK.sub (tys' := [(cL, .long)]) [0] rfl
      have hDc := hD.sub (ws' := [(xl, .inr (0, [.ref xn, .ref xm])), (xn, .inl (cL, 64, .inr (.inl u))), (xm, .inl (cL, 64, .inr (.inl g1)))]) [0, 1, 2] (by decide) rfl
      have hFc := va_free (wc := [(xl, .inr (0, [.ref xn, .ref xm])), (xn, .inl (cL, 64, .inr (.inl u))), (xm, .inl (cL, 64, .inr (.inl g1)))]) hD hS hA [0, 1, 2] rfl
      refine va_callv (va_runV (As := [.int (nI k), .int (nI k), .int 0, .int (nI (9 - (q.2.2.2.2.2 k)))]) (rest := []) ⟨hx, hb, hml, hown, hts⟩ (c_X0_carry l dC dI xl xn xm cL ta H.size u g1 k k 0 (nI (9 - (q.2.2.2.2.2 k))) 0 (by omega) (by omega) (by decide) (by omega)) (cwV 4 hts gX1_pass_X0_carry rfl rfl rfl (by decide +kernel) ⟨Nat.le_of_ble_eq_true rfl, Nat.le_of_ble_eq_true rfl⟩) ⟨ax_fbW, va_recv hK hP (ci := 0) (q0 := 0) rfl rfl, ax_prW hPc hKc hDc hS hFc hE⟩ rfl rfl hl.1 rfl (lv_room (Nat.le_of_ble_eq_true rfl)) dX1_pass_186 ⟨Nat.le_of_ble_eq_true rfl, Nat.le_of_ble_eq_true rfl⟩) hS (fun q _ h9 => hFc q h9) hFc (fun u_55 t8 H locs ht hvm hw_54 hB hz1 hk1 hS => ?_)
      obtain ⟨hP1, hK1, hD1⟩ := hB
      rw [ht] at hP1
      have hK1 := va_K.moved hvm.symm hK1
      obtain ⟨hP, hD⟩ := va_joinQ (X := [(xl, .inr (0, [.ref xn, .ref xm])), (xn, .inl (cL, 64, .inr (.inl u))), (xm, .inl (cL, 64, .inr (.inl g1)))]) (cx := [(xl, .inr (0, [.ref xn, .ref xm])), (xn, .inl (cL, 64, .inr (.inl u))), (xm, .inl (cL, 64, .inr (.inl g1)))]) (wr := []) (w1 := [(xl, .inr (0, [.ref xn, .ref xm])), (xn, .inl (cL, 64, .inr (.inl u))), (xm, .inl (cL, 64, .inr (.inl (cr k k 0 (nI (9 - (q.2.2.2.2.2 k))) u g1))))]) (pl := va_pl L f) hP hD [0, 1, 2] [] rfl rfl (by decide) (by decide) hk1 hFc hP1 hD1
      have hP : va_P (dC, dI) vwCl ([(xl, .inr (0, [.ref xn, .ref xm])), (xn, .inl (cL, 64, .inr (.inl u))), (xm, .inl (cL, 64, .inr (.inl (cr k k 0 (nI (9 - (q.2.2.2.2.2 k))) u g1))))] ++ va_pl L f) H := hP
      have hD : va_D A ([(xl, .inr (0, [.ref xn, .ref xm])), (xn, .inl (cL, 64, .inr (.inl u))), (xm, .inl (cL, 64, .inr (.inl (cr k k 0 (nI (9 - (q.2.2.2.2.2 k))) u g1))))] ++ va_pl L f) := hD
      refine lv_goto (tgt := 221) hx hb dX1_pass_189 (by decide) ?_
      refine lv_iinc (v := (nI (k + 1))) (lv' := [(2, .int (nI (k + 1))), (0, .ref a), (1, .ref xl)]) hx hb dX1_pass_221 hl (k := 0) rfl (nI_succ _).symm (by decide) rfl (fun ls hl => ?_)
      refine lv_goto (tgt := 2) hx hb dX1_pass_224 (by decide) ?_
      exact ih_1 (k + 1, (cr k k 0 (nI (9 - (q.2.2.2.2.2 k))) u g1)) H locs ls ⟨by omega, by rw [hg]; show _ = opk q k u (opN q u k); unfold opk; simp [hq9], hl, hP, hD, hS⟩ (show 8 - (k + 1) < 8 - k by omega)
    · refine lv_tableIn (tgt := 192) hx hb dX1_pass_12 (by rw [hq9]; decide) (by rw [hq9]; decide) (by rw [hq9]; rfl) (by decide) ?_
      have hx9k := hex9 k (by omega)
      have hh9 := hhi9; rw [hq9] at hh9
      have hh9 : q.2.1 ≤ 7 := hh9
      refine lv_aload_n hx hb dX1_pass_192 rfl (lv_at hl 2 rfl) ?_
      refine lv_iload_n hx hb dX1_pass_193 rfl (lv_at hl 0 rfl) ?_
      refine lv_aload_n hx hb dX1_pass_194 rfl (lv_at hl 1 rfl) ?_
      obtain ⟨k_57, hk_58⟩ := ax_pg (X := [(xl, .inr (0, [.ref xn, .ref xm])), (xn, .inl (cL, 64, .inr (.inl u))), (xm, .inl (cL, 64, .inr (.inl g1)))]) (f := f) ha hfa
      refine va_get (D := (dC, dI)) (ci := 1) (v := .int (nI q.2.1)) (C := RX1) (T := TX1) (N := 6) hx hb hts (by decide +kernel) hown hK hP k_57 hk_58 rfl 1 (by decide) (hts (.fieldLink RX1 29 "Diffractory$Part" "number" "I") (by decide +kernel)) (fun _ h9 => h9) rfl dX1_pass_195 ?_
      have hPc := hP.sub (ws' := [(xl, .inr (0, [.ref xn, .ref xm])), (xn, .inl (cL, 64, .inr (.inl u))), (xm, .inl (cL, 64, .inr (.inl g1)))]) [0, 1, 2] rfl
      have hKc := hK.sub (tys' := [(cL, .long)]) [0] rfl
      have hDc := hD.sub (ws' := [(xl, .inr (0, [.ref xn, .ref xm])), (xn, .inl (cL, 64, .inr (.inl u))), (xm, .inl (cL, 64, .inr (.inl g1)))]) [0, 1, 2] (by decide) rfl
      have hFc := va_free (wc := [(xl, .inr (0, [.ref xn, .ref xm])), (xn, .inl (cL, 64, .inr (.inl u))), (xm, .inl (cL, 64, .inr (.inl g1)))]) hD hS hA [0, 1, 2] rfl
      refine va_callv (va_runV (As := [.int (nI k), .int (nI q.2.1)]) (rest := []) ⟨hx, hb, hml, hown, hts⟩ (c_X0_retard l dC dI xl xn xm cL ta H.size u g1 k (nI q.2.1) q.2.1 (by omega) ((pk_andN (by omega) 3 rfl).trans (by rw [show q.2.1 % 8 = q.2.1 by omega])) (by omega)) (cwV 2 hts gX1_pass_X0_retard rfl rfl rfl (by decide +kernel) ⟨Nat.le_of_ble_eq_true rfl, Nat.le_of_ble_eq_true rfl⟩) ⟨ax_fbW, va_recv hK hP (ci := 0) (q0 := 0) rfl rfl, ax_prW hPc hKc hDc hS hFc hE⟩ rfl rfl hl.1 rfl (lv_room (Nat.le_of_ble_eq_true rfl)) dX1_pass_198 ⟨Nat.le_of_ble_eq_true rfl, Nat.le_of_ble_eq_true rfl⟩) hS (fun q _ h9 => hFc q h9) hFc (fun u_61 t8 H locs ht hvm hw_60 hB hz1 hk1 hS => ?_)
      obtain ⟨hP1, hK1, hD1⟩ := hB
      rw [ht] at hP1
      have hK1 := va_K.moved hvm.symm hK1
      obtain ⟨hP, hD⟩ := va_joinQ (X := [(xl, .inr (0, [.ref xn, .ref xm])), (xn, .inl (cL, 64, .inr (.inl u))), (xm, .inl (cL, 64, .inr (.inl g1)))]) (cx := [(xl, .inr (0, [.ref xn, .ref xm])), (xn, .inl (cL, 64, .inr (.inl u))), (xm, .inl (cL, 64, .inr (.inl g1)))]) (wr := []) (w1 := [(xl, .inr (0, [.ref xn, .ref xm])), (xn, .inl (cL, 64, .inr (.inl u))), (xm, .inl (cL, 64, .inr (.inl (rtd k q.2.1 u g1))))]) (pl := va_pl L f) hP hD [0, 1, 2] [] rfl rfl (by decide) (by decide) hk1 hFc hP1 hD1
      have hP : va_P (dC, dI) vwCl ([(xl, .inr (0, [.ref xn, .ref xm])), (xn, .inl (cL, 64, .inr (.inl u))), (xm, .inl (cL, 64, .inr (.inl (rtd k q.2.1 u g1))))] ++ va_pl L f) H := hP
      have hD : va_D A ([(xl, .inr (0, [.ref xn, .ref xm])), (xn, .inl (cL, 64, .inr (.inl u))), (xm, .inl (cL, 64, .inr (.inl (rtd k q.2.1 u g1))))] ++ va_pl L f) := hD
      refine lv_goto (tgt := 221) hx hb dX1_pass_201 (by decide) ?_
      refine lv_iinc (v := (nI (k + 1))) (lv' := [(2, .int (nI (k + 1))), (0, .ref a), (1, .ref xl)]) hx hb dX1_pass_221 hl (k := 0) rfl (nI_succ _).symm (by decide) rfl (fun ls hl => ?_)
      refine lv_goto (tgt := 2) hx hb dX1_pass_224 (by decide) ?_
      exact ih_1 (k + 1, (rtd k q.2.1 u g1)) H locs ls ⟨by omega, by rw [hg]; show _ = opk q k u (opN q u k); unfold opk; simp [hq9], hl, hP, hD, hS⟩ (show 8 - (k + 1) < 8 - k by omega)
    · refine lv_tableIn (tgt := 204) hx hb dX1_pass_12 (by rw [hq9]; decide) (by rw [hq9]; decide) (by rw [hq9]; rfl) (by decide) ?_
      have hx9k := hex9 k (by omega)
      have hh9 := hhi9; rw [hq9] at hh9
      have hh9 : q.2.1 ≤ 0 := hh9
      refine lv_aload_n hx hb dX1_pass_204 rfl (lv_at hl 2 rfl) ?_
      refine lv_iload_n hx hb dX1_pass_205 rfl (lv_at hl 0 rfl) ?_
      have hPc := hP.sub (ws' := [(xl, .inr (0, [.ref xn, .ref xm])), (xn, .inl (cL, 64, .inr (.inl u))), (xm, .inl (cL, 64, .inr (.inl g1)))]) [0, 1, 2] rfl
      have hKc := hK.sub (tys' := [(cL, .long)]) [0] rfl
      have hDc := hD.sub (ws' := [(xl, .inr (0, [.ref xn, .ref xm])), (xn, .inl (cL, 64, .inr (.inl u))), (xm, .inl (cL, 64, .inr (.inl g1)))]) [0, 1, 2] (by decide) rfl
      have hFc := va_free (wc := [(xl, .inr (0, [.ref xn, .ref xm])), (xn, .inl (cL, 64, .inr (.inl u))), (xm, .inl (cL, 64, .inr (.inl g1)))]) hD hS hA [0, 1, 2] rfl
      refine va_callv (va_runV (As := [.int (nI k)]) (rest := []) ⟨hx, hb, hml, hown, hts⟩ (c_X0_exchange l dC dI xl xn xm cL ta H.size u g1 k (by omega)) (cwV 1 hts gX1_pass_X0_exchange rfl rfl rfl (by decide +kernel) ⟨Nat.le_of_ble_eq_true rfl, Nat.le_of_ble_eq_true rfl⟩) ⟨ax_fbW, va_recv hK hP (ci := 0) (q0 := 0) rfl rfl, ax_prW hPc hKc hDc hS hFc hE⟩ rfl rfl hl.1 rfl (lv_room (Nat.le_of_ble_eq_true rfl)) dX1_pass_206 ⟨Nat.le_of_ble_eq_true rfl, Nat.le_of_ble_eq_true rfl⟩) hS (fun q _ h9 => hFc q h9) hFc (fun u_65 t8 H locs ht hvm hw_64 hB hz1 hk1 hS => ?_)
      obtain ⟨hP1, hK1, hD1⟩ := hB
      rw [ht] at hP1
      have hK1 := va_K.moved hvm.symm hK1
      obtain ⟨hP, hD⟩ := va_joinQ (X := [(xl, .inr (0, [.ref xn, .ref xm])), (xn, .inl (cL, 64, .inr (.inl u))), (xm, .inl (cL, 64, .inr (.inl g1)))]) (cx := [(xl, .inr (0, [.ref xn, .ref xm])), (xn, .inl (cL, 64, .inr (.inl u))), (xm, .inl (cL, 64, .inr (.inl g1)))]) (wr := []) (w1 := [(xl, .inr (0, [.ref xn, .ref xm])), (xn, .inl (cL, 64, .inr (.inl u))), (xm, .inl (cL, 64, .inr (.inl (xch k u g1))))]) (pl := va_pl L f) hP hD [0, 1, 2] [] rfl rfl (by decide) (by decide) hk1 hFc hP1 hD1
      have hP : va_P (dC, dI) vwCl ([(xl, .inr (0, [.ref xn, .ref xm])), (xn, .inl (cL, 64, .inr (.inl u))), (xm, .inl (cL, 64, .inr (.inl (xch k u g1))))] ++ va_pl L f) H := hP
      have hD : va_D A ([(xl, .inr (0, [.ref xn, .ref xm])), (xn, .inl (cL, 64, .inr (.inl u))), (xm, .inl (cL, 64, .inr (.inl (xch k u g1))))] ++ va_pl L f) := hD
      refine lv_goto (tgt := 221) hx hb dX1_pass_209 (by decide) ?_
      refine lv_iinc (v := (nI (k + 1))) (lv' := [(2, .int (nI (k + 1))), (0, .ref a), (1, .ref xl)]) hx hb dX1_pass_221 hl (k := 0) rfl (nI_succ _).symm (by decide) rfl (fun ls hl => ?_)
      refine lv_goto (tgt := 2) hx hb dX1_pass_224 (by decide) ?_
      exact ih_1 (k + 1, (xch k u g1)) H locs ls ⟨by omega, by rw [hg]; show _ = opk q k u (opN q u k); unfold opk; simp [hq9], hl, hP, hD, hS⟩ (show 8 - (k + 1) < 8 - k by omega)
    · refine lv_tableOut (tgt := 212) hx hb dX1_pass_12 (by rw [hq9]; decide) (by decide) ?_
      have hx9k := hex9 k (by omega)
      have hh9 := hhi9; rw [hq9] at hh9
      have hh9 : q.2.1 ≤ 3 := hh9
      refine lv_aload_n hx hb dX1_pass_212 rfl (lv_at hl 2 rfl) ?_
      refine lv_iload_n hx hb dX1_pass_213 rfl (lv_at hl 0 rfl) ?_
      refine lv_aload_n hx hb dX1_pass_214 rfl (lv_at hl 1 rfl) ?_
      obtain ⟨k_67, hk_68⟩ := ax_pg (X := [(xl, .inr (0, [.ref xn, .ref xm])), (xn, .inl (cL, 64, .inr (.inl u))), (xm, .inl (cL, 64, .inr (.inl g1)))]) (f := f) ha hfa
      refine va_get (D := (dC, dI)) (ci := 1) (v := .int (nI q.2.1)) (C := RX1) (T := TX1) (N := 6) hx hb hts (by decide +kernel) hown hK hP k_67 hk_68 rfl 1 (by decide) (hts (.fieldLink RX1 29 "Diffractory$Part" "number" "I") (by decide +kernel)) (fun _ h9 => h9) rfl dX1_pass_215 ?_
      have hPc := hP.sub (ws' := [(xl, .inr (0, [.ref xn, .ref xm])), (xn, .inl (cL, 64, .inr (.inl u))), (xm, .inl (cL, 64, .inr (.inl g1)))]) [0, 1, 2] rfl
      have hKc := hK.sub (tys' := [(cL, .long)]) [0] rfl
      have hDc := hD.sub (ws' := [(xl, .inr (0, [.ref xn, .ref xm])), (xn, .inl (cL, 64, .inr (.inl u))), (xm, .inl (cL, 64, .inr (.inl g1)))]) [0, 1, 2] (by decide) rfl
      have hFc := va_free (wc := [(xl, .inr (0, [.ref xn, .ref xm])), (xn, .inl (cL, 64, .inr (.inl u))), (xm, .inl (cL, 64, .inr (.inl g1)))]) hD hS hA [0, 1, 2] rfl
      refine va_callv (va_runV (As := [.int (nI k), .int (nI q.2.1)]) (rest := []) ⟨hx, hb, hml, hown, hts⟩ (c_X0_polarise l dC dI xl xn xm cL ta H.size u g1 k q.2.1 (by omega) (by omega)) (cwV 2 hts gX1_pass_X0_polarise rfl rfl rfl (by decide +kernel) ⟨Nat.le_of_ble_eq_true rfl, Nat.le_of_ble_eq_true rfl⟩) ⟨ax_fbW, va_recv hK hP (ci := 0) (q0 := 0) rfl rfl, ax_prW hPc hKc hDc hS hFc hE⟩ rfl rfl hl.1 rfl (lv_room (Nat.le_of_ble_eq_true rfl)) dX1_pass_218 ⟨Nat.le_of_ble_eq_true rfl, Nat.le_of_ble_eq_true rfl⟩) hS (fun q _ h9 => hFc q h9) hFc (fun u_71 t8 H locs ht hvm hw_70 hB hz1 hk1 hS => ?_)
      obtain ⟨hP1, hK1, hD1⟩ := hB
      rw [ht] at hP1
      have hK1 := va_K.moved hvm.symm hK1
      obtain ⟨hP, hD⟩ := va_joinQ (X := [(xl, .inr (0, [.ref xn, .ref xm])), (xn, .inl (cL, 64, .inr (.inl u))), (xm, .inl (cL, 64, .inr (.inl g1)))]) (cx := [(xl, .inr (0, [.ref xn, .ref xm])), (xn, .inl (cL, 64, .inr (.inl u))), (xm, .inl (cL, 64, .inr (.inl g1)))]) (wr := []) (w1 := [(xl, .inr (0, [.ref xn, .ref xm])), (xn, .inl (cL, 64, .inr (.inl u))), (xm, .inl (cL, 64, .inr (.inl (pol k q.2.1 u g1))))]) (pl := va_pl L f) hP hD [0, 1, 2] [] rfl rfl (by decide) (by decide) hk1 hFc hP1 hD1
      have hP : va_P (dC, dI) vwCl ([(xl, .inr (0, [.ref xn, .ref xm])), (xn, .inl (cL, 64, .inr (.inl u))), (xm, .inl (cL, 64, .inr (.inl (pol k q.2.1 u g1))))] ++ va_pl L f) H := hP
      have hD : va_D A ([(xl, .inr (0, [.ref xn, .ref xm])), (xn, .inl (cL, 64, .inr (.inl u))), (xm, .inl (cL, 64, .inr (.inl (pol k q.2.1 u g1))))] ++ va_pl L f) := hD
      refine lv_iinc (v := (nI (k + 1))) (lv' := [(2, .int (nI (k + 1))), (0, .ref a), (1, .ref xl)]) hx hb dX1_pass_221 hl (k := 0) rfl (nI_succ _).symm (by decide) rfl (fun ls hl => ?_)
      refine lv_goto (tgt := 2) hx hb dX1_pass_224 (by decide) ?_
      exact ih_1 (k + 1, (pol k q.2.1 u g1)) H locs ls ⟨by omega, by rw [hg]; show _ = opk q k u (opN q u k); unfold opk; simp [hq9], hl, hP, hD, hS⟩ (show 8 - (k + 1) < 8 - k by omega)

set_option maxHeartbeats 4000000 in
set_option maxRecDepth 100000 in
theorem c_X3_init (l : Launch) (dC : Nat → ClassId) (dI : Nat → Nat → Nat) (xa : Nat) (ta : Nat → Nat) (sz : Nat) (p0 : Nat) (p1 : Nat) (p2 : Nat) : Met l yX3_init wsX3_init ({ frames := 1, cells := 0, slots := 0, locals := 12 }) (va_Pc [.ref xa, .int (nI p0), .int (nI p1), .int (nI p2)] (ax_W (dC, dI) vwCl [(xa, .inr (3, [.int 0, .int 0, .int 0]))] [] ta sz)) (va_Qv (fun (u9 : Unit) => True) (fun (u9 : Unit) (t9 : State) => va_P (dC, dI) vwCl [(xa, .inr (3, [.int (nI p0), .int (nI p1), .int (nI p2)]))] t9.heap ∧ va_K (dC, dI) vwCl [] t9 ∧ va_D (va_A [(xa, .inr (3, [.int 0, .int 0, .int 0]))] sz) [(xa, .inr (3, [.int (nI p0), .int (nI p1), .int (nI p2)]))]) (va_A [(xa, .inr (3, [.int 0, .int 0, .int 0]))] sz)) 0 0 (va_A [(xa, .inr (3, [.int 0, .int 0, .int 0]))] sz) := by
  refine Met.ofW (cc := cX3_init) (maxL := 4) (ret := none) (by decide) rfl ?_
  intro p e s m args below meth c s₁ B hml hv
  obtain ⟨rfl, hsz, hP, hK, hD0, hE⟩ := hv
  have hx := B.exec
  have hb := B.bytes
  have hr := B.returns
  have hts := atoms_spec (ws := wsX3_init) B.pre
  have hown : s.vm.findClass RX3 = some m.cls := findClass_of_methodNamed B.named
  have hlocks := B.notSynchronized
  have hin : meth.name = "<init>" := (name_of_methodNamed B.named B.method).1
  subst hsz
  have hD := hD0.self (sz := s.heap.size)
  generalize hAe : va_A [(xa, .inr (3, [.int 0, .int 0, .int 0]))] s.heap.size = A at hD hE ⊢
  have hA : ∀ q : Nat, s.heap.size ≤ q → A q := fun q h => by rw [← hAe]; exact Or.inr h
  have hS : va_S A s.heap s.heap [] := va_S.rf
  have hl := lv_entry ([.ref xa, .int (nI p0), .int (nI p1), .int (nI p2)]) (n := 4) (Nat.le_of_ble_eq_true rfl)
  rw [lg_entry_eq]
  generalize (lg_sl ([.ref xa, .int (nI p0), .int (nI p1), .int (nI p2)]) ++ List.replicate (4 - (lg_sl ([.ref xa, .int (nI p0), .int (nI p1), .int (nI p2)])).length) Slot.unset).toArray = ls at hl ⊢
  have hl : lv_has ls 4 [(0, .ref xa), (1, .int (nI p0)), (2, .int (nI p1)), (3, .int (nI p2))] := hl
  have hP : va_P (dC, dI) vwCl [(xa, .inr (3, [.int 0, .int 0, .int 0]))] s.heap := hP
  refine lv_aload_n hx hb dX3_init_0 rfl (lv_at hl 0 rfl) ?_
  refine W.objInit hx hb hown (hts (.methodLink RX3 1 objectInit) (by decide +kernel)) (hts (.instanceMethod objectInit) (by decide +kernel)) (hts (.code objectInit ⟨#[0xb1]⟩ 1 none) (by decide +kernel)) rfl (by rw [hml]; exact hl.1) rfl dX3_init_1 (Nat.le_of_ble_eq_true rfl) (Nat.le_of_ble_eq_true rfl) ?_
  refine W.eq (g2 := F0 m 4 ls []) rfl ?_
  refine lv_aload_n hx hb dX3_init_4 rfl (lv_at hl 0 rfl) ?_
  refine lv_iload_n hx hb dX3_init_5 rfl (lv_at hl 1 rfl) ?_
  refine va_put (D := (dC, dI)) (ci := 3) (v := .int (nI p0)) (ty := .int) (C := RX3) (T := TX3) (N := 3) hx hb hts (by decide +kernel) tyX3 tyX3_ok nmX3 hown hK hP hD hS 0 rfl rfl 0 (by decide) (hts (.fieldLink RX3 7 "Diffractory$Source" "place" "I") (by decide +kernel)) (fun _ h9 => h9) rfl (by decide +kernel) rfl rfl (Nat.le_of_ble_eq_true rfl) dX3_init_6 (fun H locs hP hD hS => ?_)
  have hP : va_P (dC, dI) vwCl [(xa, .inr (3, [.int (nI p0), .int 0, .int 0]))] H := hP
  have hD : va_D A [(xa, .inr (3, [.int (nI p0), .int 0, .int 0]))] := hD
  refine lv_aload_n hx hb dX3_init_9 rfl (lv_at hl 0 rfl) ?_
  refine lv_iload_n hx hb dX3_init_10 rfl (lv_at hl 2 rfl) ?_
  refine va_put (D := (dC, dI)) (ci := 3) (v := .int (nI p1)) (ty := .int) (C := RX3) (T := TX3) (N := 3) hx hb hts (by decide +kernel) tyX3 tyX3_ok nmX3 hown hK hP hD hS 0 rfl rfl 1 (by decide) (hts (.fieldLink RX3 13 "Diffractory$Source" "phase" "I") (by decide +kernel)) (fun _ h9 => h9) rfl (by decide +kernel) rfl rfl (Nat.le_of_ble_eq_true rfl) dX3_init_11 (fun H locs hP hD hS => ?_)
  have hP : va_P (dC, dI) vwCl [(xa, .inr (3, [.int (nI p0), .int (nI p1), .int 0]))] H := hP
  have hD : va_D A [(xa, .inr (3, [.int (nI p0), .int (nI p1), .int 0]))] := hD
  refine lv_aload_n hx hb dX3_init_14 rfl (lv_at hl 0 rfl) ?_
  refine lv_iload_n hx hb dX3_init_15 rfl (lv_at hl 3 rfl) ?_
  refine va_put (D := (dC, dI)) (ci := 3) (v := .int (nI p2)) (ty := .int) (C := RX3) (T := TX3) (N := 3) hx hb hts (by decide +kernel) tyX3 tyX3_ok nmX3 hown hK hP hD hS 0 rfl rfl 2 (by decide) (hts (.fieldLink RX3 16 "Diffractory$Source" "strength" "I") (by decide +kernel)) (fun _ h9 => h9) rfl (by decide +kernel) rfl rfl (Nat.le_of_ble_eq_true rfl) dX3_init_16 (fun H locs hP hD hS => ?_)
  have hP : va_P (dC, dI) vwCl [(xa, .inr (3, [.int (nI p0), .int (nI p1), .int (nI p2)]))] H := hP
  have hD : va_D A [(xa, .inr (3, [.int (nI p0), .int (nI p1), .int (nI p2)]))] := hD
  refine W.widen (k := 0) (n := 0) (Nat.le_of_ble_eq_true rfl) (Nat.le_of_ble_eq_true rfl) ?_
  have hP9 := hP.sub (ws' := [(xa, .inr (3, [.int (nI p0), .int (nI p1), .int (nI p2)]))]) [0] rfl
  have hD9 := hD.sub (ws' := [(xa, .inr (3, [.int (nI p0), .int (nI p1), .int (nI p2)]))]) [0] (by decide) rfl
  have hK9 := hK.sub (tys' := []) [] rfl
  exact W.vret hx hb hr (fun t8 ht hW => ⟨⟨(), rfl, trivial, by rw [ht]; exact hP9, va_K.moved hW.alike hK9, hD9⟩, hS.F ht⟩) hS.2.2 dX3_init_19

set_option maxHeartbeats 4000000 in
set_option maxRecDepth 100000 in
theorem c_X1_init (l : Launch) (dC : Nat → ClassId) (dI : Nat → Nat → Nat) (xa : Nat) (cI : ClassId) (ta : Nat → Nat) (sz : Nat) (p0 : Nat) (p1 : Nat) : Met l yX1_init wsX1_init ({ frames := 1, cells := 1, slots := 8, locals := 12 }) (va_Pc [.ref xa, .int (nI p0), .int (nI p1)] (ax_W (dC, dI) vwCl [(xa, .inr (1, [.int 0, .int 0, .int 0, .int 0, .int 0, .null]))] [(cI, .int)] ta sz)) (va_Qv (fun (u9 : Nat) => True) (fun (u9 : Nat) (t9 : State) => va_P (dC, dI) vwCl [(xa, .inr (1, [.int (nI p0), .int (nI p1), .int 1, .int 0, .int 0, .ref u9])), (u9, .inl (cI, 8, .inl (fun _ => 0)))] t9.heap ∧ va_K (dC, dI) vwCl [(cI, .int)] t9 ∧ va_D (va_A [(xa, .inr (1, [.int 0, .int 0, .int 0, .int 0, .int 0, .null]))] sz) [(xa, .inr (1, [.int (nI p0), .int (nI p1), .int 1, .int 0, .int 0, .ref u9])), (u9, .inl (cI, 8, .inl (fun _ => 0)))]) (va_A [(xa, .inr (1, [.int 0, .int 0, .int 0, .int 0, .int 0, .null]))] sz)) 1 8 (va_A [(xa, .inr (1, [.int 0, .int 0, .int 0, .int 0, .int 0, .null]))] sz) := by
  refine Met.ofW (cc := cX1_init) (maxL := 3) (ret := none) (by decide) rfl ?_
  intro p e s m args below meth c s₁ B hml hv
  obtain ⟨rfl, hsz, hP, hK, hD0, hE⟩ := hv
  have hx := B.exec
  have hb := B.bytes
  have hr := B.returns
  have hts := atoms_spec (ws := wsX1_init) B.pre
  have hown : s.vm.findClass RX1 = some m.cls := findClass_of_methodNamed B.named
  have hlocks := B.notSynchronized
  have hin : meth.name = "<init>" := (name_of_methodNamed B.named B.method).1
  subst hsz
  have hD := hD0.self (sz := s.heap.size)
  generalize hAe : va_A [(xa, .inr (1, [.int 0, .int 0, .int 0, .int 0, .int 0, .null]))] s.heap.size = A at hD hE ⊢
  have hA : ∀ q : Nat, s.heap.size ≤ q → A q := fun q h => by rw [← hAe]; exact Or.inr h
  have hS : va_S A s.heap s.heap [] := va_S.rf
  have hl := lv_entry ([.ref xa, .int (nI p0), .int (nI p1)]) (n := 3) (Nat.le_of_ble_eq_true rfl)
  rw [lg_entry_eq]
  generalize (lg_sl ([.ref xa, .int (nI p0), .int (nI p1)]) ++ List.replicate (3 - (lg_sl ([.ref xa, .int (nI p0), .int (nI p1)])).length) Slot.unset).toArray = ls at hl ⊢
  have hl : lv_has ls 3 [(0, .ref xa), (1, .int (nI p0)), (2, .int (nI p1))] := hl
  have hP : va_P (dC, dI) vwCl [(xa, .inr (1, [.int 0, .int 0, .int 0, .int 0, .int 0, .null]))] s.heap := hP
  refine lv_aload_n hx hb dX1_init_0 rfl (lv_at hl 0 rfl) ?_
  refine W.objInit hx hb hown (hts (.methodLink RX1 3 objectInit) (by decide +kernel)) (hts (.instanceMethod objectInit) (by decide +kernel)) (hts (.code objectInit ⟨#[0xb1]⟩ 1 none) (by decide +kernel)) rfl (by rw [hml]; exact hl.1) rfl dX1_init_1 (Nat.le_of_ble_eq_true rfl) (Nat.le_of_ble_eq_true rfl) ?_
  refine W.eq (g2 := F0 m 4 ls []) rfl ?_
  refine lv_aload_n hx hb dX1_init_4 rfl (lv_at hl 0 rfl) ?_
  refine lv_iconst (v := 1) hx hb dX1_init_5 (by decide) ?_
  refine va_put (D := (dC, dI)) (ci := 1) (v := .int 1) (ty := .boolean) (C := RX1) (T := TX1) (N := 6) hx hb hts (by decide +kernel) tyX1 tyX1_ok nmX1 hown hK hP hD hS 0 rfl rfl 2 (by decide) (hts (.fieldLink RX1 9 "Diffractory$Part" "isIn" "Z") (by decide +kernel)) (fun _ h9 => h9) rfl (by decide +kernel) rfl rfl (Nat.le_of_ble_eq_true rfl) dX1_init_6 (fun H locs hP hD hS => ?_)
  have hP : va_P (dC, dI) vwCl [(xa, .inr (1, [.int 0, .int 0, .int 1, .int 0, .int 0, .null]))] H := hP
  have hD : va_D A [(xa, .inr (1, [.int 0, .int 0, .int 1, .int 0, .int 0, .null]))] := hD
  refine lv_aload_n hx hb dX1_init_9 rfl (lv_at hl 0 rfl) ?_
  refine lv_iconst (v := 0) hx hb dX1_init_10 (by decide) ?_
  refine va_put (D := (dC, dI)) (ci := 1) (v := .int 0) (ty := .int) (C := RX1) (T := TX1) (N := 6) hx hb hts (by decide +kernel) tyX1 tyX1_ok nmX1 hown hK hP hD hS 0 rfl rfl 3 (by decide) (hts (.fieldLink RX1 15 "Diffractory$Part" "dirtyPlaces" "I") (by decide +kernel)) (fun _ h9 => h9) rfl (by decide +kernel) rfl rfl (Nat.le_of_ble_eq_true rfl) dX1_init_11 (fun H locs hP hD hS => ?_)
  have hP : va_P (dC, dI) vwCl [(xa, .inr (1, [.int 0, .int 0, .int 1, .int 0, .int 0, .null]))] H := hP
  have hD : va_D A [(xa, .inr (1, [.int 0, .int 0, .int 1, .int 0, .int 0, .null]))] := hD
  refine lv_aload_n hx hb dX1_init_14 rfl (lv_at hl 0 rfl) ?_
  refine lv_iconst (v := 0) hx hb dX1_init_15 (by decide) ?_
  refine va_put (D := (dC, dI)) (ci := 1) (v := .int 0) (ty := .int) (C := RX1) (T := TX1) (N := 6) hx hb hts (by decide +kernel) tyX1 tyX1_ok nmX1 hown hK hP hD hS 0 rfl rfl 4 (by decide) (hts (.fieldLink RX1 19 "Diffractory$Part" "timesExposed" "I") (by decide +kernel)) (fun _ h9 => h9) rfl (by decide +kernel) rfl rfl (Nat.le_of_ble_eq_true rfl) dX1_init_16 (fun H locs hP hD hS => ?_)
  have hP : va_P (dC, dI) vwCl [(xa, .inr (1, [.int 0, .int 0, .int 1, .int 0, .int 0, .null]))] H := hP
  have hD : va_D A [(xa, .inr (1, [.int 0, .int 0, .int 1, .int 0, .int 0, .null]))] := hD
  refine lv_aload_n hx hb dX1_init_19 rfl (lv_at hl 0 rfl) ?_
  refine lv_bipush (v := 8) hx hb dX1_init_20 (by decide) ?_
  refine va_newa (atype := .int) (ty := .int) (N' := 8) (a0 := (8, .inl (fun _ => 0))) hx hb (hts (.arrayClass .int) (by decide +kernel)) rfl hK hP hD hS hA (fun _ => rfl) (by decide) (by decide) (by decide) (Nat.le_of_ble_eq_true rfl) (Nat.le_of_ble_eq_true rfl) dX1_init_22 (fun q_1 cA_2 H hK hP hD hS => ?_)
  have he9 := (ax_uqI hK 1 0 rfl rfl).symm
  subst he9
  have hK := hK.sub (tys' := [(cI, .int)]) [0] rfl
  have hP : va_P (dC, dI) vwCl [(xa, .inr (1, [.int 0, .int 0, .int 1, .int 0, .int 0, .null])), (q_1, .inl (cI, 8, .inl (fun _ => 0)))] H := hP
  have hD : va_D A [(xa, .inr (1, [.int 0, .int 0, .int 1, .int 0, .int 0, .null])), (q_1, .inl (cI, 8, .inl (fun _ => 0)))] := hD
  refine va_putF (D := (dC, dI)) (ci := 1) (v := .ref q_1) (ty := .array .int) (C := RX1) (T := TX1) (N := 6) hx hb hts (by decide +kernel) tyX1 tyX1_ok nmX1 hown hK hP hD hS 0 rfl rfl 5 (by decide) (hts (.fieldLink RX1 22 "Diffractory$Part" "exposures" "[I") (by decide +kernel)) (fun _ h9 => h9) rfl hin rfl (by decide +kernel) rfl rfl (Nat.le_of_ble_eq_true rfl) dX1_init_24 (fun H locs hP hD hS => ?_)
  have hP : va_P (dC, dI) vwCl [(xa, .inr (1, [.int 0, .int 0, .int 1, .int 0, .int 0, .ref q_1])), (q_1, .inl (cI, 8, .inl (fun _ => 0)))] H := hP
  have hD : va_D A [(xa, .inr (1, [.int 0, .int 0, .int 1, .int 0, .int 0, .ref q_1])), (q_1, .inl (cI, 8, .inl (fun _ => 0)))] := hD
  refine lv_aload_n hx hb dX1_init_27 rfl (lv_at hl 0 rfl) ?_
  refine lv_iload_n hx hb dX1_init_28 rfl (lv_at hl 1 rfl) ?_
  refine va_putF (D := (dC, dI)) (ci := 1) (v := .int (nI p0)) (ty := .int) (C := RX1) (T := TX1) (N := 6) hx hb hts (by decide +kernel) tyX1 tyX1_ok nmX1 hown hK hP hD hS 0 rfl rfl 0 (by decide) (hts (.fieldLink RX1 26 "Diffractory$Part" "kind" "I") (by decide +kernel)) (fun _ h9 => h9) rfl hin rfl (by decide +kernel) rfl rfl (Nat.le_of_ble_eq_true rfl) dX1_init_29 (fun H locs hP hD hS => ?_)
  have hP : va_P (dC, dI) vwCl [(xa, .inr (1, [.int (nI p0), .int 0, .int 1, .int 0, .int 0, .ref q_1])), (q_1, .inl (cI, 8, .inl (fun _ => 0)))] H := hP
  have hD : va_D A [(xa, .inr (1, [.int (nI p0), .int 0, .int 1, .int 0, .int 0, .ref q_1])), (q_1, .inl (cI, 8, .inl (fun _ => 0)))] := hD
  refine lv_aload_n hx hb dX1_init_32 rfl (lv_at hl 0 rfl) ?_
  refine lv_iload_n hx hb dX1_init_33 rfl (lv_at hl 2 rfl) ?_
  refine va_put (D := (dC, dI)) (ci := 1) (v := .int (nI p1)) (ty := .int) (C := RX1) (T := TX1) (N := 6) hx hb hts (by decide +kernel) tyX1 tyX1_ok nmX1 hown hK hP hD hS 0 rfl rfl 1 (by decide) (hts (.fieldLink RX1 29 "Diffractory$Part" "number" "I") (by decide +kernel)) (fun _ h9 => h9) rfl (by decide +kernel) rfl rfl (Nat.le_of_ble_eq_true rfl) dX1_init_34 (fun H locs hP hD hS => ?_)
  have hP : va_P (dC, dI) vwCl [(xa, .inr (1, [.int (nI p0), .int (nI p1), .int 1, .int 0, .int 0, .ref q_1])), (q_1, .inl (cI, 8, .inl (fun _ => 0)))] H := hP
  have hD : va_D A [(xa, .inr (1, [.int (nI p0), .int (nI p1), .int 1, .int 0, .int 0, .ref q_1])), (q_1, .inl (cI, 8, .inl (fun _ => 0)))] := hD
  refine W.widen (k := 1) (n := 8) (Nat.le_of_ble_eq_true rfl) (Nat.le_of_ble_eq_true rfl) ?_
  have hP9 := hP.sub (ws' := [(xa, .inr (1, [.int (nI p0), .int (nI p1), .int 1, .int 0, .int 0, .ref q_1])), (q_1, .inl (cI, 8, .inl (fun _ => 0)))]) [0, 1] rfl
  have hD9 := hD.sub (ws' := [(xa, .inr (1, [.int (nI p0), .int (nI p1), .int 1, .int 0, .int 0, .ref q_1])), (q_1, .inl (cI, 8, .inl (fun _ => 0)))]) [0, 1] (by decide) rfl
  have hK9 := hK.sub (tys' := [(cI, .int)]) [0] rfl
  exact W.vret hx hb hr (fun t8 ht hW => ⟨⟨q_1, rfl, trivial, by rw [ht]; exact hP9, va_K.moved hW.alike hK9, hD9⟩, hS.F ht⟩) hS.2.2 dX1_init_37

set_option maxHeartbeats 4000000 in
set_option maxRecDepth 100000 in
theorem c_X2_init (l : Launch) (dC : Nat → ClassId) (dI : Nat → Nat → Nat) (xr : Nat) (cL : ClassId) (ta : Nat → Nat) (sz : Nat) : Met l yX2_init wsX2_init ({ frames := 1, cells := 2, slots := 16, locals := 12 }) (va_Pc [.ref xr] (ax_W (dC, dI) vwCl [(xr, .inr (2, [.null, .null]))] [(cL, .long)] ta sz)) (va_Qv (fun (u9 : Nat × Nat) => True) (fun (u9 : Nat × Nat) (t9 : State) => va_P (dC, dI) vwCl [(xr, .inr (2, [.ref u9.1, .ref u9.2])), (u9.1, .inl (cL, 8, .inr (.inl (fun _ => 0)))), (u9.2, .inl (cL, 8, .inr (.inl (fun _ => 0))))] t9.heap ∧ va_K (dC, dI) vwCl [(cL, .long)] t9 ∧ va_D (va_A [(xr, .inr (2, [.null, .null]))] sz) [(xr, .inr (2, [.ref u9.1, .ref u9.2])), (u9.1, .inl (cL, 8, .inr (.inl (fun _ => 0)))), (u9.2, .inl (cL, 8, .inr (.inl (fun _ => 0))))]) (va_A [(xr, .inr (2, [.null, .null]))] sz)) 2 16 (va_A [(xr, .inr (2, [.null, .null]))] sz) := by
  refine Met.ofW (cc := cX2_init) (maxL := 1) (ret := none) (by decide) rfl ?_
  intro p e s m args below meth c s₁ B hml hv
  obtain ⟨rfl, hsz, hP, hK, hD0, hE⟩ := hv
  have hx := B.exec
  have hb := B.bytes
  have hr := B.returns
  have hts := atoms_spec (ws := wsX2_init) B.pre
  have hown : s.vm.findClass RX2 = some m.cls := findClass_of_methodNamed B.named
  have hlocks := B.notSynchronized
  have hin : meth.name = "<init>" := (name_of_methodNamed B.named B.method).1
  subst hsz
  have hD := hD0.self (sz := s.heap.size)
  generalize hAe : va_A [(xr, .inr (2, [.null, .null]))] s.heap.size = A at hD hE ⊢
  have hA : ∀ q : Nat, s.heap.size ≤ q → A q := fun q h => by rw [← hAe]; exact Or.inr h
  have hS : va_S A s.heap s.heap [] := va_S.rf
  have hl := lv_entry ([.ref xr]) (n := 1) (Nat.le_of_ble_eq_true rfl)
  rw [lg_entry_eq]
  generalize (lg_sl ([.ref xr]) ++ List.replicate (1 - (lg_sl ([.ref xr])).length) Slot.unset).toArray = ls at hl ⊢
  have hl : lv_has ls 1 [(0, .ref xr)] := hl
  have hP : va_P (dC, dI) vwCl [(xr, .inr (2, [.null, .null]))] s.heap := hP
  refine lv_aload_n hx hb dX2_init_0 rfl (lv_at hl 0 rfl) ?_
  refine W.objInit hx hb hown (hts (.methodLink RX2 3 objectInit) (by decide +kernel)) (hts (.instanceMethod objectInit) (by decide +kernel)) (hts (.code objectInit ⟨#[0xb1]⟩ 1 none) (by decide +kernel)) rfl (by rw [hml]; exact hl.1) rfl dX2_init_1 (Nat.le_of_ble_eq_true rfl) (Nat.le_of_ble_eq_true rfl) ?_
  refine W.eq (g2 := F0 m 4 ls []) rfl ?_
  refine lv_aload_n hx hb dX2_init_4 rfl (lv_at hl 0 rfl) ?_
  refine lv_bipush (v := 8) hx hb dX2_init_5 (by decide) ?_
  refine va_newa (atype := .long) (ty := .long) (N' := 8) (a0 := (8, .inr (.inl (fun _ => 0)))) hx hb (hts (.arrayClass .long) (by decide +kernel)) rfl hK hP hD hS hA (fun _ => rfl) (by decide) (by decide) (by decide) (Nat.le_of_ble_eq_true rfl) (Nat.le_of_ble_eq_true rfl) dX2_init_7 (fun q_1 cA_2 H hK hP hD hS => ?_)
  have he9 := (ax_uqL hK 1 0 rfl rfl).symm
  subst he9
  have hK := hK.sub (tys' := [(cL, .long)]) [0] rfl
  have hP : va_P (dC, dI) vwCl [(xr, .inr (2, [.null, .null])), (q_1, .inl (cL, 8, .inr (.inl (fun _ => 0))))] H := hP
  have hD : va_D A [(xr, .inr (2, [.null, .null])), (q_1, .inl (cL, 8, .inr (.inl (fun _ => 0))))] := hD
  refine va_putF (D := (dC, dI)) (ci := 2) (v := .ref q_1) (ty := .array .long) (C := RX2) (T := TX2) (N := 2) hx hb hts (by decide +kernel) tyX2 tyX2_ok nmX2 hown hK hP hD hS 0 rfl rfl 0 (by decide) (hts (.fieldLink RX2 9 "Diffractory$Row" "wholes" "[J") (by decide +kernel)) (fun _ h9 => h9) rfl hin rfl (by decide +kernel) rfl rfl (Nat.le_of_ble_eq_true rfl) dX2_init_9 (fun H locs hP hD hS => ?_)
  have hP : va_P (dC, dI) vwCl [(xr, .inr (2, [.ref q_1, .null])), (q_1, .inl (cL, 8, .inr (.inl (fun _ => 0))))] H := hP
  have hD : va_D A [(xr, .inr (2, [.ref q_1, .null])), (q_1, .inl (cL, 8, .inr (.inl (fun _ => 0))))] := hD
  refine lv_aload_n hx hb dX2_init_12 rfl (lv_at hl 0 rfl) ?_
  refine lv_bipush (v := 8) hx hb dX2_init_13 (by decide) ?_
  refine va_newa (atype := .long) (ty := .long) (N' := 8) (a0 := (8, .inr (.inl (fun _ => 0)))) hx hb (hts (.arrayClass .long) (by decide +kernel)) rfl hK hP hD hS hA (fun _ => rfl) (by decide) (by decide) (by decide) (Nat.le_of_ble_eq_true rfl) (Nat.le_of_ble_eq_true rfl) dX2_init_15 (fun q_3 cA_4 H hK hP hD hS => ?_)
  have he9 := (ax_uqL hK 1 0 rfl rfl).symm
  subst he9
  have hK := hK.sub (tys' := [(cL, .long)]) [0] rfl
  have hP : va_P (dC, dI) vwCl [(xr, .inr (2, [.ref q_1, .null])), (q_1, .inl (cL, 8, .inr (.inl (fun _ => 0)))), (q_3, .inl (cL, 8, .inr (.inl (fun _ => 0))))] H := hP
  have hD : va_D A [(xr, .inr (2, [.ref q_1, .null])), (q_1, .inl (cL, 8, .inr (.inl (fun _ => 0)))), (q_3, .inl (cL, 8, .inr (.inl (fun _ => 0))))] := hD
  refine va_putF (D := (dC, dI)) (ci := 2) (v := .ref q_3) (ty := .array .long) (C := RX2) (T := TX2) (N := 2) hx hb hts (by decide +kernel) tyX2 tyX2_ok nmX2 hown hK hP hD hS 0 rfl rfl 1 (by decide) (hts (.fieldLink RX2 15 "Diffractory$Row" "roots" "[J") (by decide +kernel)) (fun _ h9 => h9) rfl hin rfl (by decide +kernel) rfl rfl (Nat.le_of_ble_eq_true rfl) dX2_init_17 (fun H locs hP hD hS => ?_)
  have hP : va_P (dC, dI) vwCl [(xr, .inr (2, [.ref q_1, .ref q_3])), (q_1, .inl (cL, 8, .inr (.inl (fun _ => 0)))), (q_3, .inl (cL, 8, .inr (.inl (fun _ => 0))))] H := hP
  have hD : va_D A [(xr, .inr (2, [.ref q_1, .ref q_3])), (q_1, .inl (cL, 8, .inr (.inl (fun _ => 0)))), (q_3, .inl (cL, 8, .inr (.inl (fun _ => 0))))] := hD
  refine W.widen (k := 2) (n := 16) (Nat.le_of_ble_eq_true rfl) (Nat.le_of_ble_eq_true rfl) ?_
  have hP9 := hP.sub (ws' := [(xr, .inr (2, [.ref q_1, .ref q_3])), (q_1, .inl (cL, 8, .inr (.inl (fun _ => 0)))), (q_3, .inl (cL, 8, .inr (.inl (fun _ => 0))))]) [0, 1, 2] rfl
  have hD9 := hD.sub (ws' := [(xr, .inr (2, [.ref q_1, .ref q_3])), (q_1, .inl (cL, 8, .inr (.inl (fun _ => 0)))), (q_3, .inl (cL, 8, .inr (.inl (fun _ => 0))))]) [0, 1, 2] (by decide) rfl
  have hK9 := hK.sub (tys' := [(cL, .long)]) [0] rfl
  exact W.vret hx hb hr (fun t8 ht hW => ⟨⟨(q_1, q_3), rfl, trivial, by rw [ht]; exact hP9, va_K.moved hW.alike hK9, hD9⟩, hS.F ht⟩) hS.2.2 dX2_init_20

set_option maxHeartbeats 4000000 in
set_option maxRecDepth 100000 in
theorem c_X0_init (l : Launch) (dC : Nat → ClassId) (dI : Nat → Nat → Nat) (xl : Nat) (ta : Nat → Nat) (sz : Nat) : Met l yX0_init wsX0_init ({ frames := 1, cells := 2, slots := 128, locals := 12 }) (va_Pc [.ref xl] (ax_W (dC, dI) vwCl [(xl, .inr (0, [.null, .null]))] [] ta sz)) (va_Qv (fun (u9 : Nat × Nat × ClassId) => True) (fun (u9 : Nat × Nat × ClassId) (t9 : State) => va_P (dC, dI) vwCl [(xl, .inr (0, [.ref u9.1, .ref u9.2.1])), (u9.1, .inl (u9.2.2, 64, .inr (.inl (fun _ => 0)))), (u9.2.1, .inl (u9.2.2, 64, .inr (.inl (fun _ => 0))))] t9.heap ∧ va_K (dC, dI) vwCl [(u9.2.2, .long)] t9 ∧ va_D (va_A [(xl, .inr (0, [.null, .null]))] sz) [(xl, .inr (0, [.ref u9.1, .ref u9.2.1])), (u9.1, .inl (u9.2.2, 64, .inr (.inl (fun _ => 0)))), (u9.2.1, .inl (u9.2.2, 64, .inr (.inl (fun _ => 0))))]) (va_A [(xl, .inr (0, [.null, .null]))] sz)) 2 128 (va_A [(xl, .inr (0, [.null, .null]))] sz) := by
  refine Met.ofW (cc := cX0_init) (maxL := 1) (ret := none) (by decide) rfl ?_
  intro p e s m args below meth c s₁ B hml hv
  obtain ⟨rfl, hsz, hP, hK, hD0, hE⟩ := hv
  have hx := B.exec
  have hb := B.bytes
  have hr := B.returns
  have hts := atoms_spec (ws := wsX0_init) B.pre
  have hown : s.vm.findClass RX0 = some m.cls := findClass_of_methodNamed B.named
  have hlocks := B.notSynchronized
  have hin : meth.name = "<init>" := (name_of_methodNamed B.named B.method).1
  subst hsz
  have hD := hD0.self (sz := s.heap.size)
  generalize hAe : va_A [(xl, .inr (0, [.null, .null]))] s.heap.size = A at hD hE ⊢
  have hA : ∀ q : Nat, s.heap.size ≤ q → A q := fun q h => by rw [← hAe]; exact Or.inr h
  have hS : va_S A s.heap s.heap [] := va_S.rf
  have hl := lv_entry ([.ref xl]) (n := 1) (Nat.le_of_ble_eq_true rfl)
  rw [lg_entry_eq]
  generalize (lg_sl ([.ref xl]) ++ List.replicate (1 - (lg_sl ([.ref xl])).length) Slot.unset).toArray = ls at hl ⊢
  have hl : lv_has ls 1 [(0, .ref xl)] := hl
  have hP : va_P (dC, dI) vwCl [(xl, .inr (0, [.null, .null]))] s.heap := hP
  refine lv_aload_n hx hb dX0_init_0 rfl (lv_at hl 0 rfl) ?_
  refine W.objInit hx hb hown (hts (.methodLink RX0 5 objectInit) (by decide +kernel)) (hts (.instanceMethod objectInit) (by decide +kernel)) (hts (.code objectInit ⟨#[0xb1]⟩ 1 none) (by decide +kernel)) rfl (by rw [hml]; exact hl.1) rfl dX0_init_1 (Nat.le_of_ble_eq_true rfl) (Nat.le_of_ble_eq_true rfl) ?_
  refine W.eq (g2 := F0 m 4 ls []) rfl ?_
  refine lv_aload_n hx hb dX0_init_4 rfl (lv_at hl 0 rfl) ?_
  refine lv_bipush (v := 64) hx hb dX0_init_5 (by decide) ?_
  refine va_newa (atype := .long) (ty := .long) (N' := 64) (a0 := (64, .inr (.inl (fun _ => 0)))) hx hb (hts (.arrayClass .long) (by decide +kernel)) rfl hK hP hD hS hA (fun _ => rfl) (by decide) (by decide) (by decide) (Nat.le_of_ble_eq_true rfl) (Nat.le_of_ble_eq_true rfl) dX0_init_7 (fun q_1 cA_2 H hK hP hD hS => ?_)
  have hK : va_K (dC, dI) vwCl [(cA_2, .long)] s := hK
  have hP : va_P (dC, dI) vwCl [(xl, .inr (0, [.null, .null])), (q_1, .inl (cA_2, 64, .inr (.inl (fun _ => 0))))] H := hP
  have hD : va_D A [(xl, .inr (0, [.null, .null])), (q_1, .inl (cA_2, 64, .inr (.inl (fun _ => 0))))] := hD
  refine va_put (D := (dC, dI)) (ci := 0) (v := .ref q_1) (ty := .array .long) (C := RX0) (T := TX0) (N := 2) hx hb hts (by decide +kernel) tyX0 tyX0_ok nmX0 hown hK hP hD hS 0 rfl rfl 0 (by decide) (hts (.fieldLink RX0 11 "Diffractory$Light" "now" "[J") (by decide +kernel)) (fun _ h9 => h9) rfl (by decide +kernel) rfl rfl (Nat.le_of_ble_eq_true rfl) dX0_init_9 (fun H locs hP hD hS => ?_)
  have hP : va_P (dC, dI) vwCl [(xl, .inr (0, [.ref q_1, .null])), (q_1, .inl (cA_2, 64, .inr (.inl (fun _ => 0))))] H := hP
  have hD : va_D A [(xl, .inr (0, [.ref q_1, .null])), (q_1, .inl (cA_2, 64, .inr (.inl (fun _ => 0))))] := hD
  refine lv_aload_n hx hb dX0_init_12 rfl (lv_at hl 0 rfl) ?_
  refine lv_bipush (v := 64) hx hb dX0_init_13 (by decide) ?_
  refine va_newa (atype := .long) (ty := .long) (N' := 64) (a0 := (64, .inr (.inl (fun _ => 0)))) hx hb (hts (.arrayClass .long) (by decide +kernel)) rfl hK hP hD hS hA (fun _ => rfl) (by decide) (by decide) (by decide) (Nat.le_of_ble_eq_true rfl) (Nat.le_of_ble_eq_true rfl) dX0_init_15 (fun q_3 cA_4 H hK hP hD hS => ?_)
  have he9 := (ax_uqL hK 1 0 rfl rfl).symm
  subst he9
  have hK := hK.sub (tys' := [(cA_2, .long)]) [0] rfl
  have hP : va_P (dC, dI) vwCl [(xl, .inr (0, [.ref q_1, .null])), (q_1, .inl (cA_2, 64, .inr (.inl (fun _ => 0)))), (q_3, .inl (cA_2, 64, .inr (.inl (fun _ => 0))))] H := hP
  have hD : va_D A [(xl, .inr (0, [.ref q_1, .null])), (q_1, .inl (cA_2, 64, .inr (.inl (fun _ => 0)))), (q_3, .inl (cA_2, 64, .inr (.inl (fun _ => 0))))] := hD
  refine va_put (D := (dC, dI)) (ci := 0) (v := .ref q_3) (ty := .array .long) (C := RX0) (T := TX0) (N := 2) hx hb hts (by decide +kernel) tyX0 tyX0_ok nmX0 hown hK hP hD hS 0 rfl rfl 1 (by decide) (hts (.fieldLink RX0 15 "Diffractory$Light" "next" "[J") (by decide +kernel)) (fun _ h9 => h9) rfl (by decide +kernel) rfl rfl (Nat.le_of_ble_eq_true rfl) dX0_init_17 (fun H locs hP hD hS => ?_)
  have hP : va_P (dC, dI) vwCl [(xl, .inr (0, [.ref q_1, .ref q_3])), (q_1, .inl (cA_2, 64, .inr (.inl (fun _ => 0)))), (q_3, .inl (cA_2, 64, .inr (.inl (fun _ => 0))))] H := hP
  have hD : va_D A [(xl, .inr (0, [.ref q_1, .ref q_3])), (q_1, .inl (cA_2, 64, .inr (.inl (fun _ => 0)))), (q_3, .inl (cA_2, 64, .inr (.inl (fun _ => 0))))] := hD
  refine W.widen (k := 2) (n := 128) (Nat.le_of_ble_eq_true rfl) (Nat.le_of_ble_eq_true rfl) ?_
  have hP9 := hP.sub (ws' := [(xl, .inr (0, [.ref q_1, .ref q_3])), (q_1, .inl (cA_2, 64, .inr (.inl (fun _ => 0)))), (q_3, .inl (cA_2, 64, .inr (.inl (fun _ => 0))))]) [0, 1, 2] rfl
  have hD9 := hD.sub (ws' := [(xl, .inr (0, [.ref q_1, .ref q_3])), (q_1, .inl (cA_2, 64, .inr (.inl (fun _ => 0)))), (q_3, .inl (cA_2, 64, .inr (.inl (fun _ => 0))))]) [0, 1, 2] (by decide) rfl
  have hK9 := hK.sub (tys' := [(cA_2, .long)]) [0] rfl
  exact W.vret hx hb hr (fun t8 ht hW => ⟨⟨(q_1, q_3, cA_2), rfl, trivial, by rw [ht]; exact hP9, va_K.moved hW.alike hK9, hD9⟩, hS.F ht⟩) hS.2.2 dX0_init_20

theorem ax_and4 : ∀ p, p < 8 → (nI p &&& 4 = 0 ↔ p / 4 % 2 = 0) := by decide +kernel
theorem ax_and4T {p : Nat} (hp : p < 8) (h : nI p &&& 4 = 0) : p / 4 % 2 = 0 := (ax_and4 p hp).mp h
theorem ax_and4F {p : Nat} (hp : p < 8) (h : ¬ nI p &&& 4 = 0) : p / 4 % 2 = 1 := by
  have : ¬ p / 4 % 2 = 0 := fun q => h ((ax_and4 p hp).mpr q)
  omega

set_option maxHeartbeats 4000000 in
set_option maxRecDepth 100000 in
theorem c_X0_start (l : Launch) (dC : Nat → ClassId) (dI : Nat → Nat → Nat) (xl xn xm : Nat) (cL cI : ClassId) (ta : Nat → Nat) (sz : Nat) (u : Nat → Int64) (g : Nat → Int64) (L : List Nat) (f : Nat → va_E) (a : Nat) (q : ST) (ha : a ∈ L) (hfa : f a = .inr (3, sfs q)) (hok : okS q) : Met l yX0_start wsX0_start ({ frames := 1, cells := 0, slots := 0, locals := 24 }) (va_Pc [.ref xl, .ref a] (ax_W (dC, dI) vwCl ([(xl, .inr (0, [.ref xn, .ref xm])), (xn, .inl (cL, 64, .inr (.inl u))), (xm, .inl (cL, 64, .inr (.inl g)))] ++ va_pl L f) [(cL, .long), (cI, .int)] ta sz)) (va_Qv (fun (u9 : Unit) => True) (fun (u9 : Unit) (t9 : State) => va_P (dC, dI) vwCl ([(xl, .inr (0, [.ref xn, .ref xm])), (xn, .inl (cL, 64, .inr (.inl (strt q)))), (xm, .inl (cL, 64, .inr (.inl g)))] ++ va_pl L f) t9.heap ∧ va_K (dC, dI) vwCl [(cL, .long), (cI, .int)] t9 ∧ va_D (va_A ([(xl, .inr (0, [.ref xn, .ref xm])), (xn, .inl (cL, 64, .inr (.inl u))), (xm, .inl (cL, 64, .inr (.inl g)))] ++ va_pl L f) sz) ([(xl, .inr (0, [.ref xn, .ref xm])), (xn, .inl (cL, 64, .inr (.inl (strt q)))), (xm, .inl (cL, 64, .inr (.inl g)))] ++ va_pl L f)) (va_A ([(xl, .inr (0, [.ref xn, .ref xm])), (xn, .inl (cL, 64, .inr (.inl u))), (xm, .inl (cL, 64, .inr (.inl g)))] ++ va_pl L f) sz)) 0 0 (va_A ([(xl, .inr (0, [.ref xn, .ref xm])), (xn, .inl (cL, 64, .inr (.inl u))), (xm, .inl (cL, 64, .inr (.inl g)))] ++ va_pl L f) sz) := by
  refine Met.ofW (cc := cX0_start) (maxL := 3) (ret := none) (by decide) rfl ?_
  intro p e s m args below meth c s₁ B hml hv
  obtain ⟨rfl, hsz, hP, hK, hD0, hE⟩ := hv
  have hx := B.exec
  have hb := B.bytes
  have hr := B.returns
  have hts := atoms_spec (ws := wsX0_start) B.pre
  have hown : s.vm.findClass RX0 = some m.cls := findClass_of_methodNamed B.named
  have hlocks := B.notSynchronized
  subst hsz
  have hD := hD0.self (sz := s.heap.size)
  generalize hAe : va_A ([(xl, .inr (0, [.ref xn, .ref xm])), (xn, .inl (cL, 64, .inr (.inl u))), (xm, .inl (cL, 64, .inr (.inl g)))] ++ va_pl L f) s.heap.size = A at hD hE ⊢
  have hA : ∀ q : Nat, s.heap.size ≤ q → A q := fun q h => by rw [← hAe]; exact Or.inr h
  have hS : va_S A s.heap s.heap [] := va_S.rf
  have hl := lv_entry ([.ref xl, .ref a]) (n := 3) (Nat.le_of_ble_eq_true rfl)
  rw [lg_entry_eq]
  generalize (lg_sl ([.ref xl, .ref a]) ++ List.replicate (3 - (lg_sl ([.ref xl, .ref a])).length) Slot.unset).toArray = ls at hl ⊢
  have hl : lv_has ls 3 [(0, .ref xl), (1, .ref a)] := hl
  have hP : va_P (dC, dI) vwCl ([(xl, .inr (0, [.ref xn, .ref xm])), (xn, .inl (cL, 64, .inr (.inl u))), (xm, .inl (cL, 64, .inr (.inl g)))] ++ va_pl L f) s.heap := hP
  obtain ⟨hpl8, hph8, hs1, hs9⟩ := hok
  refine lv_aload_n hx hb dX0_start_0 rfl (lv_at hl 0 rfl) ?_
  refine va_get (D := (dC, dI)) (ci := 0) (v := .ref xn) (C := RX0) (T := TX0) (N := 2) hx hb hts (by decide +kernel) hown hK hP 0 rfl rfl 0 (by decide) (hts (.fieldLink RX0 11 "Diffractory$Light" "now" "[J") (by decide +kernel)) (fun _ h9 => h9) rfl dX0_start_1 ?_
  refine lv_lconst (v := 0) hx hb dX0_start_4 (by decide) ?_
  have hPc := hP.sub (ws' := [(xn, .inl (cL, 64, .inr (.inl u)))]) [1] rfl
  have hKc := hK.sub (tys' := [(cL, .long)]) [0] rfl
  have hDc := hD.sub (ws' := [(xn, .inl (cL, 64, .inr (.inl u)))]) [1] (by decide) rfl
  have hFc := va_free (wc := [(xn, .inl (cL, 64, .inr (.inl u)))]) hD hS hA [1] rfl
  refine va_callv (va_runS (As := [.ref xn, .long 0]) (rest := []) ⟨hx, hb, hml, hown, hts⟩ (c_J7_fill_d0a16 l dC dI xn cL ta s.heap.size u 64 0 (by omega)) (va_cwS 2 hts gX0_start_J7_fill_d0a16 rfl rfl rfl (by decide +kernel) ⟨Nat.le_of_ble_eq_true rfl, Nat.le_of_ble_eq_true rfl⟩) ⟨ax_fbW, ax_prW hPc hKc hDc hS hFc hE⟩ rfl rfl hl.1 rfl (lv_room (Nat.le_of_ble_eq_true rfl)) dX0_start_5 ⟨Nat.le_of_ble_eq_true rfl, Nat.le_of_ble_eq_true rfl⟩) hS (fun q _ h9 => hFc q h9) hFc (fun u_3 t8 H locs ht hvm hw_2 hB hz1 hk1 hS => ?_)
  obtain ⟨hP1, hK1, hD1⟩ := hB
  rw [ht] at hP1
  have hK1 := va_K.moved hvm.symm hK1
  obtain ⟨hP, hD⟩ := va_joinQ (X := [(xl, .inr (0, [.ref xn, .ref xm])), (xn, .inl (cL, 64, .inr (.inl u))), (xm, .inl (cL, 64, .inr (.inl g)))]) (cx := [(xn, .inl (cL, 64, .inr (.inl u)))]) (wr := [(xl, .inr (0, [.ref xn, .ref xm])), (xm, .inl (cL, 64, .inr (.inl g)))]) (w1 := [(xn, .inl (cL, 64, .inr (.inl (fun _ => 0))))]) (pl := va_pl L f) hP hD [1] [0, 2] rfl rfl (by decide) (by decide) hk1 hFc hP1 hD1
  have hP : va_P (dC, dI) vwCl ([(xl, .inr (0, [.ref xn, .ref xm])), (xm, .inl (cL, 64, .inr (.inl g))), (xn, .inl (cL, 64, .inr (.inl (fun _ => 0))))] ++ va_pl L f) H := hP
  have hD : va_D A ([(xl, .inr (0, [.ref xn, .ref xm])), (xm, .inl (cL, 64, .inr (.inl g))), (xn, .inl (cL, 64, .inr (.inl (fun _ => 0))))] ++ va_pl L f) := hD
  refine lv_aload_n hx hb dX0_start_8 rfl (lv_at hl 1 rfl) ?_
  obtain ⟨k_5, hk_6⟩ := ax_pg (X := [(xl, .inr (0, [.ref xn, .ref xm])), (xm, .inl (cL, 64, .inr (.inl g))), (xn, .inl (cL, 64, .inr (.inl (fun _ => 0))))]) (f := f) ha hfa
  refine va_get (D := (dC, dI)) (ci := 3) (v := .int (nI q.2.1)) (C := RX3) (T := TX3) (N := 3) hx hb hts (by decide +kernel) hown hK hP k_5 hk_6 rfl 1 (by decide) (hts (.fieldLink RX0 24 "Diffractory$Source" "phase" "I") (by decide +kernel)) (fun _ h9 => h9) rfl dX0_start_9 ?_
  refine lv_iconst (v := 4) hx hb dX0_start_12 (by decide) ?_
  refine lv_iand hx hb dX0_start_13 ?_
  refine lv_if_eq (tgt := 21) hx hb dX0_start_14 (by decide) (fun c_7 => ?_) (fun c_7 => ?_)
  · have c_7 : q.2.1 / 4 % 2 = 0 := ax_and4T (by omega) c_7
    refine lv_iconst (v := 0) hx hb dX0_start_21 (by decide) ?_
    refine lv_istore_n (lv' := [(2, .int 0), (0, .ref xl), (1, .ref a)]) hx hb dX0_start_22 rfl hl (by decide) rfl (fun ls hl => ?_)
    refine lv_aload_n hx hb dX0_start_23 rfl (lv_at hl 1 rfl) ?_
    refine va_get (D := (dC, dI)) (ci := 0) (v := .ref xn) (C := RX0) (T := TX0) (N := 2) hx hb hts (by decide +kernel) hown hK hP 0 rfl rfl 0 (by decide) (hts (.fieldLink RX0 11 "Diffractory$Light" "now" "[J") (by decide +kernel)) (fun _ h9 => h9) rfl dX0_start_24 ?_
    refine lv_aload_n hx hb dX0_start_27 rfl (lv_at hl 2 rfl) ?_
    obtain ⟨k_8, hk_9⟩ := ax_pg (X := [(xl, .inr (0, [.ref xn, .ref xm])), (xm, .inl (cL, 64, .inr (.inl g))), (xn, .inl (cL, 64, .inr (.inl (fun _ => 0))))]) (f := f) ha hfa
    refine va_get (D := (dC, dI)) (ci := 3) (v := .int (nI q.1)) (C := RX3) (T := TX3) (N := 3) hx hb hts (by decide +kernel) hown hK hP k_8 hk_9 rfl 0 (by decide) (hts (.fieldLink RX0 30 "Diffractory$Source" "place" "I") (by decide +kernel)) (fun _ h9 => h9) rfl dX0_start_28 ?_
    refine va_calli (va_runS (As := [.int (nI q.1)]) (rest := [.ref xn]) ⟨hx, hb, hml, hown, hts⟩ (c_X0_startOfX l q.1 (by omega)) (va_cwS 1 hts gX0_start_X0_startOfX rfl rfl rfl (by decide +kernel) ⟨Nat.le_of_ble_eq_true rfl, Nat.le_of_ble_eq_true rfl⟩) ⟨ax_fbP, ax_prP⟩ rfl rfl hl.1 rfl (lv_room (Nat.le_of_ble_eq_true rfl)) dX0_start_31 ⟨Nat.le_of_ble_eq_true rfl, Nat.le_of_ble_eq_true rfl⟩) hS (fun _ _ h9 => h9.elim) (fun _ h9 => h9.elim) (fun r_10 u_12 t8 H locs ht hvm hw_11 hB hz1 hk1 hS => ?_)
    have hP := ax_keep hP (fun _ h9 => h9) hk1
    have hw_11 : r_10 = (nI (8 * q.1)) := hw_11
    refine ax_i (y := (nI (8 * q.1))) hw_11 ?_
    refine lv_aload_n hx hb dX0_start_34 rfl (lv_at hl 2 rfl) ?_
    obtain ⟨k_13, hk_14⟩ := ax_pg (X := [(xl, .inr (0, [.ref xn, .ref xm])), (xm, .inl (cL, 64, .inr (.inl g))), (xn, .inl (cL, 64, .inr (.inl (fun _ => 0))))]) (f := f) ha hfa
    refine va_get (D := (dC, dI)) (ci := 3) (v := .int (nI q.2.1)) (C := RX3) (T := TX3) (N := 3) hx hb hts (by decide +kernel) hown hK hP k_13 hk_14 rfl 1 (by decide) (hts (.fieldLink RX0 24 "Diffractory$Source" "phase" "I") (by decide +kernel)) (fun _ h9 => h9) rfl dX0_start_35 ?_
    refine lv_iconst (v := 3) hx hb dX0_start_38 (by decide) ?_
    refine lv_iand hx hb dX0_start_39 ?_
    refine ax_i (y := (nI (q.2.1 % 4))) (pk_andN (by omega) 2 rfl) ?_
    refine lv_iadd hx hb dX0_start_40 ?_
    refine ax_i (y := (nI ((8 * q.1) + (q.2.1 % 4)))) (ax_addN (8 * q.1) (q.2.1 % 4)) ?_
    refine lv_iload_n hx hb dX0_start_41 rfl (lv_at hl 0 rfl) ?_
    refine lv_if_eq (tgt := 54) hx hb dX0_start_42 (by decide) (fun _ => ?_) (fun h9 => absurd (by decide) h9)
    refine lv_aload_n hx hb dX0_start_54 rfl (lv_at hl 2 rfl) ?_
    obtain ⟨k_15, hk_16⟩ := ax_pg (X := [(xl, .inr (0, [.ref xn, .ref xm])), (xm, .inl (cL, 64, .inr (.inl g))), (xn, .inl (cL, 64, .inr (.inl (fun _ => 0))))]) (f := f) ha hfa
    refine va_get (D := (dC, dI)) (ci := 3) (v := .int (nI q.2.2)) (C := RX3) (T := TX3) (N := 3) hx hb hts (by decide +kernel) hown hK hP k_15 hk_16 rfl 2 (by decide) (hts (.fieldLink RX0 37 "Diffractory$Source" "strength" "I") (by decide +kernel)) (fun _ h9 => h9) rfl dX0_start_55 ?_
    refine lv_i2l (v := (nI q.2.2).toInt64) hx hb dX0_start_58 rfl ?_
    refine va_last hx hb hK hP hD hS 2 0 rfl rfl (ax_in (by omega) (by omega)) dX0_start_59 (fun H locs hP hD hS => ?_)
    rw [nI_clamp (n := (8 * q.1) + (q.2.1 % 4)) (by omega)] at hP hD
    have hP : va_P (dC, dI) vwCl ([(xl, .inr (0, [.ref xn, .ref xm])), (xm, .inl (cL, 64, .inr (.inl g))), (xn, .inl (cL, 64, .inr (.inl (vp_updL (fun _ => 0) ((8 * q.1) + (q.2.1 % 4)) ((nI q.2.2).toInt64)))))] ++ va_pl L f) H := hP
    have hD : va_D A ([(xl, .inr (0, [.ref xn, .ref xm])), (xm, .inl (cL, 64, .inr (.inl g))), (xn, .inl (cL, 64, .inr (.inl (vp_updL (fun _ => 0) ((8 * q.1) + (q.2.1 % 4)) ((nI q.2.2).toInt64)))))] ++ va_pl L f) := hD
    refine W.widen (k := 0) (n := 0) (Nat.le_of_ble_eq_true rfl) (Nat.le_of_ble_eq_true rfl) ?_
    have hP9 : va_P (dC, dI) vwCl ([(xl, .inr (0, [.ref xn, .ref xm])), (xn, .inl (cL, 64, .inr (.inl (vp_updL (fun _ => 0) ((8 * q.1) + (q.2.1 % 4)) ((nI q.2.2).toInt64))))), (xm, .inl (cL, 64, .inr (.inl g)))] ++ va_pl L f) H := hP.part [0, 2, 1] rfl
    have hD9 : va_D A ([(xl, .inr (0, [.ref xn, .ref xm])), (xn, .inl (cL, 64, .inr (.inl (vp_updL (fun _ => 0) ((8 * q.1) + (q.2.1 % 4)) ((nI q.2.2).toInt64))))), (xm, .inl (cL, 64, .inr (.inl g)))] ++ va_pl L f) := hD.part [0, 2, 1] (by decide) rfl
    have hK9 := hK.sub (tys' := [(cL, .long), (cI, .int)]) [0, 1] rfl
    have hP9 : va_P (dC, dI) vwCl ([(xl, .inr (0, [.ref xn, .ref xm])), (xn, .inl (cL, 64, .inr (.inl (strt q)))), (xm, .inl (cL, 64, .inr (.inl g)))] ++ va_pl L f) H := ax_arL 1 (strt q) rfl (fun j _ => by unfold strt vp_updL; rw [if_pos c_7]) hP9
    have hD9 : va_D A ([(xl, .inr (0, [.ref xn, .ref xm])), (xn, .inl (cL, 64, .inr (.inl (strt q)))), (xm, .inl (cL, 64, .inr (.inl g)))] ++ va_pl L f) := hD9.set (p := 1) rfl
    exact W.vret hx hb hr (fun t8 ht hW => ⟨⟨(), rfl, trivial, by rw [ht]; exact hP9, va_K.moved hW.alike hK9, hD9⟩, hS.F ht⟩) hS.2.2 dX0_start_60
  · have c_7 : q.2.1 / 4 % 2 = 1 := ax_and4F (by omega) c_7
    refine lv_iconst (v := 1) hx hb dX0_start_17 (by decide) ?_
    refine lv_goto (tgt := 22) hx hb dX0_start_18 (by decide) ?_
    refine lv_istore_n (lv' := [(2, .int 1), (0, .ref xl), (1, .ref a)]) hx hb dX0_start_22 rfl hl (by decide) rfl (fun ls hl => ?_)
    refine lv_aload_n hx hb dX0_start_23 rfl (lv_at hl 1 rfl) ?_
    refine va_get (D := (dC, dI)) (ci := 0) (v := .ref xn) (C := RX0) (T := TX0) (N := 2) hx hb hts (by decide +kernel) hown hK hP 0 rfl rfl 0 (by decide) (hts (.fieldLink RX0 11 "Diffractory$Light" "now" "[J") (by decide +kernel)) (fun _ h9 => h9) rfl dX0_start_24 ?_
    refine lv_aload_n hx hb dX0_start_27 rfl (lv_at hl 2 rfl) ?_
    obtain ⟨k_17, hk_18⟩ := ax_pg (X := [(xl, .inr (0, [.ref xn, .ref xm])), (xm, .inl (cL, 64, .inr (.inl g))), (xn, .inl (cL, 64, .inr (.inl (fun _ => 0))))]) (f := f) ha hfa
    refine va_get (D := (dC, dI)) (ci := 3) (v := .int (nI q.1)) (C := RX3) (T := TX3) (N := 3) hx hb hts (by decide +kernel) hown hK hP k_17 hk_18 rfl 0 (by decide) (hts (.fieldLink RX0 30 "Diffractory$Source" "place" "I") (by decide +kernel)) (fun _ h9 => h9) rfl dX0_start_28 ?_
    refine va_calli (va_runS (As := [.int (nI q.1)]) (rest := [.ref xn]) ⟨hx, hb, hml, hown, hts⟩ (c_X0_startOfX l q.1 (by omega)) (va_cwS 1 hts gX0_start_X0_startOfX rfl rfl rfl (by decide +kernel) ⟨Nat.le_of_ble_eq_true rfl, Nat.le_of_ble_eq_true rfl⟩) ⟨ax_fbP, ax_prP⟩ rfl rfl hl.1 rfl (lv_room (Nat.le_of_ble_eq_true rfl)) dX0_start_31 ⟨Nat.le_of_ble_eq_true rfl, Nat.le_of_ble_eq_true rfl⟩) hS (fun _ _ h9 => h9.elim) (fun _ h9 => h9.elim) (fun r_19 u_21 t8 H locs ht hvm hw_20 hB hz1 hk1 hS => ?_)
    have hP := ax_keep hP (fun _ h9 => h9) hk1
    have hw_20 : r_19 = (nI (8 * q.1)) := hw_20
    refine ax_i (y := (nI (8 * q.1))) hw_20 ?_
    refine lv_aload_n hx hb dX0_start_34 rfl (lv_at hl 2 rfl) ?_
    obtain ⟨k_22, hk_23⟩ := ax_pg (X := [(xl, .inr (0, [.ref xn, .ref xm])), (xm, .inl (cL, 64, .inr (.inl g))), (xn, .inl (cL, 64, .inr (.inl (fun _ => 0))))]) (f := f) ha hfa
    refine va_get (D := (dC, dI)) (ci := 3) (v := .int (nI q.2.1)) (C := RX3) (T := TX3) (N := 3) hx hb hts (by decide +kernel) hown hK hP k_22 hk_23 rfl 1 (by decide) (hts (.fieldLink RX0 24 "Diffractory$Source" "phase" "I") (by decide +kernel)) (fun _ h9 => h9) rfl dX0_start_35 ?_
    refine lv_iconst (v := 3) hx hb dX0_start_38 (by decide) ?_
    refine lv_iand hx hb dX0_start_39 ?_
    refine ax_i (y := (nI (q.2.1 % 4))) (pk_andN (by omega) 2 rfl) ?_
    refine lv_iadd hx hb dX0_start_40 ?_
    refine ax_i (y := (nI ((8 * q.1) + (q.2.1 % 4)))) (ax_addN (8 * q.1) (q.2.1 % 4)) ?_
    refine lv_iload_n hx hb dX0_start_41 rfl (lv_at hl 0 rfl) ?_
    refine lv_if_eq (tgt := 54) hx hb dX0_start_42 (by decide) (fun h9 => absurd h9 (by decide)) (fun _ => ?_)
    refine lv_aload_n hx hb dX0_start_45 rfl (lv_at hl 2 rfl) ?_
    obtain ⟨k_24, hk_25⟩ := ax_pg (X := [(xl, .inr (0, [.ref xn, .ref xm])), (xm, .inl (cL, 64, .inr (.inl g))), (xn, .inl (cL, 64, .inr (.inl (fun _ => 0))))]) (f := f) ha hfa
    refine va_get (D := (dC, dI)) (ci := 3) (v := .int (nI q.2.2)) (C := RX3) (T := TX3) (N := 3) hx hb hts (by decide +kernel) hown hK hP k_24 hk_25 rfl 2 (by decide) (hts (.fieldLink RX0 37 "Diffractory$Source" "strength" "I") (by decide +kernel)) (fun _ h9 => h9) rfl dX0_start_46 ?_
    refine lv_ineg hx hb dX0_start_49 ?_
    refine lv_i2l (v := (-(nI q.2.2)).toInt64) hx hb dX0_start_50 rfl ?_
    refine lv_goto (tgt := 59) hx hb dX0_start_51 (by decide) ?_
    refine va_last hx hb hK hP hD hS 2 0 rfl rfl (ax_in (by omega) (by omega)) dX0_start_59 (fun H locs hP hD hS => ?_)
    rw [nI_clamp (n := (8 * q.1) + (q.2.1 % 4)) (by omega)] at hP hD
    have hP : va_P (dC, dI) vwCl ([(xl, .inr (0, [.ref xn, .ref xm])), (xm, .inl (cL, 64, .inr (.inl g))), (xn, .inl (cL, 64, .inr (.inl (vp_updL (fun _ => 0) ((8 * q.1) + (q.2.1 % 4)) ((-(nI q.2.2)).toInt64)))))] ++ va_pl L f) H := hP
    have hD : va_D A ([(xl, .inr (0, [.ref xn, .ref xm])), (xm, .inl (cL, 64, .inr (.inl g))), (xn, .inl (cL, 64, .inr (.inl (vp_updL (fun _ => 0) ((8 * q.1) + (q.2.1 % 4)) ((-(nI q.2.2)).toInt64)))))] ++ va_pl L f) := hD
    refine W.widen (k := 0) (n := 0) (Nat.le_of_ble_eq_true rfl) (Nat.le_of_ble_eq_true rfl) ?_
    have hP9 : va_P (dC, dI) vwCl ([(xl, .inr (0, [.ref xn, .ref xm])), (xn, .inl (cL, 64, .inr (.inl (vp_updL (fun _ => 0) ((8 * q.1) + (q.2.1 % 4)) ((-(nI q.2.2)).toInt64))))), (xm, .inl (cL, 64, .inr (.inl g)))] ++ va_pl L f) H := hP.part [0, 2, 1] rfl
    have hD9 : va_D A ([(xl, .inr (0, [.ref xn, .ref xm])), (xn, .inl (cL, 64, .inr (.inl (vp_updL (fun _ => 0) ((8 * q.1) + (q.2.1 % 4)) ((-(nI q.2.2)).toInt64))))), (xm, .inl (cL, 64, .inr (.inl g)))] ++ va_pl L f) := hD.part [0, 2, 1] (by decide) rfl
    have hK9 := hK.sub (tys' := [(cL, .long), (cI, .int)]) [0, 1] rfl
    have hP9 : va_P (dC, dI) vwCl ([(xl, .inr (0, [.ref xn, .ref xm])), (xn, .inl (cL, 64, .inr (.inl (strt q)))), (xm, .inl (cL, 64, .inr (.inl g)))] ++ va_pl L f) H := ax_arL 1 (strt q) rfl (fun j _ => by unfold strt vp_updL; rw [if_neg (c := q.2.1 / 4 % 2 = 0) (by omega)]) hP9
    have hD9 : va_D A ([(xl, .inr (0, [.ref xn, .ref xm])), (xn, .inl (cL, 64, .inr (.inl (strt q)))), (xm, .inl (cL, 64, .inr (.inl g)))] ++ va_pl L f) := hD9.set (p := 1) rfl
    exact W.vret hx hb hr (fun t8 ht hW => ⟨⟨(), rfl, trivial, by rw [ht]; exact hP9, va_K.moved hW.alike hK9, hD9⟩, hS.F ht⟩) hS.2.2 dX0_start_60
