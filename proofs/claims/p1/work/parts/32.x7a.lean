set_option maxHeartbeats 4000000 in
set_option maxRecDepth 100000 in
theorem c_X7_isIn (l : Launch) (p0 : Int32) (p1 : Int32) (p2 : Int32) : Met l yX7_isIn wsX7_isIn ({ frames := 8, cells := 0, slots := 0, locals := 200 }) (va_Pc [.int p0, .int p1, .int p2] (fun _ => True)) (va_Qi (fun (r : Int32) (u : Unit) => ax_bo r (p1.toInt ≤ p0.toInt ∧ p0.toInt ≤ p2.toInt)) (fun _ _ => True) ax_no) 0 0 ax_no := by
  refine Met.ofW (cc := cX7_isIn) (maxL := 3) (ret := (some .boolean)) (by decide) rfl ?_
  intro p e s m args below meth c s₁ B hml hv
  obtain ⟨rfl, -⟩ := hv
  have hx := B.exec
  have hb := B.bytes
  have hr := B.returns
  have hts := atoms_spec (ws := wsX7_isIn) B.pre
  have hown : s.vm.findClass RX7 = some m.cls := findClass_of_methodNamed B.named
  have hlocks := B.notSynchronized
  have hS : va_S ax_no s.heap s.heap [] := va_S.rf
  have hl := lv_entry ([.int p0, .int p1, .int p2]) (n := 3) (Nat.le_of_ble_eq_true rfl)
  rw [lg_entry_eq]
  generalize (lg_sl ([.int p0, .int p1, .int p2]) ++ List.replicate (3 - (lg_sl ([.int p0, .int p1, .int p2])).length) Slot.unset).toArray = ls at hl ⊢
  have hl : lv_has ls 3 [(0, .int p0), (1, .int p1), (2, .int p2)] := hl
  refine lv_iload_n hx hb dX7_isIn_0 rfl (lv_at hl 0 rfl) ?_
  refine lv_iload_n hx hb dX7_isIn_1 rfl (lv_at hl 1 rfl) ?_
  refine lv_icmp_lt (tgt := 14) hx hb dX7_isIn_2 (by decide) (fun c_1 => ?_) (fun c_1 => ?_)
  · have c_1 : p0.toInt < p1.toInt := (ax_lt _ _).mp c_1
    refine lv_iconst (v := 0) hx hb dX7_isIn_14 (by decide) ?_
    refine W.widen (k := 0) (n := 0) (Nat.le_of_ble_eq_true rfl) (Nat.le_of_ble_eq_true rfl) ?_
    exact W.zret (v := 0) (ty := .boolean) hx hb hr (by decide +kernel) (fun t ht hW => ⟨⟨0, (), rfl, Or.inr ⟨rfl, by omega⟩, trivial⟩, hS.F ht⟩) hS.2.2 dX7_isIn_15
  · have c_1 : ¬ p0.toInt < p1.toInt := fun h9 => c_1 ((ax_lt _ _).mpr h9)
    refine lv_iload_n hx hb dX7_isIn_5 rfl (lv_at hl 0 rfl) ?_
    refine lv_iload_n hx hb dX7_isIn_6 rfl (lv_at hl 2 rfl) ?_
    refine lv_icmp_gt (tgt := 14) hx hb dX7_isIn_7 (by decide) (fun c_2 => ?_) (fun c_2 => ?_)
    · have c_2 : p2.toInt < p0.toInt := (ax_lt _ _).mp c_2
      refine lv_iconst (v := 0) hx hb dX7_isIn_14 (by decide) ?_
      refine W.widen (k := 0) (n := 0) (Nat.le_of_ble_eq_true rfl) (Nat.le_of_ble_eq_true rfl) ?_
      exact W.zret (v := 0) (ty := .boolean) hx hb hr (by decide +kernel) (fun t ht hW => ⟨⟨0, (), rfl, Or.inr ⟨rfl, by omega⟩, trivial⟩, hS.F ht⟩) hS.2.2 dX7_isIn_15
    · have c_2 : ¬ p2.toInt < p0.toInt := fun h9 => c_2 ((ax_lt _ _).mpr h9)
      refine lv_iconst (v := 1) hx hb dX7_isIn_10 (by decide) ?_
      refine lv_goto (tgt := 15) hx hb dX7_isIn_11 (by decide) ?_
      refine W.widen (k := 0) (n := 0) (Nat.le_of_ble_eq_true rfl) (Nat.le_of_ble_eq_true rfl) ?_
      exact W.zret (v := 1) (ty := .boolean) hx hb hr (by decide +kernel) (fun t ht hW => ⟨⟨1, (), rfl, Or.inl ⟨rfl, by omega⟩, trivial⟩, hS.F ht⟩) hS.2.2 dX7_isIn_15

set_option maxHeartbeats 4000000 in
set_option maxRecDepth 100000 in
theorem c_X7_isNoPlace (l : Launch) (p0 : Int32) : Met l yX7_isNoPlace wsX7_isNoPlace ({ frames := 16, cells := 0, slots := 0, locals := 400 }) (va_Pc [.int p0] (fun _ => True)) (va_Qi (fun (r : Int32) (u : Unit) => ax_bo r (¬ (0 ≤ p0.toInt ∧ p0.toInt ≤ 7))) (fun _ _ => True) ax_no) 0 0 ax_no := by
  refine Met.ofW (cc := cX7_isNoPlace) (maxL := 1) (ret := (some .boolean)) (by decide) rfl ?_
  intro p e s m args below meth c s₁ B hml hv
  obtain ⟨rfl, -⟩ := hv
  have hx := B.exec
  have hb := B.bytes
  have hr := B.returns
  have hts := atoms_spec (ws := wsX7_isNoPlace) B.pre
  have hown : s.vm.findClass RX7 = some m.cls := findClass_of_methodNamed B.named
  have hlocks := B.notSynchronized
  have hS : va_S ax_no s.heap s.heap [] := va_S.rf
  have hl := lv_entry ([.int p0]) (n := 1) (Nat.le_of_ble_eq_true rfl)
  rw [lg_entry_eq]
  generalize (lg_sl ([.int p0]) ++ List.replicate (1 - (lg_sl ([.int p0])).length) Slot.unset).toArray = ls at hl ⊢
  have hl : lv_has ls 1 [(0, .int p0)] := hl
  refine lv_iload_n hx hb dX7_isNoPlace_0 rfl (lv_at hl 0 rfl) ?_
  refine lv_iconst (v := 0) hx hb dX7_isNoPlace_1 (by decide) ?_
  refine lv_bipush (v := 7) hx hb dX7_isNoPlace_2 (by decide) ?_
  refine va_calli (va_runS (As := [.int p0, .int 0, .int 7]) (rest := []) ⟨hx, hb, hml, hown, hts⟩ (c_X7_isIn l p0 0 7) (va_cwS 3 hts gX7_isNoPlace_X7_isIn rfl rfl rfl (by decide +kernel) ⟨Nat.le_of_ble_eq_true rfl, Nat.le_of_ble_eq_true rfl⟩) ⟨ax_fbP, ax_prP⟩ rfl rfl hl.1 rfl (lv_room (Nat.le_of_ble_eq_true rfl)) dX7_isNoPlace_4 ⟨Nat.le_of_ble_eq_true rfl, Nat.le_of_ble_eq_true rfl⟩) hS (fun _ _ h9 => h9.elim) (fun _ h9 => h9.elim) (fun r_1 u_3  t H locs ht hvm hw_2 hB hz1 hk1 hS => ?_)
  rcases hw_2 with ⟨hr9, hw_2⟩ | ⟨hr9, hw_2⟩
  · have hw_2 : 0 ≤ p0.toInt ∧ p0.toInt ≤ 7 := hw_2
    refine ax_i hr9 ?_
    refine lv_if_ne (tgt := 14) hx hb dX7_isNoPlace_7 (by decide) (fun _ => ?_) (fun h9 => absurd h9 (by decide))
    refine lv_iconst (v := 0) hx hb dX7_isNoPlace_14 (by decide) ?_
    refine W.widen (k := 0) (n := 0) (Nat.le_of_ble_eq_true rfl) (Nat.le_of_ble_eq_true rfl) ?_
    exact W.zret (v := 0) (ty := .boolean) hx hb hr (by decide +kernel) (fun t ht hW => ⟨⟨0, (), rfl, Or.inr ⟨rfl, by omega⟩, trivial⟩, hS.F ht⟩) hS.2.2 dX7_isNoPlace_15
  · have hw_2 : ¬ (0 ≤ p0.toInt ∧ p0.toInt ≤ 7) := hw_2
    refine ax_i hr9 ?_
    refine lv_if_ne (tgt := 14) hx hb dX7_isNoPlace_7 (by decide) (fun h9 => absurd rfl h9) (fun _ => ?_)
    refine lv_iconst (v := 1) hx hb dX7_isNoPlace_10 (by decide) ?_
    refine lv_goto (tgt := 15) hx hb dX7_isNoPlace_11 (by decide) ?_
    refine W.widen (k := 0) (n := 0) (Nat.le_of_ble_eq_true rfl) (Nat.le_of_ble_eq_true rfl) ?_
    exact W.zret (v := 1) (ty := .boolean) hx hb hr (by decide +kernel) (fun t ht hW => ⟨⟨1, (), rfl, Or.inl ⟨rfl, by omega⟩, trivial⟩, hS.F ht⟩) hS.2.2 dX7_isNoPlace_15

set_option maxHeartbeats 4000000 in
set_option maxRecDepth 100000 in
theorem c_X7_isNoSource (l : Launch) (p0 : Int32) (p1 : Int32) (p2 : Int32) : Met l yX7_isNoSource wsX7_isNoSource ({ frames := 24, cells := 0, slots := 0, locals := 600 }) (va_Pc [.int p0, .int p1, .int p2] (fun _ => True)) (va_Qi (fun (r : Int32) (u : Unit) => ax_bo r (¬ ((0 ≤ p0.toInt ∧ p0.toInt ≤ 7) ∧ (0 ≤ p1.toInt ∧ p1.toInt ≤ 7) ∧ (1 ≤ p2.toInt ∧ p2.toInt ≤ 9)))) (fun _ _ => True) ax_no) 0 0 ax_no := by
  refine Met.ofW (cc := cX7_isNoSource) (maxL := 3) (ret := (some .boolean)) (by decide) rfl ?_
  intro p e s m args below meth c s₁ B hml hv
  obtain ⟨rfl, -⟩ := hv
  have hx := B.exec
  have hb := B.bytes
  have hr := B.returns
  have hts := atoms_spec (ws := wsX7_isNoSource) B.pre
  have hown : s.vm.findClass RX7 = some m.cls := findClass_of_methodNamed B.named
  have hlocks := B.notSynchronized
  have hS : va_S ax_no s.heap s.heap [] := va_S.rf
  have hl := lv_entry ([.int p0, .int p1, .int p2]) (n := 3) (Nat.le_of_ble_eq_true rfl)
  rw [lg_entry_eq]
  generalize (lg_sl ([.int p0, .int p1, .int p2]) ++ List.replicate (3 - (lg_sl ([.int p0, .int p1, .int p2])).length) Slot.unset).toArray = ls at hl ⊢
  have hl : lv_has ls 3 [(0, .int p0), (1, .int p1), (2, .int p2)] := hl
  refine lv_iload_n hx hb dX7_isNoSource_0 rfl (lv_at hl 0 rfl) ?_
  refine va_calli (va_runS (As := [.int p0]) (rest := []) ⟨hx, hb, hml, hown, hts⟩ (c_X7_isNoPlace l p0) (va_cwS 1 hts gX7_isNoSource_X7_isNoPlace rfl rfl rfl (by decide +kernel) ⟨Nat.le_of_ble_eq_true rfl, Nat.le_of_ble_eq_true rfl⟩) ⟨ax_fbP, ax_prP⟩ rfl rfl hl.1 rfl (lv_room (Nat.le_of_ble_eq_true rfl)) dX7_isNoSource_1 ⟨Nat.le_of_ble_eq_true rfl, Nat.le_of_ble_eq_true rfl⟩) hS (fun _ _ h9 => h9.elim) (fun _ h9 => h9.elim) (fun r_1 u_3  t H locs ht hvm hw_2 hB hz1 hk1 hS => ?_)
  rcases hw_2 with ⟨hr9, hw_2⟩ | ⟨hr9, hw_2⟩
  · refine ax_i hr9 ?_
    refine lv_if_ne (tgt := 27) hx hb dX7_isNoSource_4 (by decide) (fun _ => ?_) (fun h9 => absurd h9 (by decide))
    refine lv_iconst (v := 1) hx hb dX7_isNoSource_27 (by decide) ?_
    refine lv_goto (tgt := 32) hx hb dX7_isNoSource_28 (by decide) ?_
    refine W.widen (k := 0) (n := 0) (Nat.le_of_ble_eq_true rfl) (Nat.le_of_ble_eq_true rfl) ?_
    exact W.zret (v := 1) (ty := .boolean) hx hb hr (by decide +kernel) (fun t ht hW => ⟨⟨1, (), rfl, Or.inl ⟨rfl, by omega⟩, trivial⟩, hS.F ht⟩) hS.2.2 dX7_isNoSource_32
  · refine ax_i hr9 ?_
    refine lv_if_ne (tgt := 27) hx hb dX7_isNoSource_4 (by decide) (fun h9 => absurd rfl h9) (fun _ => ?_)
    refine lv_iload_n hx hb dX7_isNoSource_7 rfl (lv_at hl 1 rfl) ?_
    refine lv_iconst (v := 0) hx hb dX7_isNoSource_8 (by decide) ?_
    refine lv_bipush (v := 7) hx hb dX7_isNoSource_9 (by decide) ?_
    refine va_calli (va_runS (As := [.int p1, .int 0, .int 7]) (rest := []) ⟨hx, hb, hml, hown, hts⟩ (c_X7_isIn l p1 0 7) (va_cwS 3 hts gX7_isNoSource_X7_isIn rfl rfl rfl (by decide +kernel) ⟨Nat.le_of_ble_eq_true rfl, Nat.le_of_ble_eq_true rfl⟩) ⟨ax_fbP, ax_prP⟩ rfl rfl hl.1 rfl (lv_room (Nat.le_of_ble_eq_true rfl)) dX7_isNoSource_11 ⟨Nat.le_of_ble_eq_true rfl, Nat.le_of_ble_eq_true rfl⟩) hS (fun _ _ h9 => h9.elim) (fun _ h9 => h9.elim) (fun r_4 u_6  t H locs ht hvm hw_5 hB hz1 hk1 hS => ?_)
    rcases hw_5 with ⟨hr9, hw_5⟩ | ⟨hr9, hw_5⟩
    · have hw_5 : 0 ≤ p1.toInt ∧ p1.toInt ≤ 7 := hw_5
      refine ax_i hr9 ?_
      refine lv_if_eq (tgt := 27) hx hb dX7_isNoSource_14 (by decide) (fun h9 => absurd h9 (by decide)) (fun _ => ?_)
      refine lv_iload_n hx hb dX7_isNoSource_17 rfl (lv_at hl 2 rfl) ?_
      refine lv_iconst (v := 1) hx hb dX7_isNoSource_18 (by decide) ?_
      refine lv_bipush (v := 9) hx hb dX7_isNoSource_19 (by decide) ?_
      refine va_calli (va_runS (As := [.int p2, .int 1, .int 9]) (rest := []) ⟨hx, hb, hml, hown, hts⟩ (c_X7_isIn l p2 1 9) (va_cwS 3 hts gX7_isNoSource_X7_isIn rfl rfl rfl (by decide +kernel) ⟨Nat.le_of_ble_eq_true rfl, Nat.le_of_ble_eq_true rfl⟩) ⟨ax_fbP, ax_prP⟩ rfl rfl hl.1 rfl (lv_room (Nat.le_of_ble_eq_true rfl)) dX7_isNoSource_21 ⟨Nat.le_of_ble_eq_true rfl, Nat.le_of_ble_eq_true rfl⟩) hS (fun _ _ h9 => h9.elim) (fun _ h9 => h9.elim) (fun r_7 u_9  t H locs ht hvm hw_8 hB hz1 hk1 hS => ?_)
      rcases hw_8 with ⟨hr9, hw_8⟩ | ⟨hr9, hw_8⟩
      · have hw_8 : 1 ≤ p2.toInt ∧ p2.toInt ≤ 9 := hw_8
        refine ax_i hr9 ?_
        refine lv_if_ne (tgt := 31) hx hb dX7_isNoSource_24 (by decide) (fun _ => ?_) (fun h9 => absurd h9 (by decide))
        refine lv_iconst (v := 0) hx hb dX7_isNoSource_31 (by decide) ?_
        refine W.widen (k := 0) (n := 0) (Nat.le_of_ble_eq_true rfl) (Nat.le_of_ble_eq_true rfl) ?_
        exact W.zret (v := 0) (ty := .boolean) hx hb hr (by decide +kernel) (fun t ht hW => ⟨⟨0, (), rfl, Or.inr ⟨rfl, by omega⟩, trivial⟩, hS.F ht⟩) hS.2.2 dX7_isNoSource_32
      · have hw_8 : ¬ (1 ≤ p2.toInt ∧ p2.toInt ≤ 9) := hw_8
        refine ax_i hr9 ?_
        refine lv_if_ne (tgt := 31) hx hb dX7_isNoSource_24 (by decide) (fun h9 => absurd rfl h9) (fun _ => ?_)
        refine lv_iconst (v := 1) hx hb dX7_isNoSource_27 (by decide) ?_
        refine lv_goto (tgt := 32) hx hb dX7_isNoSource_28 (by decide) ?_
        refine W.widen (k := 0) (n := 0) (Nat.le_of_ble_eq_true rfl) (Nat.le_of_ble_eq_true rfl) ?_
        exact W.zret (v := 1) (ty := .boolean) hx hb hr (by decide +kernel) (fun t ht hW => ⟨⟨1, (), rfl, Or.inl ⟨rfl, by omega⟩, trivial⟩, hS.F ht⟩) hS.2.2 dX7_isNoSource_32
    · have hw_5 : ¬ (0 ≤ p1.toInt ∧ p1.toInt ≤ 7) := hw_5
      refine ax_i hr9 ?_
      refine lv_if_eq (tgt := 27) hx hb dX7_isNoSource_14 (by decide) (fun _ => ?_) (fun h9 => absurd (by decide) h9)
      refine lv_iconst (v := 1) hx hb dX7_isNoSource_27 (by decide) ?_
      refine lv_goto (tgt := 32) hx hb dX7_isNoSource_28 (by decide) ?_
      refine W.widen (k := 0) (n := 0) (Nat.le_of_ble_eq_true rfl) (Nat.le_of_ble_eq_true rfl) ?_
      exact W.zret (v := 1) (ty := .boolean) hx hb hr (by decide +kernel) (fun t ht hW => ⟨⟨1, (), rfl, Or.inl ⟨rfl, by omega⟩, trivial⟩, hS.F ht⟩) hS.2.2 dX7_isNoSource_32

set_option maxHeartbeats 4000000 in
set_option maxRecDepth 100000 in
theorem c_X7_isNoNumber (l : Launch) (dC : Nat → ClassId) (dI : Nat → Nat → Nat) (sa ta : Nat → Nat) (p0 : Int32) (p1 : Int32) (hk : 0 ≤ p0.toInt ∧ p0.toInt ≤ 10) : Met l yX7_isNoNumber wsX7_isNoNumber ({ frames := 16, cells := 0, slots := 0, locals := 400 }) (va_Pc [.int p0, .int p1] (ax_R (dC, dI) vwCl [] [] sa ta)) (va_Qi (fun (r : Int32) (u : Unit) => ax_bo r (¬ ((ax_lo p0).toInt ≤ p1.toInt ∧ p1.toInt ≤ (ax_hi p0).toInt))) (fun _ _ => True) ax_no) 0 0 ax_no := by
  refine Met.ofW (cc := cX7_isNoNumber) (maxL := 2) (ret := (some .boolean)) (by decide) rfl ?_
  intro p e s m args below meth c s₁ B hml hv
  obtain ⟨rfl, hP, hK, hE⟩ := hv
  have hx := B.exec
  have hb := B.bytes
  have hr := B.returns
  have hts := atoms_spec (ws := wsX7_isNoNumber) B.pre
  have hown : s.vm.findClass RX7 = some m.cls := findClass_of_methodNamed B.named
  have hlocks := B.notSynchronized
  have hS : va_S ax_no s.heap s.heap [] := va_S.rf
  have hl := lv_entry ([.int p0, .int p1]) (n := 2) (Nat.le_of_ble_eq_true rfl)
  rw [lg_entry_eq]
  generalize (lg_sl ([.int p0, .int p1]) ++ List.replicate (2 - (lg_sl ([.int p0, .int p1])).length) Slot.unset).toArray = ls at hl ⊢
  have hl : lv_has ls 2 [(0, .int p0), (1, .int p1)] := hl
  have hP : va_P (dC, dI) vwCl [] s.heap := hP
  refine lv_iload_n hx hb dX7_isNoNumber_0 rfl (lv_at hl 1 rfl) ?_
  refine va_gets hx hb hE.z2 hS hown (hts (.fieldLink RX7 39 "DiffractoryModel" "LEAST" "[I") (by decide +kernel)) (fun _ h9 => h9) dX7_isNoNumber_1 ?_
  refine lv_iload_n hx hb dX7_isNoNumber_4 rfl (lv_at hl 0 rfl) ?_
  refine va_ti (v := .int (ax_lo p0)) hx hb hE.t2 hS (vp_in_iff.mpr ⟨by omega, by omega⟩) rfl dX7_isNoNumber_5 ?_
  refine va_gets hx hb hE.z3 hS hown (hts (.fieldLink RX7 43 "DiffractoryModel" "MOST" "[I") (by decide +kernel)) (fun _ h9 => h9) dX7_isNoNumber_6 ?_
  refine lv_iload_n hx hb dX7_isNoNumber_9 rfl (lv_at hl 0 rfl) ?_
  refine va_ti (v := .int (ax_hi p0)) hx hb hE.t3 hS (vp_in_iff.mpr ⟨by omega, by omega⟩) rfl dX7_isNoNumber_10 ?_
  refine va_calli (va_runS (As := [.int p1, .int (ax_lo p0), .int (ax_hi p0)]) (rest := []) ⟨hx, hb, hml, hown, hts⟩ (c_X7_isIn l p1 (ax_lo p0) (ax_hi p0)) (va_cwS 3 hts gX7_isNoNumber_X7_isIn rfl rfl rfl (by decide +kernel) ⟨Nat.le_of_ble_eq_true rfl, Nat.le_of_ble_eq_true rfl⟩) ⟨ax_fbP, ax_prP⟩ rfl rfl hl.1 rfl (lv_room (Nat.le_of_ble_eq_true rfl)) dX7_isNoNumber_11 ⟨Nat.le_of_ble_eq_true rfl, Nat.le_of_ble_eq_true rfl⟩) hS (fun _ _ h9 => h9.elim) (fun _ h9 => h9.elim) (fun r_3 u_5  t H locs ht hvm hw_4 hB hz1 hk1 hS => ?_)
  have hP := ax_keep hP (fun _ h9 => h9) hk1
  rcases hw_4 with ⟨hr9, hw_4⟩ | ⟨hr9, hw_4⟩
  · have hw_4 : (ax_lo p0).toInt ≤ p1.toInt ∧ p1.toInt ≤ (ax_hi p0).toInt := hw_4
    refine ax_i hr9 ?_
    refine lv_if_ne (tgt := 21) hx hb dX7_isNoNumber_14 (by decide) (fun _ => ?_) (fun h9 => absurd h9 (by decide))
    refine lv_iconst (v := 0) hx hb dX7_isNoNumber_21 (by decide) ?_
    refine W.widen (k := 0) (n := 0) (Nat.le_of_ble_eq_true rfl) (Nat.le_of_ble_eq_true rfl) ?_
    exact W.zret (v := 0) (ty := .boolean) hx hb hr (by decide +kernel) (fun t ht hW => ⟨⟨0, (), rfl, Or.inr ⟨rfl, by omega⟩, trivial⟩, hS.F ht⟩) hS.2.2 dX7_isNoNumber_22
  · have hw_4 : ¬ ((ax_lo p0).toInt ≤ p1.toInt ∧ p1.toInt ≤ (ax_hi p0).toInt) := hw_4
    refine ax_i hr9 ?_
    refine lv_if_ne (tgt := 21) hx hb dX7_isNoNumber_14 (by decide) (fun h9 => absurd rfl h9) (fun _ => ?_)
    refine lv_iconst (v := 1) hx hb dX7_isNoNumber_17 (by decide) ?_
    refine lv_goto (tgt := 22) hx hb dX7_isNoNumber_18 (by decide) ?_
    refine W.widen (k := 0) (n := 0) (Nat.le_of_ble_eq_true rfl) (Nat.le_of_ble_eq_true rfl) ?_
    exact W.zret (v := 1) (ty := .boolean) hx hb hr (by decide +kernel) (fun t ht hW => ⟨⟨1, (), rfl, Or.inl ⟨rfl, by omega⟩, trivial⟩, hS.F ht⟩) hS.2.2 dX7_isNoNumber_22

set_option maxHeartbeats 4000000 in
set_option maxRecDepth 100000 in
theorem c_X7_init (l : Launch) (dC : Nat → ClassId) (dI : Nat → Nat → Nat) (y : Nat) (sa ta : Nat → Nat) (sz : Nat) : Met l yX7_init wsX7_init ({ frames := 32, cells := 2, slots := 6, locals := 800 }) (va_Pc [.ref y] (ax_W (dC, dI) vwCl [(y, .inr (11, [.int 0, .null, .null, .int 0]))] [] sa ta sz)) (va_Qv (fun (u : Nat × Nat) => True) (fun (u : Nat × Nat) (t : State) => va_P (dC, dI) vwCl [(y, .inr (11, [.int 0, .ref (u.1), .ref (u.2), .int 0])), ((u.1), .inr (3, [.int 0, .ref (ta 4), .int 0])), ((u.2), .inr (3, [.int 0, .ref (ta 4), .int 0]))] t.heap ∧ va_K (dC, dI) vwCl [] t ∧ va_D (va_A [(y, .inr (11, [.int 0, .null, .null, .int 0]))] sz) [(y, .inr (11, [.int 0, .ref (u.1), .ref (u.2), .int 0])), ((u.1), .inr (3, [.int 0, .ref (ta 4), .int 0])), ((u.2), .inr (3, [.int 0, .ref (ta 4), .int 0]))]) (va_A [(y, .inr (11, [.int 0, .null, .null, .int 0]))] sz)) 2 6 (va_A [(y, .inr (11, [.int 0, .null, .null, .int 0]))] sz) := by
  refine Met.ofW (cc := cX7_init) (maxL := 1) (ret := none) (by decide) rfl ?_
  intro p e s m args below meth c s₁ B hml hv
  obtain ⟨rfl, hsz, hP, hK, hD0, hE⟩ := hv
  have hx := B.exec
  have hb := B.bytes
  have hr := B.returns
  have hts := atoms_spec (ws := wsX7_init) B.pre
  have hown : s.vm.findClass RX7 = some m.cls := findClass_of_methodNamed B.named
  have hlocks := B.notSynchronized
  have hin : meth.name = "<init>" := (name_of_methodNamed B.named B.method).1
  subst hsz
  have hD := hD0.self (sz := s.heap.size)
  generalize hAe : va_A [(y, .inr (11, [.int 0, .null, .null, .int 0]))] s.heap.size = A at hD hE ⊢
  have hA : ∀ q : Nat, s.heap.size ≤ q → A q := fun q h => by rw [← hAe]; exact Or.inr h
  have hS : va_S A s.heap s.heap [] := va_S.rf
  have hl := lv_entry ([.ref y]) (n := 1) (Nat.le_of_ble_eq_true rfl)
  rw [lg_entry_eq]
  generalize (lg_sl ([.ref y]) ++ List.replicate (1 - (lg_sl ([.ref y])).length) Slot.unset).toArray = ls at hl ⊢
  have hl : lv_has ls 1 [(0, .ref y)] := hl
  have hP : va_P (dC, dI) vwCl [(y, .inr (11, [.int 0, .null, .null, .int 0]))] s.heap := hP
  refine lv_aload_n hx hb dX7_init_0 rfl (lv_at hl 0 rfl) ?_
  refine W.objInit hx hb hown (hts (.methodLink RX7 1 objectInit) (by decide +kernel)) (hts (.instanceMethod objectInit) (by decide +kernel)) (hts (.code objectInit ⟨#[0xb1]⟩ 1 none) (by decide +kernel)) rfl (by rw [hml]; exact hl.1) rfl dX7_init_1 (Nat.le_of_ble_eq_true rfl) (Nat.le_of_ble_eq_true rfl) ?_
  refine W.eq (g2 := F0 m 4 ls []) rfl ?_
  refine lv_aload_n hx hb dX7_init_4 rfl (lv_at hl 0 rfl) ?_
  refine va_new (ci := 3) (fs := [.int 0, .null, .int 0]) (C := RJx4a65c) (T := TJx4a65c) (N := 3) hx hb hts (by decide +kernel) tyJx4a65c tyJx4a65c_ok hown (hts (.classLink RX7 7 RJx4a65c) (by decide +kernel)) (hts (.instantiable RJx4a65c 3) (by decide +kernel)) (hts (.initialized RJx4a65c) (by decide +kernel)) hK hP hD hS hA rfl (fun j hj => by rcases (show j = 0 ∨ j = 1 ∨ j = 2 by omega) with rfl | rfl | rfl <;> rfl) (Nat.le_of_ble_eq_true rfl) (Nat.le_of_ble_eq_true rfl) dX7_init_5 (fun q_1 H hP hD hS => ?_)
  have hP : va_P (dC, dI) vwCl [(y, .inr (11, [.int 0, .null, .null, .int 0])), (q_1, .inr (3, [.int 0, .null, .int 0]))] H := hP
  have hD : va_D A [(y, .inr (11, [.int 0, .null, .null, .int 0])), (q_1, .inr (3, [.int 0, .null, .int 0]))] := hD
  refine lv_dup hx hb dX7_init_8 rfl ?_
  have hPc := hP.sub (ws' := [(q_1, .inr (3, [.int 0, .null, .int 0]))]) [1] rfl
  have hKc := hK.sub (tys' := []) [] rfl
  have hDc := hD.sub (ws' := [(q_1, .inr (3, [.int 0, .null, .int 0]))]) [1] (by decide) rfl
  have hFc := va_free (wc := [(q_1, .inr (3, [.int 0, .null, .int 0]))]) hD hS hA [1] rfl
  refine va_callv (va_runI (As := []) (rest := [.ref q_1, .ref y]) ⟨hx, hb, hml, hown, hts⟩ (c_Jx4a65c_init_da8c8 l dC dI q_1 sa ta H.size) (cwI 0 hts gX7_init_Jx4a65c_init_da8c8 rfl rfl rfl (hts (.initialized RJx4a65c) (by decide +kernel)) (hts (.methodLink RX7 9 yJx4a65c_init_da8c8) (by decide +kernel)) (hts (.instanceMethod yJx4a65c_init_da8c8) (by decide +kernel)) rfl (by decide +kernel) ⟨Nat.le_of_ble_eq_true rfl, Nat.le_of_ble_eq_true rfl⟩) ⟨ax_fbW, ax_prW hPc hKc hDc hS hFc hE⟩ rfl rfl hl.1 rfl (lv_room (Nat.le_of_ble_eq_true rfl)) dX7_init_9 ⟨Nat.le_of_ble_eq_true rfl, Nat.le_of_ble_eq_true rfl⟩) hS (fun q _ h9 => hFc q h9) hFc (fun u_4  t H locs ht hvm hw_3 hB hz1 hk1 hS => ?_)
  obtain ⟨hP1, hK1, hD1⟩ := hB
  rw [ht] at hP1
  have hK1 := va_K.moved hvm.symm hK1
  obtain ⟨hP, hD⟩ := va_join (wr := [(y, .inr (11, [.int 0, .null, .null, .int 0]))]) (w1 := [(q_1, .inr (3, [.int 0, .ref (ta 4), .int 0]))]) hP hD [1] [0] rfl rfl (by decide) (by decide) hk1 hFc hP1 hD1
  have hP : va_P (dC, dI) vwCl [(y, .inr (11, [.int 0, .null, .null, .int 0])), (q_1, .inr (3, [.int 0, .ref (ta 4), .int 0]))] H := hP
  have hD : va_D A [(y, .inr (11, [.int 0, .null, .null, .int 0])), (q_1, .inr (3, [.int 0, .ref (ta 4), .int 0]))] := hD
  refine va_putF (D := (dC, dI)) (ci := 11) (v := .ref q_1) (ty := .object "java/util/ArrayList") (C := RX7) (T := TX7) (N := 4) hx hb hts (by decide +kernel) tyX7 tyX7_ok nmX7 hown hK hP hD hS 0 rfl rfl 1 (by decide) (hts (.fieldLink RX7 10 "DiffractoryModel" "sources" "Ljava/util/ArrayList;") (by decide +kernel)) (fun _ h9 => h9) rfl hin rfl (by decide +kernel) rfl rfl (Nat.le_of_ble_eq_true rfl) dX7_init_12 (fun H locs hP hD hS => ?_)
  have hP : va_P (dC, dI) vwCl [(y, .inr (11, [.int 0, .ref q_1, .null, .int 0])), (q_1, .inr (3, [.int 0, .ref (ta 4), .int 0]))] H := hP
  have hD : va_D A [(y, .inr (11, [.int 0, .ref q_1, .null, .int 0])), (q_1, .inr (3, [.int 0, .ref (ta 4), .int 0]))] := hD
  refine lv_aload_n hx hb dX7_init_15 rfl (lv_at hl 0 rfl) ?_
  refine va_new (ci := 3) (fs := [.int 0, .null, .int 0]) (C := RJx4a65c) (T := TJx4a65c) (N := 3) hx hb hts (by decide +kernel) tyJx4a65c tyJx4a65c_ok hown (hts (.classLink RX7 7 RJx4a65c) (by decide +kernel)) (hts (.instantiable RJx4a65c 3) (by decide +kernel)) (hts (.initialized RJx4a65c) (by decide +kernel)) hK hP hD hS hA rfl (fun j hj => by rcases (show j = 0 ∨ j = 1 ∨ j = 2 by omega) with rfl | rfl | rfl <;> rfl) (Nat.le_of_ble_eq_true rfl) (Nat.le_of_ble_eq_true rfl) dX7_init_16 (fun q_5 H hP hD hS => ?_)
  have hP : va_P (dC, dI) vwCl [(y, .inr (11, [.int 0, .ref q_1, .null, .int 0])), (q_1, .inr (3, [.int 0, .ref (ta 4), .int 0])), (q_5, .inr (3, [.int 0, .null, .int 0]))] H := hP
  have hD : va_D A [(y, .inr (11, [.int 0, .ref q_1, .null, .int 0])), (q_1, .inr (3, [.int 0, .ref (ta 4), .int 0])), (q_5, .inr (3, [.int 0, .null, .int 0]))] := hD
  refine lv_dup hx hb dX7_init_19 rfl ?_
  have hPc := hP.sub (ws' := [(q_5, .inr (3, [.int 0, .null, .int 0]))]) [2] rfl
  have hKc := hK.sub (tys' := []) [] rfl
  have hDc := hD.sub (ws' := [(q_5, .inr (3, [.int 0, .null, .int 0]))]) [2] (by decide) rfl
  have hFc := va_free (wc := [(q_5, .inr (3, [.int 0, .null, .int 0]))]) hD hS hA [2] rfl
  refine va_callv (va_runI (As := []) (rest := [.ref q_5, .ref y]) ⟨hx, hb, hml, hown, hts⟩ (c_Jx4a65c_init_da8c8 l dC dI q_5 sa ta H.size) (cwI 0 hts gX7_init_Jx4a65c_init_da8c8 rfl rfl rfl (hts (.initialized RJx4a65c) (by decide +kernel)) (hts (.methodLink RX7 9 yJx4a65c_init_da8c8) (by decide +kernel)) (hts (.instanceMethod yJx4a65c_init_da8c8) (by decide +kernel)) rfl (by decide +kernel) ⟨Nat.le_of_ble_eq_true rfl, Nat.le_of_ble_eq_true rfl⟩) ⟨ax_fbW, ax_prW hPc hKc hDc hS hFc hE⟩ rfl rfl hl.1 rfl (lv_room (Nat.le_of_ble_eq_true rfl)) dX7_init_20 ⟨Nat.le_of_ble_eq_true rfl, Nat.le_of_ble_eq_true rfl⟩) hS (fun q _ h9 => hFc q h9) hFc (fun u_8  t H locs ht hvm hw_7 hB hz1 hk1 hS => ?_)
  obtain ⟨hP1, hK1, hD1⟩ := hB
  rw [ht] at hP1
  have hK1 := va_K.moved hvm.symm hK1
  obtain ⟨hP, hD⟩ := va_join (wr := [(y, .inr (11, [.int 0, .ref q_1, .null, .int 0])), (q_1, .inr (3, [.int 0, .ref (ta 4), .int 0]))]) (w1 := [(q_5, .inr (3, [.int 0, .ref (ta 4), .int 0]))]) hP hD [2] [0, 1] rfl rfl (by decide) (by decide) hk1 hFc hP1 hD1
  have hP : va_P (dC, dI) vwCl [(y, .inr (11, [.int 0, .ref q_1, .null, .int 0])), (q_1, .inr (3, [.int 0, .ref (ta 4), .int 0])), (q_5, .inr (3, [.int 0, .ref (ta 4), .int 0]))] H := hP
  have hD : va_D A [(y, .inr (11, [.int 0, .ref q_1, .null, .int 0])), (q_1, .inr (3, [.int 0, .ref (ta 4), .int 0])), (q_5, .inr (3, [.int 0, .ref (ta 4), .int 0]))] := hD
  refine va_putF (D := (dC, dI)) (ci := 11) (v := .ref q_5) (ty := .object "java/util/ArrayList") (C := RX7) (T := TX7) (N := 4) hx hb hts (by decide +kernel) tyX7 tyX7_ok nmX7 hown hK hP hD hS 0 rfl rfl 2 (by decide) (hts (.fieldLink RX7 16 "DiffractoryModel" "parts" "Ljava/util/ArrayList;") (by decide +kernel)) (fun _ h9 => h9) rfl hin rfl (by decide +kernel) rfl rfl (Nat.le_of_ble_eq_true rfl) dX7_init_23 (fun H locs hP hD hS => ?_)
  have hP : va_P (dC, dI) vwCl [(y, .inr (11, [.int 0, .ref q_1, .ref q_5, .int 0])), (q_1, .inr (3, [.int 0, .ref (ta 4), .int 0])), (q_5, .inr (3, [.int 0, .ref (ta 4), .int 0]))] H := hP
  have hD : va_D A [(y, .inr (11, [.int 0, .ref q_1, .ref q_5, .int 0])), (q_1, .inr (3, [.int 0, .ref (ta 4), .int 0])), (q_5, .inr (3, [.int 0, .ref (ta 4), .int 0]))] := hD
  refine W.widen (k := 2) (n := 6) (Nat.le_of_ble_eq_true rfl) (Nat.le_of_ble_eq_true rfl) ?_
  have hP9 := hP.sub (ws' := [(y, .inr (11, [.int 0, .ref q_1, .ref q_5, .int 0])), (q_1, .inr (3, [.int 0, .ref (ta 4), .int 0])), (q_5, .inr (3, [.int 0, .ref (ta 4), .int 0]))]) [0, 1, 2] rfl
  have hD9 := hD.sub (ws' := [(y, .inr (11, [.int 0, .ref q_1, .ref q_5, .int 0])), (q_1, .inr (3, [.int 0, .ref (ta 4), .int 0])), (q_5, .inr (3, [.int 0, .ref (ta 4), .int 0]))]) [0, 1, 2] (by decide) rfl
  have hK9 := hK.sub (tys' := []) [] rfl
  exact W.vret hx hb hr (fun t ht hW => ⟨⟨(q_1, q_5), rfl, trivial, by rw [ht]; exact hP9, va_K.moved hW.alike hK9, hD9⟩, hS.F ht⟩) hS.2.2 dX7_init_26

set_option maxHeartbeats 4000000 in
set_option maxRecDepth 100000 in
theorem c_X7_thrown (l : Launch) (dC : Nat → ClassId) (dI : Nat → Nat → Nat) (y ys yp : Nat) (sa ta : Nat → Nat) (th : Int32) : Met l yX7_thrown wsX7_thrown ({ frames := 8, cells := 0, slots := 0, locals := 200 }) (va_Pc [.ref y] (ax_R (dC, dI) vwCl [(y, .inr (11, [.int th, .ref ys, .ref yp, .int 0]))] [] sa ta)) (va_Qi (fun (r : Int32) (u : Unit) => r = th) (fun _ _ => True) ax_no) 0 0 ax_no := by
  refine Met.ofW (cc := cX7_thrown) (maxL := 1) (ret := (some .int)) (by decide) rfl ?_
  intro p e s m args below meth c s₁ B hml hv
  obtain ⟨rfl, hP, hK, hE⟩ := hv
  have hx := B.exec
  have hb := B.bytes
  have hr := B.returns
  have hts := atoms_spec (ws := wsX7_thrown) B.pre
  have hown : s.vm.findClass RX7 = some m.cls := findClass_of_methodNamed B.named
  have hlocks := B.notSynchronized
  have hS : va_S ax_no s.heap s.heap [] := va_S.rf
  have hl := lv_entry ([.ref y]) (n := 1) (Nat.le_of_ble_eq_true rfl)
  rw [lg_entry_eq]
  generalize (lg_sl ([.ref y]) ++ List.replicate (1 - (lg_sl ([.ref y])).length) Slot.unset).toArray = ls at hl ⊢
  have hl : lv_has ls 1 [(0, .ref y)] := hl
  have hP : va_P (dC, dI) vwCl [(y, .inr (11, [.int th, .ref ys, .ref yp, .int 0]))] s.heap := hP
  refine lv_aload_n hx hb dX7_thrown_0 rfl (lv_at hl 0 rfl) ?_
  refine va_get (D := (dC, dI)) (ci := 11) (v := .int th) (C := RX7) (T := TX7) (N := 4) hx hb hts (by decide +kernel) hown hK hP 0 rfl rfl 0 (by decide) (hts (.fieldLink RX7 19 "DiffractoryModel" "thrown" "I") (by decide +kernel)) (fun _ h9 => h9) rfl dX7_thrown_1 ?_
  refine W.widen (k := 0) (n := 0) (Nat.le_of_ble_eq_true rfl) (Nat.le_of_ble_eq_true rfl) ?_
  exact W.iret (v := th) hx hb hr (fun t ht hW => ⟨⟨th, (), rfl, rfl, trivial⟩, hS.F ht⟩) hS.2.2 dX7_thrown_4

set_option maxHeartbeats 4000000 in
set_option maxRecDepth 100000 in
theorem c_X7_refuse_01 (l : Launch) (dC : Nat → ClassId) (dI : Nat → Nat → Nat) (y ys yp : Nat) (sa ta : Nat → Nat) (sz : Nat) : Met l yX7_refuse wsX7_refuse ({ frames := 8, cells := 0, slots := 0, locals := 200 }) (va_Pc [.ref y, .int 0, .int 1] (ax_W (dC, dI) vwCl [(y, .inr (11, [.int 0, .ref ys, .ref yp, .int 0])), (ys, .inr (3, [.int 0, .ref (ta 4), .int 0])), (yp, .inr (3, [.int 0, .ref (ta 4), .int 0]))] [] sa ta sz)) (va_Qi (fun (r : Int32) (u : Unit) => r = 0) (fun (u : Unit) (t : State) => va_P (dC, dI) vwCl [(y, .inr (11, [.int 0, .ref ys, .ref yp, .int 0])), (ys, .inr (3, [.int 0, .ref (ta 4), .int 0])), (yp, .inr (3, [.int 0, .ref (ta 4), .int 0]))] t.heap ∧ va_K (dC, dI) vwCl [] t ∧ va_D (va_A [(y, .inr (11, [.int 0, .ref ys, .ref yp, .int 0])), (ys, .inr (3, [.int 0, .ref (ta 4), .int 0])), (yp, .inr (3, [.int 0, .ref (ta 4), .int 0]))] sz) [(y, .inr (11, [.int 0, .ref ys, .ref yp, .int 0])), (ys, .inr (3, [.int 0, .ref (ta 4), .int 0])), (yp, .inr (3, [.int 0, .ref (ta 4), .int 0]))]) (va_A [(y, .inr (11, [.int 0, .ref ys, .ref yp, .int 0])), (ys, .inr (3, [.int 0, .ref (ta 4), .int 0])), (yp, .inr (3, [.int 0, .ref (ta 4), .int 0]))] sz)) 0 0 (va_A [(y, .inr (11, [.int 0, .ref ys, .ref yp, .int 0])), (ys, .inr (3, [.int 0, .ref (ta 4), .int 0])), (yp, .inr (3, [.int 0, .ref (ta 4), .int 0]))] sz) := by
  refine Met.ofW (cc := cX7_refuse) (maxL := 3) (ret := (some .boolean)) (by decide) rfl ?_
  intro p e s m args below meth c s₁ B hml hv
  obtain ⟨rfl, hsz, hP, hK, hD0, hE⟩ := hv
  have hx := B.exec
  have hb := B.bytes
  have hr := B.returns
  have hts := atoms_spec (ws := wsX7_refuse) B.pre
  have hown : s.vm.findClass RX7 = some m.cls := findClass_of_methodNamed B.named
  have hlocks := B.notSynchronized
  subst hsz
  have hD := hD0.self (sz := s.heap.size)
  generalize hAe : va_A [(y, .inr (11, [.int 0, .ref ys, .ref yp, .int 0])), (ys, .inr (3, [.int 0, .ref (ta 4), .int 0])), (yp, .inr (3, [.int 0, .ref (ta 4), .int 0]))] s.heap.size = A at hD hE ⊢
  have hA : ∀ q : Nat, s.heap.size ≤ q → A q := fun q h => by rw [← hAe]; exact Or.inr h
  have hS : va_S A s.heap s.heap [] := va_S.rf
  have hl := lv_entry ([.ref y, .int 0, .int 1]) (n := 3) (Nat.le_of_ble_eq_true rfl)
  rw [lg_entry_eq]
  generalize (lg_sl ([.ref y, .int 0, .int 1]) ++ List.replicate (3 - (lg_sl ([.ref y, .int 0, .int 1])).length) Slot.unset).toArray = ls at hl ⊢
  have hl : lv_has ls 3 [(0, .ref y), (1, .int 0), (2, .int 1)] := hl
  have hP : va_P (dC, dI) vwCl [(y, .inr (11, [.int 0, .ref ys, .ref yp, .int 0])), (ys, .inr (3, [.int 0, .ref (ta 4), .int 0])), (yp, .inr (3, [.int 0, .ref (ta 4), .int 0]))] s.heap := hP
  refine lv_iload_n hx hb dX7_refuse_0 rfl (lv_at hl 1 rfl) ?_
  refine lv_if_eq (tgt := 16) hx hb dX7_refuse_1 (by decide) (fun _ => ?_) (fun h9 => absurd (by decide) h9)
  refine lv_aload_n hx hb dX7_refuse_16 rfl (lv_at hl 0 rfl) ?_
  refine va_get (D := (dC, dI)) (ci := 11) (v := .int 0) (C := RX7) (T := TX7) (N := 4) hx hb hts (by decide +kernel) hown hK hP 0 rfl rfl 0 (by decide) (hts (.fieldLink RX7 19 "DiffractoryModel" "thrown" "I") (by decide +kernel)) (fun _ h9 => h9) rfl dX7_refuse_17 ?_
  refine lv_if_le (tgt := 27) hx hb dX7_refuse_20 (by decide) (fun _ => ?_) (fun h9 => absurd (by decide) h9)
  refine lv_iconst (v := 0) hx hb dX7_refuse_27 (by decide) ?_
  refine W.widen (k := 0) (n := 0) (Nat.le_of_ble_eq_true rfl) (Nat.le_of_ble_eq_true rfl) ?_
  have hP9 := hP.sub (ws' := [(y, .inr (11, [.int 0, .ref ys, .ref yp, .int 0])), (ys, .inr (3, [.int 0, .ref (ta 4), .int 0])), (yp, .inr (3, [.int 0, .ref (ta 4), .int 0]))]) [0, 1, 2] rfl
  have hD9 := hD.sub (ws' := [(y, .inr (11, [.int 0, .ref ys, .ref yp, .int 0])), (ys, .inr (3, [.int 0, .ref (ta 4), .int 0])), (yp, .inr (3, [.int 0, .ref (ta 4), .int 0]))]) [0, 1, 2] (by decide) rfl
  have hK9 := hK.sub (tys' := []) [] rfl
  exact W.zret (v := 0) (ty := .boolean) hx hb hr (by decide +kernel) (fun t ht hW => ⟨⟨0, (), rfl, rfl, by rw [ht]; exact hP9, va_K.moved hW.alike hK9, hD9⟩, hS.F ht⟩) hS.2.2 dX7_refuse_28

set_option maxHeartbeats 4000000 in
set_option maxRecDepth 100000 in
theorem c_X7_refuse_11 (l : Launch) (dC : Nat → ClassId) (dI : Nat → Nat → Nat) (y ys yp : Nat) (sa ta : Nat → Nat) (sz : Nat) : Met l yX7_refuse wsX7_refuse ({ frames := 8, cells := 0, slots := 0, locals := 200 }) (va_Pc [.ref y, .int 1, .int 1] (ax_W (dC, dI) vwCl [(y, .inr (11, [.int 0, .ref ys, .ref yp, .int 0])), (ys, .inr (3, [.int 0, .ref (ta 4), .int 0])), (yp, .inr (3, [.int 0, .ref (ta 4), .int 0]))] [] sa ta sz)) (va_Qi (fun (r : Int32) (u : Unit) => r = 1) (fun (u : Unit) (t : State) => va_P (dC, dI) vwCl [(y, .inr (11, [.int 1, .ref ys, .ref yp, .int 0])), (ys, .inr (3, [.int 0, .ref (ta 4), .int 0])), (yp, .inr (3, [.int 0, .ref (ta 4), .int 0]))] t.heap ∧ va_K (dC, dI) vwCl [] t ∧ va_D (va_A [(y, .inr (11, [.int 0, .ref ys, .ref yp, .int 0])), (ys, .inr (3, [.int 0, .ref (ta 4), .int 0])), (yp, .inr (3, [.int 0, .ref (ta 4), .int 0]))] sz) [(y, .inr (11, [.int 1, .ref ys, .ref yp, .int 0])), (ys, .inr (3, [.int 0, .ref (ta 4), .int 0])), (yp, .inr (3, [.int 0, .ref (ta 4), .int 0]))]) (va_A [(y, .inr (11, [.int 0, .ref ys, .ref yp, .int 0])), (ys, .inr (3, [.int 0, .ref (ta 4), .int 0])), (yp, .inr (3, [.int 0, .ref (ta 4), .int 0]))] sz)) 0 0 (va_A [(y, .inr (11, [.int 0, .ref ys, .ref yp, .int 0])), (ys, .inr (3, [.int 0, .ref (ta 4), .int 0])), (yp, .inr (3, [.int 0, .ref (ta 4), .int 0]))] sz) := by
  refine Met.ofW (cc := cX7_refuse) (maxL := 3) (ret := (some .boolean)) (by decide) rfl ?_
  intro p e s m args below meth c s₁ B hml hv
  obtain ⟨rfl, hsz, hP, hK, hD0, hE⟩ := hv
  have hx := B.exec
  have hb := B.bytes
  have hr := B.returns
  have hts := atoms_spec (ws := wsX7_refuse) B.pre
  have hown : s.vm.findClass RX7 = some m.cls := findClass_of_methodNamed B.named
  have hlocks := B.notSynchronized
  subst hsz
  have hD := hD0.self (sz := s.heap.size)
  generalize hAe : va_A [(y, .inr (11, [.int 0, .ref ys, .ref yp, .int 0])), (ys, .inr (3, [.int 0, .ref (ta 4), .int 0])), (yp, .inr (3, [.int 0, .ref (ta 4), .int 0]))] s.heap.size = A at hD hE ⊢
  have hA : ∀ q : Nat, s.heap.size ≤ q → A q := fun q h => by rw [← hAe]; exact Or.inr h
  have hS : va_S A s.heap s.heap [] := va_S.rf
  have hl := lv_entry ([.ref y, .int 1, .int 1]) (n := 3) (Nat.le_of_ble_eq_true rfl)
  rw [lg_entry_eq]
  generalize (lg_sl ([.ref y, .int 1, .int 1]) ++ List.replicate (3 - (lg_sl ([.ref y, .int 1, .int 1])).length) Slot.unset).toArray = ls at hl ⊢
  have hl : lv_has ls 3 [(0, .ref y), (1, .int 1), (2, .int 1)] := hl
  have hP : va_P (dC, dI) vwCl [(y, .inr (11, [.int 0, .ref ys, .ref yp, .int 0])), (ys, .inr (3, [.int 0, .ref (ta 4), .int 0])), (yp, .inr (3, [.int 0, .ref (ta 4), .int 0]))] s.heap := hP
  refine lv_iload_n hx hb dX7_refuse_0 rfl (lv_at hl 1 rfl) ?_
  refine lv_if_eq (tgt := 16) hx hb dX7_refuse_1 (by decide) (fun h9 => absurd h9 (by decide)) (fun _ => ?_)
  refine lv_aload_n hx hb dX7_refuse_4 rfl (lv_at hl 0 rfl) ?_
  refine va_get (D := (dC, dI)) (ci := 11) (v := .int 0) (C := RX7) (T := TX7) (N := 4) hx hb hts (by decide +kernel) hown hK hP 0 rfl rfl 0 (by decide) (hts (.fieldLink RX7 19 "DiffractoryModel" "thrown" "I") (by decide +kernel)) (fun _ h9 => h9) rfl dX7_refuse_5 ?_
  refine lv_if_ne (tgt := 16) hx hb dX7_refuse_8 (by decide) (fun h9 => absurd rfl h9) (fun _ => ?_)
  refine lv_aload_n hx hb dX7_refuse_11 rfl (lv_at hl 0 rfl) ?_
  refine lv_iload_n hx hb dX7_refuse_12 rfl (lv_at hl 2 rfl) ?_
  refine va_put (D := (dC, dI)) (ci := 11) (v := .int 1) (ty := .int) (C := RX7) (T := TX7) (N := 4) hx hb hts (by decide +kernel) tyX7 tyX7_ok nmX7 hown hK hP hD hS 0 rfl rfl 0 (by decide) (hts (.fieldLink RX7 19 "DiffractoryModel" "thrown" "I") (by decide +kernel)) (fun _ h9 => h9) rfl (by decide +kernel) rfl rfl (Nat.le_of_ble_eq_true rfl) dX7_refuse_13 (fun H locs hP hD hS => ?_)
  have hP : va_P (dC, dI) vwCl [(y, .inr (11, [.int 1, .ref ys, .ref yp, .int 0])), (ys, .inr (3, [.int 0, .ref (ta 4), .int 0])), (yp, .inr (3, [.int 0, .ref (ta 4), .int 0]))] H := hP
  have hD : va_D A [(y, .inr (11, [.int 1, .ref ys, .ref yp, .int 0])), (ys, .inr (3, [.int 0, .ref (ta 4), .int 0])), (yp, .inr (3, [.int 0, .ref (ta 4), .int 0]))] := hD
  refine lv_aload_n hx hb dX7_refuse_16 rfl (lv_at hl 0 rfl) ?_
  refine va_get (D := (dC, dI)) (ci := 11) (v := .int 1) (C := RX7) (T := TX7) (N := 4) hx hb hts (by decide +kernel) hown hK hP 0 rfl rfl 0 (by decide) (hts (.fieldLink RX7 19 "DiffractoryModel" "thrown" "I") (by decide +kernel)) (fun _ h9 => h9) rfl dX7_refuse_17 ?_
  refine lv_if_le (tgt := 27) hx hb dX7_refuse_20 (by decide) (fun h9 => absurd h9 (by decide)) (fun _ => ?_)
  refine lv_iconst (v := 1) hx hb dX7_refuse_23 (by decide) ?_
  refine lv_goto (tgt := 28) hx hb dX7_refuse_24 (by decide) ?_
  refine W.widen (k := 0) (n := 0) (Nat.le_of_ble_eq_true rfl) (Nat.le_of_ble_eq_true rfl) ?_
  have hP9 := hP.sub (ws' := [(y, .inr (11, [.int 1, .ref ys, .ref yp, .int 0])), (ys, .inr (3, [.int 0, .ref (ta 4), .int 0])), (yp, .inr (3, [.int 0, .ref (ta 4), .int 0]))]) [0, 1, 2] rfl
  have hD9 := hD.sub (ws' := [(y, .inr (11, [.int 1, .ref ys, .ref yp, .int 0])), (ys, .inr (3, [.int 0, .ref (ta 4), .int 0])), (yp, .inr (3, [.int 0, .ref (ta 4), .int 0]))]) [0, 1, 2] (by decide) rfl
  have hK9 := hK.sub (tys' := []) [] rfl
  exact W.zret (v := 1) (ty := .boolean) hx hb hr (by decide +kernel) (fun t ht hW => ⟨⟨1, (), rfl, rfl, by rw [ht]; exact hP9, va_K.moved hW.alike hK9, hD9⟩, hS.F ht⟩) hS.2.2 dX7_refuse_28

set_option maxHeartbeats 4000000 in
set_option maxRecDepth 100000 in
theorem c_X7_refuse_02 (l : Launch) (dC : Nat → ClassId) (dI : Nat → Nat → Nat) (y ys yp : Nat) (sa ta : Nat → Nat) (sz : Nat) : Met l yX7_refuse wsX7_refuse ({ frames := 8, cells := 0, slots := 0, locals := 200 }) (va_Pc [.ref y, .int 0, .int 2] (ax_W (dC, dI) vwCl [(y, .inr (11, [.int 0, .ref ys, .ref yp, .int 0])), (ys, .inr (3, [.int 0, .ref (ta 4), .int 0])), (yp, .inr (3, [.int 0, .ref (ta 4), .int 0]))] [] sa ta sz)) (va_Qi (fun (r : Int32) (u : Unit) => r = 0) (fun (u : Unit) (t : State) => va_P (dC, dI) vwCl [(y, .inr (11, [.int 0, .ref ys, .ref yp, .int 0])), (ys, .inr (3, [.int 0, .ref (ta 4), .int 0])), (yp, .inr (3, [.int 0, .ref (ta 4), .int 0]))] t.heap ∧ va_K (dC, dI) vwCl [] t ∧ va_D (va_A [(y, .inr (11, [.int 0, .ref ys, .ref yp, .int 0])), (ys, .inr (3, [.int 0, .ref (ta 4), .int 0])), (yp, .inr (3, [.int 0, .ref (ta 4), .int 0]))] sz) [(y, .inr (11, [.int 0, .ref ys, .ref yp, .int 0])), (ys, .inr (3, [.int 0, .ref (ta 4), .int 0])), (yp, .inr (3, [.int 0, .ref (ta 4), .int 0]))]) (va_A [(y, .inr (11, [.int 0, .ref ys, .ref yp, .int 0])), (ys, .inr (3, [.int 0, .ref (ta 4), .int 0])), (yp, .inr (3, [.int 0, .ref (ta 4), .int 0]))] sz)) 0 0 (va_A [(y, .inr (11, [.int 0, .ref ys, .ref yp, .int 0])), (ys, .inr (3, [.int 0, .ref (ta 4), .int 0])), (yp, .inr (3, [.int 0, .ref (ta 4), .int 0]))] sz) := by
  refine Met.ofW (cc := cX7_refuse) (maxL := 3) (ret := (some .boolean)) (by decide) rfl ?_
  intro p e s m args below meth c s₁ B hml hv
  obtain ⟨rfl, hsz, hP, hK, hD0, hE⟩ := hv
  have hx := B.exec
  have hb := B.bytes
  have hr := B.returns
  have hts := atoms_spec (ws := wsX7_refuse) B.pre
  have hown : s.vm.findClass RX7 = some m.cls := findClass_of_methodNamed B.named
  have hlocks := B.notSynchronized
  subst hsz
  have hD := hD0.self (sz := s.heap.size)
  generalize hAe : va_A [(y, .inr (11, [.int 0, .ref ys, .ref yp, .int 0])), (ys, .inr (3, [.int 0, .ref (ta 4), .int 0])), (yp, .inr (3, [.int 0, .ref (ta 4), .int 0]))] s.heap.size = A at hD hE ⊢
  have hA : ∀ q : Nat, s.heap.size ≤ q → A q := fun q h => by rw [← hAe]; exact Or.inr h
  have hS : va_S A s.heap s.heap [] := va_S.rf
  have hl := lv_entry ([.ref y, .int 0, .int 2]) (n := 3) (Nat.le_of_ble_eq_true rfl)
  rw [lg_entry_eq]
  generalize (lg_sl ([.ref y, .int 0, .int 2]) ++ List.replicate (3 - (lg_sl ([.ref y, .int 0, .int 2])).length) Slot.unset).toArray = ls at hl ⊢
  have hl : lv_has ls 3 [(0, .ref y), (1, .int 0), (2, .int 2)] := hl
  have hP : va_P (dC, dI) vwCl [(y, .inr (11, [.int 0, .ref ys, .ref yp, .int 0])), (ys, .inr (3, [.int 0, .ref (ta 4), .int 0])), (yp, .inr (3, [.int 0, .ref (ta 4), .int 0]))] s.heap := hP
  refine lv_iload_n hx hb dX7_refuse_0 rfl (lv_at hl 1 rfl) ?_
  refine lv_if_eq (tgt := 16) hx hb dX7_refuse_1 (by decide) (fun _ => ?_) (fun h9 => absurd (by decide) h9)
  refine lv_aload_n hx hb dX7_refuse_16 rfl (lv_at hl 0 rfl) ?_
  refine va_get (D := (dC, dI)) (ci := 11) (v := .int 0) (C := RX7) (T := TX7) (N := 4) hx hb hts (by decide +kernel) hown hK hP 0 rfl rfl 0 (by decide) (hts (.fieldLink RX7 19 "DiffractoryModel" "thrown" "I") (by decide +kernel)) (fun _ h9 => h9) rfl dX7_refuse_17 ?_
  refine lv_if_le (tgt := 27) hx hb dX7_refuse_20 (by decide) (fun _ => ?_) (fun h9 => absurd (by decide) h9)
  refine lv_iconst (v := 0) hx hb dX7_refuse_27 (by decide) ?_
  refine W.widen (k := 0) (n := 0) (Nat.le_of_ble_eq_true rfl) (Nat.le_of_ble_eq_true rfl) ?_
  have hP9 := hP.sub (ws' := [(y, .inr (11, [.int 0, .ref ys, .ref yp, .int 0])), (ys, .inr (3, [.int 0, .ref (ta 4), .int 0])), (yp, .inr (3, [.int 0, .ref (ta 4), .int 0]))]) [0, 1, 2] rfl
  have hD9 := hD.sub (ws' := [(y, .inr (11, [.int 0, .ref ys, .ref yp, .int 0])), (ys, .inr (3, [.int 0, .ref (ta 4), .int 0])), (yp, .inr (3, [.int 0, .ref (ta 4), .int 0]))]) [0, 1, 2] (by decide) rfl
  have hK9 := hK.sub (tys' := []) [] rfl
  exact W.zret (v := 0) (ty := .boolean) hx hb hr (by decide +kernel) (fun t ht hW => ⟨⟨0, (), rfl, rfl, by rw [ht]; exact hP9, va_K.moved hW.alike hK9, hD9⟩, hS.F ht⟩) hS.2.2 dX7_refuse_28

set_option maxHeartbeats 4000000 in
set_option maxRecDepth 100000 in
theorem c_X7_refuse_12 (l : Launch) (dC : Nat → ClassId) (dI : Nat → Nat → Nat) (y ys yp : Nat) (sa ta : Nat → Nat) (sz : Nat) : Met l yX7_refuse wsX7_refuse ({ frames := 8, cells := 0, slots := 0, locals := 200 }) (va_Pc [.ref y, .int 1, .int 2] (ax_W (dC, dI) vwCl [(y, .inr (11, [.int 0, .ref ys, .ref yp, .int 0])), (ys, .inr (3, [.int 0, .ref (ta 4), .int 0])), (yp, .inr (3, [.int 0, .ref (ta 4), .int 0]))] [] sa ta sz)) (va_Qi (fun (r : Int32) (u : Unit) => r = 1) (fun (u : Unit) (t : State) => va_P (dC, dI) vwCl [(y, .inr (11, [.int 2, .ref ys, .ref yp, .int 0])), (ys, .inr (3, [.int 0, .ref (ta 4), .int 0])), (yp, .inr (3, [.int 0, .ref (ta 4), .int 0]))] t.heap ∧ va_K (dC, dI) vwCl [] t ∧ va_D (va_A [(y, .inr (11, [.int 0, .ref ys, .ref yp, .int 0])), (ys, .inr (3, [.int 0, .ref (ta 4), .int 0])), (yp, .inr (3, [.int 0, .ref (ta 4), .int 0]))] sz) [(y, .inr (11, [.int 2, .ref ys, .ref yp, .int 0])), (ys, .inr (3, [.int 0, .ref (ta 4), .int 0])), (yp, .inr (3, [.int 0, .ref (ta 4), .int 0]))]) (va_A [(y, .inr (11, [.int 0, .ref ys, .ref yp, .int 0])), (ys, .inr (3, [.int 0, .ref (ta 4), .int 0])), (yp, .inr (3, [.int 0, .ref (ta 4), .int 0]))] sz)) 0 0 (va_A [(y, .inr (11, [.int 0, .ref ys, .ref yp, .int 0])), (ys, .inr (3, [.int 0, .ref (ta 4), .int 0])), (yp, .inr (3, [.int 0, .ref (ta 4), .int 0]))] sz) := by
  refine Met.ofW (cc := cX7_refuse) (maxL := 3) (ret := (some .boolean)) (by decide) rfl ?_
  intro p e s m args below meth c s₁ B hml hv
  obtain ⟨rfl, hsz, hP, hK, hD0, hE⟩ := hv
  have hx := B.exec
  have hb := B.bytes
  have hr := B.returns
  have hts := atoms_spec (ws := wsX7_refuse) B.pre
  have hown : s.vm.findClass RX7 = some m.cls := findClass_of_methodNamed B.named
  have hlocks := B.notSynchronized
  subst hsz
  have hD := hD0.self (sz := s.heap.size)
  generalize hAe : va_A [(y, .inr (11, [.int 0, .ref ys, .ref yp, .int 0])), (ys, .inr (3, [.int 0, .ref (ta 4), .int 0])), (yp, .inr (3, [.int 0, .ref (ta 4), .int 0]))] s.heap.size = A at hD hE ⊢
  have hA : ∀ q : Nat, s.heap.size ≤ q → A q := fun q h => by rw [← hAe]; exact Or.inr h
  have hS : va_S A s.heap s.heap [] := va_S.rf
  have hl := lv_entry ([.ref y, .int 1, .int 2]) (n := 3) (Nat.le_of_ble_eq_true rfl)
  rw [lg_entry_eq]
  generalize (lg_sl ([.ref y, .int 1, .int 2]) ++ List.replicate (3 - (lg_sl ([.ref y, .int 1, .int 2])).length) Slot.unset).toArray = ls at hl ⊢
  have hl : lv_has ls 3 [(0, .ref y), (1, .int 1), (2, .int 2)] := hl
  have hP : va_P (dC, dI) vwCl [(y, .inr (11, [.int 0, .ref ys, .ref yp, .int 0])), (ys, .inr (3, [.int 0, .ref (ta 4), .int 0])), (yp, .inr (3, [.int 0, .ref (ta 4), .int 0]))] s.heap := hP
  refine lv_iload_n hx hb dX7_refuse_0 rfl (lv_at hl 1 rfl) ?_
  refine lv_if_eq (tgt := 16) hx hb dX7_refuse_1 (by decide) (fun h9 => absurd h9 (by decide)) (fun _ => ?_)
  refine lv_aload_n hx hb dX7_refuse_4 rfl (lv_at hl 0 rfl) ?_
  refine va_get (D := (dC, dI)) (ci := 11) (v := .int 0) (C := RX7) (T := TX7) (N := 4) hx hb hts (by decide +kernel) hown hK hP 0 rfl rfl 0 (by decide) (hts (.fieldLink RX7 19 "DiffractoryModel" "thrown" "I") (by decide +kernel)) (fun _ h9 => h9) rfl dX7_refuse_5 ?_
  refine lv_if_ne (tgt := 16) hx hb dX7_refuse_8 (by decide) (fun h9 => absurd rfl h9) (fun _ => ?_)
  refine lv_aload_n hx hb dX7_refuse_11 rfl (lv_at hl 0 rfl) ?_
  refine lv_iload_n hx hb dX7_refuse_12 rfl (lv_at hl 2 rfl) ?_
  refine va_put (D := (dC, dI)) (ci := 11) (v := .int 2) (ty := .int) (C := RX7) (T := TX7) (N := 4) hx hb hts (by decide +kernel) tyX7 tyX7_ok nmX7 hown hK hP hD hS 0 rfl rfl 0 (by decide) (hts (.fieldLink RX7 19 "DiffractoryModel" "thrown" "I") (by decide +kernel)) (fun _ h9 => h9) rfl (by decide +kernel) rfl rfl (Nat.le_of_ble_eq_true rfl) dX7_refuse_13 (fun H locs hP hD hS => ?_)
  have hP : va_P (dC, dI) vwCl [(y, .inr (11, [.int 2, .ref ys, .ref yp, .int 0])), (ys, .inr (3, [.int 0, .ref (ta 4), .int 0])), (yp, .inr (3, [.int 0, .ref (ta 4), .int 0]))] H := hP
  have hD : va_D A [(y, .inr (11, [.int 2, .ref ys, .ref yp, .int 0])), (ys, .inr (3, [.int 0, .ref (ta 4), .int 0])), (yp, .inr (3, [.int 0, .ref (ta 4), .int 0]))] := hD
  refine lv_aload_n hx hb dX7_refuse_16 rfl (lv_at hl 0 rfl) ?_
  refine va_get (D := (dC, dI)) (ci := 11) (v := .int 2) (C := RX7) (T := TX7) (N := 4) hx hb hts (by decide +kernel) hown hK hP 0 rfl rfl 0 (by decide) (hts (.fieldLink RX7 19 "DiffractoryModel" "thrown" "I") (by decide +kernel)) (fun _ h9 => h9) rfl dX7_refuse_17 ?_
  refine lv_if_le (tgt := 27) hx hb dX7_refuse_20 (by decide) (fun h9 => absurd h9 (by decide)) (fun _ => ?_)
  refine lv_iconst (v := 1) hx hb dX7_refuse_23 (by decide) ?_
  refine lv_goto (tgt := 28) hx hb dX7_refuse_24 (by decide) ?_
  refine W.widen (k := 0) (n := 0) (Nat.le_of_ble_eq_true rfl) (Nat.le_of_ble_eq_true rfl) ?_
  have hP9 := hP.sub (ws' := [(y, .inr (11, [.int 2, .ref ys, .ref yp, .int 0])), (ys, .inr (3, [.int 0, .ref (ta 4), .int 0])), (yp, .inr (3, [.int 0, .ref (ta 4), .int 0]))]) [0, 1, 2] rfl
  have hD9 := hD.sub (ws' := [(y, .inr (11, [.int 2, .ref ys, .ref yp, .int 0])), (ys, .inr (3, [.int 0, .ref (ta 4), .int 0])), (yp, .inr (3, [.int 0, .ref (ta 4), .int 0]))]) [0, 1, 2] (by decide) rfl
  have hK9 := hK.sub (tys' := []) [] rfl
  exact W.zret (v := 1) (ty := .boolean) hx hb hr (by decide +kernel) (fun t ht hW => ⟨⟨1, (), rfl, rfl, by rw [ht]; exact hP9, va_K.moved hW.alike hK9, hD9⟩, hS.F ht⟩) hS.2.2 dX7_refuse_28

set_option maxHeartbeats 4000000 in
set_option maxRecDepth 100000 in
theorem c_X7_start_0 (l : Launch) (dC : Nat → ClassId) (dI : Nat → Nat → Nat) (y ys yp : Nat) (sa ta : Nat → Nat) (sz : Nat) (th : Int32) : Met l yX7_start wsX7_start ({ frames := 16, cells := 0, slots := 0, locals := 400 }) (va_Pc [.ref y, .int 0, .int 1] (ax_W (dC, dI) vwCl [(y, .inr (11, [.int th, .ref ys, .ref yp, .int 0])), (ys, .inr (3, [.int 0, .ref (ta 4), .int 0])), (yp, .inr (3, [.int 0, .ref (ta 4), .int 0]))] [] sa ta sz)) (va_Qi (fun (r : Int32) (u : Unit) => r = 0) (fun (u : Unit) (t : State) => va_P (dC, dI) vwCl [(y, .inr (11, [.int 0, .ref ys, .ref yp, .int 0])), (ys, .inr (3, [.int 0, .ref (ta 4), .int 0])), (yp, .inr (3, [.int 0, .ref (ta 4), .int 0]))] t.heap ∧ va_K (dC, dI) vwCl [] t ∧ va_D (va_A [(y, .inr (11, [.int th, .ref ys, .ref yp, .int 0])), (ys, .inr (3, [.int 0, .ref (ta 4), .int 0])), (yp, .inr (3, [.int 0, .ref (ta 4), .int 0]))] sz) [(y, .inr (11, [.int 0, .ref ys, .ref yp, .int 0])), (ys, .inr (3, [.int 0, .ref (ta 4), .int 0])), (yp, .inr (3, [.int 0, .ref (ta 4), .int 0]))]) (va_A [(y, .inr (11, [.int th, .ref ys, .ref yp, .int 0])), (ys, .inr (3, [.int 0, .ref (ta 4), .int 0])), (yp, .inr (3, [.int 0, .ref (ta 4), .int 0]))] sz)) 0 0 (va_A [(y, .inr (11, [.int th, .ref ys, .ref yp, .int 0])), (ys, .inr (3, [.int 0, .ref (ta 4), .int 0])), (yp, .inr (3, [.int 0, .ref (ta 4), .int 0]))] sz) := by
  refine Met.ofW (cc := cX7_start) (maxL := 3) (ret := (some .boolean)) (by decide) rfl ?_
  intro p e s m args below meth c s₁ B hml hv
  obtain ⟨rfl, hsz, hP, hK, hD0, hE⟩ := hv
  have hx := B.exec
  have hb := B.bytes
  have hr := B.returns
  have hts := atoms_spec (ws := wsX7_start) B.pre
  have hown : s.vm.findClass RX7 = some m.cls := findClass_of_methodNamed B.named
  have hlocks := B.notSynchronized
  subst hsz
  have hD := hD0.self (sz := s.heap.size)
  generalize hAe : va_A [(y, .inr (11, [.int th, .ref ys, .ref yp, .int 0])), (ys, .inr (3, [.int 0, .ref (ta 4), .int 0])), (yp, .inr (3, [.int 0, .ref (ta 4), .int 0]))] s.heap.size = A at hD hE ⊢
  have hA : ∀ q : Nat, s.heap.size ≤ q → A q := fun q h => by rw [← hAe]; exact Or.inr h
  have hS : va_S A s.heap s.heap [] := va_S.rf
  have hl := lv_entry ([.ref y, .int 0, .int 1]) (n := 3) (Nat.le_of_ble_eq_true rfl)
  rw [lg_entry_eq]
  generalize (lg_sl ([.ref y, .int 0, .int 1]) ++ List.replicate (3 - (lg_sl ([.ref y, .int 0, .int 1])).length) Slot.unset).toArray = ls at hl ⊢
  have hl : lv_has ls 3 [(0, .ref y), (1, .int 0), (2, .int 1)] := hl
  have hP : va_P (dC, dI) vwCl [(y, .inr (11, [.int th, .ref ys, .ref yp, .int 0])), (ys, .inr (3, [.int 0, .ref (ta 4), .int 0])), (yp, .inr (3, [.int 0, .ref (ta 4), .int 0]))] s.heap := hP
  refine lv_aload_n hx hb dX7_start_0 rfl (lv_at hl 0 rfl) ?_
  refine lv_iconst (v := 0) hx hb dX7_start_1 (by decide) ?_
  refine va_put (D := (dC, dI)) (ci := 11) (v := .int 0) (ty := .int) (C := RX7) (T := TX7) (N := 4) hx hb hts (by decide +kernel) tyX7 tyX7_ok nmX7 hown hK hP hD hS 0 rfl rfl 0 (by decide) (hts (.fieldLink RX7 19 "DiffractoryModel" "thrown" "I") (by decide +kernel)) (fun _ h9 => h9) rfl (by decide +kernel) rfl rfl (Nat.le_of_ble_eq_true rfl) dX7_start_2 (fun H locs hP hD hS => ?_)
  have hP : va_P (dC, dI) vwCl [(y, .inr (11, [.int 0, .ref ys, .ref yp, .int 0])), (ys, .inr (3, [.int 0, .ref (ta 4), .int 0])), (yp, .inr (3, [.int 0, .ref (ta 4), .int 0]))] H := hP
  have hD : va_D A [(y, .inr (11, [.int 0, .ref ys, .ref yp, .int 0])), (ys, .inr (3, [.int 0, .ref (ta 4), .int 0])), (yp, .inr (3, [.int 0, .ref (ta 4), .int 0]))] := hD
  refine lv_aload_n hx hb dX7_start_5 rfl (lv_at hl 0 rfl) ?_
  refine lv_iload_n hx hb dX7_start_6 rfl (lv_at hl 1 rfl) ?_
  refine lv_iload_n hx hb dX7_start_7 rfl (lv_at hl 2 rfl) ?_
  have hPc := hP.sub (ws' := [(y, .inr (11, [.int 0, .ref ys, .ref yp, .int 0])), (ys, .inr (3, [.int 0, .ref (ta 4), .int 0])), (yp, .inr (3, [.int 0, .ref (ta 4), .int 0]))]) [0, 1, 2] rfl
  have hKc := hK.sub (tys' := []) [] rfl
  have hDc := hD.sub (ws' := [(y, .inr (11, [.int 0, .ref ys, .ref yp, .int 0])), (ys, .inr (3, [.int 0, .ref (ta 4), .int 0])), (yp, .inr (3, [.int 0, .ref (ta 4), .int 0]))]) [0, 1, 2] (by decide) rfl
  have hFc := va_free (wc := [(y, .inr (11, [.int 0, .ref ys, .ref yp, .int 0])), (ys, .inr (3, [.int 0, .ref (ta 4), .int 0])), (yp, .inr (3, [.int 0, .ref (ta 4), .int 0]))]) hD hS hA [0, 1, 2] rfl
  refine va_calli (va_runV (As := [.int 0, .int 1]) (rest := []) ⟨hx, hb, hml, hown, hts⟩ (c_X7_refuse_01 l dC dI y ys yp sa ta H.size) (cwV 2 hts gX7_start_X7_refuse rfl rfl rfl (by decide +kernel) ⟨Nat.le_of_ble_eq_true rfl, Nat.le_of_ble_eq_true rfl⟩) ⟨ax_fbW, va_recv hK hP (ci := 11) (q0 := 0) rfl rfl, ax_prW hPc hKc hDc hS hFc hE⟩ rfl rfl hl.1 rfl (lv_room (Nat.le_of_ble_eq_true rfl)) dX7_start_8 ⟨Nat.le_of_ble_eq_true rfl, Nat.le_of_ble_eq_true rfl⟩) hS (fun q _ h9 => hFc q h9) hFc (fun r_1 u_3  t H locs ht hvm hw_2 hB hz1 hk1 hS => ?_)
  obtain ⟨hP1, hK1, hD1⟩ := hB
  rw [ht] at hP1
  have hK1 := va_K.moved hvm.symm hK1
  obtain ⟨hP, hD⟩ := va_join (wr := []) (w1 := [(y, .inr (11, [.int 0, .ref ys, .ref yp, .int 0])), (ys, .inr (3, [.int 0, .ref (ta 4), .int 0])), (yp, .inr (3, [.int 0, .ref (ta 4), .int 0]))]) hP hD [0, 1, 2] [] rfl rfl (by decide) (by decide) hk1 hFc hP1 hD1
  have hP : va_P (dC, dI) vwCl [(y, .inr (11, [.int 0, .ref ys, .ref yp, .int 0])), (ys, .inr (3, [.int 0, .ref (ta 4), .int 0])), (yp, .inr (3, [.int 0, .ref (ta 4), .int 0]))] H := hP
  have hD : va_D A [(y, .inr (11, [.int 0, .ref ys, .ref yp, .int 0])), (ys, .inr (3, [.int 0, .ref (ta 4), .int 0])), (yp, .inr (3, [.int 0, .ref (ta 4), .int 0]))] := hD
  refine ax_i (y := 0) hw_2 ?_
  refine W.widen (k := 0) (n := 0) (Nat.le_of_ble_eq_true rfl) (Nat.le_of_ble_eq_true rfl) ?_
  have hP9 := hP.sub (ws' := [(y, .inr (11, [.int 0, .ref ys, .ref yp, .int 0])), (ys, .inr (3, [.int 0, .ref (ta 4), .int 0])), (yp, .inr (3, [.int 0, .ref (ta 4), .int 0]))]) [0, 1, 2] rfl
  have hD9 := hD.sub (ws' := [(y, .inr (11, [.int 0, .ref ys, .ref yp, .int 0])), (ys, .inr (3, [.int 0, .ref (ta 4), .int 0])), (yp, .inr (3, [.int 0, .ref (ta 4), .int 0]))]) [0, 1, 2] (by decide) rfl
  have hK9 := hK.sub (tys' := []) [] rfl
  exact W.zret (v := 0) (ty := .boolean) hx hb hr (by decide +kernel) (fun t ht hW => ⟨⟨0, (), rfl, rfl, by rw [ht]; exact hP9, va_K.moved hW.alike hK9, hD9⟩, hS.F ht⟩) hS.2.2 dX7_start_11

set_option maxHeartbeats 4000000 in
set_option maxRecDepth 100000 in
theorem c_X7_start_1 (l : Launch) (dC : Nat → ClassId) (dI : Nat → Nat → Nat) (y ys yp : Nat) (sa ta : Nat → Nat) (sz : Nat) (th : Int32) : Met l yX7_start wsX7_start ({ frames := 16, cells := 0, slots := 0, locals := 400 }) (va_Pc [.ref y, .int 1, .int 1] (ax_W (dC, dI) vwCl [(y, .inr (11, [.int th, .ref ys, .ref yp, .int 0])), (ys, .inr (3, [.int 0, .ref (ta 4), .int 0])), (yp, .inr (3, [.int 0, .ref (ta 4), .int 0]))] [] sa ta sz)) (va_Qi (fun (r : Int32) (u : Unit) => r = 1) (fun (u : Unit) (t : State) => va_P (dC, dI) vwCl [(y, .inr (11, [.int 1, .ref ys, .ref yp, .int 0])), (ys, .inr (3, [.int 0, .ref (ta 4), .int 0])), (yp, .inr (3, [.int 0, .ref (ta 4), .int 0]))] t.heap ∧ va_K (dC, dI) vwCl [] t ∧ va_D (va_A [(y, .inr (11, [.int th, .ref ys, .ref yp, .int 0])), (ys, .inr (3, [.int 0, .ref (ta 4), .int 0])), (yp, .inr (3, [.int 0, .ref (ta 4), .int 0]))] sz) [(y, .inr (11, [.int 1, .ref ys, .ref yp, .int 0])), (ys, .inr (3, [.int 0, .ref (ta 4), .int 0])), (yp, .inr (3, [.int 0, .ref (ta 4), .int 0]))]) (va_A [(y, .inr (11, [.int th, .ref ys, .ref yp, .int 0])), (ys, .inr (3, [.int 0, .ref (ta 4), .int 0])), (yp, .inr (3, [.int 0, .ref (ta 4), .int 0]))] sz)) 0 0 (va_A [(y, .inr (11, [.int th, .ref ys, .ref yp, .int 0])), (ys, .inr (3, [.int 0, .ref (ta 4), .int 0])), (yp, .inr (3, [.int 0, .ref (ta 4), .int 0]))] sz) := by
  refine Met.ofW (cc := cX7_start) (maxL := 3) (ret := (some .boolean)) (by decide) rfl ?_
  intro p e s m args below meth c s₁ B hml hv
  obtain ⟨rfl, hsz, hP, hK, hD0, hE⟩ := hv
  have hx := B.exec
  have hb := B.bytes
  have hr := B.returns
  have hts := atoms_spec (ws := wsX7_start) B.pre
  have hown : s.vm.findClass RX7 = some m.cls := findClass_of_methodNamed B.named
  have hlocks := B.notSynchronized
  subst hsz
  have hD := hD0.self (sz := s.heap.size)
  generalize hAe : va_A [(y, .inr (11, [.int th, .ref ys, .ref yp, .int 0])), (ys, .inr (3, [.int 0, .ref (ta 4), .int 0])), (yp, .inr (3, [.int 0, .ref (ta 4), .int 0]))] s.heap.size = A at hD hE ⊢
  have hA : ∀ q : Nat, s.heap.size ≤ q → A q := fun q h => by rw [← hAe]; exact Or.inr h
  have hS : va_S A s.heap s.heap [] := va_S.rf
  have hl := lv_entry ([.ref y, .int 1, .int 1]) (n := 3) (Nat.le_of_ble_eq_true rfl)
  rw [lg_entry_eq]
  generalize (lg_sl ([.ref y, .int 1, .int 1]) ++ List.replicate (3 - (lg_sl ([.ref y, .int 1, .int 1])).length) Slot.unset).toArray = ls at hl ⊢
  have hl : lv_has ls 3 [(0, .ref y), (1, .int 1), (2, .int 1)] := hl
  have hP : va_P (dC, dI) vwCl [(y, .inr (11, [.int th, .ref ys, .ref yp, .int 0])), (ys, .inr (3, [.int 0, .ref (ta 4), .int 0])), (yp, .inr (3, [.int 0, .ref (ta 4), .int 0]))] s.heap := hP
  refine lv_aload_n hx hb dX7_start_0 rfl (lv_at hl 0 rfl) ?_
  refine lv_iconst (v := 0) hx hb dX7_start_1 (by decide) ?_
  refine va_put (D := (dC, dI)) (ci := 11) (v := .int 0) (ty := .int) (C := RX7) (T := TX7) (N := 4) hx hb hts (by decide +kernel) tyX7 tyX7_ok nmX7 hown hK hP hD hS 0 rfl rfl 0 (by decide) (hts (.fieldLink RX7 19 "DiffractoryModel" "thrown" "I") (by decide +kernel)) (fun _ h9 => h9) rfl (by decide +kernel) rfl rfl (Nat.le_of_ble_eq_true rfl) dX7_start_2 (fun H locs hP hD hS => ?_)
  have hP : va_P (dC, dI) vwCl [(y, .inr (11, [.int 0, .ref ys, .ref yp, .int 0])), (ys, .inr (3, [.int 0, .ref (ta 4), .int 0])), (yp, .inr (3, [.int 0, .ref (ta 4), .int 0]))] H := hP
  have hD : va_D A [(y, .inr (11, [.int 0, .ref ys, .ref yp, .int 0])), (ys, .inr (3, [.int 0, .ref (ta 4), .int 0])), (yp, .inr (3, [.int 0, .ref (ta 4), .int 0]))] := hD
  refine lv_aload_n hx hb dX7_start_5 rfl (lv_at hl 0 rfl) ?_
  refine lv_iload_n hx hb dX7_start_6 rfl (lv_at hl 1 rfl) ?_
  refine lv_iload_n hx hb dX7_start_7 rfl (lv_at hl 2 rfl) ?_
  have hPc := hP.sub (ws' := [(y, .inr (11, [.int 0, .ref ys, .ref yp, .int 0])), (ys, .inr (3, [.int 0, .ref (ta 4), .int 0])), (yp, .inr (3, [.int 0, .ref (ta 4), .int 0]))]) [0, 1, 2] rfl
  have hKc := hK.sub (tys' := []) [] rfl
  have hDc := hD.sub (ws' := [(y, .inr (11, [.int 0, .ref ys, .ref yp, .int 0])), (ys, .inr (3, [.int 0, .ref (ta 4), .int 0])), (yp, .inr (3, [.int 0, .ref (ta 4), .int 0]))]) [0, 1, 2] (by decide) rfl
  have hFc := va_free (wc := [(y, .inr (11, [.int 0, .ref ys, .ref yp, .int 0])), (ys, .inr (3, [.int 0, .ref (ta 4), .int 0])), (yp, .inr (3, [.int 0, .ref (ta 4), .int 0]))]) hD hS hA [0, 1, 2] rfl
  refine va_calli (va_runV (As := [.int 1, .int 1]) (rest := []) ⟨hx, hb, hml, hown, hts⟩ (c_X7_refuse_11 l dC dI y ys yp sa ta H.size) (cwV 2 hts gX7_start_X7_refuse rfl rfl rfl (by decide +kernel) ⟨Nat.le_of_ble_eq_true rfl, Nat.le_of_ble_eq_true rfl⟩) ⟨ax_fbW, va_recv hK hP (ci := 11) (q0 := 0) rfl rfl, ax_prW hPc hKc hDc hS hFc hE⟩ rfl rfl hl.1 rfl (lv_room (Nat.le_of_ble_eq_true rfl)) dX7_start_8 ⟨Nat.le_of_ble_eq_true rfl, Nat.le_of_ble_eq_true rfl⟩) hS (fun q _ h9 => hFc q h9) hFc (fun r_1 u_3  t H locs ht hvm hw_2 hB hz1 hk1 hS => ?_)
  obtain ⟨hP1, hK1, hD1⟩ := hB
  rw [ht] at hP1
  have hK1 := va_K.moved hvm.symm hK1
  obtain ⟨hP, hD⟩ := va_join (wr := []) (w1 := [(y, .inr (11, [.int 1, .ref ys, .ref yp, .int 0])), (ys, .inr (3, [.int 0, .ref (ta 4), .int 0])), (yp, .inr (3, [.int 0, .ref (ta 4), .int 0]))]) hP hD [0, 1, 2] [] rfl rfl (by decide) (by decide) hk1 hFc hP1 hD1
  have hP : va_P (dC, dI) vwCl [(y, .inr (11, [.int 1, .ref ys, .ref yp, .int 0])), (ys, .inr (3, [.int 0, .ref (ta 4), .int 0])), (yp, .inr (3, [.int 0, .ref (ta 4), .int 0]))] H := hP
  have hD : va_D A [(y, .inr (11, [.int 1, .ref ys, .ref yp, .int 0])), (ys, .inr (3, [.int 0, .ref (ta 4), .int 0])), (yp, .inr (3, [.int 0, .ref (ta 4), .int 0]))] := hD
  refine ax_i (y := 1) hw_2 ?_
  refine W.widen (k := 0) (n := 0) (Nat.le_of_ble_eq_true rfl) (Nat.le_of_ble_eq_true rfl) ?_
  have hP9 := hP.sub (ws' := [(y, .inr (11, [.int 1, .ref ys, .ref yp, .int 0])), (ys, .inr (3, [.int 0, .ref (ta 4), .int 0])), (yp, .inr (3, [.int 0, .ref (ta 4), .int 0]))]) [0, 1, 2] rfl
  have hD9 := hD.sub (ws' := [(y, .inr (11, [.int 1, .ref ys, .ref yp, .int 0])), (ys, .inr (3, [.int 0, .ref (ta 4), .int 0])), (yp, .inr (3, [.int 0, .ref (ta 4), .int 0]))]) [0, 1, 2] (by decide) rfl
  have hK9 := hK.sub (tys' := []) [] rfl
  exact W.zret (v := 1) (ty := .boolean) hx hb hr (by decide +kernel) (fun t ht hW => ⟨⟨1, (), rfl, rfl, by rw [ht]; exact hP9, va_K.moved hW.alike hK9, hD9⟩, hS.F ht⟩) hS.2.2 dX7_start_11

set_option maxHeartbeats 4000000 in
set_option maxRecDepth 100000 in
theorem c_X7_isNoPart (l : Launch) (dC : Nat → ClassId) (dI : Nat → Nat → Nat) (y ys yp : Nat) (sa ta : Nat → Nat) (th : Int32) (p0 : Int32) : Met l yX7_isNoPart wsX7_isNoPart ({ frames := 16, cells := 0, slots := 0, locals := 400 }) (va_Pc [.ref y, .int p0] (ax_R (dC, dI) vwCl [(y, .inr (11, [.int th, .ref ys, .ref yp, .int 0])), (ys, .inr (3, [.int 0, .ref (ta 4), .int 0])), (yp, .inr (3, [.int 0, .ref (ta 4), .int 0]))] [] sa ta)) (va_Qi (fun (r : Int32) (u : Unit) => r = 1) (fun _ _ => True) ax_no) 0 0 ax_no := by
  refine Met.ofW (cc := cX7_isNoPart) (maxL := 2) (ret := (some .boolean)) (by decide) rfl ?_
  intro p e s m args below meth c s₁ B hml hv
  obtain ⟨rfl, hP, hK, hE⟩ := hv
  have hx := B.exec
  have hb := B.bytes
  have hr := B.returns
  have hts := atoms_spec (ws := wsX7_isNoPart) B.pre
  have hown : s.vm.findClass RX7 = some m.cls := findClass_of_methodNamed B.named
  have hlocks := B.notSynchronized
  have hS : va_S ax_no s.heap s.heap [] := va_S.rf
  have hl := lv_entry ([.ref y, .int p0]) (n := 2) (Nat.le_of_ble_eq_true rfl)
  rw [lg_entry_eq]
  generalize (lg_sl ([.ref y, .int p0]) ++ List.replicate (2 - (lg_sl ([.ref y, .int p0])).length) Slot.unset).toArray = ls at hl ⊢
  have hl : lv_has ls 2 [(0, .ref y), (1, .int p0)] := hl
  have hP : va_P (dC, dI) vwCl [(y, .inr (11, [.int th, .ref ys, .ref yp, .int 0])), (ys, .inr (3, [.int 0, .ref (ta 4), .int 0])), (yp, .inr (3, [.int 0, .ref (ta 4), .int 0]))] s.heap := hP
  refine lv_iload_n hx hb dX7_isNoPart_0 rfl (lv_at hl 1 rfl) ?_
  refine lv_iconst (v := 0) hx hb dX7_isNoPart_1 (by decide) ?_
  refine lv_aload_n hx hb dX7_isNoPart_2 rfl (lv_at hl 0 rfl) ?_
  refine va_get (D := (dC, dI)) (ci := 11) (v := .ref yp) (C := RX7) (T := TX7) (N := 4) hx hb hts (by decide +kernel) hown hK hP 0 rfl rfl 2 (by decide) (hts (.fieldLink RX7 16 "DiffractoryModel" "parts" "Ljava/util/ArrayList;") (by decide +kernel)) (fun _ h9 => h9) rfl dX7_isNoPart_3 ?_
  have hPc := hP.sub (ws' := [(yp, .inr (3, [.int 0, .ref (ta 4), .int 0]))]) [2] rfl
  have hKc := hK.sub (tys' := []) [] rfl
  refine va_calli (va_runV (As := []) (rest := [.int 0, .int p0]) ⟨hx, hb, hml, hown, hts⟩ (c_Jx4a65c_size_8abf5 l dC dI yp (ta 4) sa ta 0 0) (cwV 0 hts gX7_isNoPart_Jx4a65c_size_8abf5 rfl rfl rfl (by decide +kernel) ⟨Nat.le_of_ble_eq_true rfl, Nat.le_of_ble_eq_true rfl⟩) ⟨ax_fbR, va_recv hK hP (ci := 3) (q0 := 2) rfl rfl, ax_prR hPc hKc hS hE⟩ rfl rfl hl.1 rfl (lv_room (Nat.le_of_ble_eq_true rfl)) dX7_isNoPart_6 ⟨Nat.le_of_ble_eq_true rfl, Nat.le_of_ble_eq_true rfl⟩) hS (fun _ _ h9 => h9.elim) (fun _ h9 => h9.elim) (fun r_1 u_3  t H locs ht hvm hw_2 hB hz1 hk1 hS => ?_)
  have hP := ax_keep hP (fun _ h9 => h9) hk1
  refine ax_i (y := 0) hw_2 ?_
  refine lv_iconst (v := 1) hx hb dX7_isNoPart_9 (by decide) ?_
  refine lv_isub hx hb dX7_isNoPart_10 ?_
  refine ax_i (y := (-1)) (by decide) ?_
  refine va_calli (va_runS (As := [.int p0, .int 0, .int (-1)]) (rest := []) ⟨hx, hb, hml, hown, hts⟩ (c_X7_isIn l p0 0 (-1)) (va_cwS 3 hts gX7_isNoPart_X7_isIn rfl rfl rfl (by decide +kernel) ⟨Nat.le_of_ble_eq_true rfl, Nat.le_of_ble_eq_true rfl⟩) ⟨ax_fbP, ax_prP⟩ rfl rfl hl.1 rfl (lv_room (Nat.le_of_ble_eq_true rfl)) dX7_isNoPart_11 ⟨Nat.le_of_ble_eq_true rfl, Nat.le_of_ble_eq_true rfl⟩) hS (fun _ _ h9 => h9.elim) (fun _ h9 => h9.elim) (fun r_4 u_6  t H locs ht hvm hw_5 hB hz1 hk1 hS => ?_)
  have hP := ax_keep hP (fun _ h9 => h9) hk1
  rcases hw_5 with ⟨hr9, hw_5⟩ | ⟨hr9, hw_5⟩
  · have hw_5 : 0 ≤ p0.toInt ∧ p0.toInt ≤ (-1) := hw_5
    exfalso
    omega
  · have hw_5 : ¬ (0 ≤ p0.toInt ∧ p0.toInt ≤ (-1)) := hw_5
    refine ax_i hr9 ?_
    refine lv_if_ne (tgt := 21) hx hb dX7_isNoPart_14 (by decide) (fun h9 => absurd rfl h9) (fun _ => ?_)
    refine lv_iconst (v := 1) hx hb dX7_isNoPart_17 (by decide) ?_
    refine lv_goto (tgt := 22) hx hb dX7_isNoPart_18 (by decide) ?_
    refine W.widen (k := 0) (n := 0) (Nat.le_of_ble_eq_true rfl) (Nat.le_of_ble_eq_true rfl) ?_
    exact W.zret (v := 1) (ty := .boolean) hx hb hr (by decide +kernel) (fun t ht hW => ⟨⟨1, (), rfl, by first | rfl | (exfalso; omega), trivial⟩, hS.F ht⟩) hS.2.2 dX7_isNoPart_22

set_option maxHeartbeats 4000000 in
set_option maxRecDepth 100000 in
theorem c_X7_isNowhere (l : Launch) (dC : Nat → ClassId) (dI : Nat → Nat → Nat) (y ys yp : Nat) (sa ta : Nat → Nat) (th : Int32) (p0 : Int32) : Met l yX7_isNowhere wsX7_isNowhere ({ frames := 24, cells := 0, slots := 0, locals := 600 }) (va_Pc [.ref y, .int p0] (ax_R (dC, dI) vwCl [(y, .inr (11, [.int th, .ref ys, .ref yp, .int 0])), (ys, .inr (3, [.int 0, .ref (ta 4), .int 0])), (yp, .inr (3, [.int 0, .ref (ta 4), .int 0]))] [] sa ta)) (va_Qi (fun (r : Int32) (u : Unit) => ax_bo r (¬ p0.toInt = -1)) (fun _ _ => True) ax_no) 0 0 ax_no := by
  refine Met.ofW (cc := cX7_isNowhere) (maxL := 2) (ret := (some .boolean)) (by decide) rfl ?_
  intro p e s m args below meth c s₁ B hml hv
  obtain ⟨rfl, hP, hK, hE⟩ := hv
  have hx := B.exec
  have hb := B.bytes
  have hr := B.returns
  have hts := atoms_spec (ws := wsX7_isNowhere) B.pre
  have hown : s.vm.findClass RX7 = some m.cls := findClass_of_methodNamed B.named
  have hlocks := B.notSynchronized
  have hS : va_S ax_no s.heap s.heap [] := va_S.rf
  have hl := lv_entry ([.ref y, .int p0]) (n := 2) (Nat.le_of_ble_eq_true rfl)
  rw [lg_entry_eq]
  generalize (lg_sl ([.ref y, .int p0]) ++ List.replicate (2 - (lg_sl ([.ref y, .int p0])).length) Slot.unset).toArray = ls at hl ⊢
  have hl : lv_has ls 2 [(0, .ref y), (1, .int p0)] := hl
  have hP : va_P (dC, dI) vwCl [(y, .inr (11, [.int th, .ref ys, .ref yp, .int 0])), (ys, .inr (3, [.int 0, .ref (ta 4), .int 0])), (yp, .inr (3, [.int 0, .ref (ta 4), .int 0]))] s.heap := hP
  refine lv_iload_n hx hb dX7_isNowhere_0 rfl (lv_at hl 1 rfl) ?_
  refine lv_iconst (v := (-1)) hx hb dX7_isNowhere_1 (by decide) ?_
  refine lv_icmp_eq (tgt := 17) hx hb dX7_isNowhere_2 (by decide) (fun c_1 => ?_) (fun c_1 => ?_)
  · have c_1 : p0.toInt = (-1) := (ax_eq _ _).mp c_1
    refine lv_iconst (v := 0) hx hb dX7_isNowhere_17 (by decide) ?_
    refine W.widen (k := 0) (n := 0) (Nat.le_of_ble_eq_true rfl) (Nat.le_of_ble_eq_true rfl) ?_
    exact W.zret (v := 0) (ty := .boolean) hx hb hr (by decide +kernel) (fun t ht hW => ⟨⟨0, (), rfl, Or.inr ⟨rfl, by omega⟩, trivial⟩, hS.F ht⟩) hS.2.2 dX7_isNowhere_18
  · have c_1 : ¬ p0.toInt = (-1) := fun h9 => c_1 ((ax_eq _ _).mpr h9)
    refine lv_aload_n hx hb dX7_isNowhere_5 rfl (lv_at hl 0 rfl) ?_
    refine lv_iload_n hx hb dX7_isNowhere_6 rfl (lv_at hl 1 rfl) ?_
    have hPc := hP.sub (ws' := [(y, .inr (11, [.int th, .ref ys, .ref yp, .int 0])), (ys, .inr (3, [.int 0, .ref (ta 4), .int 0])), (yp, .inr (3, [.int 0, .ref (ta 4), .int 0]))]) [0, 1, 2] rfl
    have hKc := hK.sub (tys' := []) [] rfl
    refine va_calli (va_runV (As := [.int p0]) (rest := []) ⟨hx, hb, hml, hown, hts⟩ (c_X7_isNoPart l dC dI y ys yp sa ta th p0) (cwV 1 hts gX7_isNowhere_X7_isNoPart rfl rfl rfl (by decide +kernel) ⟨Nat.le_of_ble_eq_true rfl, Nat.le_of_ble_eq_true rfl⟩) ⟨ax_fbR, va_recv hK hP (ci := 11) (q0 := 0) rfl rfl, ax_prR hPc hKc hS hE⟩ rfl rfl hl.1 rfl (lv_room (Nat.le_of_ble_eq_true rfl)) dX7_isNowhere_7 ⟨Nat.le_of_ble_eq_true rfl, Nat.le_of_ble_eq_true rfl⟩) hS (fun _ _ h9 => h9.elim) (fun _ h9 => h9.elim) (fun r_2 u_4  t H locs ht hvm hw_3 hB hz1 hk1 hS => ?_)
    have hP := ax_keep hP (fun _ h9 => h9) hk1
    refine ax_i (y := 1) hw_3 ?_
    refine lv_if_eq (tgt := 17) hx hb dX7_isNowhere_10 (by decide) (fun h9 => absurd h9 (by decide)) (fun _ => ?_)
    refine lv_iconst (v := 1) hx hb dX7_isNowhere_13 (by decide) ?_
    refine lv_goto (tgt := 18) hx hb dX7_isNowhere_14 (by decide) ?_
    refine W.widen (k := 0) (n := 0) (Nat.le_of_ble_eq_true rfl) (Nat.le_of_ble_eq_true rfl) ?_
    exact W.zret (v := 1) (ty := .boolean) hx hb hr (by decide +kernel) (fun t ht hW => ⟨⟨1, (), rfl, Or.inl ⟨rfl, by omega⟩, trivial⟩, hS.F ht⟩) hS.2.2 dX7_isNowhere_18
