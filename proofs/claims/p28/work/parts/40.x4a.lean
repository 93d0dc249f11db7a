set_option maxHeartbeats 4000000 in
set_option maxRecDepth 100000 in
theorem c_X4_isPlace (l : Launch) (k : Nat) (hk8 : k < 8) : Met l yX4_isPlace wsX4_isPlace ({ frames := 0, cells := 0, slots := 0, locals := 0 }) (va_Pc [.int (nI k)] (fun _ => True)) (va_Qi (fun (r : Int32) (u9 : Unit) => r = 1) (fun _ _ => True) ax_no) 0 0 ax_no := by
  refine Met.ofW (cc := cX4_isPlace) (maxL := 1) (ret := (some .boolean)) (by decide) rfl ?_
  intro p e s m args below meth c s₁ B hml hv
  obtain ⟨rfl, -⟩ := hv
  have hx := B.exec
  have hb := B.bytes
  have hr := B.returns
  have hts := atoms_spec (ws := wsX4_isPlace) B.pre
  have hown : s.vm.findClass RX4 = some m.cls := findClass_of_methodNamed B.named
  have hlocks := B.notSynchronized
  have hS : va_S ax_no s.heap s.heap [] := va_S.rf
  have hl := lv_entry ([.int (nI k)]) (n := 1) (Nat.le_of_ble_eq_true rfl)
  rw [lg_entry_eq]
  generalize (lg_sl ([.int (nI k)]) ++ List.replicate (1 - (lg_sl ([.int (nI k)])).length) Slot.unset).toArray = ls at hl ⊢
  have hl : lv_has ls 1 [(0, .int (nI k))] := hl
  refine lv_iload_n hx hb dX4_isPlace_0 rfl (lv_at hl 0 rfl) ?_
  refine lv_if_lt (tgt := 14) hx hb dX4_isPlace_1 (by decide) (fun c_1 => ?_) (fun c_1 => ?_)
  · have c_1 : k < 0 := ax_fltTN (by omega) (by omega) c_1
    exfalso
    omega
  · have c_1 : ¬ k < 0 := ax_fltFN (by omega) (by omega) c_1
    refine lv_iload_n hx hb dX4_isPlace_4 rfl (lv_at hl 0 rfl) ?_
    refine lv_bipush (v := 8) hx hb dX4_isPlace_5 (by decide) ?_
    refine lv_icmp_ge (tgt := 14) hx hb dX4_isPlace_7 (by decide) (fun c_2 => ?_) (fun c_2 => ?_)
    · have c_2 : ¬ k < 8 := ax_fgeTN (by omega) (by omega) c_2
      exfalso
      omega
    · have c_2 : k < 8 := ax_fgeFN (by omega) (by omega) c_2
      refine lv_iconst (v := 1) hx hb dX4_isPlace_10 (by decide) ?_
      refine lv_goto (tgt := 15) hx hb dX4_isPlace_11 (by decide) ?_
      refine W.widen (k := 0) (n := 0) (Nat.le_of_ble_eq_true rfl) (Nat.le_of_ble_eq_true rfl) ?_
      exact W.zret (v := 1) (ty := .boolean) hx hb hr (by decide +kernel) (fun t8 ht hW => ⟨⟨1, (), rfl, rfl, trivial⟩, hS.F ht⟩) hS.2.2 dX4_isPlace_15

set_option maxHeartbeats 4000000 in
set_option maxRecDepth 100000 in
theorem c_X4_checkPlace (l : Launch) (k : Nat) (hk8 : k < 8) : Met l yX4_checkPlace wsX4_checkPlace ({ frames := 1, cells := 0, slots := 0, locals := 20 }) (va_Pc [.int (nI k)] (fun _ => True)) (va_Qv (fun (u9 : Unit) => True) (fun _ _ => True) ax_no) 0 0 ax_no := by
  refine Met.ofW (cc := cX4_checkPlace) (maxL := 1) (ret := none) (by decide) rfl ?_
  intro p e s m args below meth c s₁ B hml hv
  obtain ⟨rfl, -⟩ := hv
  have hx := B.exec
  have hb := B.bytes
  have hr := B.returns
  have hts := atoms_spec (ws := wsX4_checkPlace) B.pre
  have hown : s.vm.findClass RX4 = some m.cls := findClass_of_methodNamed B.named
  have hlocks := B.notSynchronized
  have hS : va_S ax_no s.heap s.heap [] := va_S.rf
  have hl := lv_entry ([.int (nI k)]) (n := 1) (Nat.le_of_ble_eq_true rfl)
  rw [lg_entry_eq]
  generalize (lg_sl ([.int (nI k)]) ++ List.replicate (1 - (lg_sl ([.int (nI k)])).length) Slot.unset).toArray = ls at hl ⊢
  have hl : lv_has ls 1 [(0, .int (nI k))] := hl
  refine lv_iload_n hx hb dX4_checkPlace_0 rfl (lv_at hl 0 rfl) ?_
  refine va_calli (va_runS (As := [.int (nI k)]) (rest := []) ⟨hx, hb, hml, hown, hts⟩ (c_X4_isPlace l k (by omega)) (va_cwS 1 hts gX4_checkPlace_X4_isPlace rfl rfl rfl (by decide +kernel) ⟨Nat.le_of_ble_eq_true rfl, Nat.le_of_ble_eq_true rfl⟩) ⟨ax_fbP, ax_prP⟩ rfl rfl hl.1 rfl (lv_room (Nat.le_of_ble_eq_true rfl)) dX4_checkPlace_1 ⟨Nat.le_of_ble_eq_true rfl, Nat.le_of_ble_eq_true rfl⟩) hS (fun _ _ h9 => h9.elim) (fun _ h9 => h9.elim) (fun r_1 u_3 t8 H locs ht hvm hw_2 hB hz1 hk1 hS => ?_)
  have hw_2 : r_1 = 1 := hw_2
  refine ax_i (y := 1) hw_2 ?_
  refine lv_if_ne (tgt := 18) hx hb dX4_checkPlace_4 (by decide) (fun _ => ?_) (fun h9 => absurd h9 (by decide))
  refine W.widen (k := 0) (n := 0) (Nat.le_of_ble_eq_true rfl) (Nat.le_of_ble_eq_true rfl) ?_
  exact W.vret hx hb hr (fun t8 ht hW => ⟨⟨(), rfl, trivial, trivial⟩, hS.F ht⟩) hS.2.2 dX4_checkPlace_18

set_option maxHeartbeats 4000000 in
set_option maxRecDepth 100000 in
theorem c_X4_checkSource (l : Launch) (p0 : Nat) (p1 : Nat) (p2 : Nat) (hp0 : p0 < 8) (hp1 : p1 < 8) (hp2 : 1 ≤ p2) (hp3 : p2 ≤ 9) : Met l yX4_checkSource wsX4_checkSource ({ frames := 1, cells := 0, slots := 0, locals := 20 }) (va_Pc [.int (nI p0), .int (nI p1), .int (nI p2)] (fun _ => True)) (va_Qv (fun (u9 : Unit) => True) (fun _ _ => True) ax_no) 0 0 ax_no := by
  refine Met.ofW (cc := cX4_checkSource) (maxL := 3) (ret := none) (by decide) rfl ?_
  intro p e s m args below meth c s₁ B hml hv
  obtain ⟨rfl, -⟩ := hv
  have hx := B.exec
  have hb := B.bytes
  have hr := B.returns
  have hts := atoms_spec (ws := wsX4_checkSource) B.pre
  have hown : s.vm.findClass RX4 = some m.cls := findClass_of_methodNamed B.named
  have hlocks := B.notSynchronized
  have hS : va_S ax_no s.heap s.heap [] := va_S.rf
  have hl := lv_entry ([.int (nI p0), .int (nI p1), .int (nI p2)]) (n := 3) (Nat.le_of_ble_eq_true rfl)
  rw [lg_entry_eq]
  generalize (lg_sl ([.int (nI p0), .int (nI p1), .int (nI p2)]) ++ List.replicate (3 - (lg_sl ([.int (nI p0), .int (nI p1), .int (nI p2)])).length) Slot.unset).toArray = ls at hl ⊢
  have hl : lv_has ls 3 [(0, .int (nI p0)), (1, .int (nI p1)), (2, .int (nI p2))] := hl
  refine lv_iload_n hx hb dX4_checkSource_0 rfl (lv_at hl 0 rfl) ?_
  refine va_calli (va_runS (As := [.int (nI p0)]) (rest := []) ⟨hx, hb, hml, hown, hts⟩ (c_X4_isPlace l p0 (by omega)) (va_cwS 1 hts gX4_checkSource_X4_isPlace rfl rfl rfl (by decide +kernel) ⟨Nat.le_of_ble_eq_true rfl, Nat.le_of_ble_eq_true rfl⟩) ⟨ax_fbP, ax_prP⟩ rfl rfl hl.1 rfl (lv_room (Nat.le_of_ble_eq_true rfl)) dX4_checkSource_1 ⟨Nat.le_of_ble_eq_true rfl, Nat.le_of_ble_eq_true rfl⟩) hS (fun _ _ h9 => h9.elim) (fun _ h9 => h9.elim) (fun r_1 u_3 t8 H locs ht hvm hw_2 hB hz1 hk1 hS => ?_)
  have hw_2 : r_1 = 1 := hw_2
  refine ax_i (y := 1) hw_2 ?_
  refine lv_if_eq (tgt := 28) hx hb dX4_checkSource_4 (by decide) (fun h9 => absurd h9 (by decide)) (fun _ => ?_)
  refine lv_iload_n hx hb dX4_checkSource_7 rfl (lv_at hl 1 rfl) ?_
  refine lv_if_lt (tgt := 28) hx hb dX4_checkSource_8 (by decide) (fun c_4 => ?_) (fun c_4 => ?_)
  · have c_4 : p1 < 0 := ax_fltTN (by omega) (by omega) c_4
    exfalso
    omega
  · have c_4 : ¬ p1 < 0 := ax_fltFN (by omega) (by omega) c_4
    refine lv_iload_n hx hb dX4_checkSource_11 rfl (lv_at hl 1 rfl) ?_
    refine lv_bipush (v := 7) hx hb dX4_checkSource_12 (by decide) ?_
    refine lv_icmp_gt (tgt := 28) hx hb dX4_checkSource_14 (by decide) (fun c_5 => ?_) (fun c_5 => ?_)
    · have c_5 : 7 < p1 := ax_fgtTN (by omega) (by omega) c_5
      exfalso
      omega
    · have c_5 : ¬ 7 < p1 := ax_fgtFN (by omega) (by omega) c_5
      refine lv_iload_n hx hb dX4_checkSource_17 rfl (lv_at hl 2 rfl) ?_
      refine lv_iconst (v := 1) hx hb dX4_checkSource_18 (by decide) ?_
      refine lv_icmp_lt (tgt := 28) hx hb dX4_checkSource_19 (by decide) (fun c_6 => ?_) (fun c_6 => ?_)
      · have c_6 : p2 < 1 := ax_fltTN (by omega) (by omega) c_6
        exfalso
        omega
      · have c_6 : ¬ p2 < 1 := ax_fltFN (by omega) (by omega) c_6
        refine lv_iload_n hx hb dX4_checkSource_22 rfl (lv_at hl 2 rfl) ?_
        refine lv_bipush (v := 9) hx hb dX4_checkSource_23 (by decide) ?_
        refine lv_icmp_le (tgt := 39) hx hb dX4_checkSource_25 (by decide) (fun c_7 => ?_) (fun c_7 => ?_)
        · have c_7 : ¬ 9 < p2 := ax_fleTN (by omega) (by omega) c_7
          refine W.widen (k := 0) (n := 0) (Nat.le_of_ble_eq_true rfl) (Nat.le_of_ble_eq_true rfl) ?_
          exact W.vret hx hb hr (fun t8 ht hW => ⟨⟨(), rfl, trivial, trivial⟩, hS.F ht⟩) hS.2.2 dX4_checkSource_39
        · have c_7 : 9 < p2 := ax_fleFN (by omega) (by omega) c_7
          exfalso
          omega

set_option maxHeartbeats 4000000 in
set_option maxRecDepth 100000 in
theorem c_X4_leastNumber (l : Launch) (dC : Nat → ClassId) (dI : Nat → Nat → Nat) (ta : Nat → Nat) (k : Nat) (hk11 : k < 11) : Met l yX4_leastNumber wsX4_leastNumber ({ frames := 0, cells := 0, slots := 0, locals := 0 }) (va_Pc [.int (nI k)] (ax_R (dC, dI) vwCl [] [] ta)) (va_Qi (fun (r : Int32) (u9 : Unit) => r = (nI (loN k))) (fun _ _ => True) ax_no) 0 0 ax_no := by
  refine Met.ofW (cc := cX4_leastNumber) (maxL := 1) (ret := (some .int)) (by decide) rfl ?_
  intro p e s m args below meth c s₁ B hml hv
  obtain ⟨rfl, hP, hK, hE⟩ := hv
  have hx := B.exec
  have hb := B.bytes
  have hr := B.returns
  have hts := atoms_spec (ws := wsX4_leastNumber) B.pre
  have hown : s.vm.findClass RX4 = some m.cls := findClass_of_methodNamed B.named
  have hlocks := B.notSynchronized
  have hS : va_S ax_no s.heap s.heap [] := va_S.rf
  have hl := lv_entry ([.int (nI k)]) (n := 1) (Nat.le_of_ble_eq_true rfl)
  rw [lg_entry_eq]
  generalize (lg_sl ([.int (nI k)]) ++ List.replicate (1 - (lg_sl ([.int (nI k)])).length) Slot.unset).toArray = ls at hl ⊢
  have hl : lv_has ls 1 [(0, .int (nI k))] := hl
  have hP : va_P (dC, dI) vwCl [] s.heap := hP
  refine lv_iload_n hx hb dX4_leastNumber_0 rfl (lv_at hl 0 rfl) ?_
  refine lv_if_lt (tgt := 20) hx hb dX4_leastNumber_1 (by decide) (fun c_1 => ?_) (fun c_1 => ?_)
  · have c_1 : k < 0 := ax_fltTN (by omega) (by omega) c_1
    exfalso
    omega
  · have c_1 : ¬ k < 0 := ax_fltFN (by omega) (by omega) c_1
    refine lv_iload_n hx hb dX4_leastNumber_4 rfl (lv_at hl 0 rfl) ?_
    refine va_gets hx hb hE.z0 hS hown (hts (.fieldLink RX4 256 "Diffractory" "LEAST_NUMBER" "[I") (by decide +kernel)) (fun _ h9 => h9) dX4_leastNumber_5 ?_
    refine va_tlen (v := 11) hx hb hE.t0 hS (by decide) dX4_leastNumber_8 ?_
    refine lv_icmp_ge (tgt := 20) hx hb dX4_leastNumber_9 (by decide) (fun c_2 => ?_) (fun c_2 => ?_)
    · have c_2 : ¬ k < 11 := ax_fgeTN (by omega) (by omega) c_2
      exfalso
      omega
    · have c_2 : k < 11 := ax_fgeFN (by omega) (by omega) c_2
      refine va_gets hx hb hE.z0 hS hown (hts (.fieldLink RX4 256 "Diffractory" "LEAST_NUMBER" "[I") (by decide +kernel)) (fun _ h9 => h9) dX4_leastNumber_12 ?_
      refine lv_iload_n hx hb dX4_leastNumber_15 rfl (lv_at hl 0 rfl) ?_
      refine va_ti (v := .int (nI (loN k))) hx hb hE.t0 hS (ax_in (by omega) (by omega)) (by rw [nI_clamp (n := k) (by omega)]; rfl) dX4_leastNumber_16 ?_
      refine lv_goto (tgt := 21) hx hb dX4_leastNumber_17 (by decide) ?_
      refine W.widen (k := 0) (n := 0) (Nat.le_of_ble_eq_true rfl) (Nat.le_of_ble_eq_true rfl) ?_
      exact W.iret (v := (nI (loN k))) hx hb hr (fun t8 ht hW => ⟨⟨(nI (loN k)), (), rfl, rfl, trivial⟩, hS.F ht⟩) hS.2.2 dX4_leastNumber_21

set_option maxHeartbeats 4000000 in
set_option maxRecDepth 100000 in
theorem c_X4_mostNumber (l : Launch) (dC : Nat → ClassId) (dI : Nat → Nat → Nat) (ta : Nat → Nat) (k : Nat) (hk11 : k < 11) : Met l yX4_mostNumber wsX4_mostNumber ({ frames := 0, cells := 0, slots := 0, locals := 0 }) (va_Pc [.int (nI k)] (ax_R (dC, dI) vwCl [] [] ta)) (va_Qi (fun (r : Int32) (u9 : Unit) => r = (nI (hiN k))) (fun _ _ => True) ax_no) 0 0 ax_no := by
  refine Met.ofW (cc := cX4_mostNumber) (maxL := 1) (ret := (some .int)) (by decide) rfl ?_
  intro p e s m args below meth c s₁ B hml hv
  obtain ⟨rfl, hP, hK, hE⟩ := hv
  have hx := B.exec
  have hb := B.bytes
  have hr := B.returns
  have hts := atoms_spec (ws := wsX4_mostNumber) B.pre
  have hown : s.vm.findClass RX4 = some m.cls := findClass_of_methodNamed B.named
  have hlocks := B.notSynchronized
  have hS : va_S ax_no s.heap s.heap [] := va_S.rf
  have hl := lv_entry ([.int (nI k)]) (n := 1) (Nat.le_of_ble_eq_true rfl)
  rw [lg_entry_eq]
  generalize (lg_sl ([.int (nI k)]) ++ List.replicate (1 - (lg_sl ([.int (nI k)])).length) Slot.unset).toArray = ls at hl ⊢
  have hl : lv_has ls 1 [(0, .int (nI k))] := hl
  have hP : va_P (dC, dI) vwCl [] s.heap := hP
  refine lv_iload_n hx hb dX4_mostNumber_0 rfl (lv_at hl 0 rfl) ?_
  refine lv_if_lt (tgt := 20) hx hb dX4_mostNumber_1 (by decide) (fun c_1 => ?_) (fun c_1 => ?_)
  · have c_1 : k < 0 := ax_fltTN (by omega) (by omega) c_1
    exfalso
    omega
  · have c_1 : ¬ k < 0 := ax_fltFN (by omega) (by omega) c_1
    refine lv_iload_n hx hb dX4_mostNumber_4 rfl (lv_at hl 0 rfl) ?_
    refine va_gets hx hb hE.z1 hS hown (hts (.fieldLink RX4 259 "Diffractory" "MOST_NUMBER" "[I") (by decide +kernel)) (fun _ h9 => h9) dX4_mostNumber_5 ?_
    refine va_tlen (v := 11) hx hb hE.t1 hS (by decide) dX4_mostNumber_8 ?_
    refine lv_icmp_ge (tgt := 20) hx hb dX4_mostNumber_9 (by decide) (fun c_2 => ?_) (fun c_2 => ?_)
    · have c_2 : ¬ k < 11 := ax_fgeTN (by omega) (by omega) c_2
      exfalso
      omega
    · have c_2 : k < 11 := ax_fgeFN (by omega) (by omega) c_2
      refine va_gets hx hb hE.z1 hS hown (hts (.fieldLink RX4 259 "Diffractory" "MOST_NUMBER" "[I") (by decide +kernel)) (fun _ h9 => h9) dX4_mostNumber_12 ?_
      refine lv_iload_n hx hb dX4_mostNumber_15 rfl (lv_at hl 0 rfl) ?_
      refine va_ti (v := .int (nI (hiN k))) hx hb hE.t1 hS (ax_in (by omega) (by omega)) (by rw [nI_clamp (n := k) (by omega)]; rfl) dX4_mostNumber_16 ?_
      refine lv_goto (tgt := 21) hx hb dX4_mostNumber_17 (by decide) ?_
      refine W.widen (k := 0) (n := 0) (Nat.le_of_ble_eq_true rfl) (Nat.le_of_ble_eq_true rfl) ?_
      exact W.iret (v := (nI (hiN k))) hx hb hr (fun t8 ht hW => ⟨⟨(nI (hiN k)), (), rfl, rfl, trivial⟩, hS.F ht⟩) hS.2.2 dX4_mostNumber_21

set_option maxHeartbeats 4000000 in
set_option maxRecDepth 100000 in
theorem c_X4_isNumberOf (l : Launch) (dC : Nat → ClassId) (dI : Nat → Nat → Nat) (ta : Nat → Nat) (k : Nat) (n9 : Nat) (hk11 : k < 11) (hlo : loN k ≤ n9) (hhi : n9 ≤ hiN k) : Met l yX4_isNumberOf wsX4_isNumberOf ({ frames := 1, cells := 0, slots := 0, locals := 20 }) (va_Pc [.int (nI k), .int (nI n9)] (ax_R (dC, dI) vwCl [] [] ta)) (va_Qi (fun (r : Int32) (u9 : Unit) => r = 1) (fun _ _ => True) ax_no) 0 0 ax_no := by
  refine Met.ofW (cc := cX4_isNumberOf) (maxL := 2) (ret := (some .boolean)) (by decide) rfl ?_
  intro p e s m args below meth c s₁ B hml hv
  obtain ⟨rfl, hP, hK, hE⟩ := hv
  have hx := B.exec
  have hb := B.bytes
  have hr := B.returns
  have hts := atoms_spec (ws := wsX4_isNumberOf) B.pre
  have hown : s.vm.findClass RX4 = some m.cls := findClass_of_methodNamed B.named
  have hlocks := B.notSynchronized
  have hS : va_S ax_no s.heap s.heap [] := va_S.rf
  have hl := lv_entry ([.int (nI k), .int (nI n9)]) (n := 2) (Nat.le_of_ble_eq_true rfl)
  rw [lg_entry_eq]
  generalize (lg_sl ([.int (nI k), .int (nI n9)]) ++ List.replicate (2 - (lg_sl ([.int (nI k), .int (nI n9)])).length) Slot.unset).toArray = ls at hl ⊢
  have hl : lv_has ls 2 [(0, .int (nI k)), (1, .int (nI n9))] := hl
  have hP : va_P (dC, dI) vwCl [] s.heap := hP
  have hn24 := ax_hi24 hhi
  have hl24 := ax_hi24 (Nat.le_trans hlo hhi)
  have hh24 := ax_hi24 (k := k) (Nat.le_refl _)
  refine lv_iload_n hx hb dX4_isNumberOf_0 rfl (lv_at hl 0 rfl) ?_
  refine lv_if_lt (tgt := 30) hx hb dX4_isNumberOf_1 (by decide) (fun c_1 => ?_) (fun c_1 => ?_)
  · have c_1 : k < 0 := ax_fltTN (by omega) (by omega) c_1
    exfalso
    omega
  · have c_1 : ¬ k < 0 := ax_fltFN (by omega) (by omega) c_1
    refine lv_iload_n hx hb dX4_isNumberOf_4 rfl (lv_at hl 0 rfl) ?_
    refine lv_bipush (v := 10) hx hb dX4_isNumberOf_5 (by decide) ?_
    refine lv_icmp_gt (tgt := 30) hx hb dX4_isNumberOf_7 (by decide) (fun c_2 => ?_) (fun c_2 => ?_)
    · have c_2 : 10 < k := ax_fgtTN (by omega) (by omega) c_2
      exfalso
      omega
    · have c_2 : ¬ 10 < k := ax_fgtFN (by omega) (by omega) c_2
      refine lv_iload_n hx hb dX4_isNumberOf_10 rfl (lv_at hl 1 rfl) ?_
      refine lv_iload_n hx hb dX4_isNumberOf_11 rfl (lv_at hl 0 rfl) ?_
      have hPc := hP.sub (ws' := []) [] rfl
      have hKc := hK.sub (tys' := []) [] rfl
      refine va_calli (va_runS (As := [.int (nI k)]) (rest := [.int (nI n9)]) ⟨hx, hb, hml, hown, hts⟩ (c_X4_leastNumber l dC dI ta k (by omega)) (va_cwS 1 hts gX4_isNumberOf_X4_leastNumber rfl rfl rfl (by decide +kernel) ⟨Nat.le_of_ble_eq_true rfl, Nat.le_of_ble_eq_true rfl⟩) ⟨ax_fbR, ax_prR hPc hKc hS hE⟩ rfl rfl hl.1 rfl (lv_room (Nat.le_of_ble_eq_true rfl)) dX4_isNumberOf_12 ⟨Nat.le_of_ble_eq_true rfl, Nat.le_of_ble_eq_true rfl⟩) hS (fun _ _ h9 => h9.elim) (fun _ h9 => h9.elim) (fun r_3 u_5 t8 H locs ht hvm hw_4 hB hz1 hk1 hS => ?_)
      have hP := ax_keep hP (fun _ h9 => h9) hk1
      have hw_4 : r_3 = (nI (loN k)) := hw_4
      refine ax_i (y := (nI (loN k))) hw_4 ?_
      refine lv_icmp_lt (tgt := 30) hx hb dX4_isNumberOf_15 (by decide) (fun c_6 => ?_) (fun c_6 => ?_)
      · have c_6 : n9 < (loN k) := ax_fltTN (by omega) (by omega) c_6
        exfalso
        omega
      · have c_6 : ¬ n9 < (loN k) := ax_fltFN (by omega) (by omega) c_6
        refine lv_iload_n hx hb dX4_isNumberOf_18 rfl (lv_at hl 1 rfl) ?_
        refine lv_iload_n hx hb dX4_isNumberOf_19 rfl (lv_at hl 0 rfl) ?_
        have hPc := hP.sub (ws' := []) [] rfl
        have hKc := hK.sub (tys' := []) [] rfl
        refine va_calli (va_runS (As := [.int (nI k)]) (rest := [.int (nI n9)]) ⟨hx, hb, hml, hown, hts⟩ (c_X4_mostNumber l dC dI ta k (by omega)) (va_cwS 1 hts gX4_isNumberOf_X4_mostNumber rfl rfl rfl (by decide +kernel) ⟨Nat.le_of_ble_eq_true rfl, Nat.le_of_ble_eq_true rfl⟩) ⟨ax_fbR, ax_prR hPc hKc hS hE⟩ rfl rfl hl.1 rfl (lv_room (Nat.le_of_ble_eq_true rfl)) dX4_isNumberOf_20 ⟨Nat.le_of_ble_eq_true rfl, Nat.le_of_ble_eq_true rfl⟩) hS (fun _ _ h9 => h9.elim) (fun _ h9 => h9.elim) (fun r_7 u_9 t8 H locs ht hvm hw_8 hB hz1 hk1 hS => ?_)
        have hP := ax_keep hP (fun _ h9 => h9) hk1
        have hw_8 : r_7 = (nI (hiN k)) := hw_8
        refine ax_i (y := (nI (hiN k))) hw_8 ?_
        refine lv_icmp_gt (tgt := 30) hx hb dX4_isNumberOf_23 (by decide) (fun c_10 => ?_) (fun c_10 => ?_)
        · have c_10 : (hiN k) < n9 := ax_fgtTN (by omega) (by omega) c_10
          exfalso
          omega
        · have c_10 : ¬ (hiN k) < n9 := ax_fgtFN (by omega) (by omega) c_10
          refine lv_iconst (v := 1) hx hb dX4_isNumberOf_26 (by decide) ?_
          refine lv_goto (tgt := 31) hx hb dX4_isNumberOf_27 (by decide) ?_
          refine W.widen (k := 0) (n := 0) (Nat.le_of_ble_eq_true rfl) (Nat.le_of_ble_eq_true rfl) ?_
          exact W.zret (v := 1) (ty := .boolean) hx hb hr (by decide +kernel) (fun t8 ht hW => ⟨⟨1, (), rfl, rfl, trivial⟩, hS.F ht⟩) hS.2.2 dX4_isNumberOf_31

set_option maxHeartbeats 4000000 in
set_option maxRecDepth 100000 in
theorem c_X4_sourceAt (l : Launch) (dC : Nat → ClassId) (dI : Nat → Nat → Nat) (x xs xp xl xn xm xr xw xt : Nat) (cS cP cL cI : ClassId) (ta : Nat → Nat) (u : Nat → Int64) (w : Nat → Int64) (t : Nat → Int64) (L : List Nat) (f : Nat → va_E) (sA : Nat → Option Nat) (pA : Nat → Option Nat) (sd : Nat → Nat) (pd : Nat → Nat) (ed : Nat → Nat) (S : Nat → ST) (P : Nat → PT) (ns : Nat) (np : Nat) (i : Nat) (hbn : bn cI L f sA pA sd pd ed S P ns np) (hi : i < ns) : Met l yX4_sourceAt wsX4_sourceAt ({ frames := 0, cells := 0, slots := 0, locals := 0 }) (va_Pc [.ref x, .int (nI i)] (ax_R (dC, dI) vwCl ([(x, .inr (4, [.ref xs, .ref xp, .int (nI ns), .int (nI np), .ref xl, .ref xr])), (xs, .inl (cS, 3, .inr (.inr (.inr (.inr sA))))), (xp, .inl (cP, 8, .inr (.inr (.inr (.inr pA))))), (xl, .inr (0, [.ref xn, .ref xm])), (xn, .inl (cL, 64, .inr (.inl u))), (xm, .inl (cL, 64, .inr (.inl (fun _ => 0)))), (xr, .inr (2, [.ref xw, .ref xt])), (xw, .inl (cL, 8, .inr (.inl w))), (xt, .inl (cL, 8, .inr (.inl t)))] ++ va_pl L f) [(cS, .object "Diffractory$Source"), (cP, .object "Diffractory$Part"), (cL, .long), (cI, .int)] ta)) (va_Qq (fun (r : Option Nat) (u9 : Unit) => r = some (sd i)) (fun _ _ => True) ax_no) 0 0 ax_no := by
  refine Met.ofW (cc := cX4_sourceAt) (maxL := 2) (ret := (some (.object "Diffractory$Source"))) (by decide) rfl ?_
  intro p e s m args below meth c s₁ B hml hv
  obtain ⟨rfl, hP, hK, hE⟩ := hv
  have hx := B.exec
  have hb := B.bytes
  have hr := B.returns
  have hts := atoms_spec (ws := wsX4_sourceAt) B.pre
  have hown : s.vm.findClass RX4 = some m.cls := findClass_of_methodNamed B.named
  have hlocks := B.notSynchronized
  have hS : va_S ax_no s.heap s.heap [] := va_S.rf
  have hl := lv_entry ([.ref x, .int (nI i)]) (n := 2) (Nat.le_of_ble_eq_true rfl)
  rw [lg_entry_eq]
  generalize (lg_sl ([.ref x, .int (nI i)]) ++ List.replicate (2 - (lg_sl ([.ref x, .int (nI i)])).length) Slot.unset).toArray = ls at hl ⊢
  have hl : lv_has ls 2 [(0, .ref x), (1, .int (nI i))] := hl
  have hP : va_P (dC, dI) vwCl ([(x, .inr (4, [.ref xs, .ref xp, .int (nI ns), .int (nI np), .ref xl, .ref xr])), (xs, .inl (cS, 3, .inr (.inr (.inr (.inr sA))))), (xp, .inl (cP, 8, .inr (.inr (.inr (.inr pA))))), (xl, .inr (0, [.ref xn, .ref xm])), (xn, .inl (cL, 64, .inr (.inl u))), (xm, .inl (cL, 64, .inr (.inl (fun _ => 0)))), (xr, .inr (2, [.ref xw, .ref xt])), (xw, .inl (cL, 8, .inr (.inl w))), (xt, .inl (cL, 8, .inr (.inl t)))] ++ va_pl L f) s.heap := hP
  obtain ⟨hns3, hnp8, hbS, hbP, hiS, hiP, hiE⟩ := id hbn
  refine lv_iload_n hx hb dX4_sourceAt_0 rfl (lv_at hl 1 rfl) ?_
  refine lv_if_lt (tgt := 26) hx hb dX4_sourceAt_1 (by decide) (fun c_1 => ?_) (fun c_1 => ?_)
  · have c_1 : i < 0 := ax_fltTN (by omega) (by omega) c_1
    exfalso
    omega
  · have c_1 : ¬ i < 0 := ax_fltFN (by omega) (by omega) c_1
    refine lv_iload_n hx hb dX4_sourceAt_4 rfl (lv_at hl 1 rfl) ?_
    refine lv_aload_n hx hb dX4_sourceAt_5 rfl (lv_at hl 0 rfl) ?_
    refine va_get (D := (dC, dI)) (ci := 4) (v := .int (nI ns)) (C := RX4) (T := TX4) (N := 6) hx hb hts (by decide +kernel) hown hK hP 0 rfl rfl 2 (by decide) (hts (.fieldLink RX4 35 "Diffractory" "sourceCount" "I") (by decide +kernel)) (fun _ h9 => h9) rfl dX4_sourceAt_6 ?_
    refine lv_icmp_ge (tgt := 26) hx hb dX4_sourceAt_9 (by decide) (fun c_2 => ?_) (fun c_2 => ?_)
    · have c_2 : ¬ i < ns := ax_fgeTN (by omega) (by omega) c_2
      exfalso
      omega
    · have c_2 : i < ns := ax_fgeFN (by omega) (by omega) c_2
      refine lv_iload_n hx hb dX4_sourceAt_12 rfl (lv_at hl 1 rfl) ?_
      refine lv_iconst (v := 3) hx hb dX4_sourceAt_13 (by decide) ?_
      refine lv_icmp_ge (tgt := 26) hx hb dX4_sourceAt_14 (by decide) (fun c_3 => ?_) (fun c_3 => ?_)
      · have c_3 : ¬ i < 3 := ax_fgeTN (by omega) (by omega) c_3
        exfalso
        omega
      · have c_3 : i < 3 := ax_fgeFN (by omega) (by omega) c_3
        refine lv_aload_n hx hb dX4_sourceAt_17 rfl (lv_at hl 0 rfl) ?_
        refine va_get (D := (dC, dI)) (ci := 4) (v := .ref xs) (C := RX4) (T := TX4) (N := 6) hx hb hts (by decide +kernel) hown hK hP 0 rfl rfl 0 (by decide) (hts (.fieldLink RX4 11 "Diffractory" "sources" "[LDiffractory$Source;") (by decide +kernel)) (fun _ h9 => h9) rfl dX4_sourceAt_18 ?_
        refine lv_iload_n hx hb dX4_sourceAt_21 rfl (lv_at hl 1 rfl) ?_
        refine va_aldq hx hb hK hP 1 0 rfl rfl (ax_in (by omega) (by omega)) dX4_sourceAt_22 ?_
        refine W.eq (g2 := F0 m 23 ls [.ref (sd i)]) (by rw [nI_clamp (n := i) (by omega)]; rw [(hbS i hi).2.1]; rfl) ?_
        refine lv_goto (tgt := 27) hx hb dX4_sourceAt_23 (by decide) ?_
        refine W.widen (k := 0) (n := 0) (Nat.le_of_ble_eq_true rfl) (Nat.le_of_ble_eq_true rfl) ?_
        exact W.aret (v := .ref (sd i)) (rt := (.object "Diffractory$Source")) hx hb hr (by first | exact Or.inl ⟨_, rfl⟩ | exact Or.inr ⟨_, rfl⟩) (by first | exact Or.inl rfl | exact Or.inr ⟨_, rfl⟩) (fun t8 ht hW => ⟨⟨some (sd i), (), rfl, rfl, trivial⟩, hS.F ht⟩) hS.2.2 dX4_sourceAt_27

set_option maxHeartbeats 4000000 in
set_option maxRecDepth 100000 in
theorem c_X4_partAt (l : Launch) (dC : Nat → ClassId) (dI : Nat → Nat → Nat) (x xs xp xl xn xm xr xw xt : Nat) (cS cP cL cI : ClassId) (ta : Nat → Nat) (u : Nat → Int64) (w : Nat → Int64) (t : Nat → Int64) (L : List Nat) (f : Nat → va_E) (sA : Nat → Option Nat) (pA : Nat → Option Nat) (sd : Nat → Nat) (pd : Nat → Nat) (ed : Nat → Nat) (S : Nat → ST) (P : Nat → PT) (ns : Nat) (np : Nat) (i : Nat) (hbn : bn cI L f sA pA sd pd ed S P ns np) (hi : i < np) : Met l yX4_partAt wsX4_partAt ({ frames := 0, cells := 0, slots := 0, locals := 0 }) (va_Pc [.ref x, .int (nI i)] (ax_R (dC, dI) vwCl ([(x, .inr (4, [.ref xs, .ref xp, .int (nI ns), .int (nI np), .ref xl, .ref xr])), (xs, .inl (cS, 3, .inr (.inr (.inr (.inr sA))))), (xp, .inl (cP, 8, .inr (.inr (.inr (.inr pA))))), (xl, .inr (0, [.ref xn, .ref xm])), (xn, .inl (cL, 64, .inr (.inl u))), (xm, .inl (cL, 64, .inr (.inl (fun _ => 0)))), (xr, .inr (2, [.ref xw, .ref xt])), (xw, .inl (cL, 8, .inr (.inl w))), (xt, .inl (cL, 8, .inr (.inl t)))] ++ va_pl L f) [(cS, .object "Diffractory$Source"), (cP, .object "Diffractory$Part"), (cL, .long), (cI, .int)] ta)) (va_Qq (fun (r : Option Nat) (u9 : Unit) => r = some (pd i)) (fun _ _ => True) ax_no) 0 0 ax_no := by
  refine Met.ofW (cc := cX4_partAt) (maxL := 2) (ret := (some (.object "Diffractory$Part"))) (by decide) rfl ?_
  intro p e s m args below meth c s₁ B hml hv
  obtain ⟨rfl, hP, hK, hE⟩ := hv
  have hx := B.exec
  have hb := B.bytes
  have hr := B.returns
  have hts := atoms_spec (ws := wsX4_partAt) B.pre
  have hown : s.vm.findClass RX4 = some m.cls := findClass_of_methodNamed B.named
  have hlocks := B.notSynchronized
  have hS : va_S ax_no s.heap s.heap [] := va_S.rf
  have hl := lv_entry ([.ref x, .int (nI i)]) (n := 2) (Nat.le_of_ble_eq_true rfl)
  rw [lg_entry_eq]
  generalize (lg_sl ([.ref x, .int (nI i)]) ++ List.replicate (2 - (lg_sl ([.ref x, .int (nI i)])).length) Slot.unset).toArray = ls at hl ⊢
  have hl : lv_has ls 2 [(0, .ref x), (1, .int (nI i))] := hl
  have hP : va_P (dC, dI) vwCl ([(x, .inr (4, [.ref xs, .ref xp, .int (nI ns), .int (nI np), .ref xl, .ref xr])), (xs, .inl (cS, 3, .inr (.inr (.inr (.inr sA))))), (xp, .inl (cP, 8, .inr (.inr (.inr (.inr pA))))), (xl, .inr (0, [.ref xn, .ref xm])), (xn, .inl (cL, 64, .inr (.inl u))), (xm, .inl (cL, 64, .inr (.inl (fun _ => 0)))), (xr, .inr (2, [.ref xw, .ref xt])), (xw, .inl (cL, 8, .inr (.inl w))), (xt, .inl (cL, 8, .inr (.inl t)))] ++ va_pl L f) s.heap := hP
  obtain ⟨hns3, hnp8, hbS, hbP, hiS, hiP, hiE⟩ := id hbn
  refine lv_iload_n hx hb dX4_partAt_0 rfl (lv_at hl 1 rfl) ?_
  refine lv_if_lt (tgt := 27) hx hb dX4_partAt_1 (by decide) (fun c_1 => ?_) (fun c_1 => ?_)
  · have c_1 : i < 0 := ax_fltTN (by omega) (by omega) c_1
    exfalso
    omega
  · have c_1 : ¬ i < 0 := ax_fltFN (by omega) (by omega) c_1
    refine lv_iload_n hx hb dX4_partAt_4 rfl (lv_at hl 1 rfl) ?_
    refine lv_aload_n hx hb dX4_partAt_5 rfl (lv_at hl 0 rfl) ?_
    refine va_get (D := (dC, dI)) (ci := 4) (v := .int (nI np)) (C := RX4) (T := TX4) (N := 6) hx hb hts (by decide +kernel) hown hK hP 0 rfl rfl 3 (by decide) (hts (.fieldLink RX4 39 "Diffractory" "partCount" "I") (by decide +kernel)) (fun _ h9 => h9) rfl dX4_partAt_6 ?_
    refine lv_icmp_ge (tgt := 27) hx hb dX4_partAt_9 (by decide) (fun c_2 => ?_) (fun c_2 => ?_)
    · have c_2 : ¬ i < np := ax_fgeTN (by omega) (by omega) c_2
      exfalso
      omega
    · have c_2 : i < np := ax_fgeFN (by omega) (by omega) c_2
      refine lv_iload_n hx hb dX4_partAt_12 rfl (lv_at hl 1 rfl) ?_
      refine lv_bipush (v := 8) hx hb dX4_partAt_13 (by decide) ?_
      refine lv_icmp_ge (tgt := 27) hx hb dX4_partAt_15 (by decide) (fun c_3 => ?_) (fun c_3 => ?_)
      · have c_3 : ¬ i < 8 := ax_fgeTN (by omega) (by omega) c_3
        exfalso
        omega
      · have c_3 : i < 8 := ax_fgeFN (by omega) (by omega) c_3
        refine lv_aload_n hx hb dX4_partAt_18 rfl (lv_at hl 0 rfl) ?_
        refine va_get (D := (dC, dI)) (ci := 4) (v := .ref xp) (C := RX4) (T := TX4) (N := 6) hx hb hts (by decide +kernel) hown hK hP 0 rfl rfl 1 (by decide) (hts (.fieldLink RX4 17 "Diffractory" "parts" "[LDiffractory$Part;") (by decide +kernel)) (fun _ h9 => h9) rfl dX4_partAt_19 ?_
        refine lv_iload_n hx hb dX4_partAt_22 rfl (lv_at hl 1 rfl) ?_
        refine va_aldq hx hb hK hP 2 1 rfl rfl (ax_in (by omega) (by omega)) dX4_partAt_23 ?_
        refine W.eq (g2 := F0 m 24 ls [.ref (pd i)]) (by rw [nI_clamp (n := i) (by omega)]; rw [(hbP i hi).2.1]; rfl) ?_
        refine lv_goto (tgt := 28) hx hb dX4_partAt_24 (by decide) ?_
        refine W.widen (k := 0) (n := 0) (Nat.le_of_ble_eq_true rfl) (Nat.le_of_ble_eq_true rfl) ?_
        exact W.aret (v := .ref (pd i)) (rt := (.object "Diffractory$Part")) hx hb hr (by first | exact Or.inl ⟨_, rfl⟩ | exact Or.inr ⟨_, rfl⟩) (by first | exact Or.inl rfl | exact Or.inr ⟨_, rfl⟩) (fun t8 ht hW => ⟨⟨some (pd i), (), rfl, rfl, trivial⟩, hS.F ht⟩) hS.2.2 dX4_partAt_28

set_option maxHeartbeats 4000000 in
set_option maxRecDepth 100000 in
theorem c_X4_checkBehind (l : Launch) (dC : Nat → ClassId) (dI : Nat → Nat → Nat) (x xs xp xl xn xm xr xw xt : Nat) (cS cP cL cI : ClassId) (ta : Nat → Nat) (u : Nat → Int64) (w : Nat → Int64) (t : Nat → Int64) (L : List Nat) (f : Nat → va_E) (sA : Nat → Option Nat) (pA : Nat → Option Nat) (sd : Nat → Nat) (pd : Nat → Nat) (ed : Nat → Nat) (S : Nat → ST) (P : Nat → PT) (ns : Nat) (np : Nat) (bh : Int32) (b : Nat) (hbn : bn cI L f sA pA sd pd ed S P ns np) (hbh : bh.toInt = (b : Int) - 1) (hbb : b ≤ np) : Met l yX4_checkBehind wsX4_checkBehind ({ frames := 0, cells := 0, slots := 0, locals := 0 }) (va_Pc [.ref x, .int bh] (ax_R (dC, dI) vwCl ([(x, .inr (4, [.ref xs, .ref xp, .int (nI ns), .int (nI np), .ref xl, .ref xr])), (xs, .inl (cS, 3, .inr (.inr (.inr (.inr sA))))), (xp, .inl (cP, 8, .inr (.inr (.inr (.inr pA))))), (xl, .inr (0, [.ref xn, .ref xm])), (xn, .inl (cL, 64, .inr (.inl u))), (xm, .inl (cL, 64, .inr (.inl (fun _ => 0)))), (xr, .inr (2, [.ref xw, .ref xt])), (xw, .inl (cL, 8, .inr (.inl w))), (xt, .inl (cL, 8, .inr (.inl t)))] ++ va_pl L f) [(cS, .object "Diffractory$Source"), (cP, .object "Diffractory$Part"), (cL, .long), (cI, .int)] ta)) (va_Qv (fun (u9 : Unit) => True) (fun _ _ => True) ax_no) 0 0 ax_no := by
  refine Met.ofW (cc := cX4_checkBehind) (maxL := 2) (ret := none) (by decide) rfl ?_
  intro p e s m args below meth c s₁ B hml hv
  obtain ⟨rfl, hP, hK, hE⟩ := hv
  have hx := B.exec
  have hb := B.bytes
  have hr := B.returns
  have hts := atoms_spec (ws := wsX4_checkBehind) B.pre
  have hown : s.vm.findClass RX4 = some m.cls := findClass_of_methodNamed B.named
  have hlocks := B.notSynchronized
  have hS : va_S ax_no s.heap s.heap [] := va_S.rf
  have hl := lv_entry ([.ref x, .int bh]) (n := 2) (Nat.le_of_ble_eq_true rfl)
  rw [lg_entry_eq]
  generalize (lg_sl ([.ref x, .int bh]) ++ List.replicate (2 - (lg_sl ([.ref x, .int bh])).length) Slot.unset).toArray = ls at hl ⊢
  have hl : lv_has ls 2 [(0, .ref x), (1, .int bh)] := hl
  have hP : va_P (dC, dI) vwCl ([(x, .inr (4, [.ref xs, .ref xp, .int (nI ns), .int (nI np), .ref xl, .ref xr])), (xs, .inl (cS, 3, .inr (.inr (.inr (.inr sA))))), (xp, .inl (cP, 8, .inr (.inr (.inr (.inr pA))))), (xl, .inr (0, [.ref xn, .ref xm])), (xn, .inl (cL, 64, .inr (.inl u))), (xm, .inl (cL, 64, .inr (.inl (fun _ => 0)))), (xr, .inr (2, [.ref xw, .ref xt])), (xw, .inl (cL, 8, .inr (.inl w))), (xt, .inl (cL, 8, .inr (.inl t)))] ++ va_pl L f) s.heap := hP
  obtain ⟨hns3, hnp8, hbS, hbP, hiS, hiP, hiE⟩ := id hbn
  refine lv_iload_n hx hb dX4_checkBehind_0 rfl (lv_at hl 1 rfl) ?_
  refine lv_iconst (v := (-1)) hx hb dX4_checkBehind_1 (by decide) ?_
  refine lv_icmp_lt (tgt := 13) hx hb dX4_checkBehind_2 (by decide) (fun c_1 => ?_) (fun c_1 => ?_)
  · have c_1 : bh.toInt < (-1) := ax_fltT c_1
    exfalso
    omega
  · have c_1 : ¬ bh.toInt < (-1) := ax_fltF c_1
    refine lv_iload_n hx hb dX4_checkBehind_5 rfl (lv_at hl 1 rfl) ?_
    refine lv_aload_n hx hb dX4_checkBehind_6 rfl (lv_at hl 0 rfl) ?_
    refine va_get (D := (dC, dI)) (ci := 4) (v := .int (nI np)) (C := RX4) (T := TX4) (N := 6) hx hb hts (by decide +kernel) hown hK hP 0 rfl rfl 3 (by decide) (hts (.fieldLink RX4 39 "Diffractory" "partCount" "I") (by decide +kernel)) (fun _ h9 => h9) rfl dX4_checkBehind_7 ?_
    refine lv_icmp_lt (tgt := 23) hx hb dX4_checkBehind_10 (by decide) (fun c_2 => ?_) (fun c_2 => ?_)
    · have c_2 := ax_fltT c_2
      rw [nI_toInt (show np < 2 ^ 31 by omega)] at c_2
      have c_2 : bh.toInt < ((np : Nat) : Int) := c_2
      refine W.widen (k := 0) (n := 0) (Nat.le_of_ble_eq_true rfl) (Nat.le_of_ble_eq_true rfl) ?_
      exact W.vret hx hb hr (fun t8 ht hW => ⟨⟨(), rfl, trivial, trivial⟩, hS.F ht⟩) hS.2.2 dX4_checkBehind_23
    · have c_2 := ax_fltF c_2
      rw [nI_toInt (show np < 2 ^ 31 by omega)] at c_2
      have c_2 : ¬ bh.toInt < ((np : Nat) : Int) := c_2
      exfalso
      omega
