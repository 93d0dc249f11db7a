theorem ax_jk {j k : Nat} (hj : j < 8) (hk : k < 8) : 7 * j * k < 1000 ∧ 1 * j * k < 1000 := by
  have h : j * k ≤ 7 * 7 := Nat.mul_le_mul (by omega) (by omega)
  rw [Nat.mul_assoc, Nat.mul_assoc]
  omega

set_option maxHeartbeats 4000000 in
set_option maxRecDepth 100000 in
theorem c_X0_startOfX (l : Launch) (k : Nat) (hk8 : k < 8) : Met l yX0_startOfX wsX0_startOfX ({ frames := 0, cells := 0, slots := 0, locals := 0 }) (va_Pc [.int (nI k)] (fun _ => True)) (va_Qi (fun (r : Int32) (u9 : Unit) => r = (nI (8 * k))) (fun _ _ => True) ax_no) 0 0 ax_no := by
  refine Met.ofW (cc := cX0_startOfX) (maxL := 1) (ret := (some .int)) (by decide) rfl ?_
  intro p e s m args below meth c s₁ B hml hv
  obtain ⟨rfl, -⟩ := hv
  have hx := B.exec
  have hb := B.bytes
  have hr := B.returns
  have hts := atoms_spec (ws := wsX0_startOfX) B.pre
  have hown : s.vm.findClass RX0 = some m.cls := findClass_of_methodNamed B.named
  have hlocks := B.notSynchronized
  have hS : va_S ax_no s.heap s.heap [] := va_S.rf
  have hl := lv_entry ([.int (nI k)]) (n := 1) (Nat.le_of_ble_eq_true rfl)
  rw [lg_entry_eq]
  generalize (lg_sl ([.int (nI k)]) ++ List.replicate (1 - (lg_sl ([.int (nI k)])).length) Slot.unset).toArray = ls at hl ⊢
  have hl : lv_has ls 1 [(0, .int (nI k))] := hl
  refine lv_bipush (v := 8) hx hb dX0_startOfX_0 (by decide) ?_
  refine lv_iload_n hx hb dX0_startOfX_2 rfl (lv_at hl 0 rfl) ?_
  refine lv_bipush (v := 7) hx hb dX0_startOfX_3 (by decide) ?_
  refine lv_iand hx hb dX0_startOfX_5 ?_
  refine ax_i (y := (nI (k % 8))) (pk_andN (by omega) 3 rfl) ?_
  refine lv_imul hx hb dX0_startOfX_6 ?_
  refine ax_i (y := (nI (8 * (k % 8)))) (pk_mul 8 (k % 8)) ?_
  refine W.widen (k := 0) (n := 0) (Nat.le_of_ble_eq_true rfl) (Nat.le_of_ble_eq_true rfl) ?_
  exact W.iret (v := (nI (8 * (k % 8)))) hx hb hr (fun t8 ht hW => ⟨⟨(nI (8 * (k % 8))), (), rfl, by rw [show k % 8 = k by omega], trivial⟩, hS.F ht⟩) hS.2.2 dX0_startOfX_7

set_option maxHeartbeats 4000000 in
set_option maxRecDepth 100000 in
theorem c_X0_startOfY (l : Launch) (k : Nat) (hk8 : k < 8) : Met l yX0_startOfY wsX0_startOfY ({ frames := 0, cells := 0, slots := 0, locals := 0 }) (va_Pc [.int (nI k)] (fun _ => True)) (va_Qi (fun (r : Int32) (u9 : Unit) => r = (nI (8 * k + 4))) (fun _ _ => True) ax_no) 0 0 ax_no := by
  refine Met.ofW (cc := cX0_startOfY) (maxL := 1) (ret := (some .int)) (by decide) rfl ?_
  intro p e s m args below meth c s₁ B hml hv
  obtain ⟨rfl, -⟩ := hv
  have hx := B.exec
  have hb := B.bytes
  have hr := B.returns
  have hts := atoms_spec (ws := wsX0_startOfY) B.pre
  have hown : s.vm.findClass RX0 = some m.cls := findClass_of_methodNamed B.named
  have hlocks := B.notSynchronized
  have hS : va_S ax_no s.heap s.heap [] := va_S.rf
  have hl := lv_entry ([.int (nI k)]) (n := 1) (Nat.le_of_ble_eq_true rfl)
  rw [lg_entry_eq]
  generalize (lg_sl ([.int (nI k)]) ++ List.replicate (1 - (lg_sl ([.int (nI k)])).length) Slot.unset).toArray = ls at hl ⊢
  have hl : lv_has ls 1 [(0, .int (nI k))] := hl
  refine lv_bipush (v := 8) hx hb dX0_startOfY_0 (by decide) ?_
  refine lv_iload_n hx hb dX0_startOfY_2 rfl (lv_at hl 0 rfl) ?_
  refine lv_bipush (v := 7) hx hb dX0_startOfY_3 (by decide) ?_
  refine lv_iand hx hb dX0_startOfY_5 ?_
  refine ax_i (y := (nI (k % 8))) (pk_andN (by omega) 3 rfl) ?_
  refine lv_imul hx hb dX0_startOfY_6 ?_
  refine ax_i (y := (nI (8 * (k % 8)))) (pk_mul 8 (k % 8)) ?_
  refine lv_iconst (v := 4) hx hb dX0_startOfY_7 (by decide) ?_
  refine lv_iadd hx hb dX0_startOfY_8 ?_
  refine ax_i (y := (nI ((8 * (k % 8)) + 4))) (ax_addN (8 * (k % 8)) 4) ?_
  refine W.widen (k := 0) (n := 0) (Nat.le_of_ble_eq_true rfl) (Nat.le_of_ble_eq_true rfl) ?_
  exact W.iret (v := (nI ((8 * (k % 8)) + 4))) hx hb hr (fun t8 ht hW => ⟨⟨(nI ((8 * (k % 8)) + 4)), (), rfl, by rw [show k % 8 = k by omega], trivial⟩, hS.F ht⟩) hS.2.2 dX0_startOfY_9

set_option maxHeartbeats 4000000 in
set_option maxRecDepth 100000 in
theorem c_X0_coefficient (l : Launch) (dC : Nat → ClassId) (dI : Nat → Nat → Nat) (xl xn xm : Nat) (cL : ClassId) (ta : Nat → Nat) (u : Nat → Int64) (g : Nat → Int64) (k : Nat) (wh : Nat) (hk8 : k < 8) (hw8 : wh < 8) : Met l yX0_coefficient wsX0_coefficient ({ frames := 1, cells := 0, slots := 0, locals := 20 }) (va_Pc [.ref xl, .int (nI k), .int (nI wh)] (ax_R (dC, dI) vwCl [(xl, .inr (0, [.ref xn, .ref xm])), (xn, .inl (cL, 64, .inr (.inl u))), (xm, .inl (cL, 64, .inr (.inl g)))] [(cL, .long)] ta)) (va_Ql (fun (r : Int64) (u9 : Unit) => r = (u (8 * k + wh))) (fun _ _ => True) ax_no) 0 0 ax_no := by
  refine Met.ofW (cc := cX0_coefficient) (maxL := 3) (ret := (some .long)) (by decide) rfl ?_
  intro p e s m args below meth c s₁ B hml hv
  obtain ⟨rfl, hP, hK, hE⟩ := hv
  have hx := B.exec
  have hb := B.bytes
  have hr := B.returns
  have hts := atoms_spec (ws := wsX0_coefficient) B.pre
  have hown : s.vm.findClass RX0 = some m.cls := findClass_of_methodNamed B.named
  have hlocks := B.notSynchronized
  have hS : va_S ax_no s.heap s.heap [] := va_S.rf
  have hl := lv_entry ([.ref xl, .int (nI k), .int (nI wh)]) (n := 3) (Nat.le_of_ble_eq_true rfl)
  rw [lg_entry_eq]
  generalize (lg_sl ([.ref xl, .int (nI k), .int (nI wh)]) ++ List.replicate (3 - (lg_sl ([.ref xl, .int (nI k), .int (nI wh)])).length) Slot.unset).toArray = ls at hl ⊢
  have hl : lv_has ls 3 [(0, .ref xl), (1, .int (nI k)), (2, .int (nI wh))] := hl
  have hP : va_P (dC, dI) vwCl [(xl, .inr (0, [.ref xn, .ref xm])), (xn, .inl (cL, 64, .inr (.inl u))), (xm, .inl (cL, 64, .inr (.inl g)))] s.heap := hP
  refine lv_aload_n hx hb dX0_coefficient_0 rfl (lv_at hl 0 rfl) ?_
  refine va_get (D := (dC, dI)) (ci := 0) (v := .ref xn) (C := RX0) (T := TX0) (N := 2) hx hb hts (by decide +kernel) hown hK hP 0 rfl rfl 0 (by decide) (hts (.fieldLink RX0 11 "Diffractory$Light" "now" "[J") (by decide +kernel)) (fun _ h9 => h9) rfl dX0_coefficient_1 ?_
  refine lv_iload_n hx hb dX0_coefficient_4 rfl (lv_at hl 1 rfl) ?_
  refine va_calli (va_runS (As := [.int (nI k)]) (rest := [.ref xn]) ⟨hx, hb, hml, hown, hts⟩ (c_X0_startOfX l k (by omega)) (va_cwS 1 hts gX0_coefficient_X0_startOfX rfl rfl rfl (by decide +kernel) ⟨Nat.le_of_ble_eq_true rfl, Nat.le_of_ble_eq_true rfl⟩) ⟨ax_fbP, ax_prP⟩ rfl rfl hl.1 rfl (lv_room (Nat.le_of_ble_eq_true rfl)) dX0_coefficient_5 ⟨Nat.le_of_ble_eq_true rfl, Nat.le_of_ble_eq_true rfl⟩) hS (fun _ _ h9 => h9.elim) (fun _ h9 => h9.elim) (fun r_1 u_3 t8 H locs ht hvm hw_2 hB hz1 hk1 hS => ?_)
  have hP := ax_keep hP (fun _ h9 => h9) hk1
  have hw_2 : r_1 = (nI (8 * k)) := hw_2
  refine ax_i (y := (nI (8 * k))) hw_2 ?_
  refine lv_iload_n hx hb dX0_coefficient_8 rfl (lv_at hl 2 rfl) ?_
  refine lv_bipush (v := 7) hx hb dX0_coefficient_9 (by decide) ?_
  refine lv_iand hx hb dX0_coefficient_11 ?_
  refine ax_i (y := (nI (wh % 8))) (pk_andN (by omega) 3 rfl) ?_
  refine lv_iadd hx hb dX0_coefficient_12 ?_
  refine ax_i (y := (nI ((8 * k) + (wh % 8)))) (ax_addN (8 * k) (wh % 8)) ?_
  refine va_lald hx hb hK hP 1 0 rfl rfl (ax_in (by omega) (by omega)) dX0_coefficient_13 ?_
  refine ax_l (y := (u ((8 * k) + (wh % 8)))) (by rw [nI_clamp (n := (8 * k) + (wh % 8)) (by omega)]) ?_
  refine W.widen (k := 0) (n := 0) (Nat.le_of_ble_eq_true rfl) (Nat.le_of_ble_eq_true rfl) ?_
  exact W.lret (v := (u ((8 * k) + (wh % 8)))) hx hb hr (fun t8 ht hW => ⟨⟨(u ((8 * k) + (wh % 8))), (), rfl, by rw [show wh % 8 = wh by omega], trivial⟩, hS.F ht⟩) hS.2.2 dX0_coefficient_14

set_option maxHeartbeats 4000000 in
set_option maxRecDepth 100000 in
theorem c_X0_wholeAt (l : Launch) (dC : Nat → ClassId) (dI : Nat → Nat → Nat) (xl xn xm : Nat) (cL : ClassId) (ta : Nat → Nat) (u : Nat → Int64) (g : Nat → Int64) (k : Nat) (hk8 : k < 8) : Met l yX0_wholeAt wsX0_wholeAt ({ frames := 2, cells := 0, slots := 0, locals := 42 }) (va_Pc [.ref xl, .int (nI k)] (ax_R (dC, dI) vwCl [(xl, .inr (0, [.ref xn, .ref xm])), (xn, .inl (cL, 64, .inr (.inl u))), (xm, .inl (cL, 64, .inr (.inl g)))] [(cL, .long)] ta)) (va_Ql (fun (r : Int64) (u9 : Unit) => r = (whR u k 8)) (fun _ _ => True) ax_no) 0 0 ax_no := by
  refine Met.ofW (cc := cX0_wholeAt) (maxL := 7) (ret := (some .long)) (by decide) rfl ?_
  intro p e s m args below meth c s₁ B hml hv
  obtain ⟨rfl, hP, hK, hE⟩ := hv
  have hx := B.exec
  have hb := B.bytes
  have hr := B.returns
  have hts := atoms_spec (ws := wsX0_wholeAt) B.pre
  have hown : s.vm.findClass RX0 = some m.cls := findClass_of_methodNamed B.named
  have hlocks := B.notSynchronized
  have hS : va_S ax_no s.heap s.heap [] := va_S.rf
  have hl := lv_entry ([.ref xl, .int (nI k)]) (n := 7) (Nat.le_of_ble_eq_true rfl)
  rw [lg_entry_eq]
  generalize (lg_sl ([.ref xl, .int (nI k)]) ++ List.replicate (7 - (lg_sl ([.ref xl, .int (nI k)])).length) Slot.unset).toArray = ls at hl ⊢
  have hl : lv_has ls 7 [(0, .ref xl), (1, .int (nI k))] := hl
  have hP : va_P (dC, dI) vwCl [(xl, .inr (0, [.ref xn, .ref xm])), (xn, .inl (cL, 64, .inr (.inl u))), (xm, .inl (cL, 64, .inr (.inl g)))] s.heap := hP
  refine lv_lconst (v := 0) hx hb dX0_wholeAt_0 (by decide) ?_
  refine lv_lstore_n (lv' := [(2, .long 0), (0, .ref xl), (1, .int (nI k))]) hx hb dX0_wholeAt_1 rfl hl (by decide) rfl (fun ls hl => ?_)
  refine lv_iconst (v := 0) hx hb dX0_wholeAt_2 (by decide) ?_
  refine lv_istore (lv' := [(4, .int 0), (2, .long 0), (0, .ref xl), (1, .int (nI k))]) hx hb dX0_wholeAt_3 hl (by decide) rfl (fun ls hl => ?_)
  refine ax_loop (σ := Nat × Int64) (fun z9 H locs ls => (z9.1 ≤ 8) ∧ (z9.2 = whR u k z9.1) ∧ lv_has ls 7 [(4, .int (nI z9.1)), (2, .long z9.2), (0, .ref xl), (1, .int (nI k))] ∧ va_P (dC, dI) vwCl [(xl, .inr (0, [.ref xn, .ref xm])), (xn, .inl (cL, 64, .inr (.inl u))), (xm, .inl (cL, 64, .inr (.inl g)))] H ∧ va_S ax_no s.heap H locs) (fun z9 => 8 - z9.1) (fun z9 H locs ls hI ih => ?_) (0, 0) ⟨by omega, rfl, hl, hP, hS⟩
  obtain ⟨i, sm⟩ := z9
  obtain ⟨hi1, hsm, hl, hP, hS⟩ := hI
  have hi1 : i ≤ 8 := hi1
  have hsm : sm = whR u k i := hsm
  have hl : lv_has ls 7 [(4, .int (nI i)), (2, .long sm), (0, .ref xl), (1, .int (nI k))] := hl
  have hP : va_P (dC, dI) vwCl [(xl, .inr (0, [.ref xn, .ref xm])), (xn, .inl (cL, 64, .inr (.inl u))), (xm, .inl (cL, 64, .inr (.inl g)))] H := hP
  have ih_1 := ih; clear ih
  refine lv_iload hx hb dX0_wholeAt_5 (lv_at hl 0 rfl) ?_
  refine lv_bipush (v := 8) hx hb dX0_wholeAt_7 (by decide) ?_
  refine lv_icmp_ge (tgt := 35) hx hb dX0_wholeAt_9 (by decide) (fun c_2 => ?_) (fun c_2 => ?_)
  · have c_2 : ¬ i < 8 := ax_fgeTN (by omega) (by omega) c_2
    refine lv_lload_n hx hb dX0_wholeAt_35 rfl (lv_at hl 1 rfl) ?_
    refine W.widen (k := 0) (n := 0) (Nat.le_of_ble_eq_true rfl) (Nat.le_of_ble_eq_true rfl) ?_
    exact W.lret (v := sm) hx hb hr (fun t8 ht hW => ⟨⟨sm, (), rfl, by rw [hsm, show i = 8 by omega], trivial⟩, hS.F ht⟩) hS.2.2 dX0_wholeAt_36
  · have c_2 : i < 8 := ax_fgeFN (by omega) (by omega) c_2
    refine lv_aload_n hx hb dX0_wholeAt_12 rfl (lv_at hl 2 rfl) ?_
    refine lv_iload_n hx hb dX0_wholeAt_13 rfl (lv_at hl 3 rfl) ?_
    refine lv_iload hx hb dX0_wholeAt_14 (lv_at hl 0 rfl) ?_
    have hPc := hP.sub (ws' := [(xl, .inr (0, [.ref xn, .ref xm])), (xn, .inl (cL, 64, .inr (.inl u))), (xm, .inl (cL, 64, .inr (.inl g)))]) [0, 1, 2] rfl
    have hKc := hK.sub (tys' := [(cL, .long)]) [0] rfl
    refine va_calll (va_runV (As := [.int (nI k), .int (nI i)]) (rest := []) ⟨hx, hb, hml, hown, hts⟩ (c_X0_coefficient l dC dI xl xn xm cL ta u g k i (by omega) (by omega)) (cwV 2 hts gX0_wholeAt_X0_coefficient rfl rfl rfl (by decide +kernel) ⟨Nat.le_of_ble_eq_true rfl, Nat.le_of_ble_eq_true rfl⟩) ⟨ax_fbR, va_recv hK hP (ci := 0) (q0 := 0) rfl rfl, ax_prR hPc hKc hS hE⟩ rfl rfl hl.1 rfl (lv_room (Nat.le_of_ble_eq_true rfl)) dX0_wholeAt_16 ⟨Nat.le_of_ble_eq_true rfl, Nat.le_of_ble_eq_true rfl⟩) hS (fun _ _ h9 => h9.elim) (fun _ h9 => h9.elim) (fun r_3 u_5 t8 H locs ht hvm hw_4 hB hz1 hk1 hS => ?_)
    have hP := ax_keep hP (fun _ h9 => h9) hk1
    have hw_4 : r_3 = (u (8 * k + i)) := hw_4
    refine ax_l (y := (u (8 * k + i))) hw_4 ?_
    refine lv_lstore (lv' := [(5, .long (u (8 * k + i))), (4, .int (nI i)), (2, .long sm), (0, .ref xl), (1, .int (nI k))]) hx hb dX0_wholeAt_19 hl (by decide) rfl (fun ls hl => ?_)
    refine lv_lload_n hx hb dX0_wholeAt_21 rfl (lv_at hl 2 rfl) ?_
    refine lv_lload hx hb dX0_wholeAt_22 (lv_at hl 0 rfl) ?_
    refine lv_lload hx hb dX0_wholeAt_24 (lv_at hl 0 rfl) ?_
    refine lv_lmul hx hb dX0_wholeAt_26 ?_
    refine lv_ladd hx hb dX0_wholeAt_27 ?_
    refine lv_lstore_n (lv' := [(2, .long (sm + ((u (8 * k + i)) * (u (8 * k + i))))), (5, .long (u (8 * k + i))), (4, .int (nI i)), (0, .ref xl), (1, .int (nI k))]) hx hb dX0_wholeAt_28 rfl hl (by decide) rfl (fun ls hl => ?_)
    refine lv_iinc (v := (nI (i + 1))) (lv' := [(4, .int (nI (i + 1))), (2, .long (sm + ((u (8 * k + i)) * (u (8 * k + i))))), (5, .long (u (8 * k + i))), (0, .ref xl), (1, .int (nI k))]) hx hb dX0_wholeAt_29 hl (k := 2) rfl (nI_succ _).symm (by decide) rfl (fun ls hl => ?_)
    refine lv_goto (tgt := 5) hx hb dX0_wholeAt_32 (by decide) ?_
    have hl : lv_has ls 7 [(4, .int (nI (i + 1))), (2, .long (sm + ((u (8 * k + i)) * (u (8 * k + i))))), (0, .ref xl), (1, .int (nI k))] := lv_sub hl [0, 1, 3, 4] rfl
    exact ih_1 (i + 1, (sm + ((u (8 * k + i)) * (u (8 * k + i))))) H locs ls ⟨by omega, by rw [hsm]; rfl, hl, hP, hS⟩ (show 8 - (i + 1) < 8 - i by omega)

set_option maxHeartbeats 4000000 in
set_option maxRecDepth 100000 in
theorem c_X0_rootFrom (l : Launch) (dC : Nat → ClassId) (dI : Nat → Nat → Nat) (xl xn xm : Nat) (cL : ClassId) (ta : Nat → Nat) (u : Nat → Int64) (g : Nat → Int64) (a : Nat) (h1 : a + 4 ≤ 64) : Met l yX0_rootFrom wsX0_rootFrom ({ frames := 0, cells := 0, slots := 0, locals := 0 }) (va_Pc [.ref xl, .int (nI a)] (ax_R (dC, dI) vwCl [(xl, .inr (0, [.ref xn, .ref xm])), (xn, .inl (cL, 64, .inr (.inl u))), (xm, .inl (cL, 64, .inr (.inl g)))] [(cL, .long)] ta)) (va_Ql (fun (r : Int64) (u9 : Unit) => r = (rf u a)) (fun _ _ => True) ax_no) 0 0 ax_no := by
  refine Met.ofW (cc := cX0_rootFrom) (maxL := 10) (ret := (some .long)) (by decide) rfl ?_
  intro p e s m args below meth c s₁ B hml hv
  obtain ⟨rfl, hP, hK, hE⟩ := hv
  have hx := B.exec
  have hb := B.bytes
  have hr := B.returns
  have hts := atoms_spec (ws := wsX0_rootFrom) B.pre
  have hown : s.vm.findClass RX0 = some m.cls := findClass_of_methodNamed B.named
  have hlocks := B.notSynchronized
  have hS : va_S ax_no s.heap s.heap [] := va_S.rf
  have hl := lv_entry ([.ref xl, .int (nI a)]) (n := 10) (Nat.le_of_ble_eq_true rfl)
  rw [lg_entry_eq]
  generalize (lg_sl ([.ref xl, .int (nI a)]) ++ List.replicate (10 - (lg_sl ([.ref xl, .int (nI a)])).length) Slot.unset).toArray = ls at hl ⊢
  have hl : lv_has ls 10 [(0, .ref xl), (1, .int (nI a))] := hl
  have hP : va_P (dC, dI) vwCl [(xl, .inr (0, [.ref xn, .ref xm])), (xn, .inl (cL, 64, .inr (.inl u))), (xm, .inl (cL, 64, .inr (.inl g)))] s.heap := hP
  refine lv_aload_n hx hb dX0_rootFrom_0 rfl (lv_at hl 0 rfl) ?_
  refine va_get (D := (dC, dI)) (ci := 0) (v := .ref xn) (C := RX0) (T := TX0) (N := 2) hx hb hts (by decide +kernel) hown hK hP 0 rfl rfl 0 (by decide) (hts (.fieldLink RX0 11 "Diffractory$Light" "now" "[J") (by decide +kernel)) (fun _ h9 => h9) rfl dX0_rootFrom_1 ?_
  refine lv_iload_n hx hb dX0_rootFrom_4 rfl (lv_at hl 1 rfl) ?_
  refine va_lald hx hb hK hP 1 0 rfl rfl (ax_in (by omega) (by omega)) dX0_rootFrom_5 ?_
  refine ax_l (y := (u a)) (by rw [nI_clamp (n := a) (by omega)]) ?_
  refine lv_lstore_n (lv' := [(2, .long (u a)), (0, .ref xl), (1, .int (nI a))]) hx hb dX0_rootFrom_6 rfl hl (by decide) rfl (fun ls hl => ?_)
  refine lv_aload_n hx hb dX0_rootFrom_7 rfl (lv_at hl 1 rfl) ?_
  refine va_get (D := (dC, dI)) (ci := 0) (v := .ref xn) (C := RX0) (T := TX0) (N := 2) hx hb hts (by decide +kernel) hown hK hP 0 rfl rfl 0 (by decide) (hts (.fieldLink RX0 11 "Diffractory$Light" "now" "[J") (by decide +kernel)) (fun _ h9 => h9) rfl dX0_rootFrom_8 ?_
  refine lv_iload_n hx hb dX0_rootFrom_11 rfl (lv_at hl 2 rfl) ?_
  refine lv_iconst (v := 1) hx hb dX0_rootFrom_12 (by decide) ?_
  refine lv_iadd hx hb dX0_rootFrom_13 ?_
  refine ax_i (y := (nI (a + 1))) (ax_addN a 1) ?_
  refine va_lald hx hb hK hP 1 0 rfl rfl (ax_in (by omega) (by omega)) dX0_rootFrom_14 ?_
  refine ax_l (y := (u (a + 1))) (by rw [nI_clamp (n := a + 1) (by omega)]) ?_
  refine lv_lstore (lv' := [(4, .long (u (a + 1))), (2, .long (u a)), (0, .ref xl), (1, .int (nI a))]) hx hb dX0_rootFrom_15 hl (by decide) rfl (fun ls hl => ?_)
  refine lv_aload_n hx hb dX0_rootFrom_17 rfl (lv_at hl 2 rfl) ?_
  refine va_get (D := (dC, dI)) (ci := 0) (v := .ref xn) (C := RX0) (T := TX0) (N := 2) hx hb hts (by decide +kernel) hown hK hP 0 rfl rfl 0 (by decide) (hts (.fieldLink RX0 11 "Diffractory$Light" "now" "[J") (by decide +kernel)) (fun _ h9 => h9) rfl dX0_rootFrom_18 ?_
  refine lv_iload_n hx hb dX0_rootFrom_21 rfl (lv_at hl 3 rfl) ?_
  refine lv_iconst (v := 2) hx hb dX0_rootFrom_22 (by decide) ?_
  refine lv_iadd hx hb dX0_rootFrom_23 ?_
  refine ax_i (y := (nI (a + 2))) (ax_addN a 2) ?_
  refine va_lald hx hb hK hP 1 0 rfl rfl (ax_in (by omega) (by omega)) dX0_rootFrom_24 ?_
  refine ax_l (y := (u (a + 2))) (by rw [nI_clamp (n := a + 2) (by omega)]) ?_
  refine lv_lstore (lv' := [(6, .long (u (a + 2))), (4, .long (u (a + 1))), (2, .long (u a)), (0, .ref xl), (1, .int (nI a))]) hx hb dX0_rootFrom_25 hl (by decide) rfl (fun ls hl => ?_)
  refine lv_aload_n hx hb dX0_rootFrom_27 rfl (lv_at hl 3 rfl) ?_
  refine va_get (D := (dC, dI)) (ci := 0) (v := .ref xn) (C := RX0) (T := TX0) (N := 2) hx hb hts (by decide +kernel) hown hK hP 0 rfl rfl 0 (by decide) (hts (.fieldLink RX0 11 "Diffractory$Light" "now" "[J") (by decide +kernel)) (fun _ h9 => h9) rfl dX0_rootFrom_28 ?_
  refine lv_iload_n hx hb dX0_rootFrom_31 rfl (lv_at hl 4 rfl) ?_
  refine lv_iconst (v := 3) hx hb dX0_rootFrom_32 (by decide) ?_
  refine lv_iadd hx hb dX0_rootFrom_33 ?_
  refine ax_i (y := (nI (a + 3))) (ax_addN a 3) ?_
  refine va_lald hx hb hK hP 1 0 rfl rfl (ax_in (by omega) (by omega)) dX0_rootFrom_34 ?_
  refine ax_l (y := (u (a + 3))) (by rw [nI_clamp (n := a + 3) (by omega)]) ?_
  refine lv_lstore (lv' := [(8, .long (u (a + 3))), (6, .long (u (a + 2))), (4, .long (u (a + 1))), (2, .long (u a)), (0, .ref xl), (1, .int (nI a))]) hx hb dX0_rootFrom_35 hl (by decide) rfl (fun ls hl => ?_)
  refine lv_lload_n hx hb dX0_rootFrom_37 rfl (lv_at hl 3 rfl) ?_
  refine lv_lload hx hb dX0_rootFrom_38 (lv_at hl 2 rfl) ?_
  refine lv_lmul hx hb dX0_rootFrom_40 ?_
  refine lv_lload hx hb dX0_rootFrom_41 (lv_at hl 2 rfl) ?_
  refine lv_lload hx hb dX0_rootFrom_43 (lv_at hl 1 rfl) ?_
  refine lv_lmul hx hb dX0_rootFrom_45 ?_
  refine lv_ladd hx hb dX0_rootFrom_46 ?_
  refine lv_lload hx hb dX0_rootFrom_47 (lv_at hl 1 rfl) ?_
  refine lv_lload hx hb dX0_rootFrom_49 (lv_at hl 0 rfl) ?_
  refine lv_lmul hx hb dX0_rootFrom_51 ?_
  refine lv_ladd hx hb dX0_rootFrom_52 ?_
  refine lv_lload hx hb dX0_rootFrom_53 (lv_at hl 0 rfl) ?_
  refine lv_lload_n hx hb dX0_rootFrom_55 rfl (lv_at hl 3 rfl) ?_
  refine lv_lmul hx hb dX0_rootFrom_56 ?_
  refine lv_lsub hx hb dX0_rootFrom_57 ?_
  refine W.widen (k := 0) (n := 0) (Nat.le_of_ble_eq_true rfl) (Nat.le_of_ble_eq_true rfl) ?_
  exact W.lret (v := (((((u a) * (u (a + 1))) + ((u (a + 1)) * (u (a + 2)))) + ((u (a + 2)) * (u (a + 3)))) - ((u (a + 3)) * (u a)))) hx hb hr (fun t8 ht hW => ⟨⟨(((((u a) * (u (a + 1))) + ((u (a + 1)) * (u (a + 2)))) + ((u (a + 2)) * (u (a + 3)))) - ((u (a + 3)) * (u a))), (), rfl, rfl, trivial⟩, hS.F ht⟩) hS.2.2 dX0_rootFrom_58

set_option maxHeartbeats 4000000 in
set_option maxRecDepth 100000 in
theorem c_X0_rootAt (l : Launch) (dC : Nat → ClassId) (dI : Nat → Nat → Nat) (xl xn xm : Nat) (cL : ClassId) (ta : Nat → Nat) (u : Nat → Int64) (g : Nat → Int64) (k : Nat) (hk8 : k < 8) : Met l yX0_rootAt wsX0_rootAt ({ frames := 1, cells := 0, slots := 0, locals := 29 }) (va_Pc [.ref xl, .int (nI k)] (ax_R (dC, dI) vwCl [(xl, .inr (0, [.ref xn, .ref xm])), (xn, .inl (cL, 64, .inr (.inl u))), (xm, .inl (cL, 64, .inr (.inl g)))] [(cL, .long)] ta)) (va_Ql (fun (r : Int64) (u9 : Unit) => r = (rtt u k)) (fun _ _ => True) ax_no) 0 0 ax_no := by
  refine Met.ofW (cc := cX0_rootAt) (maxL := 2) (ret := (some .long)) (by decide) rfl ?_
  intro p e s m args below meth c s₁ B hml hv
  obtain ⟨rfl, hP, hK, hE⟩ := hv
  have hx := B.exec
  have hb := B.bytes
  have hr := B.returns
  have hts := atoms_spec (ws := wsX0_rootAt) B.pre
  have hown : s.vm.findClass RX0 = some m.cls := findClass_of_methodNamed B.named
  have hlocks := B.notSynchronized
  have hS : va_S ax_no s.heap s.heap [] := va_S.rf
  have hl := lv_entry ([.ref xl, .int (nI k)]) (n := 2) (Nat.le_of_ble_eq_true rfl)
  rw [lg_entry_eq]
  generalize (lg_sl ([.ref xl, .int (nI k)]) ++ List.replicate (2 - (lg_sl ([.ref xl, .int (nI k)])).length) Slot.unset).toArray = ls at hl ⊢
  have hl : lv_has ls 2 [(0, .ref xl), (1, .int (nI k))] := hl
  have hP : va_P (dC, dI) vwCl [(xl, .inr (0, [.ref xn, .ref xm])), (xn, .inl (cL, 64, .inr (.inl u))), (xm, .inl (cL, 64, .inr (.inl g)))] s.heap := hP
  refine lv_aload_n hx hb dX0_rootAt_0 rfl (lv_at hl 0 rfl) ?_
  refine lv_iload_n hx hb dX0_rootAt_1 rfl (lv_at hl 1 rfl) ?_
  refine va_calli (va_runS (As := [.int (nI k)]) (rest := [.ref xl]) ⟨hx, hb, hml, hown, hts⟩ (c_X0_startOfX l k (by omega)) (va_cwS 1 hts gX0_rootAt_X0_startOfX rfl rfl rfl (by decide +kernel) ⟨Nat.le_of_ble_eq_true rfl, Nat.le_of_ble_eq_true rfl⟩) ⟨ax_fbP, ax_prP⟩ rfl rfl hl.1 rfl (lv_room (Nat.le_of_ble_eq_true rfl)) dX0_rootAt_2 ⟨Nat.le_of_ble_eq_true rfl, Nat.le_of_ble_eq_true rfl⟩) hS (fun _ _ h9 => h9.elim) (fun _ h9 => h9.elim) (fun r_1 u_3 t8 H locs ht hvm hw_2 hB hz1 hk1 hS => ?_)
  have hP := ax_keep hP (fun _ h9 => h9) hk1
  have hw_2 : r_1 = (nI (8 * k)) := hw_2
  refine ax_i (y := (nI (8 * k))) hw_2 ?_
  have hPc := hP.sub (ws' := [(xl, .inr (0, [.ref xn, .ref xm])), (xn, .inl (cL, 64, .inr (.inl u))), (xm, .inl (cL, 64, .inr (.inl g)))]) [0, 1, 2] rfl
  have hKc := hK.sub (tys' := [(cL, .long)]) [0] rfl
  refine va_calll (va_runV (As := [.int (nI (8 * k))]) (rest := []) ⟨hx, hb, hml, hown, hts⟩ (c_X0_rootFrom l dC dI xl xn xm cL ta u g (8 * k) (by omega)) (cwV 1 hts gX0_rootAt_X0_rootFrom rfl rfl rfl (by decide +kernel) ⟨Nat.le_of_ble_eq_true rfl, Nat.le_of_ble_eq_true rfl⟩) ⟨ax_fbR, va_recv hK hP (ci := 0) (q0 := 0) rfl rfl, ax_prR hPc hKc hS hE⟩ rfl rfl hl.1 rfl (lv_room (Nat.le_of_ble_eq_true rfl)) dX0_rootAt_5 ⟨Nat.le_of_ble_eq_true rfl, Nat.le_of_ble_eq_true rfl⟩) hS (fun _ _ h9 => h9.elim) (fun _ h9 => h9.elim) (fun r_4 u_6 t8 H locs ht hvm hw_5 hB hz1 hk1 hS => ?_)
  have hP := ax_keep hP (fun _ h9 => h9) hk1
  have hw_5 : r_4 = (rf u (8 * k)) := hw_5
  refine ax_l (y := (rf u (8 * k))) hw_5 ?_
  refine lv_aload_n hx hb dX0_rootAt_8 rfl (lv_at hl 0 rfl) ?_
  refine lv_iload_n hx hb dX0_rootAt_9 rfl (lv_at hl 1 rfl) ?_
  refine va_calli (va_runS (As := [.int (nI k)]) (rest := [.ref xl, .long (rf u (8 * k))]) ⟨hx, hb, hml, hown, hts⟩ (c_X0_startOfY l k (by omega)) (va_cwS 1 hts gX0_rootAt_X0_startOfY rfl rfl rfl (by decide +kernel) ⟨Nat.le_of_ble_eq_true rfl, Nat.le_of_ble_eq_true rfl⟩) ⟨ax_fbP, ax_prP⟩ rfl rfl hl.1 rfl (lv_room (Nat.le_of_ble_eq_true rfl)) dX0_rootAt_10 ⟨Nat.le_of_ble_eq_true rfl, Nat.le_of_ble_eq_true rfl⟩) hS (fun _ _ h9 => h9.elim) (fun _ h9 => h9.elim) (fun r_7 u_9 t8 H locs ht hvm hw_8 hB hz1 hk1 hS => ?_)
  have hP := ax_keep hP (fun _ h9 => h9) hk1
  have hw_8 : r_7 = (nI (8 * k + 4)) := hw_8
  refine ax_i (y := (nI (8 * k + 4))) hw_8 ?_
  have hPc := hP.sub (ws' := [(xl, .inr (0, [.ref xn, .ref xm])), (xn, .inl (cL, 64, .inr (.inl u))), (xm, .inl (cL, 64, .inr (.inl g)))]) [0, 1, 2] rfl
  have hKc := hK.sub (tys' := [(cL, .long)]) [0] rfl
  refine va_calll (va_runV (As := [.int (nI (8 * k + 4))]) (rest := [.long (rf u (8 * k))]) ⟨hx, hb, hml, hown, hts⟩ (c_X0_rootFrom l dC dI xl xn xm cL ta u g (8 * k + 4) (by omega)) (cwV 1 hts gX0_rootAt_X0_rootFrom rfl rfl rfl (by decide +kernel) ⟨Nat.le_of_ble_eq_true rfl, Nat.le_of_ble_eq_true rfl⟩) ⟨ax_fbR, va_recv hK hP (ci := 0) (q0 := 0) rfl rfl, ax_prR hPc hKc hS hE⟩ rfl rfl hl.1 rfl (lv_room (Nat.le_of_ble_eq_true rfl)) dX0_rootAt_13 ⟨Nat.le_of_ble_eq_true rfl, Nat.le_of_ble_eq_true rfl⟩) hS (fun _ _ h9 => h9.elim) (fun _ h9 => h9.elim) (fun r_10 u_12 t8 H locs ht hvm hw_11 hB hz1 hk1 hS => ?_)
  have hP := ax_keep hP (fun _ h9 => h9) hk1
  have hw_11 : r_10 = (rf u (8 * k + 4)) := hw_11
  refine ax_l (y := (rf u (8 * k + 4))) hw_11 ?_
  refine lv_ladd hx hb dX0_rootAt_16 ?_
  refine W.widen (k := 0) (n := 0) (Nat.le_of_ble_eq_true rfl) (Nat.le_of_ble_eq_true rfl) ?_
  exact W.lret (v := ((rf u (8 * k)) + (rf u (8 * k + 4)))) hx hb hr (fun t8 ht hW => ⟨⟨((rf u (8 * k)) + (rf u (8 * k + 4))), (), rfl, rfl, trivial⟩, hS.F ht⟩) hS.2.2 dX0_rootAt_17

theorem ax_ad {a b r : Nat} {fc : Int32} {u g g1 : Nat → Int64} (h : ∀ j, (b ≤ j ∧ j < b + 4 → g1 j = g j + rt r (fun i => fc.toInt64 * u (a + i)) (j - b)) ∧ (¬ (b ≤ j ∧ j < b + 4) → g1 j = g j)) : g1 = ad a b r fc u g := by
  funext j
  unfold ad
  by_cases q : b ≤ j ∧ j < b + 4
  · rw [if_pos q, (h j).1 q]
  · rw [if_neg q, (h j).2 q]

set_option maxHeartbeats 4000000 in
set_option maxRecDepth 100000 in
theorem c_X0_add_0 (l : Launch) (dC : Nat → ClassId) (dI : Nat → Nat → Nat) (xl xn xm : Nat) (cL : ClassId) (ta : Nat → Nat) (sz : Nat) (u : Nat → Int64) (g : Nat → Int64) (a : Nat) (b : Nat) (tn : Int32) (fac : Int32) (h1 : a + 4 ≤ 64) (h2 : b + 4 ≤ 64) (h3 : tn &&& 7 = nI 0) : Met l yX0_add wsX0_add ({ frames := 0, cells := 0, slots := 0, locals := 0 }) (va_Pc [.ref xl, .int (nI a), .int (nI b), .int tn, .int fac] (ax_W (dC, dI) vwCl [(xl, .inr (0, [.ref xn, .ref xm])), (xn, .inl (cL, 64, .inr (.inl u))), (xm, .inl (cL, 64, .inr (.inl g)))] [(cL, .long)] ta sz)) (va_Qv (fun (u9 : Unit) => True) (fun (u9 : Unit) (t9 : State) => va_P (dC, dI) vwCl [(xl, .inr (0, [.ref xn, .ref xm])), (xn, .inl (cL, 64, .inr (.inl u))), (xm, .inl (cL, 64, .inr (.inl (ad a b 0 fac u g))))] t9.heap ∧ va_K (dC, dI) vwCl [(cL, .long)] t9 ∧ va_D (va_A [(xl, .inr (0, [.ref xn, .ref xm])), (xn, .inl (cL, 64, .inr (.inl u))), (xm, .inl (cL, 64, .inr (.inl g)))] sz) [(xl, .inr (0, [.ref xn, .ref xm])), (xn, .inl (cL, 64, .inr (.inl u))), (xm, .inl (cL, 64, .inr (.inl (ad a b 0 fac u g))))]) (va_A [(xl, .inr (0, [.ref xn, .ref xm])), (xn, .inl (cL, 64, .inr (.inl u))), (xm, .inl (cL, 64, .inr (.inl g)))] sz)) 0 0 (va_A [(xl, .inr (0, [.ref xn, .ref xm])), (xn, .inl (cL, 64, .inr (.inl u))), (xm, .inl (cL, 64, .inr (.inl g)))] sz) := by
  refine Met.ofW (cc := cX0_add) (maxL := 10) (ret := none) (by decide) rfl ?_
  intro p e s m args below meth c s₁ B hml hv
  obtain ⟨rfl, hsz, hP, hK, hD0, hE⟩ := hv
  have hx := B.exec
  have hb := B.bytes
  have hr := B.returns
  have hts := atoms_spec (ws := wsX0_add) B.pre
  have hown : s.vm.findClass RX0 = some m.cls := findClass_of_methodNamed B.named
  have hlocks := B.notSynchronized
  subst hsz
  have hD := hD0.self (sz := s.heap.size)
  generalize hAe : va_A [(xl, .inr (0, [.ref xn, .ref xm])), (xn, .inl (cL, 64, .inr (.inl u))), (xm, .inl (cL, 64, .inr (.inl g)))] s.heap.size = A at hD hE ⊢
  have hA : ∀ q : Nat, s.heap.size ≤ q → A q := fun q h => by rw [← hAe]; exact Or.inr h
  have hS : va_S A s.heap s.heap [] := va_S.rf
  have hl := lv_entry ([.ref xl, .int (nI a), .int (nI b), .int tn, .int fac]) (n := 10) (Nat.le_of_ble_eq_true rfl)
  rw [lg_entry_eq]
  generalize (lg_sl ([.ref xl, .int (nI a), .int (nI b), .int tn, .int fac]) ++ List.replicate (10 - (lg_sl ([.ref xl, .int (nI a), .int (nI b), .int tn, .int fac])).length) Slot.unset).toArray = ls at hl ⊢
  have hl : lv_has ls 10 [(0, .ref xl), (1, .int (nI a)), (2, .int (nI b)), (3, .int tn), (4, .int fac)] := hl
  have hP : va_P (dC, dI) vwCl [(xl, .inr (0, [.ref xn, .ref xm])), (xn, .inl (cL, 64, .inr (.inl u))), (xm, .inl (cL, 64, .inr (.inl g)))] s.heap := hP
  refine lv_iconst (v := 0) hx hb dX0_add_0 (by decide) ?_
  refine lv_istore (lv' := [(5, .int 0), (0, .ref xl), (1, .int (nI a)), (2, .int (nI b)), (3, .int tn), (4, .int fac)]) hx hb dX0_add_1 hl (by decide) rfl (fun ls hl => ?_)
  refine lv_iload hx hb dX0_add_3 (lv_at hl 0 rfl) ?_
  refine lv_iconst (v := 4) hx hb dX0_add_5 (by decide) ?_
  refine lv_icmp_ge (tgt := 80) hx hb dX0_add_6 (by decide) (fun h9 => absurd h9 (by decide)) (fun _ => ?_)
  refine lv_iload hx hb dX0_add_9 (lv_at hl 0 rfl) ?_
  refine lv_iload_n hx hb dX0_add_11 rfl (lv_at hl 4 rfl) ?_
  refine lv_bipush (v := 7) hx hb dX0_add_12 (by decide) ?_
  refine lv_iand hx hb dX0_add_14 ?_
  refine ax_i (y := 0) h3 ?_
  refine lv_iadd hx hb dX0_add_15 ?_
  refine ax_i (y := 0) (by decide) ?_
  refine lv_istore (lv' := [(6, .int 0), (5, .int 0), (0, .ref xl), (1, .int (nI a)), (2, .int (nI b)), (3, .int tn), (4, .int fac)]) hx hb dX0_add_16 hl (by decide) rfl (fun ls hl => ?_)
  refine lv_iload hx hb dX0_add_18 (lv_at hl 6 rfl) ?_
  refine lv_i2l (v := fac.toInt64) hx hb dX0_add_20 rfl ?_
  refine lv_aload_n hx hb dX0_add_21 rfl (lv_at hl 2 rfl) ?_
  refine va_get (D := (dC, dI)) (ci := 0) (v := .ref xn) (C := RX0) (T := TX0) (N := 2) hx hb hts (by decide +kernel) hown hK hP 0 rfl rfl 0 (by decide) (hts (.fieldLink RX0 11 "Diffractory$Light" "now" "[J") (by decide +kernel)) (fun _ h9 => h9) rfl dX0_add_22 ?_
  refine lv_iload_n hx hb dX0_add_25 rfl (lv_at hl 3 rfl) ?_
  refine lv_iload hx hb dX0_add_26 (lv_at hl 1 rfl) ?_
  refine lv_iadd hx hb dX0_add_28 ?_
  refine ax_i (y := (nI (a + 0))) (ax_addN a 0) ?_
  refine va_lald hx hb hK hP 1 0 rfl rfl (ax_in (by omega) (by omega)) dX0_add_29 ?_
  refine ax_l (y := (u (a + 0))) (by rw [nI_clamp (n := a + 0) (by omega)]) ?_
  refine lv_lmul hx hb dX0_add_30 ?_
  refine lv_lstore (lv' := [(7, .long (fac.toInt64 * (u (a + 0)))), (6, .int 0), (5, .int 0), (0, .ref xl), (1, .int (nI a)), (2, .int (nI b)), (3, .int tn), (4, .int fac)]) hx hb dX0_add_31 hl (by decide) rfl (fun ls hl => ?_)
  refine lv_iload hx hb dX0_add_33 (lv_at hl 1 rfl) ?_
  refine lv_iconst (v := 4) hx hb dX0_add_35 (by decide) ?_
  refine lv_iand hx hb dX0_add_36 ?_
  refine ax_i (y := 0) (by decide) ?_
  refine lv_if_eq (tgt := 44) hx hb dX0_add_37 (by decide) (fun _ => ?_) (fun h9 => absurd (by decide) h9)
  refine lv_iconst (v := 0) hx hb dX0_add_44 (by decide) ?_
  refine lv_istore (lv' := [(9, .int 0), (7, .long (fac.toInt64 * (u (a + 0)))), (6, .int 0), (5, .int 0), (0, .ref xl), (1, .int (nI a)), (2, .int (nI b)), (3, .int tn), (4, .int fac)]) hx hb dX0_add_45 hl (by decide) rfl (fun ls hl => ?_)
  refine lv_aload_n hx hb dX0_add_47 rfl (lv_at hl 4 rfl) ?_
  refine va_get (D := (dC, dI)) (ci := 0) (v := .ref xm) (C := RX0) (T := TX0) (N := 2) hx hb hts (by decide +kernel) hown hK hP 0 rfl rfl 1 (by decide) (hts (.fieldLink RX0 15 "Diffractory$Light" "next" "[J") (by decide +kernel)) (fun _ h9 => h9) rfl dX0_add_48 ?_
  refine lv_iload_n hx hb dX0_add_51 rfl (lv_at hl 6 rfl) ?_
  refine lv_iload hx hb dX0_add_52 (lv_at hl 2 rfl) ?_
  refine lv_iconst (v := 3) hx hb dX0_add_54 (by decide) ?_
  refine lv_iand hx hb dX0_add_55 ?_
  refine ax_i (y := 0) (by decide) ?_
  refine lv_iadd hx hb dX0_add_56 ?_
  refine ax_i (y := (nI (b + 0))) (ax_addN b 0) ?_
  refine lv_dup2_11 hx hb dX0_add_57 rfl rfl ?_
  refine va_lald hx hb hK hP 2 0 rfl rfl (ax_in (by omega) (by omega)) dX0_add_58 ?_
  refine ax_l (y := (g (b + 0))) (by rw [nI_clamp (n := b + 0) (by omega)]) ?_
  refine lv_iload hx hb dX0_add_59 (lv_at hl 0 rfl) ?_
  refine lv_if_eq (tgt := 70) hx hb dX0_add_61 (by decide) (fun _ => ?_) (fun h9 => absurd (by decide) h9)
  refine lv_lload hx hb dX0_add_70 (lv_at hl 1 rfl) ?_
  refine lv_ladd hx hb dX0_add_72 ?_
  refine va_last hx hb hK hP hD hS 2 0 rfl rfl (ax_in (by omega) (by omega)) dX0_add_73 (fun H locs hP hD hS => ?_)
  rw [nI_clamp (n := b + 0) (by omega)] at hP hD
  have hP : va_P (dC, dI) vwCl [(xl, .inr (0, [.ref xn, .ref xm])), (xn, .inl (cL, 64, .inr (.inl u))), (xm, .inl (cL, 64, .inr (.inl (vp_updL g (b + 0) ((g (b + 0)) + (fac.toInt64 * (u (a + 0))))))))] H := hP
  have hD : va_D A [(xl, .inr (0, [.ref xn, .ref xm])), (xn, .inl (cL, 64, .inr (.inl u))), (xm, .inl (cL, 64, .inr (.inl (vp_updL g (b + 0) ((g (b + 0)) + (fac.toInt64 * (u (a + 0))))))))] := hD
  refine lv_iinc (v := 1) (lv' := [(5, .int 1), (9, .int 0), (7, .long (fac.toInt64 * (u (a + 0)))), (6, .int 0), (0, .ref xl), (1, .int (nI a)), (2, .int (nI b)), (3, .int tn), (4, .int fac)]) hx hb dX0_add_74 hl (k := 3) rfl (by decide) (by decide) rfl (fun ls hl => ?_)
  refine lv_goto (tgt := 3) hx hb dX0_add_77 (by decide) ?_
  refine lv_iload hx hb dX0_add_3 (lv_at hl 0 rfl) ?_
  refine lv_iconst (v := 4) hx hb dX0_add_5 (by decide) ?_
  refine lv_icmp_ge (tgt := 80) hx hb dX0_add_6 (by decide) (fun h9 => absurd h9 (by decide)) (fun _ => ?_)
  refine lv_iload hx hb dX0_add_9 (lv_at hl 0 rfl) ?_
  refine lv_iload_n hx hb dX0_add_11 rfl (lv_at hl 7 rfl) ?_
  refine lv_bipush (v := 7) hx hb dX0_add_12 (by decide) ?_
  refine lv_iand hx hb dX0_add_14 ?_
  refine ax_i (y := 0) h3 ?_
  refine lv_iadd hx hb dX0_add_15 ?_
  refine ax_i (y := 1) (by decide) ?_
  refine lv_istore (lv' := [(6, .int 1), (5, .int 1), (9, .int 0), (7, .long (fac.toInt64 * (u (a + 0)))), (0, .ref xl), (1, .int (nI a)), (2, .int (nI b)), (3, .int tn), (4, .int fac)]) hx hb dX0_add_16 hl (by decide) rfl (fun ls hl => ?_)
  refine lv_iload hx hb dX0_add_18 (lv_at hl 8 rfl) ?_
  refine lv_i2l (v := fac.toInt64) hx hb dX0_add_20 rfl ?_
  refine lv_aload_n hx hb dX0_add_21 rfl (lv_at hl 4 rfl) ?_
  refine va_get (D := (dC, dI)) (ci := 0) (v := .ref xn) (C := RX0) (T := TX0) (N := 2) hx hb hts (by decide +kernel) hown hK hP 0 rfl rfl 0 (by decide) (hts (.fieldLink RX0 11 "Diffractory$Light" "now" "[J") (by decide +kernel)) (fun _ h9 => h9) rfl dX0_add_22 ?_
  refine lv_iload_n hx hb dX0_add_25 rfl (lv_at hl 5 rfl) ?_
  refine lv_iload hx hb dX0_add_26 (lv_at hl 1 rfl) ?_
  refine lv_iadd hx hb dX0_add_28 ?_
  refine ax_i (y := (nI (a + 1))) (ax_addN a 1) ?_
  refine va_lald hx hb hK hP 1 0 rfl rfl (ax_in (by omega) (by omega)) dX0_add_29 ?_
  refine ax_l (y := (u (a + 1))) (by rw [nI_clamp (n := a + 1) (by omega)]) ?_
  refine lv_lmul hx hb dX0_add_30 ?_
  refine lv_lstore (lv' := [(7, .long (fac.toInt64 * (u (a + 1)))), (6, .int 1), (5, .int 1), (9, .int 0), (0, .ref xl), (1, .int (nI a)), (2, .int (nI b)), (3, .int tn), (4, .int fac)]) hx hb dX0_add_31 hl (by decide) rfl (fun ls hl => ?_)
  refine lv_iload hx hb dX0_add_33 (lv_at hl 1 rfl) ?_
  refine lv_iconst (v := 4) hx hb dX0_add_35 (by decide) ?_
  refine lv_iand hx hb dX0_add_36 ?_
  refine ax_i (y := 0) (by decide) ?_
  refine lv_if_eq (tgt := 44) hx hb dX0_add_37 (by decide) (fun _ => ?_) (fun h9 => absurd (by decide) h9)
  refine lv_iconst (v := 0) hx hb dX0_add_44 (by decide) ?_
  refine lv_istore (lv' := [(9, .int 0), (7, .long (fac.toInt64 * (u (a + 1)))), (6, .int 1), (5, .int 1), (0, .ref xl), (1, .int (nI a)), (2, .int (nI b)), (3, .int tn), (4, .int fac)]) hx hb dX0_add_45 hl (by decide) rfl (fun ls hl => ?_)
  refine lv_aload_n hx hb dX0_add_47 rfl (lv_at hl 4 rfl) ?_
  refine va_get (D := (dC, dI)) (ci := 0) (v := .ref xm) (C := RX0) (T := TX0) (N := 2) hx hb hts (by decide +kernel) hown hK hP 0 rfl rfl 1 (by decide) (hts (.fieldLink RX0 15 "Diffractory$Light" "next" "[J") (by decide +kernel)) (fun _ h9 => h9) rfl dX0_add_48 ?_
  refine lv_iload_n hx hb dX0_add_51 rfl (lv_at hl 6 rfl) ?_
  refine lv_iload hx hb dX0_add_52 (lv_at hl 2 rfl) ?_
  refine lv_iconst (v := 3) hx hb dX0_add_54 (by decide) ?_
  refine lv_iand hx hb dX0_add_55 ?_
  refine ax_i (y := 1) (by decide) ?_
  refine lv_iadd hx hb dX0_add_56 ?_
  refine ax_i (y := (nI (b + 1))) (ax_addN b 1) ?_
  refine lv_dup2_11 hx hb dX0_add_57 rfl rfl ?_
  refine va_lald hx hb hK hP 2 0 rfl rfl (ax_in (by omega) (by omega)) dX0_add_58 ?_
  refine ax_l (y := ((vp_updL g (b + 0) ((g (b + 0)) + (fac.toInt64 * (u (a + 0))))) (b + 1))) (by rw [nI_clamp (n := b + 1) (by omega)]) ?_
  refine lv_iload hx hb dX0_add_59 (lv_at hl 0 rfl) ?_
  refine lv_if_eq (tgt := 70) hx hb dX0_add_61 (by decide) (fun _ => ?_) (fun h9 => absurd (by decide) h9)
  refine lv_lload hx hb dX0_add_70 (lv_at hl 1 rfl) ?_
  refine lv_ladd hx hb dX0_add_72 ?_
  refine va_last hx hb hK hP hD hS 2 0 rfl rfl (ax_in (by omega) (by omega)) dX0_add_73 (fun H locs hP hD hS => ?_)
  rw [nI_clamp (n := b + 1) (by omega)] at hP hD
  have hP : va_P (dC, dI) vwCl [(xl, .inr (0, [.ref xn, .ref xm])), (xn, .inl (cL, 64, .inr (.inl u))), (xm, .inl (cL, 64, .inr (.inl (vp_updL (vp_updL g (b + 0) ((g (b + 0)) + (fac.toInt64 * (u (a + 0))))) (b + 1) (((vp_updL g (b + 0) ((g (b + 0)) + (fac.toInt64 * (u (a + 0))))) (b + 1)) + (fac.toInt64 * (u (a + 1))))))))] H := hP
  have hD : va_D A [(xl, .inr (0, [.ref xn, .ref xm])), (xn, .inl (cL, 64, .inr (.inl u))), (xm, .inl (cL, 64, .inr (.inl (vp_updL (vp_updL g (b + 0) ((g (b + 0)) + (fac.toInt64 * (u (a + 0))))) (b + 1) (((vp_updL g (b + 0) ((g (b + 0)) + (fac.toInt64 * (u (a + 0))))) (b + 1)) + (fac.toInt64 * (u (a + 1))))))))] := hD
  refine lv_iinc (v := 2) (lv' := [(5, .int 2), (9, .int 0), (7, .long (fac.toInt64 * (u (a + 1)))), (6, .int 1), (0, .ref xl), (1, .int (nI a)), (2, .int (nI b)), (3, .int tn), (4, .int fac)]) hx hb dX0_add_74 hl (k := 3) rfl (by decide) (by decide) rfl (fun ls hl => ?_)
  refine lv_goto (tgt := 3) hx hb dX0_add_77 (by decide) ?_
  refine lv_iload hx hb dX0_add_3 (lv_at hl 0 rfl) ?_
  refine lv_iconst (v := 4) hx hb dX0_add_5 (by decide) ?_
  refine lv_icmp_ge (tgt := 80) hx hb dX0_add_6 (by decide) (fun h9 => absurd h9 (by decide)) (fun _ => ?_)
  refine lv_iload hx hb dX0_add_9 (lv_at hl 0 rfl) ?_
  refine lv_iload_n hx hb dX0_add_11 rfl (lv_at hl 7 rfl) ?_
  refine lv_bipush (v := 7) hx hb dX0_add_12 (by decide) ?_
  refine lv_iand hx hb dX0_add_14 ?_
  refine ax_i (y := 0) h3 ?_
  refine lv_iadd hx hb dX0_add_15 ?_
  refine ax_i (y := 2) (by decide) ?_
  refine lv_istore (lv' := [(6, .int 2), (5, .int 2), (9, .int 0), (7, .long (fac.toInt64 * (u (a + 1)))), (0, .ref xl), (1, .int (nI a)), (2, .int (nI b)), (3, .int tn), (4, .int fac)]) hx hb dX0_add_16 hl (by decide) rfl (fun ls hl => ?_)
  refine lv_iload hx hb dX0_add_18 (lv_at hl 8 rfl) ?_
  refine lv_i2l (v := fac.toInt64) hx hb dX0_add_20 rfl ?_
  refine lv_aload_n hx hb dX0_add_21 rfl (lv_at hl 4 rfl) ?_
  refine va_get (D := (dC, dI)) (ci := 0) (v := .ref xn) (C := RX0) (T := TX0) (N := 2) hx hb hts (by decide +kernel) hown hK hP 0 rfl rfl 0 (by decide) (hts (.fieldLink RX0 11 "Diffractory$Light" "now" "[J") (by decide +kernel)) (fun _ h9 => h9) rfl dX0_add_22 ?_
  refine lv_iload_n hx hb dX0_add_25 rfl (lv_at hl 5 rfl) ?_
  refine lv_iload hx hb dX0_add_26 (lv_at hl 1 rfl) ?_
  refine lv_iadd hx hb dX0_add_28 ?_
  refine ax_i (y := (nI (a + 2))) (ax_addN a 2) ?_
  refine va_lald hx hb hK hP 1 0 rfl rfl (ax_in (by omega) (by omega)) dX0_add_29 ?_
  refine ax_l (y := (u (a + 2))) (by rw [nI_clamp (n := a + 2) (by omega)]) ?_
  refine lv_lmul hx hb dX0_add_30 ?_
  refine lv_lstore (lv' := [(7, .long (fac.toInt64 * (u (a + 2)))), (6, .int 2), (5, .int 2), (9, .int 0), (0, .ref xl), (1, .int (nI a)), (2, .int (nI b)), (3, .int tn), (4, .int fac)]) hx hb dX0_add_31 hl (by decide) rfl (fun ls hl => ?_)
  refine lv_iload hx hb dX0_add_33 (lv_at hl 1 rfl) ?_
  refine lv_iconst (v := 4) hx hb dX0_add_35 (by decide) ?_
  refine lv_iand hx hb dX0_add_36 ?_
  refine ax_i (y := 0) (by decide) ?_
  refine lv_if_eq (tgt := 44) hx hb dX0_add_37 (by decide) (fun _ => ?_) (fun h9 => absurd (by decide) h9)
  refine lv_iconst (v := 0) hx hb dX0_add_44 (by decide) ?_
  refine lv_istore (lv' := [(9, .int 0), (7, .long (fac.toInt64 * (u (a + 2)))), (6, .int 2), (5, .int 2), (0, .ref xl), (1, .int (nI a)), (2, .int (nI b)), (3, .int tn), (4, .int fac)]) hx hb dX0_add_45 hl (by decide) rfl (fun ls hl => ?_)
  refine lv_aload_n hx hb dX0_add_47 rfl (lv_at hl 4 rfl) ?_
  refine va_get (D := (dC, dI)) (ci := 0) (v := .ref xm) (C := RX0) (T := TX0) (N := 2) hx hb hts (by decide +kernel) hown hK hP 0 rfl rfl 1 (by decide) (hts (.fieldLink RX0 15 "Diffractory$Light" "next" "[J") (by decide +kernel)) (fun _ h9 => h9) rfl dX0_add_48 ?_
  refine lv_iload_n hx hb dX0_add_51 rfl (lv_at hl 6 rfl) ?_
  refine lv_iload hx hb dX0_add_52 (lv_at hl 2 rfl) ?_
  refine lv_iconst (v := 3) hx hb dX0_add_54 (by decide) ?_
  refine lv_iand hx hb dX0_add_55 ?_
  refine ax_i (y := 2) (by decide) ?_
  refine lv_iadd hx hb dX0_add_56 ?_
  refine ax_i (y := (nI (b + 2))) (ax_addN b 2) ?_
  refine lv_dup2_11 hx hb dX0_add_57 rfl rfl ?_
  refine va_lald hx hb hK hP 2 0 rfl rfl (ax_in (by omega) (by omega)) dX0_add_58 ?_
  refine ax_l (y := ((vp_updL (vp_updL g (b + 0) ((g (b + 0)) + (fac.toInt64 * (u (a + 0))))) (b + 1) (((vp_updL g (b + 0) ((g (b + 0)) + (fac.toInt64 * (u (a + 0))))) (b + 1)) + (fac.toInt64 * (u (a + 1))))) (b + 2))) (by rw [nI_clamp (n := b + 2) (by omega)]) ?_
  refine lv_iload hx hb dX0_add_59 (lv_at hl 0 rfl) ?_
  refine lv_if_eq (tgt := 70) hx hb dX0_add_61 (by decide) (fun _ => ?_) (fun h9 => absurd (by decide) h9)
  refine lv_lload hx hb dX0_add_70 (lv_at hl 1 rfl) ?_
  refine lv_ladd hx hb dX0_add_72 ?_
  refine va_last hx hb hK hP hD hS 2 0 rfl rfl (ax_in (by omega) (by omega)) dX0_add_73 (fun H locs hP hD hS => ?_)
  rw [nI_clamp (n := b + 2) (by omega)] at hP hD
  have hP : va_P (dC, dI) vwCl [(xl, .inr (0, [.ref xn, .ref xm])), (xn, .inl (cL, 64, .inr (.inl u))), (xm, .inl (cL, 64, .inr (.inl (vp_updL (vp_updL (vp_updL g (b + 0) ((g (b + 0)) + (fac.toInt64 * (u (a + 0))))) (b + 1) (((vp_updL g (b + 0) ((g (b + 0)) + (fac.toInt64 * (u (a + 0))))) (b + 1)) + (fac.toInt64 * (u (a + 1))))) (b + 2) (((vp_updL (vp_updL g (b + 0) ((g (b + 0)) + (fac.toInt64 * (u (a + 0))))) (b + 1) (((vp_updL g (b + 0) ((g (b + 0)) + (fac.toInt64 * (u (a + 0))))) (b + 1)) + (fac.toInt64 * (u (a + 1))))) (b + 2)) + (fac.toInt64 * (u (a + 2))))))))] H := hP
  have hD : va_D A [(xl, .inr (0, [.ref xn, .ref xm])), (xn, .inl (cL, 64, .inr (.inl u))), (xm, .inl (cL, 64, .inr (.inl (vp_updL (vp_updL (vp_updL g (b + 0) ((g (b + 0)) + (fac.toInt64 * (u (a + 0))))) (b + 1) (((vp_updL g (b + 0) ((g (b + 0)) + (fac.toInt64 * (u (a + 0))))) (b + 1)) + (fac.toInt64 * (u (a + 1))))) (b + 2) (((vp_updL (vp_updL g (b + 0) ((g (b + 0)) + (fac.toInt64 * (u (a + 0))))) (b + 1) (((vp_updL g (b + 0) ((g (b + 0)) + (fac.toInt64 * (u (a + 0))))) (b + 1)) + (fac.toInt64 * (u (a + 1))))) (b + 2)) + (fac.toInt64 * (u (a + 2))))))))] := hD
  refine lv_iinc (v := 3) (lv' := [(5, .int 3), (9, .int 0), (7, .long (fac.toInt64 * (u (a + 2)))), (6, .int 2), (0, .ref xl), (1, .int (nI a)), (2, .int (nI b)), (3, .int tn), (4, .int fac)]) hx hb dX0_add_74 hl (k := 3) rfl (by decide) (by decide) rfl (fun ls hl => ?_)
  refine lv_goto (tgt := 3) hx hb dX0_add_77 (by decide) ?_
  refine lv_iload hx hb dX0_add_3 (lv_at hl 0 rfl) ?_
  refine lv_iconst (v := 4) hx hb dX0_add_5 (by decide) ?_
  refine lv_icmp_ge (tgt := 80) hx hb dX0_add_6 (by decide) (fun h9 => absurd h9 (by decide)) (fun _ => ?_)
  refine lv_iload hx hb dX0_add_9 (lv_at hl 0 rfl) ?_
  refine lv_iload_n hx hb dX0_add_11 rfl (lv_at hl 7 rfl) ?_
  refine lv_bipush (v := 7) hx hb dX0_add_12 (by decide) ?_
  refine lv_iand hx hb dX0_add_14 ?_
  refine ax_i (y := 0) h3 ?_
  refine lv_iadd hx hb dX0_add_15 ?_
  refine ax_i (y := 3) (by decide) ?_
  refine lv_istore (lv' := [(6, .int 3), (5, .int 3), (9, .int 0), (7, .long (fac.toInt64 * (u (a + 2)))), (0, .ref xl), (1, .int (nI a)), (2, .int (nI b)), (3, .int tn), (4, .int fac)]) hx hb dX0_add_16 hl (by decide) rfl (fun ls hl => ?_)
  refine lv_iload hx hb dX0_add_18 (lv_at hl 8 rfl) ?_
  refine lv_i2l (v := fac.toInt64) hx hb dX0_add_20 rfl ?_
  refine lv_aload_n hx hb dX0_add_21 rfl (lv_at hl 4 rfl) ?_
  refine va_get (D := (dC, dI)) (ci := 0) (v := .ref xn) (C := RX0) (T := TX0) (N := 2) hx hb hts (by decide +kernel) hown hK hP 0 rfl rfl 0 (by decide) (hts (.fieldLink RX0 11 "Diffractory$Light" "now" "[J") (by decide +kernel)) (fun _ h9 => h9) rfl dX0_add_22 ?_
  refine lv_iload_n hx hb dX0_add_25 rfl (lv_at hl 5 rfl) ?_
  refine lv_iload hx hb dX0_add_26 (lv_at hl 1 rfl) ?_
  refine lv_iadd hx hb dX0_add_28 ?_
  refine ax_i (y := (nI (a + 3))) (ax_addN a 3) ?_
  refine va_lald hx hb hK hP 1 0 rfl rfl (ax_in (by omega) (by omega)) dX0_add_29 ?_
  refine ax_l (y := (u (a + 3))) (by rw [nI_clamp (n := a + 3) (by omega)]) ?_
  refine lv_lmul hx hb dX0_add_30 ?_
  refine lv_lstore (lv' := [(7, .long (fac.toInt64 * (u (a + 3)))), (6, .int 3), (5, .int 3), (9, .int 0), (0, .ref xl), (1, .int (nI a)), (2, .int (nI b)), (3, .int tn), (4, .int fac)]) hx hb dX0_add_31 hl (by decide) rfl (fun ls hl => ?_)
  refine lv_iload hx hb dX0_add_33 (lv_at hl 1 rfl) ?_
  refine lv_iconst (v := 4) hx hb dX0_add_35 (by decide) ?_
  refine lv_iand hx hb dX0_add_36 ?_
  refine ax_i (y := 0) (by decide) ?_
  refine lv_if_eq (tgt := 44) hx hb dX0_add_37 (by decide) (fun _ => ?_) (fun h9 => absurd (by decide) h9)
  refine lv_iconst (v := 0) hx hb dX0_add_44 (by decide) ?_
  refine lv_istore (lv' := [(9, .int 0), (7, .long (fac.toInt64 * (u (a + 3)))), (6, .int 3), (5, .int 3), (0, .ref xl), (1, .int (nI a)), (2, .int (nI b)), (3, .int tn), (4, .int fac)]) hx hb dX0_add_45 hl (by decide) rfl (fun ls hl => ?_)
  refine lv_aload_n hx hb dX0_add_47 rfl (lv_at hl 4 rfl) ?_
  refine va_get (D := (dC, dI)) (ci := 0) (v := .ref xm) (C := RX0) (T := TX0) (N := 2) hx hb hts (by decide +kernel) hown hK hP 0 rfl rfl 1 (by decide) (hts (.fieldLink RX0 15 "Diffractory$Light" "next" "[J") (by decide +kernel)) (fun _ h9 => h9) rfl dX0_add_48 ?_
  refine lv_iload_n hx hb dX0_add_51 rfl (lv_at hl 6 rfl) ?_
  refine lv_iload hx hb dX0_add_52 (lv_at hl 2 rfl) ?_
  refine lv_iconst (v := 3) hx hb dX0_add_54 (by decide) ?_
  refine lv_iand hx hb dX0_add_55 ?_
  refine ax_i (y := 3) (by decide) ?_
  refine lv_iadd hx hb dX0_add_56 ?_
  refine ax_i (y := (nI (b + 3))) (ax_addN b 3) ?_
  refine lv_dup2_11 hx hb dX0_add_57 rfl rfl ?_
  refine va_lald hx hb hK hP 2 0 rfl rfl (ax_in (by omega) (by omega)) dX0_add_58 ?_
  refine ax_l (y := ((vp_updL (vp_updL (vp_updL g (b + 0) ((g (b + 0)) + (fac.toInt64 * (u (a + 0))))) (b + 1) (((vp_updL g (b + 0) ((g (b + 0)) + (fac.toInt64 * (u (a + 0))))) (b + 1)) + (fac.toInt64 * (u (a + 1))))) (b + 2) (((vp_updL (vp_updL g (b + 0) ((g (b + 0)) + (fac.toInt64 * (u (a + 0))))) (b + 1) (((vp_updL g (b + 0) ((g (b + 0)) + (fac.toInt64 * (u (a + 0))))) (b + 1)) + (fac.toInt64 * (u (a + 1))))) (b + 2)) + (fac.toInt64 * (u (a + 2))))) (b + 3))) (by rw [nI_clamp (n := b + 3) (by omega)]) ?_
  refine lv_iload hx hb dX0_add_59 (lv_at hl 0 rfl) ?_
  refine lv_if_eq (tgt := 70) hx hb dX0_add_61 (by decide) (fun _ => ?_) (fun h9 => absurd (by decide) h9)
  refine lv_lload hx hb dX0_add_70 (lv_at hl 1 rfl) ?_
  refine lv_ladd hx hb dX0_add_72 ?_
  refine va_last hx hb hK hP hD hS 2 0 rfl rfl (ax_in (by omega) (by omega)) dX0_add_73 (fun H locs hP hD hS => ?_)
  rw [nI_clamp (n := b + 3) (by omega)] at hP hD
  have hP : va_P (dC, dI) vwCl [(xl, .inr (0, [.ref xn, .ref xm])), (xn, .inl (cL, 64, .inr (.inl u))), (xm, .inl (cL, 64, .inr (.inl (vp_updL (vp_updL (vp_updL (vp_updL g (b + 0) ((g (b + 0)) + (fac.toInt64 * (u (a + 0))))) (b + 1) (((vp_updL g (b + 0) ((g (b + 0)) + (fac.toInt64 * (u (a + 0))))) (b + 1)) + (fac.toInt64 * (u (a + 1))))) (b + 2) (((vp_updL (vp_updL g (b + 0) ((g (b + 0)) + (fac.toInt64 * (u (a + 0))))) (b + 1) (((vp_updL g (b + 0) ((g (b + 0)) + (fac.toInt64 * (u (a + 0))))) (b + 1)) + (fac.toInt64 * (u (a + 1))))) (b + 2)) + (fac.toInt64 * (u (a + 2))))) (b + 3) (((vp_updL (vp_updL (vp_updL g (b + 0) ((g (b + 0)) + (fac.toInt64 * (u (a + 0))))) (b + 1) (((vp_updL g (b + 0) ((g (b + 0)) + (fac.toInt64 * (u (a + 0))))) (b + 1)) + (fac.toInt64 * (u (a + 1))))) (b + 2) (((vp_updL (vp_updL g (b + 0) ((g (b + 0)) + (fac.toInt64 * (u (a + 0))))) (b + 1) (((vp_updL g (b + 0) ((g (b + 0)) + (fac.toInt64 * (u (a + 0))))) (b + 1)) + (fac.toInt64 * (u (a + 1))))) (b + 2)) + (fac.toInt64 * (u (a + 2))))) (b + 3)) + (fac.toInt64 * (u (a + 3))))))))] H := hP
  have hD : va_D A [(xl, .inr (0, [.ref xn, .ref xm])), (xn, .inl (cL, 64, .inr (.inl u))), (xm, .inl (cL, 64, .inr (.inl (vp_updL (vp_updL (vp_updL (vp_updL g (b + 0) ((g (b + 0)) + (fac.toInt64 * (u (a + 0))))) (b + 1) (((vp_updL g (b + 0) ((g (b + 0)) + (fac.toInt64 * (u (a + 0))))) (b + 1)) + (fac.toInt64 * (u (a + 1))))) (b + 2) (((vp_updL (vp_updL g (b + 0) ((g (b + 0)) + (fac.toInt64 * (u (a + 0))))) (b + 1) (((vp_updL g (b + 0) ((g (b + 0)) + (fac.toInt64 * (u (a + 0))))) (b + 1)) + (fac.toInt64 * (u (a + 1))))) (b + 2)) + (fac.toInt64 * (u (a + 2))))) (b + 3) (((vp_updL (vp_updL (vp_updL g (b + 0) ((g (b + 0)) + (fac.toInt64 * (u (a + 0))))) (b + 1) (((vp_updL g (b + 0) ((g (b + 0)) + (fac.toInt64 * (u (a + 0))))) (b + 1)) + (fac.toInt64 * (u (a + 1))))) (b + 2) (((vp_updL (vp_updL g (b + 0) ((g (b + 0)) + (fac.toInt64 * (u (a + 0))))) (b + 1) (((vp_updL g (b + 0) ((g (b + 0)) + (fac.toInt64 * (u (a + 0))))) (b + 1)) + (fac.toInt64 * (u (a + 1))))) (b + 2)) + (fac.toInt64 * (u (a + 2))))) (b + 3)) + (fac.toInt64 * (u (a + 3))))))))] := hD
  refine lv_iinc (v := 4) (lv' := [(5, .int 4), (9, .int 0), (7, .long (fac.toInt64 * (u (a + 3)))), (6, .int 3), (0, .ref xl), (1, .int (nI a)), (2, .int (nI b)), (3, .int tn), (4, .int fac)]) hx hb dX0_add_74 hl (k := 3) rfl (by decide) (by decide) rfl (fun ls hl => ?_)
  refine lv_goto (tgt := 3) hx hb dX0_add_77 (by decide) ?_
  refine lv_iload hx hb dX0_add_3 (lv_at hl 0 rfl) ?_
  refine lv_iconst (v := 4) hx hb dX0_add_5 (by decide) ?_
  refine lv_icmp_ge (tgt := 80) hx hb dX0_add_6 (by decide) (fun _ => ?_) (fun h9 => absurd (by decide) h9)
  refine W.widen (k := 0) (n := 0) (Nat.le_of_ble_eq_true rfl) (Nat.le_of_ble_eq_true rfl) ?_
  have hP9 := hP.sub (ws' := [(xl, .inr (0, [.ref xn, .ref xm])), (xn, .inl (cL, 64, .inr (.inl u))), (xm, .inl (cL, 64, .inr (.inl (vp_updL (vp_updL (vp_updL (vp_updL g (b + 0) ((g (b + 0)) + (fac.toInt64 * (u (a + 0))))) (b + 1) (((vp_updL g (b + 0) ((g (b + 0)) + (fac.toInt64 * (u (a + 0))))) (b + 1)) + (fac.toInt64 * (u (a + 1))))) (b + 2) (((vp_updL (vp_updL g (b + 0) ((g (b + 0)) + (fac.toInt64 * (u (a + 0))))) (b + 1) (((vp_updL g (b + 0) ((g (b + 0)) + (fac.toInt64 * (u (a + 0))))) (b + 1)) + (fac.toInt64 * (u (a + 1))))) (b + 2)) + (fac.toInt64 * (u (a + 2))))) (b + 3) (((vp_updL (vp_updL (vp_updL g (b + 0) ((g (b + 0)) + (fac.toInt64 * (u (a + 0))))) (b + 1) (((vp_updL g (b + 0) ((g (b + 0)) + (fac.toInt64 * (u (a + 0))))) (b + 1)) + (fac.toInt64 * (u (a + 1))))) (b + 2) (((vp_updL (vp_updL g (b + 0) ((g (b + 0)) + (fac.toInt64 * (u (a + 0))))) (b + 1) (((vp_updL g (b + 0) ((g (b + 0)) + (fac.toInt64 * (u (a + 0))))) (b + 1)) + (fac.toInt64 * (u (a + 1))))) (b + 2)) + (fac.toInt64 * (u (a + 2))))) (b + 3)) + (fac.toInt64 * (u (a + 3))))))))]) [0, 1, 2] rfl
  have hD9 := hD.sub (ws' := [(xl, .inr (0, [.ref xn, .ref xm])), (xn, .inl (cL, 64, .inr (.inl u))), (xm, .inl (cL, 64, .inr (.inl (vp_updL (vp_updL (vp_updL (vp_updL g (b + 0) ((g (b + 0)) + (fac.toInt64 * (u (a + 0))))) (b + 1) (((vp_updL g (b + 0) ((g (b + 0)) + (fac.toInt64 * (u (a + 0))))) (b + 1)) + (fac.toInt64 * (u (a + 1))))) (b + 2) (((vp_updL (vp_updL g (b + 0) ((g (b + 0)) + (fac.toInt64 * (u (a + 0))))) (b + 1) (((vp_updL g (b + 0) ((g (b + 0)) + (fac.toInt64 * (u (a + 0))))) (b + 1)) + (fac.toInt64 * (u (a + 1))))) (b + 2)) + (fac.toInt64 * (u (a + 2))))) (b + 3) (((vp_updL (vp_updL (vp_updL g (b + 0) ((g (b + 0)) + (fac.toInt64 * (u (a + 0))))) (b + 1) (((vp_updL g (b + 0) ((g (b + 0)) + (fac.toInt64 * (u (a + 0))))) (b + 1)) + (fac.toInt64 * (u (a + 1))))) (b + 2) (((vp_updL (vp_updL g (b + 0) ((g (b + 0)) + (fac.toInt64 * (u (a + 0))))) (b + 1) (((vp_updL g (b + 0) ((g (b + 0)) + (fac.toInt64 * (u (a + 0))))) (b + 1)) + (fac.toInt64 * (u (a + 1))))) (b + 2)) + (fac.toInt64 * (u (a + 2))))) (b + 3)) + (fac.toInt64 * (u (a + 3))))))))]) [0, 1, 2] (by decide) rfl
  have hK9 := hK.sub (tys' := [(cL, .long)]) [0] rfl
  have e9 : (vp_updL (vp_updL (vp_updL (vp_updL g (b + 0) ((g (b + 0)) + (fac.toInt64 * (u (a + 0))))) (b + 1) (((vp_updL g (b + 0) ((g (b + 0)) + (fac.toInt64 * (u (a + 0))))) (b + 1)) + (fac.toInt64 * (u (a + 1))))) (b + 2) (((vp_updL (vp_updL g (b + 0) ((g (b + 0)) + (fac.toInt64 * (u (a + 0))))) (b + 1) (((vp_updL g (b + 0) ((g (b + 0)) + (fac.toInt64 * (u (a + 0))))) (b + 1)) + (fac.toInt64 * (u (a + 1))))) (b + 2)) + (fac.toInt64 * (u (a + 2))))) (b + 3) (((vp_updL (vp_updL (vp_updL g (b + 0) ((g (b + 0)) + (fac.toInt64 * (u (a + 0))))) (b + 1) (((vp_updL g (b + 0) ((g (b + 0)) + (fac.toInt64 * (u (a + 0))))) (b + 1)) + (fac.toInt64 * (u (a + 1))))) (b + 2) (((vp_updL (vp_updL g (b + 0) ((g (b + 0)) + (fac.toInt64 * (u (a + 0))))) (b + 1) (((vp_updL g (b + 0) ((g (b + 0)) + (fac.toInt64 * (u (a + 0))))) (b + 1)) + (fac.toInt64 * (u (a + 1))))) (b + 2)) + (fac.toInt64 * (u (a + 2))))) (b + 3)) + (fac.toInt64 * (u (a + 3))))) = ad a b 0 fac u g := by
    refine ax_ad (fun j => ⟨fun q => ?_, fun q => ?_⟩)
    · rcases (show j = b + 0 ∨ j = b + 1 ∨ j = b + 2 ∨ j = b + 3 by omega) with h | h | h | h <;> subst h <;> simp [vp_updL, rt, Nat.add_sub_cancel_left]
    · simp only [vp_updL]
      rw [if_neg (by omega), if_neg (by omega), if_neg (by omega), if_neg (by omega)]
  rw [e9] at hP9 hD9
  exact W.vret hx hb hr (fun t8 ht hW => ⟨⟨(), rfl, trivial, by rw [ht]; exact hP9, va_K.moved hW.alike hK9, hD9⟩, hS.F ht⟩) hS.2.2 dX0_add_80

set_option maxHeartbeats 4000000 in
set_option maxRecDepth 100000 in
theorem c_X0_add_1 (l : Launch) (dC : Nat → ClassId) (dI : Nat → Nat → Nat) (xl xn xm : Nat) (cL : ClassId) (ta : Nat → Nat) (sz : Nat) (u : Nat → Int64) (g : Nat → Int64) (a : Nat) (b : Nat) (tn : Int32) (fac : Int32) (h1 : a + 4 ≤ 64) (h2 : b + 4 ≤ 64) (h3 : tn &&& 7 = nI 1) : Met l yX0_add wsX0_add ({ frames := 0, cells := 0, slots := 0, locals := 0 }) (va_Pc [.ref xl, .int (nI a), .int (nI b), .int tn, .int fac] (ax_W (dC, dI) vwCl [(xl, .inr (0, [.ref xn, .ref xm])), (xn, .inl (cL, 64, .inr (.inl u))), (xm, .inl (cL, 64, .inr (.inl g)))] [(cL, .long)] ta sz)) (va_Qv (fun (u9 : Unit) => True) (fun (u9 : Unit) (t9 : State) => va_P (dC, dI) vwCl [(xl, .inr (0, [.ref xn, .ref xm])), (xn, .inl (cL, 64, .inr (.inl u))), (xm, .inl (cL, 64, .inr (.inl (ad a b 1 fac u g))))] t9.heap ∧ va_K (dC, dI) vwCl [(cL, .long)] t9 ∧ va_D (va_A [(xl, .inr (0, [.ref xn, .ref xm])), (xn, .inl (cL, 64, .inr (.inl u))), (xm, .inl (cL, 64, .inr (.inl g)))] sz) [(xl, .inr (0, [.ref xn, .ref xm])), (xn, .inl (cL, 64, .inr (.inl u))), (xm, .inl (cL, 64, .inr (.inl (ad a b 1 fac u g))))]) (va_A [(xl, .inr (0, [.ref xn, .ref xm])), (xn, .inl (cL, 64, .inr (.inl u))), (xm, .inl (cL, 64, .inr (.inl g)))] sz)) 0 0 (va_A [(xl, .inr (0, [.ref xn, .ref xm])), (xn, .inl (cL, 64, .inr (.inl u))), (xm, .inl (cL, 64, .inr (.inl g)))] sz) := by
  refine Met.ofW (cc := cX0_add) (maxL := 10) (ret := none) (by decide) rfl ?_
  intro p e s m args below meth c s₁ B hml hv
  obtain ⟨rfl, hsz, hP, hK, hD0, hE⟩ := hv
  have hx := B.exec
  have hb := B.bytes
  have hr := B.returns
  have hts := atoms_spec (ws := wsX0_add) B.pre
  have hown : s.vm.findClass RX0 = some m.cls := findClass_of_methodNamed B.named
  have hlocks := B.notSynchronized
  subst hsz
  have hD := hD0.self (sz := s.heap.size)
  generalize hAe : va_A [(xl, .inr (0, [.ref xn, .ref xm])), (xn, .inl (cL, 64, .inr (.inl u))), (xm, .inl (cL, 64, .inr (.inl g)))] s.heap.size = A at hD hE ⊢
  have hA : ∀ q : Nat, s.heap.size ≤ q → A q := fun q h => by rw [← hAe]; exact Or.inr h
  have hS : va_S A s.heap s.heap [] := va_S.rf
  have hl := lv_entry ([.ref xl, .int (nI a), .int (nI b), .int tn, .int fac]) (n := 10) (Nat.le_of_ble_eq_true rfl)
  rw [lg_entry_eq]
  generalize (lg_sl ([.ref xl, .int (nI a), .int (nI b), .int tn, .int fac]) ++ List.replicate (10 - (lg_sl ([.ref xl, .int (nI a), .int (nI b), .int tn, .int fac])).length) Slot.unset).toArray = ls at hl ⊢
  have hl : lv_has ls 10 [(0, .ref xl), (1, .int (nI a)), (2, .int (nI b)), (3, .int tn), (4, .int fac)] := hl
  have hP : va_P (dC, dI) vwCl [(xl, .inr (0, [.ref xn, .ref xm])), (xn, .inl (cL, 64, .inr (.inl u))), (xm, .inl (cL, 64, .inr (.inl g)))] s.heap := hP
  refine lv_iconst (v := 0) hx hb dX0_add_0 (by decide) ?_
  refine lv_istore (lv' := [(5, .int 0), (0, .ref xl), (1, .int (nI a)), (2, .int (nI b)), (3, .int tn), (4, .int fac)]) hx hb dX0_add_1 hl (by decide) rfl (fun ls hl => ?_)
  refine lv_iload hx hb dX0_add_3 (lv_at hl 0 rfl) ?_
  refine lv_iconst (v := 4) hx hb dX0_add_5 (by decide) ?_
  refine lv_icmp_ge (tgt := 80) hx hb dX0_add_6 (by decide) (fun h9 => absurd h9 (by decide)) (fun _ => ?_)
  refine lv_iload hx hb dX0_add_9 (lv_at hl 0 rfl) ?_
  refine lv_iload_n hx hb dX0_add_11 rfl (lv_at hl 4 rfl) ?_
  refine lv_bipush (v := 7) hx hb dX0_add_12 (by decide) ?_
  refine lv_iand hx hb dX0_add_14 ?_
  refine ax_i (y := 1) h3 ?_
  refine lv_iadd hx hb dX0_add_15 ?_
  refine ax_i (y := 1) (by decide) ?_
  refine lv_istore (lv' := [(6, .int 1), (5, .int 0), (0, .ref xl), (1, .int (nI a)), (2, .int (nI b)), (3, .int tn), (4, .int fac)]) hx hb dX0_add_16 hl (by decide) rfl (fun ls hl => ?_)
  refine lv_iload hx hb dX0_add_18 (lv_at hl 6 rfl) ?_
  refine lv_i2l (v := fac.toInt64) hx hb dX0_add_20 rfl ?_
  refine lv_aload_n hx hb dX0_add_21 rfl (lv_at hl 2 rfl) ?_
  refine va_get (D := (dC, dI)) (ci := 0) (v := .ref xn) (C := RX0) (T := TX0) (N := 2) hx hb hts (by decide +kernel) hown hK hP 0 rfl rfl 0 (by decide) (hts (.fieldLink RX0 11 "Diffractory$Light" "now" "[J") (by decide +kernel)) (fun _ h9 => h9) rfl dX0_add_22 ?_
  refine lv_iload_n hx hb dX0_add_25 rfl (lv_at hl 3 rfl) ?_
  refine lv_iload hx hb dX0_add_26 (lv_at hl 1 rfl) ?_
  refine lv_iadd hx hb dX0_add_28 ?_
  refine ax_i (y := (nI (a + 0))) (ax_addN a 0) ?_
  refine va_lald hx hb hK hP 1 0 rfl rfl (ax_in (by omega) (by omega)) dX0_add_29 ?_
  refine ax_l (y := (u (a + 0))) (by rw [nI_clamp (n := a + 0) (by omega)]) ?_
  refine lv_lmul hx hb dX0_add_30 ?_
  refine lv_lstore (lv' := [(7, .long (fac.toInt64 * (u (a + 0)))), (6, .int 1), (5, .int 0), (0, .ref xl), (1, .int (nI a)), (2, .int (nI b)), (3, .int tn), (4, .int fac)]) hx hb dX0_add_31 hl (by decide) rfl (fun ls hl => ?_)
  refine lv_iload hx hb dX0_add_33 (lv_at hl 1 rfl) ?_
  refine lv_iconst (v := 4) hx hb dX0_add_35 (by decide) ?_
  refine lv_iand hx hb dX0_add_36 ?_
  refine ax_i (y := 0) (by decide) ?_
  refine lv_if_eq (tgt := 44) hx hb dX0_add_37 (by decide) (fun _ => ?_) (fun h9 => absurd (by decide) h9)
  refine lv_iconst (v := 0) hx hb dX0_add_44 (by decide) ?_
  refine lv_istore (lv' := [(9, .int 0), (7, .long (fac.toInt64 * (u (a + 0)))), (6, .int 1), (5, .int 0), (0, .ref xl), (1, .int (nI a)), (2, .int (nI b)), (3, .int tn), (4, .int fac)]) hx hb dX0_add_45 hl (by decide) rfl (fun ls hl => ?_)
  refine lv_aload_n hx hb dX0_add_47 rfl (lv_at hl 4 rfl) ?_
  refine va_get (D := (dC, dI)) (ci := 0) (v := .ref xm) (C := RX0) (T := TX0) (N := 2) hx hb hts (by decide +kernel) hown hK hP 0 rfl rfl 1 (by decide) (hts (.fieldLink RX0 15 "Diffractory$Light" "next" "[J") (by decide +kernel)) (fun _ h9 => h9) rfl dX0_add_48 ?_
  refine lv_iload_n hx hb dX0_add_51 rfl (lv_at hl 6 rfl) ?_
  refine lv_iload hx hb dX0_add_52 (lv_at hl 2 rfl) ?_
  refine lv_iconst (v := 3) hx hb dX0_add_54 (by decide) ?_
  refine lv_iand hx hb dX0_add_55 ?_
  refine ax_i (y := 1) (by decide) ?_
  refine lv_iadd hx hb dX0_add_56 ?_
  refine ax_i (y := (nI (b + 1))) (ax_addN b 1) ?_
  refine lv_dup2_11 hx hb dX0_add_57 rfl rfl ?_
  refine va_lald hx hb hK hP 2 0 rfl rfl (ax_in (by omega) (by omega)) dX0_add_58 ?_
  refine ax_l (y := (g (b + 1))) (by rw [nI_clamp (n := b + 1) (by omega)]) ?_
  refine lv_iload hx hb dX0_add_59 (lv_at hl 0 rfl) ?_
  refine lv_if_eq (tgt := 70) hx hb dX0_add_61 (by decide) (fun _ => ?_) (fun h9 => absurd (by decide) h9)
  refine lv_lload hx hb dX0_add_70 (lv_at hl 1 rfl) ?_
  refine lv_ladd hx hb dX0_add_72 ?_
  refine va_last hx hb hK hP hD hS 2 0 rfl rfl (ax_in (by omega) (by omega)) dX0_add_73 (fun H locs hP hD hS => ?_)
  rw [nI_clamp (n := b + 1) (by omega)] at hP hD
  have hP : va_P (dC, dI) vwCl [(xl, .inr (0, [.ref xn, .ref xm])), (xn, .inl (cL, 64, .inr (.inl u))), (xm, .inl (cL, 64, .inr (.inl (vp_updL g (b + 1) ((g (b + 1)) + (fac.toInt64 * (u (a + 0))))))))] H := hP
  have hD : va_D A [(xl, .inr (0, [.ref xn, .ref xm])), (xn, .inl (cL, 64, .inr (.inl u))), (xm, .inl (cL, 64, .inr (.inl (vp_updL g (b + 1) ((g (b + 1)) + (fac.toInt64 * (u (a + 0))))))))] := hD
  refine lv_iinc (v := 1) (lv' := [(5, .int 1), (9, .int 0), (7, .long (fac.toInt64 * (u (a + 0)))), (6, .int 1), (0, .ref xl), (1, .int (nI a)), (2, .int (nI b)), (3, .int tn), (4, .int fac)]) hx hb dX0_add_74 hl (k := 3) rfl (by decide) (by decide) rfl (fun ls hl => ?_)
  refine lv_goto (tgt := 3) hx hb dX0_add_77 (by decide) ?_
  refine lv_iload hx hb dX0_add_3 (lv_at hl 0 rfl) ?_
  refine lv_iconst (v := 4) hx hb dX0_add_5 (by decide) ?_
  refine lv_icmp_ge (tgt := 80) hx hb dX0_add_6 (by decide) (fun h9 => absurd h9 (by decide)) (fun _ => ?_)
  refine lv_iload hx hb dX0_add_9 (lv_at hl 0 rfl) ?_
  refine lv_iload_n hx hb dX0_add_11 rfl (lv_at hl 7 rfl) ?_
  refine lv_bipush (v := 7) hx hb dX0_add_12 (by decide) ?_
  refine lv_iand hx hb dX0_add_14 ?_
  refine ax_i (y := 1) h3 ?_
  refine lv_iadd hx hb dX0_add_15 ?_
  refine ax_i (y := 2) (by decide) ?_
  refine lv_istore (lv' := [(6, .int 2), (5, .int 1), (9, .int 0), (7, .long (fac.toInt64 * (u (a + 0)))), (0, .ref xl), (1, .int (nI a)), (2, .int (nI b)), (3, .int tn), (4, .int fac)]) hx hb dX0_add_16 hl (by decide) rfl (fun ls hl => ?_)
  refine lv_iload hx hb dX0_add_18 (lv_at hl 8 rfl) ?_
  refine lv_i2l (v := fac.toInt64) hx hb dX0_add_20 rfl ?_
  refine lv_aload_n hx hb dX0_add_21 rfl (lv_at hl 4 rfl) ?_
  refine va_get (D := (dC, dI)) (ci := 0) (v := .ref xn) (C := RX0) (T := TX0) (N := 2) hx hb hts (by decide +kernel) hown hK hP 0 rfl rfl 0 (by decide) (hts (.fieldLink RX0 11 "Diffractory$Light" "now" "[J") (by decide +kernel)) (fun _ h9 => h9) rfl dX0_add_22 ?_
  refine lv_iload_n hx hb dX0_add_25 rfl (lv_at hl 5 rfl) ?_
  refine lv_iload hx hb dX0_add_26 (lv_at hl 1 rfl) ?_
  refine lv_iadd hx hb dX0_add_28 ?_
  refine ax_i (y := (nI (a + 1))) (ax_addN a 1) ?_
  refine va_lald hx hb hK hP 1 0 rfl rfl (ax_in (by omega) (by omega)) dX0_add_29 ?_
  refine ax_l (y := (u (a + 1))) (by rw [nI_clamp (n := a + 1) (by omega)]) ?_
  refine lv_lmul hx hb dX0_add_30 ?_
  refine lv_lstore (lv' := [(7, .long (fac.toInt64 * (u (a + 1)))), (6, .int 2), (5, .int 1), (9, .int 0), (0, .ref xl), (1, .int (nI a)), (2, .int (nI b)), (3, .int tn), (4, .int fac)]) hx hb dX0_add_31 hl (by decide) rfl (fun ls hl => ?_)
  refine lv_iload hx hb dX0_add_33 (lv_at hl 1 rfl) ?_
  refine lv_iconst (v := 4) hx hb dX0_add_35 (by decide) ?_
  refine lv_iand hx hb dX0_add_36 ?_
  refine ax_i (y := 0) (by decide) ?_
  refine lv_if_eq (tgt := 44) hx hb dX0_add_37 (by decide) (fun _ => ?_) (fun h9 => absurd (by decide) h9)
  refine lv_iconst (v := 0) hx hb dX0_add_44 (by decide) ?_
  refine lv_istore (lv' := [(9, .int 0), (7, .long (fac.toInt64 * (u (a + 1)))), (6, .int 2), (5, .int 1), (0, .ref xl), (1, .int (nI a)), (2, .int (nI b)), (3, .int tn), (4, .int fac)]) hx hb dX0_add_45 hl (by decide) rfl (fun ls hl => ?_)
  refine lv_aload_n hx hb dX0_add_47 rfl (lv_at hl 4 rfl) ?_
  refine va_get (D := (dC, dI)) (ci := 0) (v := .ref xm) (C := RX0) (T := TX0) (N := 2) hx hb hts (by decide +kernel) hown hK hP 0 rfl rfl 1 (by decide) (hts (.fieldLink RX0 15 "Diffractory$Light" "next" "[J") (by decide +kernel)) (fun _ h9 => h9) rfl dX0_add_48 ?_
  refine lv_iload_n hx hb dX0_add_51 rfl (lv_at hl 6 rfl) ?_
  refine lv_iload hx hb dX0_add_52 (lv_at hl 2 rfl) ?_
  refine lv_iconst (v := 3) hx hb dX0_add_54 (by decide) ?_
  refine lv_iand hx hb dX0_add_55 ?_
  refine ax_i (y := 2) (by decide) ?_
  refine lv_iadd hx hb dX0_add_56 ?_
  refine ax_i (y := (nI (b + 2))) (ax_addN b 2) ?_
  refine lv_dup2_11 hx hb dX0_add_57 rfl rfl ?_
  refine va_lald hx hb hK hP 2 0 rfl rfl (ax_in (by omega) (by omega)) dX0_add_58 ?_
  refine ax_l (y := ((vp_updL g (b + 1) ((g (b + 1)) + (fac.toInt64 * (u (a + 0))))) (b + 2))) (by rw [nI_clamp (n := b + 2) (by omega)]) ?_
  refine lv_iload hx hb dX0_add_59 (lv_at hl 0 rfl) ?_
  refine lv_if_eq (tgt := 70) hx hb dX0_add_61 (by decide) (fun _ => ?_) (fun h9 => absurd (by decide) h9)
  refine lv_lload hx hb dX0_add_70 (lv_at hl 1 rfl) ?_
  refine lv_ladd hx hb dX0_add_72 ?_
  refine va_last hx hb hK hP hD hS 2 0 rfl rfl (ax_in (by omega) (by omega)) dX0_add_73 (fun H locs hP hD hS => ?_)
  rw [nI_clamp (n := b + 2) (by omega)] at hP hD
  have hP : va_P (dC, dI) vwCl [(xl, .inr (0, [.ref xn, .ref xm])), (xn, .inl (cL, 64, .inr (.inl u))), (xm, .inl (cL, 64, .inr (.inl (vp_updL (vp_updL g (b + 1) ((g (b + 1)) + (fac.toInt64 * (u (a + 0))))) (b + 2) (((vp_updL g (b + 1) ((g (b + 1)) + (fac.toInt64 * (u (a + 0))))) (b + 2)) + (fac.toInt64 * (u (a + 1))))))))] H := hP
  have hD : va_D A [(xl, .inr (0, [.ref xn, .ref xm])), (xn, .inl (cL, 64, .inr (.inl u))), (xm, .inl (cL, 64, .inr (.inl (vp_updL (vp_updL g (b + 1) ((g (b + 1)) + (fac.toInt64 * (u (a + 0))))) (b + 2) (((vp_updL g (b + 1) ((g (b + 1)) + (fac.toInt64 * (u (a + 0))))) (b + 2)) + (fac.toInt64 * (u (a + 1))))))))] := hD
  refine lv_iinc (v := 2) (lv' := [(5, .int 2), (9, .int 0), (7, .long (fac.toInt64 * (u (a + 1)))), (6, .int 2), (0, .ref xl), (1, .int (nI a)), (2, .int (nI b)), (3, .int tn), (4, .int fac)]) hx hb dX0_add_74 hl (k := 3) rfl (by decide) (by decide) rfl (fun ls hl => ?_)
  refine lv_goto (tgt := 3) hx hb dX0_add_77 (by decide) ?_
  refine lv_iload hx hb dX0_add_3 (lv_at hl 0 rfl) ?_
  refine lv_iconst (v := 4) hx hb dX0_add_5 (by decide) ?_
  refine lv_icmp_ge (tgt := 80) hx hb dX0_add_6 (by decide) (fun h9 => absurd h9 (by decide)) (fun _ => ?_)
  refine lv_iload hx hb dX0_add_9 (lv_at hl 0 rfl) ?_
  refine lv_iload_n hx hb dX0_add_11 rfl (lv_at hl 7 rfl) ?_
  refine lv_bipush (v := 7) hx hb dX0_add_12 (by decide) ?_
  refine lv_iand hx hb dX0_add_14 ?_
  refine ax_i (y := 1) h3 ?_
  refine lv_iadd hx hb dX0_add_15 ?_
  refine ax_i (y := 3) (by decide) ?_
  refine lv_istore (lv' := [(6, .int 3), (5, .int 2), (9, .int 0), (7, .long (fac.toInt64 * (u (a + 1)))), (0, .ref xl), (1, .int (nI a)), (2, .int (nI b)), (3, .int tn), (4, .int fac)]) hx hb dX0_add_16 hl (by decide) rfl (fun ls hl => ?_)
  refine lv_iload hx hb dX0_add_18 (lv_at hl 8 rfl) ?_
  refine lv_i2l (v := fac.toInt64) hx hb dX0_add_20 rfl ?_
  refine lv_aload_n hx hb dX0_add_21 rfl (lv_at hl 4 rfl) ?_
  refine va_get (D := (dC, dI)) (ci := 0) (v := .ref xn) (C := RX0) (T := TX0) (N := 2) hx hb hts (by decide +kernel) hown hK hP 0 rfl rfl 0 (by decide) (hts (.fieldLink RX0 11 "Diffractory$Light" "now" "[J") (by decide +kernel)) (fun _ h9 => h9) rfl dX0_add_22 ?_
  refine lv_iload_n hx hb dX0_add_25 rfl (lv_at hl 5 rfl) ?_
  refine lv_iload hx hb dX0_add_26 (lv_at hl 1 rfl) ?_
  refine lv_iadd hx hb dX0_add_28 ?_
  refine ax_i (y := (nI (a + 2))) (ax_addN a 2) ?_
  refine va_lald hx hb hK hP 1 0 rfl rfl (ax_in (by omega) (by omega)) dX0_add_29 ?_
  refine ax_l (y := (u (a + 2))) (by rw [nI_clamp (n := a + 2) (by omega)]) ?_
  refine lv_lmul hx hb dX0_add_30 ?_
  refine lv_lstore (lv' := [(7, .long (fac.toInt64 * (u (a + 2)))), (6, .int 3), (5, .int 2), (9, .int 0), (0, .ref xl), (1, .int (nI a)), (2, .int (nI b)), (3, .int tn), (4, .int fac)]) hx hb dX0_add_31 hl (by decide) rfl (fun ls hl => ?_)
  refine lv_iload hx hb dX0_add_33 (lv_at hl 1 rfl) ?_
  refine lv_iconst (v := 4) hx hb dX0_add_35 (by decide) ?_
  refine lv_iand hx hb dX0_add_36 ?_
  refine ax_i (y := 0) (by decide) ?_
  refine lv_if_eq (tgt := 44) hx hb dX0_add_37 (by decide) (fun _ => ?_) (fun h9 => absurd (by decide) h9)
  refine lv_iconst (v := 0) hx hb dX0_add_44 (by decide) ?_
  refine lv_istore (lv' := [(9, .int 0), (7, .long (fac.toInt64 * (u (a + 2)))), (6, .int 3), (5, .int 2), (0, .ref xl), (1, .int (nI a)), (2, .int (nI b)), (3, .int tn), (4, .int fac)]) hx hb dX0_add_45 hl (by decide) rfl (fun ls hl => ?_)
  refine lv_aload_n hx hb dX0_add_47 rfl (lv_at hl 4 rfl) ?_
  refine va_get (D := (dC, dI)) (ci := 0) (v := .ref xm) (C := RX0) (T := TX0) (N := 2) hx hb hts (by decide +kernel) hown hK hP 0 rfl rfl 1 (by decide) (hts (.fieldLink RX0 15 "Diffractory$Light" "next" "[J") (by decide +kernel)) (fun _ h9 => h9) rfl dX0_add_48 ?_
  refine lv_iload_n hx hb dX0_add_51 rfl (lv_at hl 6 rfl) ?_
  refine lv_iload hx hb dX0_add_52 (lv_at hl 2 rfl) ?_
  refine lv_iconst (v := 3) hx hb dX0_add_54 (by decide) ?_
  refine lv_iand hx hb dX0_add_55 ?_
  refine ax_i (y := 3) (by decide) ?_
  refine lv_iadd hx hb dX0_add_56 ?_
  refine ax_i (y := (nI (b + 3))) (ax_addN b 3) ?_
  refine lv_dup2_11 hx hb dX0_add_57 rfl rfl ?_
  refine va_lald hx hb hK hP 2 0 rfl rfl (ax_in (by omega) (by omega)) dX0_add_58 ?_
  refine ax_l (y := ((vp_updL (vp_updL g (b + 1) ((g (b + 1)) + (fac.toInt64 * (u (a + 0))))) (b + 2) (((vp_updL g (b + 1) ((g (b + 1)) + (fac.toInt64 * (u (a + 0))))) (b + 2)) + (fac.toInt64 * (u (a + 1))))) (b + 3))) (by rw [nI_clamp (n := b + 3) (by omega)]) ?_
  refine lv_iload hx hb dX0_add_59 (lv_at hl 0 rfl) ?_
  refine lv_if_eq (tgt := 70) hx hb dX0_add_61 (by decide) (fun _ => ?_) (fun h9 => absurd (by decide) h9)
  refine lv_lload hx hb dX0_add_70 (lv_at hl 1 rfl) ?_
  refine lv_ladd hx hb dX0_add_72 ?_
  refine va_last hx hb hK hP hD hS 2 0 rfl rfl (ax_in (by omega) (by omega)) dX0_add_73 (fun H locs hP hD hS => ?_)
  rw [nI_clamp (n := b + 3) (by omega)] at hP hD
  have hP : va_P (dC, dI) vwCl [(xl, .inr (0, [.ref xn, .ref xm])), (xn, .inl (cL, 64, .inr (.inl u))), (xm, .inl (cL, 64, .inr (.inl (vp_updL (vp_updL (vp_updL g (b + 1) ((g (b + 1)) + (fac.toInt64 * (u (a + 0))))) (b + 2) (((vp_updL g (b + 1) ((g (b + 1)) + (fac.toInt64 * (u (a + 0))))) (b + 2)) + (fac.toInt64 * (u (a + 1))))) (b + 3) (((vp_updL (vp_updL g (b + 1) ((g (b + 1)) + (fac.toInt64 * (u (a + 0))))) (b + 2) (((vp_updL g (b + 1) ((g (b + 1)) + (fac.toInt64 * (u (a + 0))))) (b + 2)) + (fac.toInt64 * (u (a + 1))))) (b + 3)) + (fac.toInt64 * (u (a + 2))))))))] H := hP
  have hD : va_D A [(xl, .inr (0, [.ref xn, .ref xm])), (xn, .inl (cL, 64, .inr (.inl u))), (xm, .inl (cL, 64, .inr (.inl (vp_updL (vp_updL (vp_updL g (b + 1) ((g (b + 1)) + (fac.toInt64 * (u (a + 0))))) (b + 2) (((vp_updL g (b + 1) ((g (b + 1)) + (fac.toInt64 * (u (a + 0))))) (b + 2)) + (fac.toInt64 * (u (a + 1))))) (b + 3) (((vp_updL (vp_updL g (b + 1) ((g (b + 1)) + (fac.toInt64 * (u (a + 0))))) (b + 2) (((vp_updL g (b + 1) ((g (b + 1)) + (fac.toInt64 * (u (a + 0))))) (b + 2)) + (fac.toInt64 * (u (a + 1))))) (b + 3)) + (fac.toInt64 * (u (a + 2))))))))] := hD
  refine lv_iinc (v := 3) (lv' := [(5, .int 3), (9, .int 0), (7, .long (fac.toInt64 * (u (a + 2)))), (6, .int 3), (0, .ref xl), (1, .int (nI a)), (2, .int (nI b)), (3, .int tn), (4, .int fac)]) hx hb dX0_add_74 hl (k := 3) rfl (by decide) (by decide) rfl (fun ls hl => ?_)
  refine lv_goto (tgt := 3) hx hb dX0_add_77 (by decide) ?_
  refine lv_iload hx hb dX0_add_3 (lv_at hl 0 rfl) ?_
  refine lv_iconst (v := 4) hx hb dX0_add_5 (by decide) ?_
  refine lv_icmp_ge (tgt := 80) hx hb dX0_add_6 (by decide) (fun h9 => absurd h9 (by decide)) (fun _ => ?_)
  refine lv_iload hx hb dX0_add_9 (lv_at hl 0 rfl) ?_
  refine lv_iload_n hx hb dX0_add_11 rfl (lv_at hl 7 rfl) ?_
  refine lv_bipush (v := 7) hx hb dX0_add_12 (by decide) ?_
  refine lv_iand hx hb dX0_add_14 ?_
  refine ax_i (y := 1) h3 ?_
  refine lv_iadd hx hb dX0_add_15 ?_
  refine ax_i (y := 4) (by decide) ?_
  refine lv_istore (lv' := [(6, .int 4), (5, .int 3), (9, .int 0), (7, .long (fac.toInt64 * (u (a + 2)))), (0, .ref xl), (1, .int (nI a)), (2, .int (nI b)), (3, .int tn), (4, .int fac)]) hx hb dX0_add_16 hl (by decide) rfl (fun ls hl => ?_)
  refine lv_iload hx hb dX0_add_18 (lv_at hl 8 rfl) ?_
  refine lv_i2l (v := fac.toInt64) hx hb dX0_add_20 rfl ?_
  refine lv_aload_n hx hb dX0_add_21 rfl (lv_at hl 4 rfl) ?_
  refine va_get (D := (dC, dI)) (ci := 0) (v := .ref xn) (C := RX0) (T := TX0) (N := 2) hx hb hts (by decide +kernel) hown hK hP 0 rfl rfl 0 (by decide) (hts (.fieldLink RX0 11 "Diffractory$Light" "now" "[J") (by decide +kernel)) (fun _ h9 => h9) rfl dX0_add_22 ?_
  refine lv_iload_n hx hb dX0_add_25 rfl (lv_at hl 5 rfl) ?_
  refine lv_iload hx hb dX0_add_26 (lv_at hl 1 rfl) ?_
  refine lv_iadd hx hb dX0_add_28 ?_
  refine ax_i (y := (nI (a + 3))) (ax_addN a 3) ?_
  refine va_lald hx hb hK hP 1 0 rfl rfl (ax_in (by omega) (by omega)) dX0_add_29 ?_
  refine ax_l (y := (u (a + 3))) (by rw [nI_clamp (n := a + 3) (by omega)]) ?_
  refine lv_lmul hx hb dX0_add_30 ?_
  refine lv_lstore (lv' := [(7, .long (fac.toInt64 * (u (a + 3)))), (6, .int 4), (5, .int 3), (9, .int 0), (0, .ref xl), (1, .int (nI a)), (2, .int (nI b)), (3, .int tn), (4, .int fac)]) hx hb dX0_add_31 hl (by decide) rfl (fun ls hl => ?_)
  refine lv_iload hx hb dX0_add_33 (lv_at hl 1 rfl) ?_
  refine lv_iconst (v := 4) hx hb dX0_add_35 (by decide) ?_
  refine lv_iand hx hb dX0_add_36 ?_
  refine ax_i (y := 4) (by decide) ?_
  refine lv_if_eq (tgt := 44) hx hb dX0_add_37 (by decide) (fun h9 => absurd h9 (by decide)) (fun _ => ?_)
  refine lv_iconst (v := 1) hx hb dX0_add_40 (by decide) ?_
  refine lv_goto (tgt := 45) hx hb dX0_add_41 (by decide) ?_
  refine lv_istore (lv' := [(9, .int 1), (7, .long (fac.toInt64 * (u (a + 3)))), (6, .int 4), (5, .int 3), (0, .ref xl), (1, .int (nI a)), (2, .int (nI b)), (3, .int tn), (4, .int fac)]) hx hb dX0_add_45 hl (by decide) rfl (fun ls hl => ?_)
  refine lv_aload_n hx hb dX0_add_47 rfl (lv_at hl 4 rfl) ?_
  refine va_get (D := (dC, dI)) (ci := 0) (v := .ref xm) (C := RX0) (T := TX0) (N := 2) hx hb hts (by decide +kernel) hown hK hP 0 rfl rfl 1 (by decide) (hts (.fieldLink RX0 15 "Diffractory$Light" "next" "[J") (by decide +kernel)) (fun _ h9 => h9) rfl dX0_add_48 ?_
  refine lv_iload_n hx hb dX0_add_51 rfl (lv_at hl 6 rfl) ?_
  refine lv_iload hx hb dX0_add_52 (lv_at hl 2 rfl) ?_
  refine lv_iconst (v := 3) hx hb dX0_add_54 (by decide) ?_
  refine lv_iand hx hb dX0_add_55 ?_
  refine ax_i (y := 0) (by decide) ?_
  refine lv_iadd hx hb dX0_add_56 ?_
  refine ax_i (y := (nI (b + 0))) (ax_addN b 0) ?_
  refine lv_dup2_11 hx hb dX0_add_57 rfl rfl ?_
  refine va_lald hx hb hK hP 2 0 rfl rfl (ax_in (by omega) (by omega)) dX0_add_58 ?_
  refine ax_l (y := ((vp_updL (vp_updL (vp_updL g (b + 1) ((g (b + 1)) + (fac.toInt64 * (u (a + 0))))) (b + 2) (((vp_updL g (b + 1) ((g (b + 1)) + (fac.toInt64 * (u (a + 0))))) (b + 2)) + (fac.toInt64 * (u (a + 1))))) (b + 3) (((vp_updL (vp_updL g (b + 1) ((g (b + 1)) + (fac.toInt64 * (u (a + 0))))) (b + 2) (((vp_updL g (b + 1) ((g (b + 1)) + (fac.toInt64 * (u (a + 0))))) (b + 2)) + (fac.toInt64 * (u (a + 1))))) (b + 3)) + (fac.toInt64 * (u (a + 2))))) (b + 0))) (by rw [nI_clamp (n := b + 0) (by omega)]) ?_
  refine lv_iload hx hb dX0_add_59 (lv_at hl 0 rfl) ?_
  refine lv_if_eq (tgt := 70) hx hb dX0_add_61 (by decide) (fun h9 => absurd h9 (by decide)) (fun _ => ?_)
  refine lv_lload hx hb dX0_add_64 (lv_at hl 1 rfl) ?_
  refine lv_lneg hx hb dX0_add_66 ?_
  refine lv_goto (tgt := 72) hx hb dX0_add_67 (by decide) ?_
  refine lv_ladd hx hb dX0_add_72 ?_
  refine va_last hx hb hK hP hD hS 2 0 rfl rfl (ax_in (by omega) (by omega)) dX0_add_73 (fun H locs hP hD hS => ?_)
  rw [nI_clamp (n := b + 0) (by omega)] at hP hD
  have hP : va_P (dC, dI) vwCl [(xl, .inr (0, [.ref xn, .ref xm])), (xn, .inl (cL, 64, .inr (.inl u))), (xm, .inl (cL, 64, .inr (.inl (vp_updL (vp_updL (vp_updL (vp_updL g (b + 1) ((g (b + 1)) + (fac.toInt64 * (u (a + 0))))) (b + 2) (((vp_updL g (b + 1) ((g (b + 1)) + (fac.toInt64 * (u (a + 0))))) (b + 2)) + (fac.toInt64 * (u (a + 1))))) (b + 3) (((vp_updL (vp_updL g (b + 1) ((g (b + 1)) + (fac.toInt64 * (u (a + 0))))) (b + 2) (((vp_updL g (b + 1) ((g (b + 1)) + (fac.toInt64 * (u (a + 0))))) (b + 2)) + (fac.toInt64 * (u (a + 1))))) (b + 3)) + (fac.toInt64 * (u (a + 2))))) (b + 0) (((vp_updL (vp_updL (vp_updL g (b + 1) ((g (b + 1)) + (fac.toInt64 * (u (a + 0))))) (b + 2) (((vp_updL g (b + 1) ((g (b + 1)) + (fac.toInt64 * (u (a + 0))))) (b + 2)) + (fac.toInt64 * (u (a + 1))))) (b + 3) (((vp_updL (vp_updL g (b + 1) ((g (b + 1)) + (fac.toInt64 * (u (a + 0))))) (b + 2) (((vp_updL g (b + 1) ((g (b + 1)) + (fac.toInt64 * (u (a + 0))))) (b + 2)) + (fac.toInt64 * (u (a + 1))))) (b + 3)) + (fac.toInt64 * (u (a + 2))))) (b + 0)) + (-(fac.toInt64 * (u (a + 3)))))))))] H := hP
  have hD : va_D A [(xl, .inr (0, [.ref xn, .ref xm])), (xn, .inl (cL, 64, .inr (.inl u))), (xm, .inl (cL, 64, .inr (.inl (vp_updL (vp_updL (vp_updL (vp_updL g (b + 1) ((g (b + 1)) + (fac.toInt64 * (u (a + 0))))) (b + 2) (((vp_updL g (b + 1) ((g (b + 1)) + (fac.toInt64 * (u (a + 0))))) (b + 2)) + (fac.toInt64 * (u (a + 1))))) (b + 3) (((vp_updL (vp_updL g (b + 1) ((g (b + 1)) + (fac.toInt64 * (u (a + 0))))) (b + 2) (((vp_updL g (b + 1) ((g (b + 1)) + (fac.toInt64 * (u (a + 0))))) (b + 2)) + (fac.toInt64 * (u (a + 1))))) (b + 3)) + (fac.toInt64 * (u (a + 2))))) (b + 0) (((vp_updL (vp_updL (vp_updL g (b + 1) ((g (b + 1)) + (fac.toInt64 * (u (a + 0))))) (b + 2) (((vp_updL g (b + 1) ((g (b + 1)) + (fac.toInt64 * (u (a + 0))))) (b + 2)) + (fac.toInt64 * (u (a + 1))))) (b + 3) (((vp_updL (vp_updL g (b + 1) ((g (b + 1)) + (fac.toInt64 * (u (a + 0))))) (b + 2) (((vp_updL g (b + 1) ((g (b + 1)) + (fac.toInt64 * (u (a + 0))))) (b + 2)) + (fac.toInt64 * (u (a + 1))))) (b + 3)) + (fac.toInt64 * (u (a + 2))))) (b + 0)) + (-(fac.toInt64 * (u (a + 3)))))))))] := hD
  refine lv_iinc (v := 4) (lv' := [(5, .int 4), (9, .int 1), (7, .long (fac.toInt64 * (u (a + 3)))), (6, .int 4), (0, .ref xl), (1, .int (nI a)), (2, .int (nI b)), (3, .int tn), (4, .int fac)]) hx hb dX0_add_74 hl (k := 3) rfl (by decide) (by decide) rfl (fun ls hl => ?_)
  refine lv_goto (tgt := 3) hx hb dX0_add_77 (by decide) ?_
  refine lv_iload hx hb dX0_add_3 (lv_at hl 0 rfl) ?_
  refine lv_iconst (v := 4) hx hb dX0_add_5 (by decide) ?_
  refine lv_icmp_ge (tgt := 80) hx hb dX0_add_6 (by decide) (fun _ => ?_) (fun h9 => absurd (by decide) h9)
  refine W.widen (k := 0) (n := 0) (Nat.le_of_ble_eq_true rfl) (Nat.le_of_ble_eq_true rfl) ?_
  have hP9 := hP.sub (ws' := [(xl, .inr (0, [.ref xn, .ref xm])), (xn, .inl (cL, 64, .inr (.inl u))), (xm, .inl (cL, 64, .inr (.inl (vp_updL (vp_updL (vp_updL (vp_updL g (b + 1) ((g (b + 1)) + (fac.toInt64 * (u (a + 0))))) (b + 2) (((vp_updL g (b + 1) ((g (b + 1)) + (fac.toInt64 * (u (a + 0))))) (b + 2)) + (fac.toInt64 * (u (a + 1))))) (b + 3) (((vp_updL (vp_updL g (b + 1) ((g (b + 1)) + (fac.toInt64 * (u (a + 0))))) (b + 2) (((vp_updL g (b + 1) ((g (b + 1)) + (fac.toInt64 * (u (a + 0))))) (b + 2)) + (fac.toInt64 * (u (a + 1))))) (b + 3)) + (fac.toInt64 * (u (a + 2))))) (b + 0) (((vp_updL (vp_updL (vp_updL g (b + 1) ((g (b + 1)) + (fac.toInt64 * (u (a + 0))))) (b + 2) (((vp_updL g (b + 1) ((g (b + 1)) + (fac.toInt64 * (u (a + 0))))) (b + 2)) + (fac.toInt64 * (u (a + 1))))) (b + 3) (((vp_updL (vp_updL g (b + 1) ((g (b + 1)) + (fac.toInt64 * (u (a + 0))))) (b + 2) (((vp_updL g (b + 1) ((g (b + 1)) + (fac.toInt64 * (u (a + 0))))) (b + 2)) + (fac.toInt64 * (u (a + 1))))) (b + 3)) + (fac.toInt64 * (u (a + 2))))) (b + 0)) + (-(fac.toInt64 * (u (a + 3)))))))))]) [0, 1, 2] rfl
  have hD9 := hD.sub (ws' := [(xl, .inr (0, [.ref xn, .ref xm])), (xn, .inl (cL, 64, .inr (.inl u))), (xm, .inl (cL, 64, .inr (.inl (vp_updL (vp_updL (vp_updL (vp_updL g (b + 1) ((g (b + 1)) + (fac.toInt64 * (u (a + 0))))) (b + 2) (((vp_updL g (b + 1) ((g (b + 1)) + (fac.toInt64 * (u (a + 0))))) (b + 2)) + (fac.toInt64 * (u (a + 1))))) (b + 3) (((vp_updL (vp_updL g (b + 1) ((g (b + 1)) + (fac.toInt64 * (u (a + 0))))) (b + 2) (((vp_updL g (b + 1) ((g (b + 1)) + (fac.toInt64 * (u (a + 0))))) (b + 2)) + (fac.toInt64 * (u (a + 1))))) (b + 3)) + (fac.toInt64 * (u (a + 2))))) (b + 0) (((vp_updL (vp_updL (vp_updL g (b + 1) ((g (b + 1)) + (fac.toInt64 * (u (a + 0))))) (b + 2) (((vp_updL g (b + 1) ((g (b + 1)) + (fac.toInt64 * (u (a + 0))))) (b + 2)) + (fac.toInt64 * (u (a + 1))))) (b + 3) (((vp_updL (vp_updL g (b + 1) ((g (b + 1)) + (fac.toInt64 * (u (a + 0))))) (b + 2) (((vp_updL g (b + 1) ((g (b + 1)) + (fac.toInt64 * (u (a + 0))))) (b + 2)) + (fac.toInt64 * (u (a + 1))))) (b + 3)) + (fac.toInt64 * (u (a + 2))))) (b + 0)) + (-(fac.toInt64 * (u (a + 3)))))))))]) [0, 1, 2] (by decide) rfl
  have hK9 := hK.sub (tys' := [(cL, .long)]) [0] rfl
  have e9 : (vp_updL (vp_updL (vp_updL (vp_updL g (b + 1) ((g (b + 1)) + (fac.toInt64 * (u (a + 0))))) (b + 2) (((vp_updL g (b + 1) ((g (b + 1)) + (fac.toInt64 * (u (a + 0))))) (b + 2)) + (fac.toInt64 * (u (a + 1))))) (b + 3) (((vp_updL (vp_updL g (b + 1) ((g (b + 1)) + (fac.toInt64 * (u (a + 0))))) (b + 2) (((vp_updL g (b + 1) ((g (b + 1)) + (fac.toInt64 * (u (a + 0))))) (b + 2)) + (fac.toInt64 * (u (a + 1))))) (b + 3)) + (fac.toInt64 * (u (a + 2))))) (b + 0) (((vp_updL (vp_updL (vp_updL g (b + 1) ((g (b + 1)) + (fac.toInt64 * (u (a + 0))))) (b + 2) (((vp_updL g (b + 1) ((g (b + 1)) + (fac.toInt64 * (u (a + 0))))) (b + 2)) + (fac.toInt64 * (u (a + 1))))) (b + 3) (((vp_updL (vp_updL g (b + 1) ((g (b + 1)) + (fac.toInt64 * (u (a + 0))))) (b + 2) (((vp_updL g (b + 1) ((g (b + 1)) + (fac.toInt64 * (u (a + 0))))) (b + 2)) + (fac.toInt64 * (u (a + 1))))) (b + 3)) + (fac.toInt64 * (u (a + 2))))) (b + 0)) + (-(fac.toInt64 * (u (a + 3)))))) = ad a b 1 fac u g := by
    refine ax_ad (fun j => ⟨fun q => ?_, fun q => ?_⟩)
    · rcases (show j = b + 0 ∨ j = b + 1 ∨ j = b + 2 ∨ j = b + 3 by omega) with h | h | h | h <;> subst h <;> simp [vp_updL, rt, Nat.add_sub_cancel_left]
    · simp only [vp_updL]
      rw [if_neg (by omega), if_neg (by omega), if_neg (by omega), if_neg (by omega)]
  rw [e9] at hP9 hD9
  exact W.vret hx hb hr (fun t8 ht hW => ⟨⟨(), rfl, trivial, by rw [ht]; exact hP9, va_K.moved hW.alike hK9, hD9⟩, hS.F ht⟩) hS.2.2 dX0_add_80

set_option maxHeartbeats 4000000 in
set_option maxRecDepth 100000 in
theorem c_X0_add_2 (l : Launch) (dC : Nat → ClassId) (dI : Nat → Nat → Nat) (xl xn xm : Nat) (cL : ClassId) (ta : Nat → Nat) (sz : Nat) (u : Nat → Int64) (g : Nat → Int64) (a : Nat) (b : Nat) (tn : Int32) (fac : Int32) (h1 : a + 4 ≤ 64) (h2 : b + 4 ≤ 64) (h3 : tn &&& 7 = nI 2) : Met l yX0_add wsX0_add ({ frames := 0, cells := 0, slots := 0, locals := 0 }) (va_Pc [.ref xl, .int (nI a), .int (nI b), .int tn, .int fac] (ax_W (dC, dI) vwCl [(xl, .inr (0, [.ref xn, .ref xm])), (xn, .inl (cL, 64, .inr (.inl u))), (xm, .inl (cL, 64, .inr (.inl g)))] [(cL, .long)] ta sz)) (va_Qv (fun (u9 : Unit) => True) (fun (u9 : Unit) (t9 : State) => va_P (dC, dI) vwCl [(xl, .inr (0, [.ref xn, .ref xm])), (xn, .inl (cL, 64, .inr (.inl u))), (xm, .inl (cL, 64, .inr (.inl (ad a b 2 fac u g))))] t9.heap ∧ va_K (dC, dI) vwCl [(cL, .long)] t9 ∧ va_D (va_A [(xl, .inr (0, [.ref xn, .ref xm])), (xn, .inl (cL, 64, .inr (.inl u))), (xm, .inl (cL, 64, .inr (.inl g)))] sz) [(xl, .inr (0, [.ref xn, .ref xm])), (xn, .inl (cL, 64, .inr (.inl u))), (xm, .inl (cL, 64, .inr (.inl (ad a b 2 fac u g))))]) (va_A [(xl, .inr (0, [.ref xn, .ref xm])), (xn, .inl (cL, 64, .inr (.inl u))), (xm, .inl (cL, 64, .inr (.inl g)))] sz)) 0 0 (va_A [(xl, .inr (0, [.ref xn, .ref xm])), (xn, .inl (cL, 64, .inr (.inl u))), (xm, .inl (cL, 64, .inr (.inl g)))] sz) := by
  refine Met.ofW (cc := cX0_add) (maxL := 10) (ret := none) (by decide) rfl ?_
  intro p e s m args below meth c s₁ B hml hv
  obtain ⟨rfl, hsz, hP, hK, hD0, hE⟩ := hv
  have hx := B.exec
  have hb := B.bytes
  have hr := B.returns
  have hts := atoms_spec (ws := wsX0_add) B.pre
  have hown : s.vm.findClass RX0 = some m.cls := findClass_of_methodNamed B.named
  have hlocks := B.notSynchronized
  subst hsz
  have hD := hD0.self (sz := s.heap.size)
  generalize hAe : va_A [(xl, .inr (0, [.ref xn, .ref xm])), (xn, .inl (cL, 64, .inr (.inl u))), (xm, .inl (cL, 64, .inr (.inl g)))] s.heap.size = A at hD hE ⊢
  have hA : ∀ q : Nat, s.heap.size ≤ q → A q := fun q h => by rw [← hAe]; exact Or.inr h
  have hS : va_S A s.heap s.heap [] := va_S.rf
  have hl := lv_entry ([.ref xl, .int (nI a), .int (nI b), .int tn, .int fac]) (n := 10) (Nat.le_of_ble_eq_true rfl)
  rw [lg_entry_eq]
  generalize (lg_sl ([.ref xl, .int (nI a), .int (nI b), .int tn, .int fac]) ++ List.replicate (10 - (lg_sl ([.ref xl, .int (nI a), .int (nI b), .int tn, .int fac])).length) Slot.unset).toArray = ls at hl ⊢
  have hl : lv_has ls 10 [(0, .ref xl), (1, .int (nI a)), (2, .int (nI b)), (3, .int tn), (4, .int fac)] := hl
  have hP : va_P (dC, dI) vwCl [(xl, .inr (0, [.ref xn, .ref xm])), (xn, .inl (cL, 64, .inr (.inl u))), (xm, .inl (cL, 64, .inr (.inl g)))] s.heap := hP
  refine lv_iconst (v := 0) hx hb dX0_add_0 (by decide) ?_
  refine lv_istore (lv' := [(5, .int 0), (0, .ref xl), (1, .int (nI a)), (2, .int (nI b)), (3, .int tn), (4, .int fac)]) hx hb dX0_add_1 hl (by decide) rfl (fun ls hl => ?_)
  refine lv_iload hx hb dX0_add_3 (lv_at hl 0 rfl) ?_
  refine lv_iconst (v := 4) hx hb dX0_add_5 (by decide) ?_
  refine lv_icmp_ge (tgt := 80) hx hb dX0_add_6 (by decide) (fun h9 => absurd h9 (by decide)) (fun _ => ?_)
  refine lv_iload hx hb dX0_add_9 (lv_at hl 0 rfl) ?_
  refine lv_iload_n hx hb dX0_add_11 rfl (lv_at hl 4 rfl) ?_
  refine lv_bipush (v := 7) hx hb dX0_add_12 (by decide) ?_
  refine lv_iand hx hb dX0_add_14 ?_
  refine ax_i (y := 2) h3 ?_
  refine lv_iadd hx hb dX0_add_15 ?_
  refine ax_i (y := 2) (by decide) ?_
  refine lv_istore (lv' := [(6, .int 2), (5, .int 0), (0, .ref xl), (1, .int (nI a)), (2, .int (nI b)), (3, .int tn), (4, .int fac)]) hx hb dX0_add_16 hl (by decide) rfl (fun ls hl => ?_)
  refine lv_iload hx hb dX0_add_18 (lv_at hl 6 rfl) ?_
  refine lv_i2l (v := fac.toInt64) hx hb dX0_add_20 rfl ?_
  refine lv_aload_n hx hb dX0_add_21 rfl (lv_at hl 2 rfl) ?_
  refine va_get (D := (dC, dI)) (ci := 0) (v := .ref xn) (C := RX0) (T := TX0) (N := 2) hx hb hts (by decide +kernel) hown hK hP 0 rfl rfl 0 (by decide) (hts (.fieldLink RX0 11 "Diffractory$Light" "now" "[J") (by decide +kernel)) (fun _ h9 => h9) rfl dX0_add_22 ?_
  refine lv_iload_n hx hb dX0_add_25 rfl (lv_at hl 3 rfl) ?_
  refine lv_iload hx hb dX0_add_26 (lv_at hl 1 rfl) ?_
  refine lv_iadd hx hb dX0_add_28 ?_
  refine ax_i (y := (nI (a + 0))) (ax_addN a 0) ?_
  refine va_lald hx hb hK hP 1 0 rfl rfl (ax_in (by omega) (by omega)) dX0_add_29 ?_
  refine ax_l (y := (u (a + 0))) (by rw [nI_clamp (n := a + 0) (by omega)]) ?_
  refine lv_lmul hx hb dX0_add_30 ?_
  refine lv_lstore (lv' := [(7, .long (fac.toInt64 * (u (a + 0)))), (6, .int 2), (5, .int 0), (0, .ref xl), (1, .int (nI a)), (2, .int (nI b)), (3, .int tn), (4, .int fac)]) hx hb dX0_add_31 hl (by decide) rfl (fun ls hl => ?_)
  refine lv_iload hx hb dX0_add_33 (lv_at hl 1 rfl) ?_
  refine lv_iconst (v := 4) hx hb dX0_add_35 (by decide) ?_
  refine lv_iand hx hb dX0_add_36 ?_
  refine ax_i (y := 0) (by decide) ?_
  refine lv_if_eq (tgt := 44) hx hb dX0_add_37 (by decide) (fun _ => ?_) (fun h9 => absurd (by decide) h9)
  refine lv_iconst (v := 0) hx hb dX0_add_44 (by decide) ?_
  refine lv_istore (lv' := [(9, .int 0), (7, .long (fac.toInt64 * (u (a + 0)))), (6, .int 2), (5, .int 0), (0, .ref xl), (1, .int (nI a)), (2, .int (nI b)), (3, .int tn), (4, .int fac)]) hx hb dX0_add_45 hl (by decide) rfl (fun ls hl => ?_)
  refine lv_aload_n hx hb dX0_add_47 rfl (lv_at hl 4 rfl) ?_
  refine va_get (D := (dC, dI)) (ci := 0) (v := .ref xm) (C := RX0) (T := TX0) (N := 2) hx hb hts (by decide +kernel) hown hK hP 0 rfl rfl 1 (by decide) (hts (.fieldLink RX0 15 "Diffractory$Light" "next" "[J") (by decide +kernel)) (fun _ h9 => h9) rfl dX0_add_48 ?_
  refine lv_iload_n hx hb dX0_add_51 rfl (lv_at hl 6 rfl) ?_
  refine lv_iload hx hb dX0_add_52 (lv_at hl 2 rfl) ?_
  refine lv_iconst (v := 3) hx hb dX0_add_54 (by decide) ?_
  refine lv_iand hx hb dX0_add_55 ?_
  refine ax_i (y := 2) (by decide) ?_
  refine lv_iadd hx hb dX0_add_56 ?_
  refine ax_i (y := (nI (b + 2))) (ax_addN b 2) ?_
  refine lv_dup2_11 hx hb dX0_add_57 rfl rfl ?_
  refine va_lald hx hb hK hP 2 0 rfl rfl (ax_in (by omega) (by omega)) dX0_add_58 ?_
  refine ax_l (y := (g (b + 2))) (by rw [nI_clamp (n := b + 2) (by omega)]) ?_
  refine lv_iload hx hb dX0_add_59 (lv_at hl 0 rfl) ?_
  refine lv_if_eq (tgt := 70) hx hb dX0_add_61 (by decide) (fun _ => ?_) (fun h9 => absurd (by decide) h9)
  refine lv_lload hx hb dX0_add_70 (lv_at hl 1 rfl) ?_
  refine lv_ladd hx hb dX0_add_72 ?_
  refine va_last hx hb hK hP hD hS 2 0 rfl rfl (ax_in (by omega) (by omega)) dX0_add_73 (fun H locs hP hD hS => ?_)
  rw [nI_clamp (n := b + 2) (by omega)] at hP hD
  have hP : va_P (dC, dI) vwCl [(xl, .inr (0, [.ref xn, .ref xm])), (xn, .inl (cL, 64, .inr (.inl u))), (xm, .inl (cL, 64, .inr (.inl (vp_updL g (b + 2) ((g (b + 2)) + (fac.toInt64 * (u (a + 0))))))))] H := hP
  have hD : va_D A [(xl, .inr (0, [.ref xn, .ref xm])), (xn, .inl (cL, 64, .inr (.inl u))), (xm, .inl (cL, 64, .inr (.inl (vp_updL g (b + 2) ((g (b + 2)) + (fac.toInt64 * (u (a + 0))))))))] := hD
  refine lv_iinc (v := 1) (lv' := [(5, .int 1), (9, .int 0), (7, .long (fac.toInt64 * (u (a + 0)))), (6, .int 2), (0, .ref xl), (1, .int (nI a)), (2, .int (nI b)), (3, .int tn), (4, .int fac)]) hx hb dX0_add_74 hl (k := 3) rfl (by decide) (by decide) rfl (fun ls hl => ?_)
  refine lv_goto (tgt := 3) hx hb dX0_add_77 (by decide) ?_
  refine lv_iload hx hb dX0_add_3 (lv_at hl 0 rfl) ?_
  refine lv_iconst (v := 4) hx hb dX0_add_5 (by decide) ?_
  refine lv_icmp_ge (tgt := 80) hx hb dX0_add_6 (by decide) (fun h9 => absurd h9 (by decide)) (fun _ => ?_)
  refine lv_iload hx hb dX0_add_9 (lv_at hl 0 rfl) ?_
  refine lv_iload_n hx hb dX0_add_11 rfl (lv_at hl 7 rfl) ?_
  refine lv_bipush (v := 7) hx hb dX0_add_12 (by decide) ?_
  refine lv_iand hx hb dX0_add_14 ?_
  refine ax_i (y := 2) h3 ?_
  refine lv_iadd hx hb dX0_add_15 ?_
  refine ax_i (y := 3) (by decide) ?_
  refine lv_istore (lv' := [(6, .int 3), (5, .int 1), (9, .int 0), (7, .long (fac.toInt64 * (u (a + 0)))), (0, .ref xl), (1, .int (nI a)), (2, .int (nI b)), (3, .int tn), (4, .int fac)]) hx hb dX0_add_16 hl (by decide) rfl (fun ls hl => ?_)
  refine lv_iload hx hb dX0_add_18 (lv_at hl 8 rfl) ?_
  refine lv_i2l (v := fac.toInt64) hx hb dX0_add_20 rfl ?_
  refine lv_aload_n hx hb dX0_add_21 rfl (lv_at hl 4 rfl) ?_
  refine va_get (D := (dC, dI)) (ci := 0) (v := .ref xn) (C := RX0) (T := TX0) (N := 2) hx hb hts (by decide +kernel) hown hK hP 0 rfl rfl 0 (by decide) (hts (.fieldLink RX0 11 "Diffractory$Light" "now" "[J") (by decide +kernel)) (fun _ h9 => h9) rfl dX0_add_22 ?_
  refine lv_iload_n hx hb dX0_add_25 rfl (lv_at hl 5 rfl) ?_
  refine lv_iload hx hb dX0_add_26 (lv_at hl 1 rfl) ?_
  refine lv_iadd hx hb dX0_add_28 ?_
  refine ax_i (y := (nI (a + 1))) (ax_addN a 1) ?_
  refine va_lald hx hb hK hP 1 0 rfl rfl (ax_in (by omega) (by omega)) dX0_add_29 ?_
  refine ax_l (y := (u (a + 1))) (by rw [nI_clamp (n := a + 1) (by omega)]) ?_
  refine lv_lmul hx hb dX0_add_30 ?_
  refine lv_lstore (lv' := [(7, .long (fac.toInt64 * (u (a + 1)))), (6, .int 3), (5, .int 1), (9, .int 0), (0, .ref xl), (1, .int (nI a)), (2, .int (nI b)), (3, .int tn), (4, .int fac)]) hx hb dX0_add_31 hl (by decide) rfl (fun ls hl => ?_)
  refine lv_iload hx hb dX0_add_33 (lv_at hl 1 rfl) ?_
  refine lv_iconst (v := 4) hx hb dX0_add_35 (by decide) ?_
  refine lv_iand hx hb dX0_add_36 ?_
  refine ax_i (y := 0) (by decide) ?_
  refine lv_if_eq (tgt := 44) hx hb dX0_add_37 (by decide) (fun _ => ?_) (fun h9 => absurd (by decide) h9)
  refine lv_iconst (v := 0) hx hb dX0_add_44 (by decide) ?_
  refine lv_istore (lv' := [(9, .int 0), (7, .long (fac.toInt64 * (u (a + 1)))), (6, .int 3), (5, .int 1), (0, .ref xl), (1, .int (nI a)), (2, .int (nI b)), (3, .int tn), (4, .int fac)]) hx hb dX0_add_45 hl (by decide) rfl (fun ls hl => ?_)
  refine lv_aload_n hx hb dX0_add_47 rfl (lv_at hl 4 rfl) ?_
  refine va_get (D := (dC, dI)) (ci := 0) (v := .ref xm) (C := RX0) (T := TX0) (N := 2) hx hb hts (by decide +kernel) hown hK hP 0 rfl rfl 1 (by decide) (hts (.fieldLink RX0 15 "Diffractory$Light" "next" "[J") (by decide +kernel)) (fun _ h9 => h9) rfl dX0_add_48 ?_
  refine lv_iload_n hx hb dX0_add_51 rfl (lv_at hl 6 rfl) ?_
  refine lv_iload hx hb dX0_add_52 (lv_at hl 2 rfl) ?_
  refine lv_iconst (v := 3) hx hb dX0_add_54 (by decide) ?_
  refine lv_iand hx hb dX0_add_55 ?_
  refine ax_i (y := 3) (by decide) ?_
  refine lv_iadd hx hb dX0_add_56 ?_
  refine ax_i (y := (nI (b + 3))) (ax_addN b 3) ?_
  refine lv_dup2_11 hx hb dX0_add_57 rfl rfl ?_
  refine va_lald hx hb hK hP 2 0 rfl rfl (ax_in (by omega) (by omega)) dX0_add_58 ?_
  refine ax_l (y := ((vp_updL g (b + 2) ((g (b + 2)) + (fac.toInt64 * (u (a + 0))))) (b + 3))) (by rw [nI_clamp (n := b + 3) (by omega)]) ?_
  refine lv_iload hx hb dX0_add_59 (lv_at hl 0 rfl) ?_
  refine lv_if_eq (tgt := 70) hx hb dX0_add_61 (by decide) (fun _ => ?_) (fun h9 => absurd (by decide) h9)
  refine lv_lload hx hb dX0_add_70 (lv_at hl 1 rfl) ?_
  refine lv_ladd hx hb dX0_add_72 ?_
  refine va_last hx hb hK hP hD hS 2 0 rfl rfl (ax_in (by omega) (by omega)) dX0_add_73 (fun H locs hP hD hS => ?_)
  rw [nI_clamp (n := b + 3) (by omega)] at hP hD
  have hP : va_P (dC, dI) vwCl [(xl, .inr (0, [.ref xn, .ref xm])), (xn, .inl (cL, 64, .inr (.inl u))), (xm, .inl (cL, 64, .inr (.inl (vp_updL (vp_updL g (b + 2) ((g (b + 2)) + (fac.toInt64 * (u (a + 0))))) (b + 3) (((vp_updL g (b + 2) ((g (b + 2)) + (fac.toInt64 * (u (a + 0))))) (b + 3)) + (fac.toInt64 * (u (a + 1))))))))] H := hP
  have hD : va_D A [(xl, .inr (0, [.ref xn, .ref xm])), (xn, .inl (cL, 64, .inr (.inl u))), (xm, .inl (cL, 64, .inr (.inl (vp_updL (vp_updL g (b + 2) ((g (b + 2)) + (fac.toInt64 * (u (a + 0))))) (b + 3) (((vp_updL g (b + 2) ((g (b + 2)) + (fac.toInt64 * (u (a + 0))))) (b + 3)) + (fac.toInt64 * (u (a + 1))))))))] := hD
  refine lv_iinc (v := 2) (lv' := [(5, .int 2), (9, .int 0), (7, .long (fac.toInt64 * (u (a + 1)))), (6, .int 3), (0, .ref xl), (1, .int (nI a)), (2, .int (nI b)), (3, .int tn), (4, .int fac)]) hx hb dX0_add_74 hl (k := 3) rfl (by decide) (by decide) rfl (fun ls hl => ?_)
  refine lv_goto (tgt := 3) hx hb dX0_add_77 (by decide) ?_
  refine lv_iload hx hb dX0_add_3 (lv_at hl 0 rfl) ?_
  refine lv_iconst (v := 4) hx hb dX0_add_5 (by decide) ?_
  refine lv_icmp_ge (tgt := 80) hx hb dX0_add_6 (by decide) (fun h9 => absurd h9 (by decide)) (fun _ => ?_)
  refine lv_iload hx hb dX0_add_9 (lv_at hl 0 rfl) ?_
  refine lv_iload_n hx hb dX0_add_11 rfl (lv_at hl 7 rfl) ?_
  refine lv_bipush (v := 7) hx hb dX0_add_12 (by decide) ?_
  refine lv_iand hx hb dX0_add_14 ?_
  refine ax_i (y := 2) h3 ?_
  refine lv_iadd hx hb dX0_add_15 ?_
  refine ax_i (y := 4) (by decide) ?_
  refine lv_istore (lv' := [(6, .int 4), (5, .int 2), (9, .int 0), (7, .long (fac.toInt64 * (u (a + 1)))), (0, .ref xl), (1, .int (nI a)), (2, .int (nI b)), (3, .int tn), (4, .int fac)]) hx hb dX0_add_16 hl (by decide) rfl (fun ls hl => ?_)
  refine lv_iload hx hb dX0_add_18 (lv_at hl 8 rfl) ?_
  refine lv_i2l (v := fac.toInt64) hx hb dX0_add_20 rfl ?_
  refine lv_aload_n hx hb dX0_add_21 rfl (lv_at hl 4 rfl) ?_
  refine va_get (D := (dC, dI)) (ci := 0) (v := .ref xn) (C := RX0) (T := TX0) (N := 2) hx hb hts (by decide +kernel) hown hK hP 0 rfl rfl 0 (by decide) (hts (.fieldLink RX0 11 "Diffractory$Light" "now" "[J") (by decide +kernel)) (fun _ h9 => h9) rfl dX0_add_22 ?_
  refine lv_iload_n hx hb dX0_add_25 rfl (lv_at hl 5 rfl) ?_
  refine lv_iload hx hb dX0_add_26 (lv_at hl 1 rfl) ?_
  refine lv_iadd hx hb dX0_add_28 ?_
  refine ax_i (y := (nI (a + 2))) (ax_addN a 2) ?_
  refine va_lald hx hb hK hP 1 0 rfl rfl (ax_in (by omega) (by omega)) dX0_add_29 ?_
  refine ax_l (y := (u (a + 2))) (by rw [nI_clamp (n := a + 2) (by omega)]) ?_
  refine lv_lmul hx hb dX0_add_30 ?_
  refine lv_lstore (lv' := [(7, .long (fac.toInt64 * (u (a + 2)))), (6, .int 4), (5, .int 2), (9, .int 0), (0, .ref xl), (1, .int (nI a)), (2, .int (nI b)), (3, .int tn), (4, .int fac)]) hx hb dX0_add_31 hl (by decide) rfl (fun ls hl => ?_)
  refine lv_iload hx hb dX0_add_33 (lv_at hl 1 rfl) ?_
  refine lv_iconst (v := 4) hx hb dX0_add_35 (by decide) ?_
  refine lv_iand hx hb dX0_add_36 ?_
  refine ax_i (y := 4) (by decide) ?_
  refine lv_if_eq (tgt := 44) hx hb dX0_add_37 (by decide) (fun h9 => absurd h9 (by decide)) (fun _ => ?_)
  refine lv_iconst (v := 1) hx hb dX0_add_40 (by decide) ?_
  refine lv_goto (tgt := 45) hx hb dX0_add_41 (by decide) ?_
  refine lv_istore (lv' := [(9, .int 1), (7, .long (fac.toInt64 * (u (a + 2)))), (6, .int 4), (5, .int 2), (0, .ref xl), (1, .int (nI a)), (2, .int (nI b)), (3, .int tn), (4, .int fac)]) hx hb dX0_add_45 hl (by decide) rfl (fun ls hl => ?_)
  refine lv_aload_n hx hb dX0_add_47 rfl (lv_at hl 4 rfl) ?_
  refine va_get (D := (dC, dI)) (ci := 0) (v := .ref xm) (C := RX0) (T := TX0) (N := 2) hx hb hts (by decide +kernel) hown hK hP 0 rfl rfl 1 (by decide) (hts (.fieldLink RX0 15 "Diffractory$Light" "next" "[J") (by decide +kernel)) (fun _ h9 => h9) rfl dX0_add_48 ?_
  refine lv_iload_n hx hb dX0_add_51 rfl (lv_at hl 6 rfl) ?_
  refine lv_iload hx hb dX0_add_52 (lv_at hl 2 rfl) ?_
  refine lv_iconst (v := 3) hx hb dX0_add_54 (by decide) ?_
  refine lv_iand hx hb dX0_add_55 ?_
  refine ax_i (y := 0) (by decide) ?_
  refine lv_iadd hx hb dX0_add_56 ?_
  refine ax_i (y := (nI (b + 0))) (ax_addN b 0) ?_
  refine lv_dup2_11 hx hb dX0_add_57 rfl rfl ?_
  refine va_lald hx hb hK hP 2 0 rfl rfl (ax_in (by omega) (by omega)) dX0_add_58 ?_
  refine ax_l (y := ((vp_updL (vp_updL g (b + 2) ((g (b + 2)) + (fac.toInt64 * (u (a + 0))))) (b + 3) (((vp_updL g (b + 2) ((g (b + 2)) + (fac.toInt64 * (u (a + 0))))) (b + 3)) + (fac.toInt64 * (u (a + 1))))) (b + 0))) (by rw [nI_clamp (n := b + 0) (by omega)]) ?_
  refine lv_iload hx hb dX0_add_59 (lv_at hl 0 rfl) ?_
  refine lv_if_eq (tgt := 70) hx hb dX0_add_61 (by decide) (fun h9 => absurd h9 (by decide)) (fun _ => ?_)
  refine lv_lload hx hb dX0_add_64 (lv_at hl 1 rfl) ?_
  refine lv_lneg hx hb dX0_add_66 ?_
  refine lv_goto (tgt := 72) hx hb dX0_add_67 (by decide) ?_
  refine lv_ladd hx hb dX0_add_72 ?_
  refine va_last hx hb hK hP hD hS 2 0 rfl rfl (ax_in (by omega) (by omega)) dX0_add_73 (fun H locs hP hD hS => ?_)
  rw [nI_clamp (n := b + 0) (by omega)] at hP hD
  have hP : va_P (dC, dI) vwCl [(xl, .inr (0, [.ref xn, .ref xm])), (xn, .inl (cL, 64, .inr (.inl u))), (xm, .inl (cL, 64, .inr (.inl (vp_updL (vp_updL (vp_updL g (b + 2) ((g (b + 2)) + (fac.toInt64 * (u (a + 0))))) (b + 3) (((vp_updL g (b + 2) ((g (b + 2)) + (fac.toInt64 * (u (a + 0))))) (b + 3)) + (fac.toInt64 * (u (a + 1))))) (b + 0) (((vp_updL (vp_updL g (b + 2) ((g (b + 2)) + (fac.toInt64 * (u (a + 0))))) (b + 3) (((vp_updL g (b + 2) ((g (b + 2)) + (fac.toInt64 * (u (a + 0))))) (b + 3)) + (fac.toInt64 * (u (a + 1))))) (b + 0)) + (-(fac.toInt64 * (u (a + 2)))))))))] H := hP
  have hD : va_D A [(xl, .inr (0, [.ref xn, .ref xm])), (xn, .inl (cL, 64, .inr (.inl u))), (xm, .inl (cL, 64, .inr (.inl (vp_updL (vp_updL (vp_updL g (b + 2) ((g (b + 2)) + (fac.toInt64 * (u (a + 0))))) (b + 3) (((vp_updL g (b + 2) ((g (b + 2)) + (fac.toInt64 * (u (a + 0))))) (b + 3)) + (fac.toInt64 * (u (a + 1))))) (b + 0) (((vp_updL (vp_updL g (b + 2) ((g (b + 2)) + (fac.toInt64 * (u (a + 0))))) (b + 3) (((vp_updL g (b + 2) ((g (b + 2)) + (fac.toInt64 * (u (a + 0))))) (b + 3)) + (fac.toInt64 * (u (a + 1))))) (b + 0)) + (-(fac.toInt64 * (u (a + 2)))))))))] := hD
  refine lv_iinc (v := 3) (lv' := [(5, .int 3), (9, .int 1), (7, .long (fac.toInt64 * (u (a + 2)))), (6, .int 4), (0, .ref xl), (1, .int (nI a)), (2, .int (nI b)), (3, .int tn), (4, .int fac)]) hx hb dX0_add_74 hl (k := 3) rfl (by decide) (by decide) rfl (fun ls hl => ?_)
  refine lv_goto (tgt := 3) hx hb dX0_add_77 (by decide) ?_
  refine lv_iload hx hb dX0_add_3 (lv_at hl 0 rfl) ?_
  refine lv_iconst (v := 4) hx hb dX0_add_5 (by decide) ?_
  refine lv_icmp_ge (tgt := 80) hx hb dX0_add_6 (by decide) (fun h9 => absurd h9 (by decide)) (fun _ => ?_)
  refine lv_iload hx hb dX0_add_9 (lv_at hl 0 rfl) ?_
  refine lv_iload_n hx hb dX0_add_11 rfl (lv_at hl 7 rfl) ?_
  refine lv_bipush (v := 7) hx hb dX0_add_12 (by decide) ?_
  refine lv_iand hx hb dX0_add_14 ?_
  refine ax_i (y := 2) h3 ?_
  refine lv_iadd hx hb dX0_add_15 ?_
  refine ax_i (y := 5) (by decide) ?_
  refine lv_istore (lv' := [(6, .int 5), (5, .int 3), (9, .int 1), (7, .long (fac.toInt64 * (u (a + 2)))), (0, .ref xl), (1, .int (nI a)), (2, .int (nI b)), (3, .int tn), (4, .int fac)]) hx hb dX0_add_16 hl (by decide) rfl (fun ls hl => ?_)
  refine lv_iload hx hb dX0_add_18 (lv_at hl 8 rfl) ?_
  refine lv_i2l (v := fac.toInt64) hx hb dX0_add_20 rfl ?_
  refine lv_aload_n hx hb dX0_add_21 rfl (lv_at hl 4 rfl) ?_
  refine va_get (D := (dC, dI)) (ci := 0) (v := .ref xn) (C := RX0) (T := TX0) (N := 2) hx hb hts (by decide +kernel) hown hK hP 0 rfl rfl 0 (by decide) (hts (.fieldLink RX0 11 "Diffractory$Light" "now" "[J") (by decide +kernel)) (fun _ h9 => h9) rfl dX0_add_22 ?_
  refine lv_iload_n hx hb dX0_add_25 rfl (lv_at hl 5 rfl) ?_
  refine lv_iload hx hb dX0_add_26 (lv_at hl 1 rfl) ?_
  refine lv_iadd hx hb dX0_add_28 ?_
  refine ax_i (y := (nI (a + 3))) (ax_addN a 3) ?_
  refine va_lald hx hb hK hP 1 0 rfl rfl (ax_in (by omega) (by omega)) dX0_add_29 ?_
  refine ax_l (y := (u (a + 3))) (by rw [nI_clamp (n := a + 3) (by omega)]) ?_
  refine lv_lmul hx hb dX0_add_30 ?_
  refine lv_lstore (lv' := [(7, .long (fac.toInt64 * (u (a + 3)))), (6, .int 5), (5, .int 3), (9, .int 1), (0, .ref xl), (1, .int (nI a)), (2, .int (nI b)), (3, .int tn), (4, .int fac)]) hx hb dX0_add_31 hl (by decide) rfl (fun ls hl => ?_)
  refine lv_iload hx hb dX0_add_33 (lv_at hl 1 rfl) ?_
  refine lv_iconst (v := 4) hx hb dX0_add_35 (by decide) ?_
  refine lv_iand hx hb dX0_add_36 ?_
  refine ax_i (y := 4) (by decide) ?_
  refine lv_if_eq (tgt := 44) hx hb dX0_add_37 (by decide) (fun h9 => absurd h9 (by decide)) (fun _ => ?_)
  refine lv_iconst (v := 1) hx hb dX0_add_40 (by decide) ?_
  refine lv_goto (tgt := 45) hx hb dX0_add_41 (by decide) ?_
  refine lv_istore (lv' := [(9, .int 1), (7, .long (fac.toInt64 * (u (a + 3)))), (6, .int 5), (5, .int 3), (0, .ref xl), (1, .int (nI a)), (2, .int (nI b)), (3, .int tn), (4, .int fac)]) hx hb dX0_add_45 hl (by decide) rfl (fun ls hl => ?_)
  refine lv_aload_n hx hb dX0_add_47 rfl (lv_at hl 4 rfl) ?_
  refine va_get (D := (dC, dI)) (ci := 0) (v := .ref xm) (C := RX0) (T := TX0) (N := 2) hx hb hts (by decide +kernel) hown hK hP 0 rfl rfl 1 (by decide) (hts (.fieldLink RX0 15 "Diffractory$Light" "next" "[J") (by decide +kernel)) (fun _ h9 => h9) rfl dX0_add_48 ?_
  refine lv_iload_n hx hb dX0_add_51 rfl (lv_at hl 6 rfl) ?_
  refine lv_iload hx hb dX0_add_52 (lv_at hl 2 rfl) ?_
  refine lv_iconst (v := 3) hx hb dX0_add_54 (by decide) ?_
  refine lv_iand hx hb dX0_add_55 ?_
  refine ax_i (y := 1) (by decide) ?_
  refine lv_iadd hx hb dX0_add_56 ?_
  refine ax_i (y := (nI (b + 1))) (ax_addN b 1) ?_
  refine lv_dup2_11 hx hb dX0_add_57 rfl rfl ?_
  refine va_lald hx hb hK hP 2 0 rfl rfl (ax_in (by omega) (by omega)) dX0_add_58 ?_
  refine ax_l (y := ((vp_updL (vp_updL (vp_updL g (b + 2) ((g (b + 2)) + (fac.toInt64 * (u (a + 0))))) (b + 3) (((vp_updL g (b + 2) ((g (b + 2)) + (fac.toInt64 * (u (a + 0))))) (b + 3)) + (fac.toInt64 * (u (a + 1))))) (b + 0) (((vp_updL (vp_updL g (b + 2) ((g (b + 2)) + (fac.toInt64 * (u (a + 0))))) (b + 3) (((vp_updL g (b + 2) ((g (b + 2)) + (fac.toInt64 * (u (a + 0))))) (b + 3)) + (fac.toInt64 * (u (a + 1))))) (b + 0)) + (-(fac.toInt64 * (u (a + 2)))))) (b + 1))) (by rw [nI_clamp (n := b + 1) (by omega)]) ?_
  refine lv_iload hx hb dX0_add_59 (lv_at hl 0 rfl) ?_
  refine lv_if_eq (tgt := 70) hx hb dX0_add_61 (by decide) (fun h9 => absurd h9 (by decide)) (fun _ => ?_)
  refine lv_lload hx hb dX0_add_64 (lv_at hl 1 rfl) ?_
  refine lv_lneg hx hb dX0_add_66 ?_
  refine lv_goto (tgt := 72) hx hb dX0_add_67 (by decide) ?_
  refine lv_ladd hx hb dX0_add_72 ?_
  refine va_last hx hb hK hP hD hS 2 0 rfl rfl (ax_in (by omega) (by omega)) dX0_add_73 (fun H locs hP hD hS => ?_)
  rw [nI_clamp (n := b + 1) (by omega)] at hP hD
  have hP : va_P (dC, dI) vwCl [(xl, .inr (0, [.ref xn, .ref xm])), (xn, .inl (cL, 64, .inr (.inl u))), (xm, .inl (cL, 64, .inr (.inl (vp_updL (vp_updL (vp_updL (vp_updL g (b + 2) ((g (b + 2)) + (fac.toInt64 * (u (a + 0))))) (b + 3) (((vp_updL g (b + 2) ((g (b + 2)) + (fac.toInt64 * (u (a + 0))))) (b + 3)) + (fac.toInt64 * (u (a + 1))))) (b + 0) (((vp_updL (vp_updL g (b + 2) ((g (b + 2)) + (fac.toInt64 * (u (a + 0))))) (b + 3) (((vp_updL g (b + 2) ((g (b + 2)) + (fac.toInt64 * (u (a + 0))))) (b + 3)) + (fac.toInt64 * (u (a + 1))))) (b + 0)) + (-(fac.toInt64 * (u (a + 2)))))) (b + 1) (((vp_updL (vp_updL (vp_updL g (b + 2) ((g (b + 2)) + (fac.toInt64 * (u (a + 0))))) (b + 3) (((vp_updL g (b + 2) ((g (b + 2)) + (fac.toInt64 * (u (a + 0))))) (b + 3)) + (fac.toInt64 * (u (a + 1))))) (b + 0) (((vp_updL (vp_updL g (b + 2) ((g (b + 2)) + (fac.toInt64 * (u (a + 0))))) (b + 3) (((vp_updL g (b + 2) ((g (b + 2)) + (fac.toInt64 * (u (a + 0))))) (b + 3)) + (fac.toInt64 * (u (a + 1))))) (b + 0)) + (-(fac.toInt64 * (u (a + 2)))))) (b + 1)) + (-(fac.toInt64 * (u (a + 3)))))))))] H := hP
  have hD : va_D A [(xl, .inr (0, [.ref xn, .ref xm])), (xn, .inl (cL, 64, .inr (.inl u))), (xm, .inl (cL, 64, .inr (.inl (vp_updL (vp_updL (vp_updL (vp_updL g (b + 2) ((g (b + 2)) + (fac.toInt64 * (u (a + 0))))) (b + 3) (((vp_updL g (b + 2) ((g (b + 2)) + (fac.toInt64 * (u (a + 0))))) (b + 3)) + (fac.toInt64 * (u (a + 1))))) (b + 0) (((vp_updL (vp_updL g (b + 2) ((g (b + 2)) + (fac.toInt64 * (u (a + 0))))) (b + 3) (((vp_updL g (b + 2) ((g (b + 2)) + (fac.toInt64 * (u (a + 0))))) (b + 3)) + (fac.toInt64 * (u (a + 1))))) (b + 0)) + (-(fac.toInt64 * (u (a + 2)))))) (b + 1) (((vp_updL (vp_updL (vp_updL g (b + 2) ((g (b + 2)) + (fac.toInt64 * (u (a + 0))))) (b + 3) (((vp_updL g (b + 2) ((g (b + 2)) + (fac.toInt64 * (u (a + 0))))) (b + 3)) + (fac.toInt64 * (u (a + 1))))) (b + 0) (((vp_updL (vp_updL g (b + 2) ((g (b + 2)) + (fac.toInt64 * (u (a + 0))))) (b + 3) (((vp_updL g (b + 2) ((g (b + 2)) + (fac.toInt64 * (u (a + 0))))) (b + 3)) + (fac.toInt64 * (u (a + 1))))) (b + 0)) + (-(fac.toInt64 * (u (a + 2)))))) (b + 1)) + (-(fac.toInt64 * (u (a + 3)))))))))] := hD
  refine lv_iinc (v := 4) (lv' := [(5, .int 4), (9, .int 1), (7, .long (fac.toInt64 * (u (a + 3)))), (6, .int 5), (0, .ref xl), (1, .int (nI a)), (2, .int (nI b)), (3, .int tn), (4, .int fac)]) hx hb dX0_add_74 hl (k := 3) rfl (by decide) (by decide) rfl (fun ls hl => ?_)
  refine lv_goto (tgt := 3) hx hb dX0_add_77 (by decide) ?_
  refine lv_iload hx hb dX0_add_3 (lv_at hl 0 rfl) ?_
  refine lv_iconst (v := 4) hx hb dX0_add_5 (by decide) ?_
  refine lv_icmp_ge (tgt := 80) hx hb dX0_add_6 (by decide) (fun _ => ?_) (fun h9 => absurd (by decide) h9)
  refine W.widen (k := 0) (n := 0) (Nat.le_of_ble_eq_true rfl) (Nat.le_of_ble_eq_true rfl) ?_
  have hP9 := hP.sub (ws' := [(xl, .inr (0, [.ref xn, .ref xm])), (xn, .inl (cL, 64, .inr (.inl u))), (xm, .inl (cL, 64, .inr (.inl (vp_updL (vp_updL (vp_updL (vp_updL g (b + 2) ((g (b + 2)) + (fac.toInt64 * (u (a + 0))))) (b + 3) (((vp_updL g (b + 2) ((g (b + 2)) + (fac.toInt64 * (u (a + 0))))) (b + 3)) + (fac.toInt64 * (u (a + 1))))) (b + 0) (((vp_updL (vp_updL g (b + 2) ((g (b + 2)) + (fac.toInt64 * (u (a + 0))))) (b + 3) (((vp_updL g (b + 2) ((g (b + 2)) + (fac.toInt64 * (u (a + 0))))) (b + 3)) + (fac.toInt64 * (u (a + 1))))) (b + 0)) + (-(fac.toInt64 * (u (a + 2)))))) (b + 1) (((vp_updL (vp_updL (vp_updL g (b + 2) ((g (b + 2)) + (fac.toInt64 * (u (a + 0))))) (b + 3) (((vp_updL g (b + 2) ((g (b + 2)) + (fac.toInt64 * (u (a + 0))))) (b + 3)) + (fac.toInt64 * (u (a + 1))))) (b + 0) (((vp_updL (vp_updL g (b + 2) ((g (b + 2)) + (fac.toInt64 * (u (a + 0))))) (b + 3) (((vp_updL g (b + 2) ((g (b + 2)) + (fac.toInt64 * (u (a + 0))))) (b + 3)) + (fac.toInt64 * (u (a + 1))))) (b + 0)) + (-(fac.toInt64 * (u (a + 2)))))) (b + 1)) + (-(fac.toInt64 * (u (a + 3)))))))))]) [0, 1, 2] rfl
  have hD9 := hD.sub (ws' := [(xl, .inr (0, [.ref xn, .ref xm])), (xn, .inl (cL, 64, .inr (.inl u))), (xm, .inl (cL, 64, .inr (.inl (vp_updL (vp_updL (vp_updL (vp_updL g (b + 2) ((g (b + 2)) + (fac.toInt64 * (u (a + 0))))) (b + 3) (((vp_updL g (b + 2) ((g (b + 2)) + (fac.toInt64 * (u (a + 0))))) (b + 3)) + (fac.toInt64 * (u (a + 1))))) (b + 0) (((vp_updL (vp_updL g (b + 2) ((g (b + 2)) + (fac.toInt64 * (u (a + 0))))) (b + 3) (((vp_updL g (b + 2) ((g (b + 2)) + (fac.toInt64 * (u (a + 0))))) (b + 3)) + (fac.toInt64 * (u (a + 1))))) (b + 0)) + (-(fac.toInt64 * (u (a + 2)))))) (b + 1) (((vp_updL (vp_updL (vp_updL g (b + 2) ((g (b + 2)) + (fac.toInt64 * (u (a + 0))))) (b + 3) (((vp_updL g (b + 2) ((g (b + 2)) + (fac.toInt64 * (u (a + 0))))) (b + 3)) + (fac.toInt64 * (u (a + 1))))) (b + 0) (((vp_updL (vp_updL g (b + 2) ((g (b + 2)) + (fac.toInt64 * (u (a + 0))))) (b + 3) (((vp_updL g (b + 2) ((g (b + 2)) + (fac.toInt64 * (u (a + 0))))) (b + 3)) + (fac.toInt64 * (u (a + 1))))) (b + 0)) + (-(fac.toInt64 * (u (a + 2)))))) (b + 1)) + (-(fac.toInt64 * (u (a + 3)))))))))]) [0, 1, 2] (by decide) rfl
  have hK9 := hK.sub (tys' := [(cL, .long)]) [0] rfl
  have e9 : (vp_updL (vp_updL (vp_updL (vp_updL g (b + 2) ((g (b + 2)) + (fac.toInt64 * (u (a + 0))))) (b + 3) (((vp_updL g (b + 2) ((g (b + 2)) + (fac.toInt64 * (u (a + 0))))) (b + 3)) + (fac.toInt64 * (u (a + 1))))) (b + 0) (((vp_updL (vp_updL g (b + 2) ((g (b + 2)) + (fac.toInt64 * (u (a + 0))))) (b + 3) (((vp_updL g (b + 2) ((g (b + 2)) + (fac.toInt64 * (u (a + 0))))) (b + 3)) + (fac.toInt64 * (u (a + 1))))) (b + 0)) + (-(fac.toInt64 * (u (a + 2)))))) (b + 1) (((vp_updL (vp_updL (vp_updL g (b + 2) ((g (b + 2)) + (fac.toInt64 * (u (a + 0))))) (b + 3) (((vp_updL g (b + 2) ((g (b + 2)) + (fac.toInt64 * (u (a + 0))))) (b + 3)) + (fac.toInt64 * (u (a + 1))))) (b + 0) (((vp_updL (vp_updL g (b + 2) ((g (b + 2)) + (fac.toInt64 * (u (a + 0))))) (b + 3) (((vp_updL g (b + 2) ((g (b + 2)) + (fac.toInt64 * (u (a + 0))))) (b + 3)) + (fac.toInt64 * (u (a + 1))))) (b + 0)) + (-(fac.toInt64 * (u (a + 2)))))) (b + 1)) + (-(fac.toInt64 * (u (a + 3)))))) = ad a b 2 fac u g := by
    refine ax_ad (fun j => ⟨fun q => ?_, fun q => ?_⟩)
    · rcases (show j = b + 0 ∨ j = b + 1 ∨ j = b + 2 ∨ j = b + 3 by omega) with h | h | h | h <;> subst h <;> simp [vp_updL, rt, Nat.add_sub_cancel_left]
    · simp only [vp_updL]
      rw [if_neg (by omega), if_neg (by omega), if_neg (by omega), if_neg (by omega)]
  rw [e9] at hP9 hD9
  exact W.vret hx hb hr (fun t8 ht hW => ⟨⟨(), rfl, trivial, by rw [ht]; exact hP9, va_K.moved hW.alike hK9, hD9⟩, hS.F ht⟩) hS.2.2 dX0_add_80

set_option maxHeartbeats 4000000 in
set_option maxRecDepth 100000 in
theorem c_X0_add_3 (l : Launch) (dC : Nat → ClassId) (dI : Nat → Nat → Nat) (xl xn xm : Nat) (cL : ClassId) (ta : Nat → Nat) (sz : Nat) (u : Nat → Int64) (g : Nat → Int64) (a : Nat) (b : Nat) (tn : Int32) (fac : Int32) (h1 : a + 4 ≤ 64) (h2 : b + 4 ≤ 64) (h3 : tn &&& 7 = nI 3) : Met l yX0_add wsX0_add ({ frames := 0, cells := 0, slots := 0, locals := 0 }) (va_Pc [.ref xl, .int (nI a), .int (nI b), .int tn, .int fac] (ax_W (dC, dI) vwCl [(xl, .inr (0, [.ref xn, .ref xm])), (xn, .inl (cL, 64, .inr (.inl u))), (xm, .inl (cL, 64, .inr (.inl g)))] [(cL, .long)] ta sz)) (va_Qv (fun (u9 : Unit) => True) (fun (u9 : Unit) (t9 : State) => va_P (dC, dI) vwCl [(xl, .inr (0, [.ref xn, .ref xm])), (xn, .inl (cL, 64, .inr (.inl u))), (xm, .inl (cL, 64, .inr (.inl (ad a b 3 fac u g))))] t9.heap ∧ va_K (dC, dI) vwCl [(cL, .long)] t9 ∧ va_D (va_A [(xl, .inr (0, [.ref xn, .ref xm])), (xn, .inl (cL, 64, .inr (.inl u))), (xm, .inl (cL, 64, .inr (.inl g)))] sz) [(xl, .inr (0, [.ref xn, .ref xm])), (xn, .inl (cL, 64, .inr (.inl u))), (xm, .inl (cL, 64, .inr (.inl (ad a b 3 fac u g))))]) (va_A [(xl, .inr (0, [.ref xn, .ref xm])), (xn, .inl (cL, 64, .inr (.inl u))), (xm, .inl (cL, 64, .inr (.inl g)))] sz)) 0 0 (va_A [(xl, .inr (0, [.ref xn, .ref xm])), (xn, .inl (cL, 64, .inr (.inl u))), (xm, .inl (cL, 64, .inr (.inl g)))] sz) := by
  refine Met.ofW (cc := cX0_add) (maxL := 10) (ret := none) (by decide) rfl ?_
  intro p e s m args below meth c s₁ B hml hv
  obtain ⟨rfl, hsz, hP, hK, hD0, hE⟩ := hv
  have hx := B.exec
  have hb := B.bytes
  have hr := B.returns
  have hts := atoms_spec (ws := wsX0_add) B.pre
  have hown : s.vm.findClass RX0 = some m.cls := findClass_of_methodNamed B.named
  have hlocks := B.notSynchronized
  subst hsz
  have hD := hD0.self (sz := s.heap.size)
  generalize hAe : va_A [(xl, .inr (0, [.ref xn, .ref xm])), (xn, .inl (cL, 64, .inr (.inl u))), (xm, .inl (cL, 64, .inr (.inl g)))] s.heap.size = A at hD hE ⊢
  have hA : ∀ q : Nat, s.heap.size ≤ q → A q := fun q h => by rw [← hAe]; exact Or.inr h
  have hS : va_S A s.heap s.heap [] := va_S.rf
  have hl := lv_entry ([.ref xl, .int (nI a), .int (nI b), .int tn, .int fac]) (n := 10) (Nat.le_of_ble_eq_true rfl)
  rw [lg_entry_eq]
  generalize (lg_sl ([.ref xl, .int (nI a), .int (nI b), .int tn, .int fac]) ++ List.replicate (10 - (lg_sl ([.ref xl, .int (nI a), .int (nI b), .int tn, .int fac])).length) Slot.unset).toArray = ls at hl ⊢
  have hl : lv_has ls 10 [(0, .ref xl), (1, .int (nI a)), (2, .int (nI b)), (3, .int tn), (4, .int fac)] := hl
  have hP : va_P (dC, dI) vwCl [(xl, .inr (0, [.ref xn, .ref xm])), (xn, .inl (cL, 64, .inr (.inl u))), (xm, .inl (cL, 64, .inr (.inl g)))] s.heap := hP
  refine lv_iconst (v := 0) hx hb dX0_add_0 (by decide) ?_
  refine lv_istore (lv' := [(5, .int 0), (0, .ref xl), (1, .int (nI a)), (2, .int (nI b)), (3, .int tn), (4, .int fac)]) hx hb dX0_add_1 hl (by decide) rfl (fun ls hl => ?_)
  refine lv_iload hx hb dX0_add_3 (lv_at hl 0 rfl) ?_
  refine lv_iconst (v := 4) hx hb dX0_add_5 (by decide) ?_
  refine lv_icmp_ge (tgt := 80) hx hb dX0_add_6 (by decide) (fun h9 => absurd h9 (by decide)) (fun _ => ?_)
  refine lv_iload hx hb dX0_add_9 (lv_at hl 0 rfl) ?_
  refine lv_iload_n hx hb dX0_add_11 rfl (lv_at hl 4 rfl) ?_
  refine lv_bipush (v := 7) hx hb dX0_add_12 (by decide) ?_
  refine lv_iand hx hb dX0_add_14 ?_
  refine ax_i (y := 3) h3 ?_
  refine lv_iadd hx hb dX0_add_15 ?_
  refine ax_i (y := 3) (by decide) ?_
  refine lv_istore (lv' := [(6, .int 3), (5, .int 0), (0, .ref xl), (1, .int (nI a)), (2, .int (nI b)), (3, .int tn), (4, .int fac)]) hx hb dX0_add_16 hl (by decide) rfl (fun ls hl => ?_)
  refine lv_iload hx hb dX0_add_18 (lv_at hl 6 rfl) ?_
  refine lv_i2l (v := fac.toInt64) hx hb dX0_add_20 rfl ?_
  refine lv_aload_n hx hb dX0_add_21 rfl (lv_at hl 2 rfl) ?_
  refine va_get (D := (dC, dI)) (ci := 0) (v := .ref xn) (C := RX0) (T := TX0) (N := 2) hx hb hts (by decide +kernel) hown hK hP 0 rfl rfl 0 (by decide) (hts (.fieldLink RX0 11 "Diffractory$Light" "now" "[J") (by decide +kernel)) (fun _ h9 => h9) rfl dX0_add_22 ?_
  refine lv_iload_n hx hb dX0_add_25 rfl (lv_at hl 3 rfl) ?_
  refine lv_iload hx hb dX0_add_26 (lv_at hl 1 rfl) ?_
  refine lv_iadd hx hb dX0_add_28 ?_
  refine ax_i (y := (nI (a + 0))) (ax_addN a 0) ?_
  refine va_lald hx hb hK hP 1 0 rfl rfl (ax_in (by omega) (by omega)) dX0_add_29 ?_
  refine ax_l (y := (u (a + 0))) (by rw [nI_clamp (n := a + 0) (by omega)]) ?_
  refine lv_lmul hx hb dX0_add_30 ?_
  refine lv_lstore (lv' := [(7, .long (fac.toInt64 * (u (a + 0)))), (6, .int 3), (5, .int 0), (0, .ref xl), (1, .int (nI a)), (2, .int (nI b)), (3, .int tn), (4, .int fac)]) hx hb dX0_add_31 hl (by decide) rfl (fun ls hl => ?_)
  refine lv_iload hx hb dX0_add_33 (lv_at hl 1 rfl) ?_
  refine lv_iconst (v := 4) hx hb dX0_add_35 (by decide) ?_
  refine lv_iand hx hb dX0_add_36 ?_
  refine ax_i (y := 0) (by decide) ?_
  refine lv_if_eq (tgt := 44) hx hb dX0_add_37 (by decide) (fun _ => ?_) (fun h9 => absurd (by decide) h9)
  refine lv_iconst (v := 0) hx hb dX0_add_44 (by decide) ?_
  refine lv_istore (lv' := [(9, .int 0), (7, .long (fac.toInt64 * (u (a + 0)))), (6, .int 3), (5, .int 0), (0, .ref xl), (1, .int (nI a)), (2, .int (nI b)), (3, .int tn), (4, .int fac)]) hx hb dX0_add_45 hl (by decide) rfl (fun ls hl => ?_)
  refine lv_aload_n hx hb dX0_add_47 rfl (lv_at hl 4 rfl) ?_
  refine va_get (D := (dC, dI)) (ci := 0) (v := .ref xm) (C := RX0) (T := TX0) (N := 2) hx hb hts (by decide +kernel) hown hK hP 0 rfl rfl 1 (by decide) (hts (.fieldLink RX0 15 "Diffractory$Light" "next" "[J") (by decide +kernel)) (fun _ h9 => h9) rfl dX0_add_48 ?_
  refine lv_iload_n hx hb dX0_add_51 rfl (lv_at hl 6 rfl) ?_
  refine lv_iload hx hb dX0_add_52 (lv_at hl 2 rfl) ?_
  refine lv_iconst (v := 3) hx hb dX0_add_54 (by decide) ?_
  refine lv_iand hx hb dX0_add_55 ?_
  refine ax_i (y := 3) (by decide) ?_
  refine lv_iadd hx hb dX0_add_56 ?_
  refine ax_i (y := (nI (b + 3))) (ax_addN b 3) ?_
  refine lv_dup2_11 hx hb dX0_add_57 rfl rfl ?_
  refine va_lald hx hb hK hP 2 0 rfl rfl (ax_in (by omega) (by omega)) dX0_add_58 ?_
  refine ax_l (y := (g (b + 3))) (by rw [nI_clamp (n := b + 3) (by omega)]) ?_
  refine lv_iload hx hb dX0_add_59 (lv_at hl 0 rfl) ?_
  refine lv_if_eq (tgt := 70) hx hb dX0_add_61 (by decide) (fun _ => ?_) (fun h9 => absurd (by decide) h9)
  refine lv_lload hx hb dX0_add_70 (lv_at hl 1 rfl) ?_
  refine lv_ladd hx hb dX0_add_72 ?_
  refine va_last hx hb hK hP hD hS 2 0 rfl rfl (ax_in (by omega) (by omega)) dX0_add_73 (fun H locs hP hD hS => ?_)
  rw [nI_clamp (n := b + 3) (by omega)] at hP hD
  have hP : va_P (dC, dI) vwCl [(xl, .inr (0, [.ref xn, .ref xm])), (xn, .inl (cL, 64, .inr (.inl u))), (xm, .inl (cL, 64, .inr (.inl (vp_updL g (b + 3) ((g (b + 3)) + (fac.toInt64 * (u (a + 0))))))))] H := hP
  have hD : va_D A [(xl, .inr (0, [.ref xn, .ref xm])), (xn, .inl (cL, 64, .inr (.inl u))), (xm, .inl (cL, 64, .inr (.inl (vp_updL g (b + 3) ((g (b + 3)) + (fac.toInt64 * (u (a + 0))))))))] := hD
  refine lv_iinc (v := 1) (lv' := [(5, .int 1), (9, .int 0), (7, .long (fac.toInt64 * (u (a + 0)))), (6, .int 3), (0, .ref xl), (1, .int (nI a)), (2, .int (nI b)), (3, .int tn), (4, .int fac)]) hx hb dX0_add_74 hl (k := 3) rfl (by decide) (by decide) rfl (fun ls hl => ?_)
  refine lv_goto (tgt := 3) hx hb dX0_add_77 (by decide) ?_
  refine lv_iload hx hb dX0_add_3 (lv_at hl 0 rfl) ?_
  refine lv_iconst (v := 4) hx hb dX0_add_5 (by decide) ?_
  refine lv_icmp_ge (tgt := 80) hx hb dX0_add_6 (by decide) (fun h9 => absurd h9 (by decide)) (fun _ => ?_)
  refine lv_iload hx hb dX0_add_9 (lv_at hl 0 rfl) ?_
  refine lv_iload_n hx hb dX0_add_11 rfl (lv_at hl 7 rfl) ?_
  refine lv_bipush (v := 7) hx hb dX0_add_12 (by decide) ?_
  refine lv_iand hx hb dX0_add_14 ?_
  refine ax_i (y := 3) h3 ?_
  refine lv_iadd hx hb dX0_add_15 ?_
  refine ax_i (y := 4) (by decide) ?_
  refine lv_istore (lv' := [(6, .int 4), (5, .int 1), (9, .int 0), (7, .long (fac.toInt64 * (u (a + 0)))), (0, .ref xl), (1, .int (nI a)), (2, .int (nI b)), (3, .int tn), (4, .int fac)]) hx hb dX0_add_16 hl (by decide) rfl (fun ls hl => ?_)
  refine lv_iload hx hb dX0_add_18 (lv_at hl 8 rfl) ?_
  refine lv_i2l (v := fac.toInt64) hx hb dX0_add_20 rfl ?_
  refine lv_aload_n hx hb dX0_add_21 rfl (lv_at hl 4 rfl) ?_
  refine va_get (D := (dC, dI)) (ci := 0) (v := .ref xn) (C := RX0) (T := TX0) (N := 2) hx hb hts (by decide +kernel) hown hK hP 0 rfl rfl 0 (by decide) (hts (.fieldLink RX0 11 "Diffractory$Light" "now" "[J") (by decide +kernel)) (fun _ h9 => h9) rfl dX0_add_22 ?_
  refine lv_iload_n hx hb dX0_add_25 rfl (lv_at hl 5 rfl) ?_
  refine lv_iload hx hb dX0_add_26 (lv_at hl 1 rfl) ?_
  refine lv_iadd hx hb dX0_add_28 ?_
  refine ax_i (y := (nI (a + 1))) (ax_addN a 1) ?_
  refine va_lald hx hb hK hP 1 0 rfl rfl (ax_in (by omega) (by omega)) dX0_add_29 ?_
  refine ax_l (y := (u (a + 1))) (by rw [nI_clamp (n := a + 1) (by omega)]) ?_
  refine lv_lmul hx hb dX0_add_30 ?_
  refine lv_lstore (lv' := [(7, .long (fac.toInt64 * (u (a + 1)))), (6, .int 4), (5, .int 1), (9, .int 0), (0, .ref xl), (1, .int (nI a)), (2, .int (nI b)), (3, .int tn), (4, .int fac)]) hx hb dX0_add_31 hl (by decide) rfl (fun ls hl => ?_)
  refine lv_iload hx hb dX0_add_33 (lv_at hl 1 rfl) ?_
  refine lv_iconst (v := 4) hx hb dX0_add_35 (by decide) ?_
  refine lv_iand hx hb dX0_add_36 ?_
  refine ax_i (y := 4) (by decide) ?_
  refine lv_if_eq (tgt := 44) hx hb dX0_add_37 (by decide) (fun h9 => absurd h9 (by decide)) (fun _ => ?_)
  refine lv_iconst (v := 1) hx hb dX0_add_40 (by decide) ?_
  refine lv_goto (tgt := 45) hx hb dX0_add_41 (by decide) ?_
  refine lv_istore (lv' := [(9, .int 1), (7, .long (fac.toInt64 * (u (a + 1)))), (6, .int 4), (5, .int 1), (0, .ref xl), (1, .int (nI a)), (2, .int (nI b)), (3, .int tn), (4, .int fac)]) hx hb dX0_add_45 hl (by decide) rfl (fun ls hl => ?_)
  refine lv_aload_n hx hb dX0_add_47 rfl (lv_at hl 4 rfl) ?_
  refine va_get (D := (dC, dI)) (ci := 0) (v := .ref xm) (C := RX0) (T := TX0) (N := 2) hx hb hts (by decide +kernel) hown hK hP 0 rfl rfl 1 (by decide) (hts (.fieldLink RX0 15 "Diffractory$Light" "next" "[J") (by decide +kernel)) (fun _ h9 => h9) rfl dX0_add_48 ?_
  refine lv_iload_n hx hb dX0_add_51 rfl (lv_at hl 6 rfl) ?_
  refine lv_iload hx hb dX0_add_52 (lv_at hl 2 rfl) ?_
  refine lv_iconst (v := 3) hx hb dX0_add_54 (by decide) ?_
  refine lv_iand hx hb dX0_add_55 ?_
  refine ax_i (y := 0) (by decide) ?_
  refine lv_iadd hx hb dX0_add_56 ?_
  refine ax_i (y := (nI (b + 0))) (ax_addN b 0) ?_
  refine lv_dup2_11 hx hb dX0_add_57 rfl rfl ?_
  refine va_lald hx hb hK hP 2 0 rfl rfl (ax_in (by omega) (by omega)) dX0_add_58 ?_
  refine ax_l (y := ((vp_updL g (b + 3) ((g (b + 3)) + (fac.toInt64 * (u (a + 0))))) (b + 0))) (by rw [nI_clamp (n := b + 0) (by omega)]) ?_
  refine lv_iload hx hb dX0_add_59 (lv_at hl 0 rfl) ?_
  refine lv_if_eq (tgt := 70) hx hb dX0_add_61 (by decide) (fun h9 => absurd h9 (by decide)) (fun _ => ?_)
  refine lv_lload hx hb dX0_add_64 (lv_at hl 1 rfl) ?_
  refine lv_lneg hx hb dX0_add_66 ?_
  refine lv_goto (tgt := 72) hx hb dX0_add_67 (by decide) ?_
  refine lv_ladd hx hb dX0_add_72 ?_
  refine va_last hx hb hK hP hD hS 2 0 rfl rfl (ax_in (by omega) (by omega)) dX0_add_73 (fun H locs hP hD hS => ?_)
  rw [nI_clamp (n := b + 0) (by omega)] at hP hD
  have hP : va_P (dC, dI) vwCl [(xl, .inr (0, [.ref xn, .ref xm])), (xn, .inl (cL, 64, .inr (.inl u))), (xm, .inl (cL, 64, .inr (.inl (vp_updL (vp_updL g (b + 3) ((g (b + 3)) + (fac.toInt64 * (u (a + 0))))) (b + 0) (((vp_updL g (b + 3) ((g (b + 3)) + (fac.toInt64 * (u (a + 0))))) (b + 0)) + (-(fac.toInt64 * (u (a + 1)))))))))] H := hP
  have hD : va_D A [(xl, .inr (0, [.ref xn, .ref xm])), (xn, .inl (cL, 64, .inr (.inl u))), (xm, .inl (cL, 64, .inr (.inl (vp_updL (vp_updL g (b + 3) ((g (b + 3)) + (fac.toInt64 * (u (a + 0))))) (b + 0) (((vp_updL g (b + 3) ((g (b + 3)) + (fac.toInt64 * (u (a + 0))))) (b + 0)) + (-(fac.toInt64 * (u (a + 1)))))))))] := hD
  refine lv_iinc (v := 2) (lv' := [(5, .int 2), (9, .int 1), (7, .long (fac.toInt64 * (u (a + 1)))), (6, .int 4), (0, .ref xl), (1, .int (nI a)), (2, .int (nI b)), (3, .int tn), (4, .int fac)]) hx hb dX0_add_74 hl (k := 3) rfl (by decide) (by decide) rfl (fun ls hl => ?_)
  refine lv_goto (tgt := 3) hx hb dX0_add_77 (by decide) ?_
  refine lv_iload hx hb dX0_add_3 (lv_at hl 0 rfl) ?_
  refine lv_iconst (v := 4) hx hb dX0_add_5 (by decide) ?_
  refine lv_icmp_ge (tgt := 80) hx hb dX0_add_6 (by decide) (fun h9 => absurd h9 (by decide)) (fun _ => ?_)
  refine lv_iload hx hb dX0_add_9 (lv_at hl 0 rfl) ?_
  refine lv_iload_n hx hb dX0_add_11 rfl (lv_at hl 7 rfl) ?_
  refine lv_bipush (v := 7) hx hb dX0_add_12 (by decide) ?_
  refine lv_iand hx hb dX0_add_14 ?_
  refine ax_i (y := 3) h3 ?_
  refine lv_iadd hx hb dX0_add_15 ?_
  refine ax_i (y := 5) (by decide) ?_
  refine lv_istore (lv' := [(6, .int 5), (5, .int 2), (9, .int 1), (7, .long (fac.toInt64 * (u (a + 1)))), (0, .ref xl), (1, .int (nI a)), (2, .int (nI b)), (3, .int tn), (4, .int fac)]) hx hb dX0_add_16 hl (by decide) rfl (fun ls hl => ?_)
  refine lv_iload hx hb dX0_add_18 (lv_at hl 8 rfl) ?_
  refine lv_i2l (v := fac.toInt64) hx hb dX0_add_20 rfl ?_
  refine lv_aload_n hx hb dX0_add_21 rfl (lv_at hl 4 rfl) ?_
  refine va_get (D := (dC, dI)) (ci := 0) (v := .ref xn) (C := RX0) (T := TX0) (N := 2) hx hb hts (by decide +kernel) hown hK hP 0 rfl rfl 0 (by decide) (hts (.fieldLink RX0 11 "Diffractory$Light" "now" "[J") (by decide +kernel)) (fun _ h9 => h9) rfl dX0_add_22 ?_
  refine lv_iload_n hx hb dX0_add_25 rfl (lv_at hl 5 rfl) ?_
  refine lv_iload hx hb dX0_add_26 (lv_at hl 1 rfl) ?_
  refine lv_iadd hx hb dX0_add_28 ?_
  refine ax_i (y := (nI (a + 2))) (ax_addN a 2) ?_
  refine va_lald hx hb hK hP 1 0 rfl rfl (ax_in (by omega) (by omega)) dX0_add_29 ?_
  refine ax_l (y := (u (a + 2))) (by rw [nI_clamp (n := a + 2) (by omega)]) ?_
  refine lv_lmul hx hb dX0_add_30 ?_
  refine lv_lstore (lv' := [(7, .long (fac.toInt64 * (u (a + 2)))), (6, .int 5), (5, .int 2), (9, .int 1), (0, .ref xl), (1, .int (nI a)), (2, .int (nI b)), (3, .int tn), (4, .int fac)]) hx hb dX0_add_31 hl (by decide) rfl (fun ls hl => ?_)
  refine lv_iload hx hb dX0_add_33 (lv_at hl 1 rfl) ?_
  refine lv_iconst (v := 4) hx hb dX0_add_35 (by decide) ?_
  refine lv_iand hx hb dX0_add_36 ?_
  refine ax_i (y := 4) (by decide) ?_
  refine lv_if_eq (tgt := 44) hx hb dX0_add_37 (by decide) (fun h9 => absurd h9 (by decide)) (fun _ => ?_)
  refine lv_iconst (v := 1) hx hb dX0_add_40 (by decide) ?_
  refine lv_goto (tgt := 45) hx hb dX0_add_41 (by decide) ?_
  refine lv_istore (lv' := [(9, .int 1), (7, .long (fac.toInt64 * (u (a + 2)))), (6, .int 5), (5, .int 2), (0, .ref xl), (1, .int (nI a)), (2, .int (nI b)), (3, .int tn), (4, .int fac)]) hx hb dX0_add_45 hl (by decide) rfl (fun ls hl => ?_)
  refine lv_aload_n hx hb dX0_add_47 rfl (lv_at hl 4 rfl) ?_
  refine va_get (D := (dC, dI)) (ci := 0) (v := .ref xm) (C := RX0) (T := TX0) (N := 2) hx hb hts (by decide +kernel) hown hK hP 0 rfl rfl 1 (by decide) (hts (.fieldLink RX0 15 "Diffractory$Light" "next" "[J") (by decide +kernel)) (fun _ h9 => h9) rfl dX0_add_48 ?_
  refine lv_iload_n hx hb dX0_add_51 rfl (lv_at hl 6 rfl) ?_
  refine lv_iload hx hb dX0_add_52 (lv_at hl 2 rfl) ?_
  refine lv_iconst (v := 3) hx hb dX0_add_54 (by decide) ?_
  refine lv_iand hx hb dX0_add_55 ?_
  refine ax_i (y := 1) (by decide) ?_
  refine lv_iadd hx hb dX0_add_56 ?_
  refine ax_i (y := (nI (b + 1))) (ax_addN b 1) ?_
  refine lv_dup2_11 hx hb dX0_add_57 rfl rfl ?_
  refine va_lald hx hb hK hP 2 0 rfl rfl (ax_in (by omega) (by omega)) dX0_add_58 ?_
  refine ax_l (y := ((vp_updL (vp_updL g (b + 3) ((g (b + 3)) + (fac.toInt64 * (u (a + 0))))) (b + 0) (((vp_updL g (b + 3) ((g (b + 3)) + (fac.toInt64 * (u (a + 0))))) (b + 0)) + (-(fac.toInt64 * (u (a + 1)))))) (b + 1))) (by rw [nI_clamp (n := b + 1) (by omega)]) ?_
  refine lv_iload hx hb dX0_add_59 (lv_at hl 0 rfl) ?_
  refine lv_if_eq (tgt := 70) hx hb dX0_add_61 (by decide) (fun h9 => absurd h9 (by decide)) (fun _ => ?_)
  refine lv_lload hx hb dX0_add_64 (lv_at hl 1 rfl) ?_
  refine lv_lneg hx hb dX0_add_66 ?_
  refine lv_goto (tgt := 72) hx hb dX0_add_67 (by decide) ?_
  refine lv_ladd hx hb dX0_add_72 ?_
  refine va_last hx hb hK hP hD hS 2 0 rfl rfl (ax_in (by omega) (by omega)) dX0_add_73 (fun H locs hP hD hS => ?_)
  rw [nI_clamp (n := b + 1) (by omega)] at hP hD
  have hP : va_P (dC, dI) vwCl [(xl, .inr (0, [.ref xn, .ref xm])), (xn, .inl (cL, 64, .inr (.inl u))), (xm, .inl (cL, 64, .inr (.inl (vp_updL (vp_updL (vp_updL g (b + 3) ((g (b + 3)) + (fac.toInt64 * (u (a + 0))))) (b + 0) (((vp_updL g (b + 3) ((g (b + 3)) + (fac.toInt64 * (u (a + 0))))) (b + 0)) + (-(fac.toInt64 * (u (a + 1)))))) (b + 1) (((vp_updL (vp_updL g (b + 3) ((g (b + 3)) + (fac.toInt64 * (u (a + 0))))) (b + 0) (((vp_updL g (b + 3) ((g (b + 3)) + (fac.toInt64 * (u (a + 0))))) (b + 0)) + (-(fac.toInt64 * (u (a + 1)))))) (b + 1)) + (-(fac.toInt64 * (u (a + 2)))))))))] H := hP
  have hD : va_D A [(xl, .inr (0, [.ref xn, .ref xm])), (xn, .inl (cL, 64, .inr (.inl u))), (xm, .inl (cL, 64, .inr (.inl (vp_updL (vp_updL (vp_updL g (b + 3) ((g (b + 3)) + (fac.toInt64 * (u (a + 0))))) (b + 0) (((vp_updL g (b + 3) ((g (b + 3)) + (fac.toInt64 * (u (a + 0))))) (b + 0)) + (-(fac.toInt64 * (u (a + 1)))))) (b + 1) (((vp_updL (vp_updL g (b + 3) ((g (b + 3)) + (fac.toInt64 * (u (a + 0))))) (b + 0) (((vp_updL g (b + 3) ((g (b + 3)) + (fac.toInt64 * (u (a + 0))))) (b + 0)) + (-(fac.toInt64 * (u (a + 1)))))) (b + 1)) + (-(fac.toInt64 * (u (a + 2)))))))))] := hD
  refine lv_iinc (v := 3) (lv' := [(5, .int 3), (9, .int 1), (7, .long (fac.toInt64 * (u (a + 2)))), (6, .int 5), (0, .ref xl), (1, .int (nI a)), (2, .int (nI b)), (3, .int tn), (4, .int fac)]) hx hb dX0_add_74 hl (k := 3) rfl (by decide) (by decide) rfl (fun ls hl => ?_)
  refine lv_goto (tgt := 3) hx hb dX0_add_77 (by decide) ?_
  refine lv_iload hx hb dX0_add_3 (lv_at hl 0 rfl) ?_
  refine lv_iconst (v := 4) hx hb dX0_add_5 (by decide) ?_
  refine lv_icmp_ge (tgt := 80) hx hb dX0_add_6 (by decide) (fun h9 => absurd h9 (by decide)) (fun _ => ?_)
  refine lv_iload hx hb dX0_add_9 (lv_at hl 0 rfl) ?_
  refine lv_iload_n hx hb dX0_add_11 rfl (lv_at hl 7 rfl) ?_
  refine lv_bipush (v := 7) hx hb dX0_add_12 (by decide) ?_
  refine lv_iand hx hb dX0_add_14 ?_
  refine ax_i (y := 3) h3 ?_
  refine lv_iadd hx hb dX0_add_15 ?_
  refine ax_i (y := 6) (by decide) ?_
  refine lv_istore (lv' := [(6, .int 6), (5, .int 3), (9, .int 1), (7, .long (fac.toInt64 * (u (a + 2)))), (0, .ref xl), (1, .int (nI a)), (2, .int (nI b)), (3, .int tn), (4, .int fac)]) hx hb dX0_add_16 hl (by decide) rfl (fun ls hl => ?_)
  refine lv_iload hx hb dX0_add_18 (lv_at hl 8 rfl) ?_
  refine lv_i2l (v := fac.toInt64) hx hb dX0_add_20 rfl ?_
  refine lv_aload_n hx hb dX0_add_21 rfl (lv_at hl 4 rfl) ?_
  refine va_get (D := (dC, dI)) (ci := 0) (v := .ref xn) (C := RX0) (T := TX0) (N := 2) hx hb hts (by decide +kernel) hown hK hP 0 rfl rfl 0 (by decide) (hts (.fieldLink RX0 11 "Diffractory$Light" "now" "[J") (by decide +kernel)) (fun _ h9 => h9) rfl dX0_add_22 ?_
  refine lv_iload_n hx hb dX0_add_25 rfl (lv_at hl 5 rfl) ?_
  refine lv_iload hx hb dX0_add_26 (lv_at hl 1 rfl) ?_
  refine lv_iadd hx hb dX0_add_28 ?_
  refine ax_i (y := (nI (a + 3))) (ax_addN a 3) ?_
  refine va_lald hx hb hK hP 1 0 rfl rfl (ax_in (by omega) (by omega)) dX0_add_29 ?_
  refine ax_l (y := (u (a + 3))) (by rw [nI_clamp (n := a + 3) (by omega)]) ?_
  refine lv_lmul hx hb dX0_add_30 ?_
  refine lv_lstore (lv' := [(7, .long (fac.toInt64 * (u (a + 3)))), (6, .int 6), (5, .int 3), (9, .int 1), (0, .ref xl), (1, .int (nI a)), (2, .int (nI b)), (3, .int tn), (4, .int fac)]) hx hb dX0_add_31 hl (by decide) rfl (fun ls hl => ?_)
  refine lv_iload hx hb dX0_add_33 (lv_at hl 1 rfl) ?_
  refine lv_iconst (v := 4) hx hb dX0_add_35 (by decide) ?_
  refine lv_iand hx hb dX0_add_36 ?_
  refine ax_i (y := 4) (by decide) ?_
  refine lv_if_eq (tgt := 44) hx hb dX0_add_37 (by decide) (fun h9 => absurd h9 (by decide)) (fun _ => ?_)
  refine lv_iconst (v := 1) hx hb dX0_add_40 (by decide) ?_
  refine lv_goto (tgt := 45) hx hb dX0_add_41 (by decide) ?_
  refine lv_istore (lv' := [(9, .int 1), (7, .long (fac.toInt64 * (u (a + 3)))), (6, .int 6), (5, .int 3), (0, .ref xl), (1, .int (nI a)), (2, .int (nI b)), (3, .int tn), (4, .int fac)]) hx hb dX0_add_45 hl (by decide) rfl (fun ls hl => ?_)
  refine lv_aload_n hx hb dX0_add_47 rfl (lv_at hl 4 rfl) ?_
  refine va_get (D := (dC, dI)) (ci := 0) (v := .ref xm) (C := RX0) (T := TX0) (N := 2) hx hb hts (by decide +kernel) hown hK hP 0 rfl rfl 1 (by decide) (hts (.fieldLink RX0 15 "Diffractory$Light" "next" "[J") (by decide +kernel)) (fun _ h9 => h9) rfl dX0_add_48 ?_
  refine lv_iload_n hx hb dX0_add_51 rfl (lv_at hl 6 rfl) ?_
  refine lv_iload hx hb dX0_add_52 (lv_at hl 2 rfl) ?_
  refine lv_iconst (v := 3) hx hb dX0_add_54 (by decide) ?_
  refine lv_iand hx hb dX0_add_55 ?_
  refine ax_i (y := 2) (by decide) ?_
  refine lv_iadd hx hb dX0_add_56 ?_
  refine ax_i (y := (nI (b + 2))) (ax_addN b 2) ?_
  refine lv_dup2_11 hx hb dX0_add_57 rfl rfl ?_
  refine va_lald hx hb hK hP 2 0 rfl rfl (ax_in (by omega) (by omega)) dX0_add_58 ?_
  refine ax_l (y := ((vp_updL (vp_updL (vp_updL g (b + 3) ((g (b + 3)) + (fac.toInt64 * (u (a + 0))))) (b + 0) (((vp_updL g (b + 3) ((g (b + 3)) + (fac.toInt64 * (u (a + 0))))) (b + 0)) + (-(fac.toInt64 * (u (a + 1)))))) (b + 1) (((vp_updL (vp_updL g (b + 3) ((g (b + 3)) + (fac.toInt64 * (u (a + 0))))) (b + 0) (((vp_updL g (b + 3) ((g (b + 3)) + (fac.toInt64 * (u (a + 0))))) (b + 0)) + (-(fac.toInt64 * (u (a + 1)))))) (b + 1)) + (-(fac.toInt64 * (u (a + 2)))))) (b + 2))) (by rw [nI_clamp (n := b + 2) (by omega)]) ?_
  refine lv_iload hx hb dX0_add_59 (lv_at hl 0 rfl) ?_
  refine lv_if_eq (tgt := 70) hx hb dX0_add_61 (by decide) (fun h9 => absurd h9 (by decide)) (fun _ => ?_)
  refine lv_lload hx hb dX0_add_64 (lv_at hl 1 rfl) ?_
  refine lv_lneg hx hb dX0_add_66 ?_
  refine lv_goto (tgt := 72) hx hb dX0_add_67 (by decide) ?_
  refine lv_ladd hx hb dX0_add_72 ?_
  refine va_last hx hb hK hP hD hS 2 0 rfl rfl (ax_in (by omega) (by omega)) dX0_add_73 (fun H locs hP hD hS => ?_)
  rw [nI_clamp (n := b + 2) (by omega)] at hP hD
  have hP : va_P (dC, dI) vwCl [(xl, .inr (0, [.ref xn, .ref xm])), (xn, .inl (cL, 64, .inr (.inl u))), (xm, .inl (cL, 64, .inr (.inl (vp_updL (vp_updL (vp_updL (vp_updL g (b + 3) ((g (b + 3)) + (fac.toInt64 * (u (a + 0))))) (b + 0) (((vp_updL g (b + 3) ((g (b + 3)) + (fac.toInt64 * (u (a + 0))))) (b + 0)) + (-(fac.toInt64 * (u (a + 1)))))) (b + 1) (((vp_updL (vp_updL g (b + 3) ((g (b + 3)) + (fac.toInt64 * (u (a + 0))))) (b + 0) (((vp_updL g (b + 3) ((g (b + 3)) + (fac.toInt64 * (u (a + 0))))) (b + 0)) + (-(fac.toInt64 * (u (a + 1)))))) (b + 1)) + (-(fac.toInt64 * (u (a + 2)))))) (b + 2) (((vp_updL (vp_updL (vp_updL g (b + 3) ((g (b + 3)) + (fac.toInt64 * (u (a + 0))))) (b + 0) (((vp_updL g (b + 3) ((g (b + 3)) + (fac.toInt64 * (u (a + 0))))) (b + 0)) + (-(fac.toInt64 * (u (a + 1)))))) (b + 1) (((vp_updL (vp_updL g (b + 3) ((g (b + 3)) + (fac.toInt64 * (u (a + 0))))) (b + 0) (((vp_updL g (b + 3) ((g (b + 3)) + (fac.toInt64 * (u (a + 0))))) (b + 0)) + (-(fac.toInt64 * (u (a + 1)))))) (b + 1)) + (-(fac.toInt64 * (u (a + 2)))))) (b + 2)) + (-(fac.toInt64 * (u (a + 3)))))))))] H := hP
  have hD : va_D A [(xl, .inr (0, [.ref xn, .ref xm])), (xn, .inl (cL, 64, .inr (.inl u))), (xm, .inl (cL, 64, .inr (.inl (vp_updL (vp_updL (vp_updL (vp_updL g (b + 3) ((g (b + 3)) + (fac.toInt64 * (u (a + 0))))) (b + 0) (((vp_updL g (b + 3) ((g (b + 3)) + (fac.toInt64 * (u (a + 0))))) (b + 0)) + (-(fac.toInt64 * (u (a + 1)))))) (b + 1) (((vp_updL (vp_updL g (b + 3) ((g (b + 3)) + (fac.toInt64 * (u (a + 0))))) (b + 0) (((vp_updL g (b + 3) ((g (b + 3)) + (fac.toInt64 * (u (a + 0))))) (b + 0)) + (-(fac.toInt64 * (u (a + 1)))))) (b + 1)) + (-(fac.toInt64 * (u (a + 2)))))) (b + 2) (((vp_updL (vp_updL (vp_updL g (b + 3) ((g (b + 3)) + (fac.toInt64 * (u (a + 0))))) (b + 0) (((vp_updL g (b + 3) ((g (b + 3)) + (fac.toInt64 * (u (a + 0))))) (b + 0)) + (-(fac.toInt64 * (u (a + 1)))))) (b + 1) (((vp_updL (vp_updL g (b + 3) ((g (b + 3)) + (fac.toInt64 * (u (a + 0))))) (b + 0) (((vp_updL g (b + 3) ((g (b + 3)) + (fac.toInt64 * (u (a + 0))))) (b + 0)) + (-(fac.toInt64 * (u (a + 1)))))) (b + 1)) + (-(fac.toInt64 * (u (a + 2)))))) (b + 2)) + (-(fac.toInt64 * (u (a + 3)))))))))] := hD
  refine lv_iinc (v := 4) (lv' := [(5, .int 4), (9, .int 1), (7, .long (fac.toInt64 * (u (a + 3)))), (6, .int 6), (0, .ref xl), (1, .int (nI a)), (2, .int (nI b)), (3, .int tn), (4, .int fac)]) hx hb dX0_add_74 hl (k := 3) rfl (by decide) (by decide) rfl (fun ls hl => ?_)
  refine lv_goto (tgt := 3) hx hb dX0_add_77 (by decide) ?_
  refine lv_iload hx hb dX0_add_3 (lv_at hl 0 rfl) ?_
  refine lv_iconst (v := 4) hx hb dX0_add_5 (by decide) ?_
  refine lv_icmp_ge (tgt := 80) hx hb dX0_add_6 (by decide) (fun _ => ?_) (fun h9 => absurd (by decide) h9)
  refine W.widen (k := 0) (n := 0) (Nat.le_of_ble_eq_true rfl) (Nat.le_of_ble_eq_true rfl) ?_
  have hP9 := hP.sub (ws' := [(xl, .inr (0, [.ref xn, .ref xm])), (xn, .inl (cL, 64, .inr (.inl u))), (xm, .inl (cL, 64, .inr (.inl (vp_updL (vp_updL (vp_updL (vp_updL g (b + 3) ((g (b + 3)) + (fac.toInt64 * (u (a + 0))))) (b + 0) (((vp_updL g (b + 3) ((g (b + 3)) + (fac.toInt64 * (u (a + 0))))) (b + 0)) + (-(fac.toInt64 * (u (a + 1)))))) (b + 1) (((vp_updL (vp_updL g (b + 3) ((g (b + 3)) + (fac.toInt64 * (u (a + 0))))) (b + 0) (((vp_updL g (b + 3) ((g (b + 3)) + (fac.toInt64 * (u (a + 0))))) (b + 0)) + (-(fac.toInt64 * (u (a + 1)))))) (b + 1)) + (-(fac.toInt64 * (u (a + 2)))))) (b + 2) (((vp_updL (vp_updL (vp_updL g (b + 3) ((g (b + 3)) + (fac.toInt64 * (u (a + 0))))) (b + 0) (((vp_updL g (b + 3) ((g (b + 3)) + (fac.toInt64 * (u (a + 0))))) (b + 0)) + (-(fac.toInt64 * (u (a + 1)))))) (b + 1) (((vp_updL (vp_updL g (b + 3) ((g (b + 3)) + (fac.toInt64 * (u (a + 0))))) (b + 0) (((vp_updL g (b + 3) ((g (b + 3)) + (fac.toInt64 * (u (a + 0))))) (b + 0)) + (-(fac.toInt64 * (u (a + 1)))))) (b + 1)) + (-(fac.toInt64 * (u (a + 2)))))) (b + 2)) + (-(fac.toInt64 * (u (a + 3)))))))))]) [0, 1, 2] rfl
  have hD9 := hD.sub (ws' := [(xl, .inr (0, [.ref xn, .ref xm])), (xn, .inl (cL, 64, .inr (.inl u))), (xm, .inl (cL, 64, .inr (.inl (vp_updL (vp_updL (vp_updL (vp_updL g (b + 3) ((g (b + 3)) + (fac.toInt64 * (u (a + 0))))) (b + 0) (((vp_updL g (b + 3) ((g (b + 3)) + (fac.toInt64 * (u (a + 0))))) (b + 0)) + (-(fac.toInt64 * (u (a + 1)))))) (b + 1) (((vp_updL (vp_updL g (b + 3) ((g (b + 3)) + (fac.toInt64 * (u (a + 0))))) (b + 0) (((vp_updL g (b + 3) ((g (b + 3)) + (fac.toInt64 * (u (a + 0))))) (b + 0)) + (-(fac.toInt64 * (u (a + 1)))))) (b + 1)) + (-(fac.toInt64 * (u (a + 2)))))) (b + 2) (((vp_updL (vp_updL (vp_updL g (b + 3) ((g (b + 3)) + (fac.toInt64 * (u (a + 0))))) (b + 0) (((vp_updL g (b + 3) ((g (b + 3)) + (fac.toInt64 * (u (a + 0))))) (b + 0)) + (-(fac.toInt64 * (u (a + 1)))))) (b + 1) (((vp_updL (vp_updL g (b + 3) ((g (b + 3)) + (fac.toInt64 * (u (a + 0))))) (b + 0) (((vp_updL g (b + 3) ((g (b + 3)) + (fac.toInt64 * (u (a + 0))))) (b + 0)) + (-(fac.toInt64 * (u (a + 1)))))) (b + 1)) + (-(fac.toInt64 * (u (a + 2)))))) (b + 2)) + (-(fac.toInt64 * (u (a + 3)))))))))]) [0, 1, 2] (by decide) rfl
  have hK9 := hK.sub (tys' := [(cL, .long)]) [0] rfl
  have e9 : (vp_updL (vp_updL (vp_updL (vp_updL g (b + 3) ((g (b + 3)) + (fac.toInt64 * (u (a + 0))))) (b + 0) (((vp_updL g (b + 3) ((g (b + 3)) + (fac.toInt64 * (u (a + 0))))) (b + 0)) + (-(fac.toInt64 * (u (a + 1)))))) (b + 1) (((vp_updL (vp_updL g (b + 3) ((g (b + 3)) + (fac.toInt64 * (u (a + 0))))) (b + 0) (((vp_updL g (b + 3) ((g (b + 3)) + (fac.toInt64 * (u (a + 0))))) (b + 0)) + (-(fac.toInt64 * (u (a + 1)))))) (b + 1)) + (-(fac.toInt64 * (u (a + 2)))))) (b + 2) (((vp_updL (vp_updL (vp_updL g (b + 3) ((g (b + 3)) + (fac.toInt64 * (u (a + 0))))) (b + 0) (((vp_updL g (b + 3) ((g (b + 3)) + (fac.toInt64 * (u (a + 0))))) (b + 0)) + (-(fac.toInt64 * (u (a + 1)))))) (b + 1) (((vp_updL (vp_updL g (b + 3) ((g (b + 3)) + (fac.toInt64 * (u (a + 0))))) (b + 0) (((vp_updL g (b + 3) ((g (b + 3)) + (fac.toInt64 * (u (a + 0))))) (b + 0)) + (-(fac.toInt64 * (u (a + 1)))))) (b + 1)) + (-(fac.toInt64 * (u (a + 2)))))) (b + 2)) + (-(fac.toInt64 * (u (a + 3)))))) = ad a b 3 fac u g := by
    refine ax_ad (fun j => ⟨fun q => ?_, fun q => ?_⟩)
    · rcases (show j = b + 0 ∨ j = b + 1 ∨ j = b + 2 ∨ j = b + 3 by omega) with h | h | h | h <;> subst h <;> simp [vp_updL, rt, Nat.add_sub_cancel_left]
    · simp only [vp_updL]
      rw [if_neg (by omega), if_neg (by omega), if_neg (by omega), if_neg (by omega)]
  rw [e9] at hP9 hD9
  exact W.vret hx hb hr (fun t8 ht hW => ⟨⟨(), rfl, trivial, by rw [ht]; exact hP9, va_K.moved hW.alike hK9, hD9⟩, hS.F ht⟩) hS.2.2 dX0_add_80

set_option maxHeartbeats 4000000 in
set_option maxRecDepth 100000 in
theorem c_X0_add_4 (l : Launch) (dC : Nat → ClassId) (dI : Nat → Nat → Nat) (xl xn xm : Nat) (cL : ClassId) (ta : Nat → Nat) (sz : Nat) (u : Nat → Int64) (g : Nat → Int64) (a : Nat) (b : Nat) (tn : Int32) (fac : Int32) (h1 : a + 4 ≤ 64) (h2 : b + 4 ≤ 64) (h3 : tn &&& 7 = nI 4) : Met l yX0_add wsX0_add ({ frames := 0, cells := 0, slots := 0, locals := 0 }) (va_Pc [.ref xl, .int (nI a), .int (nI b), .int tn, .int fac] (ax_W (dC, dI) vwCl [(xl, .inr (0, [.ref xn, .ref xm])), (xn, .inl (cL, 64, .inr (.inl u))), (xm, .inl (cL, 64, .inr (.inl g)))] [(cL, .long)] ta sz)) (va_Qv (fun (u9 : Unit) => True) (fun (u9 : Unit) (t9 : State) => va_P (dC, dI) vwCl [(xl, .inr (0, [.ref xn, .ref xm])), (xn, .inl (cL, 64, .inr (.inl u))), (xm, .inl (cL, 64, .inr (.inl (ad a b 4 fac u g))))] t9.heap ∧ va_K (dC, dI) vwCl [(cL, .long)] t9 ∧ va_D (va_A [(xl, .inr (0, [.ref xn, .ref xm])), (xn, .inl (cL, 64, .inr (.inl u))), (xm, .inl (cL, 64, .inr (.inl g)))] sz) [(xl, .inr (0, [.ref xn, .ref xm])), (xn, .inl (cL, 64, .inr (.inl u))), (xm, .inl (cL, 64, .inr (.inl (ad a b 4 fac u g))))]) (va_A [(xl, .inr (0, [.ref xn, .ref xm])), (xn, .inl (cL, 64, .inr (.inl u))), (xm, .inl (cL, 64, .inr (.inl g)))] sz)) 0 0 (va_A [(xl, .inr (0, [.ref xn, .ref xm])), (xn, .inl (cL, 64, .inr (.inl u))), (xm, .inl (cL, 64, .inr (.inl g)))] sz) := by
  refine Met.ofW (cc := cX0_add) (maxL := 10) (ret := none) (by decide) rfl ?_
  intro p e s m args below meth c s₁ B hml hv
  obtain ⟨rfl, hsz, hP, hK, hD0, hE⟩ := hv
  have hx := B.exec
  have hb := B.bytes
  have hr := B.returns
  have hts := atoms_spec (ws := wsX0_add) B.pre
  have hown : s.vm.findClass RX0 = some m.cls := findClass_of_methodNamed B.named
  have hlocks := B.notSynchronized
  subst hsz
  have hD := hD0.self (sz := s.heap.size)
  generalize hAe : va_A [(xl, .inr (0, [.ref xn, .ref xm])), (xn, .inl (cL, 64, .inr (.inl u))), (xm, .inl (cL, 64, .inr (.inl g)))] s.heap.size = A at hD hE ⊢
  have hA : ∀ q : Nat, s.heap.size ≤ q → A q := fun q h => by rw [← hAe]; exact Or.inr h
  have hS : va_S A s.heap s.heap [] := va_S.rf
  have hl := lv_entry ([.ref xl, .int (nI a), .int (nI b), .int tn, .int fac]) (n := 10) (Nat.le_of_ble_eq_true rfl)
  rw [lg_entry_eq]
  generalize (lg_sl ([.ref xl, .int (nI a), .int (nI b), .int tn, .int fac]) ++ List.replicate (10 - (lg_sl ([.ref xl, .int (nI a), .int (nI b), .int tn, .int fac])).length) Slot.unset).toArray = ls at hl ⊢
  have hl : lv_has ls 10 [(0, .ref xl), (1, .int (nI a)), (2, .int (nI b)), (3, .int tn), (4, .int fac)] := hl
  have hP : va_P (dC, dI) vwCl [(xl, .inr (0, [.ref xn, .ref xm])), (xn, .inl (cL, 64, .inr (.inl u))), (xm, .inl (cL, 64, .inr (.inl g)))] s.heap := hP
  refine lv_iconst (v := 0) hx hb dX0_add_0 (by decide) ?_
  refine lv_istore (lv' := [(5, .int 0), (0, .ref xl), (1, .int (nI a)), (2, .int (nI b)), (3, .int tn), (4, .int fac)]) hx hb dX0_add_1 hl (by decide) rfl (fun ls hl => ?_)
  refine lv_iload hx hb dX0_add_3 (lv_at hl 0 rfl) ?_
  refine lv_iconst (v := 4) hx hb dX0_add_5 (by decide) ?_
  refine lv_icmp_ge (tgt := 80) hx hb dX0_add_6 (by decide) (fun h9 => absurd h9 (by decide)) (fun _ => ?_)
  refine lv_iload hx hb dX0_add_9 (lv_at hl 0 rfl) ?_
  refine lv_iload_n hx hb dX0_add_11 rfl (lv_at hl 4 rfl) ?_
  refine lv_bipush (v := 7) hx hb dX0_add_12 (by decide) ?_
  refine lv_iand hx hb dX0_add_14 ?_
  refine ax_i (y := 4) h3 ?_
  refine lv_iadd hx hb dX0_add_15 ?_
  refine ax_i (y := 4) (by decide) ?_
  refine lv_istore (lv' := [(6, .int 4), (5, .int 0), (0, .ref xl), (1, .int (nI a)), (2, .int (nI b)), (3, .int tn), (4, .int fac)]) hx hb dX0_add_16 hl (by decide) rfl (fun ls hl => ?_)
  refine lv_iload hx hb dX0_add_18 (lv_at hl 6 rfl) ?_
  refine lv_i2l (v := fac.toInt64) hx hb dX0_add_20 rfl ?_
  refine lv_aload_n hx hb dX0_add_21 rfl (lv_at hl 2 rfl) ?_
  refine va_get (D := (dC, dI)) (ci := 0) (v := .ref xn) (C := RX0) (T := TX0) (N := 2) hx hb hts (by decide +kernel) hown hK hP 0 rfl rfl 0 (by decide) (hts (.fieldLink RX0 11 "Diffractory$Light" "now" "[J") (by decide +kernel)) (fun _ h9 => h9) rfl dX0_add_22 ?_
  refine lv_iload_n hx hb dX0_add_25 rfl (lv_at hl 3 rfl) ?_
  refine lv_iload hx hb dX0_add_26 (lv_at hl 1 rfl) ?_
  refine lv_iadd hx hb dX0_add_28 ?_
  refine ax_i (y := (nI (a + 0))) (ax_addN a 0) ?_
  refine va_lald hx hb hK hP 1 0 rfl rfl (ax_in (by omega) (by omega)) dX0_add_29 ?_
  refine ax_l (y := (u (a + 0))) (by rw [nI_clamp (n := a + 0) (by omega)]) ?_
  refine lv_lmul hx hb dX0_add_30 ?_
  refine lv_lstore (lv' := [(7, .long (fac.toInt64 * (u (a + 0)))), (6, .int 4), (5, .int 0), (0, .ref xl), (1, .int (nI a)), (2, .int (nI b)), (3, .int tn), (4, .int fac)]) hx hb dX0_add_31 hl (by decide) rfl (fun ls hl => ?_)
  refine lv_iload hx hb dX0_add_33 (lv_at hl 1 rfl) ?_
  refine lv_iconst (v := 4) hx hb dX0_add_35 (by decide) ?_
  refine lv_iand hx hb dX0_add_36 ?_
  refine ax_i (y := 4) (by decide) ?_
  refine lv_if_eq (tgt := 44) hx hb dX0_add_37 (by decide) (fun h9 => absurd h9 (by decide)) (fun _ => ?_)
  refine lv_iconst (v := 1) hx hb dX0_add_40 (by decide) ?_
  refine lv_goto (tgt := 45) hx hb dX0_add_41 (by decide) ?_
  refine lv_istore (lv' := [(9, .int 1), (7, .long (fac.toInt64 * (u (a + 0)))), (6, .int 4), (5, .int 0), (0, .ref xl), (1, .int (nI a)), (2, .int (nI b)), (3, .int tn), (4, .int fac)]) hx hb dX0_add_45 hl (by decide) rfl (fun ls hl => ?_)
  refine lv_aload_n hx hb dX0_add_47 rfl (lv_at hl 4 rfl) ?_
  refine va_get (D := (dC, dI)) (ci := 0) (v := .ref xm) (C := RX0) (T := TX0) (N := 2) hx hb hts (by decide +kernel) hown hK hP 0 rfl rfl 1 (by decide) (hts (.fieldLink RX0 15 "Diffractory$Light" "next" "[J") (by decide +kernel)) (fun _ h9 => h9) rfl dX0_add_48 ?_
  refine lv_iload_n hx hb dX0_add_51 rfl (lv_at hl 6 rfl) ?_
  refine lv_iload hx hb dX0_add_52 (lv_at hl 2 rfl) ?_
  refine lv_iconst (v := 3) hx hb dX0_add_54 (by decide) ?_
  refine lv_iand hx hb dX0_add_55 ?_
  refine ax_i (y := 0) (by decide) ?_
  refine lv_iadd hx hb dX0_add_56 ?_
  refine ax_i (y := (nI (b + 0))) (ax_addN b 0) ?_
  refine lv_dup2_11 hx hb dX0_add_57 rfl rfl ?_
  refine va_lald hx hb hK hP 2 0 rfl rfl (ax_in (by omega) (by omega)) dX0_add_58 ?_
  refine ax_l (y := (g (b + 0))) (by rw [nI_clamp (n := b + 0) (by omega)]) ?_
  refine lv_iload hx hb dX0_add_59 (lv_at hl 0 rfl) ?_
  refine lv_if_eq (tgt := 70) hx hb dX0_add_61 (by decide) (fun h9 => absurd h9 (by decide)) (fun _ => ?_)
  refine lv_lload hx hb dX0_add_64 (lv_at hl 1 rfl) ?_
  refine lv_lneg hx hb dX0_add_66 ?_
  refine lv_goto (tgt := 72) hx hb dX0_add_67 (by decide) ?_
  refine lv_ladd hx hb dX0_add_72 ?_
  refine va_last hx hb hK hP hD hS 2 0 rfl rfl (ax_in (by omega) (by omega)) dX0_add_73 (fun H locs hP hD hS => ?_)
  rw [nI_clamp (n := b + 0) (by omega)] at hP hD
  have hP : va_P (dC, dI) vwCl [(xl, .inr (0, [.ref xn, .ref xm])), (xn, .inl (cL, 64, .inr (.inl u))), (xm, .inl (cL, 64, .inr (.inl (vp_updL g (b + 0) ((g (b + 0)) + (-(fac.toInt64 * (u (a + 0)))))))))] H := hP
  have hD : va_D A [(xl, .inr (0, [.ref xn, .ref xm])), (xn, .inl (cL, 64, .inr (.inl u))), (xm, .inl (cL, 64, .inr (.inl (vp_updL g (b + 0) ((g (b + 0)) + (-(fac.toInt64 * (u (a + 0)))))))))] := hD
  refine lv_iinc (v := 1) (lv' := [(5, .int 1), (9, .int 1), (7, .long (fac.toInt64 * (u (a + 0)))), (6, .int 4), (0, .ref xl), (1, .int (nI a)), (2, .int (nI b)), (3, .int tn), (4, .int fac)]) hx hb dX0_add_74 hl (k := 3) rfl (by decide) (by decide) rfl (fun ls hl => ?_)
  refine lv_goto (tgt := 3) hx hb dX0_add_77 (by decide) ?_
  refine lv_iload hx hb dX0_add_3 (lv_at hl 0 rfl) ?_
  refine lv_iconst (v := 4) hx hb dX0_add_5 (by decide) ?_
  refine lv_icmp_ge (tgt := 80) hx hb dX0_add_6 (by decide) (fun h9 => absurd h9 (by decide)) (fun _ => ?_)
  refine lv_iload hx hb dX0_add_9 (lv_at hl 0 rfl) ?_
  refine lv_iload_n hx hb dX0_add_11 rfl (lv_at hl 7 rfl) ?_
  refine lv_bipush (v := 7) hx hb dX0_add_12 (by decide) ?_
  refine lv_iand hx hb dX0_add_14 ?_
  refine ax_i (y := 4) h3 ?_
  refine lv_iadd hx hb dX0_add_15 ?_
  refine ax_i (y := 5) (by decide) ?_
  refine lv_istore (lv' := [(6, .int 5), (5, .int 1), (9, .int 1), (7, .long (fac.toInt64 * (u (a + 0)))), (0, .ref xl), (1, .int (nI a)), (2, .int (nI b)), (3, .int tn), (4, .int fac)]) hx hb dX0_add_16 hl (by decide) rfl (fun ls hl => ?_)
  refine lv_iload hx hb dX0_add_18 (lv_at hl 8 rfl) ?_
  refine lv_i2l (v := fac.toInt64) hx hb dX0_add_20 rfl ?_
  refine lv_aload_n hx hb dX0_add_21 rfl (lv_at hl 4 rfl) ?_
  refine va_get (D := (dC, dI)) (ci := 0) (v := .ref xn) (C := RX0) (T := TX0) (N := 2) hx hb hts (by decide +kernel) hown hK hP 0 rfl rfl 0 (by decide) (hts (.fieldLink RX0 11 "Diffractory$Light" "now" "[J") (by decide +kernel)) (fun _ h9 => h9) rfl dX0_add_22 ?_
  refine lv_iload_n hx hb dX0_add_25 rfl (lv_at hl 5 rfl) ?_
  refine lv_iload hx hb dX0_add_26 (lv_at hl 1 rfl) ?_
  refine lv_iadd hx hb dX0_add_28 ?_
  refine ax_i (y := (nI (a + 1))) (ax_addN a 1) ?_
  refine va_lald hx hb hK hP 1 0 rfl rfl (ax_in (by omega) (by omega)) dX0_add_29 ?_
  refine ax_l (y := (u (a + 1))) (by rw [nI_clamp (n := a + 1) (by omega)]) ?_
  refine lv_lmul hx hb dX0_add_30 ?_
  refine lv_lstore (lv' := [(7, .long (fac.toInt64 * (u (a + 1)))), (6, .int 5), (5, .int 1), (9, .int 1), (0, .ref xl), (1, .int (nI a)), (2, .int (nI b)), (3, .int tn), (4, .int fac)]) hx hb dX0_add_31 hl (by decide) rfl (fun ls hl => ?_)
  refine lv_iload hx hb dX0_add_33 (lv_at hl 1 rfl) ?_
  refine lv_iconst (v := 4) hx hb dX0_add_35 (by decide) ?_
  refine lv_iand hx hb dX0_add_36 ?_
  refine ax_i (y := 4) (by decide) ?_
  refine lv_if_eq (tgt := 44) hx hb dX0_add_37 (by decide) (fun h9 => absurd h9 (by decide)) (fun _ => ?_)
  refine lv_iconst (v := 1) hx hb dX0_add_40 (by decide) ?_
  refine lv_goto (tgt := 45) hx hb dX0_add_41 (by decide) ?_
  refine lv_istore (lv' := [(9, .int 1), (7, .long (fac.toInt64 * (u (a + 1)))), (6, .int 5), (5, .int 1), (0, .ref xl), (1, .int (nI a)), (2, .int (nI b)), (3, .int tn), (4, .int fac)]) hx hb dX0_add_45 hl (by decide) rfl (fun ls hl => ?_)
  refine lv_aload_n hx hb dX0_add_47 rfl (lv_at hl 4 rfl) ?_
  refine va_get (D := (dC, dI)) (ci := 0) (v := .ref xm) (C := RX0) (T := TX0) (N := 2) hx hb hts (by decide +kernel) hown hK hP 0 rfl rfl 1 (by decide) (hts (.fieldLink RX0 15 "Diffractory$Light" "next" "[J") (by decide +kernel)) (fun _ h9 => h9) rfl dX0_add_48 ?_
  refine lv_iload_n hx hb dX0_add_51 rfl (lv_at hl 6 rfl) ?_
  refine lv_iload hx hb dX0_add_52 (lv_at hl 2 rfl) ?_
  refine lv_iconst (v := 3) hx hb dX0_add_54 (by decide) ?_
  refine lv_iand hx hb dX0_add_55 ?_
  refine ax_i (y := 1) (by decide) ?_
  refine lv_iadd hx hb dX0_add_56 ?_
  refine ax_i (y := (nI (b + 1))) (ax_addN b 1) ?_
  refine lv_dup2_11 hx hb dX0_add_57 rfl rfl ?_
  refine va_lald hx hb hK hP 2 0 rfl rfl (ax_in (by omega) (by omega)) dX0_add_58 ?_
  refine ax_l (y := ((vp_updL g (b + 0) ((g (b + 0)) + (-(fac.toInt64 * (u (a + 0)))))) (b + 1))) (by rw [nI_clamp (n := b + 1) (by omega)]) ?_
  refine lv_iload hx hb dX0_add_59 (lv_at hl 0 rfl) ?_
  refine lv_if_eq (tgt := 70) hx hb dX0_add_61 (by decide) (fun h9 => absurd h9 (by decide)) (fun _ => ?_)
  refine lv_lload hx hb dX0_add_64 (lv_at hl 1 rfl) ?_
  refine lv_lneg hx hb dX0_add_66 ?_
  refine lv_goto (tgt := 72) hx hb dX0_add_67 (by decide) ?_
  refine lv_ladd hx hb dX0_add_72 ?_
  refine va_last hx hb hK hP hD hS 2 0 rfl rfl (ax_in (by omega) (by omega)) dX0_add_73 (fun H locs hP hD hS => ?_)
  rw [nI_clamp (n := b + 1) (by omega)] at hP hD
  have hP : va_P (dC, dI) vwCl [(xl, .inr (0, [.ref xn, .ref xm])), (xn, .inl (cL, 64, .inr (.inl u))), (xm, .inl (cL, 64, .inr (.inl (vp_updL (vp_updL g (b + 0) ((g (b + 0)) + (-(fac.toInt64 * (u (a + 0)))))) (b + 1) (((vp_updL g (b + 0) ((g (b + 0)) + (-(fac.toInt64 * (u (a + 0)))))) (b + 1)) + (-(fac.toInt64 * (u (a + 1)))))))))] H := hP
  have hD : va_D A [(xl, .inr (0, [.ref xn, .ref xm])), (xn, .inl (cL, 64, .inr (.inl u))), (xm, .inl (cL, 64, .inr (.inl (vp_updL (vp_updL g (b + 0) ((g (b + 0)) + (-(fac.toInt64 * (u (a + 0)))))) (b + 1) (((vp_updL g (b + 0) ((g (b + 0)) + (-(fac.toInt64 * (u (a + 0)))))) (b + 1)) + (-(fac.toInt64 * (u (a + 1)))))))))] := hD
  refine lv_iinc (v := 2) (lv' := [(5, .int 2), (9, .int 1), (7, .long (fac.toInt64 * (u (a + 1)))), (6, .int 5), (0, .ref xl), (1, .int (nI a)), (2, .int (nI b)), (3, .int tn), (4, .int fac)]) hx hb dX0_add_74 hl (k := 3) rfl (by decide) (by decide) rfl (fun ls hl => ?_)
  refine lv_goto (tgt := 3) hx hb dX0_add_77 (by decide) ?_
  refine lv_iload hx hb dX0_add_3 (lv_at hl 0 rfl) ?_
  refine lv_iconst (v := 4) hx hb dX0_add_5 (by decide) ?_
  refine lv_icmp_ge (tgt := 80) hx hb dX0_add_6 (by decide) (fun h9 => absurd h9 (by decide)) (fun _ => ?_)
  refine lv_iload hx hb dX0_add_9 (lv_at hl 0 rfl) ?_
  refine lv_iload_n hx hb dX0_add_11 rfl (lv_at hl 7 rfl) ?_
  refine lv_bipush (v := 7) hx hb dX0_add_12 (by decide) ?_
  refine lv_iand hx hb dX0_add_14 ?_
  refine ax_i (y := 4) h3 ?_
  refine lv_iadd hx hb dX0_add_15 ?_
  refine ax_i (y := 6) (by decide) ?_
  refine lv_istore (lv' := [(6, .int 6), (5, .int 2), (9, .int 1), (7, .long (fac.toInt64 * (u (a + 1)))), (0, .ref xl), (1, .int (nI a)), (2, .int (nI b)), (3, .int tn), (4, .int fac)]) hx hb dX0_add_16 hl (by decide) rfl (fun ls hl => ?_)
  refine lv_iload hx hb dX0_add_18 (lv_at hl 8 rfl) ?_
  refine lv_i2l (v := fac.toInt64) hx hb dX0_add_20 rfl ?_
  refine lv_aload_n hx hb dX0_add_21 rfl (lv_at hl 4 rfl) ?_
  refine va_get (D := (dC, dI)) (ci := 0) (v := .ref xn) (C := RX0) (T := TX0) (N := 2) hx hb hts (by decide +kernel) hown hK hP 0 rfl rfl 0 (by decide) (hts (.fieldLink RX0 11 "Diffractory$Light" "now" "[J") (by decide +kernel)) (fun _ h9 => h9) rfl dX0_add_22 ?_
  refine lv_iload_n hx hb dX0_add_25 rfl (lv_at hl 5 rfl) ?_
  refine lv_iload hx hb dX0_add_26 (lv_at hl 1 rfl) ?_
  refine lv_iadd hx hb dX0_add_28 ?_
  refine ax_i (y := (nI (a + 2))) (ax_addN a 2) ?_
  refine va_lald hx hb hK hP 1 0 rfl rfl (ax_in (by omega) (by omega)) dX0_add_29 ?_
  refine ax_l (y := (u (a + 2))) (by rw [nI_clamp (n := a + 2) (by omega)]) ?_
  refine lv_lmul hx hb dX0_add_30 ?_
  refine lv_lstore (lv' := [(7, .long (fac.toInt64 * (u (a + 2)))), (6, .int 6), (5, .int 2), (9, .int 1), (0, .ref xl), (1, .int (nI a)), (2, .int (nI b)), (3, .int tn), (4, .int fac)]) hx hb dX0_add_31 hl (by decide) rfl (fun ls hl => ?_)
  refine lv_iload hx hb dX0_add_33 (lv_at hl 1 rfl) ?_
  refine lv_iconst (v := 4) hx hb dX0_add_35 (by decide) ?_
  refine lv_iand hx hb dX0_add_36 ?_
  refine ax_i (y := 4) (by decide) ?_
  refine lv_if_eq (tgt := 44) hx hb dX0_add_37 (by decide) (fun h9 => absurd h9 (by decide)) (fun _ => ?_)
  refine lv_iconst (v := 1) hx hb dX0_add_40 (by decide) ?_
  refine lv_goto (tgt := 45) hx hb dX0_add_41 (by decide) ?_
  refine lv_istore (lv' := [(9, .int 1), (7, .long (fac.toInt64 * (u (a + 2)))), (6, .int 6), (5, .int 2), (0, .ref xl), (1, .int (nI a)), (2, .int (nI b)), (3, .int tn), (4, .int fac)]) hx hb dX0_add_45 hl (by decide) rfl (fun ls hl => ?_)
  refine lv_aload_n hx hb dX0_add_47 rfl (lv_at hl 4 rfl) ?_
  refine va_get (D := (dC, dI)) (ci := 0) (v := .ref xm) (C := RX0) (T := TX0) (N := 2) hx hb hts (by decide +kernel) hown hK hP 0 rfl rfl 1 (by decide) (hts (.fieldLink RX0 15 "Diffractory$Light" "next" "[J") (by decide +kernel)) (fun _ h9 => h9) rfl dX0_add_48 ?_
  refine lv_iload_n hx hb dX0_add_51 rfl (lv_at hl 6 rfl) ?_
  refine lv_iload hx hb dX0_add_52 (lv_at hl 2 rfl) ?_
  refine lv_iconst (v := 3) hx hb dX0_add_54 (by decide) ?_
  refine lv_iand hx hb dX0_add_55 ?_
  refine ax_i (y := 2) (by decide) ?_
  refine lv_iadd hx hb dX0_add_56 ?_
  refine ax_i (y := (nI (b + 2))) (ax_addN b 2) ?_
  refine lv_dup2_11 hx hb dX0_add_57 rfl rfl ?_
  refine va_lald hx hb hK hP 2 0 rfl rfl (ax_in (by omega) (by omega)) dX0_add_58 ?_
  refine ax_l (y := ((vp_updL (vp_updL g (b + 0) ((g (b + 0)) + (-(fac.toInt64 * (u (a + 0)))))) (b + 1) (((vp_updL g (b + 0) ((g (b + 0)) + (-(fac.toInt64 * (u (a + 0)))))) (b + 1)) + (-(fac.toInt64 * (u (a + 1)))))) (b + 2))) (by rw [nI_clamp (n := b + 2) (by omega)]) ?_
  refine lv_iload hx hb dX0_add_59 (lv_at hl 0 rfl) ?_
  refine lv_if_eq (tgt := 70) hx hb dX0_add_61 (by decide) (fun h9 => absurd h9 (by decide)) (fun _ => ?_)
  refine lv_lload hx hb dX0_add_64 (lv_at hl 1 rfl) ?_
  refine lv_lneg hx hb dX0_add_66 ?_
  refine lv_goto (tgt := 72) hx hb dX0_add_67 (by decide) ?_
  refine lv_ladd hx hb dX0_add_72 ?_
  refine va_last hx hb hK hP hD hS 2 0 rfl rfl (ax_in (by omega) (by omega)) dX0_add_73 (fun H locs hP hD hS => ?_)
  rw [nI_clamp (n := b + 2) (by omega)] at hP hD
  have hP : va_P (dC, dI) vwCl [(xl, .inr (0, [.ref xn, .ref xm])), (xn, .inl (cL, 64, .inr (.inl u))), (xm, .inl (cL, 64, .inr (.inl (vp_updL (vp_updL (vp_updL g (b + 0) ((g (b + 0)) + (-(fac.toInt64 * (u (a + 0)))))) (b + 1) (((vp_updL g (b + 0) ((g (b + 0)) + (-(fac.toInt64 * (u (a + 0)))))) (b + 1)) + (-(fac.toInt64 * (u (a + 1)))))) (b + 2) (((vp_updL (vp_updL g (b + 0) ((g (b + 0)) + (-(fac.toInt64 * (u (a + 0)))))) (b + 1) (((vp_updL g (b + 0) ((g (b + 0)) + (-(fac.toInt64 * (u (a + 0)))))) (b + 1)) + (-(fac.toInt64 * (u (a + 1)))))) (b + 2)) + (-(fac.toInt64 * (u (a + 2)))))))))] H := hP
  have hD : va_D A [(xl, .inr (0, [.ref xn, .ref xm])), (xn, .inl (cL, 64, .inr (.inl u))), (xm, .inl (cL, 64, .inr (.inl (vp_updL (vp_updL (vp_updL g (b + 0) ((g (b + 0)) + (-(fac.toInt64 * (u (a + 0)))))) (b + 1) (((vp_updL g (b + 0) ((g (b + 0)) + (-(fac.toInt64 * (u (a + 0)))))) (b + 1)) + (-(fac.toInt64 * (u (a + 1)))))) (b + 2) (((vp_updL (vp_updL g (b + 0) ((g (b + 0)) + (-(fac.toInt64 * (u (a + 0)))))) (b + 1) (((vp_updL g (b + 0) ((g (b + 0)) + (-(fac.toInt64 * (u (a + 0)))))) (b + 1)) + (-(fac.toInt64 * (u (a + 1)))))) (b + 2)) + (-(fac.toInt64 * (u (a + 2)))))))))] := hD
  refine lv_iinc (v := 3) (lv' := [(5, .int 3), (9, .int 1), (7, .long (fac.toInt64 * (u (a + 2)))), (6, .int 6), (0, .ref xl), (1, .int (nI a)), (2, .int (nI b)), (3, .int tn), (4, .int fac)]) hx hb dX0_add_74 hl (k := 3) rfl (by decide) (by decide) rfl (fun ls hl => ?_)
  refine lv_goto (tgt := 3) hx hb dX0_add_77 (by decide) ?_
  refine lv_iload hx hb dX0_add_3 (lv_at hl 0 rfl) ?_
  refine lv_iconst (v := 4) hx hb dX0_add_5 (by decide) ?_
  refine lv_icmp_ge (tgt := 80) hx hb dX0_add_6 (by decide) (fun h9 => absurd h9 (by decide)) (fun _ => ?_)
  refine lv_iload hx hb dX0_add_9 (lv_at hl 0 rfl) ?_
  refine lv_iload_n hx hb dX0_add_11 rfl (lv_at hl 7 rfl) ?_
  refine lv_bipush (v := 7) hx hb dX0_add_12 (by decide) ?_
  refine lv_iand hx hb dX0_add_14 ?_
  refine ax_i (y := 4) h3 ?_
  refine lv_iadd hx hb dX0_add_15 ?_
  refine ax_i (y := 7) (by decide) ?_
  refine lv_istore (lv' := [(6, .int 7), (5, .int 3), (9, .int 1), (7, .long (fac.toInt64 * (u (a + 2)))), (0, .ref xl), (1, .int (nI a)), (2, .int (nI b)), (3, .int tn), (4, .int fac)]) hx hb dX0_add_16 hl (by decide) rfl (fun ls hl => ?_)
  refine lv_iload hx hb dX0_add_18 (lv_at hl 8 rfl) ?_
  refine lv_i2l (v := fac.toInt64) hx hb dX0_add_20 rfl ?_
  refine lv_aload_n hx hb dX0_add_21 rfl (lv_at hl 4 rfl) ?_
  refine va_get (D := (dC, dI)) (ci := 0) (v := .ref xn) (C := RX0) (T := TX0) (N := 2) hx hb hts (by decide +kernel) hown hK hP 0 rfl rfl 0 (by decide) (hts (.fieldLink RX0 11 "Diffractory$Light" "now" "[J") (by decide +kernel)) (fun _ h9 => h9) rfl dX0_add_22 ?_
  refine lv_iload_n hx hb dX0_add_25 rfl (lv_at hl 5 rfl) ?_
  refine lv_iload hx hb dX0_add_26 (lv_at hl 1 rfl) ?_
  refine lv_iadd hx hb dX0_add_28 ?_
  refine ax_i (y := (nI (a + 3))) (ax_addN a 3) ?_
  refine va_lald hx hb hK hP 1 0 rfl rfl (ax_in (by omega) (by omega)) dX0_add_29 ?_
  refine ax_l (y := (u (a + 3))) (by rw [nI_clamp (n := a + 3) (by omega)]) ?_
  refine lv_lmul hx hb dX0_add_30 ?_
  refine lv_lstore (lv' := [(7, .long (fac.toInt64 * (u (a + 3)))), (6, .int 7), (5, .int 3), (9, .int 1), (0, .ref xl), (1, .int (nI a)), (2, .int (nI b)), (3, .int tn), (4, .int fac)]) hx hb dX0_add_31 hl (by decide) rfl (fun ls hl => ?_)
  refine lv_iload hx hb dX0_add_33 (lv_at hl 1 rfl) ?_
  refine lv_iconst (v := 4) hx hb dX0_add_35 (by decide) ?_
  refine lv_iand hx hb dX0_add_36 ?_
  refine ax_i (y := 4) (by decide) ?_
  refine lv_if_eq (tgt := 44) hx hb dX0_add_37 (by decide) (fun h9 => absurd h9 (by decide)) (fun _ => ?_)
  refine lv_iconst (v := 1) hx hb dX0_add_40 (by decide) ?_
  refine lv_goto (tgt := 45) hx hb dX0_add_41 (by decide) ?_
  refine lv_istore (lv' := [(9, .int 1), (7, .long (fac.toInt64 * (u (a + 3)))), (6, .int 7), (5, .int 3), (0, .ref xl), (1, .int (nI a)), (2, .int (nI b)), (3, .int tn), (4, .int fac)]) hx hb dX0_add_45 hl (by decide) rfl (fun ls hl => ?_)
  refine lv_aload_n hx hb dX0_add_47 rfl (lv_at hl 4 rfl) ?_
  refine va_get (D := (dC, dI)) (ci := 0) (v := .ref xm) (C := RX0) (T := TX0) (N := 2) hx hb hts (by decide +kernel) hown hK hP 0 rfl rfl 1 (by decide) (hts (.fieldLink RX0 15 "Diffractory$Light" "next" "[J") (by decide +kernel)) (fun _ h9 => h9) rfl dX0_add_48 ?_
  refine lv_iload_n hx hb dX0_add_51 rfl (lv_at hl 6 rfl) ?_
  refine lv_iload hx hb dX0_add_52 (lv_at hl 2 rfl) ?_
  refine lv_iconst (v := 3) hx hb dX0_add_54 (by decide) ?_
  refine lv_iand hx hb dX0_add_55 ?_
  refine ax_i (y := 3) (by decide) ?_
  refine lv_iadd hx hb dX0_add_56 ?_
  refine ax_i (y := (nI (b + 3))) (ax_addN b 3) ?_
  refine lv_dup2_11 hx hb dX0_add_57 rfl rfl ?_
  refine va_lald hx hb hK hP 2 0 rfl rfl (ax_in (by omega) (by omega)) dX0_add_58 ?_
  refine ax_l (y := ((vp_updL (vp_updL (vp_updL g (b + 0) ((g (b + 0)) + (-(fac.toInt64 * (u (a + 0)))))) (b + 1) (((vp_updL g (b + 0) ((g (b + 0)) + (-(fac.toInt64 * (u (a + 0)))))) (b + 1)) + (-(fac.toInt64 * (u (a + 1)))))) (b + 2) (((vp_updL (vp_updL g (b + 0) ((g (b + 0)) + (-(fac.toInt64 * (u (a + 0)))))) (b + 1) (((vp_updL g (b + 0) ((g (b + 0)) + (-(fac.toInt64 * (u (a + 0)))))) (b + 1)) + (-(fac.toInt64 * (u (a + 1)))))) (b + 2)) + (-(fac.toInt64 * (u (a + 2)))))) (b + 3))) (by rw [nI_clamp (n := b + 3) (by omega)]) ?_
  refine lv_iload hx hb dX0_add_59 (lv_at hl 0 rfl) ?_
  refine lv_if_eq (tgt := 70) hx hb dX0_add_61 (by decide) (fun h9 => absurd h9 (by decide)) (fun _ => ?_)
  refine lv_lload hx hb dX0_add_64 (lv_at hl 1 rfl) ?_
  refine lv_lneg hx hb dX0_add_66 ?_
  refine lv_goto (tgt := 72) hx hb dX0_add_67 (by decide) ?_
  refine lv_ladd hx hb dX0_add_72 ?_
  refine va_last hx hb hK hP hD hS 2 0 rfl rfl (ax_in (by omega) (by omega)) dX0_add_73 (fun H locs hP hD hS => ?_)
  rw [nI_clamp (n := b + 3) (by omega)] at hP hD
  have hP : va_P (dC, dI) vwCl [(xl, .inr (0, [.ref xn, .ref xm])), (xn, .inl (cL, 64, .inr (.inl u))), (xm, .inl (cL, 64, .inr (.inl (vp_updL (vp_updL (vp_updL (vp_updL g (b + 0) ((g (b + 0)) + (-(fac.toInt64 * (u (a + 0)))))) (b + 1) (((vp_updL g (b + 0) ((g (b + 0)) + (-(fac.toInt64 * (u (a + 0)))))) (b + 1)) + (-(fac.toInt64 * (u (a + 1)))))) (b + 2) (((vp_updL (vp_updL g (b + 0) ((g (b + 0)) + (-(fac.toInt64 * (u (a + 0)))))) (b + 1) (((vp_updL g (b + 0) ((g (b + 0)) + (-(fac.toInt64 * (u (a + 0)))))) (b + 1)) + (-(fac.toInt64 * (u (a + 1)))))) (b + 2)) + (-(fac.toInt64 * (u (a + 2)))))) (b + 3) (((vp_updL (vp_updL (vp_updL g (b + 0) ((g (b + 0)) + (-(fac.toInt64 * (u (a + 0)))))) (b + 1) (((vp_updL g (b + 0) ((g (b + 0)) + (-(fac.toInt64 * (u (a + 0)))))) (b + 1)) + (-(fac.toInt64 * (u (a + 1)))))) (b + 2) (((vp_updL (vp_updL g (b + 0) ((g (b + 0)) + (-(fac.toInt64 * (u (a + 0)))))) (b + 1) (((vp_updL g (b + 0) ((g (b + 0)) + (-(fac.toInt64 * (u (a + 0)))))) (b + 1)) + (-(fac.toInt64 * (u (a + 1)))))) (b + 2)) + (-(fac.toInt64 * (u (a + 2)))))) (b + 3)) + (-(fac.toInt64 * (u (a + 3)))))))))] H := hP
  have hD : va_D A [(xl, .inr (0, [.ref xn, .ref xm])), (xn, .inl (cL, 64, .inr (.inl u))), (xm, .inl (cL, 64, .inr (.inl (vp_updL (vp_updL (vp_updL (vp_updL g (b + 0) ((g (b + 0)) + (-(fac.toInt64 * (u (a + 0)))))) (b + 1) (((vp_updL g (b + 0) ((g (b + 0)) + (-(fac.toInt64 * (u (a + 0)))))) (b + 1)) + (-(fac.toInt64 * (u (a + 1)))))) (b + 2) (((vp_updL (vp_updL g (b + 0) ((g (b + 0)) + (-(fac.toInt64 * (u (a + 0)))))) (b + 1) (((vp_updL g (b + 0) ((g (b + 0)) + (-(fac.toInt64 * (u (a + 0)))))) (b + 1)) + (-(fac.toInt64 * (u (a + 1)))))) (b + 2)) + (-(fac.toInt64 * (u (a + 2)))))) (b + 3) (((vp_updL (vp_updL (vp_updL g (b + 0) ((g (b + 0)) + (-(fac.toInt64 * (u (a + 0)))))) (b + 1) (((vp_updL g (b + 0) ((g (b + 0)) + (-(fac.toInt64 * (u (a + 0)))))) (b + 1)) + (-(fac.toInt64 * (u (a + 1)))))) (b + 2) (((vp_updL (vp_updL g (b + 0) ((g (b + 0)) + (-(fac.toInt64 * (u (a + 0)))))) (b + 1) (((vp_updL g (b + 0) ((g (b + 0)) + (-(fac.toInt64 * (u (a + 0)))))) (b + 1)) + (-(fac.toInt64 * (u (a + 1)))))) (b + 2)) + (-(fac.toInt64 * (u (a + 2)))))) (b + 3)) + (-(fac.toInt64 * (u (a + 3)))))))))] := hD
  refine lv_iinc (v := 4) (lv' := [(5, .int 4), (9, .int 1), (7, .long (fac.toInt64 * (u (a + 3)))), (6, .int 7), (0, .ref xl), (1, .int (nI a)), (2, .int (nI b)), (3, .int tn), (4, .int fac)]) hx hb dX0_add_74 hl (k := 3) rfl (by decide) (by decide) rfl (fun ls hl => ?_)
  refine lv_goto (tgt := 3) hx hb dX0_add_77 (by decide) ?_
  refine lv_iload hx hb dX0_add_3 (lv_at hl 0 rfl) ?_
  refine lv_iconst (v := 4) hx hb dX0_add_5 (by decide) ?_
  refine lv_icmp_ge (tgt := 80) hx hb dX0_add_6 (by decide) (fun _ => ?_) (fun h9 => absurd (by decide) h9)
  refine W.widen (k := 0) (n := 0) (Nat.le_of_ble_eq_true rfl) (Nat.le_of_ble_eq_true rfl) ?_
  have hP9 := hP.sub (ws' := [(xl, .inr (0, [.ref xn, .ref xm])), (xn, .inl (cL, 64, .inr (.inl u))), (xm, .inl (cL, 64, .inr (.inl (vp_updL (vp_updL (vp_updL (vp_updL g (b + 0) ((g (b + 0)) + (-(fac.toInt64 * (u (a + 0)))))) (b + 1) (((vp_updL g (b + 0) ((g (b + 0)) + (-(fac.toInt64 * (u (a + 0)))))) (b + 1)) + (-(fac.toInt64 * (u (a + 1)))))) (b + 2) (((vp_updL (vp_updL g (b + 0) ((g (b + 0)) + (-(fac.toInt64 * (u (a + 0)))))) (b + 1) (((vp_updL g (b + 0) ((g (b + 0)) + (-(fac.toInt64 * (u (a + 0)))))) (b + 1)) + (-(fac.toInt64 * (u (a + 1)))))) (b + 2)) + (-(fac.toInt64 * (u (a + 2)))))) (b + 3) (((vp_updL (vp_updL (vp_updL g (b + 0) ((g (b + 0)) + (-(fac.toInt64 * (u (a + 0)))))) (b + 1) (((vp_updL g (b + 0) ((g (b + 0)) + (-(fac.toInt64 * (u (a + 0)))))) (b + 1)) + (-(fac.toInt64 * (u (a + 1)))))) (b + 2) (((vp_updL (vp_updL g (b + 0) ((g (b + 0)) + (-(fac.toInt64 * (u (a + 0)))))) (b + 1) (((vp_updL g (b + 0) ((g (b + 0)) + (-(fac.toInt64 * (u (a + 0)))))) (b + 1)) + (-(fac.toInt64 * (u (a + 1)))))) (b + 2)) + (-(fac.toInt64 * (u (a + 2)))))) (b + 3)) + (-(fac.toInt64 * (u (a + 3)))))))))]) [0, 1, 2] rfl
  have hD9 := hD.sub (ws' := [(xl, .inr (0, [.ref xn, .ref xm])), (xn, .inl (cL, 64, .inr (.inl u))), (xm, .inl (cL, 64, .inr (.inl (vp_updL (vp_updL (vp_updL (vp_updL g (b + 0) ((g (b + 0)) + (-(fac.toInt64 * (u (a + 0)))))) (b + 1) (((vp_updL g (b + 0) ((g (b + 0)) + (-(fac.toInt64 * (u (a + 0)))))) (b + 1)) + (-(fac.toInt64 * (u (a + 1)))))) (b + 2) (((vp_updL (vp_updL g (b + 0) ((g (b + 0)) + (-(fac.toInt64 * (u (a + 0)))))) (b + 1) (((vp_updL g (b + 0) ((g (b + 0)) + (-(fac.toInt64 * (u (a + 0)))))) (b + 1)) + (-(fac.toInt64 * (u (a + 1)))))) (b + 2)) + (-(fac.toInt64 * (u (a + 2)))))) (b + 3) (((vp_updL (vp_updL (vp_updL g (b + 0) ((g (b + 0)) + (-(fac.toInt64 * (u (a + 0)))))) (b + 1) (((vp_updL g (b + 0) ((g (b + 0)) + (-(fac.toInt64 * (u (a + 0)))))) (b + 1)) + (-(fac.toInt64 * (u (a + 1)))))) (b + 2) (((vp_updL (vp_updL g (b + 0) ((g (b + 0)) + (-(fac.toInt64 * (u (a + 0)))))) (b + 1) (((vp_updL g (b + 0) ((g (b + 0)) + (-(fac.toInt64 * (u (a + 0)))))) (b + 1)) + (-(fac.toInt64 * (u (a + 1)))))) (b + 2)) + (-(fac.toInt64 * (u (a + 2)))))) (b + 3)) + (-(fac.toInt64 * (u (a + 3)))))))))]) [0, 1, 2] (by decide) rfl
  have hK9 := hK.sub (tys' := [(cL, .long)]) [0] rfl
  have e9 : (vp_updL (vp_updL (vp_updL (vp_updL g (b + 0) ((g (b + 0)) + (-(fac.toInt64 * (u (a + 0)))))) (b + 1) (((vp_updL g (b + 0) ((g (b + 0)) + (-(fac.toInt64 * (u (a + 0)))))) (b + 1)) + (-(fac.toInt64 * (u (a + 1)))))) (b + 2) (((vp_updL (vp_updL g (b + 0) ((g (b + 0)) + (-(fac.toInt64 * (u (a + 0)))))) (b + 1) (((vp_updL g (b + 0) ((g (b + 0)) + (-(fac.toInt64 * (u (a + 0)))))) (b + 1)) + (-(fac.toInt64 * (u (a + 1)))))) (b + 2)) + (-(fac.toInt64 * (u (a + 2)))))) (b + 3) (((vp_updL (vp_updL (vp_updL g (b + 0) ((g (b + 0)) + (-(fac.toInt64 * (u (a + 0)))))) (b + 1) (((vp_updL g (b + 0) ((g (b + 0)) + (-(fac.toInt64 * (u (a + 0)))))) (b + 1)) + (-(fac.toInt64 * (u (a + 1)))))) (b + 2) (((vp_updL (vp_updL g (b + 0) ((g (b + 0)) + (-(fac.toInt64 * (u (a + 0)))))) (b + 1) (((vp_updL g (b + 0) ((g (b + 0)) + (-(fac.toInt64 * (u (a + 0)))))) (b + 1)) + (-(fac.toInt64 * (u (a + 1)))))) (b + 2)) + (-(fac.toInt64 * (u (a + 2)))))) (b + 3)) + (-(fac.toInt64 * (u (a + 3)))))) = ad a b 4 fac u g := by
    refine ax_ad (fun j => ⟨fun q => ?_, fun q => ?_⟩)
    · rcases (show j = b + 0 ∨ j = b + 1 ∨ j = b + 2 ∨ j = b + 3 by omega) with h | h | h | h <;> subst h <;> simp [vp_updL, rt, Nat.add_sub_cancel_left]
    · simp only [vp_updL]
      rw [if_neg (by omega), if_neg (by omega), if_neg (by omega), if_neg (by omega)]
  rw [e9] at hP9 hD9
  exact W.vret hx hb hr (fun t8 ht hW => ⟨⟨(), rfl, trivial, by rw [ht]; exact hP9, va_K.moved hW.alike hK9, hD9⟩, hS.F ht⟩) hS.2.2 dX0_add_80

set_option maxHeartbeats 4000000 in
set_option maxRecDepth 100000 in
theorem c_X0_add_5 (l : Launch) (dC : Nat → ClassId) (dI : Nat → Nat → Nat) (xl xn xm : Nat) (cL : ClassId) (ta : Nat → Nat) (sz : Nat) (u : Nat → Int64) (g : Nat → Int64) (a : Nat) (b : Nat) (tn : Int32) (fac : Int32) (h1 : a + 4 ≤ 64) (h2 : b + 4 ≤ 64) (h3 : tn &&& 7 = nI 5) : Met l yX0_add wsX0_add ({ frames := 0, cells := 0, slots := 0, locals := 0 }) (va_Pc [.ref xl, .int (nI a), .int (nI b), .int tn, .int fac] (ax_W (dC, dI) vwCl [(xl, .inr (0, [.ref xn, .ref xm])), (xn, .inl (cL, 64, .inr (.inl u))), (xm, .inl (cL, 64, .inr (.inl g)))] [(cL, .long)] ta sz)) (va_Qv (fun (u9 : Unit) => True) (fun (u9 : Unit) (t9 : State) => va_P (dC, dI) vwCl [(xl, .inr (0, [.ref xn, .ref xm])), (xn, .inl (cL, 64, .inr (.inl u))), (xm, .inl (cL, 64, .inr (.inl (ad a b 5 fac u g))))] t9.heap ∧ va_K (dC, dI) vwCl [(cL, .long)] t9 ∧ va_D (va_A [(xl, .inr (0, [.ref xn, .ref xm])), (xn, .inl (cL, 64, .inr (.inl u))), (xm, .inl (cL, 64, .inr (.inl g)))] sz) [(xl, .inr (0, [.ref xn, .ref xm])), (xn, .inl (cL, 64, .inr (.inl u))), (xm, .inl (cL, 64, .inr (.inl (ad a b 5 fac u g))))]) (va_A [(xl, .inr (0, [.ref xn, .ref xm])), (xn, .inl (cL, 64, .inr (.inl u))), (xm, .inl (cL, 64, .inr (.inl g)))] sz)) 0 0 (va_A [(xl, .inr (0, [.ref xn, .ref xm])), (xn, .inl (cL, 64, .inr (.inl u))), (xm, .inl (cL, 64, .inr (.inl g)))] sz) := by
  refine Met.ofW (cc := cX0_add) (maxL := 10) (ret := none) (by decide) rfl ?_
  intro p e s m args below meth c s₁ B hml hv
  obtain ⟨rfl, hsz, hP, hK, hD0, hE⟩ := hv
  have hx := B.exec
  have hb := B.bytes
  have hr := B.returns
  have hts := atoms_spec (ws := wsX0_add) B.pre
  have hown : s.vm.findClass RX0 = some m.cls := findClass_of_methodNamed B.named
  have hlocks := B.notSynchronized
  subst hsz
  have hD := hD0.self (sz := s.heap.size)
  generalize hAe : va_A [(xl, .inr (0, [.ref xn, .ref xm])), (xn, .inl (cL, 64, .inr (.inl u))), (xm, .inl (cL, 64, .inr (.inl g)))] s.heap.size = A at hD hE ⊢
  have hA : ∀ q : Nat, s.heap.size ≤ q → A q := fun q h => by rw [← hAe]; exact Or.inr h
  have hS : va_S A s.heap s.heap [] := va_S.rf
  have hl := lv_entry ([.ref xl, .int (nI a), .int (nI b), .int tn, .int fac]) (n := 10) (Nat.le_of_ble_eq_true rfl)
  rw [lg_entry_eq]
  generalize (lg_sl ([.ref xl, .int (nI a), .int (nI b), .int tn, .int fac]) ++ List.replicate (10 - (lg_sl ([.ref xl, .int (nI a), .int (nI b), .int tn, .int fac])).length) Slot.unset).toArray = ls at hl ⊢
  have hl : lv_has ls 10 [(0, .ref xl), (1, .int (nI a)), (2, .int (nI b)), (3, .int tn), (4, .int fac)] := hl
  have hP : va_P (dC, dI) vwCl [(xl, .inr (0, [.ref xn, .ref xm])), (xn, .inl (cL, 64, .inr (.inl u))), (xm, .inl (cL, 64, .inr (.inl g)))] s.heap := hP
  refine lv_iconst (v := 0) hx hb dX0_add_0 (by decide) ?_
  refine lv_istore (lv' := [(5, .int 0), (0, .ref xl), (1, .int (nI a)), (2, .int (nI b)), (3, .int tn), (4, .int fac)]) hx hb dX0_add_1 hl (by decide) rfl (fun ls hl => ?_)
  refine lv_iload hx hb dX0_add_3 (lv_at hl 0 rfl) ?_
  refine lv_iconst (v := 4) hx hb dX0_add_5 (by decide) ?_
  refine lv_icmp_ge (tgt := 80) hx hb dX0_add_6 (by decide) (fun h9 => absurd h9 (by decide)) (fun _ => ?_)
  refine lv_iload hx hb dX0_add_9 (lv_at hl 0 rfl) ?_
  refine lv_iload_n hx hb dX0_add_11 rfl (lv_at hl 4 rfl) ?_
  refine lv_bipush (v := 7) hx hb dX0_add_12 (by decide) ?_
  refine lv_iand hx hb dX0_add_14 ?_
  refine ax_i (y := 5) h3 ?_
  refine lv_iadd hx hb dX0_add_15 ?_
  refine ax_i (y := 5) (by decide) ?_
  refine lv_istore (lv' := [(6, .int 5), (5, .int 0), (0, .ref xl), (1, .int (nI a)), (2, .int (nI b)), (3, .int tn), (4, .int fac)]) hx hb dX0_add_16 hl (by decide) rfl (fun ls hl => ?_)
  refine lv_iload hx hb dX0_add_18 (lv_at hl 6 rfl) ?_
  refine lv_i2l (v := fac.toInt64) hx hb dX0_add_20 rfl ?_
  refine lv_aload_n hx hb dX0_add_21 rfl (lv_at hl 2 rfl) ?_
  refine va_get (D := (dC, dI)) (ci := 0) (v := .ref xn) (C := RX0) (T := TX0) (N := 2) hx hb hts (by decide +kernel) hown hK hP 0 rfl rfl 0 (by decide) (hts (.fieldLink RX0 11 "Diffractory$Light" "now" "[J") (by decide +kernel)) (fun _ h9 => h9) rfl dX0_add_22 ?_
  refine lv_iload_n hx hb dX0_add_25 rfl (lv_at hl 3 rfl) ?_
  refine lv_iload hx hb dX0_add_26 (lv_at hl 1 rfl) ?_
  refine lv_iadd hx hb dX0_add_28 ?_
  refine ax_i (y := (nI (a + 0))) (ax_addN a 0) ?_
  refine va_lald hx hb hK hP 1 0 rfl rfl (ax_in (by omega) (by omega)) dX0_add_29 ?_
  refine ax_l (y := (u (a + 0))) (by rw [nI_clamp (n := a + 0) (by omega)]) ?_
  refine lv_lmul hx hb dX0_add_30 ?_
  refine lv_lstore (lv' := [(7, .long (fac.toInt64 * (u (a + 0)))), (6, .int 5), (5, .int 0), (0, .ref xl), (1, .int (nI a)), (2, .int (nI b)), (3, .int tn), (4, .int fac)]) hx hb dX0_add_31 hl (by decide) rfl (fun ls hl => ?_)
  refine lv_iload hx hb dX0_add_33 (lv_at hl 1 rfl) ?_
  refine lv_iconst (v := 4) hx hb dX0_add_35 (by decide) ?_
  refine lv_iand hx hb dX0_add_36 ?_
  refine ax_i (y := 4) (by decide) ?_
  refine lv_if_eq (tgt := 44) hx hb dX0_add_37 (by decide) (fun h9 => absurd h9 (by decide)) (fun _ => ?_)
  refine lv_iconst (v := 1) hx hb dX0_add_40 (by decide) ?_
  refine lv_goto (tgt := 45) hx hb dX0_add_41 (by decide) ?_
  refine lv_istore (lv' := [(9, .int 1), (7, .long (fac.toInt64 * (u (a + 0)))), (6, .int 5), (5, .int 0), (0, .ref xl), (1, .int (nI a)), (2, .int (nI b)), (3, .int tn), (4, .int fac)]) hx hb dX0_add_45 hl (by decide) rfl (fun ls hl => ?_)
  refine lv_aload_n hx hb dX0_add_47 rfl (lv_at hl 4 rfl) ?_
  refine va_get (D := (dC, dI)) (ci := 0) (v := .ref xm) (C := RX0) (T := TX0) (N := 2) hx hb hts (by decide +kernel) hown hK hP 0 rfl rfl 1 (by decide) (hts (.fieldLink RX0 15 "Diffractory$Light" "next" "[J") (by decide +kernel)) (fun _ h9 => h9) rfl dX0_add_48 ?_
  refine lv_iload_n hx hb dX0_add_51 rfl (lv_at hl 6 rfl) ?_
  refine lv_iload hx hb dX0_add_52 (lv_at hl 2 rfl) ?_
  refine lv_iconst (v := 3) hx hb dX0_add_54 (by decide) ?_
  refine lv_iand hx hb dX0_add_55 ?_
  refine ax_i (y := 1) (by decide) ?_
  refine lv_iadd hx hb dX0_add_56 ?_
  refine ax_i (y := (nI (b + 1))) (ax_addN b 1) ?_
  refine lv_dup2_11 hx hb dX0_add_57 rfl rfl ?_
  refine va_lald hx hb hK hP 2 0 rfl rfl (ax_in (by omega) (by omega)) dX0_add_58 ?_
  refine ax_l (y := (g (b + 1))) (by rw [nI_clamp (n := b + 1) (by omega)]) ?_
  refine lv_iload hx hb dX0_add_59 (lv_at hl 0 rfl) ?_
  refine lv_if_eq (tgt := 70) hx hb dX0_add_61 (by decide) (fun h9 => absurd h9 (by decide)) (fun _ => ?_)
  refine lv_lload hx hb dX0_add_64 (lv_at hl 1 rfl) ?_
  refine lv_lneg hx hb dX0_add_66 ?_
  refine lv_goto (tgt := 72) hx hb dX0_add_67 (by decide) ?_
  refine lv_ladd hx hb dX0_add_72 ?_
  refine va_last hx hb hK hP hD hS 2 0 rfl rfl (ax_in (by omega) (by omega)) dX0_add_73 (fun H locs hP hD hS => ?_)
  rw [nI_clamp (n := b + 1) (by omega)] at hP hD
  have hP : va_P (dC, dI) vwCl [(xl, .inr (0, [.ref xn, .ref xm])), (xn, .inl (cL, 64, .inr (.inl u))), (xm, .inl (cL, 64, .inr (.inl (vp_updL g (b + 1) ((g (b + 1)) + (-(fac.toInt64 * (u (a + 0)))))))))] H := hP
  have hD : va_D A [(xl, .inr (0, [.ref xn, .ref xm])), (xn, .inl (cL, 64, .inr (.inl u))), (xm, .inl (cL, 64, .inr (.inl (vp_updL g (b + 1) ((g (b + 1)) + (-(fac.toInt64 * (u (a + 0)))))))))] := hD
  refine lv_iinc (v := 1) (lv' := [(5, .int 1), (9, .int 1), (7, .long (fac.toInt64 * (u (a + 0)))), (6, .int 5), (0, .ref xl), (1, .int (nI a)), (2, .int (nI b)), (3, .int tn), (4, .int fac)]) hx hb dX0_add_74 hl (k := 3) rfl (by decide) (by decide) rfl (fun ls hl => ?_)
  refine lv_goto (tgt := 3) hx hb dX0_add_77 (by decide) ?_
  refine lv_iload hx hb dX0_add_3 (lv_at hl 0 rfl) ?_
  refine lv_iconst (v := 4) hx hb dX0_add_5 (by decide) ?_
  refine lv_icmp_ge (tgt := 80) hx hb dX0_add_6 (by decide) (fun h9 => absurd h9 (by decide)) (fun _ => ?_)
  refine lv_iload hx hb dX0_add_9 (lv_at hl 0 rfl) ?_
  refine lv_iload_n hx hb dX0_add_11 rfl (lv_at hl 7 rfl) ?_
  refine lv_bipush (v := 7) hx hb dX0_add_12 (by decide) ?_
  refine lv_iand hx hb dX0_add_14 ?_
  refine ax_i (y := 5) h3 ?_
  refine lv_iadd hx hb dX0_add_15 ?_
  refine ax_i (y := 6) (by decide) ?_
  refine lv_istore (lv' := [(6, .int 6), (5, .int 1), (9, .int 1), (7, .long (fac.toInt64 * (u (a + 0)))), (0, .ref xl), (1, .int (nI a)), (2, .int (nI b)), (3, .int tn), (4, .int fac)]) hx hb dX0_add_16 hl (by decide) rfl (fun ls hl => ?_)
  refine lv_iload hx hb dX0_add_18 (lv_at hl 8 rfl) ?_
  refine lv_i2l (v := fac.toInt64) hx hb dX0_add_20 rfl ?_
  refine lv_aload_n hx hb dX0_add_21 rfl (lv_at hl 4 rfl) ?_
  refine va_get (D := (dC, dI)) (ci := 0) (v := .ref xn) (C := RX0) (T := TX0) (N := 2) hx hb hts (by decide +kernel) hown hK hP 0 rfl rfl 0 (by decide) (hts (.fieldLink RX0 11 "Diffractory$Light" "now" "[J") (by decide +kernel)) (fun _ h9 => h9) rfl dX0_add_22 ?_
  refine lv_iload_n hx hb dX0_add_25 rfl (lv_at hl 5 rfl) ?_
  refine lv_iload hx hb dX0_add_26 (lv_at hl 1 rfl) ?_
  refine lv_iadd hx hb dX0_add_28 ?_
  refine ax_i (y := (nI (a + 1))) (ax_addN a 1) ?_
  refine va_lald hx hb hK hP 1 0 rfl rfl (ax_in (by omega) (by omega)) dX0_add_29 ?_
  refine ax_l (y := (u (a + 1))) (by rw [nI_clamp (n := a + 1) (by omega)]) ?_
  refine lv_lmul hx hb dX0_add_30 ?_
  refine lv_lstore (lv' := [(7, .long (fac.toInt64 * (u (a + 1)))), (6, .int 6), (5, .int 1), (9, .int 1), (0, .ref xl), (1, .int (nI a)), (2, .int (nI b)), (3, .int tn), (4, .int fac)]) hx hb dX0_add_31 hl (by decide) rfl (fun ls hl => ?_)
  refine lv_iload hx hb dX0_add_33 (lv_at hl 1 rfl) ?_
  refine lv_iconst (v := 4) hx hb dX0_add_35 (by decide) ?_
  refine lv_iand hx hb dX0_add_36 ?_
  refine ax_i (y := 4) (by decide) ?_
  refine lv_if_eq (tgt := 44) hx hb dX0_add_37 (by decide) (fun h9 => absurd h9 (by decide)) (fun _ => ?_)
  refine lv_iconst (v := 1) hx hb dX0_add_40 (by decide) ?_
  refine lv_goto (tgt := 45) hx hb dX0_add_41 (by decide) ?_
  refine lv_istore (lv' := [(9, .int 1), (7, .long (fac.toInt64 * (u (a + 1)))), (6, .int 6), (5, .int 1), (0, .ref xl), (1, .int (nI a)), (2, .int (nI b)), (3, .int tn), (4, .int fac)]) hx hb dX0_add_45 hl (by decide) rfl (fun ls hl => ?_)
  refine lv_aload_n hx hb dX0_add_47 rfl (lv_at hl 4 rfl) ?_
  refine va_get (D := (dC, dI)) (ci := 0) (v := .ref xm) (C := RX0) (T := TX0) (N := 2) hx hb hts (by decide +kernel) hown hK hP 0 rfl rfl 1 (by decide) (hts (.fieldLink RX0 15 "Diffractory$Light" "next" "[J") (by decide +kernel)) (fun _ h9 => h9) rfl dX0_add_48 ?_
  refine lv_iload_n hx hb dX0_add_51 rfl (lv_at hl 6 rfl) ?_
  refine lv_iload hx hb dX0_add_52 (lv_at hl 2 rfl) ?_
  refine lv_iconst (v := 3) hx hb dX0_add_54 (by decide) ?_
  refine lv_iand hx hb dX0_add_55 ?_
  refine ax_i (y := 2) (by decide) ?_
  refine lv_iadd hx hb dX0_add_56 ?_
  refine ax_i (y := (nI (b + 2))) (ax_addN b 2) ?_
  refine lv_dup2_11 hx hb dX0_add_57 rfl rfl ?_
  refine va_lald hx hb hK hP 2 0 rfl rfl (ax_in (by omega) (by omega)) dX0_add_58 ?_
  refine ax_l (y := ((vp_updL g (b + 1) ((g (b + 1)) + (-(fac.toInt64 * (u (a + 0)))))) (b + 2))) (by rw [nI_clamp (n := b + 2) (by omega)]) ?_
  refine lv_iload hx hb dX0_add_59 (lv_at hl 0 rfl) ?_
  refine lv_if_eq (tgt := 70) hx hb dX0_add_61 (by decide) (fun h9 => absurd h9 (by decide)) (fun _ => ?_)
  refine lv_lload hx hb dX0_add_64 (lv_at hl 1 rfl) ?_
  refine lv_lneg hx hb dX0_add_66 ?_
  refine lv_goto (tgt := 72) hx hb dX0_add_67 (by decide) ?_
  refine lv_ladd hx hb dX0_add_72 ?_
  refine va_last hx hb hK hP hD hS 2 0 rfl rfl (ax_in (by omega) (by omega)) dX0_add_73 (fun H locs hP hD hS => ?_)
  rw [nI_clamp (n := b + 2) (by omega)] at hP hD
  have hP : va_P (dC, dI) vwCl [(xl, .inr (0, [.ref xn, .ref xm])), (xn, .inl (cL, 64, .inr (.inl u))), (xm, .inl (cL, 64, .inr (.inl (vp_updL (vp_updL g (b + 1) ((g (b + 1)) + (-(fac.toInt64 * (u (a + 0)))))) (b + 2) (((vp_updL g (b + 1) ((g (b + 1)) + (-(fac.toInt64 * (u (a + 0)))))) (b + 2)) + (-(fac.toInt64 * (u (a + 1)))))))))] H := hP
  have hD : va_D A [(xl, .inr (0, [.ref xn, .ref xm])), (xn, .inl (cL, 64, .inr (.inl u))), (xm, .inl (cL, 64, .inr (.inl (vp_updL (vp_updL g (b + 1) ((g (b + 1)) + (-(fac.toInt64 * (u (a + 0)))))) (b + 2) (((vp_updL g (b + 1) ((g (b + 1)) + (-(fac.toInt64 * (u (a + 0)))))) (b + 2)) + (-(fac.toInt64 * (u (a + 1)))))))))] := hD
  refine lv_iinc (v := 2) (lv' := [(5, .int 2), (9, .int 1), (7, .long (fac.toInt64 * (u (a + 1)))), (6, .int 6), (0, .ref xl), (1, .int (nI a)), (2, .int (nI b)), (3, .int tn), (4, .int fac)]) hx hb dX0_add_74 hl (k := 3) rfl (by decide) (by decide) rfl (fun ls hl => ?_)
  refine lv_goto (tgt := 3) hx hb dX0_add_77 (by decide) ?_
  refine lv_iload hx hb dX0_add_3 (lv_at hl 0 rfl) ?_
  refine lv_iconst (v := 4) hx hb dX0_add_5 (by decide) ?_
  refine lv_icmp_ge (tgt := 80) hx hb dX0_add_6 (by decide) (fun h9 => absurd h9 (by decide)) (fun _ => ?_)
  refine lv_iload hx hb dX0_add_9 (lv_at hl 0 rfl) ?_
  refine lv_iload_n hx hb dX0_add_11 rfl (lv_at hl 7 rfl) ?_
  refine lv_bipush (v := 7) hx hb dX0_add_12 (by decide) ?_
  refine lv_iand hx hb dX0_add_14 ?_
  refine ax_i (y := 5) h3 ?_
  refine lv_iadd hx hb dX0_add_15 ?_
  refine ax_i (y := 7) (by decide) ?_
  refine lv_istore (lv' := [(6, .int 7), (5, .int 2), (9, .int 1), (7, .long (fac.toInt64 * (u (a + 1)))), (0, .ref xl), (1, .int (nI a)), (2, .int (nI b)), (3, .int tn), (4, .int fac)]) hx hb dX0_add_16 hl (by decide) rfl (fun ls hl => ?_)
  refine lv_iload hx hb dX0_add_18 (lv_at hl 8 rfl) ?_
  refine lv_i2l (v := fac.toInt64) hx hb dX0_add_20 rfl ?_
  refine lv_aload_n hx hb dX0_add_21 rfl (lv_at hl 4 rfl) ?_
  refine va_get (D := (dC, dI)) (ci := 0) (v := .ref xn) (C := RX0) (T := TX0) (N := 2) hx hb hts (by decide +kernel) hown hK hP 0 rfl rfl 0 (by decide) (hts (.fieldLink RX0 11 "Diffractory$Light" "now" "[J") (by decide +kernel)) (fun _ h9 => h9) rfl dX0_add_22 ?_
  refine lv_iload_n hx hb dX0_add_25 rfl (lv_at hl 5 rfl) ?_
  refine lv_iload hx hb dX0_add_26 (lv_at hl 1 rfl) ?_
  refine lv_iadd hx hb dX0_add_28 ?_
  refine ax_i (y := (nI (a + 2))) (ax_addN a 2) ?_
  refine va_lald hx hb hK hP 1 0 rfl rfl (ax_in (by omega) (by omega)) dX0_add_29 ?_
  refine ax_l (y := (u (a + 2))) (by rw [nI_clamp (n := a + 2) (by omega)]) ?_
  refine lv_lmul hx hb dX0_add_30 ?_
  refine lv_lstore (lv' := [(7, .long (fac.toInt64 * (u (a + 2)))), (6, .int 7), (5, .int 2), (9, .int 1), (0, .ref xl), (1, .int (nI a)), (2, .int (nI b)), (3, .int tn), (4, .int fac)]) hx hb dX0_add_31 hl (by decide) rfl (fun ls hl => ?_)
  refine lv_iload hx hb dX0_add_33 (lv_at hl 1 rfl) ?_
  refine lv_iconst (v := 4) hx hb dX0_add_35 (by decide) ?_
  refine lv_iand hx hb dX0_add_36 ?_
  refine ax_i (y := 4) (by decide) ?_
  refine lv_if_eq (tgt := 44) hx hb dX0_add_37 (by decide) (fun h9 => absurd h9 (by decide)) (fun _ => ?_)
  refine lv_iconst (v := 1) hx hb dX0_add_40 (by decide) ?_
  refine lv_goto (tgt := 45) hx hb dX0_add_41 (by decide) ?_
  refine lv_istore (lv' := [(9, .int 1), (7, .long (fac.toInt64 * (u (a + 2)))), (6, .int 7), (5, .int 2), (0, .ref xl), (1, .int (nI a)), (2, .int (nI b)), (3, .int tn), (4, .int fac)]) hx hb dX0_add_45 hl (by decide) rfl (fun ls hl => ?_)
  refine lv_aload_n hx hb dX0_add_47 rfl (lv_at hl 4 rfl) ?_
  refine va_get (D := (dC, dI)) (ci := 0) (v := .ref xm) (C := RX0) (T := TX0) (N := 2) hx hb hts (by decide +kernel) hown hK hP 0 rfl rfl 1 (by decide) (hts (.fieldLink RX0 15 "Diffractory$Light" "next" "[J") (by decide +kernel)) (fun _ h9 => h9) rfl dX0_add_48 ?_
  refine lv_iload_n hx hb dX0_add_51 rfl (lv_at hl 6 rfl) ?_
  refine lv_iload hx hb dX0_add_52 (lv_at hl 2 rfl) ?_
  refine lv_iconst (v := 3) hx hb dX0_add_54 (by decide) ?_
  refine lv_iand hx hb dX0_add_55 ?_
  refine ax_i (y := 3) (by decide) ?_
  refine lv_iadd hx hb dX0_add_56 ?_
  refine ax_i (y := (nI (b + 3))) (ax_addN b 3) ?_
  refine lv_dup2_11 hx hb dX0_add_57 rfl rfl ?_
  refine va_lald hx hb hK hP 2 0 rfl rfl (ax_in (by omega) (by omega)) dX0_add_58 ?_
  refine ax_l (y := ((vp_updL (vp_updL g (b + 1) ((g (b + 1)) + (-(fac.toInt64 * (u (a + 0)))))) (b + 2) (((vp_updL g (b + 1) ((g (b + 1)) + (-(fac.toInt64 * (u (a + 0)))))) (b + 2)) + (-(fac.toInt64 * (u (a + 1)))))) (b + 3))) (by rw [nI_clamp (n := b + 3) (by omega)]) ?_
  refine lv_iload hx hb dX0_add_59 (lv_at hl 0 rfl) ?_
  refine lv_if_eq (tgt := 70) hx hb dX0_add_61 (by decide) (fun h9 => absurd h9 (by decide)) (fun _ => ?_)
  refine lv_lload hx hb dX0_add_64 (lv_at hl 1 rfl) ?_
  refine lv_lneg hx hb dX0_add_66 ?_
  refine lv_goto (tgt := 72) hx hb dX0_add_67 (by decide) ?_
  refine lv_ladd hx hb dX0_add_72 ?_
  refine va_last hx hb hK hP hD hS 2 0 rfl rfl (ax_in (by omega) (by omega)) dX0_add_73 (fun H locs hP hD hS => ?_)
  rw [nI_clamp (n := b + 3) (by omega)] at hP hD
  have hP : va_P (dC, dI) vwCl [(xl, .inr (0, [.ref xn, .ref xm])), (xn, .inl (cL, 64, .inr (.inl u))), (xm, .inl (cL, 64, .inr (.inl (vp_updL (vp_updL (vp_updL g (b + 1) ((g (b + 1)) + (-(fac.toInt64 * (u (a + 0)))))) (b + 2) (((vp_updL g (b + 1) ((g (b + 1)) + (-(fac.toInt64 * (u (a + 0)))))) (b + 2)) + (-(fac.toInt64 * (u (a + 1)))))) (b + 3) (((vp_updL (vp_updL g (b + 1) ((g (b + 1)) + (-(fac.toInt64 * (u (a + 0)))))) (b + 2) (((vp_updL g (b + 1) ((g (b + 1)) + (-(fac.toInt64 * (u (a + 0)))))) (b + 2)) + (-(fac.toInt64 * (u (a + 1)))))) (b + 3)) + (-(fac.toInt64 * (u (a + 2)))))))))] H := hP
  have hD : va_D A [(xl, .inr (0, [.ref xn, .ref xm])), (xn, .inl (cL, 64, .inr (.inl u))), (xm, .inl (cL, 64, .inr (.inl (vp_updL (vp_updL (vp_updL g (b + 1) ((g (b + 1)) + (-(fac.toInt64 * (u (a + 0)))))) (b + 2) (((vp_updL g (b + 1) ((g (b + 1)) + (-(fac.toInt64 * (u (a + 0)))))) (b + 2)) + (-(fac.toInt64 * (u (a + 1)))))) (b + 3) (((vp_updL (vp_updL g (b + 1) ((g (b + 1)) + (-(fac.toInt64 * (u (a + 0)))))) (b + 2) (((vp_updL g (b + 1) ((g (b + 1)) + (-(fac.toInt64 * (u (a + 0)))))) (b + 2)) + (-(fac.toInt64 * (u (a + 1)))))) (b + 3)) + (-(fac.toInt64 * (u (a + 2)))))))))] := hD
  refine lv_iinc (v := 3) (lv' := [(5, .int 3), (9, .int 1), (7, .long (fac.toInt64 * (u (a + 2)))), (6, .int 7), (0, .ref xl), (1, .int (nI a)), (2, .int (nI b)), (3, .int tn), (4, .int fac)]) hx hb dX0_add_74 hl (k := 3) rfl (by decide) (by decide) rfl (fun ls hl => ?_)
  refine lv_goto (tgt := 3) hx hb dX0_add_77 (by decide) ?_
  refine lv_iload hx hb dX0_add_3 (lv_at hl 0 rfl) ?_
  refine lv_iconst (v := 4) hx hb dX0_add_5 (by decide) ?_
  refine lv_icmp_ge (tgt := 80) hx hb dX0_add_6 (by decide) (fun h9 => absurd h9 (by decide)) (fun _ => ?_)
  refine lv_iload hx hb dX0_add_9 (lv_at hl 0 rfl) ?_
  refine lv_iload_n hx hb dX0_add_11 rfl (lv_at hl 7 rfl) ?_
  refine lv_bipush (v := 7) hx hb dX0_add_12 (by decide) ?_
  refine lv_iand hx hb dX0_add_14 ?_
  refine ax_i (y := 5) h3 ?_
  refine lv_iadd hx hb dX0_add_15 ?_
  refine ax_i (y := 8) (by decide) ?_
  refine lv_istore (lv' := [(6, .int 8), (5, .int 3), (9, .int 1), (7, .long (fac.toInt64 * (u (a + 2)))), (0, .ref xl), (1, .int (nI a)), (2, .int (nI b)), (3, .int tn), (4, .int fac)]) hx hb dX0_add_16 hl (by decide) rfl (fun ls hl => ?_)
  refine lv_iload hx hb dX0_add_18 (lv_at hl 8 rfl) ?_
  refine lv_i2l (v := fac.toInt64) hx hb dX0_add_20 rfl ?_
  refine lv_aload_n hx hb dX0_add_21 rfl (lv_at hl 4 rfl) ?_
  refine va_get (D := (dC, dI)) (ci := 0) (v := .ref xn) (C := RX0) (T := TX0) (N := 2) hx hb hts (by decide +kernel) hown hK hP 0 rfl rfl 0 (by decide) (hts (.fieldLink RX0 11 "Diffractory$Light" "now" "[J") (by decide +kernel)) (fun _ h9 => h9) rfl dX0_add_22 ?_
  refine lv_iload_n hx hb dX0_add_25 rfl (lv_at hl 5 rfl) ?_
  refine lv_iload hx hb dX0_add_26 (lv_at hl 1 rfl) ?_
  refine lv_iadd hx hb dX0_add_28 ?_
  refine ax_i (y := (nI (a + 3))) (ax_addN a 3) ?_
  refine va_lald hx hb hK hP 1 0 rfl rfl (ax_in (by omega) (by omega)) dX0_add_29 ?_
  refine ax_l (y := (u (a + 3))) (by rw [nI_clamp (n := a + 3) (by omega)]) ?_
  refine lv_lmul hx hb dX0_add_30 ?_
  refine lv_lstore (lv' := [(7, .long (fac.toInt64 * (u (a + 3)))), (6, .int 8), (5, .int 3), (9, .int 1), (0, .ref xl), (1, .int (nI a)), (2, .int (nI b)), (3, .int tn), (4, .int fac)]) hx hb dX0_add_31 hl (by decide) rfl (fun ls hl => ?_)
  refine lv_iload hx hb dX0_add_33 (lv_at hl 1 rfl) ?_
  refine lv_iconst (v := 4) hx hb dX0_add_35 (by decide) ?_
  refine lv_iand hx hb dX0_add_36 ?_
  refine ax_i (y := 0) (by decide) ?_
  refine lv_if_eq (tgt := 44) hx hb dX0_add_37 (by decide) (fun _ => ?_) (fun h9 => absurd (by decide) h9)
  refine lv_iconst (v := 0) hx hb dX0_add_44 (by decide) ?_
  refine lv_istore (lv' := [(9, .int 0), (7, .long (fac.toInt64 * (u (a + 3)))), (6, .int 8), (5, .int 3), (0, .ref xl), (1, .int (nI a)), (2, .int (nI b)), (3, .int tn), (4, .int fac)]) hx hb dX0_add_45 hl (by decide) rfl (fun ls hl => ?_)
  refine lv_aload_n hx hb dX0_add_47 rfl (lv_at hl 4 rfl) ?_
  refine va_get (D := (dC, dI)) (ci := 0) (v := .ref xm) (C := RX0) (T := TX0) (N := 2) hx hb hts (by decide +kernel) hown hK hP 0 rfl rfl 1 (by decide) (hts (.fieldLink RX0 15 "Diffractory$Light" "next" "[J") (by decide +kernel)) (fun _ h9 => h9) rfl dX0_add_48 ?_
  refine lv_iload_n hx hb dX0_add_51 rfl (lv_at hl 6 rfl) ?_
  refine lv_iload hx hb dX0_add_52 (lv_at hl 2 rfl) ?_
  refine lv_iconst (v := 3) hx hb dX0_add_54 (by decide) ?_
  refine lv_iand hx hb dX0_add_55 ?_
  refine ax_i (y := 0) (by decide) ?_
  refine lv_iadd hx hb dX0_add_56 ?_
  refine ax_i (y := (nI (b + 0))) (ax_addN b 0) ?_
  refine lv_dup2_11 hx hb dX0_add_57 rfl rfl ?_
  refine va_lald hx hb hK hP 2 0 rfl rfl (ax_in (by omega) (by omega)) dX0_add_58 ?_
  refine ax_l (y := ((vp_updL (vp_updL (vp_updL g (b + 1) ((g (b + 1)) + (-(fac.toInt64 * (u (a + 0)))))) (b + 2) (((vp_updL g (b + 1) ((g (b + 1)) + (-(fac.toInt64 * (u (a + 0)))))) (b + 2)) + (-(fac.toInt64 * (u (a + 1)))))) (b + 3) (((vp_updL (vp_updL g (b + 1) ((g (b + 1)) + (-(fac.toInt64 * (u (a + 0)))))) (b + 2) (((vp_updL g (b + 1) ((g (b + 1)) + (-(fac.toInt64 * (u (a + 0)))))) (b + 2)) + (-(fac.toInt64 * (u (a + 1)))))) (b + 3)) + (-(fac.toInt64 * (u (a + 2)))))) (b + 0))) (by rw [nI_clamp (n := b + 0) (by omega)]) ?_
  refine lv_iload hx hb dX0_add_59 (lv_at hl 0 rfl) ?_
  refine lv_if_eq (tgt := 70) hx hb dX0_add_61 (by decide) (fun _ => ?_) (fun h9 => absurd (by decide) h9)
  refine lv_lload hx hb dX0_add_70 (lv_at hl 1 rfl) ?_
  refine lv_ladd hx hb dX0_add_72 ?_
  refine va_last hx hb hK hP hD hS 2 0 rfl rfl (ax_in (by omega) (by omega)) dX0_add_73 (fun H locs hP hD hS => ?_)
  rw [nI_clamp (n := b + 0) (by omega)] at hP hD
  have hP : va_P (dC, dI) vwCl [(xl, .inr (0, [.ref xn, .ref xm])), (xn, .inl (cL, 64, .inr (.inl u))), (xm, .inl (cL, 64, .inr (.inl (vp_updL (vp_updL (vp_updL (vp_updL g (b + 1) ((g (b + 1)) + (-(fac.toInt64 * (u (a + 0)))))) (b + 2) (((vp_updL g (b + 1) ((g (b + 1)) + (-(fac.toInt64 * (u (a + 0)))))) (b + 2)) + (-(fac.toInt64 * (u (a + 1)))))) (b + 3) (((vp_updL (vp_updL g (b + 1) ((g (b + 1)) + (-(fac.toInt64 * (u (a + 0)))))) (b + 2) (((vp_updL g (b + 1) ((g (b + 1)) + (-(fac.toInt64 * (u (a + 0)))))) (b + 2)) + (-(fac.toInt64 * (u (a + 1)))))) (b + 3)) + (-(fac.toInt64 * (u (a + 2)))))) (b + 0) (((vp_updL (vp_updL (vp_updL g (b + 1) ((g (b + 1)) + (-(fac.toInt64 * (u (a + 0)))))) (b + 2) (((vp_updL g (b + 1) ((g (b + 1)) + (-(fac.toInt64 * (u (a + 0)))))) (b + 2)) + (-(fac.toInt64 * (u (a + 1)))))) (b + 3) (((vp_updL (vp_updL g (b + 1) ((g (b + 1)) + (-(fac.toInt64 * (u (a + 0)))))) (b + 2) (((vp_updL g (b + 1) ((g (b + 1)) + (-(fac.toInt64 * (u (a + 0)))))) (b + 2)) + (-(fac.toInt64 * (u (a + 1)))))) (b + 3)) + (-(fac.toInt64 * (u (a + 2)))))) (b + 0)) + (fac.toInt64 * (u (a + 3))))))))] H := hP
  have hD : va_D A [(xl, .inr (0, [.ref xn, .ref xm])), (xn, .inl (cL, 64, .inr (.inl u))), (xm, .inl (cL, 64, .inr (.inl (vp_updL (vp_updL (vp_updL (vp_updL g (b + 1) ((g (b + 1)) + (-(fac.toInt64 * (u (a + 0)))))) (b + 2) (((vp_updL g (b + 1) ((g (b + 1)) + (-(fac.toInt64 * (u (a + 0)))))) (b + 2)) + (-(fac.toInt64 * (u (a + 1)))))) (b + 3) (((vp_updL (vp_updL g (b + 1) ((g (b + 1)) + (-(fac.toInt64 * (u (a + 0)))))) (b + 2) (((vp_updL g (b + 1) ((g (b + 1)) + (-(fac.toInt64 * (u (a + 0)))))) (b + 2)) + (-(fac.toInt64 * (u (a + 1)))))) (b + 3)) + (-(fac.toInt64 * (u (a + 2)))))) (b + 0) (((vp_updL (vp_updL (vp_updL g (b + 1) ((g (b + 1)) + (-(fac.toInt64 * (u (a + 0)))))) (b + 2) (((vp_updL g (b + 1) ((g (b + 1)) + (-(fac.toInt64 * (u (a + 0)))))) (b + 2)) + (-(fac.toInt64 * (u (a + 1)))))) (b + 3) (((vp_updL (vp_updL g (b + 1) ((g (b + 1)) + (-(fac.toInt64 * (u (a + 0)))))) (b + 2) (((vp_updL g (b + 1) ((g (b + 1)) + (-(fac.toInt64 * (u (a + 0)))))) (b + 2)) + (-(fac.toInt64 * (u (a + 1)))))) (b + 3)) + (-(fac.toInt64 * (u (a + 2)))))) (b + 0)) + (fac.toInt64 * (u (a + 3))))))))] := hD
  refine lv_iinc (v := 4) (lv' := [(5, .int 4), (9, .int 0), (7, .long (fac.toInt64 * (u (a + 3)))), (6, .int 8), (0, .ref xl), (1, .int (nI a)), (2, .int (nI b)), (3, .int tn), (4, .int fac)]) hx hb dX0_add_74 hl (k := 3) rfl (by decide) (by decide) rfl (fun ls hl => ?_)
  refine lv_goto (tgt := 3) hx hb dX0_add_77 (by decide) ?_
  refine lv_iload hx hb dX0_add_3 (lv_at hl 0 rfl) ?_
  refine lv_iconst (v := 4) hx hb dX0_add_5 (by decide) ?_
  refine lv_icmp_ge (tgt := 80) hx hb dX0_add_6 (by decide) (fun _ => ?_) (fun h9 => absurd (by decide) h9)
  refine W.widen (k := 0) (n := 0) (Nat.le_of_ble_eq_true rfl) (Nat.le_of_ble_eq_true rfl) ?_
  have hP9 := hP.sub (ws' := [(xl, .inr (0, [.ref xn, .ref xm])), (xn, .inl (cL, 64, .inr (.inl u))), (xm, .inl (cL, 64, .inr (.inl (vp_updL (vp_updL (vp_updL (vp_updL g (b + 1) ((g (b + 1)) + (-(fac.toInt64 * (u (a + 0)))))) (b + 2) (((vp_updL g (b + 1) ((g (b + 1)) + (-(fac.toInt64 * (u (a + 0)))))) (b + 2)) + (-(fac.toInt64 * (u (a + 1)))))) (b + 3) (((vp_updL (vp_updL g (b + 1) ((g (b + 1)) + (-(fac.toInt64 * (u (a + 0)))))) (b + 2) (((vp_updL g (b + 1) ((g (b + 1)) + (-(fac.toInt64 * (u (a + 0)))))) (b + 2)) + (-(fac.toInt64 * (u (a + 1)))))) (b + 3)) + (-(fac.toInt64 * (u (a + 2)))))) (b + 0) (((vp_updL (vp_updL (vp_updL g (b + 1) ((g (b + 1)) + (-(fac.toInt64 * (u (a + 0)))))) (b + 2) (((vp_updL g (b + 1) ((g (b + 1)) + (-(fac.toInt64 * (u (a + 0)))))) (b + 2)) + (-(fac.toInt64 * (u (a + 1)))))) (b + 3) (((vp_updL (vp_updL g (b + 1) ((g (b + 1)) + (-(fac.toInt64 * (u (a + 0)))))) (b + 2) (((vp_updL g (b + 1) ((g (b + 1)) + (-(fac.toInt64 * (u (a + 0)))))) (b + 2)) + (-(fac.toInt64 * (u (a + 1)))))) (b + 3)) + (-(fac.toInt64 * (u (a + 2)))))) (b + 0)) + (fac.toInt64 * (u (a + 3))))))))]) [0, 1, 2] rfl
  have hD9 := hD.sub (ws' := [(xl, .inr (0, [.ref xn, .ref xm])), (xn, .inl (cL, 64, .inr (.inl u))), (xm, .inl (cL, 64, .inr (.inl (vp_updL (vp_updL (vp_updL (vp_updL g (b + 1) ((g (b + 1)) + (-(fac.toInt64 * (u (a + 0)))))) (b + 2) (((vp_updL g (b + 1) ((g (b + 1)) + (-(fac.toInt64 * (u (a + 0)))))) (b + 2)) + (-(fac.toInt64 * (u (a + 1)))))) (b + 3) (((vp_updL (vp_updL g (b + 1) ((g (b + 1)) + (-(fac.toInt64 * (u (a + 0)))))) (b + 2) (((vp_updL g (b + 1) ((g (b + 1)) + (-(fac.toInt64 * (u (a + 0)))))) (b + 2)) + (-(fac.toInt64 * (u (a + 1)))))) (b + 3)) + (-(fac.toInt64 * (u (a + 2)))))) (b + 0) (((vp_updL (vp_updL (vp_updL g (b + 1) ((g (b + 1)) + (-(fac.toInt64 * (u (a + 0)))))) (b + 2) (((vp_updL g (b + 1) ((g (b + 1)) + (-(fac.toInt64 * (u (a + 0)))))) (b + 2)) + (-(fac.toInt64 * (u (a + 1)))))) (b + 3) (((vp_updL (vp_updL g (b + 1) ((g (b + 1)) + (-(fac.toInt64 * (u (a + 0)))))) (b + 2) (((vp_updL g (b + 1) ((g (b + 1)) + (-(fac.toInt64 * (u (a + 0)))))) (b + 2)) + (-(fac.toInt64 * (u (a + 1)))))) (b + 3)) + (-(fac.toInt64 * (u (a + 2)))))) (b + 0)) + (fac.toInt64 * (u (a + 3))))))))]) [0, 1, 2] (by decide) rfl
  have hK9 := hK.sub (tys' := [(cL, .long)]) [0] rfl
  have e9 : (vp_updL (vp_updL (vp_updL (vp_updL g (b + 1) ((g (b + 1)) + (-(fac.toInt64 * (u (a + 0)))))) (b + 2) (((vp_updL g (b + 1) ((g (b + 1)) + (-(fac.toInt64 * (u (a + 0)))))) (b + 2)) + (-(fac.toInt64 * (u (a + 1)))))) (b + 3) (((vp_updL (vp_updL g (b + 1) ((g (b + 1)) + (-(fac.toInt64 * (u (a + 0)))))) (b + 2) (((vp_updL g (b + 1) ((g (b + 1)) + (-(fac.toInt64 * (u (a + 0)))))) (b + 2)) + (-(fac.toInt64 * (u (a + 1)))))) (b + 3)) + (-(fac.toInt64 * (u (a + 2)))))) (b + 0) (((vp_updL (vp_updL (vp_updL g (b + 1) ((g (b + 1)) + (-(fac.toInt64 * (u (a + 0)))))) (b + 2) (((vp_updL g (b + 1) ((g (b + 1)) + (-(fac.toInt64 * (u (a + 0)))))) (b + 2)) + (-(fac.toInt64 * (u (a + 1)))))) (b + 3) (((vp_updL (vp_updL g (b + 1) ((g (b + 1)) + (-(fac.toInt64 * (u (a + 0)))))) (b + 2) (((vp_updL g (b + 1) ((g (b + 1)) + (-(fac.toInt64 * (u (a + 0)))))) (b + 2)) + (-(fac.toInt64 * (u (a + 1)))))) (b + 3)) + (-(fac.toInt64 * (u (a + 2)))))) (b + 0)) + (fac.toInt64 * (u (a + 3))))) = ad a b 5 fac u g := by
    refine ax_ad (fun j => ⟨fun q => ?_, fun q => ?_⟩)
    · rcases (show j = b + 0 ∨ j = b + 1 ∨ j = b + 2 ∨ j = b + 3 by omega) with h | h | h | h <;> subst h <;> simp [vp_updL, rt, Nat.add_sub_cancel_left]
    · simp only [vp_updL]
      rw [if_neg (by omega), if_neg (by omega), if_neg (by omega), if_neg (by omega)]
  rw [e9] at hP9 hD9
  exact W.vret hx hb hr (fun t8 ht hW => ⟨⟨(), rfl, trivial, by rw [ht]; exact hP9, va_K.moved hW.alike hK9, hD9⟩, hS.F ht⟩) hS.2.2 dX0_add_80

set_option maxHeartbeats 4000000 in
set_option maxRecDepth 100000 in
theorem c_X0_add_6 (l : Launch) (dC : Nat → ClassId) (dI : Nat → Nat → Nat) (xl xn xm : Nat) (cL : ClassId) (ta : Nat → Nat) (sz : Nat) (u : Nat → Int64) (g : Nat → Int64) (a : Nat) (b : Nat) (tn : Int32) (fac : Int32) (h1 : a + 4 ≤ 64) (h2 : b + 4 ≤ 64) (h3 : tn &&& 7 = nI 6) : Met l yX0_add wsX0_add ({ frames := 0, cells := 0, slots := 0, locals := 0 }) (va_Pc [.ref xl, .int (nI a), .int (nI b), .int tn, .int fac] (ax_W (dC, dI) vwCl [(xl, .inr (0, [.ref xn, .ref xm])), (xn, .inl (cL, 64, .inr (.inl u))), (xm, .inl (cL, 64, .inr (.inl g)))] [(cL, .long)] ta sz)) (va_Qv (fun (u9 : Unit) => True) (fun (u9 : Unit) (t9 : State) => va_P (dC, dI) vwCl [(xl, .inr (0, [.ref xn, .ref xm])), (xn, .inl (cL, 64, .inr (.inl u))), (xm, .inl (cL, 64, .inr (.inl (ad a b 6 fac u g))))] t9.heap ∧ va_K (dC, dI) vwCl [(cL, .long)] t9 ∧ va_D (va_A [(xl, .inr (0, [.ref xn, .ref xm])), (xn, .inl (cL, 64, .inr (.inl u))), (xm, .inl (cL, 64, .inr (.inl g)))] sz) [(xl, .inr (0, [.ref xn, .ref xm])), (xn, .inl (cL, 64, .inr (.inl u))), (xm, .inl (cL, 64, .inr (.inl (ad a b 6 fac u g))))]) (va_A [(xl, .inr (0, [.ref xn, .ref xm])), (xn, .inl (cL, 64, .inr (.inl u))), (xm, .inl (cL, 64, .inr (.inl g)))] sz)) 0 0 (va_A [(xl, .inr (0, [.ref xn, .ref xm])), (xn, .inl (cL, 64, .inr (.inl u))), (xm, .inl (cL, 64, .inr (.inl g)))] sz) := by
  refine Met.ofW (cc := cX0_add) (maxL := 10) (ret := none) (by decide) rfl ?_
  intro p e s m args below meth c s₁ B hml hv
  obtain ⟨rfl, hsz, hP, hK, hD0, hE⟩ := hv
  have hx := B.exec
  have hb := B.bytes
  have hr := B.returns
  have hts := atoms_spec (ws := wsX0_add) B.pre
  have hown : s.vm.findClass RX0 = some m.cls := findClass_of_methodNamed B.named
  have hlocks := B.notSynchronized
  subst hsz
  have hD := hD0.self (sz := s.heap.size)
  generalize hAe : va_A [(xl, .inr (0, [.ref xn, .ref xm])), (xn, .inl (cL, 64, .inr (.inl u))), (xm, .inl (cL, 64, .inr (.inl g)))] s.heap.size = A at hD hE ⊢
  have hA : ∀ q : Nat, s.heap.size ≤ q → A q := fun q h => by rw [← hAe]; exact Or.inr h
  have hS : va_S A s.heap s.heap [] := va_S.rf
  have hl := lv_entry ([.ref xl, .int (nI a), .int (nI b), .int tn, .int fac]) (n := 10) (Nat.le_of_ble_eq_true rfl)
  rw [lg_entry_eq]
  generalize (lg_sl ([.ref xl, .int (nI a), .int (nI b), .int tn, .int fac]) ++ List.replicate (10 - (lg_sl ([.ref xl, .int (nI a), .int (nI b), .int tn, .int fac])).length) Slot.unset).toArray = ls at hl ⊢
  have hl : lv_has ls 10 [(0, .ref xl), (1, .int (nI a)), (2, .int (nI b)), (3, .int tn), (4, .int fac)] := hl
  have hP : va_P (dC, dI) vwCl [(xl, .inr (0, [.ref xn, .ref xm])), (xn, .inl (cL, 64, .inr (.inl u))), (xm, .inl (cL, 64, .inr (.inl g)))] s.heap := hP
  refine lv_iconst (v := 0) hx hb dX0_add_0 (by decide) ?_
  refine lv_istore (lv' := [(5, .int 0), (0, .ref xl), (1, .int (nI a)), (2, .int (nI b)), (3, .int tn), (4, .int fac)]) hx hb dX0_add_1 hl (by decide) rfl (fun ls hl => ?_)
  refine lv_iload hx hb dX0_add_3 (lv_at hl 0 rfl) ?_
  refine lv_iconst (v := 4) hx hb dX0_add_5 (by decide) ?_
  refine lv_icmp_ge (tgt := 80) hx hb dX0_add_6 (by decide) (fun h9 => absurd h9 (by decide)) (fun _ => ?_)
  refine lv_iload hx hb dX0_add_9 (lv_at hl 0 rfl) ?_
  refine lv_iload_n hx hb dX0_add_11 rfl (lv_at hl 4 rfl) ?_
  refine lv_bipush (v := 7) hx hb dX0_add_12 (by decide) ?_
  refine lv_iand hx hb dX0_add_14 ?_
  refine ax_i (y := 6) h3 ?_
  refine lv_iadd hx hb dX0_add_15 ?_
  refine ax_i (y := 6) (by decide) ?_
  refine lv_istore (lv' := [(6, .int 6), (5, .int 0), (0, .ref xl), (1, .int (nI a)), (2, .int (nI b)), (3, .int tn), (4, .int fac)]) hx hb dX0_add_16 hl (by decide) rfl (fun ls hl => ?_)
  refine lv_iload hx hb dX0_add_18 (lv_at hl 6 rfl) ?_
  refine lv_i2l (v := fac.toInt64) hx hb dX0_add_20 rfl ?_
  refine lv_aload_n hx hb dX0_add_21 rfl (lv_at hl 2 rfl) ?_
  refine va_get (D := (dC, dI)) (ci := 0) (v := .ref xn) (C := RX0) (T := TX0) (N := 2) hx hb hts (by decide +kernel) hown hK hP 0 rfl rfl 0 (by decide) (hts (.fieldLink RX0 11 "Diffractory$Light" "now" "[J") (by decide +kernel)) (fun _ h9 => h9) rfl dX0_add_22 ?_
  refine lv_iload_n hx hb dX0_add_25 rfl (lv_at hl 3 rfl) ?_
  refine lv_iload hx hb dX0_add_26 (lv_at hl 1 rfl) ?_
  refine lv_iadd hx hb dX0_add_28 ?_
  refine ax_i (y := (nI (a + 0))) (ax_addN a 0) ?_
  refine va_lald hx hb hK hP 1 0 rfl rfl (ax_in (by omega) (by omega)) dX0_add_29 ?_
  refine ax_l (y := (u (a + 0))) (by rw [nI_clamp (n := a + 0) (by omega)]) ?_
  refine lv_lmul hx hb dX0_add_30 ?_
  refine lv_lstore (lv' := [(7, .long (fac.toInt64 * (u (a + 0)))), (6, .int 6), (5, .int 0), (0, .ref xl), (1, .int (nI a)), (2, .int (nI b)), (3, .int tn), (4, .int fac)]) hx hb dX0_add_31 hl (by decide) rfl (fun ls hl => ?_)
  refine lv_iload hx hb dX0_add_33 (lv_at hl 1 rfl) ?_
  refine lv_iconst (v := 4) hx hb dX0_add_35 (by decide) ?_
  refine lv_iand hx hb dX0_add_36 ?_
  refine ax_i (y := 4) (by decide) ?_
  refine lv_if_eq (tgt := 44) hx hb dX0_add_37 (by decide) (fun h9 => absurd h9 (by decide)) (fun _ => ?_)
  refine lv_iconst (v := 1) hx hb dX0_add_40 (by decide) ?_
  refine lv_goto (tgt := 45) hx hb dX0_add_41 (by decide) ?_
  refine lv_istore (lv' := [(9, .int 1), (7, .long (fac.toInt64 * (u (a + 0)))), (6, .int 6), (5, .int 0), (0, .ref xl), (1, .int (nI a)), (2, .int (nI b)), (3, .int tn), (4, .int fac)]) hx hb dX0_add_45 hl (by decide) rfl (fun ls hl => ?_)
  refine lv_aload_n hx hb dX0_add_47 rfl (lv_at hl 4 rfl) ?_
  refine va_get (D := (dC, dI)) (ci := 0) (v := .ref xm) (C := RX0) (T := TX0) (N := 2) hx hb hts (by decide +kernel) hown hK hP 0 rfl rfl 1 (by decide) (hts (.fieldLink RX0 15 "Diffractory$Light" "next" "[J") (by decide +kernel)) (fun _ h9 => h9) rfl dX0_add_48 ?_
  refine lv_iload_n hx hb dX0_add_51 rfl (lv_at hl 6 rfl) ?_
  refine lv_iload hx hb dX0_add_52 (lv_at hl 2 rfl) ?_
  refine lv_iconst (v := 3) hx hb dX0_add_54 (by decide) ?_
  refine lv_iand hx hb dX0_add_55 ?_
  refine ax_i (y := 2) (by decide) ?_
  refine lv_iadd hx hb dX0_add_56 ?_
  refine ax_i (y := (nI (b + 2))) (ax_addN b 2) ?_
  refine lv_dup2_11 hx hb dX0_add_57 rfl rfl ?_
  refine va_lald hx hb hK hP 2 0 rfl rfl (ax_in (by omega) (by omega)) dX0_add_58 ?_
  refine ax_l (y := (g (b + 2))) (by rw [nI_clamp (n := b + 2) (by omega)]) ?_
  refine lv_iload hx hb dX0_add_59 (lv_at hl 0 rfl) ?_
  refine lv_if_eq (tgt := 70) hx hb dX0_add_61 (by decide) (fun h9 => absurd h9 (by decide)) (fun _ => ?_)
  refine lv_lload hx hb dX0_add_64 (lv_at hl 1 rfl) ?_
  refine lv_lneg hx hb dX0_add_66 ?_
  refine lv_goto (tgt := 72) hx hb dX0_add_67 (by decide) ?_
  refine lv_ladd hx hb dX0_add_72 ?_
  refine va_last hx hb hK hP hD hS 2 0 rfl rfl (ax_in (by omega) (by omega)) dX0_add_73 (fun H locs hP hD hS => ?_)
  rw [nI_clamp (n := b + 2) (by omega)] at hP hD
  have hP : va_P (dC, dI) vwCl [(xl, .inr (0, [.ref xn, .ref xm])), (xn, .inl (cL, 64, .inr (.inl u))), (xm, .inl (cL, 64, .inr (.inl (vp_updL g (b + 2) ((g (b + 2)) + (-(fac.toInt64 * (u (a + 0)))))))))] H := hP
  have hD : va_D A [(xl, .inr (0, [.ref xn, .ref xm])), (xn, .inl (cL, 64, .inr (.inl u))), (xm, .inl (cL, 64, .inr (.inl (vp_updL g (b + 2) ((g (b + 2)) + (-(fac.toInt64 * (u (a + 0)))))))))] := hD
  refine lv_iinc (v := 1) (lv' := [(5, .int 1), (9, .int 1), (7, .long (fac.toInt64 * (u (a + 0)))), (6, .int 6), (0, .ref xl), (1, .int (nI a)), (2, .int (nI b)), (3, .int tn), (4, .int fac)]) hx hb dX0_add_74 hl (k := 3) rfl (by decide) (by decide) rfl (fun ls hl => ?_)
  refine lv_goto (tgt := 3) hx hb dX0_add_77 (by decide) ?_
  refine lv_iload hx hb dX0_add_3 (lv_at hl 0 rfl) ?_
  refine lv_iconst (v := 4) hx hb dX0_add_5 (by decide) ?_
  refine lv_icmp_ge (tgt := 80) hx hb dX0_add_6 (by decide) (fun h9 => absurd h9 (by decide)) (fun _ => ?_)
  refine lv_iload hx hb dX0_add_9 (lv_at hl 0 rfl) ?_
  refine lv_iload_n hx hb dX0_add_11 rfl (lv_at hl 7 rfl) ?_
  refine lv_bipush (v := 7) hx hb dX0_add_12 (by decide) ?_
  refine lv_iand hx hb dX0_add_14 ?_
  refine ax_i (y := 6) h3 ?_
  refine lv_iadd hx hb dX0_add_15 ?_
  refine ax_i (y := 7) (by decide) ?_
  refine lv_istore (lv' := [(6, .int 7), (5, .int 1), (9, .int 1), (7, .long (fac.toInt64 * (u (a + 0)))), (0, .ref xl), (1, .int (nI a)), (2, .int (nI b)), (3, .int tn), (4, .int fac)]) hx hb dX0_add_16 hl (by decide) rfl (fun ls hl => ?_)
  refine lv_iload hx hb dX0_add_18 (lv_at hl 8 rfl) ?_
  refine lv_i2l (v := fac.toInt64) hx hb dX0_add_20 rfl ?_
  refine lv_aload_n hx hb dX0_add_21 rfl (lv_at hl 4 rfl) ?_
  refine va_get (D := (dC, dI)) (ci := 0) (v := .ref xn) (C := RX0) (T := TX0) (N := 2) hx hb hts (by decide +kernel) hown hK hP 0 rfl rfl 0 (by decide) (hts (.fieldLink RX0 11 "Diffractory$Light" "now" "[J") (by decide +kernel)) (fun _ h9 => h9) rfl dX0_add_22 ?_
  refine lv_iload_n hx hb dX0_add_25 rfl (lv_at hl 5 rfl) ?_
  refine lv_iload hx hb dX0_add_26 (lv_at hl 1 rfl) ?_
  refine lv_iadd hx hb dX0_add_28 ?_
  refine ax_i (y := (nI (a + 1))) (ax_addN a 1) ?_
  refine va_lald hx hb hK hP 1 0 rfl rfl (ax_in (by omega) (by omega)) dX0_add_29 ?_
  refine ax_l (y := (u (a + 1))) (by rw [nI_clamp (n := a + 1) (by omega)]) ?_
  refine lv_lmul hx hb dX0_add_30 ?_
  refine lv_lstore (lv' := [(7, .long (fac.toInt64 * (u (a + 1)))), (6, .int 7), (5, .int 1), (9, .int 1), (0, .ref xl), (1, .int (nI a)), (2, .int (nI b)), (3, .int tn), (4, .int fac)]) hx hb dX0_add_31 hl (by decide) rfl (fun ls hl => ?_)
  refine lv_iload hx hb dX0_add_33 (lv_at hl 1 rfl) ?_
  refine lv_iconst (v := 4) hx hb dX0_add_35 (by decide) ?_
  refine lv_iand hx hb dX0_add_36 ?_
  refine ax_i (y := 4) (by decide) ?_
  refine lv_if_eq (tgt := 44) hx hb dX0_add_37 (by decide) (fun h9 => absurd h9 (by decide)) (fun _ => ?_)
  refine lv_iconst (v := 1) hx hb dX0_add_40 (by decide) ?_
  refine lv_goto (tgt := 45) hx hb dX0_add_41 (by decide) ?_
  refine lv_istore (lv' := [(9, .int 1), (7, .long (fac.toInt64 * (u (a + 1)))), (6, .int 7), (5, .int 1), (0, .ref xl), (1, .int (nI a)), (2, .int (nI b)), (3, .int tn), (4, .int fac)]) hx hb dX0_add_45 hl (by decide) rfl (fun ls hl => ?_)
  refine lv_aload_n hx hb dX0_add_47 rfl (lv_at hl 4 rfl) ?_
  refine va_get (D := (dC, dI)) (ci := 0) (v := .ref xm) (C := RX0) (T := TX0) (N := 2) hx hb hts (by decide +kernel) hown hK hP 0 rfl rfl 1 (by decide) (hts (.fieldLink RX0 15 "Diffractory$Light" "next" "[J") (by decide +kernel)) (fun _ h9 => h9) rfl dX0_add_48 ?_
  refine lv_iload_n hx hb dX0_add_51 rfl (lv_at hl 6 rfl) ?_
  refine lv_iload hx hb dX0_add_52 (lv_at hl 2 rfl) ?_
  refine lv_iconst (v := 3) hx hb dX0_add_54 (by decide) ?_
  refine lv_iand hx hb dX0_add_55 ?_
  refine ax_i (y := 3) (by decide) ?_
  refine lv_iadd hx hb dX0_add_56 ?_
  refine ax_i (y := (nI (b + 3))) (ax_addN b 3) ?_
  refine lv_dup2_11 hx hb dX0_add_57 rfl rfl ?_
  refine va_lald hx hb hK hP 2 0 rfl rfl (ax_in (by omega) (by omega)) dX0_add_58 ?_
  refine ax_l (y := ((vp_updL g (b + 2) ((g (b + 2)) + (-(fac.toInt64 * (u (a + 0)))))) (b + 3))) (by rw [nI_clamp (n := b + 3) (by omega)]) ?_
  refine lv_iload hx hb dX0_add_59 (lv_at hl 0 rfl) ?_
  refine lv_if_eq (tgt := 70) hx hb dX0_add_61 (by decide) (fun h9 => absurd h9 (by decide)) (fun _ => ?_)
  refine lv_lload hx hb dX0_add_64 (lv_at hl 1 rfl) ?_
  refine lv_lneg hx hb dX0_add_66 ?_
  refine lv_goto (tgt := 72) hx hb dX0_add_67 (by decide) ?_
  refine lv_ladd hx hb dX0_add_72 ?_
  refine va_last hx hb hK hP hD hS 2 0 rfl rfl (ax_in (by omega) (by omega)) dX0_add_73 (fun H locs hP hD hS => ?_)
  rw [nI_clamp (n := b + 3) (by omega)] at hP hD
  have hP : va_P (dC, dI) vwCl [(xl, .inr (0, [.ref xn, .ref xm])), (xn, .inl (cL, 64, .inr (.inl u))), (xm, .inl (cL, 64, .inr (.inl (vp_updL (vp_updL g (b + 2) ((g (b + 2)) + (-(fac.toInt64 * (u (a + 0)))))) (b + 3) (((vp_updL g (b + 2) ((g (b + 2)) + (-(fac.toInt64 * (u (a + 0)))))) (b + 3)) + (-(fac.toInt64 * (u (a + 1)))))))))] H := hP
  have hD : va_D A [(xl, .inr (0, [.ref xn, .ref xm])), (xn, .inl (cL, 64, .inr (.inl u))), (xm, .inl (cL, 64, .inr (.inl (vp_updL (vp_updL g (b + 2) ((g (b + 2)) + (-(fac.toInt64 * (u (a + 0)))))) (b + 3) (((vp_updL g (b + 2) ((g (b + 2)) + (-(fac.toInt64 * (u (a + 0)))))) (b + 3)) + (-(fac.toInt64 * (u (a + 1)))))))))] := hD
  refine lv_iinc (v := 2) (lv' := [(5, .int 2), (9, .int 1), (7, .long (fac.toInt64 * (u (a + 1)))), (6, .int 7), (0, .ref xl), (1, .int (nI a)), (2, .int (nI b)), (3, .int tn), (4, .int fac)]) hx hb dX0_add_74 hl (k := 3) rfl (by decide) (by decide) rfl (fun ls hl => ?_)
  refine lv_goto (tgt := 3) hx hb dX0_add_77 (by decide) ?_
  refine lv_iload hx hb dX0_add_3 (lv_at hl 0 rfl) ?_
  refine lv_iconst (v := 4) hx hb dX0_add_5 (by decide) ?_
  refine lv_icmp_ge (tgt := 80) hx hb dX0_add_6 (by decide) (fun h9 => absurd h9 (by decide)) (fun _ => ?_)
  refine lv_iload hx hb dX0_add_9 (lv_at hl 0 rfl) ?_
  refine lv_iload_n hx hb dX0_add_11 rfl (lv_at hl 7 rfl) ?_
  refine lv_bipush (v := 7) hx hb dX0_add_12 (by decide) ?_
  refine lv_iand hx hb dX0_add_14 ?_
  refine ax_i (y := 6) h3 ?_
  refine lv_iadd hx hb dX0_add_15 ?_
  refine ax_i (y := 8) (by decide) ?_
  refine lv_istore (lv' := [(6, .int 8), (5, .int 2), (9, .int 1), (7, .long (fac.toInt64 * (u (a + 1)))), (0, .ref xl), (1, .int (nI a)), (2, .int (nI b)), (3, .int tn), (4, .int fac)]) hx hb dX0_add_16 hl (by decide) rfl (fun ls hl => ?_)
  refine lv_iload hx hb dX0_add_18 (lv_at hl 8 rfl) ?_
  refine lv_i2l (v := fac.toInt64) hx hb dX0_add_20 rfl ?_
  refine lv_aload_n hx hb dX0_add_21 rfl (lv_at hl 4 rfl) ?_
  refine va_get (D := (dC, dI)) (ci := 0) (v := .ref xn) (C := RX0) (T := TX0) (N := 2) hx hb hts (by decide +kernel) hown hK hP 0 rfl rfl 0 (by decide) (hts (.fieldLink RX0 11 "Diffractory$Light" "now" "[J") (by decide +kernel)) (fun _ h9 => h9) rfl dX0_add_22 ?_
  refine lv_iload_n hx hb dX0_add_25 rfl (lv_at hl 5 rfl) ?_
  refine lv_iload hx hb dX0_add_26 (lv_at hl 1 rfl) ?_
  refine lv_iadd hx hb dX0_add_28 ?_
  refine ax_i (y := (nI (a + 2))) (ax_addN a 2) ?_
  refine va_lald hx hb hK hP 1 0 rfl rfl (ax_in (by omega) (by omega)) dX0_add_29 ?_
  refine ax_l (y := (u (a + 2))) (by rw [nI_clamp (n := a + 2) (by omega)]) ?_
  refine lv_lmul hx hb dX0_add_30 ?_
  refine lv_lstore (lv' := [(7, .long (fac.toInt64 * (u (a + 2)))), (6, .int 8), (5, .int 2), (9, .int 1), (0, .ref xl), (1, .int (nI a)), (2, .int (nI b)), (3, .int tn), (4, .int fac)]) hx hb dX0_add_31 hl (by decide) rfl (fun ls hl => ?_)
  refine lv_iload hx hb dX0_add_33 (lv_at hl 1 rfl) ?_
  refine lv_iconst (v := 4) hx hb dX0_add_35 (by decide) ?_
  refine lv_iand hx hb dX0_add_36 ?_
  refine ax_i (y := 0) (by decide) ?_
  refine lv_if_eq (tgt := 44) hx hb dX0_add_37 (by decide) (fun _ => ?_) (fun h9 => absurd (by decide) h9)
  refine lv_iconst (v := 0) hx hb dX0_add_44 (by decide) ?_
  refine lv_istore (lv' := [(9, .int 0), (7, .long (fac.toInt64 * (u (a + 2)))), (6, .int 8), (5, .int 2), (0, .ref xl), (1, .int (nI a)), (2, .int (nI b)), (3, .int tn), (4, .int fac)]) hx hb dX0_add_45 hl (by decide) rfl (fun ls hl => ?_)
  refine lv_aload_n hx hb dX0_add_47 rfl (lv_at hl 4 rfl) ?_
  refine va_get (D := (dC, dI)) (ci := 0) (v := .ref xm) (C := RX0) (T := TX0) (N := 2) hx hb hts (by decide +kernel) hown hK hP 0 rfl rfl 1 (by decide) (hts (.fieldLink RX0 15 "Diffractory$Light" "next" "[J") (by decide +kernel)) (fun _ h9 => h9) rfl dX0_add_48 ?_
  refine lv_iload_n hx hb dX0_add_51 rfl (lv_at hl 6 rfl) ?_
  refine lv_iload hx hb dX0_add_52 (lv_at hl 2 rfl) ?_
  refine lv_iconst (v := 3) hx hb dX0_add_54 (by decide) ?_
  refine lv_iand hx hb dX0_add_55 ?_
  refine ax_i (y := 0) (by decide) ?_
  refine lv_iadd hx hb dX0_add_56 ?_
  refine ax_i (y := (nI (b + 0))) (ax_addN b 0) ?_
  refine lv_dup2_11 hx hb dX0_add_57 rfl rfl ?_
  refine va_lald hx hb hK hP 2 0 rfl rfl (ax_in (by omega) (by omega)) dX0_add_58 ?_
  refine ax_l (y := ((vp_updL (vp_updL g (b + 2) ((g (b + 2)) + (-(fac.toInt64 * (u (a + 0)))))) (b + 3) (((vp_updL g (b + 2) ((g (b + 2)) + (-(fac.toInt64 * (u (a + 0)))))) (b + 3)) + (-(fac.toInt64 * (u (a + 1)))))) (b + 0))) (by rw [nI_clamp (n := b + 0) (by omega)]) ?_
  refine lv_iload hx hb dX0_add_59 (lv_at hl 0 rfl) ?_
  refine lv_if_eq (tgt := 70) hx hb dX0_add_61 (by decide) (fun _ => ?_) (fun h9 => absurd (by decide) h9)
  refine lv_lload hx hb dX0_add_70 (lv_at hl 1 rfl) ?_
  refine lv_ladd hx hb dX0_add_72 ?_
  refine va_last hx hb hK hP hD hS 2 0 rfl rfl (ax_in (by omega) (by omega)) dX0_add_73 (fun H locs hP hD hS => ?_)
  rw [nI_clamp (n := b + 0) (by omega)] at hP hD
  have hP : va_P (dC, dI) vwCl [(xl, .inr (0, [.ref xn, .ref xm])), (xn, .inl (cL, 64, .inr (.inl u))), (xm, .inl (cL, 64, .inr (.inl (vp_updL (vp_updL (vp_updL g (b + 2) ((g (b + 2)) + (-(fac.toInt64 * (u (a + 0)))))) (b + 3) (((vp_updL g (b + 2) ((g (b + 2)) + (-(fac.toInt64 * (u (a + 0)))))) (b + 3)) + (-(fac.toInt64 * (u (a + 1)))))) (b + 0) (((vp_updL (vp_updL g (b + 2) ((g (b + 2)) + (-(fac.toInt64 * (u (a + 0)))))) (b + 3) (((vp_updL g (b + 2) ((g (b + 2)) + (-(fac.toInt64 * (u (a + 0)))))) (b + 3)) + (-(fac.toInt64 * (u (a + 1)))))) (b + 0)) + (fac.toInt64 * (u (a + 2))))))))] H := hP
  have hD : va_D A [(xl, .inr (0, [.ref xn, .ref xm])), (xn, .inl (cL, 64, .inr (.inl u))), (xm, .inl (cL, 64, .inr (.inl (vp_updL (vp_updL (vp_updL g (b + 2) ((g (b + 2)) + (-(fac.toInt64 * (u (a + 0)))))) (b + 3) (((vp_updL g (b + 2) ((g (b + 2)) + (-(fac.toInt64 * (u (a + 0)))))) (b + 3)) + (-(fac.toInt64 * (u (a + 1)))))) (b + 0) (((vp_updL (vp_updL g (b + 2) ((g (b + 2)) + (-(fac.toInt64 * (u (a + 0)))))) (b + 3) (((vp_updL g (b + 2) ((g (b + 2)) + (-(fac.toInt64 * (u (a + 0)))))) (b + 3)) + (-(fac.toInt64 * (u (a + 1)))))) (b + 0)) + (fac.toInt64 * (u (a + 2))))))))] := hD
  refine lv_iinc (v := 3) (lv' := [(5, .int 3), (9, .int 0), (7, .long (fac.toInt64 * (u (a + 2)))), (6, .int 8), (0, .ref xl), (1, .int (nI a)), (2, .int (nI b)), (3, .int tn), (4, .int fac)]) hx hb dX0_add_74 hl (k := 3) rfl (by decide) (by decide) rfl (fun ls hl => ?_)
  refine lv_goto (tgt := 3) hx hb dX0_add_77 (by decide) ?_
  refine lv_iload hx hb dX0_add_3 (lv_at hl 0 rfl) ?_
  refine lv_iconst (v := 4) hx hb dX0_add_5 (by decide) ?_
  refine lv_icmp_ge (tgt := 80) hx hb dX0_add_6 (by decide) (fun h9 => absurd h9 (by decide)) (fun _ => ?_)
  refine lv_iload hx hb dX0_add_9 (lv_at hl 0 rfl) ?_
  refine lv_iload_n hx hb dX0_add_11 rfl (lv_at hl 7 rfl) ?_
  refine lv_bipush (v := 7) hx hb dX0_add_12 (by decide) ?_
  refine lv_iand hx hb dX0_add_14 ?_
  refine ax_i (y := 6) h3 ?_
  refine lv_iadd hx hb dX0_add_15 ?_
  refine ax_i (y := 9) (by decide) ?_
  refine lv_istore (lv' := [(6, .int 9), (5, .int 3), (9, .int 0), (7, .long (fac.toInt64 * (u (a + 2)))), (0, .ref xl), (1, .int (nI a)), (2, .int (nI b)), (3, .int tn), (4, .int fac)]) hx hb dX0_add_16 hl (by decide) rfl (fun ls hl => ?_)
  refine lv_iload hx hb dX0_add_18 (lv_at hl 8 rfl) ?_
  refine lv_i2l (v := fac.toInt64) hx hb dX0_add_20 rfl ?_
  refine lv_aload_n hx hb dX0_add_21 rfl (lv_at hl 4 rfl) ?_
  refine va_get (D := (dC, dI)) (ci := 0) (v := .ref xn) (C := RX0) (T := TX0) (N := 2) hx hb hts (by decide +kernel) hown hK hP 0 rfl rfl 0 (by decide) (hts (.fieldLink RX0 11 "Diffractory$Light" "now" "[J") (by decide +kernel)) (fun _ h9 => h9) rfl dX0_add_22 ?_
  refine lv_iload_n hx hb dX0_add_25 rfl (lv_at hl 5 rfl) ?_
  refine lv_iload hx hb dX0_add_26 (lv_at hl 1 rfl) ?_
  refine lv_iadd hx hb dX0_add_28 ?_
  refine ax_i (y := (nI (a + 3))) (ax_addN a 3) ?_
  refine va_lald hx hb hK hP 1 0 rfl rfl (ax_in (by omega) (by omega)) dX0_add_29 ?_
  refine ax_l (y := (u (a + 3))) (by rw [nI_clamp (n := a + 3) (by omega)]) ?_
  refine lv_lmul hx hb dX0_add_30 ?_
  refine lv_lstore (lv' := [(7, .long (fac.toInt64 * (u (a + 3)))), (6, .int 9), (5, .int 3), (9, .int 0), (0, .ref xl), (1, .int (nI a)), (2, .int (nI b)), (3, .int tn), (4, .int fac)]) hx hb dX0_add_31 hl (by decide) rfl (fun ls hl => ?_)
  refine lv_iload hx hb dX0_add_33 (lv_at hl 1 rfl) ?_
  refine lv_iconst (v := 4) hx hb dX0_add_35 (by decide) ?_
  refine lv_iand hx hb dX0_add_36 ?_
  refine ax_i (y := 0) (by decide) ?_
  refine lv_if_eq (tgt := 44) hx hb dX0_add_37 (by decide) (fun _ => ?_) (fun h9 => absurd (by decide) h9)
  refine lv_iconst (v := 0) hx hb dX0_add_44 (by decide) ?_
  refine lv_istore (lv' := [(9, .int 0), (7, .long (fac.toInt64 * (u (a + 3)))), (6, .int 9), (5, .int 3), (0, .ref xl), (1, .int (nI a)), (2, .int (nI b)), (3, .int tn), (4, .int fac)]) hx hb dX0_add_45 hl (by decide) rfl (fun ls hl => ?_)
  refine lv_aload_n hx hb dX0_add_47 rfl (lv_at hl 4 rfl) ?_
  refine va_get (D := (dC, dI)) (ci := 0) (v := .ref xm) (C := RX0) (T := TX0) (N := 2) hx hb hts (by decide +kernel) hown hK hP 0 rfl rfl 1 (by decide) (hts (.fieldLink RX0 15 "Diffractory$Light" "next" "[J") (by decide +kernel)) (fun _ h9 => h9) rfl dX0_add_48 ?_
  refine lv_iload_n hx hb dX0_add_51 rfl (lv_at hl 6 rfl) ?_
  refine lv_iload hx hb dX0_add_52 (lv_at hl 2 rfl) ?_
  refine lv_iconst (v := 3) hx hb dX0_add_54 (by decide) ?_
  refine lv_iand hx hb dX0_add_55 ?_
  refine ax_i (y := 1) (by decide) ?_
  refine lv_iadd hx hb dX0_add_56 ?_
  refine ax_i (y := (nI (b + 1))) (ax_addN b 1) ?_
  refine lv_dup2_11 hx hb dX0_add_57 rfl rfl ?_
  refine va_lald hx hb hK hP 2 0 rfl rfl (ax_in (by omega) (by omega)) dX0_add_58 ?_
  refine ax_l (y := ((vp_updL (vp_updL (vp_updL g (b + 2) ((g (b + 2)) + (-(fac.toInt64 * (u (a + 0)))))) (b + 3) (((vp_updL g (b + 2) ((g (b + 2)) + (-(fac.toInt64 * (u (a + 0)))))) (b + 3)) + (-(fac.toInt64 * (u (a + 1)))))) (b + 0) (((vp_updL (vp_updL g (b + 2) ((g (b + 2)) + (-(fac.toInt64 * (u (a + 0)))))) (b + 3) (((vp_updL g (b + 2) ((g (b + 2)) + (-(fac.toInt64 * (u (a + 0)))))) (b + 3)) + (-(fac.toInt64 * (u (a + 1)))))) (b + 0)) + (fac.toInt64 * (u (a + 2))))) (b + 1))) (by rw [nI_clamp (n := b + 1) (by omega)]) ?_
  refine lv_iload hx hb dX0_add_59 (lv_at hl 0 rfl) ?_
  refine lv_if_eq (tgt := 70) hx hb dX0_add_61 (by decide) (fun _ => ?_) (fun h9 => absurd (by decide) h9)
  refine lv_lload hx hb dX0_add_70 (lv_at hl 1 rfl) ?_
  refine lv_ladd hx hb dX0_add_72 ?_
  refine va_last hx hb hK hP hD hS 2 0 rfl rfl (ax_in (by omega) (by omega)) dX0_add_73 (fun H locs hP hD hS => ?_)
  rw [nI_clamp (n := b + 1) (by omega)] at hP hD
  have hP : va_P (dC, dI) vwCl [(xl, .inr (0, [.ref xn, .ref xm])), (xn, .inl (cL, 64, .inr (.inl u))), (xm, .inl (cL, 64, .inr (.inl (vp_updL (vp_updL (vp_updL (vp_updL g (b + 2) ((g (b + 2)) + (-(fac.toInt64 * (u (a + 0)))))) (b + 3) (((vp_updL g (b + 2) ((g (b + 2)) + (-(fac.toInt64 * (u (a + 0)))))) (b + 3)) + (-(fac.toInt64 * (u (a + 1)))))) (b + 0) (((vp_updL (vp_updL g (b + 2) ((g (b + 2)) + (-(fac.toInt64 * (u (a + 0)))))) (b + 3) (((vp_updL g (b + 2) ((g (b + 2)) + (-(fac.toInt64 * (u (a + 0)))))) (b + 3)) + (-(fac.toInt64 * (u (a + 1)))))) (b + 0)) + (fac.toInt64 * (u (a + 2))))) (b + 1) (((vp_updL (vp_updL (vp_updL g (b + 2) ((g (b + 2)) + (-(fac.toInt64 * (u (a + 0)))))) (b + 3) (((vp_updL g (b + 2) ((g (b + 2)) + (-(fac.toInt64 * (u (a + 0)))))) (b + 3)) + (-(fac.toInt64 * (u (a + 1)))))) (b + 0) (((vp_updL (vp_updL g (b + 2) ((g (b + 2)) + (-(fac.toInt64 * (u (a + 0)))))) (b + 3) (((vp_updL g (b + 2) ((g (b + 2)) + (-(fac.toInt64 * (u (a + 0)))))) (b + 3)) + (-(fac.toInt64 * (u (a + 1)))))) (b + 0)) + (fac.toInt64 * (u (a + 2))))) (b + 1)) + (fac.toInt64 * (u (a + 3))))))))] H := hP
  have hD : va_D A [(xl, .inr (0, [.ref xn, .ref xm])), (xn, .inl (cL, 64, .inr (.inl u))), (xm, .inl (cL, 64, .inr (.inl (vp_updL (vp_updL (vp_updL (vp_updL g (b + 2) ((g (b + 2)) + (-(fac.toInt64 * (u (a + 0)))))) (b + 3) (((vp_updL g (b + 2) ((g (b + 2)) + (-(fac.toInt64 * (u (a + 0)))))) (b + 3)) + (-(fac.toInt64 * (u (a + 1)))))) (b + 0) (((vp_updL (vp_updL g (b + 2) ((g (b + 2)) + (-(fac.toInt64 * (u (a + 0)))))) (b + 3) (((vp_updL g (b + 2) ((g (b + 2)) + (-(fac.toInt64 * (u (a + 0)))))) (b + 3)) + (-(fac.toInt64 * (u (a + 1)))))) (b + 0)) + (fac.toInt64 * (u (a + 2))))) (b + 1) (((vp_updL (vp_updL (vp_updL g (b + 2) ((g (b + 2)) + (-(fac.toInt64 * (u (a + 0)))))) (b + 3) (((vp_updL g (b + 2) ((g (b + 2)) + (-(fac.toInt64 * (u (a + 0)))))) (b + 3)) + (-(fac.toInt64 * (u (a + 1)))))) (b + 0) (((vp_updL (vp_updL g (b + 2) ((g (b + 2)) + (-(fac.toInt64 * (u (a + 0)))))) (b + 3) (((vp_updL g (b + 2) ((g (b + 2)) + (-(fac.toInt64 * (u (a + 0)))))) (b + 3)) + (-(fac.toInt64 * (u (a + 1)))))) (b + 0)) + (fac.toInt64 * (u (a + 2))))) (b + 1)) + (fac.toInt64 * (u (a + 3))))))))] := hD
  refine lv_iinc (v := 4) (lv' := [(5, .int 4), (9, .int 0), (7, .long (fac.toInt64 * (u (a + 3)))), (6, .int 9), (0, .ref xl), (1, .int (nI a)), (2, .int (nI b)), (3, .int tn), (4, .int fac)]) hx hb dX0_add_74 hl (k := 3) rfl (by decide) (by decide) rfl (fun ls hl => ?_)
  refine lv_goto (tgt := 3) hx hb dX0_add_77 (by decide) ?_
  refine lv_iload hx hb dX0_add_3 (lv_at hl 0 rfl) ?_
  refine lv_iconst (v := 4) hx hb dX0_add_5 (by decide) ?_
  refine lv_icmp_ge (tgt := 80) hx hb dX0_add_6 (by decide) (fun _ => ?_) (fun h9 => absurd (by decide) h9)
  refine W.widen (k := 0) (n := 0) (Nat.le_of_ble_eq_true rfl) (Nat.le_of_ble_eq_true rfl) ?_
  have hP9 := hP.sub (ws' := [(xl, .inr (0, [.ref xn, .ref xm])), (xn, .inl (cL, 64, .inr (.inl u))), (xm, .inl (cL, 64, .inr (.inl (vp_updL (vp_updL (vp_updL (vp_updL g (b + 2) ((g (b + 2)) + (-(fac.toInt64 * (u (a + 0)))))) (b + 3) (((vp_updL g (b + 2) ((g (b + 2)) + (-(fac.toInt64 * (u (a + 0)))))) (b + 3)) + (-(fac.toInt64 * (u (a + 1)))))) (b + 0) (((vp_updL (vp_updL g (b + 2) ((g (b + 2)) + (-(fac.toInt64 * (u (a + 0)))))) (b + 3) (((vp_updL g (b + 2) ((g (b + 2)) + (-(fac.toInt64 * (u (a + 0)))))) (b + 3)) + (-(fac.toInt64 * (u (a + 1)))))) (b + 0)) + (fac.toInt64 * (u (a + 2))))) (b + 1) (((vp_updL (vp_updL (vp_updL g (b + 2) ((g (b + 2)) + (-(fac.toInt64 * (u (a + 0)))))) (b + 3) (((vp_updL g (b + 2) ((g (b + 2)) + (-(fac.toInt64 * (u (a + 0)))))) (b + 3)) + (-(fac.toInt64 * (u (a + 1)))))) (b + 0) (((vp_updL (vp_updL g (b + 2) ((g (b + 2)) + (-(fac.toInt64 * (u (a + 0)))))) (b + 3) (((vp_updL g (b + 2) ((g (b + 2)) + (-(fac.toInt64 * (u (a + 0)))))) (b + 3)) + (-(fac.toInt64 * (u (a + 1)))))) (b + 0)) + (fac.toInt64 * (u (a + 2))))) (b + 1)) + (fac.toInt64 * (u (a + 3))))))))]) [0, 1, 2] rfl
  have hD9 := hD.sub (ws' := [(xl, .inr (0, [.ref xn, .ref xm])), (xn, .inl (cL, 64, .inr (.inl u))), (xm, .inl (cL, 64, .inr (.inl (vp_updL (vp_updL (vp_updL (vp_updL g (b + 2) ((g (b + 2)) + (-(fac.toInt64 * (u (a + 0)))))) (b + 3) (((vp_updL g (b + 2) ((g (b + 2)) + (-(fac.toInt64 * (u (a + 0)))))) (b + 3)) + (-(fac.toInt64 * (u (a + 1)))))) (b + 0) (((vp_updL (vp_updL g (b + 2) ((g (b + 2)) + (-(fac.toInt64 * (u (a + 0)))))) (b + 3) (((vp_updL g (b + 2) ((g (b + 2)) + (-(fac.toInt64 * (u (a + 0)))))) (b + 3)) + (-(fac.toInt64 * (u (a + 1)))))) (b + 0)) + (fac.toInt64 * (u (a + 2))))) (b + 1) (((vp_updL (vp_updL (vp_updL g (b + 2) ((g (b + 2)) + (-(fac.toInt64 * (u (a + 0)))))) (b + 3) (((vp_updL g (b + 2) ((g (b + 2)) + (-(fac.toInt64 * (u (a + 0)))))) (b + 3)) + (-(fac.toInt64 * (u (a + 1)))))) (b + 0) (((vp_updL (vp_updL g (b + 2) ((g (b + 2)) + (-(fac.toInt64 * (u (a + 0)))))) (b + 3) (((vp_updL g (b + 2) ((g (b + 2)) + (-(fac.toInt64 * (u (a + 0)))))) (b + 3)) + (-(fac.toInt64 * (u (a + 1)))))) (b + 0)) + (fac.toInt64 * (u (a + 2))))) (b + 1)) + (fac.toInt64 * (u (a + 3))))))))]) [0, 1, 2] (by decide) rfl
  have hK9 := hK.sub (tys' := [(cL, .long)]) [0] rfl
  have e9 : (vp_updL (vp_updL (vp_updL (vp_updL g (b + 2) ((g (b + 2)) + (-(fac.toInt64 * (u (a + 0)))))) (b + 3) (((vp_updL g (b + 2) ((g (b + 2)) + (-(fac.toInt64 * (u (a + 0)))))) (b + 3)) + (-(fac.toInt64 * (u (a + 1)))))) (b + 0) (((vp_updL (vp_updL g (b + 2) ((g (b + 2)) + (-(fac.toInt64 * (u (a + 0)))))) (b + 3) (((vp_updL g (b + 2) ((g (b + 2)) + (-(fac.toInt64 * (u (a + 0)))))) (b + 3)) + (-(fac.toInt64 * (u (a + 1)))))) (b + 0)) + (fac.toInt64 * (u (a + 2))))) (b + 1) (((vp_updL (vp_updL (vp_updL g (b + 2) ((g (b + 2)) + (-(fac.toInt64 * (u (a + 0)))))) (b + 3) (((vp_updL g (b + 2) ((g (b + 2)) + (-(fac.toInt64 * (u (a + 0)))))) (b + 3)) + (-(fac.toInt64 * (u (a + 1)))))) (b + 0) (((vp_updL (vp_updL g (b + 2) ((g (b + 2)) + (-(fac.toInt64 * (u (a + 0)))))) (b + 3) (((vp_updL g (b + 2) ((g (b + 2)) + (-(fac.toInt64 * (u (a + 0)))))) (b + 3)) + (-(fac.toInt64 * (u (a + 1)))))) (b + 0)) + (fac.toInt64 * (u (a + 2))))) (b + 1)) + (fac.toInt64 * (u (a + 3))))) = ad a b 6 fac u g := by
    refine ax_ad (fun j => ⟨fun q => ?_, fun q => ?_⟩)
    · rcases (show j = b + 0 ∨ j = b + 1 ∨ j = b + 2 ∨ j = b + 3 by omega) with h | h | h | h <;> subst h <;> simp [vp_updL, rt, Nat.add_sub_cancel_left]
    · simp only [vp_updL]
      rw [if_neg (by omega), if_neg (by omega), if_neg (by omega), if_neg (by omega)]
  rw [e9] at hP9 hD9
  exact W.vret hx hb hr (fun t8 ht hW => ⟨⟨(), rfl, trivial, by rw [ht]; exact hP9, va_K.moved hW.alike hK9, hD9⟩, hS.F ht⟩) hS.2.2 dX0_add_80

set_option maxHeartbeats 4000000 in
set_option maxRecDepth 100000 in
theorem c_X0_add_7 (l : Launch) (dC : Nat → ClassId) (dI : Nat → Nat → Nat) (xl xn xm : Nat) (cL : ClassId) (ta : Nat → Nat) (sz : Nat) (u : Nat → Int64) (g : Nat → Int64) (a : Nat) (b : Nat) (tn : Int32) (fac : Int32) (h1 : a + 4 ≤ 64) (h2 : b + 4 ≤ 64) (h3 : tn &&& 7 = nI 7) : Met l yX0_add wsX0_add ({ frames := 0, cells := 0, slots := 0, locals := 0 }) (va_Pc [.ref xl, .int (nI a), .int (nI b), .int tn, .int fac] (ax_W (dC, dI) vwCl [(xl, .inr (0, [.ref xn, .ref xm])), (xn, .inl (cL, 64, .inr (.inl u))), (xm, .inl (cL, 64, .inr (.inl g)))] [(cL, .long)] ta sz)) (va_Qv (fun (u9 : Unit) => True) (fun (u9 : Unit) (t9 : State) => va_P (dC, dI) vwCl [(xl, .inr (0, [.ref xn, .ref xm])), (xn, .inl (cL, 64, .inr (.inl u))), (xm, .inl (cL, 64, .inr (.inl (ad a b 7 fac u g))))] t9.heap ∧ va_K (dC, dI) vwCl [(cL, .long)] t9 ∧ va_D (va_A [(xl, .inr (0, [.ref xn, .ref xm])), (xn, .inl (cL, 64, .inr (.inl u))), (xm, .inl (cL, 64, .inr (.inl g)))] sz) [(xl, .inr (0, [.ref xn, .ref xm])), (xn, .inl (cL, 64, .inr (.inl u))), (xm, .inl (cL, 64, .inr (.inl (ad a b 7 fac u g))))]) (va_A [(xl, .inr (0, [.ref xn, .ref xm])), (xn, .inl (cL, 64, .inr (.inl u))), (xm, .inl (cL, 64, .inr (.inl g)))] sz)) 0 0 (va_A [(xl, .inr (0, [.ref xn, .ref xm])), (xn, .inl (cL, 64, .inr (.inl u))), (xm, .inl (cL, 64, .inr (.inl g)))] sz) := by
  refine Met.ofW (cc := cX0_add) (maxL := 10) (ret := none) (by decide) rfl ?_
  intro p e s m args below meth c s₁ B hml hv
  obtain ⟨rfl, hsz, hP, hK, hD0, hE⟩ := hv
  have hx := B.exec
  have hb := B.bytes
  have hr := B.returns
  have hts := atoms_spec (ws := wsX0_add) B.pre
  have hown : s.vm.findClass RX0 = some m.cls := findClass_of_methodNamed B.named
  have hlocks := B.notSynchronized
  subst hsz
  have hD := hD0.self (sz := s.heap.size)
  generalize hAe : va_A [(xl, .inr (0, [.ref xn, .ref xm])), (xn, .inl (cL, 64, .inr (.inl u))), (xm, .inl (cL, 64, .inr (.inl g)))] s.heap.size = A at hD hE ⊢
  have hA : ∀ q : Nat, s.heap.size ≤ q → A q := fun q h => by rw [← hAe]; exact Or.inr h
  have hS : va_S A s.heap s.heap [] := va_S.rf
  have hl := lv_entry ([.ref xl, .int (nI a), .int (nI b), .int tn, .int fac]) (n := 10) (Nat.le_of_ble_eq_true rfl)
  rw [lg_entry_eq]
  generalize (lg_sl ([.ref xl, .int (nI a), .int (nI b), .int tn, .int fac]) ++ List.replicate (10 - (lg_sl ([.ref xl, .int (nI a), .int (nI b), .int tn, .int fac])).length) Slot.unset).toArray = ls at hl ⊢
  have hl : lv_has ls 10 [(0, .ref xl), (1, .int (nI a)), (2, .int (nI b)), (3, .int tn), (4, .int fac)] := hl
  have hP : va_P (dC, dI) vwCl [(xl, .inr (0, [.ref xn, .ref xm])), (xn, .inl (cL, 64, .inr (.inl u))), (xm, .inl (cL, 64, .inr (.inl g)))] s.heap := hP
  refine lv_iconst (v := 0) hx hb dX0_add_0 (by decide) ?_
  refine lv_istore (lv' := [(5, .int 0), (0, .ref xl), (1, .int (nI a)), (2, .int (nI b)), (3, .int tn), (4, .int fac)]) hx hb dX0_add_1 hl (by decide) rfl (fun ls hl => ?_)
  refine lv_iload hx hb dX0_add_3 (lv_at hl 0 rfl) ?_
  refine lv_iconst (v := 4) hx hb dX0_add_5 (by decide) ?_
  refine lv_icmp_ge (tgt := 80) hx hb dX0_add_6 (by decide) (fun h9 => absurd h9 (by decide)) (fun _ => ?_)
  refine lv_iload hx hb dX0_add_9 (lv_at hl 0 rfl) ?_
  refine lv_iload_n hx hb dX0_add_11 rfl (lv_at hl 4 rfl) ?_
  refine lv_bipush (v := 7) hx hb dX0_add_12 (by decide) ?_
  refine lv_iand hx hb dX0_add_14 ?_
  refine ax_i (y := 7) h3 ?_
  refine lv_iadd hx hb dX0_add_15 ?_
  refine ax_i (y := 7) (by decide) ?_
  refine lv_istore (lv' := [(6, .int 7), (5, .int 0), (0, .ref xl), (1, .int (nI a)), (2, .int (nI b)), (3, .int tn), (4, .int fac)]) hx hb dX0_add_16 hl (by decide) rfl (fun ls hl => ?_)
  refine lv_iload hx hb dX0_add_18 (lv_at hl 6 rfl) ?_
  refine lv_i2l (v := fac.toInt64) hx hb dX0_add_20 rfl ?_
  refine lv_aload_n hx hb dX0_add_21 rfl (lv_at hl 2 rfl) ?_
  refine va_get (D := (dC, dI)) (ci := 0) (v := .ref xn) (C := RX0) (T := TX0) (N := 2) hx hb hts (by decide +kernel) hown hK hP 0 rfl rfl 0 (by decide) (hts (.fieldLink RX0 11 "Diffractory$Light" "now" "[J") (by decide +kernel)) (fun _ h9 => h9) rfl dX0_add_22 ?_
  refine lv_iload_n hx hb dX0_add_25 rfl (lv_at hl 3 rfl) ?_
  refine lv_iload hx hb dX0_add_26 (lv_at hl 1 rfl) ?_
  refine lv_iadd hx hb dX0_add_28 ?_
  refine ax_i (y := (nI (a + 0))) (ax_addN a 0) ?_
  refine va_lald hx hb hK hP 1 0 rfl rfl (ax_in (by omega) (by omega)) dX0_add_29 ?_
  refine ax_l (y := (u (a + 0))) (by rw [nI_clamp (n := a + 0) (by omega)]) ?_
  refine lv_lmul hx hb dX0_add_30 ?_
  refine lv_lstore (lv' := [(7, .long (fac.toInt64 * (u (a + 0)))), (6, .int 7), (5, .int 0), (0, .ref xl), (1, .int (nI a)), (2, .int (nI b)), (3, .int tn), (4, .int fac)]) hx hb dX0_add_31 hl (by decide) rfl (fun ls hl => ?_)
  refine lv_iload hx hb dX0_add_33 (lv_at hl 1 rfl) ?_
  refine lv_iconst (v := 4) hx hb dX0_add_35 (by decide) ?_
  refine lv_iand hx hb dX0_add_36 ?_
  refine ax_i (y := 4) (by decide) ?_
  refine lv_if_eq (tgt := 44) hx hb dX0_add_37 (by decide) (fun h9 => absurd h9 (by decide)) (fun _ => ?_)
  refine lv_iconst (v := 1) hx hb dX0_add_40 (by decide) ?_
  refine lv_goto (tgt := 45) hx hb dX0_add_41 (by decide) ?_
  refine lv_istore (lv' := [(9, .int 1), (7, .long (fac.toInt64 * (u (a + 0)))), (6, .int 7), (5, .int 0), (0, .ref xl), (1, .int (nI a)), (2, .int (nI b)), (3, .int tn), (4, .int fac)]) hx hb dX0_add_45 hl (by decide) rfl (fun ls hl => ?_)
  refine lv_aload_n hx hb dX0_add_47 rfl (lv_at hl 4 rfl) ?_
  refine va_get (D := (dC, dI)) (ci := 0) (v := .ref xm) (C := RX0) (T := TX0) (N := 2) hx hb hts (by decide +kernel) hown hK hP 0 rfl rfl 1 (by decide) (hts (.fieldLink RX0 15 "Diffractory$Light" "next" "[J") (by decide +kernel)) (fun _ h9 => h9) rfl dX0_add_48 ?_
  refine lv_iload_n hx hb dX0_add_51 rfl (lv_at hl 6 rfl) ?_
  refine lv_iload hx hb dX0_add_52 (lv_at hl 2 rfl) ?_
  refine lv_iconst (v := 3) hx hb dX0_add_54 (by decide) ?_
  refine lv_iand hx hb dX0_add_55 ?_
  refine ax_i (y := 3) (by decide) ?_
  refine lv_iadd hx hb dX0_add_56 ?_
  refine ax_i (y := (nI (b + 3))) (ax_addN b 3) ?_
  refine lv_dup2_11 hx hb dX0_add_57 rfl rfl ?_
  refine va_lald hx hb hK hP 2 0 rfl rfl (ax_in (by omega) (by omega)) dX0_add_58 ?_
  refine ax_l (y := (g (b + 3))) (by rw [nI_clamp (n := b + 3) (by omega)]) ?_
  refine lv_iload hx hb dX0_add_59 (lv_at hl 0 rfl) ?_
  refine lv_if_eq (tgt := 70) hx hb dX0_add_61 (by decide) (fun h9 => absurd h9 (by decide)) (fun _ => ?_)
  refine lv_lload hx hb dX0_add_64 (lv_at hl 1 rfl) ?_
  refine lv_lneg hx hb dX0_add_66 ?_
  refine lv_goto (tgt := 72) hx hb dX0_add_67 (by decide) ?_
  refine lv_ladd hx hb dX0_add_72 ?_
  refine va_last hx hb hK hP hD hS 2 0 rfl rfl (ax_in (by omega) (by omega)) dX0_add_73 (fun H locs hP hD hS => ?_)
  rw [nI_clamp (n := b + 3) (by omega)] at hP hD
  have hP : va_P (dC, dI) vwCl [(xl, .inr (0, [.ref xn, .ref xm])), (xn, .inl (cL, 64, .inr (.inl u))), (xm, .inl (cL, 64, .inr (.inl (vp_updL g (b + 3) ((g (b + 3)) + (-(fac.toInt64 * (u (a + 0)))))))))] H := hP
  have hD : va_D A [(xl, .inr (0, [.ref xn, .ref xm])), (xn, .inl (cL, 64, .inr (.inl u))), (xm, .inl (cL, 64, .inr (.inl (vp_updL g (b + 3) ((g (b + 3)) + (-(fac.toInt64 * (u (a + 0)))))))))] := hD
  refine lv_iinc (v := 1) (lv' := [(5, .int 1), (9, .int 1), (7, .long (fac.toInt64 * (u (a + 0)))), (6, .int 7), (0, .ref xl), (1, .int (nI a)), (2, .int (nI b)), (3, .int tn), (4, .int fac)]) hx hb dX0_add_74 hl (k := 3) rfl (by decide) (by decide) rfl (fun ls hl => ?_)
  refine lv_goto (tgt := 3) hx hb dX0_add_77 (by decide) ?_
  refine lv_iload hx hb dX0_add_3 (lv_at hl 0 rfl) ?_
  refine lv_iconst (v := 4) hx hb dX0_add_5 (by decide) ?_
  refine lv_icmp_ge (tgt := 80) hx hb dX0_add_6 (by decide) (fun h9 => absurd h9 (by decide)) (fun _ => ?_)
  refine lv_iload hx hb dX0_add_9 (lv_at hl 0 rfl) ?_
  refine lv_iload_n hx hb dX0_add_11 rfl (lv_at hl 7 rfl) ?_
  refine lv_bipush (v := 7) hx hb dX0_add_12 (by decide) ?_
  refine lv_iand hx hb dX0_add_14 ?_
  refine ax_i (y := 7) h3 ?_
  refine lv_iadd hx hb dX0_add_15 ?_
  refine ax_i (y := 8) (by decide) ?_
  refine lv_istore (lv' := [(6, .int 8), (5, .int 1), (9, .int 1), (7, .long (fac.toInt64 * (u (a + 0)))), (0, .ref xl), (1, .int (nI a)), (2, .int (nI b)), (3, .int tn), (4, .int fac)]) hx hb dX0_add_16 hl (by decide) rfl (fun ls hl => ?_)
  refine lv_iload hx hb dX0_add_18 (lv_at hl 8 rfl) ?_
  refine lv_i2l (v := fac.toInt64) hx hb dX0_add_20 rfl ?_
  refine lv_aload_n hx hb dX0_add_21 rfl (lv_at hl 4 rfl) ?_
  refine va_get (D := (dC, dI)) (ci := 0) (v := .ref xn) (C := RX0) (T := TX0) (N := 2) hx hb hts (by decide +kernel) hown hK hP 0 rfl rfl 0 (by decide) (hts (.fieldLink RX0 11 "Diffractory$Light" "now" "[J") (by decide +kernel)) (fun _ h9 => h9) rfl dX0_add_22 ?_
  refine lv_iload_n hx hb dX0_add_25 rfl (lv_at hl 5 rfl) ?_
  refine lv_iload hx hb dX0_add_26 (lv_at hl 1 rfl) ?_
  refine lv_iadd hx hb dX0_add_28 ?_
  refine ax_i (y := (nI (a + 1))) (ax_addN a 1) ?_
  refine va_lald hx hb hK hP 1 0 rfl rfl (ax_in (by omega) (by omega)) dX0_add_29 ?_
  refine ax_l (y := (u (a + 1))) (by rw [nI_clamp (n := a + 1) (by omega)]) ?_
  refine lv_lmul hx hb dX0_add_30 ?_
  refine lv_lstore (lv' := [(7, .long (fac.toInt64 * (u (a + 1)))), (6, .int 8), (5, .int 1), (9, .int 1), (0, .ref xl), (1, .int (nI a)), (2, .int (nI b)), (3, .int tn), (4, .int fac)]) hx hb dX0_add_31 hl (by decide) rfl (fun ls hl => ?_)
  refine lv_iload hx hb dX0_add_33 (lv_at hl 1 rfl) ?_
  refine lv_iconst (v := 4) hx hb dX0_add_35 (by decide) ?_
  refine lv_iand hx hb dX0_add_36 ?_
  refine ax_i (y := 0) (by decide) ?_
  refine lv_if_eq (tgt := 44) hx hb dX0_add_37 (by decide) (fun _ => ?_) (fun h9 => absurd (by decide) h9)
  refine lv_iconst (v := 0) hx hb dX0_add_44 (by decide) ?_
  refine lv_istore (lv' := [(9, .int 0), (7, .long (fac.toInt64 * (u (a + 1)))), (6, .int 8), (5, .int 1), (0, .ref xl), (1, .int (nI a)), (2, .int (nI b)), (3, .int tn), (4, .int fac)]) hx hb dX0_add_45 hl (by decide) rfl (fun ls hl => ?_)
  refine lv_aload_n hx hb dX0_add_47 rfl (lv_at hl 4 rfl) ?_
  refine va_get (D := (dC, dI)) (ci := 0) (v := .ref xm) (C := RX0) (T := TX0) (N := 2) hx hb hts (by decide +kernel) hown hK hP 0 rfl rfl 1 (by decide) (hts (.fieldLink RX0 15 "Diffractory$Light" "next" "[J") (by decide +kernel)) (fun _ h9 => h9) rfl dX0_add_48 ?_
  refine lv_iload_n hx hb dX0_add_51 rfl (lv_at hl 6 rfl) ?_
  refine lv_iload hx hb dX0_add_52 (lv_at hl 2 rfl) ?_
  refine lv_iconst (v := 3) hx hb dX0_add_54 (by decide) ?_
  refine lv_iand hx hb dX0_add_55 ?_
  refine ax_i (y := 0) (by decide) ?_
  refine lv_iadd hx hb dX0_add_56 ?_
  refine ax_i (y := (nI (b + 0))) (ax_addN b 0) ?_
  refine lv_dup2_11 hx hb dX0_add_57 rfl rfl ?_
  refine va_lald hx hb hK hP 2 0 rfl rfl (ax_in (by omega) (by omega)) dX0_add_58 ?_
  refine ax_l (y := ((vp_updL g (b + 3) ((g (b + 3)) + (-(fac.toInt64 * (u (a + 0)))))) (b + 0))) (by rw [nI_clamp (n := b + 0) (by omega)]) ?_
  refine lv_iload hx hb dX0_add_59 (lv_at hl 0 rfl) ?_
  refine lv_if_eq (tgt := 70) hx hb dX0_add_61 (by decide) (fun _ => ?_) (fun h9 => absurd (by decide) h9)
  refine lv_lload hx hb dX0_add_70 (lv_at hl 1 rfl) ?_
  refine lv_ladd hx hb dX0_add_72 ?_
  refine va_last hx hb hK hP hD hS 2 0 rfl rfl (ax_in (by omega) (by omega)) dX0_add_73 (fun H locs hP hD hS => ?_)
  rw [nI_clamp (n := b + 0) (by omega)] at hP hD
  have hP : va_P (dC, dI) vwCl [(xl, .inr (0, [.ref xn, .ref xm])), (xn, .inl (cL, 64, .inr (.inl u))), (xm, .inl (cL, 64, .inr (.inl (vp_updL (vp_updL g (b + 3) ((g (b + 3)) + (-(fac.toInt64 * (u (a + 0)))))) (b + 0) (((vp_updL g (b + 3) ((g (b + 3)) + (-(fac.toInt64 * (u (a + 0)))))) (b + 0)) + (fac.toInt64 * (u (a + 1))))))))] H := hP
  have hD : va_D A [(xl, .inr (0, [.ref xn, .ref xm])), (xn, .inl (cL, 64, .inr (.inl u))), (xm, .inl (cL, 64, .inr (.inl (vp_updL (vp_updL g (b + 3) ((g (b + 3)) + (-(fac.toInt64 * (u (a + 0)))))) (b + 0) (((vp_updL g (b + 3) ((g (b + 3)) + (-(fac.toInt64 * (u (a + 0)))))) (b + 0)) + (fac.toInt64 * (u (a + 1))))))))] := hD
  refine lv_iinc (v := 2) (lv' := [(5, .int 2), (9, .int 0), (7, .long (fac.toInt64 * (u (a + 1)))), (6, .int 8), (0, .ref xl), (1, .int (nI a)), (2, .int (nI b)), (3, .int tn), (4, .int fac)]) hx hb dX0_add_74 hl (k := 3) rfl (by decide) (by decide) rfl (fun ls hl => ?_)
  refine lv_goto (tgt := 3) hx hb dX0_add_77 (by decide) ?_
  refine lv_iload hx hb dX0_add_3 (lv_at hl 0 rfl) ?_
  refine lv_iconst (v := 4) hx hb dX0_add_5 (by decide) ?_
  refine lv_icmp_ge (tgt := 80) hx hb dX0_add_6 (by decide) (fun h9 => absurd h9 (by decide)) (fun _ => ?_)
  refine lv_iload hx hb dX0_add_9 (lv_at hl 0 rfl) ?_
  refine lv_iload_n hx hb dX0_add_11 rfl (lv_at hl 7 rfl) ?_
  refine lv_bipush (v := 7) hx hb dX0_add_12 (by decide) ?_
  refine lv_iand hx hb dX0_add_14 ?_
  refine ax_i (y := 7) h3 ?_
  refine lv_iadd hx hb dX0_add_15 ?_
  refine ax_i (y := 9) (by decide) ?_
  refine lv_istore (lv' := [(6, .int 9), (5, .int 2), (9, .int 0), (7, .long (fac.toInt64 * (u (a + 1)))), (0, .ref xl), (1, .int (nI a)), (2, .int (nI b)), (3, .int tn), (4, .int fac)]) hx hb dX0_add_16 hl (by decide) rfl (fun ls hl => ?_)
  refine lv_iload hx hb dX0_add_18 (lv_at hl 8 rfl) ?_
  refine lv_i2l (v := fac.toInt64) hx hb dX0_add_20 rfl ?_
  refine lv_aload_n hx hb dX0_add_21 rfl (lv_at hl 4 rfl) ?_
  refine va_get (D := (dC, dI)) (ci := 0) (v := .ref xn) (C := RX0) (T := TX0) (N := 2) hx hb hts (by decide +kernel) hown hK hP 0 rfl rfl 0 (by decide) (hts (.fieldLink RX0 11 "Diffractory$Light" "now" "[J") (by decide +kernel)) (fun _ h9 => h9) rfl dX0_add_22 ?_
  refine lv_iload_n hx hb dX0_add_25 rfl (lv_at hl 5 rfl) ?_
  refine lv_iload hx hb dX0_add_26 (lv_at hl 1 rfl) ?_
  refine lv_iadd hx hb dX0_add_28 ?_
  refine ax_i (y := (nI (a + 2))) (ax_addN a 2) ?_
  refine va_lald hx hb hK hP 1 0 rfl rfl (ax_in (by omega) (by omega)) dX0_add_29 ?_
  refine ax_l (y := (u (a + 2))) (by rw [nI_clamp (n := a + 2) (by omega)]) ?_
  refine lv_lmul hx hb dX0_add_30 ?_
  refine lv_lstore (lv' := [(7, .long (fac.toInt64 * (u (a + 2)))), (6, .int 9), (5, .int 2), (9, .int 0), (0, .ref xl), (1, .int (nI a)), (2, .int (nI b)), (3, .int tn), (4, .int fac)]) hx hb dX0_add_31 hl (by decide) rfl (fun ls hl => ?_)
  refine lv_iload hx hb dX0_add_33 (lv_at hl 1 rfl) ?_
  refine lv_iconst (v := 4) hx hb dX0_add_35 (by decide) ?_
  refine lv_iand hx hb dX0_add_36 ?_
  refine ax_i (y := 0) (by decide) ?_
  refine lv_if_eq (tgt := 44) hx hb dX0_add_37 (by decide) (fun _ => ?_) (fun h9 => absurd (by decide) h9)
  refine lv_iconst (v := 0) hx hb dX0_add_44 (by decide) ?_
  refine lv_istore (lv' := [(9, .int 0), (7, .long (fac.toInt64 * (u (a + 2)))), (6, .int 9), (5, .int 2), (0, .ref xl), (1, .int (nI a)), (2, .int (nI b)), (3, .int tn), (4, .int fac)]) hx hb dX0_add_45 hl (by decide) rfl (fun ls hl => ?_)
  refine lv_aload_n hx hb dX0_add_47 rfl (lv_at hl 4 rfl) ?_
  refine va_get (D := (dC, dI)) (ci := 0) (v := .ref xm) (C := RX0) (T := TX0) (N := 2) hx hb hts (by decide +kernel) hown hK hP 0 rfl rfl 1 (by decide) (hts (.fieldLink RX0 15 "Diffractory$Light" "next" "[J") (by decide +kernel)) (fun _ h9 => h9) rfl dX0_add_48 ?_
  refine lv_iload_n hx hb dX0_add_51 rfl (lv_at hl 6 rfl) ?_
  refine lv_iload hx hb dX0_add_52 (lv_at hl 2 rfl) ?_
  refine lv_iconst (v := 3) hx hb dX0_add_54 (by decide) ?_
  refine lv_iand hx hb dX0_add_55 ?_
  refine ax_i (y := 1) (by decide) ?_
  refine lv_iadd hx hb dX0_add_56 ?_
  refine ax_i (y := (nI (b + 1))) (ax_addN b 1) ?_
  refine lv_dup2_11 hx hb dX0_add_57 rfl rfl ?_
  refine va_lald hx hb hK hP 2 0 rfl rfl (ax_in (by omega) (by omega)) dX0_add_58 ?_
  refine ax_l (y := ((vp_updL (vp_updL g (b + 3) ((g (b + 3)) + (-(fac.toInt64 * (u (a + 0)))))) (b + 0) (((vp_updL g (b + 3) ((g (b + 3)) + (-(fac.toInt64 * (u (a + 0)))))) (b + 0)) + (fac.toInt64 * (u (a + 1))))) (b + 1))) (by rw [nI_clamp (n := b + 1) (by omega)]) ?_
  refine lv_iload hx hb dX0_add_59 (lv_at hl 0 rfl) ?_
  refine lv_if_eq (tgt := 70) hx hb dX0_add_61 (by decide) (fun _ => ?_) (fun h9 => absurd (by decide) h9)
  refine lv_lload hx hb dX0_add_70 (lv_at hl 1 rfl) ?_
  refine lv_ladd hx hb dX0_add_72 ?_
  refine va_last hx hb hK hP hD hS 2 0 rfl rfl (ax_in (by omega) (by omega)) dX0_add_73 (fun H locs hP hD hS => ?_)
  rw [nI_clamp (n := b + 1) (by omega)] at hP hD
  have hP : va_P (dC, dI) vwCl [(xl, .inr (0, [.ref xn, .ref xm])), (xn, .inl (cL, 64, .inr (.inl u))), (xm, .inl (cL, 64, .inr (.inl (vp_updL (vp_updL (vp_updL g (b + 3) ((g (b + 3)) + (-(fac.toInt64 * (u (a + 0)))))) (b + 0) (((vp_updL g (b + 3) ((g (b + 3)) + (-(fac.toInt64 * (u (a + 0)))))) (b + 0)) + (fac.toInt64 * (u (a + 1))))) (b + 1) (((vp_updL (vp_updL g (b + 3) ((g (b + 3)) + (-(fac.toInt64 * (u (a + 0)))))) (b + 0) (((vp_updL g (b + 3) ((g (b + 3)) + (-(fac.toInt64 * (u (a + 0)))))) (b + 0)) + (fac.toInt64 * (u (a + 1))))) (b + 1)) + (fac.toInt64 * (u (a + 2))))))))] H := hP
  have hD : va_D A [(xl, .inr (0, [.ref xn, .ref xm])), (xn, .inl (cL, 64, .inr (.inl u))), (xm, .inl (cL, 64, .inr (.inl (vp_updL (vp_updL (vp_updL g (b + 3) ((g (b + 3)) + (-(fac.toInt64 * (u (a + 0)))))) (b + 0) (((vp_updL g (b + 3) ((g (b + 3)) + (-(fac.toInt64 * (u (a + 0)))))) (b + 0)) + (fac.toInt64 * (u (a + 1))))) (b + 1) (((vp_updL (vp_updL g (b + 3) ((g (b + 3)) + (-(fac.toInt64 * (u (a + 0)))))) (b + 0) (((vp_updL g (b + 3) ((g (b + 3)) + (-(fac.toInt64 * (u (a + 0)))))) (b + 0)) + (fac.toInt64 * (u (a + 1))))) (b + 1)) + (fac.toInt64 * (u (a + 2))))))))] := hD
  refine lv_iinc (v := 3) (lv' := [(5, .int 3), (9, .int 0), (7, .long (fac.toInt64 * (u (a + 2)))), (6, .int 9), (0, .ref xl), (1, .int (nI a)), (2, .int (nI b)), (3, .int tn), (4, .int fac)]) hx hb dX0_add_74 hl (k := 3) rfl (by decide) (by decide) rfl (fun ls hl => ?_)
  refine lv_goto (tgt := 3) hx hb dX0_add_77 (by decide) ?_
  refine lv_iload hx hb dX0_add_3 (lv_at hl 0 rfl) ?_
  refine lv_iconst (v := 4) hx hb dX0_add_5 (by decide) ?_
  refine lv_icmp_ge (tgt := 80) hx hb dX0_add_6 (by decide) (fun h9 => absurd h9 (by decide)) (fun _ => ?_)
  refine lv_iload hx hb dX0_add_9 (lv_at hl 0 rfl) ?_
  refine lv_iload_n hx hb dX0_add_11 rfl (lv_at hl 7 rfl) ?_
  refine lv_bipush (v := 7) hx hb dX0_add_12 (by decide) ?_
  refine lv_iand hx hb dX0_add_14 ?_
  refine ax_i (y := 7) h3 ?_
  refine lv_iadd hx hb dX0_add_15 ?_
  refine ax_i (y := 10) (by decide) ?_
  refine lv_istore (lv' := [(6, .int 10), (5, .int 3), (9, .int 0), (7, .long (fac.toInt64 * (u (a + 2)))), (0, .ref xl), (1, .int (nI a)), (2, .int (nI b)), (3, .int tn), (4, .int fac)]) hx hb dX0_add_16 hl (by decide) rfl (fun ls hl => ?_)
  refine lv_iload hx hb dX0_add_18 (lv_at hl 8 rfl) ?_
  refine lv_i2l (v := fac.toInt64) hx hb dX0_add_20 rfl ?_
  refine lv_aload_n hx hb dX0_add_21 rfl (lv_at hl 4 rfl) ?_
  refine va_get (D := (dC, dI)) (ci := 0) (v := .ref xn) (C := RX0) (T := TX0) (N := 2) hx hb hts (by decide +kernel) hown hK hP 0 rfl rfl 0 (by decide) (hts (.fieldLink RX0 11 "Diffractory$Light" "now" "[J") (by decide +kernel)) (fun _ h9 => h9) rfl dX0_add_22 ?_
  refine lv_iload_n hx hb dX0_add_25 rfl (lv_at hl 5 rfl) ?_
  refine lv_iload hx hb dX0_add_26 (lv_at hl 1 rfl) ?_
  refine lv_iadd hx hb dX0_add_28 ?_
  refine ax_i (y := (nI (a + 3))) (ax_addN a 3) ?_
  refine va_lald hx hb hK hP 1 0 rfl rfl (ax_in (by omega) (by omega)) dX0_add_29 ?_
  refine ax_l (y := (u (a + 3))) (by rw [nI_clamp (n := a + 3) (by omega)]) ?_
  refine lv_lmul hx hb dX0_add_30 ?_
  refine lv_lstore (lv' := [(7, .long (fac.toInt64 * (u (a + 3)))), (6, .int 10), (5, .int 3), (9, .int 0), (0, .ref xl), (1, .int (nI a)), (2, .int (nI b)), (3, .int tn), (4, .int fac)]) hx hb dX0_add_31 hl (by decide) rfl (fun ls hl => ?_)
  refine lv_iload hx hb dX0_add_33 (lv_at hl 1 rfl) ?_
  refine lv_iconst (v := 4) hx hb dX0_add_35 (by decide) ?_
  refine lv_iand hx hb dX0_add_36 ?_
  refine ax_i (y := 0) (by decide) ?_
  refine lv_if_eq (tgt := 44) hx hb dX0_add_37 (by decide) (fun _ => ?_) (fun h9 => absurd (by decide) h9)
  refine lv_iconst (v := 0) hx hb dX0_add_44 (by decide) ?_
  refine lv_istore (lv' := [(9, .int 0), (7, .long (fac.toInt64 * (u (a + 3)))), (6, .int 10), (5, .int 3), (0, .ref xl), (1, .int (nI a)), (2, .int (nI b)), (3, .int tn), (4, .int fac)]) hx hb dX0_add_45 hl (by decide) rfl (fun ls hl => ?_)
  refine lv_aload_n hx hb dX0_add_47 rfl (lv_at hl 4 rfl) ?_
  refine va_get (D := (dC, dI)) (ci := 0) (v := .ref xm) (C := RX0) (T := TX0) (N := 2) hx hb hts (by decide +kernel) hown hK hP 0 rfl rfl 1 (by decide) (hts (.fieldLink RX0 15 "Diffractory$Light" "next" "[J") (by decide +kernel)) (fun _ h9 => h9) rfl dX0_add_48 ?_
  refine lv_iload_n hx hb dX0_add_51 rfl (lv_at hl 6 rfl) ?_
  refine lv_iload hx hb dX0_add_52 (lv_at hl 2 rfl) ?_
  refine lv_iconst (v := 3) hx hb dX0_add_54 (by decide) ?_
  refine lv_iand hx hb dX0_add_55 ?_
  refine ax_i (y := 2) (by decide) ?_
  refine lv_iadd hx hb dX0_add_56 ?_
  refine ax_i (y := (nI (b + 2))) (ax_addN b 2) ?_
  refine lv_dup2_11 hx hb dX0_add_57 rfl rfl ?_
  refine va_lald hx hb hK hP 2 0 rfl rfl (ax_in (by omega) (by omega)) dX0_add_58 ?_
  refine ax_l (y := ((vp_updL (vp_updL (vp_updL g (b + 3) ((g (b + 3)) + (-(fac.toInt64 * (u (a + 0)))))) (b + 0) (((vp_updL g (b + 3) ((g (b + 3)) + (-(fac.toInt64 * (u (a + 0)))))) (b + 0)) + (fac.toInt64 * (u (a + 1))))) (b + 1) (((vp_updL (vp_updL g (b + 3) ((g (b + 3)) + (-(fac.toInt64 * (u (a + 0)))))) (b + 0) (((vp_updL g (b + 3) ((g (b + 3)) + (-(fac.toInt64 * (u (a + 0)))))) (b + 0)) + (fac.toInt64 * (u (a + 1))))) (b + 1)) + (fac.toInt64 * (u (a + 2))))) (b + 2))) (by rw [nI_clamp (n := b + 2) (by omega)]) ?_
  refine lv_iload hx hb dX0_add_59 (lv_at hl 0 rfl) ?_
  refine lv_if_eq (tgt := 70) hx hb dX0_add_61 (by decide) (fun _ => ?_) (fun h9 => absurd (by decide) h9)
  refine lv_lload hx hb dX0_add_70 (lv_at hl 1 rfl) ?_
  refine lv_ladd hx hb dX0_add_72 ?_
  refine va_last hx hb hK hP hD hS 2 0 rfl rfl (ax_in (by omega) (by omega)) dX0_add_73 (fun H locs hP hD hS => ?_)
  rw [nI_clamp (n := b + 2) (by omega)] at hP hD
  have hP : va_P (dC, dI) vwCl [(xl, .inr (0, [.ref xn, .ref xm])), (xn, .inl (cL, 64, .inr (.inl u))), (xm, .inl (cL, 64, .inr (.inl (vp_updL (vp_updL (vp_updL (vp_updL g (b + 3) ((g (b + 3)) + (-(fac.toInt64 * (u (a + 0)))))) (b + 0) (((vp_updL g (b + 3) ((g (b + 3)) + (-(fac.toInt64 * (u (a + 0)))))) (b + 0)) + (fac.toInt64 * (u (a + 1))))) (b + 1) (((vp_updL (vp_updL g (b + 3) ((g (b + 3)) + (-(fac.toInt64 * (u (a + 0)))))) (b + 0) (((vp_updL g (b + 3) ((g (b + 3)) + (-(fac.toInt64 * (u (a + 0)))))) (b + 0)) + (fac.toInt64 * (u (a + 1))))) (b + 1)) + (fac.toInt64 * (u (a + 2))))) (b + 2) (((vp_updL (vp_updL (vp_updL g (b + 3) ((g (b + 3)) + (-(fac.toInt64 * (u (a + 0)))))) (b + 0) (((vp_updL g (b + 3) ((g (b + 3)) + (-(fac.toInt64 * (u (a + 0)))))) (b + 0)) + (fac.toInt64 * (u (a + 1))))) (b + 1) (((vp_updL (vp_updL g (b + 3) ((g (b + 3)) + (-(fac.toInt64 * (u (a + 0)))))) (b + 0) (((vp_updL g (b + 3) ((g (b + 3)) + (-(fac.toInt64 * (u (a + 0)))))) (b + 0)) + (fac.toInt64 * (u (a + 1))))) (b + 1)) + (fac.toInt64 * (u (a + 2))))) (b + 2)) + (fac.toInt64 * (u (a + 3))))))))] H := hP
  have hD : va_D A [(xl, .inr (0, [.ref xn, .ref xm])), (xn, .inl (cL, 64, .inr (.inl u))), (xm, .inl (cL, 64, .inr (.inl (vp_updL (vp_updL (vp_updL (vp_updL g (b + 3) ((g (b + 3)) + (-(fac.toInt64 * (u (a + 0)))))) (b + 0) (((vp_updL g (b + 3) ((g (b + 3)) + (-(fac.toInt64 * (u (a + 0)))))) (b + 0)) + (fac.toInt64 * (u (a + 1))))) (b + 1) (((vp_updL (vp_updL g (b + 3) ((g (b + 3)) + (-(fac.toInt64 * (u (a + 0)))))) (b + 0) (((vp_updL g (b + 3) ((g (b + 3)) + (-(fac.toInt64 * (u (a + 0)))))) (b + 0)) + (fac.toInt64 * (u (a + 1))))) (b + 1)) + (fac.toInt64 * (u (a + 2))))) (b + 2) (((vp_updL (vp_updL (vp_updL g (b + 3) ((g (b + 3)) + (-(fac.toInt64 * (u (a + 0)))))) (b + 0) (((vp_updL g (b + 3) ((g (b + 3)) + (-(fac.toInt64 * (u (a + 0)))))) (b + 0)) + (fac.toInt64 * (u (a + 1))))) (b + 1) (((vp_updL (vp_updL g (b + 3) ((g (b + 3)) + (-(fac.toInt64 * (u (a + 0)))))) (b + 0) (((vp_updL g (b + 3) ((g (b + 3)) + (-(fac.toInt64 * (u (a + 0)))))) (b + 0)) + (fac.toInt64 * (u (a + 1))))) (b + 1)) + (fac.toInt64 * (u (a + 2))))) (b + 2)) + (fac.toInt64 * (u (a + 3))))))))] := hD
  refine lv_iinc (v := 4) (lv' := [(5, .int 4), (9, .int 0), (7, .long (fac.toInt64 * (u (a + 3)))), (6, .int 10), (0, .ref xl), (1, .int (nI a)), (2, .int (nI b)), (3, .int tn), (4, .int fac)]) hx hb dX0_add_74 hl (k := 3) rfl (by decide) (by decide) rfl (fun ls hl => ?_)
  refine lv_goto (tgt := 3) hx hb dX0_add_77 (by decide) ?_
  refine lv_iload hx hb dX0_add_3 (lv_at hl 0 rfl) ?_
  refine lv_iconst (v := 4) hx hb dX0_add_5 (by decide) ?_
  refine lv_icmp_ge (tgt := 80) hx hb dX0_add_6 (by decide) (fun _ => ?_) (fun h9 => absurd (by decide) h9)
  refine W.widen (k := 0) (n := 0) (Nat.le_of_ble_eq_true rfl) (Nat.le_of_ble_eq_true rfl) ?_
  have hP9 := hP.sub (ws' := [(xl, .inr (0, [.ref xn, .ref xm])), (xn, .inl (cL, 64, .inr (.inl u))), (xm, .inl (cL, 64, .inr (.inl (vp_updL (vp_updL (vp_updL (vp_updL g (b + 3) ((g (b + 3)) + (-(fac.toInt64 * (u (a + 0)))))) (b + 0) (((vp_updL g (b + 3) ((g (b + 3)) + (-(fac.toInt64 * (u (a + 0)))))) (b + 0)) + (fac.toInt64 * (u (a + 1))))) (b + 1) (((vp_updL (vp_updL g (b + 3) ((g (b + 3)) + (-(fac.toInt64 * (u (a + 0)))))) (b + 0) (((vp_updL g (b + 3) ((g (b + 3)) + (-(fac.toInt64 * (u (a + 0)))))) (b + 0)) + (fac.toInt64 * (u (a + 1))))) (b + 1)) + (fac.toInt64 * (u (a + 2))))) (b + 2) (((vp_updL (vp_updL (vp_updL g (b + 3) ((g (b + 3)) + (-(fac.toInt64 * (u (a + 0)))))) (b + 0) (((vp_updL g (b + 3) ((g (b + 3)) + (-(fac.toInt64 * (u (a + 0)))))) (b + 0)) + (fac.toInt64 * (u (a + 1))))) (b + 1) (((vp_updL (vp_updL g (b + 3) ((g (b + 3)) + (-(fac.toInt64 * (u (a + 0)))))) (b + 0) (((vp_updL g (b + 3) ((g (b + 3)) + (-(fac.toInt64 * (u (a + 0)))))) (b + 0)) + (fac.toInt64 * (u (a + 1))))) (b + 1)) + (fac.toInt64 * (u (a + 2))))) (b + 2)) + (fac.toInt64 * (u (a + 3))))))))]) [0, 1, 2] rfl
  have hD9 := hD.sub (ws' := [(xl, .inr (0, [.ref xn, .ref xm])), (xn, .inl (cL, 64, .inr (.inl u))), (xm, .inl (cL, 64, .inr (.inl (vp_updL (vp_updL (vp_updL (vp_updL g (b + 3) ((g (b + 3)) + (-(fac.toInt64 * (u (a + 0)))))) (b + 0) (((vp_updL g (b + 3) ((g (b + 3)) + (-(fac.toInt64 * (u (a + 0)))))) (b + 0)) + (fac.toInt64 * (u (a + 1))))) (b + 1) (((vp_updL (vp_updL g (b + 3) ((g (b + 3)) + (-(fac.toInt64 * (u (a + 0)))))) (b + 0) (((vp_updL g (b + 3) ((g (b + 3)) + (-(fac.toInt64 * (u (a + 0)))))) (b + 0)) + (fac.toInt64 * (u (a + 1))))) (b + 1)) + (fac.toInt64 * (u (a + 2))))) (b + 2) (((vp_updL (vp_updL (vp_updL g (b + 3) ((g (b + 3)) + (-(fac.toInt64 * (u (a + 0)))))) (b + 0) (((vp_updL g (b + 3) ((g (b + 3)) + (-(fac.toInt64 * (u (a + 0)))))) (b + 0)) + (fac.toInt64 * (u (a + 1))))) (b + 1) (((vp_updL (vp_updL g (b + 3) ((g (b + 3)) + (-(fac.toInt64 * (u (a + 0)))))) (b + 0) (((vp_updL g (b + 3) ((g (b + 3)) + (-(fac.toInt64 * (u (a + 0)))))) (b + 0)) + (fac.toInt64 * (u (a + 1))))) (b + 1)) + (fac.toInt64 * (u (a + 2))))) (b + 2)) + (fac.toInt64 * (u (a + 3))))))))]) [0, 1, 2] (by decide) rfl
  have hK9 := hK.sub (tys' := [(cL, .long)]) [0] rfl
  have e9 : (vp_updL (vp_updL (vp_updL (vp_updL g (b + 3) ((g (b + 3)) + (-(fac.toInt64 * (u (a + 0)))))) (b + 0) (((vp_updL g (b + 3) ((g (b + 3)) + (-(fac.toInt64 * (u (a + 0)))))) (b + 0)) + (fac.toInt64 * (u (a + 1))))) (b + 1) (((vp_updL (vp_updL g (b + 3) ((g (b + 3)) + (-(fac.toInt64 * (u (a + 0)))))) (b + 0) (((vp_updL g (b + 3) ((g (b + 3)) + (-(fac.toInt64 * (u (a + 0)))))) (b + 0)) + (fac.toInt64 * (u (a + 1))))) (b + 1)) + (fac.toInt64 * (u (a + 2))))) (b + 2) (((vp_updL (vp_updL (vp_updL g (b + 3) ((g (b + 3)) + (-(fac.toInt64 * (u (a + 0)))))) (b + 0) (((vp_updL g (b + 3) ((g (b + 3)) + (-(fac.toInt64 * (u (a + 0)))))) (b + 0)) + (fac.toInt64 * (u (a + 1))))) (b + 1) (((vp_updL (vp_updL g (b + 3) ((g (b + 3)) + (-(fac.toInt64 * (u (a + 0)))))) (b + 0) (((vp_updL g (b + 3) ((g (b + 3)) + (-(fac.toInt64 * (u (a + 0)))))) (b + 0)) + (fac.toInt64 * (u (a + 1))))) (b + 1)) + (fac.toInt64 * (u (a + 2))))) (b + 2)) + (fac.toInt64 * (u (a + 3))))) = ad a b 7 fac u g := by
    refine ax_ad (fun j => ⟨fun q => ?_, fun q => ?_⟩)
    · rcases (show j = b + 0 ∨ j = b + 1 ∨ j = b + 2 ∨ j = b + 3 by omega) with h | h | h | h <;> subst h <;> simp [vp_updL, rt, Nat.add_sub_cancel_left]
    · simp only [vp_updL]
      rw [if_neg (by omega), if_neg (by omega), if_neg (by omega), if_neg (by omega)]
  rw [e9] at hP9 hD9
  exact W.vret hx hb hr (fun t8 ht hW => ⟨⟨(), rfl, trivial, by rw [ht]; exact hP9, va_K.moved hW.alike hK9, hD9⟩, hS.F ht⟩) hS.2.2 dX0_add_80

theorem c_X0_add (l : Launch) (dC : Nat → ClassId) (dI : Nat → Nat → Nat) (xl xn xm : Nat) (cL : ClassId) (ta : Nat → Nat) (sz : Nat) (u : Nat → Int64) (g : Nat → Int64) (a : Nat) (b : Nat) (tn : Int32) (fac : Int32) (rr : Nat) (h1 : a + 4 ≤ 64) (h2 : b + 4 ≤ 64) (h3 : tn &&& 7 = nI rr) (h4 : rr < 8) : Met l yX0_add wsX0_add ({ frames := 0, cells := 0, slots := 0, locals := 0 }) (va_Pc [.ref xl, .int (nI a), .int (nI b), .int tn, .int fac] (ax_W (dC, dI) vwCl [(xl, .inr (0, [.ref xn, .ref xm])), (xn, .inl (cL, 64, .inr (.inl u))), (xm, .inl (cL, 64, .inr (.inl g)))] [(cL, .long)] ta sz)) (va_Qv (fun (u9 : Unit) => True) (fun (u9 : Unit) (t9 : State) => va_P (dC, dI) vwCl [(xl, .inr (0, [.ref xn, .ref xm])), (xn, .inl (cL, 64, .inr (.inl u))), (xm, .inl (cL, 64, .inr (.inl (ad a b rr fac u g))))] t9.heap ∧ va_K (dC, dI) vwCl [(cL, .long)] t9 ∧ va_D (va_A [(xl, .inr (0, [.ref xn, .ref xm])), (xn, .inl (cL, 64, .inr (.inl u))), (xm, .inl (cL, 64, .inr (.inl g)))] sz) [(xl, .inr (0, [.ref xn, .ref xm])), (xn, .inl (cL, 64, .inr (.inl u))), (xm, .inl (cL, 64, .inr (.inl (ad a b rr fac u g))))]) (va_A [(xl, .inr (0, [.ref xn, .ref xm])), (xn, .inl (cL, 64, .inr (.inl u))), (xm, .inl (cL, 64, .inr (.inl g)))] sz)) 0 0 (va_A [(xl, .inr (0, [.ref xn, .ref xm])), (xn, .inl (cL, 64, .inr (.inl u))), (xm, .inl (cL, 64, .inr (.inl g)))] sz) := by
  rcases (show rr = 0 ∨ rr = 1 ∨ rr = 2 ∨ rr = 3 ∨ rr = 4 ∨ rr = 5 ∨ rr = 6 ∨ rr = 7 by omega) with h | h | h | h | h | h | h | h <;> subst h
  · exact c_X0_add_0 l dC dI xl xn xm cL ta sz u g a b tn fac h1 h2 h3
  · exact c_X0_add_1 l dC dI xl xn xm cL ta sz u g a b tn fac h1 h2 h3
  · exact c_X0_add_2 l dC dI xl xn xm cL ta sz u g a b tn fac h1 h2 h3
  · exact c_X0_add_3 l dC dI xl xn xm cL ta sz u g a b tn fac h1 h2 h3
  · exact c_X0_add_4 l dC dI xl xn xm cL ta sz u g a b tn fac h1 h2 h3
  · exact c_X0_add_5 l dC dI xl xn xm cL ta sz u g a b tn fac h1 h2 h3
  · exact c_X0_add_6 l dC dI xl xn xm cL ta sz u g a b tn fac h1 h2 h3
  · exact c_X0_add_7 l dC dI xl xn xm cL ta sz u g a b tn fac h1 h2 h3

set_option maxHeartbeats 4000000 in
set_option maxRecDepth 100000 in
theorem c_X0_carry (l : Launch) (dC : Nat → ClassId) (dI : Nat → Nat → Nat) (xl xn xm : Nat) (cL : ClassId) (ta : Nat → Nat) (sz : Nat) (u : Nat → Int64) (g : Nat → Int64) (k : Nat) (q : Nat) (tn : Int32) (fac : Int32) (rr : Nat) (hk8 : k < 8) (hq8 : q < 8) (h3 : tn &&& 7 = nI rr) (h4 : rr < 8) : Met l yX0_carry wsX0_carry ({ frames := 1, cells := 0, slots := 0, locals := 29 }) (va_Pc [.ref xl, .int (nI k), .int (nI q), .int tn, .int fac] (ax_W (dC, dI) vwCl [(xl, .inr (0, [.ref xn, .ref xm])), (xn, .inl (cL, 64, .inr (.inl u))), (xm, .inl (cL, 64, .inr (.inl g)))] [(cL, .long)] ta sz)) (va_Qv (fun (u9 : Unit) => True) (fun (u9 : Unit) (t9 : State) => va_P (dC, dI) vwCl [(xl, .inr (0, [.ref xn, .ref xm])), (xn, .inl (cL, 64, .inr (.inl u))), (xm, .inl (cL, 64, .inr (.inl (cr k q rr fac u g))))] t9.heap ∧ va_K (dC, dI) vwCl [(cL, .long)] t9 ∧ va_D (va_A [(xl, .inr (0, [.ref xn, .ref xm])), (xn, .inl (cL, 64, .inr (.inl u))), (xm, .inl (cL, 64, .inr (.inl g)))] sz) [(xl, .inr (0, [.ref xn, .ref xm])), (xn, .inl (cL, 64, .inr (.inl u))), (xm, .inl (cL, 64, .inr (.inl (cr k q rr fac u g))))]) (va_A [(xl, .inr (0, [.ref xn, .ref xm])), (xn, .inl (cL, 64, .inr (.inl u))), (xm, .inl (cL, 64, .inr (.inl g)))] sz)) 0 0 (va_A [(xl, .inr (0, [.ref xn, .ref xm])), (xn, .inl (cL, 64, .inr (.inl u))), (xm, .inl (cL, 64, .inr (.inl g)))] sz) := by
  refine Met.ofW (cc := cX0_carry) (maxL := 5) (ret := none) (by decide) rfl ?_
  intro p e s m args below meth c s₁ B hml hv
  obtain ⟨rfl, hsz, hP, hK, hD0, hE⟩ := hv
  have hx := B.exec
  have hb := B.bytes
  have hr := B.returns
  have hts := atoms_spec (ws := wsX0_carry) B.pre
  have hown : s.vm.findClass RX0 = some m.cls := findClass_of_methodNamed B.named
  have hlocks := B.notSynchronized
  subst hsz
  have hD := hD0.self (sz := s.heap.size)
  generalize hAe : va_A [(xl, .inr (0, [.ref xn, .ref xm])), (xn, .inl (cL, 64, .inr (.inl u))), (xm, .inl (cL, 64, .inr (.inl g)))] s.heap.size = A at hD hE ⊢
  have hA : ∀ q : Nat, s.heap.size ≤ q → A q := fun q h => by rw [← hAe]; exact Or.inr h
  have hS : va_S A s.heap s.heap [] := va_S.rf
  have hl := lv_entry ([.ref xl, .int (nI k), .int (nI q), .int tn, .int fac]) (n := 5) (Nat.le_of_ble_eq_true rfl)
  rw [lg_entry_eq]
  generalize (lg_sl ([.ref xl, .int (nI k), .int (nI q), .int tn, .int fac]) ++ List.replicate (5 - (lg_sl ([.ref xl, .int (nI k), .int (nI q), .int tn, .int fac])).length) Slot.unset).toArray = ls at hl ⊢
  have hl : lv_has ls 5 [(0, .ref xl), (1, .int (nI k)), (2, .int (nI q)), (3, .int tn), (4, .int fac)] := hl
  have hP : va_P (dC, dI) vwCl [(xl, .inr (0, [.ref xn, .ref xm])), (xn, .inl (cL, 64, .inr (.inl u))), (xm, .inl (cL, 64, .inr (.inl g)))] s.heap := hP
  refine lv_aload_n hx hb dX0_carry_0 rfl (lv_at hl 0 rfl) ?_
  refine lv_iload_n hx hb dX0_carry_1 rfl (lv_at hl 1 rfl) ?_
  refine va_calli (va_runS (As := [.int (nI k)]) (rest := [.ref xl]) ⟨hx, hb, hml, hown, hts⟩ (c_X0_startOfX l k (by omega)) (va_cwS 1 hts gX0_carry_X0_startOfX rfl rfl rfl (by decide +kernel) ⟨Nat.le_of_ble_eq_true rfl, Nat.le_of_ble_eq_true rfl⟩) ⟨ax_fbP, ax_prP⟩ rfl rfl hl.1 rfl (lv_room (Nat.le_of_ble_eq_true rfl)) dX0_carry_2 ⟨Nat.le_of_ble_eq_true rfl, Nat.le_of_ble_eq_true rfl⟩) hS (fun _ _ h9 => h9.elim) (fun _ h9 => h9.elim) (fun r_1 u_3 t8 H locs ht hvm hw_2 hB hz1 hk1 hS => ?_)
  have hP := ax_keep hP (fun _ h9 => h9) hk1
  have hw_2 : r_1 = (nI (8 * k)) := hw_2
  refine ax_i (y := (nI (8 * k))) hw_2 ?_
  refine lv_iload_n hx hb dX0_carry_5 rfl (lv_at hl 2 rfl) ?_
  refine va_calli (va_runS (As := [.int (nI q)]) (rest := [.int (nI (8 * k)), .ref xl]) ⟨hx, hb, hml, hown, hts⟩ (c_X0_startOfX l q (by omega)) (va_cwS 1 hts gX0_carry_X0_startOfX rfl rfl rfl (by decide +kernel) ⟨Nat.le_of_ble_eq_true rfl, Nat.le_of_ble_eq_true rfl⟩) ⟨ax_fbP, ax_prP⟩ rfl rfl hl.1 rfl (lv_room (Nat.le_of_ble_eq_true rfl)) dX0_carry_6 ⟨Nat.le_of_ble_eq_true rfl, Nat.le_of_ble_eq_true rfl⟩) hS (fun _ _ h9 => h9.elim) (fun _ h9 => h9.elim) (fun r_4 u_6 t8 H locs ht hvm hw_5 hB hz1 hk1 hS => ?_)
  have hP := ax_keep hP (fun _ h9 => h9) hk1
  have hw_5 : r_4 = (nI (8 * q)) := hw_5
  refine ax_i (y := (nI (8 * q))) hw_5 ?_
  refine lv_iload_n hx hb dX0_carry_9 rfl (lv_at hl 3 rfl) ?_
  refine lv_iload hx hb dX0_carry_10 (lv_at hl 4 rfl) ?_
  have hPc := hP.sub (ws' := [(xl, .inr (0, [.ref xn, .ref xm])), (xn, .inl (cL, 64, .inr (.inl u))), (xm, .inl (cL, 64, .inr (.inl g)))]) [0, 1, 2] rfl
  have hKc := hK.sub (tys' := [(cL, .long)]) [0] rfl
  have hDc := hD.sub (ws' := [(xl, .inr (0, [.ref xn, .ref xm])), (xn, .inl (cL, 64, .inr (.inl u))), (xm, .inl (cL, 64, .inr (.inl g)))]) [0, 1, 2] (by decide) rfl
  have hFc := va_free (wc := [(xl, .inr (0, [.ref xn, .ref xm])), (xn, .inl (cL, 64, .inr (.inl u))), (xm, .inl (cL, 64, .inr (.inl g)))]) hD hS hA [0, 1, 2] rfl
  refine va_callv (va_runV (As := [.int (nI (8 * k)), .int (nI (8 * q)), .int tn, .int fac]) (rest := []) ⟨hx, hb, hml, hown, hts⟩ (c_X0_add l dC dI xl xn xm cL ta H.size u g (8 * k) (8 * q) tn fac rr (by omega) (by omega) h3 (by omega)) (cwV 4 hts gX0_carry_X0_add rfl rfl rfl (by decide +kernel) ⟨Nat.le_of_ble_eq_true rfl, Nat.le_of_ble_eq_true rfl⟩) ⟨ax_fbW, va_recv hK hP (ci := 0) (q0 := 0) rfl rfl, ax_prW hPc hKc hDc hS hFc hE⟩ rfl rfl hl.1 rfl (lv_room (Nat.le_of_ble_eq_true rfl)) dX0_carry_12 ⟨Nat.le_of_ble_eq_true rfl, Nat.le_of_ble_eq_true rfl⟩) hS (fun q _ h9 => hFc q h9) hFc (fun u_9 t8 H locs ht hvm hw_8 hB hz1 hk1 hS => ?_)
  obtain ⟨hP1, hK1, hD1⟩ := hB
  rw [ht] at hP1
  have hK1 := va_K.moved hvm.symm hK1
  obtain ⟨hP, hD⟩ := va_join (wr := []) (w1 := [(xl, .inr (0, [.ref xn, .ref xm])), (xn, .inl (cL, 64, .inr (.inl u))), (xm, .inl (cL, 64, .inr (.inl (ad (8 * k) (8 * q) rr fac u g))))]) hP hD [0, 1, 2] [] rfl rfl (by decide) (by decide) hk1 hFc hP1 hD1
  have hP : va_P (dC, dI) vwCl [(xl, .inr (0, [.ref xn, .ref xm])), (xn, .inl (cL, 64, .inr (.inl u))), (xm, .inl (cL, 64, .inr (.inl (ad (8 * k) (8 * q) rr fac u g))))] H := hP
  have hD : va_D A [(xl, .inr (0, [.ref xn, .ref xm])), (xn, .inl (cL, 64, .inr (.inl u))), (xm, .inl (cL, 64, .inr (.inl (ad (8 * k) (8 * q) rr fac u g))))] := hD
  refine lv_aload_n hx hb dX0_carry_15 rfl (lv_at hl 0 rfl) ?_
  refine lv_iload_n hx hb dX0_carry_16 rfl (lv_at hl 1 rfl) ?_
  refine va_calli (va_runS (As := [.int (nI k)]) (rest := [.ref xl]) ⟨hx, hb, hml, hown, hts⟩ (c_X0_startOfY l k (by omega)) (va_cwS 1 hts gX0_carry_X0_startOfY rfl rfl rfl (by decide +kernel) ⟨Nat.le_of_ble_eq_true rfl, Nat.le_of_ble_eq_true rfl⟩) ⟨ax_fbP, ax_prP⟩ rfl rfl hl.1 rfl (lv_room (Nat.le_of_ble_eq_true rfl)) dX0_carry_17 ⟨Nat.le_of_ble_eq_true rfl, Nat.le_of_ble_eq_true rfl⟩) hS (fun _ _ h9 => h9.elim) (fun _ h9 => h9.elim) (fun r_11 u_13 t8 H locs ht hvm hw_12 hB hz1 hk1 hS => ?_)
  have hP := ax_keep hP (fun _ h9 => h9) hk1
  have hw_12 : r_11 = (nI (8 * k + 4)) := hw_12
  refine ax_i (y := (nI (8 * k + 4))) hw_12 ?_
  refine lv_iload_n hx hb dX0_carry_20 rfl (lv_at hl 2 rfl) ?_
  refine va_calli (va_runS (As := [.int (nI q)]) (rest := [.int (nI (8 * k + 4)), .ref xl]) ⟨hx, hb, hml, hown, hts⟩ (c_X0_startOfY l q (by omega)) (va_cwS 1 hts gX0_carry_X0_startOfY rfl rfl rfl (by decide +kernel) ⟨Nat.le_of_ble_eq_true rfl, Nat.le_of_ble_eq_true rfl⟩) ⟨ax_fbP, ax_prP⟩ rfl rfl hl.1 rfl (lv_room (Nat.le_of_ble_eq_true rfl)) dX0_carry_21 ⟨Nat.le_of_ble_eq_true rfl, Nat.le_of_ble_eq_true rfl⟩) hS (fun _ _ h9 => h9.elim) (fun _ h9 => h9.elim) (fun r_14 u_16 t8 H locs ht hvm hw_15 hB hz1 hk1 hS => ?_)
  have hP := ax_keep hP (fun _ h9 => h9) hk1
  have hw_15 : r_14 = (nI (8 * q + 4)) := hw_15
  refine ax_i (y := (nI (8 * q + 4))) hw_15 ?_
  refine lv_iload_n hx hb dX0_carry_24 rfl (lv_at hl 3 rfl) ?_
  refine lv_iload hx hb dX0_carry_25 (lv_at hl 4 rfl) ?_
  have hPc := hP.sub (ws' := [(xl, .inr (0, [.ref xn, .ref xm])), (xn, .inl (cL, 64, .inr (.inl u))), (xm, .inl (cL, 64, .inr (.inl (ad (8 * k) (8 * q) rr fac u g))))]) [0, 1, 2] rfl
  have hKc := hK.sub (tys' := [(cL, .long)]) [0] rfl
  have hDc := hD.sub (ws' := [(xl, .inr (0, [.ref xn, .ref xm])), (xn, .inl (cL, 64, .inr (.inl u))), (xm, .inl (cL, 64, .inr (.inl (ad (8 * k) (8 * q) rr fac u g))))]) [0, 1, 2] (by decide) rfl
  have hFc := va_free (wc := [(xl, .inr (0, [.ref xn, .ref xm])), (xn, .inl (cL, 64, .inr (.inl u))), (xm, .inl (cL, 64, .inr (.inl (ad (8 * k) (8 * q) rr fac u g))))]) hD hS hA [0, 1, 2] rfl
  refine va_callv (va_runV (As := [.int (nI (8 * k + 4)), .int (nI (8 * q + 4)), .int tn, .int fac]) (rest := []) ⟨hx, hb, hml, hown, hts⟩ (c_X0_add l dC dI xl xn xm cL ta H.size u (ad (8 * k) (8 * q) rr fac u g) (8 * k + 4) (8 * q + 4) tn fac rr (by omega) (by omega) h3 (by omega)) (cwV 4 hts gX0_carry_X0_add rfl rfl rfl (by decide +kernel) ⟨Nat.le_of_ble_eq_true rfl, Nat.le_of_ble_eq_true rfl⟩) ⟨ax_fbW, va_recv hK hP (ci := 0) (q0 := 0) rfl rfl, ax_prW hPc hKc hDc hS hFc hE⟩ rfl rfl hl.1 rfl (lv_room (Nat.le_of_ble_eq_true rfl)) dX0_carry_27 ⟨Nat.le_of_ble_eq_true rfl, Nat.le_of_ble_eq_true rfl⟩) hS (fun q _ h9 => hFc q h9) hFc (fun u_19 t8 H locs ht hvm hw_18 hB hz1 hk1 hS => ?_)
  obtain ⟨hP1, hK1, hD1⟩ := hB
  rw [ht] at hP1
  have hK1 := va_K.moved hvm.symm hK1
  obtain ⟨hP, hD⟩ := va_join (wr := []) (w1 := [(xl, .inr (0, [.ref xn, .ref xm])), (xn, .inl (cL, 64, .inr (.inl u))), (xm, .inl (cL, 64, .inr (.inl (ad (8 * k + 4) (8 * q + 4) rr fac u (ad (8 * k) (8 * q) rr fac u g)))))]) hP hD [0, 1, 2] [] rfl rfl (by decide) (by decide) hk1 hFc hP1 hD1
  have hP : va_P (dC, dI) vwCl [(xl, .inr (0, [.ref xn, .ref xm])), (xn, .inl (cL, 64, .inr (.inl u))), (xm, .inl (cL, 64, .inr (.inl (ad (8 * k + 4) (8 * q + 4) rr fac u (ad (8 * k) (8 * q) rr fac u g)))))] H := hP
  have hD : va_D A [(xl, .inr (0, [.ref xn, .ref xm])), (xn, .inl (cL, 64, .inr (.inl u))), (xm, .inl (cL, 64, .inr (.inl (ad (8 * k + 4) (8 * q + 4) rr fac u (ad (8 * k) (8 * q) rr fac u g)))))] := hD
  refine W.widen (k := 0) (n := 0) (Nat.le_of_ble_eq_true rfl) (Nat.le_of_ble_eq_true rfl) ?_
  have hP9 := hP.sub (ws' := [(xl, .inr (0, [.ref xn, .ref xm])), (xn, .inl (cL, 64, .inr (.inl u))), (xm, .inl (cL, 64, .inr (.inl (ad (8 * k + 4) (8 * q + 4) rr fac u (ad (8 * k) (8 * q) rr fac u g)))))]) [0, 1, 2] rfl
  have hD9 := hD.sub (ws' := [(xl, .inr (0, [.ref xn, .ref xm])), (xn, .inl (cL, 64, .inr (.inl u))), (xm, .inl (cL, 64, .inr (.inl (ad (8 * k + 4) (8 * q + 4) rr fac u (ad (8 * k) (8 * q) rr fac u g)))))]) [0, 1, 2] (by decide) rfl
  have hK9 := hK.sub (tys' := [(cL, .long)]) [0] rfl
  exact W.vret hx hb hr (fun t8 ht hW => ⟨⟨(), rfl, trivial, by rw [ht]; exact hP9, va_K.moved hW.alike hK9, hD9⟩, hS.F ht⟩) hS.2.2 dX0_carry_30

set_option maxHeartbeats 4000000 in
set_option maxRecDepth 100000 in
theorem c_X0_gather_1 (l : Launch) (dC : Nat → ClassId) (dI : Nat → Nat → Nat) (xl xn xm : Nat) (cL : ClassId) (ta : Nat → Nat) (sz : Nat) (u : Nat → Int64) (g : Nat → Int64) (k : Nat) (hk8 : k < 8) : Met l yX0_gather wsX0_gather ({ frames := 1, cells := 0, slots := 0, locals := 29 }) (va_Pc [.ref xl, .int (nI k), .int 1] (ax_W (dC, dI) vwCl [(xl, .inr (0, [.ref xn, .ref xm])), (xn, .inl (cL, 64, .inr (.inl u))), (xm, .inl (cL, 64, .inr (.inl g)))] [(cL, .long)] ta sz)) (va_Qv (fun (u9 : Unit) => True) (fun (u9 : Unit) (t9 : State) => va_P (dC, dI) vwCl [(xl, .inr (0, [.ref xn, .ref xm])), (xn, .inl (cL, 64, .inr (.inl u))), (xm, .inl (cL, 64, .inr (.inl (gthR k 1 u g 8))))] t9.heap ∧ va_K (dC, dI) vwCl [(cL, .long)] t9 ∧ va_D (va_A [(xl, .inr (0, [.ref xn, .ref xm])), (xn, .inl (cL, 64, .inr (.inl u))), (xm, .inl (cL, 64, .inr (.inl g)))] sz) [(xl, .inr (0, [.ref xn, .ref xm])), (xn, .inl (cL, 64, .inr (.inl u))), (xm, .inl (cL, 64, .inr (.inl (gthR k 1 u g 8))))]) (va_A [(xl, .inr (0, [.ref xn, .ref xm])), (xn, .inl (cL, 64, .inr (.inl u))), (xm, .inl (cL, 64, .inr (.inl g)))] sz)) 0 0 (va_A [(xl, .inr (0, [.ref xn, .ref xm])), (xn, .inl (cL, 64, .inr (.inl u))), (xm, .inl (cL, 64, .inr (.inl g)))] sz) := by
  refine Met.ofW (cc := cX0_gather) (maxL := 4) (ret := none) (by decide) rfl ?_
  intro p e s m args below meth c s₁ B hml hv
  obtain ⟨rfl, hsz, hP, hK, hD0, hE⟩ := hv
  have hx := B.exec
  have hb := B.bytes
  have hr := B.returns
  have hts := atoms_spec (ws := wsX0_gather) B.pre
  have hown : s.vm.findClass RX0 = some m.cls := findClass_of_methodNamed B.named
  have hlocks := B.notSynchronized
  subst hsz
  have hD := hD0.self (sz := s.heap.size)
  generalize hAe : va_A [(xl, .inr (0, [.ref xn, .ref xm])), (xn, .inl (cL, 64, .inr (.inl u))), (xm, .inl (cL, 64, .inr (.inl g)))] s.heap.size = A at hD hE ⊢
  have hA : ∀ q : Nat, s.heap.size ≤ q → A q := fun q h => by rw [← hAe]; exact Or.inr h
  have hS : va_S A s.heap s.heap [] := va_S.rf
  have hl := lv_entry ([.ref xl, .int (nI k), .int 1]) (n := 4) (Nat.le_of_ble_eq_true rfl)
  rw [lg_entry_eq]
  generalize (lg_sl ([.ref xl, .int (nI k), .int 1]) ++ List.replicate (4 - (lg_sl ([.ref xl, .int (nI k), .int 1])).length) Slot.unset).toArray = ls at hl ⊢
  have hl : lv_has ls 4 [(0, .ref xl), (1, .int (nI k)), (2, .int 1)] := hl
  have hP : va_P (dC, dI) vwCl [(xl, .inr (0, [.ref xn, .ref xm])), (xn, .inl (cL, 64, .inr (.inl u))), (xm, .inl (cL, 64, .inr (.inl g)))] s.heap := hP
  refine lv_iconst (v := 0) hx hb dX0_gather_0 (by decide) ?_
  refine lv_istore_n (lv' := [(3, .int 0), (0, .ref xl), (1, .int (nI k)), (2, .int 1)]) hx hb dX0_gather_1 rfl hl (by decide) rfl (fun ls hl => ?_)
  refine ax_loop (σ := Nat × (Nat → Int64)) (fun z9 H locs ls => (z9.1 ≤ 8) ∧ (z9.2 = gthR k 1 u g z9.1) ∧ lv_has ls 4 [(3, .int (nI z9.1)), (0, .ref xl), (1, .int (nI k)), (2, .int 1)] ∧ va_P (dC, dI) vwCl [(xl, .inr (0, [.ref xn, .ref xm])), (xn, .inl (cL, 64, .inr (.inl u))), (xm, .inl (cL, 64, .inr (.inl z9.2)))] H ∧ va_D A [(xl, .inr (0, [.ref xn, .ref xm])), (xn, .inl (cL, 64, .inr (.inl u))), (xm, .inl (cL, 64, .inr (.inl z9.2)))] ∧ va_S A s.heap H locs) (fun z9 => 8 - z9.1) (fun z9 H locs ls hI ih => ?_) (0, g) ⟨by omega, rfl, hl, hP, hD, hS⟩
  obtain ⟨j, g1⟩ := z9
  obtain ⟨hj1, hg, hl, hP, hD, hS⟩ := hI
  have hj1 : j ≤ 8 := hj1
  have hg : g1 = gthR k 1 u g j := hg
  have hl : lv_has ls 4 [(3, .int (nI j)), (0, .ref xl), (1, .int (nI k)), (2, .int 1)] := hl
  have hP : va_P (dC, dI) vwCl [(xl, .inr (0, [.ref xn, .ref xm])), (xn, .inl (cL, 64, .inr (.inl u))), (xm, .inl (cL, 64, .inr (.inl g1)))] H := hP
  have hD : va_D A [(xl, .inr (0, [.ref xn, .ref xm])), (xn, .inl (cL, 64, .inr (.inl u))), (xm, .inl (cL, 64, .inr (.inl g1)))] := hD
  have ih_1 := ih; clear ih
  refine lv_iload_n hx hb dX0_gather_2 rfl (lv_at hl 0 rfl) ?_
  refine lv_bipush (v := 8) hx hb dX0_gather_3 (by decide) ?_
  refine lv_icmp_ge (tgt := 50) hx hb dX0_gather_5 (by decide) (fun c_2 => ?_) (fun c_2 => ?_)
  · have c_2 : ¬ j < 8 := ax_fgeTN (by omega) (by omega) c_2
    refine W.widen (k := 0) (n := 0) (Nat.le_of_ble_eq_true rfl) (Nat.le_of_ble_eq_true rfl) ?_
    have hP9 := hP.sub (ws' := [(xl, .inr (0, [.ref xn, .ref xm])), (xn, .inl (cL, 64, .inr (.inl u))), (xm, .inl (cL, 64, .inr (.inl g1)))]) [0, 1, 2] rfl
    have hD9 := hD.sub (ws' := [(xl, .inr (0, [.ref xn, .ref xm])), (xn, .inl (cL, 64, .inr (.inl u))), (xm, .inl (cL, 64, .inr (.inl g1)))]) [0, 1, 2] (by decide) rfl
    have hK9 := hK.sub (tys' := [(cL, .long)]) [0] rfl
    have e9 : g1 = gthR k 1 u g 8 := by rw [hg, show j = 8 by omega]
    rw [e9] at hP9 hD9
    exact W.vret hx hb hr (fun t8 ht hW => ⟨⟨(), rfl, trivial, by rw [ht]; exact hP9, va_K.moved hW.alike hK9, hD9⟩, hS.F ht⟩) hS.2.2 dX0_gather_50
  · have c_2 : j < 8 := ax_fgeFN (by omega) (by omega) c_2
    refine lv_aload_n hx hb dX0_gather_8 rfl (lv_at hl 1 rfl) ?_
    refine lv_iload_n hx hb dX0_gather_9 rfl (lv_at hl 0 rfl) ?_
    refine va_calli (va_runS (As := [.int (nI j)]) (rest := [.ref xl]) ⟨hx, hb, hml, hown, hts⟩ (c_X0_startOfX l j (by omega)) (va_cwS 1 hts gX0_gather_X0_startOfX rfl rfl rfl (by decide +kernel) ⟨Nat.le_of_ble_eq_true rfl, Nat.le_of_ble_eq_true rfl⟩) ⟨ax_fbP, ax_prP⟩ rfl rfl hl.1 rfl (lv_room (Nat.le_of_ble_eq_true rfl)) dX0_gather_10 ⟨Nat.le_of_ble_eq_true rfl, Nat.le_of_ble_eq_true rfl⟩) hS (fun _ _ h9 => h9.elim) (fun _ h9 => h9.elim) (fun r_3 u_5 t8 H locs ht hvm hw_4 hB hz1 hk1 hS => ?_)
    have hP := ax_keep hP (fun _ h9 => h9) hk1
    have hw_4 : r_3 = (nI (8 * j)) := hw_4
    refine ax_i (y := (nI (8 * j))) hw_4 ?_
    refine lv_iload_n hx hb dX0_gather_13 rfl (lv_at hl 2 rfl) ?_
    refine va_calli (va_runS (As := [.int (nI k)]) (rest := [.int (nI (8 * j)), .ref xl]) ⟨hx, hb, hml, hown, hts⟩ (c_X0_startOfX l k (by omega)) (va_cwS 1 hts gX0_gather_X0_startOfX rfl rfl rfl (by decide +kernel) ⟨Nat.le_of_ble_eq_true rfl, Nat.le_of_ble_eq_true rfl⟩) ⟨ax_fbP, ax_prP⟩ rfl rfl hl.1 rfl (lv_room (Nat.le_of_ble_eq_true rfl)) dX0_gather_14 ⟨Nat.le_of_ble_eq_true rfl, Nat.le_of_ble_eq_true rfl⟩) hS (fun _ _ h9 => h9.elim) (fun _ h9 => h9.elim) (fun r_6 u_8 t8 H locs ht hvm hw_7 hB hz1 hk1 hS => ?_)
    have hP := ax_keep hP (fun _ h9 => h9) hk1
    have hw_7 : r_6 = (nI (8 * k)) := hw_7
    refine ax_i (y := (nI (8 * k))) hw_7 ?_
    refine lv_iload_n hx hb dX0_gather_17 rfl (lv_at hl 3 rfl) ?_
    refine lv_iload_n hx hb dX0_gather_18 rfl (lv_at hl 0 rfl) ?_
    refine lv_imul hx hb dX0_gather_19 ?_
    refine ax_i (y := (nI (1 * j))) (pk_mul 1 j) ?_
    refine lv_iload_n hx hb dX0_gather_20 rfl (lv_at hl 2 rfl) ?_
    refine lv_imul hx hb dX0_gather_21 ?_
    refine ax_i (y := (nI ((1 * j) * k))) (pk_mul (1 * j) k) ?_
    refine lv_iconst (v := 1) hx hb dX0_gather_22 (by decide) ?_
    have hPc := hP.sub (ws' := [(xl, .inr (0, [.ref xn, .ref xm])), (xn, .inl (cL, 64, .inr (.inl u))), (xm, .inl (cL, 64, .inr (.inl g1)))]) [0, 1, 2] rfl
    have hKc := hK.sub (tys' := [(cL, .long)]) [0] rfl
    have hDc := hD.sub (ws' := [(xl, .inr (0, [.ref xn, .ref xm])), (xn, .inl (cL, 64, .inr (.inl u))), (xm, .inl (cL, 64, .inr (.inl g1)))]) [0, 1, 2] (by decide) rfl
    have hFc := va_free (wc := [(xl, .inr (0, [.ref xn, .ref xm])), (xn, .inl (cL, 64, .inr (.inl u))), (xm, .inl (cL, 64, .inr (.inl g1)))]) hD hS hA [0, 1, 2] rfl
    refine va_callv (va_runV (As := [.int (nI (8 * j)), .int (nI (8 * k)), .int (nI ((1 * j) * k)), .int 1]) (rest := []) ⟨hx, hb, hml, hown, hts⟩ (c_X0_add l dC dI xl xn xm cL ta H.size u g1 (8 * j) (8 * k) (nI ((1 * j) * k)) 1 (((1 * j) * k) % 8) (by omega) (by omega) (pk_andN (by have := ax_jk (j := j) (k := k) (by omega) (by omega); omega) 3 rfl) (by omega)) (cwV 4 hts gX0_gather_X0_add rfl rfl rfl (by decide +kernel) ⟨Nat.le_of_ble_eq_true rfl, Nat.le_of_ble_eq_true rfl⟩) ⟨ax_fbW, va_recv hK hP (ci := 0) (q0 := 0) rfl rfl, ax_prW hPc hKc hDc hS hFc hE⟩ rfl rfl hl.1 rfl (lv_room (Nat.le_of_ble_eq_true rfl)) dX0_gather_23 ⟨Nat.le_of_ble_eq_true rfl, Nat.le_of_ble_eq_true rfl⟩) hS (fun q _ h9 => hFc q h9) hFc (fun u_11 t8 H locs ht hvm hw_10 hB hz1 hk1 hS => ?_)
    obtain ⟨hP1, hK1, hD1⟩ := hB
    rw [ht] at hP1
    have hK1 := va_K.moved hvm.symm hK1
    obtain ⟨hP, hD⟩ := va_join (wr := []) (w1 := [(xl, .inr (0, [.ref xn, .ref xm])), (xn, .inl (cL, 64, .inr (.inl u))), (xm, .inl (cL, 64, .inr (.inl (ad (8 * j) (8 * k) (((1 * j) * k) % 8) 1 u g1))))]) hP hD [0, 1, 2] [] rfl rfl (by decide) (by decide) hk1 hFc hP1 hD1
    have hP : va_P (dC, dI) vwCl [(xl, .inr (0, [.ref xn, .ref xm])), (xn, .inl (cL, 64, .inr (.inl u))), (xm, .inl (cL, 64, .inr (.inl (ad (8 * j) (8 * k) (((1 * j) * k) % 8) 1 u g1))))] H := hP
    have hD : va_D A [(xl, .inr (0, [.ref xn, .ref xm])), (xn, .inl (cL, 64, .inr (.inl u))), (xm, .inl (cL, 64, .inr (.inl (ad (8 * j) (8 * k) (((1 * j) * k) % 8) 1 u g1))))] := hD
    refine lv_aload_n hx hb dX0_gather_26 rfl (lv_at hl 1 rfl) ?_
    refine lv_iload_n hx hb dX0_gather_27 rfl (lv_at hl 0 rfl) ?_
    refine va_calli (va_runS (As := [.int (nI j)]) (rest := [.ref xl]) ⟨hx, hb, hml, hown, hts⟩ (c_X0_startOfY l j (by omega)) (va_cwS 1 hts gX0_gather_X0_startOfY rfl rfl rfl (by decide +kernel) ⟨Nat.le_of_ble_eq_true rfl, Nat.le_of_ble_eq_true rfl⟩) ⟨ax_fbP, ax_prP⟩ rfl rfl hl.1 rfl (lv_room (Nat.le_of_ble_eq_true rfl)) dX0_gather_28 ⟨Nat.le_of_ble_eq_true rfl, Nat.le_of_ble_eq_true rfl⟩) hS (fun _ _ h9 => h9.elim) (fun _ h9 => h9.elim) (fun r_13 u_15 t8 H locs ht hvm hw_14 hB hz1 hk1 hS => ?_)
    have hP := ax_keep hP (fun _ h9 => h9) hk1
    have hw_14 : r_13 = (nI (8 * j + 4)) := hw_14
    refine ax_i (y := (nI (8 * j + 4))) hw_14 ?_
    refine lv_iload_n hx hb dX0_gather_31 rfl (lv_at hl 2 rfl) ?_
    refine va_calli (va_runS (As := [.int (nI k)]) (rest := [.int (nI (8 * j + 4)), .ref xl]) ⟨hx, hb, hml, hown, hts⟩ (c_X0_startOfY l k (by omega)) (va_cwS 1 hts gX0_gather_X0_startOfY rfl rfl rfl (by decide +kernel) ⟨Nat.le_of_ble_eq_true rfl, Nat.le_of_ble_eq_true rfl⟩) ⟨ax_fbP, ax_prP⟩ rfl rfl hl.1 rfl (lv_room (Nat.le_of_ble_eq_true rfl)) dX0_gather_32 ⟨Nat.le_of_ble_eq_true rfl, Nat.le_of_ble_eq_true rfl⟩) hS (fun _ _ h9 => h9.elim) (fun _ h9 => h9.elim) (fun r_16 u_18 t8 H locs ht hvm hw_17 hB hz1 hk1 hS => ?_)
    have hP := ax_keep hP (fun _ h9 => h9) hk1
    have hw_17 : r_16 = (nI (8 * k + 4)) := hw_17
    refine ax_i (y := (nI (8 * k + 4))) hw_17 ?_
    refine lv_iload_n hx hb dX0_gather_35 rfl (lv_at hl 3 rfl) ?_
    refine lv_iload_n hx hb dX0_gather_36 rfl (lv_at hl 0 rfl) ?_
    refine lv_imul hx hb dX0_gather_37 ?_
    refine ax_i (y := (nI (1 * j))) (pk_mul 1 j) ?_
    refine lv_iload_n hx hb dX0_gather_38 rfl (lv_at hl 2 rfl) ?_
    refine lv_imul hx hb dX0_gather_39 ?_
    refine ax_i (y := (nI ((1 * j) * k))) (pk_mul (1 * j) k) ?_
    refine lv_iconst (v := 1) hx hb dX0_gather_40 (by decide) ?_
    have hPc := hP.sub (ws' := [(xl, .inr (0, [.ref xn, .ref xm])), (xn, .inl (cL, 64, .inr (.inl u))), (xm, .inl (cL, 64, .inr (.inl (ad (8 * j) (8 * k) (((1 * j) * k) % 8) 1 u g1))))]) [0, 1, 2] rfl
    have hKc := hK.sub (tys' := [(cL, .long)]) [0] rfl
    have hDc := hD.sub (ws' := [(xl, .inr (0, [.ref xn, .ref xm])), (xn, .inl (cL, 64, .inr (.inl u))), (xm, .inl (cL, 64, .inr (.inl (ad (8 * j) (8 * k) (((1 * j) * k) % 8) 1 u g1))))]) [0, 1, 2] (by decide) rfl
    have hFc := va_free (wc := [(xl, .inr (0, [.ref xn, .ref xm])), (xn, .inl (cL, 64, .inr (.inl u))), (xm, .inl (cL, 64, .inr (.inl (ad (8 * j) (8 * k) (((1 * j) * k) % 8) 1 u g1))))]) hD hS hA [0, 1, 2] rfl
    refine va_callv (va_runV (As := [.int (nI (8 * j + 4)), .int (nI (8 * k + 4)), .int (nI ((1 * j) * k)), .int 1]) (rest := []) ⟨hx, hb, hml, hown, hts⟩ (c_X0_add l dC dI xl xn xm cL ta H.size u (ad (8 * j) (8 * k) (((1 * j) * k) % 8) 1 u g1) (8 * j + 4) (8 * k + 4) (nI ((1 * j) * k)) 1 (((1 * j) * k) % 8) (by omega) (by omega) (pk_andN (by have := ax_jk (j := j) (k := k) (by omega) (by omega); omega) 3 rfl) (by omega)) (cwV 4 hts gX0_gather_X0_add rfl rfl rfl (by decide +kernel) ⟨Nat.le_of_ble_eq_true rfl, Nat.le_of_ble_eq_true rfl⟩) ⟨ax_fbW, va_recv hK hP (ci := 0) (q0 := 0) rfl rfl, ax_prW hPc hKc hDc hS hFc hE⟩ rfl rfl hl.1 rfl (lv_room (Nat.le_of_ble_eq_true rfl)) dX0_gather_41 ⟨Nat.le_of_ble_eq_true rfl, Nat.le_of_ble_eq_true rfl⟩) hS (fun q _ h9 => hFc q h9) hFc (fun u_21 t8 H locs ht hvm hw_20 hB hz1 hk1 hS => ?_)
    obtain ⟨hP1, hK1, hD1⟩ := hB
    rw [ht] at hP1
    have hK1 := va_K.moved hvm.symm hK1
    obtain ⟨hP, hD⟩ := va_join (wr := []) (w1 := [(xl, .inr (0, [.ref xn, .ref xm])), (xn, .inl (cL, 64, .inr (.inl u))), (xm, .inl (cL, 64, .inr (.inl (ad (8 * j + 4) (8 * k + 4) (((1 * j) * k) % 8) 1 u (ad (8 * j) (8 * k) (((1 * j) * k) % 8) 1 u g1)))))]) hP hD [0, 1, 2] [] rfl rfl (by decide) (by decide) hk1 hFc hP1 hD1
    have hP : va_P (dC, dI) vwCl [(xl, .inr (0, [.ref xn, .ref xm])), (xn, .inl (cL, 64, .inr (.inl u))), (xm, .inl (cL, 64, .inr (.inl (ad (8 * j + 4) (8 * k + 4) (((1 * j) * k) % 8) 1 u (ad (8 * j) (8 * k) (((1 * j) * k) % 8) 1 u g1)))))] H := hP
    have hD : va_D A [(xl, .inr (0, [.ref xn, .ref xm])), (xn, .inl (cL, 64, .inr (.inl u))), (xm, .inl (cL, 64, .inr (.inl (ad (8 * j + 4) (8 * k + 4) (((1 * j) * k) % 8) 1 u (ad (8 * j) (8 * k) (((1 * j) * k) % 8) 1 u g1)))))] := hD
    refine lv_iinc (v := (nI (j + 1))) (lv' := [(3, .int (nI (j + 1))), (0, .ref xl), (1, .int (nI k)), (2, .int 1)]) hx hb dX0_gather_44 hl (k := 0) rfl (nI_succ _).symm (by decide) rfl (fun ls hl => ?_)
    refine lv_goto (tgt := 2) hx hb dX0_gather_47 (by decide) ?_
    exact ih_1 (j + 1, (ad (8 * j + 4) (8 * k + 4) (((1 * j) * k) % 8) 1 u (ad (8 * j) (8 * k) (((1 * j) * k) % 8) 1 u g1))) H locs ls ⟨by omega, by rw [hg]; rfl, hl, hP, hD, hS⟩ (show 8 - (j + 1) < 8 - j by omega)

set_option maxHeartbeats 4000000 in
set_option maxRecDepth 100000 in
theorem c_X0_gather_7 (l : Launch) (dC : Nat → ClassId) (dI : Nat → Nat → Nat) (xl xn xm : Nat) (cL : ClassId) (ta : Nat → Nat) (sz : Nat) (u : Nat → Int64) (g : Nat → Int64) (k : Nat) (hk8 : k < 8) : Met l yX0_gather wsX0_gather ({ frames := 1, cells := 0, slots := 0, locals := 29 }) (va_Pc [.ref xl, .int (nI k), .int 7] (ax_W (dC, dI) vwCl [(xl, .inr (0, [.ref xn, .ref xm])), (xn, .inl (cL, 64, .inr (.inl u))), (xm, .inl (cL, 64, .inr (.inl g)))] [(cL, .long)] ta sz)) (va_Qv (fun (u9 : Unit) => True) (fun (u9 : Unit) (t9 : State) => va_P (dC, dI) vwCl [(xl, .inr (0, [.ref xn, .ref xm])), (xn, .inl (cL, 64, .inr (.inl u))), (xm, .inl (cL, 64, .inr (.inl (gthR k 7 u g 8))))] t9.heap ∧ va_K (dC, dI) vwCl [(cL, .long)] t9 ∧ va_D (va_A [(xl, .inr (0, [.ref xn, .ref xm])), (xn, .inl (cL, 64, .inr (.inl u))), (xm, .inl (cL, 64, .inr (.inl g)))] sz) [(xl, .inr (0, [.ref xn, .ref xm])), (xn, .inl (cL, 64, .inr (.inl u))), (xm, .inl (cL, 64, .inr (.inl (gthR k 7 u g 8))))]) (va_A [(xl, .inr (0, [.ref xn, .ref xm])), (xn, .inl (cL, 64, .inr (.inl u))), (xm, .inl (cL, 64, .inr (.inl g)))] sz)) 0 0 (va_A [(xl, .inr (0, [.ref xn, .ref xm])), (xn, .inl (cL, 64, .inr (.inl u))), (xm, .inl (cL, 64, .inr (.inl g)))] sz) := by
  refine Met.ofW (cc := cX0_gather) (maxL := 4) (ret := none) (by decide) rfl ?_
  intro p e s m args below meth c s₁ B hml hv
  obtain ⟨rfl, hsz, hP, hK, hD0, hE⟩ := hv
  have hx := B.exec
  have hb := B.bytes
  have hr := B.returns
  have hts := atoms_spec (ws := wsX0_gather) B.pre
  have hown : s.vm.findClass RX0 = some m.cls := findClass_of_methodNamed B.named
  have hlocks := B.notSynchronized
  subst hsz
  have hD := hD0.self (sz := s.heap.size)
  generalize hAe : va_A [(xl, .inr (0, [.ref xn, .ref xm])), (xn, .inl (cL, 64, .inr (.inl u))), (xm, .inl (cL, 64, .inr (.inl g)))] s.heap.size = A at hD hE ⊢
  have hA : ∀ q : Nat, s.heap.size ≤ q → A q := fun q h => by rw [← hAe]; exact Or.inr h
  have hS : va_S A s.heap s.heap [] := va_S.rf
  have hl := lv_entry ([.ref xl, .int (nI k), .int 7]) (n := 4) (Nat.le_of_ble_eq_true rfl)
  rw [lg_entry_eq]
  generalize (lg_sl ([.ref xl, .int (nI k), .int 7]) ++ List.replicate (4 - (lg_sl ([.ref xl, .int (nI k), .int 7])).length) Slot.unset).toArray = ls at hl ⊢
  have hl : lv_has ls 4 [(0, .ref xl), (1, .int (nI k)), (2, .int 7)] := hl
  have hP : va_P (dC, dI) vwCl [(xl, .inr (0, [.ref xn, .ref xm])), (xn, .inl (cL, 64, .inr (.inl u))), (xm, .inl (cL, 64, .inr (.inl g)))] s.heap := hP
  refine lv_iconst (v := 0) hx hb dX0_gather_0 (by decide) ?_
  refine lv_istore_n (lv' := [(3, .int 0), (0, .ref xl), (1, .int (nI k)), (2, .int 7)]) hx hb dX0_gather_1 rfl hl (by decide) rfl (fun ls hl => ?_)
  refine ax_loop (σ := Nat × (Nat → Int64)) (fun z9 H locs ls => (z9.1 ≤ 8) ∧ (z9.2 = gthR k 7 u g z9.1) ∧ lv_has ls 4 [(3, .int (nI z9.1)), (0, .ref xl), (1, .int (nI k)), (2, .int 7)] ∧ va_P (dC, dI) vwCl [(xl, .inr (0, [.ref xn, .ref xm])), (xn, .inl (cL, 64, .inr (.inl u))), (xm, .inl (cL, 64, .inr (.inl z9.2)))] H ∧ va_D A [(xl, .inr (0, [.ref xn, .ref xm])), (xn, .inl (cL, 64, .inr (.inl u))), (xm, .inl (cL, 64, .inr (.inl z9.2)))] ∧ va_S A s.heap H locs) (fun z9 => 8 - z9.1) (fun z9 H locs ls hI ih => ?_) (0, g) ⟨by omega, rfl, hl, hP, hD, hS⟩
  obtain ⟨j, g1⟩ := z9
  obtain ⟨hj1, hg, hl, hP, hD, hS⟩ := hI
  have hj1 : j ≤ 8 := hj1
  have hg : g1 = gthR k 7 u g j := hg
  have hl : lv_has ls 4 [(3, .int (nI j)), (0, .ref xl), (1, .int (nI k)), (2, .int 7)] := hl
  have hP : va_P (dC, dI) vwCl [(xl, .inr (0, [.ref xn, .ref xm])), (xn, .inl (cL, 64, .inr (.inl u))), (xm, .inl (cL, 64, .inr (.inl g1)))] H := hP
  have hD : va_D A [(xl, .inr (0, [.ref xn, .ref xm])), (xn, .inl (cL, 64, .inr (.inl u))), (xm, .inl (cL, 64, .inr (.inl g1)))] := hD
  have ih_1 := ih; clear ih
  refine lv_iload_n hx hb dX0_gather_2 rfl (lv_at hl 0 rfl) ?_
  refine lv_bipush (v := 8) hx hb dX0_gather_3 (by decide) ?_
  refine lv_icmp_ge (tgt := 50) hx hb dX0_gather_5 (by decide) (fun c_2 => ?_) (fun c_2 => ?_)
  · have c_2 : ¬ j < 8 := ax_fgeTN (by omega) (by omega) c_2
    refine W.widen (k := 0) (n := 0) (Nat.le_of_ble_eq_true rfl) (Nat.le_of_ble_eq_true rfl) ?_
    have hP9 := hP.sub (ws' := [(xl, .inr (0, [.ref xn, .ref xm])), (xn, .inl (cL, 64, .inr (.inl u))), (xm, .inl (cL, 64, .inr (.inl g1)))]) [0, 1, 2] rfl
    have hD9 := hD.sub (ws' := [(xl, .inr (0, [.ref xn, .ref xm])), (xn, .inl (cL, 64, .inr (.inl u))), (xm, .inl (cL, 64, .inr (.inl g1)))]) [0, 1, 2] (by decide) rfl
    have hK9 := hK.sub (tys' := [(cL, .long)]) [0] rfl
    have e9 : g1 = gthR k 7 u g 8 := by rw [hg, show j = 8 by omega]
    rw [e9] at hP9 hD9
    exact W.vret hx hb hr (fun t8 ht hW => ⟨⟨(), rfl, trivial, by rw [ht]; exact hP9, va_K.moved hW.alike hK9, hD9⟩, hS.F ht⟩) hS.2.2 dX0_gather_50
  · have c_2 : j < 8 := ax_fgeFN (by omega) (by omega) c_2
    refine lv_aload_n hx hb dX0_gather_8 rfl (lv_at hl 1 rfl) ?_
    refine lv_iload_n hx hb dX0_gather_9 rfl (lv_at hl 0 rfl) ?_
    refine va_calli (va_runS (As := [.int (nI j)]) (rest := [.ref xl]) ⟨hx, hb, hml, hown, hts⟩ (c_X0_startOfX l j (by omega)) (va_cwS 1 hts gX0_gather_X0_startOfX rfl rfl rfl (by decide +kernel) ⟨Nat.le_of_ble_eq_true rfl, Nat.le_of_ble_eq_true rfl⟩) ⟨ax_fbP, ax_prP⟩ rfl rfl hl.1 rfl (lv_room (Nat.le_of_ble_eq_true rfl)) dX0_gather_10 ⟨Nat.le_of_ble_eq_true rfl, Nat.le_of_ble_eq_true rfl⟩) hS (fun _ _ h9 => h9.elim) (fun _ h9 => h9.elim) (fun r_3 u_5 t8 H locs ht hvm hw_4 hB hz1 hk1 hS => ?_)
    have hP := ax_keep hP (fun _ h9 => h9) hk1
    have hw_4 : r_3 = (nI (8 * j)) := hw_4
    refine ax_i (y := (nI (8 * j))) hw_4 ?_
    refine lv_iload_n hx hb dX0_gather_13 rfl (lv_at hl 2 rfl) ?_
    refine va_calli (va_runS (As := [.int (nI k)]) (rest := [.int (nI (8 * j)), .ref xl]) ⟨hx, hb, hml, hown, hts⟩ (c_X0_startOfX l k (by omega)) (va_cwS 1 hts gX0_gather_X0_startOfX rfl rfl rfl (by decide +kernel) ⟨Nat.le_of_ble_eq_true rfl, Nat.le_of_ble_eq_true rfl⟩) ⟨ax_fbP, ax_prP⟩ rfl rfl hl.1 rfl (lv_room (Nat.le_of_ble_eq_true rfl)) dX0_gather_14 ⟨Nat.le_of_ble_eq_true rfl, Nat.le_of_ble_eq_true rfl⟩) hS (fun _ _ h9 => h9.elim) (fun _ h9 => h9.elim) (fun r_6 u_8 t8 H locs ht hvm hw_7 hB hz1 hk1 hS => ?_)
    have hP := ax_keep hP (fun _ h9 => h9) hk1
    have hw_7 : r_6 = (nI (8 * k)) := hw_7
    refine ax_i (y := (nI (8 * k))) hw_7 ?_
    refine lv_iload_n hx hb dX0_gather_17 rfl (lv_at hl 3 rfl) ?_
    refine lv_iload_n hx hb dX0_gather_18 rfl (lv_at hl 0 rfl) ?_
    refine lv_imul hx hb dX0_gather_19 ?_
    refine ax_i (y := (nI (7 * j))) (pk_mul 7 j) ?_
    refine lv_iload_n hx hb dX0_gather_20 rfl (lv_at hl 2 rfl) ?_
    refine lv_imul hx hb dX0_gather_21 ?_
    refine ax_i (y := (nI ((7 * j) * k))) (pk_mul (7 * j) k) ?_
    refine lv_iconst (v := 1) hx hb dX0_gather_22 (by decide) ?_
    have hPc := hP.sub (ws' := [(xl, .inr (0, [.ref xn, .ref xm])), (xn, .inl (cL, 64, .inr (.inl u))), (xm, .inl (cL, 64, .inr (.inl g1)))]) [0, 1, 2] rfl
    have hKc := hK.sub (tys' := [(cL, .long)]) [0] rfl
    have hDc := hD.sub (ws' := [(xl, .inr (0, [.ref xn, .ref xm])), (xn, .inl (cL, 64, .inr (.inl u))), (xm, .inl (cL, 64, .inr (.inl g1)))]) [0, 1, 2] (by decide) rfl
    have hFc := va_free (wc := [(xl, .inr (0, [.ref xn, .ref xm])), (xn, .inl (cL, 64, .inr (.inl u))), (xm, .inl (cL, 64, .inr (.inl g1)))]) hD hS hA [0, 1, 2] rfl
    refine va_callv (va_runV (As := [.int (nI (8 * j)), .int (nI (8 * k)), .int (nI ((7 * j) * k)), .int 1]) (rest := []) ⟨hx, hb, hml, hown, hts⟩ (c_X0_add l dC dI xl xn xm cL ta H.size u g1 (8 * j) (8 * k) (nI ((7 * j) * k)) 1 (((7 * j) * k) % 8) (by omega) (by omega) (pk_andN (by have := ax_jk (j := j) (k := k) (by omega) (by omega); omega) 3 rfl) (by omega)) (cwV 4 hts gX0_gather_X0_add rfl rfl rfl (by decide +kernel) ⟨Nat.le_of_ble_eq_true rfl, Nat.le_of_ble_eq_true rfl⟩) ⟨ax_fbW, va_recv hK hP (ci := 0) (q0 := 0) rfl rfl, ax_prW hPc hKc hDc hS hFc hE⟩ rfl rfl hl.1 rfl (lv_room (Nat.le_of_ble_eq_true rfl)) dX0_gather_23 ⟨Nat.le_of_ble_eq_true rfl, Nat.le_of_ble_eq_true rfl⟩) hS (fun q _ h9 => hFc q h9) hFc (fun u_11 t8 H locs ht hvm hw_10 hB hz1 hk1 hS => ?_)
    obtain ⟨hP1, hK1, hD1⟩ := hB
    rw [ht] at hP1
    have hK1 := va_K.moved hvm.symm hK1
    obtain ⟨hP, hD⟩ := va_join (wr := []) (w1 := [(xl, .inr (0, [.ref xn, .ref xm])), (xn, .inl (cL, 64, .inr (.inl u))), (xm, .inl (cL, 64, .inr (.inl (ad (8 * j) (8 * k) (((7 * j) * k) % 8) 1 u g1))))]) hP hD [0, 1, 2] [] rfl rfl (by decide) (by decide) hk1 hFc hP1 hD1
    have hP : va_P (dC, dI) vwCl [(xl, .inr (0, [.ref xn, .ref xm])), (xn, .inl (cL, 64, .inr (.inl u))), (xm, .inl (cL, 64, .inr (.inl (ad (8 * j) (8 * k) (((7 * j) * k) % 8) 1 u g1))))] H := hP
    have hD : va_D A [(xl, .inr (0, [.ref xn, .ref xm])), (xn, .inl (cL, 64, .inr (.inl u))), (xm, .inl (cL, 64, .inr (.inl (ad (8 * j) (8 * k) (((7 * j) * k) % 8) 1 u g1))))] := hD
    refine lv_aload_n hx hb dX0_gather_26 rfl (lv_at hl 1 rfl) ?_
    refine lv_iload_n hx hb dX0_gather_27 rfl (lv_at hl 0 rfl) ?_
    refine va_calli (va_runS (As := [.int (nI j)]) (rest := [.ref xl]) ⟨hx, hb, hml, hown, hts⟩ (c_X0_startOfY l j (by omega)) (va_cwS 1 hts gX0_gather_X0_startOfY rfl rfl rfl (by decide +kernel) ⟨Nat.le_of_ble_eq_true rfl, Nat.le_of_ble_eq_true rfl⟩) ⟨ax_fbP, ax_prP⟩ rfl rfl hl.1 rfl (lv_room (Nat.le_of_ble_eq_true rfl)) dX0_gather_28 ⟨Nat.le_of_ble_eq_true rfl, Nat.le_of_ble_eq_true rfl⟩) hS (fun _ _ h9 => h9.elim) (fun _ h9 => h9.elim) (fun r_13 u_15 t8 H locs ht hvm hw_14 hB hz1 hk1 hS => ?_)
    have hP := ax_keep hP (fun _ h9 => h9) hk1
    have hw_14 : r_13 = (nI (8 * j + 4)) := hw_14
    refine ax_i (y := (nI (8 * j + 4))) hw_14 ?_
    refine lv_iload_n hx hb dX0_gather_31 rfl (lv_at hl 2 rfl) ?_
    refine va_calli (va_runS (As := [.int (nI k)]) (rest := [.int (nI (8 * j + 4)), .ref xl]) ⟨hx, hb, hml, hown, hts⟩ (c_X0_startOfY l k (by omega)) (va_cwS 1 hts gX0_gather_X0_startOfY rfl rfl rfl (by decide +kernel) ⟨Nat.le_of_ble_eq_true rfl, Nat.le_of_ble_eq_true rfl⟩) ⟨ax_fbP, ax_prP⟩ rfl rfl hl.1 rfl (lv_room (Nat.le_of_ble_eq_true rfl)) dX0_gather_32 ⟨Nat.le_of_ble_eq_true rfl, Nat.le_of_ble_eq_true rfl⟩) hS (fun _ _ h9 => h9.elim) (fun _ h9 => h9.elim) (fun r_16 u_18 t8 H locs ht hvm hw_17 hB hz1 hk1 hS => ?_)
    have hP := ax_keep hP (fun _ h9 => h9) hk1
    have hw_17 : r_16 = (nI (8 * k + 4)) := hw_17
    refine ax_i (y := (nI (8 * k + 4))) hw_17 ?_
    refine lv_iload_n hx hb dX0_gather_35 rfl (lv_at hl 3 rfl) ?_
    refine lv_iload_n hx hb dX0_gather_36 rfl (lv_at hl 0 rfl) ?_
    refine lv_imul hx hb dX0_gather_37 ?_
    refine ax_i (y := (nI (7 * j))) (pk_mul 7 j) ?_
    refine lv_iload_n hx hb dX0_gather_38 rfl (lv_at hl 2 rfl) ?_
    refine lv_imul hx hb dX0_gather_39 ?_
    refine ax_i (y := (nI ((7 * j) * k))) (pk_mul (7 * j) k) ?_
    refine lv_iconst (v := 1) hx hb dX0_gather_40 (by decide) ?_
    have hPc := hP.sub (ws' := [(xl, .inr (0, [.ref xn, .ref xm])), (xn, .inl (cL, 64, .inr (.inl u))), (xm, .inl (cL, 64, .inr (.inl (ad (8 * j) (8 * k) (((7 * j) * k) % 8) 1 u g1))))]) [0, 1, 2] rfl
    have hKc := hK.sub (tys' := [(cL, .long)]) [0] rfl
    have hDc := hD.sub (ws' := [(xl, .inr (0, [.ref xn, .ref xm])), (xn, .inl (cL, 64, .inr (.inl u))), (xm, .inl (cL, 64, .inr (.inl (ad (8 * j) (8 * k) (((7 * j) * k) % 8) 1 u g1))))]) [0, 1, 2] (by decide) rfl
    have hFc := va_free (wc := [(xl, .inr (0, [.ref xn, .ref xm])), (xn, .inl (cL, 64, .inr (.inl u))), (xm, .inl (cL, 64, .inr (.inl (ad (8 * j) (8 * k) (((7 * j) * k) % 8) 1 u g1))))]) hD hS hA [0, 1, 2] rfl
    refine va_callv (va_runV (As := [.int (nI (8 * j + 4)), .int (nI (8 * k + 4)), .int (nI ((7 * j) * k)), .int 1]) (rest := []) ⟨hx, hb, hml, hown, hts⟩ (c_X0_add l dC dI xl xn xm cL ta H.size u (ad (8 * j) (8 * k) (((7 * j) * k) % 8) 1 u g1) (8 * j + 4) (8 * k + 4) (nI ((7 * j) * k)) 1 (((7 * j) * k) % 8) (by omega) (by omega) (pk_andN (by have := ax_jk (j := j) (k := k) (by omega) (by omega); omega) 3 rfl) (by omega)) (cwV 4 hts gX0_gather_X0_add rfl rfl rfl (by decide +kernel) ⟨Nat.le_of_ble_eq_true rfl, Nat.le_of_ble_eq_true rfl⟩) ⟨ax_fbW, va_recv hK hP (ci := 0) (q0 := 0) rfl rfl, ax_prW hPc hKc hDc hS hFc hE⟩ rfl rfl hl.1 rfl (lv_room (Nat.le_of_ble_eq_true rfl)) dX0_gather_41 ⟨Nat.le_of_ble_eq_true rfl, Nat.le_of_ble_eq_true rfl⟩) hS (fun q _ h9 => hFc q h9) hFc (fun u_21 t8 H locs ht hvm hw_20 hB hz1 hk1 hS => ?_)
    obtain ⟨hP1, hK1, hD1⟩ := hB
    rw [ht] at hP1
    have hK1 := va_K.moved hvm.symm hK1
    obtain ⟨hP, hD⟩ := va_join (wr := []) (w1 := [(xl, .inr (0, [.ref xn, .ref xm])), (xn, .inl (cL, 64, .inr (.inl u))), (xm, .inl (cL, 64, .inr (.inl (ad (8 * j + 4) (8 * k + 4) (((7 * j) * k) % 8) 1 u (ad (8 * j) (8 * k) (((7 * j) * k) % 8) 1 u g1)))))]) hP hD [0, 1, 2] [] rfl rfl (by decide) (by decide) hk1 hFc hP1 hD1
    have hP : va_P (dC, dI) vwCl [(xl, .inr (0, [.ref xn, .ref xm])), (xn, .inl (cL, 64, .inr (.inl u))), (xm, .inl (cL, 64, .inr (.inl (ad (8 * j + 4) (8 * k + 4) (((7 * j) * k) % 8) 1 u (ad (8 * j) (8 * k) (((7 * j) * k) % 8) 1 u g1)))))] H := hP
    have hD : va_D A [(xl, .inr (0, [.ref xn, .ref xm])), (xn, .inl (cL, 64, .inr (.inl u))), (xm, .inl (cL, 64, .inr (.inl (ad (8 * j + 4) (8 * k + 4) (((7 * j) * k) % 8) 1 u (ad (8 * j) (8 * k) (((7 * j) * k) % 8) 1 u g1)))))] := hD
    refine lv_iinc (v := (nI (j + 1))) (lv' := [(3, .int (nI (j + 1))), (0, .ref xl), (1, .int (nI k)), (2, .int 7)]) hx hb dX0_gather_44 hl (k := 0) rfl (nI_succ _).symm (by decide) rfl (fun ls hl => ?_)
    refine lv_goto (tgt := 2) hx hb dX0_gather_47 (by decide) ?_
    exact ih_1 (j + 1, (ad (8 * j + 4) (8 * k + 4) (((7 * j) * k) % 8) 1 u (ad (8 * j) (8 * k) (((7 * j) * k) % 8) 1 u g1))) H locs ls ⟨by omega, by rw [hg]; rfl, hl, hP, hD, hS⟩ (show 8 - (j + 1) < 8 - j by omega)

set_option maxHeartbeats 4000000 in
set_option maxRecDepth 100000 in
theorem c_X0_retard (l : Launch) (dC : Nat → ClassId) (dI : Nat → Nat → Nat) (xl xn xm : Nat) (cL : ClassId) (ta : Nat → Nat) (sz : Nat) (u : Nat → Int64) (g : Nat → Int64) (k : Nat) (tn : Int32) (rr : Nat) (hk8 : k < 8) (h3 : tn &&& 7 = nI rr) (h4 : rr < 8) : Met l yX0_retard wsX0_retard ({ frames := 1, cells := 0, slots := 0, locals := 29 }) (va_Pc [.ref xl, .int (nI k), .int tn] (ax_W (dC, dI) vwCl [(xl, .inr (0, [.ref xn, .ref xm])), (xn, .inl (cL, 64, .inr (.inl u))), (xm, .inl (cL, 64, .inr (.inl g)))] [(cL, .long)] ta sz)) (va_Qv (fun (u9 : Unit) => True) (fun (u9 : Unit) (t9 : State) => va_P (dC, dI) vwCl [(xl, .inr (0, [.ref xn, .ref xm])), (xn, .inl (cL, 64, .inr (.inl u))), (xm, .inl (cL, 64, .inr (.inl (rtd k rr u g))))] t9.heap ∧ va_K (dC, dI) vwCl [(cL, .long)] t9 ∧ va_D (va_A [(xl, .inr (0, [.ref xn, .ref xm])), (xn, .inl (cL, 64, .inr (.inl u))), (xm, .inl (cL, 64, .inr (.inl g)))] sz) [(xl, .inr (0, [.ref xn, .ref xm])), (xn, .inl (cL, 64, .inr (.inl u))), (xm, .inl (cL, 64, .inr (.inl (rtd k rr u g))))]) (va_A [(xl, .inr (0, [.ref xn, .ref xm])), (xn, .inl (cL, 64, .inr (.inl u))), (xm, .inl (cL, 64, .inr (.inl g)))] sz)) 0 0 (va_A [(xl, .inr (0, [.ref xn, .ref xm])), (xn, .inl (cL, 64, .inr (.inl u))), (xm, .inl (cL, 64, .inr (.inl g)))] sz) := by
  refine Met.ofW (cc := cX0_retard) (maxL := 3) (ret := none) (by decide) rfl ?_
  intro p e s m args below meth c s₁ B hml hv
  obtain ⟨rfl, hsz, hP, hK, hD0, hE⟩ := hv
  have hx := B.exec
  have hb := B.bytes
  have hr := B.returns
  have hts := atoms_spec (ws := wsX0_retard) B.pre
  have hown : s.vm.findClass RX0 = some m.cls := findClass_of_methodNamed B.named
  have hlocks := B.notSynchronized
  subst hsz
  have hD := hD0.self (sz := s.heap.size)
  generalize hAe : va_A [(xl, .inr (0, [.ref xn, .ref xm])), (xn, .inl (cL, 64, .inr (.inl u))), (xm, .inl (cL, 64, .inr (.inl g)))] s.heap.size = A at hD hE ⊢
  have hA : ∀ q : Nat, s.heap.size ≤ q → A q := fun q h => by rw [← hAe]; exact Or.inr h
  have hS : va_S A s.heap s.heap [] := va_S.rf
  have hl := lv_entry ([.ref xl, .int (nI k), .int tn]) (n := 3) (Nat.le_of_ble_eq_true rfl)
  rw [lg_entry_eq]
  generalize (lg_sl ([.ref xl, .int (nI k), .int tn]) ++ List.replicate (3 - (lg_sl ([.ref xl, .int (nI k), .int tn])).length) Slot.unset).toArray = ls at hl ⊢
  have hl : lv_has ls 3 [(0, .ref xl), (1, .int (nI k)), (2, .int tn)] := hl
  have hP : va_P (dC, dI) vwCl [(xl, .inr (0, [.ref xn, .ref xm])), (xn, .inl (cL, 64, .inr (.inl u))), (xm, .inl (cL, 64, .inr (.inl g)))] s.heap := hP
  refine lv_aload_n hx hb dX0_retard_0 rfl (lv_at hl 0 rfl) ?_
  refine lv_iload_n hx hb dX0_retard_1 rfl (lv_at hl 1 rfl) ?_
  refine va_calli (va_runS (As := [.int (nI k)]) (rest := [.ref xl]) ⟨hx, hb, hml, hown, hts⟩ (c_X0_startOfX l k (by omega)) (va_cwS 1 hts gX0_retard_X0_startOfX rfl rfl rfl (by decide +kernel) ⟨Nat.le_of_ble_eq_true rfl, Nat.le_of_ble_eq_true rfl⟩) ⟨ax_fbP, ax_prP⟩ rfl rfl hl.1 rfl (lv_room (Nat.le_of_ble_eq_true rfl)) dX0_retard_2 ⟨Nat.le_of_ble_eq_true rfl, Nat.le_of_ble_eq_true rfl⟩) hS (fun _ _ h9 => h9.elim) (fun _ h9 => h9.elim) (fun r_1 u_3 t8 H locs ht hvm hw_2 hB hz1 hk1 hS => ?_)
  have hP := ax_keep hP (fun _ h9 => h9) hk1
  have hw_2 : r_1 = (nI (8 * k)) := hw_2
  refine ax_i (y := (nI (8 * k))) hw_2 ?_
  refine lv_iload_n hx hb dX0_retard_5 rfl (lv_at hl 1 rfl) ?_
  refine va_calli (va_runS (As := [.int (nI k)]) (rest := [.int (nI (8 * k)), .ref xl]) ⟨hx, hb, hml, hown, hts⟩ (c_X0_startOfX l k (by omega)) (va_cwS 1 hts gX0_retard_X0_startOfX rfl rfl rfl (by decide +kernel) ⟨Nat.le_of_ble_eq_true rfl, Nat.le_of_ble_eq_true rfl⟩) ⟨ax_fbP, ax_prP⟩ rfl rfl hl.1 rfl (lv_room (Nat.le_of_ble_eq_true rfl)) dX0_retard_6 ⟨Nat.le_of_ble_eq_true rfl, Nat.le_of_ble_eq_true rfl⟩) hS (fun _ _ h9 => h9.elim) (fun _ h9 => h9.elim) (fun r_4 u_6 t8 H locs ht hvm hw_5 hB hz1 hk1 hS => ?_)
  have hP := ax_keep hP (fun _ h9 => h9) hk1
  have hw_5 : r_4 = (nI (8 * k)) := hw_5
  refine ax_i (y := (nI (8 * k))) hw_5 ?_
  refine lv_iconst (v := 0) hx hb dX0_retard_9 (by decide) ?_
  refine lv_iconst (v := 1) hx hb dX0_retard_10 (by decide) ?_
  have hPc := hP.sub (ws' := [(xl, .inr (0, [.ref xn, .ref xm])), (xn, .inl (cL, 64, .inr (.inl u))), (xm, .inl (cL, 64, .inr (.inl g)))]) [0, 1, 2] rfl
  have hKc := hK.sub (tys' := [(cL, .long)]) [0] rfl
  have hDc := hD.sub (ws' := [(xl, .inr (0, [.ref xn, .ref xm])), (xn, .inl (cL, 64, .inr (.inl u))), (xm, .inl (cL, 64, .inr (.inl g)))]) [0, 1, 2] (by decide) rfl
  have hFc := va_free (wc := [(xl, .inr (0, [.ref xn, .ref xm])), (xn, .inl (cL, 64, .inr (.inl u))), (xm, .inl (cL, 64, .inr (.inl g)))]) hD hS hA [0, 1, 2] rfl
  refine va_callv (va_runV (As := [.int (nI (8 * k)), .int (nI (8 * k)), .int 0, .int 1]) (rest := []) ⟨hx, hb, hml, hown, hts⟩ (c_X0_add l dC dI xl xn xm cL ta H.size u g (8 * k) (8 * k) 0 1 0 (by omega) (by omega) (by decide) (by omega)) (cwV 4 hts gX0_retard_X0_add rfl rfl rfl (by decide +kernel) ⟨Nat.le_of_ble_eq_true rfl, Nat.le_of_ble_eq_true rfl⟩) ⟨ax_fbW, va_recv hK hP (ci := 0) (q0 := 0) rfl rfl, ax_prW hPc hKc hDc hS hFc hE⟩ rfl rfl hl.1 rfl (lv_room (Nat.le_of_ble_eq_true rfl)) dX0_retard_11 ⟨Nat.le_of_ble_eq_true rfl, Nat.le_of_ble_eq_true rfl⟩) hS (fun q _ h9 => hFc q h9) hFc (fun u_9 t8 H locs ht hvm hw_8 hB hz1 hk1 hS => ?_)
  obtain ⟨hP1, hK1, hD1⟩ := hB
  rw [ht] at hP1
  have hK1 := va_K.moved hvm.symm hK1
  obtain ⟨hP, hD⟩ := va_join (wr := []) (w1 := [(xl, .inr (0, [.ref xn, .ref xm])), (xn, .inl (cL, 64, .inr (.inl u))), (xm, .inl (cL, 64, .inr (.inl (ad (8 * k) (8 * k) 0 1 u g))))]) hP hD [0, 1, 2] [] rfl rfl (by decide) (by decide) hk1 hFc hP1 hD1
  have hP : va_P (dC, dI) vwCl [(xl, .inr (0, [.ref xn, .ref xm])), (xn, .inl (cL, 64, .inr (.inl u))), (xm, .inl (cL, 64, .inr (.inl (ad (8 * k) (8 * k) 0 1 u g))))] H := hP
  have hD : va_D A [(xl, .inr (0, [.ref xn, .ref xm])), (xn, .inl (cL, 64, .inr (.inl u))), (xm, .inl (cL, 64, .inr (.inl (ad (8 * k) (8 * k) 0 1 u g))))] := hD
  refine lv_aload_n hx hb dX0_retard_14 rfl (lv_at hl 0 rfl) ?_
  refine lv_iload_n hx hb dX0_retard_15 rfl (lv_at hl 1 rfl) ?_
  refine va_calli (va_runS (As := [.int (nI k)]) (rest := [.ref xl]) ⟨hx, hb, hml, hown, hts⟩ (c_X0_startOfY l k (by omega)) (va_cwS 1 hts gX0_retard_X0_startOfY rfl rfl rfl (by decide +kernel) ⟨Nat.le_of_ble_eq_true rfl, Nat.le_of_ble_eq_true rfl⟩) ⟨ax_fbP, ax_prP⟩ rfl rfl hl.1 rfl (lv_room (Nat.le_of_ble_eq_true rfl)) dX0_retard_16 ⟨Nat.le_of_ble_eq_true rfl, Nat.le_of_ble_eq_true rfl⟩) hS (fun _ _ h9 => h9.elim) (fun _ h9 => h9.elim) (fun r_11 u_13 t8 H locs ht hvm hw_12 hB hz1 hk1 hS => ?_)
  have hP := ax_keep hP (fun _ h9 => h9) hk1
  have hw_12 : r_11 = (nI (8 * k + 4)) := hw_12
  refine ax_i (y := (nI (8 * k + 4))) hw_12 ?_
  refine lv_iload_n hx hb dX0_retard_19 rfl (lv_at hl 1 rfl) ?_
  refine va_calli (va_runS (As := [.int (nI k)]) (rest := [.int (nI (8 * k + 4)), .ref xl]) ⟨hx, hb, hml, hown, hts⟩ (c_X0_startOfY l k (by omega)) (va_cwS 1 hts gX0_retard_X0_startOfY rfl rfl rfl (by decide +kernel) ⟨Nat.le_of_ble_eq_true rfl, Nat.le_of_ble_eq_true rfl⟩) ⟨ax_fbP, ax_prP⟩ rfl rfl hl.1 rfl (lv_room (Nat.le_of_ble_eq_true rfl)) dX0_retard_20 ⟨Nat.le_of_ble_eq_true rfl, Nat.le_of_ble_eq_true rfl⟩) hS (fun _ _ h9 => h9.elim) (fun _ h9 => h9.elim) (fun r_14 u_16 t8 H locs ht hvm hw_15 hB hz1 hk1 hS => ?_)
  have hP := ax_keep hP (fun _ h9 => h9) hk1
  have hw_15 : r_14 = (nI (8 * k + 4)) := hw_15
  refine ax_i (y := (nI (8 * k + 4))) hw_15 ?_
  refine lv_iload_n hx hb dX0_retard_23 rfl (lv_at hl 2 rfl) ?_
  refine lv_iconst (v := 1) hx hb dX0_retard_24 (by decide) ?_
  have hPc := hP.sub (ws' := [(xl, .inr (0, [.ref xn, .ref xm])), (xn, .inl (cL, 64, .inr (.inl u))), (xm, .inl (cL, 64, .inr (.inl (ad (8 * k) (8 * k) 0 1 u g))))]) [0, 1, 2] rfl
  have hKc := hK.sub (tys' := [(cL, .long)]) [0] rfl
  have hDc := hD.sub (ws' := [(xl, .inr (0, [.ref xn, .ref xm])), (xn, .inl (cL, 64, .inr (.inl u))), (xm, .inl (cL, 64, .inr (.inl (ad (8 * k) (8 * k) 0 1 u g))))]) [0, 1, 2] (by decide) rfl
  have hFc := va_free (wc := [(xl, .inr (0, [.ref xn, .ref xm])), (xn, .inl (cL, 64, .inr (.inl u))), (xm, .inl (cL, 64, .inr (.inl (ad (8 * k) (8 * k) 0 1 u g))))]) hD hS hA [0, 1, 2] rfl
  refine va_callv (va_runV (As := [.int (nI (8 * k + 4)), .int (nI (8 * k + 4)), .int tn, .int 1]) (rest := []) ⟨hx, hb, hml, hown, hts⟩ (c_X0_add l dC dI xl xn xm cL ta H.size u (ad (8 * k) (8 * k) 0 1 u g) (8 * k + 4) (8 * k + 4) tn 1 rr (by omega) (by omega) h3 (by omega)) (cwV 4 hts gX0_retard_X0_add rfl rfl rfl (by decide +kernel) ⟨Nat.le_of_ble_eq_true rfl, Nat.le_of_ble_eq_true rfl⟩) ⟨ax_fbW, va_recv hK hP (ci := 0) (q0 := 0) rfl rfl, ax_prW hPc hKc hDc hS hFc hE⟩ rfl rfl hl.1 rfl (lv_room (Nat.le_of_ble_eq_true rfl)) dX0_retard_25 ⟨Nat.le_of_ble_eq_true rfl, Nat.le_of_ble_eq_true rfl⟩) hS (fun q _ h9 => hFc q h9) hFc (fun u_19 t8 H locs ht hvm hw_18 hB hz1 hk1 hS => ?_)
  obtain ⟨hP1, hK1, hD1⟩ := hB
  rw [ht] at hP1
  have hK1 := va_K.moved hvm.symm hK1
  obtain ⟨hP, hD⟩ := va_join (wr := []) (w1 := [(xl, .inr (0, [.ref xn, .ref xm])), (xn, .inl (cL, 64, .inr (.inl u))), (xm, .inl (cL, 64, .inr (.inl (ad (8 * k + 4) (8 * k + 4) rr 1 u (ad (8 * k) (8 * k) 0 1 u g)))))]) hP hD [0, 1, 2] [] rfl rfl (by decide) (by decide) hk1 hFc hP1 hD1
  have hP : va_P (dC, dI) vwCl [(xl, .inr (0, [.ref xn, .ref xm])), (xn, .inl (cL, 64, .inr (.inl u))), (xm, .inl (cL, 64, .inr (.inl (ad (8 * k + 4) (8 * k + 4) rr 1 u (ad (8 * k) (8 * k) 0 1 u g)))))] H := hP
  have hD : va_D A [(xl, .inr (0, [.ref xn, .ref xm])), (xn, .inl (cL, 64, .inr (.inl u))), (xm, .inl (cL, 64, .inr (.inl (ad (8 * k + 4) (8 * k + 4) rr 1 u (ad (8 * k) (8 * k) 0 1 u g)))))] := hD
  refine W.widen (k := 0) (n := 0) (Nat.le_of_ble_eq_true rfl) (Nat.le_of_ble_eq_true rfl) ?_
  have hP9 := hP.sub (ws' := [(xl, .inr (0, [.ref xn, .ref xm])), (xn, .inl (cL, 64, .inr (.inl u))), (xm, .inl (cL, 64, .inr (.inl (ad (8 * k + 4) (8 * k + 4) rr 1 u (ad (8 * k) (8 * k) 0 1 u g)))))]) [0, 1, 2] rfl
  have hD9 := hD.sub (ws' := [(xl, .inr (0, [.ref xn, .ref xm])), (xn, .inl (cL, 64, .inr (.inl u))), (xm, .inl (cL, 64, .inr (.inl (ad (8 * k + 4) (8 * k + 4) rr 1 u (ad (8 * k) (8 * k) 0 1 u g)))))]) [0, 1, 2] (by decide) rfl
  have hK9 := hK.sub (tys' := [(cL, .long)]) [0] rfl
  exact W.vret hx hb hr (fun t8 ht hW => ⟨⟨(), rfl, trivial, by rw [ht]; exact hP9, va_K.moved hW.alike hK9, hD9⟩, hS.F ht⟩) hS.2.2 dX0_retard_28

set_option maxHeartbeats 4000000 in
set_option maxRecDepth 100000 in
theorem c_X0_exchange (l : Launch) (dC : Nat → ClassId) (dI : Nat → Nat → Nat) (xl xn xm : Nat) (cL : ClassId) (ta : Nat → Nat) (sz : Nat) (u : Nat → Int64) (g : Nat → Int64) (k : Nat) (hk8 : k < 8) : Met l yX0_exchange wsX0_exchange ({ frames := 1, cells := 0, slots := 0, locals := 29 }) (va_Pc [.ref xl, .int (nI k)] (ax_W (dC, dI) vwCl [(xl, .inr (0, [.ref xn, .ref xm])), (xn, .inl (cL, 64, .inr (.inl u))), (xm, .inl (cL, 64, .inr (.inl g)))] [(cL, .long)] ta sz)) (va_Qv (fun (u9 : Unit) => True) (fun (u9 : Unit) (t9 : State) => va_P (dC, dI) vwCl [(xl, .inr (0, [.ref xn, .ref xm])), (xn, .inl (cL, 64, .inr (.inl u))), (xm, .inl (cL, 64, .inr (.inl (xch k u g))))] t9.heap ∧ va_K (dC, dI) vwCl [(cL, .long)] t9 ∧ va_D (va_A [(xl, .inr (0, [.ref xn, .ref xm])), (xn, .inl (cL, 64, .inr (.inl u))), (xm, .inl (cL, 64, .inr (.inl g)))] sz) [(xl, .inr (0, [.ref xn, .ref xm])), (xn, .inl (cL, 64, .inr (.inl u))), (xm, .inl (cL, 64, .inr (.inl (xch k u g))))]) (va_A [(xl, .inr (0, [.ref xn, .ref xm])), (xn, .inl (cL, 64, .inr (.inl u))), (xm, .inl (cL, 64, .inr (.inl g)))] sz)) 0 0 (va_A [(xl, .inr (0, [.ref xn, .ref xm])), (xn, .inl (cL, 64, .inr (.inl u))), (xm, .inl (cL, 64, .inr (.inl g)))] sz) := by
  refine Met.ofW (cc := cX0_exchange) (maxL := 2) (ret := none) (by decide) rfl ?_
  intro p e s m args below meth c s₁ B hml hv
  obtain ⟨rfl, hsz, hP, hK, hD0, hE⟩ := hv
  have hx := B.exec
  have hb := B.bytes
  have hr := B.returns
  have hts := atoms_spec (ws := wsX0_exchange) B.pre
  have hown : s.vm.findClass RX0 = some m.cls := findClass_of_methodNamed B.named
  have hlocks := B.notSynchronized
  subst hsz
  have hD := hD0.self (sz := s.heap.size)
  generalize hAe : va_A [(xl, .inr (0, [.ref xn, .ref xm])), (xn, .inl (cL, 64, .inr (.inl u))), (xm, .inl (cL, 64, .inr (.inl g)))] s.heap.size = A at hD hE ⊢
  have hA : ∀ q : Nat, s.heap.size ≤ q → A q := fun q h => by rw [← hAe]; exact Or.inr h
  have hS : va_S A s.heap s.heap [] := va_S.rf
  have hl := lv_entry ([.ref xl, .int (nI k)]) (n := 2) (Nat.le_of_ble_eq_true rfl)
  rw [lg_entry_eq]
  generalize (lg_sl ([.ref xl, .int (nI k)]) ++ List.replicate (2 - (lg_sl ([.ref xl, .int (nI k)])).length) Slot.unset).toArray = ls at hl ⊢
  have hl : lv_has ls 2 [(0, .ref xl), (1, .int (nI k))] := hl
  have hP : va_P (dC, dI) vwCl [(xl, .inr (0, [.ref xn, .ref xm])), (xn, .inl (cL, 64, .inr (.inl u))), (xm, .inl (cL, 64, .inr (.inl g)))] s.heap := hP
  refine lv_aload_n hx hb dX0_exchange_0 rfl (lv_at hl 0 rfl) ?_
  refine lv_iload_n hx hb dX0_exchange_1 rfl (lv_at hl 1 rfl) ?_
  refine va_calli (va_runS (As := [.int (nI k)]) (rest := [.ref xl]) ⟨hx, hb, hml, hown, hts⟩ (c_X0_startOfX l k (by omega)) (va_cwS 1 hts gX0_exchange_X0_startOfX rfl rfl rfl (by decide +kernel) ⟨Nat.le_of_ble_eq_true rfl, Nat.le_of_ble_eq_true rfl⟩) ⟨ax_fbP, ax_prP⟩ rfl rfl hl.1 rfl (lv_room (Nat.le_of_ble_eq_true rfl)) dX0_exchange_2 ⟨Nat.le_of_ble_eq_true rfl, Nat.le_of_ble_eq_true rfl⟩) hS (fun _ _ h9 => h9.elim) (fun _ h9 => h9.elim) (fun r_1 u_3 t8 H locs ht hvm hw_2 hB hz1 hk1 hS => ?_)
  have hP := ax_keep hP (fun _ h9 => h9) hk1
  have hw_2 : r_1 = (nI (8 * k)) := hw_2
  refine ax_i (y := (nI (8 * k))) hw_2 ?_
  refine lv_iload_n hx hb dX0_exchange_5 rfl (lv_at hl 1 rfl) ?_
  refine va_calli (va_runS (As := [.int (nI k)]) (rest := [.int (nI (8 * k)), .ref xl]) ⟨hx, hb, hml, hown, hts⟩ (c_X0_startOfY l k (by omega)) (va_cwS 1 hts gX0_exchange_X0_startOfY rfl rfl rfl (by decide +kernel) ⟨Nat.le_of_ble_eq_true rfl, Nat.le_of_ble_eq_true rfl⟩) ⟨ax_fbP, ax_prP⟩ rfl rfl hl.1 rfl (lv_room (Nat.le_of_ble_eq_true rfl)) dX0_exchange_6 ⟨Nat.le_of_ble_eq_true rfl, Nat.le_of_ble_eq_true rfl⟩) hS (fun _ _ h9 => h9.elim) (fun _ h9 => h9.elim) (fun r_4 u_6 t8 H locs ht hvm hw_5 hB hz1 hk1 hS => ?_)
  have hP := ax_keep hP (fun _ h9 => h9) hk1
  have hw_5 : r_4 = (nI (8 * k + 4)) := hw_5
  refine ax_i (y := (nI (8 * k + 4))) hw_5 ?_
  refine lv_iconst (v := 0) hx hb dX0_exchange_9 (by decide) ?_
  refine lv_iconst (v := 1) hx hb dX0_exchange_10 (by decide) ?_
  have hPc := hP.sub (ws' := [(xl, .inr (0, [.ref xn, .ref xm])), (xn, .inl (cL, 64, .inr (.inl u))), (xm, .inl (cL, 64, .inr (.inl g)))]) [0, 1, 2] rfl
  have hKc := hK.sub (tys' := [(cL, .long)]) [0] rfl
  have hDc := hD.sub (ws' := [(xl, .inr (0, [.ref xn, .ref xm])), (xn, .inl (cL, 64, .inr (.inl u))), (xm, .inl (cL, 64, .inr (.inl g)))]) [0, 1, 2] (by decide) rfl
  have hFc := va_free (wc := [(xl, .inr (0, [.ref xn, .ref xm])), (xn, .inl (cL, 64, .inr (.inl u))), (xm, .inl (cL, 64, .inr (.inl g)))]) hD hS hA [0, 1, 2] rfl
  refine va_callv (va_runV (As := [.int (nI (8 * k)), .int (nI (8 * k + 4)), .int 0, .int 1]) (rest := []) ⟨hx, hb, hml, hown, hts⟩ (c_X0_add l dC dI xl xn xm cL ta H.size u g (8 * k) (8 * k + 4) 0 1 0 (by omega) (by omega) (by decide) (by omega)) (cwV 4 hts gX0_exchange_X0_add rfl rfl rfl (by decide +kernel) ⟨Nat.le_of_ble_eq_true rfl, Nat.le_of_ble_eq_true rfl⟩) ⟨ax_fbW, va_recv hK hP (ci := 0) (q0 := 0) rfl rfl, ax_prW hPc hKc hDc hS hFc hE⟩ rfl rfl hl.1 rfl (lv_room (Nat.le_of_ble_eq_true rfl)) dX0_exchange_11 ⟨Nat.le_of_ble_eq_true rfl, Nat.le_of_ble_eq_true rfl⟩) hS (fun q _ h9 => hFc q h9) hFc (fun u_9 t8 H locs ht hvm hw_8 hB hz1 hk1 hS => ?_)
  obtain ⟨hP1, hK1, hD1⟩ := hB
  rw [ht] at hP1
  have hK1 := va_K.moved hvm.symm hK1
  obtain ⟨hP, hD⟩ := va_join (wr := []) (w1 := [(xl, .inr (0, [.ref xn, .ref xm])), (xn, .inl (cL, 64, .inr (.inl u))), (xm, .inl (cL, 64, .inr (.inl (ad (8 * k) (8 * k + 4) 0 1 u g))))]) hP hD [0, 1, 2] [] rfl rfl (by decide) (by decide) hk1 hFc hP1 hD1
  have hP : va_P (dC, dI) vwCl [(xl, .inr (0, [.ref xn, .ref xm])), (xn, .inl (cL, 64, .inr (.inl u))), (xm, .inl (cL, 64, .inr (.inl (ad (8 * k) (8 * k + 4) 0 1 u g))))] H := hP
  have hD : va_D A [(xl, .inr (0, [.ref xn, .ref xm])), (xn, .inl (cL, 64, .inr (.inl u))), (xm, .inl (cL, 64, .inr (.inl (ad (8 * k) (8 * k + 4) 0 1 u g))))] := hD
  refine lv_aload_n hx hb dX0_exchange_14 rfl (lv_at hl 0 rfl) ?_
  refine lv_iload_n hx hb dX0_exchange_15 rfl (lv_at hl 1 rfl) ?_
  refine va_calli (va_runS (As := [.int (nI k)]) (rest := [.ref xl]) ⟨hx, hb, hml, hown, hts⟩ (c_X0_startOfY l k (by omega)) (va_cwS 1 hts gX0_exchange_X0_startOfY rfl rfl rfl (by decide +kernel) ⟨Nat.le_of_ble_eq_true rfl, Nat.le_of_ble_eq_true rfl⟩) ⟨ax_fbP, ax_prP⟩ rfl rfl hl.1 rfl (lv_room (Nat.le_of_ble_eq_true rfl)) dX0_exchange_16 ⟨Nat.le_of_ble_eq_true rfl, Nat.le_of_ble_eq_true rfl⟩) hS (fun _ _ h9 => h9.elim) (fun _ h9 => h9.elim) (fun r_11 u_13 t8 H locs ht hvm hw_12 hB hz1 hk1 hS => ?_)
  have hP := ax_keep hP (fun _ h9 => h9) hk1
  have hw_12 : r_11 = (nI (8 * k + 4)) := hw_12
  refine ax_i (y := (nI (8 * k + 4))) hw_12 ?_
  refine lv_iload_n hx hb dX0_exchange_19 rfl (lv_at hl 1 rfl) ?_
  refine va_calli (va_runS (As := [.int (nI k)]) (rest := [.int (nI (8 * k + 4)), .ref xl]) ⟨hx, hb, hml, hown, hts⟩ (c_X0_startOfX l k (by omega)) (va_cwS 1 hts gX0_exchange_X0_startOfX rfl rfl rfl (by decide +kernel) ⟨Nat.le_of_ble_eq_true rfl, Nat.le_of_ble_eq_true rfl⟩) ⟨ax_fbP, ax_prP⟩ rfl rfl hl.1 rfl (lv_room (Nat.le_of_ble_eq_true rfl)) dX0_exchange_20 ⟨Nat.le_of_ble_eq_true rfl, Nat.le_of_ble_eq_true rfl⟩) hS (fun _ _ h9 => h9.elim) (fun _ h9 => h9.elim) (fun r_14 u_16 t8 H locs ht hvm hw_15 hB hz1 hk1 hS => ?_)
  have hP := ax_keep hP (fun _ h9 => h9) hk1
  have hw_15 : r_14 = (nI (8 * k)) := hw_15
  refine ax_i (y := (nI (8 * k))) hw_15 ?_
  refine lv_iconst (v := 0) hx hb dX0_exchange_23 (by decide) ?_
  refine lv_iconst (v := 1) hx hb dX0_exchange_24 (by decide) ?_
  have hPc := hP.sub (ws' := [(xl, .inr (0, [.ref xn, .ref xm])), (xn, .inl (cL, 64, .inr (.inl u))), (xm, .inl (cL, 64, .inr (.inl (ad (8 * k) (8 * k + 4) 0 1 u g))))]) [0, 1, 2] rfl
  have hKc := hK.sub (tys' := [(cL, .long)]) [0] rfl
  have hDc := hD.sub (ws' := [(xl, .inr (0, [.ref xn, .ref xm])), (xn, .inl (cL, 64, .inr (.inl u))), (xm, .inl (cL, 64, .inr (.inl (ad (8 * k) (8 * k + 4) 0 1 u g))))]) [0, 1, 2] (by decide) rfl
  have hFc := va_free (wc := [(xl, .inr (0, [.ref xn, .ref xm])), (xn, .inl (cL, 64, .inr (.inl u))), (xm, .inl (cL, 64, .inr (.inl (ad (8 * k) (8 * k + 4) 0 1 u g))))]) hD hS hA [0, 1, 2] rfl
  refine va_callv (va_runV (As := [.int (nI (8 * k + 4)), .int (nI (8 * k)), .int 0, .int 1]) (rest := []) ⟨hx, hb, hml, hown, hts⟩ (c_X0_add l dC dI xl xn xm cL ta H.size u (ad (8 * k) (8 * k + 4) 0 1 u g) (8 * k + 4) (8 * k) 0 1 0 (by omega) (by omega) (by decide) (by omega)) (cwV 4 hts gX0_exchange_X0_add rfl rfl rfl (by decide +kernel) ⟨Nat.le_of_ble_eq_true rfl, Nat.le_of_ble_eq_true rfl⟩) ⟨ax_fbW, va_recv hK hP (ci := 0) (q0 := 0) rfl rfl, ax_prW hPc hKc hDc hS hFc hE⟩ rfl rfl hl.1 rfl (lv_room (Nat.le_of_ble_eq_true rfl)) dX0_exchange_25 ⟨Nat.le_of_ble_eq_true rfl, Nat.le_of_ble_eq_true rfl⟩) hS (fun q _ h9 => hFc q h9) hFc (fun u_19 t8 H locs ht hvm hw_18 hB hz1 hk1 hS => ?_)
  obtain ⟨hP1, hK1, hD1⟩ := hB
  rw [ht] at hP1
  have hK1 := va_K.moved hvm.symm hK1
  obtain ⟨hP, hD⟩ := va_join (wr := []) (w1 := [(xl, .inr (0, [.ref xn, .ref xm])), (xn, .inl (cL, 64, .inr (.inl u))), (xm, .inl (cL, 64, .inr (.inl (ad (8 * k + 4) (8 * k) 0 1 u (ad (8 * k) (8 * k + 4) 0 1 u g)))))]) hP hD [0, 1, 2] [] rfl rfl (by decide) (by decide) hk1 hFc hP1 hD1
  have hP : va_P (dC, dI) vwCl [(xl, .inr (0, [.ref xn, .ref xm])), (xn, .inl (cL, 64, .inr (.inl u))), (xm, .inl (cL, 64, .inr (.inl (ad (8 * k + 4) (8 * k) 0 1 u (ad (8 * k) (8 * k + 4) 0 1 u g)))))] H := hP
  have hD : va_D A [(xl, .inr (0, [.ref xn, .ref xm])), (xn, .inl (cL, 64, .inr (.inl u))), (xm, .inl (cL, 64, .inr (.inl (ad (8 * k + 4) (8 * k) 0 1 u (ad (8 * k) (8 * k + 4) 0 1 u g)))))] := hD
  refine W.widen (k := 0) (n := 0) (Nat.le_of_ble_eq_true rfl) (Nat.le_of_ble_eq_true rfl) ?_
  have hP9 := hP.sub (ws' := [(xl, .inr (0, [.ref xn, .ref xm])), (xn, .inl (cL, 64, .inr (.inl u))), (xm, .inl (cL, 64, .inr (.inl (ad (8 * k + 4) (8 * k) 0 1 u (ad (8 * k) (8 * k + 4) 0 1 u g)))))]) [0, 1, 2] rfl
  have hD9 := hD.sub (ws' := [(xl, .inr (0, [.ref xn, .ref xm])), (xn, .inl (cL, 64, .inr (.inl u))), (xm, .inl (cL, 64, .inr (.inl (ad (8 * k + 4) (8 * k) 0 1 u (ad (8 * k) (8 * k + 4) 0 1 u g)))))]) [0, 1, 2] (by decide) rfl
  have hK9 := hK.sub (tys' := [(cL, .long)]) [0] rfl
  exact W.vret hx hb hr (fun t8 ht hW => ⟨⟨(), rfl, trivial, by rw [ht]; exact hP9, va_K.moved hW.alike hK9, hD9⟩, hS.F ht⟩) hS.2.2 dX0_exchange_28

set_option maxHeartbeats 4000000 in
set_option maxRecDepth 100000 in
theorem c_X0_polarise (l : Launch) (dC : Nat → ClassId) (dI : Nat → Nat → Nat) (xl xn xm : Nat) (cL : ClassId) (ta : Nat → Nat) (sz : Nat) (u : Nat → Int64) (g : Nat → Int64) (k : Nat) (nu : Nat) (hk8 : k < 8) (hnu : nu < 4) : Met l yX0_polarise wsX0_polarise ({ frames := 1, cells := 0, slots := 0, locals := 29 }) (va_Pc [.ref xl, .int (nI k), .int (nI nu)] (ax_W (dC, dI) vwCl [(xl, .inr (0, [.ref xn, .ref xm])), (xn, .inl (cL, 64, .inr (.inl u))), (xm, .inl (cL, 64, .inr (.inl g)))] [(cL, .long)] ta sz)) (va_Qv (fun (u9 : Unit) => True) (fun (u9 : Unit) (t9 : State) => va_P (dC, dI) vwCl [(xl, .inr (0, [.ref xn, .ref xm])), (xn, .inl (cL, 64, .inr (.inl u))), (xm, .inl (cL, 64, .inr (.inl (pol k nu u g))))] t9.heap ∧ va_K (dC, dI) vwCl [(cL, .long)] t9 ∧ va_D (va_A [(xl, .inr (0, [.ref xn, .ref xm])), (xn, .inl (cL, 64, .inr (.inl u))), (xm, .inl (cL, 64, .inr (.inl g)))] sz) [(xl, .inr (0, [.ref xn, .ref xm])), (xn, .inl (cL, 64, .inr (.inl u))), (xm, .inl (cL, 64, .inr (.inl (pol k nu u g))))]) (va_A [(xl, .inr (0, [.ref xn, .ref xm])), (xn, .inl (cL, 64, .inr (.inl u))), (xm, .inl (cL, 64, .inr (.inl g)))] sz)) 0 0 (va_A [(xl, .inr (0, [.ref xn, .ref xm])), (xn, .inl (cL, 64, .inr (.inl u))), (xm, .inl (cL, 64, .inr (.inl g)))] sz) := by
  refine Met.ofW (cc := cX0_polarise) (maxL := 6) (ret := none) (by decide) rfl ?_
  intro p e s m args below meth c s₁ B hml hv
  obtain ⟨rfl, hsz, hP, hK, hD0, hE⟩ := hv
  have hx := B.exec
  have hb := B.bytes
  have hr := B.returns
  have hts := atoms_spec (ws := wsX0_polarise) B.pre
  have hown : s.vm.findClass RX0 = some m.cls := findClass_of_methodNamed B.named
  have hlocks := B.notSynchronized
  subst hsz
  have hD := hD0.self (sz := s.heap.size)
  generalize hAe : va_A [(xl, .inr (0, [.ref xn, .ref xm])), (xn, .inl (cL, 64, .inr (.inl u))), (xm, .inl (cL, 64, .inr (.inl g)))] s.heap.size = A at hD hE ⊢
  have hA : ∀ q : Nat, s.heap.size ≤ q → A q := fun q h => by rw [← hAe]; exact Or.inr h
  have hS : va_S A s.heap s.heap [] := va_S.rf
  have hl := lv_entry ([.ref xl, .int (nI k), .int (nI nu)]) (n := 6) (Nat.le_of_ble_eq_true rfl)
  rw [lg_entry_eq]
  generalize (lg_sl ([.ref xl, .int (nI k), .int (nI nu)]) ++ List.replicate (6 - (lg_sl ([.ref xl, .int (nI k), .int (nI nu)])).length) Slot.unset).toArray = ls at hl ⊢
  have hl : lv_has ls 6 [(0, .ref xl), (1, .int (nI k)), (2, .int (nI nu))] := hl
  have hP : va_P (dC, dI) vwCl [(xl, .inr (0, [.ref xn, .ref xm])), (xn, .inl (cL, 64, .inr (.inl u))), (xm, .inl (cL, 64, .inr (.inl g)))] s.heap := hP
  refine lv_iload_n hx hb dX0_polarise_0 rfl (lv_at hl 1 rfl) ?_
  refine va_calli (va_runS (As := [.int (nI k)]) (rest := []) ⟨hx, hb, hml, hown, hts⟩ (c_X0_startOfX l k (by omega)) (va_cwS 1 hts gX0_polarise_X0_startOfX rfl rfl rfl (by decide +kernel) ⟨Nat.le_of_ble_eq_true rfl, Nat.le_of_ble_eq_true rfl⟩) ⟨ax_fbP, ax_prP⟩ rfl rfl hl.1 rfl (lv_room (Nat.le_of_ble_eq_true rfl)) dX0_polarise_1 ⟨Nat.le_of_ble_eq_true rfl, Nat.le_of_ble_eq_true rfl⟩) hS (fun _ _ h9 => h9.elim) (fun _ h9 => h9.elim) (fun r_1 u_3 t8 H locs ht hvm hw_2 hB hz1 hk1 hS => ?_)
  have hP := ax_keep hP (fun _ h9 => h9) hk1
  have hw_2 : r_1 = (nI (8 * k)) := hw_2
  refine ax_i (y := (nI (8 * k))) hw_2 ?_
  refine lv_istore_n (lv' := [(3, .int (nI (8 * k))), (0, .ref xl), (1, .int (nI k)), (2, .int (nI nu))]) hx hb dX0_polarise_4 rfl hl (by decide) rfl (fun ls hl => ?_)
  refine lv_iload_n hx hb dX0_polarise_5 rfl (lv_at hl 2 rfl) ?_
  refine va_calli (va_runS (As := [.int (nI k)]) (rest := []) ⟨hx, hb, hml, hown, hts⟩ (c_X0_startOfY l k (by omega)) (va_cwS 1 hts gX0_polarise_X0_startOfY rfl rfl rfl (by decide +kernel) ⟨Nat.le_of_ble_eq_true rfl, Nat.le_of_ble_eq_true rfl⟩) ⟨ax_fbP, ax_prP⟩ rfl rfl hl.1 rfl (lv_room (Nat.le_of_ble_eq_true rfl)) dX0_polarise_6 ⟨Nat.le_of_ble_eq_true rfl, Nat.le_of_ble_eq_true rfl⟩) hS (fun _ _ h9 => h9.elim) (fun _ h9 => h9.elim) (fun r_4 u_6 t8 H locs ht hvm hw_5 hB hz1 hk1 hS => ?_)
  have hP := ax_keep hP (fun _ h9 => h9) hk1
  have hw_5 : r_4 = (nI (8 * k + 4)) := hw_5
  refine ax_i (y := (nI (8 * k + 4))) hw_5 ?_
  refine lv_istore (lv' := [(4, .int (nI (8 * k + 4))), (3, .int (nI (8 * k))), (0, .ref xl), (1, .int (nI k)), (2, .int (nI nu))]) hx hb dX0_polarise_9 hl (by decide) rfl (fun ls hl => ?_)
  refine lv_iload_n hx hb dX0_polarise_11 rfl (lv_at hl 4 rfl) ?_
  refine lv_if_ne (tgt := 26) hx hb dX0_polarise_12 (by decide) (fun c_7 => ?_) (fun c_7 => ?_)
  · have c_7 : ¬ nu = 0 := ax_fneTN (by omega) (by omega) c_7
    refine lv_iload_n hx hb dX0_polarise_26 rfl (lv_at hl 4 rfl) ?_
    refine lv_iconst (v := 1) hx hb dX0_polarise_27 (by decide) ?_
    refine lv_icmp_ne (tgt := 44) hx hb dX0_polarise_28 (by decide) (fun c_8 => ?_) (fun c_8 => ?_)
    · have c_8 : ¬ nu = 1 := ax_fneTN (by omega) (by omega) c_8
      refine lv_iload_n hx hb dX0_polarise_44 rfl (lv_at hl 4 rfl) ?_
      refine lv_iconst (v := 2) hx hb dX0_polarise_45 (by decide) ?_
      refine lv_icmp_ne (tgt := 53) hx hb dX0_polarise_46 (by decide) (fun c_9 => ?_) (fun c_9 => ?_)
      · have c_9 : ¬ nu = 2 := ax_fneTN (by omega) (by omega) c_9
        refine lv_iconst (v := (-1)) hx hb dX0_polarise_53 (by decide) ?_
        refine lv_istore (lv' := [(5, .int (-1)), (4, .int (nI (8 * k + 4))), (3, .int (nI (8 * k))), (0, .ref xl), (1, .int (nI k)), (2, .int (nI nu))]) hx hb dX0_polarise_54 hl (by decide) rfl (fun ls hl => ?_)
        refine lv_aload_n hx hb dX0_polarise_56 rfl (lv_at hl 3 rfl) ?_
        refine lv_iload_n hx hb dX0_polarise_57 rfl (lv_at hl 2 rfl) ?_
        refine lv_iload_n hx hb dX0_polarise_58 rfl (lv_at hl 2 rfl) ?_
        refine lv_iconst (v := 0) hx hb dX0_polarise_59 (by decide) ?_
        refine lv_iconst (v := 1) hx hb dX0_polarise_60 (by decide) ?_
        have hPc := hP.sub (ws' := [(xl, .inr (0, [.ref xn, .ref xm])), (xn, .inl (cL, 64, .inr (.inl u))), (xm, .inl (cL, 64, .inr (.inl g)))]) [0, 1, 2] rfl
        have hKc := hK.sub (tys' := [(cL, .long)]) [0] rfl
        have hDc := hD.sub (ws' := [(xl, .inr (0, [.ref xn, .ref xm])), (xn, .inl (cL, 64, .inr (.inl u))), (xm, .inl (cL, 64, .inr (.inl g)))]) [0, 1, 2] (by decide) rfl
        have hFc := va_free (wc := [(xl, .inr (0, [.ref xn, .ref xm])), (xn, .inl (cL, 64, .inr (.inl u))), (xm, .inl (cL, 64, .inr (.inl g)))]) hD hS hA [0, 1, 2] rfl
        refine va_callv (va_runV (As := [.int (nI (8 * k)), .int (nI (8 * k)), .int 0, .int 1]) (rest := []) ⟨hx, hb, hml, hown, hts⟩ (c_X0_add l dC dI xl xn xm cL ta H.size u g (8 * k) (8 * k) 0 1 0 (by omega) (by omega) (by decide) (by omega)) (cwV 4 hts gX0_polarise_X0_add rfl rfl rfl (by decide +kernel) ⟨Nat.le_of_ble_eq_true rfl, Nat.le_of_ble_eq_true rfl⟩) ⟨ax_fbW, va_recv hK hP (ci := 0) (q0 := 0) rfl rfl, ax_prW hPc hKc hDc hS hFc hE⟩ rfl rfl hl.1 rfl (lv_room (Nat.le_of_ble_eq_true rfl)) dX0_polarise_61 ⟨Nat.le_of_ble_eq_true rfl, Nat.le_of_ble_eq_true rfl⟩) hS (fun q _ h9 => hFc q h9) hFc (fun u_12 t8 H locs ht hvm hw_11 hB hz1 hk1 hS => ?_)
        obtain ⟨hP1, hK1, hD1⟩ := hB
        rw [ht] at hP1
        have hK1 := va_K.moved hvm.symm hK1
        obtain ⟨hP, hD⟩ := va_join (wr := []) (w1 := [(xl, .inr (0, [.ref xn, .ref xm])), (xn, .inl (cL, 64, .inr (.inl u))), (xm, .inl (cL, 64, .inr (.inl (ad (8 * k) (8 * k) 0 1 u g))))]) hP hD [0, 1, 2] [] rfl rfl (by decide) (by decide) hk1 hFc hP1 hD1
        have hP : va_P (dC, dI) vwCl [(xl, .inr (0, [.ref xn, .ref xm])), (xn, .inl (cL, 64, .inr (.inl u))), (xm, .inl (cL, 64, .inr (.inl (ad (8 * k) (8 * k) 0 1 u g))))] H := hP
        have hD : va_D A [(xl, .inr (0, [.ref xn, .ref xm])), (xn, .inl (cL, 64, .inr (.inl u))), (xm, .inl (cL, 64, .inr (.inl (ad (8 * k) (8 * k) 0 1 u g))))] := hD
        refine lv_aload_n hx hb dX0_polarise_64 rfl (lv_at hl 3 rfl) ?_
        refine lv_iload hx hb dX0_polarise_65 (lv_at hl 1 rfl) ?_
        refine lv_iload_n hx hb dX0_polarise_67 rfl (lv_at hl 2 rfl) ?_
        refine lv_iconst (v := 0) hx hb dX0_polarise_68 (by decide) ?_
        refine lv_iload hx hb dX0_polarise_69 (lv_at hl 0 rfl) ?_
        have hPc := hP.sub (ws' := [(xl, .inr (0, [.ref xn, .ref xm])), (xn, .inl (cL, 64, .inr (.inl u))), (xm, .inl (cL, 64, .inr (.inl (ad (8 * k) (8 * k) 0 1 u g))))]) [0, 1, 2] rfl
        have hKc := hK.sub (tys' := [(cL, .long)]) [0] rfl
        have hDc := hD.sub (ws' := [(xl, .inr (0, [.ref xn, .ref xm])), (xn, .inl (cL, 64, .inr (.inl u))), (xm, .inl (cL, 64, .inr (.inl (ad (8 * k) (8 * k) 0 1 u g))))]) [0, 1, 2] (by decide) rfl
        have hFc := va_free (wc := [(xl, .inr (0, [.ref xn, .ref xm])), (xn, .inl (cL, 64, .inr (.inl u))), (xm, .inl (cL, 64, .inr (.inl (ad (8 * k) (8 * k) 0 1 u g))))]) hD hS hA [0, 1, 2] rfl
        refine va_callv (va_runV (As := [.int (nI (8 * k + 4)), .int (nI (8 * k)), .int 0, .int (-1)]) (rest := []) ⟨hx, hb, hml, hown, hts⟩ (c_X0_add l dC dI xl xn xm cL ta H.size u (ad (8 * k) (8 * k) 0 1 u g) (8 * k + 4) (8 * k) 0 (-1) 0 (by omega) (by omega) (by decide) (by omega)) (cwV 4 hts gX0_polarise_X0_add rfl rfl rfl (by decide +kernel) ⟨Nat.le_of_ble_eq_true rfl, Nat.le_of_ble_eq_true rfl⟩) ⟨ax_fbW, va_recv hK hP (ci := 0) (q0 := 0) rfl rfl, ax_prW hPc hKc hDc hS hFc hE⟩ rfl rfl hl.1 rfl (lv_room (Nat.le_of_ble_eq_true rfl)) dX0_polarise_71 ⟨Nat.le_of_ble_eq_true rfl, Nat.le_of_ble_eq_true rfl⟩) hS (fun q _ h9 => hFc q h9) hFc (fun u_16 t8 H locs ht hvm hw_15 hB hz1 hk1 hS => ?_)
        obtain ⟨hP1, hK1, hD1⟩ := hB
        rw [ht] at hP1
        have hK1 := va_K.moved hvm.symm hK1
        obtain ⟨hP, hD⟩ := va_join (wr := []) (w1 := [(xl, .inr (0, [.ref xn, .ref xm])), (xn, .inl (cL, 64, .inr (.inl u))), (xm, .inl (cL, 64, .inr (.inl (ad (8 * k + 4) (8 * k) 0 (-1) u (ad (8 * k) (8 * k) 0 1 u g)))))]) hP hD [0, 1, 2] [] rfl rfl (by decide) (by decide) hk1 hFc hP1 hD1
        have hP : va_P (dC, dI) vwCl [(xl, .inr (0, [.ref xn, .ref xm])), (xn, .inl (cL, 64, .inr (.inl u))), (xm, .inl (cL, 64, .inr (.inl (ad (8 * k + 4) (8 * k) 0 (-1) u (ad (8 * k) (8 * k) 0 1 u g)))))] H := hP
        have hD : va_D A [(xl, .inr (0, [.ref xn, .ref xm])), (xn, .inl (cL, 64, .inr (.inl u))), (xm, .inl (cL, 64, .inr (.inl (ad (8 * k + 4) (8 * k) 0 (-1) u (ad (8 * k) (8 * k) 0 1 u g)))))] := hD
        refine lv_aload_n hx hb dX0_polarise_74 rfl (lv_at hl 3 rfl) ?_
        refine lv_iload hx hb dX0_polarise_75 (lv_at hl 1 rfl) ?_
        refine lv_iload hx hb dX0_polarise_77 (lv_at hl 1 rfl) ?_
        refine lv_iconst (v := 0) hx hb dX0_polarise_79 (by decide) ?_
        refine lv_iconst (v := 1) hx hb dX0_polarise_80 (by decide) ?_
        have hPc := hP.sub (ws' := [(xl, .inr (0, [.ref xn, .ref xm])), (xn, .inl (cL, 64, .inr (.inl u))), (xm, .inl (cL, 64, .inr (.inl (ad (8 * k + 4) (8 * k) 0 (-1) u (ad (8 * k) (8 * k) 0 1 u g)))))]) [0, 1, 2] rfl
        have hKc := hK.sub (tys' := [(cL, .long)]) [0] rfl
        have hDc := hD.sub (ws' := [(xl, .inr (0, [.ref xn, .ref xm])), (xn, .inl (cL, 64, .inr (.inl u))), (xm, .inl (cL, 64, .inr (.inl (ad (8 * k + 4) (8 * k) 0 (-1) u (ad (8 * k) (8 * k) 0 1 u g)))))]) [0, 1, 2] (by decide) rfl
        have hFc := va_free (wc := [(xl, .inr (0, [.ref xn, .ref xm])), (xn, .inl (cL, 64, .inr (.inl u))), (xm, .inl (cL, 64, .inr (.inl (ad (8 * k + 4) (8 * k) 0 (-1) u (ad (8 * k) (8 * k) 0 1 u g)))))]) hD hS hA [0, 1, 2] rfl
        refine va_callv (va_runV (As := [.int (nI (8 * k + 4)), .int (nI (8 * k + 4)), .int 0, .int 1]) (rest := []) ⟨hx, hb, hml, hown, hts⟩ (c_X0_add l dC dI xl xn xm cL ta H.size u (ad (8 * k + 4) (8 * k) 0 (-1) u (ad (8 * k) (8 * k) 0 1 u g)) (8 * k + 4) (8 * k + 4) 0 1 0 (by omega) (by omega) (by decide) (by omega)) (cwV 4 hts gX0_polarise_X0_add rfl rfl rfl (by decide +kernel) ⟨Nat.le_of_ble_eq_true rfl, Nat.le_of_ble_eq_true rfl⟩) ⟨ax_fbW, va_recv hK hP (ci := 0) (q0 := 0) rfl rfl, ax_prW hPc hKc hDc hS hFc hE⟩ rfl rfl hl.1 rfl (lv_room (Nat.le_of_ble_eq_true rfl)) dX0_polarise_81 ⟨Nat.le_of_ble_eq_true rfl, Nat.le_of_ble_eq_true rfl⟩) hS (fun q _ h9 => hFc q h9) hFc (fun u_20 t8 H locs ht hvm hw_19 hB hz1 hk1 hS => ?_)
        obtain ⟨hP1, hK1, hD1⟩ := hB
        rw [ht] at hP1
        have hK1 := va_K.moved hvm.symm hK1
        obtain ⟨hP, hD⟩ := va_join (wr := []) (w1 := [(xl, .inr (0, [.ref xn, .ref xm])), (xn, .inl (cL, 64, .inr (.inl u))), (xm, .inl (cL, 64, .inr (.inl (ad (8 * k + 4) (8 * k + 4) 0 1 u (ad (8 * k + 4) (8 * k) 0 (-1) u (ad (8 * k) (8 * k) 0 1 u g))))))]) hP hD [0, 1, 2] [] rfl rfl (by decide) (by decide) hk1 hFc hP1 hD1
        have hP : va_P (dC, dI) vwCl [(xl, .inr (0, [.ref xn, .ref xm])), (xn, .inl (cL, 64, .inr (.inl u))), (xm, .inl (cL, 64, .inr (.inl (ad (8 * k + 4) (8 * k + 4) 0 1 u (ad (8 * k + 4) (8 * k) 0 (-1) u (ad (8 * k) (8 * k) 0 1 u g))))))] H := hP
        have hD : va_D A [(xl, .inr (0, [.ref xn, .ref xm])), (xn, .inl (cL, 64, .inr (.inl u))), (xm, .inl (cL, 64, .inr (.inl (ad (8 * k + 4) (8 * k + 4) 0 1 u (ad (8 * k + 4) (8 * k) 0 (-1) u (ad (8 * k) (8 * k) 0 1 u g))))))] := hD
        refine lv_aload_n hx hb dX0_polarise_84 rfl (lv_at hl 3 rfl) ?_
        refine lv_iload_n hx hb dX0_polarise_85 rfl (lv_at hl 2 rfl) ?_
        refine lv_iload hx hb dX0_polarise_86 (lv_at hl 1 rfl) ?_
        refine lv_iconst (v := 0) hx hb dX0_polarise_88 (by decide) ?_
        refine lv_iload hx hb dX0_polarise_89 (lv_at hl 0 rfl) ?_
        have hPc := hP.sub (ws' := [(xl, .inr (0, [.ref xn, .ref xm])), (xn, .inl (cL, 64, .inr (.inl u))), (xm, .inl (cL, 64, .inr (.inl (ad (8 * k + 4) (8 * k + 4) 0 1 u (ad (8 * k + 4) (8 * k) 0 (-1) u (ad (8 * k) (8 * k) 0 1 u g))))))]) [0, 1, 2] rfl
        have hKc := hK.sub (tys' := [(cL, .long)]) [0] rfl
        have hDc := hD.sub (ws' := [(xl, .inr (0, [.ref xn, .ref xm])), (xn, .inl (cL, 64, .inr (.inl u))), (xm, .inl (cL, 64, .inr (.inl (ad (8 * k + 4) (8 * k + 4) 0 1 u (ad (8 * k + 4) (8 * k) 0 (-1) u (ad (8 * k) (8 * k) 0 1 u g))))))]) [0, 1, 2] (by decide) rfl
        have hFc := va_free (wc := [(xl, .inr (0, [.ref xn, .ref xm])), (xn, .inl (cL, 64, .inr (.inl u))), (xm, .inl (cL, 64, .inr (.inl (ad (8 * k + 4) (8 * k + 4) 0 1 u (ad (8 * k + 4) (8 * k) 0 (-1) u (ad (8 * k) (8 * k) 0 1 u g))))))]) hD hS hA [0, 1, 2] rfl
        refine va_callv (va_runV (As := [.int (nI (8 * k)), .int (nI (8 * k + 4)), .int 0, .int (-1)]) (rest := []) ⟨hx, hb, hml, hown, hts⟩ (c_X0_add l dC dI xl xn xm cL ta H.size u (ad (8 * k + 4) (8 * k + 4) 0 1 u (ad (8 * k + 4) (8 * k) 0 (-1) u (ad (8 * k) (8 * k) 0 1 u g))) (8 * k) (8 * k + 4) 0 (-1) 0 (by omega) (by omega) (by decide) (by omega)) (cwV 4 hts gX0_polarise_X0_add rfl rfl rfl (by decide +kernel) ⟨Nat.le_of_ble_eq_true rfl, Nat.le_of_ble_eq_true rfl⟩) ⟨ax_fbW, va_recv hK hP (ci := 0) (q0 := 0) rfl rfl, ax_prW hPc hKc hDc hS hFc hE⟩ rfl rfl hl.1 rfl (lv_room (Nat.le_of_ble_eq_true rfl)) dX0_polarise_91 ⟨Nat.le_of_ble_eq_true rfl, Nat.le_of_ble_eq_true rfl⟩) hS (fun q _ h9 => hFc q h9) hFc (fun u_24 t8 H locs ht hvm hw_23 hB hz1 hk1 hS => ?_)
        obtain ⟨hP1, hK1, hD1⟩ := hB
        rw [ht] at hP1
        have hK1 := va_K.moved hvm.symm hK1
        obtain ⟨hP, hD⟩ := va_join (wr := []) (w1 := [(xl, .inr (0, [.ref xn, .ref xm])), (xn, .inl (cL, 64, .inr (.inl u))), (xm, .inl (cL, 64, .inr (.inl (ad (8 * k) (8 * k + 4) 0 (-1) u (ad (8 * k + 4) (8 * k + 4) 0 1 u (ad (8 * k + 4) (8 * k) 0 (-1) u (ad (8 * k) (8 * k) 0 1 u g)))))))]) hP hD [0, 1, 2] [] rfl rfl (by decide) (by decide) hk1 hFc hP1 hD1
        have hP : va_P (dC, dI) vwCl [(xl, .inr (0, [.ref xn, .ref xm])), (xn, .inl (cL, 64, .inr (.inl u))), (xm, .inl (cL, 64, .inr (.inl (ad (8 * k) (8 * k + 4) 0 (-1) u (ad (8 * k + 4) (8 * k + 4) 0 1 u (ad (8 * k + 4) (8 * k) 0 (-1) u (ad (8 * k) (8 * k) 0 1 u g)))))))] H := hP
        have hD : va_D A [(xl, .inr (0, [.ref xn, .ref xm])), (xn, .inl (cL, 64, .inr (.inl u))), (xm, .inl (cL, 64, .inr (.inl (ad (8 * k) (8 * k + 4) 0 (-1) u (ad (8 * k + 4) (8 * k + 4) 0 1 u (ad (8 * k + 4) (8 * k) 0 (-1) u (ad (8 * k) (8 * k) 0 1 u g)))))))] := hD
        refine W.widen (k := 0) (n := 0) (Nat.le_of_ble_eq_true rfl) (Nat.le_of_ble_eq_true rfl) ?_
        have hP9 := hP.sub (ws' := [(xl, .inr (0, [.ref xn, .ref xm])), (xn, .inl (cL, 64, .inr (.inl u))), (xm, .inl (cL, 64, .inr (.inl (ad (8 * k) (8 * k + 4) 0 (-1) u (ad (8 * k + 4) (8 * k + 4) 0 1 u (ad (8 * k + 4) (8 * k) 0 (-1) u (ad (8 * k) (8 * k) 0 1 u g)))))))]) [0, 1, 2] rfl
        have hD9 := hD.sub (ws' := [(xl, .inr (0, [.ref xn, .ref xm])), (xn, .inl (cL, 64, .inr (.inl u))), (xm, .inl (cL, 64, .inr (.inl (ad (8 * k) (8 * k + 4) 0 (-1) u (ad (8 * k + 4) (8 * k + 4) 0 1 u (ad (8 * k + 4) (8 * k) 0 (-1) u (ad (8 * k) (8 * k) 0 1 u g)))))))]) [0, 1, 2] (by decide) rfl
        have hK9 := hK.sub (tys' := [(cL, .long)]) [0] rfl
        have e9 : ((ad (8 * k) (8 * k + 4) 0 (-1) u (ad (8 * k + 4) (8 * k + 4) 0 1 u (ad (8 * k + 4) (8 * k) 0 (-1) u (ad (8 * k) (8 * k) 0 1 u g))))) = pol k nu u g := by unfold pol; rw [if_neg c_7, if_neg c_8, if_neg c_9]; rfl
        rw [e9] at hP9 hD9
        exact W.vret hx hb hr (fun t8 ht hW => ⟨⟨(), rfl, trivial, by rw [ht]; exact hP9, va_K.moved hW.alike hK9, hD9⟩, hS.F ht⟩) hS.2.2 dX0_polarise_94
      · have c_9 : nu = 2 := ax_fneFN (by omega) (by omega) c_9
        refine lv_iconst (v := 1) hx hb dX0_polarise_49 (by decide) ?_
        refine lv_goto (tgt := 54) hx hb dX0_polarise_50 (by decide) ?_
        refine lv_istore (lv' := [(5, .int 1), (4, .int (nI (8 * k + 4))), (3, .int (nI (8 * k))), (0, .ref xl), (1, .int (nI k)), (2, .int (nI nu))]) hx hb dX0_polarise_54 hl (by decide) rfl (fun ls hl => ?_)
        refine lv_aload_n hx hb dX0_polarise_56 rfl (lv_at hl 3 rfl) ?_
        refine lv_iload_n hx hb dX0_polarise_57 rfl (lv_at hl 2 rfl) ?_
        refine lv_iload_n hx hb dX0_polarise_58 rfl (lv_at hl 2 rfl) ?_
        refine lv_iconst (v := 0) hx hb dX0_polarise_59 (by decide) ?_
        refine lv_iconst (v := 1) hx hb dX0_polarise_60 (by decide) ?_
        have hPc := hP.sub (ws' := [(xl, .inr (0, [.ref xn, .ref xm])), (xn, .inl (cL, 64, .inr (.inl u))), (xm, .inl (cL, 64, .inr (.inl g)))]) [0, 1, 2] rfl
        have hKc := hK.sub (tys' := [(cL, .long)]) [0] rfl
        have hDc := hD.sub (ws' := [(xl, .inr (0, [.ref xn, .ref xm])), (xn, .inl (cL, 64, .inr (.inl u))), (xm, .inl (cL, 64, .inr (.inl g)))]) [0, 1, 2] (by decide) rfl
        have hFc := va_free (wc := [(xl, .inr (0, [.ref xn, .ref xm])), (xn, .inl (cL, 64, .inr (.inl u))), (xm, .inl (cL, 64, .inr (.inl g)))]) hD hS hA [0, 1, 2] rfl
        refine va_callv (va_runV (As := [.int (nI (8 * k)), .int (nI (8 * k)), .int 0, .int 1]) (rest := []) ⟨hx, hb, hml, hown, hts⟩ (c_X0_add l dC dI xl xn xm cL ta H.size u g (8 * k) (8 * k) 0 1 0 (by omega) (by omega) (by decide) (by omega)) (cwV 4 hts gX0_polarise_X0_add rfl rfl rfl (by decide +kernel) ⟨Nat.le_of_ble_eq_true rfl, Nat.le_of_ble_eq_true rfl⟩) ⟨ax_fbW, va_recv hK hP (ci := 0) (q0 := 0) rfl rfl, ax_prW hPc hKc hDc hS hFc hE⟩ rfl rfl hl.1 rfl (lv_room (Nat.le_of_ble_eq_true rfl)) dX0_polarise_61 ⟨Nat.le_of_ble_eq_true rfl, Nat.le_of_ble_eq_true rfl⟩) hS (fun q _ h9 => hFc q h9) hFc (fun u_28 t8 H locs ht hvm hw_27 hB hz1 hk1 hS => ?_)
        obtain ⟨hP1, hK1, hD1⟩ := hB
        rw [ht] at hP1
        have hK1 := va_K.moved hvm.symm hK1
        obtain ⟨hP, hD⟩ := va_join (wr := []) (w1 := [(xl, .inr (0, [.ref xn, .ref xm])), (xn, .inl (cL, 64, .inr (.inl u))), (xm, .inl (cL, 64, .inr (.inl (ad (8 * k) (8 * k) 0 1 u g))))]) hP hD [0, 1, 2] [] rfl rfl (by decide) (by decide) hk1 hFc hP1 hD1
        have hP : va_P (dC, dI) vwCl [(xl, .inr (0, [.ref xn, .ref xm])), (xn, .inl (cL, 64, .inr (.inl u))), (xm, .inl (cL, 64, .inr (.inl (ad (8 * k) (8 * k) 0 1 u g))))] H := hP
        have hD : va_D A [(xl, .inr (0, [.ref xn, .ref xm])), (xn, .inl (cL, 64, .inr (.inl u))), (xm, .inl (cL, 64, .inr (.inl (ad (8 * k) (8 * k) 0 1 u g))))] := hD
        refine lv_aload_n hx hb dX0_polarise_64 rfl (lv_at hl 3 rfl) ?_
        refine lv_iload hx hb dX0_polarise_65 (lv_at hl 1 rfl) ?_
        refine lv_iload_n hx hb dX0_polarise_67 rfl (lv_at hl 2 rfl) ?_
        refine lv_iconst (v := 0) hx hb dX0_polarise_68 (by decide) ?_
        refine lv_iload hx hb dX0_polarise_69 (lv_at hl 0 rfl) ?_
        have hPc := hP.sub (ws' := [(xl, .inr (0, [.ref xn, .ref xm])), (xn, .inl (cL, 64, .inr (.inl u))), (xm, .inl (cL, 64, .inr (.inl (ad (8 * k) (8 * k) 0 1 u g))))]) [0, 1, 2] rfl
        have hKc := hK.sub (tys' := [(cL, .long)]) [0] rfl
        have hDc := hD.sub (ws' := [(xl, .inr (0, [.ref xn, .ref xm])), (xn, .inl (cL, 64, .inr (.inl u))), (xm, .inl (cL, 64, .inr (.inl (ad (8 * k) (8 * k) 0 1 u g))))]) [0, 1, 2] (by decide) rfl
        have hFc := va_free (wc := [(xl, .inr (0, [.ref xn, .ref xm])), (xn, .inl (cL, 64, .inr (.inl u))), (xm, .inl (cL, 64, .inr (.inl (ad (8 * k) (8 * k) 0 1 u g))))]) hD hS hA [0, 1, 2] rfl
        refine va_callv (va_runV (As := [.int (nI (8 * k + 4)), .int (nI (8 * k)), .int 0, .int 1]) (rest := []) ⟨hx, hb, hml, hown, hts⟩ (c_X0_add l dC dI xl xn xm cL ta H.size u (ad (8 * k) (8 * k) 0 1 u g) (8 * k + 4) (8 * k) 0 1 0 (by omega) (by omega) (by decide) (by omega)) (cwV 4 hts gX0_polarise_X0_add rfl rfl rfl (by decide +kernel) ⟨Nat.le_of_ble_eq_true rfl, Nat.le_of_ble_eq_true rfl⟩) ⟨ax_fbW, va_recv hK hP (ci := 0) (q0 := 0) rfl rfl, ax_prW hPc hKc hDc hS hFc hE⟩ rfl rfl hl.1 rfl (lv_room (Nat.le_of_ble_eq_true rfl)) dX0_polarise_71 ⟨Nat.le_of_ble_eq_true rfl, Nat.le_of_ble_eq_true rfl⟩) hS (fun q _ h9 => hFc q h9) hFc (fun u_32 t8 H locs ht hvm hw_31 hB hz1 hk1 hS => ?_)
        obtain ⟨hP1, hK1, hD1⟩ := hB
        rw [ht] at hP1
        have hK1 := va_K.moved hvm.symm hK1
        obtain ⟨hP, hD⟩ := va_join (wr := []) (w1 := [(xl, .inr (0, [.ref xn, .ref xm])), (xn, .inl (cL, 64, .inr (.inl u))), (xm, .inl (cL, 64, .inr (.inl (ad (8 * k + 4) (8 * k) 0 1 u (ad (8 * k) (8 * k) 0 1 u g)))))]) hP hD [0, 1, 2] [] rfl rfl (by decide) (by decide) hk1 hFc hP1 hD1
        have hP : va_P (dC, dI) vwCl [(xl, .inr (0, [.ref xn, .ref xm])), (xn, .inl (cL, 64, .inr (.inl u))), (xm, .inl (cL, 64, .inr (.inl (ad (8 * k + 4) (8 * k) 0 1 u (ad (8 * k) (8 * k) 0 1 u g)))))] H := hP
        have hD : va_D A [(xl, .inr (0, [.ref xn, .ref xm])), (xn, .inl (cL, 64, .inr (.inl u))), (xm, .inl (cL, 64, .inr (.inl (ad (8 * k + 4) (8 * k) 0 1 u (ad (8 * k) (8 * k) 0 1 u g)))))] := hD
        refine lv_aload_n hx hb dX0_polarise_74 rfl (lv_at hl 3 rfl) ?_
        refine lv_iload hx hb dX0_polarise_75 (lv_at hl 1 rfl) ?_
        refine lv_iload hx hb dX0_polarise_77 (lv_at hl 1 rfl) ?_
        refine lv_iconst (v := 0) hx hb dX0_polarise_79 (by decide) ?_
        refine lv_iconst (v := 1) hx hb dX0_polarise_80 (by decide) ?_
        have hPc := hP.sub (ws' := [(xl, .inr (0, [.ref xn, .ref xm])), (xn, .inl (cL, 64, .inr (.inl u))), (xm, .inl (cL, 64, .inr (.inl (ad (8 * k + 4) (8 * k) 0 1 u (ad (8 * k) (8 * k) 0 1 u g)))))]) [0, 1, 2] rfl
        have hKc := hK.sub (tys' := [(cL, .long)]) [0] rfl
        have hDc := hD.sub (ws' := [(xl, .inr (0, [.ref xn, .ref xm])), (xn, .inl (cL, 64, .inr (.inl u))), (xm, .inl (cL, 64, .inr (.inl (ad (8 * k + 4) (8 * k) 0 1 u (ad (8 * k) (8 * k) 0 1 u g)))))]) [0, 1, 2] (by decide) rfl
        have hFc := va_free (wc := [(xl, .inr (0, [.ref xn, .ref xm])), (xn, .inl (cL, 64, .inr (.inl u))), (xm, .inl (cL, 64, .inr (.inl (ad (8 * k + 4) (8 * k) 0 1 u (ad (8 * k) (8 * k) 0 1 u g)))))]) hD hS hA [0, 1, 2] rfl
        refine va_callv (va_runV (As := [.int (nI (8 * k + 4)), .int (nI (8 * k + 4)), .int 0, .int 1]) (rest := []) ⟨hx, hb, hml, hown, hts⟩ (c_X0_add l dC dI xl xn xm cL ta H.size u (ad (8 * k + 4) (8 * k) 0 1 u (ad (8 * k) (8 * k) 0 1 u g)) (8 * k + 4) (8 * k + 4) 0 1 0 (by omega) (by omega) (by decide) (by omega)) (cwV 4 hts gX0_polarise_X0_add rfl rfl rfl (by decide +kernel) ⟨Nat.le_of_ble_eq_true rfl, Nat.le_of_ble_eq_true rfl⟩) ⟨ax_fbW, va_recv hK hP (ci := 0) (q0 := 0) rfl rfl, ax_prW hPc hKc hDc hS hFc hE⟩ rfl rfl hl.1 rfl (lv_room (Nat.le_of_ble_eq_true rfl)) dX0_polarise_81 ⟨Nat.le_of_ble_eq_true rfl, Nat.le_of_ble_eq_true rfl⟩) hS (fun q _ h9 => hFc q h9) hFc (fun u_36 t8 H locs ht hvm hw_35 hB hz1 hk1 hS => ?_)
        obtain ⟨hP1, hK1, hD1⟩ := hB
        rw [ht] at hP1
        have hK1 := va_K.moved hvm.symm hK1
        obtain ⟨hP, hD⟩ := va_join (wr := []) (w1 := [(xl, .inr (0, [.ref xn, .ref xm])), (xn, .inl (cL, 64, .inr (.inl u))), (xm, .inl (cL, 64, .inr (.inl (ad (8 * k + 4) (8 * k + 4) 0 1 u (ad (8 * k + 4) (8 * k) 0 1 u (ad (8 * k) (8 * k) 0 1 u g))))))]) hP hD [0, 1, 2] [] rfl rfl (by decide) (by decide) hk1 hFc hP1 hD1
        have hP : va_P (dC, dI) vwCl [(xl, .inr (0, [.ref xn, .ref xm])), (xn, .inl (cL, 64, .inr (.inl u))), (xm, .inl (cL, 64, .inr (.inl (ad (8 * k + 4) (8 * k + 4) 0 1 u (ad (8 * k + 4) (8 * k) 0 1 u (ad (8 * k) (8 * k) 0 1 u g))))))] H := hP
        have hD : va_D A [(xl, .inr (0, [.ref xn, .ref xm])), (xn, .inl (cL, 64, .inr (.inl u))), (xm, .inl (cL, 64, .inr (.inl (ad (8 * k + 4) (8 * k + 4) 0 1 u (ad (8 * k + 4) (8 * k) 0 1 u (ad (8 * k) (8 * k) 0 1 u g))))))] := hD
        refine lv_aload_n hx hb dX0_polarise_84 rfl (lv_at hl 3 rfl) ?_
        refine lv_iload_n hx hb dX0_polarise_85 rfl (lv_at hl 2 rfl) ?_
        refine lv_iload hx hb dX0_polarise_86 (lv_at hl 1 rfl) ?_
        refine lv_iconst (v := 0) hx hb dX0_polarise_88 (by decide) ?_
        refine lv_iload hx hb dX0_polarise_89 (lv_at hl 0 rfl) ?_
        have hPc := hP.sub (ws' := [(xl, .inr (0, [.ref xn, .ref xm])), (xn, .inl (cL, 64, .inr (.inl u))), (xm, .inl (cL, 64, .inr (.inl (ad (8 * k + 4) (8 * k + 4) 0 1 u (ad (8 * k + 4) (8 * k) 0 1 u (ad (8 * k) (8 * k) 0 1 u g))))))]) [0, 1, 2] rfl
        have hKc := hK.sub (tys' := [(cL, .long)]) [0] rfl
        have hDc := hD.sub (ws' := [(xl, .inr (0, [.ref xn, .ref xm])), (xn, .inl (cL, 64, .inr (.inl u))), (xm, .inl (cL, 64, .inr (.inl (ad (8 * k + 4) (8 * k + 4) 0 1 u (ad (8 * k + 4) (8 * k) 0 1 u (ad (8 * k) (8 * k) 0 1 u g))))))]) [0, 1, 2] (by decide) rfl
        have hFc := va_free (wc := [(xl, .inr (0, [.ref xn, .ref xm])), (xn, .inl (cL, 64, .inr (.inl u))), (xm, .inl (cL, 64, .inr (.inl (ad (8 * k + 4) (8 * k + 4) 0 1 u (ad (8 * k + 4) (8 * k) 0 1 u (ad (8 * k) (8 * k) 0 1 u g))))))]) hD hS hA [0, 1, 2] rfl
        refine va_callv (va_runV (As := [.int (nI (8 * k)), .int (nI (8 * k + 4)), .int 0, .int 1]) (rest := []) ⟨hx, hb, hml, hown, hts⟩ (c_X0_add l dC dI xl xn xm cL ta H.size u (ad (8 * k + 4) (8 * k + 4) 0 1 u (ad (8 * k + 4) (8 * k) 0 1 u (ad (8 * k) (8 * k) 0 1 u g))) (8 * k) (8 * k + 4) 0 1 0 (by omega) (by omega) (by decide) (by omega)) (cwV 4 hts gX0_polarise_X0_add rfl rfl rfl (by decide +kernel) ⟨Nat.le_of_ble_eq_true rfl, Nat.le_of_ble_eq_true rfl⟩) ⟨ax_fbW, va_recv hK hP (ci := 0) (q0 := 0) rfl rfl, ax_prW hPc hKc hDc hS hFc hE⟩ rfl rfl hl.1 rfl (lv_room (Nat.le_of_ble_eq_true rfl)) dX0_polarise_91 ⟨Nat.le_of_ble_eq_true rfl, Nat.le_of_ble_eq_true rfl⟩) hS (fun q _ h9 => hFc q h9) hFc (fun u_40 t8 H locs ht hvm hw_39 hB hz1 hk1 hS => ?_)
        obtain ⟨hP1, hK1, hD1⟩ := hB
        rw [ht] at hP1
        have hK1 := va_K.moved hvm.symm hK1
        obtain ⟨hP, hD⟩ := va_join (wr := []) (w1 := [(xl, .inr (0, [.ref xn, .ref xm])), (xn, .inl (cL, 64, .inr (.inl u))), (xm, .inl (cL, 64, .inr (.inl (ad (8 * k) (8 * k + 4) 0 1 u (ad (8 * k + 4) (8 * k + 4) 0 1 u (ad (8 * k + 4) (8 * k) 0 1 u (ad (8 * k) (8 * k) 0 1 u g)))))))]) hP hD [0, 1, 2] [] rfl rfl (by decide) (by decide) hk1 hFc hP1 hD1
        have hP : va_P (dC, dI) vwCl [(xl, .inr (0, [.ref xn, .ref xm])), (xn, .inl (cL, 64, .inr (.inl u))), (xm, .inl (cL, 64, .inr (.inl (ad (8 * k) (8 * k + 4) 0 1 u (ad (8 * k + 4) (8 * k + 4) 0 1 u (ad (8 * k + 4) (8 * k) 0 1 u (ad (8 * k) (8 * k) 0 1 u g)))))))] H := hP
        have hD : va_D A [(xl, .inr (0, [.ref xn, .ref xm])), (xn, .inl (cL, 64, .inr (.inl u))), (xm, .inl (cL, 64, .inr (.inl (ad (8 * k) (8 * k + 4) 0 1 u (ad (8 * k + 4) (8 * k + 4) 0 1 u (ad (8 * k + 4) (8 * k) 0 1 u (ad (8 * k) (8 * k) 0 1 u g)))))))] := hD
        refine W.widen (k := 0) (n := 0) (Nat.le_of_ble_eq_true rfl) (Nat.le_of_ble_eq_true rfl) ?_
        have hP9 := hP.sub (ws' := [(xl, .inr (0, [.ref xn, .ref xm])), (xn, .inl (cL, 64, .inr (.inl u))), (xm, .inl (cL, 64, .inr (.inl (ad (8 * k) (8 * k + 4) 0 1 u (ad (8 * k + 4) (8 * k + 4) 0 1 u (ad (8 * k + 4) (8 * k) 0 1 u (ad (8 * k) (8 * k) 0 1 u g)))))))]) [0, 1, 2] rfl
        have hD9 := hD.sub (ws' := [(xl, .inr (0, [.ref xn, .ref xm])), (xn, .inl (cL, 64, .inr (.inl u))), (xm, .inl (cL, 64, .inr (.inl (ad (8 * k) (8 * k + 4) 0 1 u (ad (8 * k + 4) (8 * k + 4) 0 1 u (ad (8 * k + 4) (8 * k) 0 1 u (ad (8 * k) (8 * k) 0 1 u g)))))))]) [0, 1, 2] (by decide) rfl
        have hK9 := hK.sub (tys' := [(cL, .long)]) [0] rfl
        have e9 : ((ad (8 * k) (8 * k + 4) 0 1 u (ad (8 * k + 4) (8 * k + 4) 0 1 u (ad (8 * k + 4) (8 * k) 0 1 u (ad (8 * k) (8 * k) 0 1 u g))))) = pol k nu u g := by unfold pol; rw [if_neg c_7, if_neg c_8, if_pos c_9]; rfl
        rw [e9] at hP9 hD9
        exact W.vret hx hb hr (fun t8 ht hW => ⟨⟨(), rfl, trivial, by rw [ht]; exact hP9, va_K.moved hW.alike hK9, hD9⟩, hS.F ht⟩) hS.2.2 dX0_polarise_94
    · have c_8 : nu = 1 := ax_fneFN (by omega) (by omega) c_8
      refine lv_aload_n hx hb dX0_polarise_31 rfl (lv_at hl 2 rfl) ?_
      refine lv_iload hx hb dX0_polarise_32 (lv_at hl 0 rfl) ?_
      refine lv_iload hx hb dX0_polarise_34 (lv_at hl 0 rfl) ?_
      refine lv_iconst (v := 0) hx hb dX0_polarise_36 (by decide) ?_
      refine lv_iconst (v := 1) hx hb dX0_polarise_37 (by decide) ?_
      have hPc := hP.sub (ws' := [(xl, .inr (0, [.ref xn, .ref xm])), (xn, .inl (cL, 64, .inr (.inl u))), (xm, .inl (cL, 64, .inr (.inl g)))]) [0, 1, 2] rfl
      have hKc := hK.sub (tys' := [(cL, .long)]) [0] rfl
      have hDc := hD.sub (ws' := [(xl, .inr (0, [.ref xn, .ref xm])), (xn, .inl (cL, 64, .inr (.inl u))), (xm, .inl (cL, 64, .inr (.inl g)))]) [0, 1, 2] (by decide) rfl
      have hFc := va_free (wc := [(xl, .inr (0, [.ref xn, .ref xm])), (xn, .inl (cL, 64, .inr (.inl u))), (xm, .inl (cL, 64, .inr (.inl g)))]) hD hS hA [0, 1, 2] rfl
      refine va_callv (va_runV (As := [.int (nI (8 * k + 4)), .int (nI (8 * k + 4)), .int 0, .int 1]) (rest := []) ⟨hx, hb, hml, hown, hts⟩ (c_X0_add l dC dI xl xn xm cL ta H.size u g (8 * k + 4) (8 * k + 4) 0 1 0 (by omega) (by omega) (by decide) (by omega)) (cwV 4 hts gX0_polarise_X0_add rfl rfl rfl (by decide +kernel) ⟨Nat.le_of_ble_eq_true rfl, Nat.le_of_ble_eq_true rfl⟩) ⟨ax_fbW, va_recv hK hP (ci := 0) (q0 := 0) rfl rfl, ax_prW hPc hKc hDc hS hFc hE⟩ rfl rfl hl.1 rfl (lv_room (Nat.le_of_ble_eq_true rfl)) dX0_polarise_38 ⟨Nat.le_of_ble_eq_true rfl, Nat.le_of_ble_eq_true rfl⟩) hS (fun q _ h9 => hFc q h9) hFc (fun u_44 t8 H locs ht hvm hw_43 hB hz1 hk1 hS => ?_)
      obtain ⟨hP1, hK1, hD1⟩ := hB
      rw [ht] at hP1
      have hK1 := va_K.moved hvm.symm hK1
      obtain ⟨hP, hD⟩ := va_join (wr := []) (w1 := [(xl, .inr (0, [.ref xn, .ref xm])), (xn, .inl (cL, 64, .inr (.inl u))), (xm, .inl (cL, 64, .inr (.inl (ad (8 * k + 4) (8 * k + 4) 0 1 u g))))]) hP hD [0, 1, 2] [] rfl rfl (by decide) (by decide) hk1 hFc hP1 hD1
      have hP : va_P (dC, dI) vwCl [(xl, .inr (0, [.ref xn, .ref xm])), (xn, .inl (cL, 64, .inr (.inl u))), (xm, .inl (cL, 64, .inr (.inl (ad (8 * k + 4) (8 * k + 4) 0 1 u g))))] H := hP
      have hD : va_D A [(xl, .inr (0, [.ref xn, .ref xm])), (xn, .inl (cL, 64, .inr (.inl u))), (xm, .inl (cL, 64, .inr (.inl (ad (8 * k + 4) (8 * k + 4) 0 1 u g))))] := hD
      refine lv_goto (tgt := 94) hx hb dX0_polarise_41 (by decide) ?_
      refine W.widen (k := 0) (n := 0) (Nat.le_of_ble_eq_true rfl) (Nat.le_of_ble_eq_true rfl) ?_
      have hP9 := hP.sub (ws' := [(xl, .inr (0, [.ref xn, .ref xm])), (xn, .inl (cL, 64, .inr (.inl u))), (xm, .inl (cL, 64, .inr (.inl (ad (8 * k + 4) (8 * k + 4) 0 1 u g))))]) [0, 1, 2] rfl
      have hD9 := hD.sub (ws' := [(xl, .inr (0, [.ref xn, .ref xm])), (xn, .inl (cL, 64, .inr (.inl u))), (xm, .inl (cL, 64, .inr (.inl (ad (8 * k + 4) (8 * k + 4) 0 1 u g))))]) [0, 1, 2] (by decide) rfl
      have hK9 := hK.sub (tys' := [(cL, .long)]) [0] rfl
      have e9 : ((ad (8 * k + 4) (8 * k + 4) 0 1 u g)) = pol k nu u g := by unfold pol; rw [if_neg c_7, if_pos c_8]
      rw [e9] at hP9 hD9
      exact W.vret hx hb hr (fun t8 ht hW => ⟨⟨(), rfl, trivial, by rw [ht]; exact hP9, va_K.moved hW.alike hK9, hD9⟩, hS.F ht⟩) hS.2.2 dX0_polarise_94
  · have c_7 : nu = 0 := ax_fneFN (by omega) (by omega) c_7
    refine lv_aload_n hx hb dX0_polarise_15 rfl (lv_at hl 2 rfl) ?_
    refine lv_iload_n hx hb dX0_polarise_16 rfl (lv_at hl 1 rfl) ?_
    refine lv_iload_n hx hb dX0_polarise_17 rfl (lv_at hl 1 rfl) ?_
    refine lv_iconst (v := 0) hx hb dX0_polarise_18 (by decide) ?_
    refine lv_iconst (v := 1) hx hb dX0_polarise_19 (by decide) ?_
    have hPc := hP.sub (ws' := [(xl, .inr (0, [.ref xn, .ref xm])), (xn, .inl (cL, 64, .inr (.inl u))), (xm, .inl (cL, 64, .inr (.inl g)))]) [0, 1, 2] rfl
    have hKc := hK.sub (tys' := [(cL, .long)]) [0] rfl
    have hDc := hD.sub (ws' := [(xl, .inr (0, [.ref xn, .ref xm])), (xn, .inl (cL, 64, .inr (.inl u))), (xm, .inl (cL, 64, .inr (.inl g)))]) [0, 1, 2] (by decide) rfl
    have hFc := va_free (wc := [(xl, .inr (0, [.ref xn, .ref xm])), (xn, .inl (cL, 64, .inr (.inl u))), (xm, .inl (cL, 64, .inr (.inl g)))]) hD hS hA [0, 1, 2] rfl
    refine va_callv (va_runV (As := [.int (nI (8 * k)), .int (nI (8 * k)), .int 0, .int 1]) (rest := []) ⟨hx, hb, hml, hown, hts⟩ (c_X0_add l dC dI xl xn xm cL ta H.size u g (8 * k) (8 * k) 0 1 0 (by omega) (by omega) (by decide) (by omega)) (cwV 4 hts gX0_polarise_X0_add rfl rfl rfl (by decide +kernel) ⟨Nat.le_of_ble_eq_true rfl, Nat.le_of_ble_eq_true rfl⟩) ⟨ax_fbW, va_recv hK hP (ci := 0) (q0 := 0) rfl rfl, ax_prW hPc hKc hDc hS hFc hE⟩ rfl rfl hl.1 rfl (lv_room (Nat.le_of_ble_eq_true rfl)) dX0_polarise_20 ⟨Nat.le_of_ble_eq_true rfl, Nat.le_of_ble_eq_true rfl⟩) hS (fun q _ h9 => hFc q h9) hFc (fun u_48 t8 H locs ht hvm hw_47 hB hz1 hk1 hS => ?_)
    obtain ⟨hP1, hK1, hD1⟩ := hB
    rw [ht] at hP1
    have hK1 := va_K.moved hvm.symm hK1
    obtain ⟨hP, hD⟩ := va_join (wr := []) (w1 := [(xl, .inr (0, [.ref xn, .ref xm])), (xn, .inl (cL, 64, .inr (.inl u))), (xm, .inl (cL, 64, .inr (.inl (ad (8 * k) (8 * k) 0 1 u g))))]) hP hD [0, 1, 2] [] rfl rfl (by decide) (by decide) hk1 hFc hP1 hD1
    have hP : va_P (dC, dI) vwCl [(xl, .inr (0, [.ref xn, .ref xm])), (xn, .inl (cL, 64, .inr (.inl u))), (xm, .inl (cL, 64, .inr (.inl (ad (8 * k) (8 * k) 0 1 u g))))] H := hP
    have hD : va_D A [(xl, .inr (0, [.ref xn, .ref xm])), (xn, .inl (cL, 64, .inr (.inl u))), (xm, .inl (cL, 64, .inr (.inl (ad (8 * k) (8 * k) 0 1 u g))))] := hD
    refine lv_goto (tgt := 94) hx hb dX0_polarise_23 (by decide) ?_
    refine W.widen (k := 0) (n := 0) (Nat.le_of_ble_eq_true rfl) (Nat.le_of_ble_eq_true rfl) ?_
    have hP9 := hP.sub (ws' := [(xl, .inr (0, [.ref xn, .ref xm])), (xn, .inl (cL, 64, .inr (.inl u))), (xm, .inl (cL, 64, .inr (.inl (ad (8 * k) (8 * k) 0 1 u g))))]) [0, 1, 2] rfl
    have hD9 := hD.sub (ws' := [(xl, .inr (0, [.ref xn, .ref xm])), (xn, .inl (cL, 64, .inr (.inl u))), (xm, .inl (cL, 64, .inr (.inl (ad (8 * k) (8 * k) 0 1 u g))))]) [0, 1, 2] (by decide) rfl
    have hK9 := hK.sub (tys' := [(cL, .long)]) [0] rfl
    have e9 : ((ad (8 * k) (8 * k) 0 1 u g)) = pol k nu u g := by unfold pol; rw [if_pos c_7]
    rw [e9] at hP9 hD9
    exact W.vret hx hb hr (fun t8 ht hW => ⟨⟨(), rfl, trivial, by rw [ht]; exact hP9, va_K.moved hW.alike hK9, hD9⟩, hS.F ht⟩) hS.2.2 dX0_polarise_94

theorem ax_st0 {dp k j : Nat} {g : Nat → Int64} (h : dp / 2 ^ k % 2 = 0) : (if j < 8 * k then stl dp g j else g j) = if j < 8 * (k + 1) then stl dp g j else g j := by
  by_cases h1 : j < 8 * k
  · rw [if_pos h1, if_pos (by omega)]
  · rw [if_neg h1]
    by_cases h2 : j < 8 * (k + 1)
    · rw [if_pos h2]
      unfold stl
      rw [show j / 8 = k by omega, if_pos h]
    · rw [if_neg h2]
theorem ax_st1 {dp k j : Nat} {g : Nat → Int64} (h : ¬ dp / 2 ^ k % 2 = 0) : (if 8 * k ≤ j ∧ j < 8 * k + 8 then (0 : Int64) else if j < 8 * k then stl dp g j else g j) = if j < 8 * (k + 1) then stl dp g j else g j := by
  by_cases h0 : 8 * k ≤ j ∧ j < 8 * k + 8
  · rw [if_pos h0, if_pos (by omega)]
    unfold stl
    rw [show j / 8 = k by omega, if_neg h]
  · rw [if_neg h0]
    by_cases h1 : j < 8 * k
    · rw [if_pos h1, if_pos (by omega)]
    · rw [if_neg h1, if_neg (by omega)]

set_option maxHeartbeats 4000000 in
set_option maxRecDepth 100000 in
theorem c_X0_settle (l : Launch) (dC : Nat → ClassId) (dI : Nat → Nat → Nat) (xl xn xm : Nat) (cL : ClassId) (ta : Nat → Nat) (sz : Nat) (u : Nat → Int64) (g : Nat → Int64) (dp : Nat) (hdp : dp < 256) : Met l yX0_settle wsX0_settle ({ frames := 2, cells := 0, slots := 0, locals := 47 }) (va_Pc [.ref xl, .int (nI dp)] (ax_W (dC, dI) vwCl [(xl, .inr (0, [.ref xn, .ref xm])), (xn, .inl (cL, 64, .inr (.inl u))), (xm, .inl (cL, 64, .inr (.inl g)))] [(cL, .long)] ta sz)) (va_Qv (fun (u9 : Unit) => True) (fun (u9 : Unit) (t9 : State) => va_P (dC, dI) vwCl [(xl, .inr (0, [.ref xm, .ref xn])), (xm, .inl (cL, 64, .inr (.inl (stl dp g)))), (xn, .inl (cL, 64, .inr (.inl (fun _ => 0))))] t9.heap ∧ va_K (dC, dI) vwCl [(cL, .long)] t9 ∧ va_D (va_A [(xl, .inr (0, [.ref xn, .ref xm])), (xn, .inl (cL, 64, .inr (.inl u))), (xm, .inl (cL, 64, .inr (.inl g)))] sz) [(xl, .inr (0, [.ref xm, .ref xn])), (xm, .inl (cL, 64, .inr (.inl (stl dp g)))), (xn, .inl (cL, 64, .inr (.inl (fun _ => 0))))]) (va_A [(xl, .inr (0, [.ref xn, .ref xm])), (xn, .inl (cL, 64, .inr (.inl u))), (xm, .inl (cL, 64, .inr (.inl g)))] sz)) 0 0 (va_A [(xl, .inr (0, [.ref xn, .ref xm])), (xn, .inl (cL, 64, .inr (.inl u))), (xm, .inl (cL, 64, .inr (.inl g)))] sz) := by
  refine Met.ofW (cc := cX0_settle) (maxL := 3) (ret := none) (by decide) rfl ?_
  intro p e s m args below meth c s₁ B hml hv
  obtain ⟨rfl, hsz, hP, hK, hD0, hE⟩ := hv
  have hx := B.exec
  have hb := B.bytes
  have hr := B.returns
  have hts := atoms_spec (ws := wsX0_settle) B.pre
  have hown : s.vm.findClass RX0 = some m.cls := findClass_of_methodNamed B.named
  have hlocks := B.notSynchronized
  subst hsz
  have hD := hD0.self (sz := s.heap.size)
  generalize hAe : va_A [(xl, .inr (0, [.ref xn, .ref xm])), (xn, .inl (cL, 64, .inr (.inl u))), (xm, .inl (cL, 64, .inr (.inl g)))] s.heap.size = A at hD hE ⊢
  have hA : ∀ q : Nat, s.heap.size ≤ q → A q := fun q h => by rw [← hAe]; exact Or.inr h
  have hS : va_S A s.heap s.heap [] := va_S.rf
  have hl := lv_entry ([.ref xl, .int (nI dp)]) (n := 3) (Nat.le_of_ble_eq_true rfl)
  rw [lg_entry_eq]
  generalize (lg_sl ([.ref xl, .int (nI dp)]) ++ List.replicate (3 - (lg_sl ([.ref xl, .int (nI dp)])).length) Slot.unset).toArray = ls at hl ⊢
  have hl : lv_has ls 3 [(0, .ref xl), (1, .int (nI dp))] := hl
  have hP : va_P (dC, dI) vwCl [(xl, .inr (0, [.ref xn, .ref xm])), (xn, .inl (cL, 64, .inr (.inl u))), (xm, .inl (cL, 64, .inr (.inl g)))] s.heap := hP
  refine lv_iconst (v := 0) hx hb dX0_settle_0 (by decide) ?_
  refine lv_istore_n (lv' := [(2, .int 0), (0, .ref xl), (1, .int (nI dp))]) hx hb dX0_settle_1 rfl hl (by decide) rfl (fun ls hl => ?_)
  refine ax_loop (σ := Nat × (Nat → Int64)) (fun z9 H locs ls => (z9.1 ≤ 8) ∧ (∀ j, j < 64 → z9.2 j = if j < 8 * z9.1 then stl dp g j else g j) ∧ lv_has ls 3 [(2, .int (nI z9.1)), (0, .ref xl), (1, .int (nI dp))] ∧ va_P (dC, dI) vwCl [(xl, .inr (0, [.ref xn, .ref xm])), (xn, .inl (cL, 64, .inr (.inl u))), (xm, .inl (cL, 64, .inr (.inl z9.2)))] H ∧ va_D A [(xl, .inr (0, [.ref xn, .ref xm])), (xn, .inl (cL, 64, .inr (.inl u))), (xm, .inl (cL, 64, .inr (.inl z9.2)))] ∧ va_S A s.heap H locs) (fun z9 => 8 - z9.1) (fun z9 H locs ls hI ih => ?_) (0, g) ⟨by omega, fun j _ => by rw [if_neg (by omega)], hl, hP, hD, hS⟩
  obtain ⟨k, g1⟩ := z9
  obtain ⟨hk1, hg, hl, hP, hD, hS⟩ := hI
  have hk1 : k ≤ 8 := hk1
  have hg : ∀ j, j < 64 → g1 j = if j < 8 * k then stl dp g j else g j := hg
  have hl : lv_has ls 3 [(2, .int (nI k)), (0, .ref xl), (1, .int (nI dp))] := hl
  have hP : va_P (dC, dI) vwCl [(xl, .inr (0, [.ref xn, .ref xm])), (xn, .inl (cL, 64, .inr (.inl u))), (xm, .inl (cL, 64, .inr (.inl g1)))] H := hP
  have hD : va_D A [(xl, .inr (0, [.ref xn, .ref xm])), (xn, .inl (cL, 64, .inr (.inl u))), (xm, .inl (cL, 64, .inr (.inl g1)))] := hD
  have ih_1 := ih; clear ih
  refine lv_iload_n hx hb dX0_settle_2 rfl (lv_at hl 0 rfl) ?_
  refine lv_bipush (v := 8) hx hb dX0_settle_3 (by decide) ?_
  refine lv_icmp_ge (tgt := 41) hx hb dX0_settle_5 (by decide) (fun c_2 => ?_) (fun c_2 => ?_)
  · have c_2 : ¬ k < 8 := ax_fgeTN (by omega) (by omega) c_2
    refine lv_aload_n hx hb dX0_settle_41 rfl (lv_at hl 1 rfl) ?_
    refine va_get (D := (dC, dI)) (ci := 0) (v := .ref xn) (C := RX0) (T := TX0) (N := 2) hx hb hts (by decide +kernel) hown hK hP 0 rfl rfl 0 (by decide) (hts (.fieldLink RX0 11 "Diffractory$Light" "now" "[J") (by decide +kernel)) (fun _ h9 => h9) rfl dX0_settle_42 ?_
    refine lv_astore_n (lv' := [(2, .ref xn), (0, .ref xl), (1, .int (nI dp))]) hx hb dX0_settle_45 rfl hl (by decide) rfl (fun ls hl => ?_)
    refine lv_aload_n hx hb dX0_settle_46 rfl (lv_at hl 1 rfl) ?_
    refine lv_aload_n hx hb dX0_settle_47 rfl (lv_at hl 1 rfl) ?_
    refine va_get (D := (dC, dI)) (ci := 0) (v := .ref xm) (C := RX0) (T := TX0) (N := 2) hx hb hts (by decide +kernel) hown hK hP 0 rfl rfl 1 (by decide) (hts (.fieldLink RX0 15 "Diffractory$Light" "next" "[J") (by decide +kernel)) (fun _ h9 => h9) rfl dX0_settle_48 ?_
    refine va_put (D := (dC, dI)) (ci := 0) (v := .ref xm) (ty := .array .long) (C := RX0) (T := TX0) (N := 2) hx hb hts (by decide +kernel) tyX0 tyX0_ok nmX0 hown hK hP hD hS 0 rfl rfl 0 (by decide) (hts (.fieldLink RX0 11 "Diffractory$Light" "now" "[J") (by decide +kernel)) (fun _ h9 => h9) rfl (by decide +kernel) rfl rfl (Nat.le_of_ble_eq_true rfl) dX0_settle_51 (fun H locs hP hD hS => ?_)
    have hP : va_P (dC, dI) vwCl [(xl, .inr (0, [.ref xm, .ref xm])), (xn, .inl (cL, 64, .inr (.inl u))), (xm, .inl (cL, 64, .inr (.inl g1)))] H := hP
    have hD : va_D A [(xl, .inr (0, [.ref xm, .ref xm])), (xn, .inl (cL, 64, .inr (.inl u))), (xm, .inl (cL, 64, .inr (.inl g1)))] := hD
    refine lv_aload_n hx hb dX0_settle_54 rfl (lv_at hl 1 rfl) ?_
    refine lv_aload_n hx hb dX0_settle_55 rfl (lv_at hl 0 rfl) ?_
    refine va_put (D := (dC, dI)) (ci := 0) (v := .ref xn) (ty := .array .long) (C := RX0) (T := TX0) (N := 2) hx hb hts (by decide +kernel) tyX0 tyX0_ok nmX0 hown hK hP hD hS 0 rfl rfl 1 (by decide) (hts (.fieldLink RX0 15 "Diffractory$Light" "next" "[J") (by decide +kernel)) (fun _ h9 => h9) rfl (by decide +kernel) rfl rfl (Nat.le_of_ble_eq_true rfl) dX0_settle_56 (fun H locs hP hD hS => ?_)
    have hP : va_P (dC, dI) vwCl [(xl, .inr (0, [.ref xm, .ref xn])), (xn, .inl (cL, 64, .inr (.inl u))), (xm, .inl (cL, 64, .inr (.inl g1)))] H := hP
    have hD : va_D A [(xl, .inr (0, [.ref xm, .ref xn])), (xn, .inl (cL, 64, .inr (.inl u))), (xm, .inl (cL, 64, .inr (.inl g1)))] := hD
    refine lv_aload_n hx hb dX0_settle_59 rfl (lv_at hl 1 rfl) ?_
    refine va_get (D := (dC, dI)) (ci := 0) (v := .ref xn) (C := RX0) (T := TX0) (N := 2) hx hb hts (by decide +kernel) hown hK hP 0 rfl rfl 1 (by decide) (hts (.fieldLink RX0 15 "Diffractory$Light" "next" "[J") (by decide +kernel)) (fun _ h9 => h9) rfl dX0_settle_60 ?_
    refine lv_lconst (v := 0) hx hb dX0_settle_63 (by decide) ?_
    have hPc := hP.sub (ws' := [(xn, .inl (cL, 64, .inr (.inl u)))]) [1] rfl
    have hKc := hK.sub (tys' := [(cL, .long)]) [0] rfl
    have hDc := hD.sub (ws' := [(xn, .inl (cL, 64, .inr (.inl u)))]) [1] (by decide) rfl
    have hFc := va_free (wc := [(xn, .inl (cL, 64, .inr (.inl u)))]) hD hS hA [1] rfl
    refine va_callv (va_runS (As := [.ref xn, .long 0]) (rest := []) ⟨hx, hb, hml, hown, hts⟩ (c_J7_fill_d0a16 l dC dI xn cL ta H.size u 64 0 (by omega)) (va_cwS 2 hts gX0_settle_J7_fill_d0a16 rfl rfl rfl (by decide +kernel) ⟨Nat.le_of_ble_eq_true rfl, Nat.le_of_ble_eq_true rfl⟩) ⟨ax_fbW, ax_prW hPc hKc hDc hS hFc hE⟩ rfl rfl hl.1 rfl (lv_room (Nat.le_of_ble_eq_true rfl)) dX0_settle_64 ⟨Nat.le_of_ble_eq_true rfl, Nat.le_of_ble_eq_true rfl⟩) hS (fun q _ h9 => hFc q h9) hFc (fun u_5 t8 H locs ht hvm hw_4 hB hz1 hk1 hS => ?_)
    obtain ⟨hP1, hK1, hD1⟩ := hB
    rw [ht] at hP1
    have hK1 := va_K.moved hvm.symm hK1
    obtain ⟨hP, hD⟩ := va_join (wr := [(xl, .inr (0, [.ref xm, .ref xn])), (xm, .inl (cL, 64, .inr (.inl g1)))]) (w1 := [(xn, .inl (cL, 64, .inr (.inl (fun _ => 0))))]) hP hD [1] [0, 2] rfl rfl (by decide) (by decide) hk1 hFc hP1 hD1
    have hP : va_P (dC, dI) vwCl [(xl, .inr (0, [.ref xm, .ref xn])), (xm, .inl (cL, 64, .inr (.inl g1))), (xn, .inl (cL, 64, .inr (.inl (fun _ => 0))))] H := hP
    have hD : va_D A [(xl, .inr (0, [.ref xm, .ref xn])), (xm, .inl (cL, 64, .inr (.inl g1))), (xn, .inl (cL, 64, .inr (.inl (fun _ => 0))))] := hD
    refine W.widen (k := 0) (n := 0) (Nat.le_of_ble_eq_true rfl) (Nat.le_of_ble_eq_true rfl) ?_
    have hP9 := hP.sub (ws' := [(xl, .inr (0, [.ref xm, .ref xn])), (xm, .inl (cL, 64, .inr (.inl g1))), (xn, .inl (cL, 64, .inr (.inl (fun _ => 0))))]) [0, 1, 2] rfl
    have hD9 := hD.sub (ws' := [(xl, .inr (0, [.ref xm, .ref xn])), (xm, .inl (cL, 64, .inr (.inl g1))), (xn, .inl (cL, 64, .inr (.inl (fun _ => 0))))]) [0, 1, 2] (by decide) rfl
    have hK9 := hK.sub (tys' := [(cL, .long)]) [0] rfl
    have hP9 : va_P (dC, dI) vwCl [(xl, .inr (0, [.ref xm, .ref xn])), (xm, .inl (cL, 64, .inr (.inl (stl dp g)))), (xn, .inl (cL, 64, .inr (.inl (fun _ => 0))))] H := ax_arL 1 (stl dp g) rfl (fun j hj => by rw [hg j hj, if_pos (by omega)]) hP9
    have hD9 : va_D A [(xl, .inr (0, [.ref xm, .ref xn])), (xm, .inl (cL, 64, .inr (.inl (stl dp g)))), (xn, .inl (cL, 64, .inr (.inl (fun _ => 0))))] := hD9.set (p := 1) rfl
    exact W.vret hx hb hr (fun t8 ht hW => ⟨⟨(), rfl, trivial, by rw [ht]; exact hP9, va_K.moved hW.alike hK9, hD9⟩, hS.F ht⟩) hS.2.2 dX0_settle_67
  · have c_2 : k < 8 := ax_fgeFN (by omega) (by omega) c_2
    refine lv_iload_n hx hb dX0_settle_8 rfl (lv_at hl 2 rfl) ?_
    refine lv_iload_n hx hb dX0_settle_9 rfl (lv_at hl 0 rfl) ?_
    refine lv_ishr hx hb dX0_settle_10 ?_
    refine ax_i (y := (nI (dp / 2 ^ k))) (ax_shr (by omega) (by omega)) ?_
    have hsh_7 := Nat.div_le_self dp (2 ^ k)
    refine lv_iconst (v := 1) hx hb dX0_settle_11 (by decide) ?_
    refine lv_iand hx hb dX0_settle_12 ?_
    refine ax_i (y := (nI ((dp / 2 ^ k) % 2))) (pk_andN (by omega) 1 rfl) ?_
    refine lv_if_eq (tgt := 35) hx hb dX0_settle_13 (by decide) (fun c_8 => ?_) (fun c_8 => ?_)
    · have c_8 : ((dp / 2 ^ k) % 2) = 0 := ax_feqTN (by omega) (by omega) c_8
      refine lv_iinc (v := (nI (k + 1))) (lv' := [(2, .int (nI (k + 1))), (0, .ref xl), (1, .int (nI dp))]) hx hb dX0_settle_35 hl (k := 0) rfl (nI_succ _).symm (by decide) rfl (fun ls hl => ?_)
      refine lv_goto (tgt := 2) hx hb dX0_settle_38 (by decide) ?_
      exact ih_1 (k + 1, g1) H locs ls ⟨by omega, fun j hj => (hg j hj).trans (ax_st0 c_8), hl, hP, hD, hS⟩ (show 8 - (k + 1) < 8 - k by omega)
    · have c_8 : ¬ ((dp / 2 ^ k) % 2) = 0 := ax_feqFN (by omega) (by omega) c_8
      refine lv_aload_n hx hb dX0_settle_16 rfl (lv_at hl 1 rfl) ?_
      refine va_get (D := (dC, dI)) (ci := 0) (v := .ref xm) (C := RX0) (T := TX0) (N := 2) hx hb hts (by decide +kernel) hown hK hP 0 rfl rfl 1 (by decide) (hts (.fieldLink RX0 15 "Diffractory$Light" "next" "[J") (by decide +kernel)) (fun _ h9 => h9) rfl dX0_settle_17 ?_
      refine lv_iload_n hx hb dX0_settle_20 rfl (lv_at hl 0 rfl) ?_
      refine va_calli (va_runS (As := [.int (nI k)]) (rest := [.ref xm]) ⟨hx, hb, hml, hown, hts⟩ (c_X0_startOfX l k (by omega)) (va_cwS 1 hts gX0_settle_X0_startOfX rfl rfl rfl (by decide +kernel) ⟨Nat.le_of_ble_eq_true rfl, Nat.le_of_ble_eq_true rfl⟩) ⟨ax_fbP, ax_prP⟩ rfl rfl hl.1 rfl (lv_room (Nat.le_of_ble_eq_true rfl)) dX0_settle_21 ⟨Nat.le_of_ble_eq_true rfl, Nat.le_of_ble_eq_true rfl⟩) hS (fun _ _ h9 => h9.elim) (fun _ h9 => h9.elim) (fun r_9 u_11 t8 H locs ht hvm hw_10 hB hz1 hk1 hS => ?_)
      have hP := ax_keep hP (fun _ h9 => h9) hk1
      have hw_10 : r_9 = (nI (8 * k)) := hw_10
      refine ax_i (y := (nI (8 * k))) hw_10 ?_
      refine lv_iload_n hx hb dX0_settle_24 rfl (lv_at hl 0 rfl) ?_
      refine va_calli (va_runS (As := [.int (nI k)]) (rest := [.int (nI (8 * k)), .ref xm]) ⟨hx, hb, hml, hown, hts⟩ (c_X0_startOfX l k (by omega)) (va_cwS 1 hts gX0_settle_X0_startOfX rfl rfl rfl (by decide +kernel) ⟨Nat.le_of_ble_eq_true rfl, Nat.le_of_ble_eq_true rfl⟩) ⟨ax_fbP, ax_prP⟩ rfl rfl hl.1 rfl (lv_room (Nat.le_of_ble_eq_true rfl)) dX0_settle_25 ⟨Nat.le_of_ble_eq_true rfl, Nat.le_of_ble_eq_true rfl⟩) hS (fun _ _ h9 => h9.elim) (fun _ h9 => h9.elim) (fun r_12 u_14 t8 H locs ht hvm hw_13 hB hz1 hk1 hS => ?_)
      have hP := ax_keep hP (fun _ h9 => h9) hk1
      have hw_13 : r_12 = (nI (8 * k)) := hw_13
      refine ax_i (y := (nI (8 * k))) hw_13 ?_
      refine lv_bipush (v := 8) hx hb dX0_settle_28 (by decide) ?_
      refine lv_iadd hx hb dX0_settle_30 ?_
      refine ax_i (y := (nI ((8 * k) + 8))) (ax_addN (8 * k) 8) ?_
      refine lv_lconst (v := 0) hx hb dX0_settle_31 (by decide) ?_
      have hPc := hP.sub (ws' := [(xm, .inl (cL, 64, .inr (.inl g1)))]) [2] rfl
      have hKc := hK.sub (tys' := [(cL, .long)]) [0] rfl
      have hDc := hD.sub (ws' := [(xm, .inl (cL, 64, .inr (.inl g1)))]) [2] (by decide) rfl
      have hFc := va_free (wc := [(xm, .inl (cL, 64, .inr (.inl g1)))]) hD hS hA [2] rfl
      refine va_callv (va_runS (As := [.ref xm, .int (nI (8 * k)), .int (nI ((8 * k) + 8)), .long 0]) (rest := []) ⟨hx, hb, hml, hown, hts⟩ (c_J7_fill_bad5a l dC dI xm cL ta H.size g1 64 (8 * k) ((8 * k) + 8) 0 (by omega) (by omega) (by omega)) (va_cwS 4 hts gX0_settle_J7_fill_bad5a rfl rfl rfl (by decide +kernel) ⟨Nat.le_of_ble_eq_true rfl, Nat.le_of_ble_eq_true rfl⟩) ⟨ax_fbW, ax_prW hPc hKc hDc hS hFc hE⟩ rfl rfl hl.1 rfl (lv_room (Nat.le_of_ble_eq_true rfl)) dX0_settle_32 ⟨Nat.le_of_ble_eq_true rfl, Nat.le_of_ble_eq_true rfl⟩) hS (fun q _ h9 => hFc q h9) hFc (fun u_17 t8 H locs ht hvm hw_16 hB hz1 hk1 hS => ?_)
      obtain ⟨hP1, hK1, hD1⟩ := hB
      rw [ht] at hP1
      have hK1 := va_K.moved hvm.symm hK1
      obtain ⟨hP, hD⟩ := va_join (wr := [(xl, .inr (0, [.ref xn, .ref xm])), (xn, .inl (cL, 64, .inr (.inl u)))]) (w1 := [(xm, .inl (cL, 64, .inr (.inl (fun j => if (8 * k) ≤ j ∧ j < ((8 * k) + 8) then 0 else g1 j))))]) hP hD [2] [0, 1] rfl rfl (by decide) (by decide) hk1 hFc hP1 hD1
      have hP : va_P (dC, dI) vwCl [(xl, .inr (0, [.ref xn, .ref xm])), (xn, .inl (cL, 64, .inr (.inl u))), (xm, .inl (cL, 64, .inr (.inl (fun j => if (8 * k) ≤ j ∧ j < ((8 * k) + 8) then 0 else g1 j))))] H := hP
      have hD : va_D A [(xl, .inr (0, [.ref xn, .ref xm])), (xn, .inl (cL, 64, .inr (.inl u))), (xm, .inl (cL, 64, .inr (.inl (fun j => if (8 * k) ≤ j ∧ j < ((8 * k) + 8) then 0 else g1 j))))] := hD
      refine lv_iinc (v := (nI (k + 1))) (lv' := [(2, .int (nI (k + 1))), (0, .ref xl), (1, .int (nI dp))]) hx hb dX0_settle_35 hl (k := 0) rfl (nI_succ _).symm (by decide) rfl (fun ls hl => ?_)
      refine lv_goto (tgt := 2) hx hb dX0_settle_38 (by decide) ?_
      exact ih_1 (k + 1, (fun j => if (8 * k) ≤ j ∧ j < ((8 * k) + 8) then 0 else g1 j)) H locs ls ⟨by omega, fun j hj => by show (if 8 * k ≤ j ∧ j < 8 * k + 8 then (0 : Int64) else g1 j) = _; rw [hg j hj]; exact ax_st1 c_8, hl, hP, hD, hS⟩ (show 8 - (k + 1) < 8 - k by omega)
