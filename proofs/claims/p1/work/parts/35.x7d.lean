set_option maxHeartbeats 4000000 in
set_option maxRecDepth 100000 in
theorem c_X7_move (l : Launch) (dC : Nat → ClassId) (dI : Nat → Nat → Nat) (y ys yp : Nat) (sa ta : Nat → Nat) (sz : Nat) (th : Int32) (p0 : Int32) (p1 : Int32) (p2 : Int32) (p3 : Int32) : Met l yX7_move wsX7_move ({ frames := 24, cells := 0, slots := 0, locals := 600 }) (va_Pc [.ref y, .int p0, .int p1, .int p2, .int p3] (ax_W (dC, dI) vwCl [(y, .inr (11, [.int th, .ref ys, .ref yp, .int 0])), (ys, .inr (3, [.int 0, .ref (ta 4), .int 0])), (yp, .inr (3, [.int 0, .ref (ta 4), .int 0]))] [] sa ta sz)) (va_Qi (fun (r : Int32) (u : Int32) => u = 1) (fun (u : Int32) (t : State) => va_P (dC, dI) vwCl [(y, .inr (11, [.int u, .ref ys, .ref yp, .int 0]))] t.heap ∧ va_K (dC, dI) vwCl [] t ∧ va_D (va_A [(y, .inr (11, [.int th, .ref ys, .ref yp, .int 0])), (ys, .inr (3, [.int 0, .ref (ta 4), .int 0])), (yp, .inr (3, [.int 0, .ref (ta 4), .int 0]))] sz) [(y, .inr (11, [.int u, .ref ys, .ref yp, .int 0]))]) (va_A [(y, .inr (11, [.int th, .ref ys, .ref yp, .int 0])), (ys, .inr (3, [.int 0, .ref (ta 4), .int 0])), (yp, .inr (3, [.int 0, .ref (ta 4), .int 0]))] sz)) 0 0 (va_A [(y, .inr (11, [.int th, .ref ys, .ref yp, .int 0])), (ys, .inr (3, [.int 0, .ref (ta 4), .int 0])), (yp, .inr (3, [.int 0, .ref (ta 4), .int 0]))] sz) := by
  refine Met.ofW (cc := cX7_move) (maxL := 6) (ret := (some .int)) (by decide) rfl ?_
  intro p e s m args below meth c s₁ B hml hv
  obtain ⟨rfl, hsz, hP, hK, hD0, hE⟩ := hv
  have hx := B.exec
  have hb := B.bytes
  have hr := B.returns
  have hts := atoms_spec (ws := wsX7_move) B.pre
  have hown : s.vm.findClass RX7 = some m.cls := findClass_of_methodNamed B.named
  have hlocks := B.notSynchronized
  subst hsz
  have hD := hD0.self (sz := s.heap.size)
  generalize hAe : va_A [(y, .inr (11, [.int th, .ref ys, .ref yp, .int 0])), (ys, .inr (3, [.int 0, .ref (ta 4), .int 0])), (yp, .inr (3, [.int 0, .ref (ta 4), .int 0]))] s.heap.size = A at hD hE ⊢
  have hA : ∀ q : Nat, s.heap.size ≤ q → A q := fun q h => by rw [← hAe]; exact Or.inr h
  have hS : va_S A s.heap s.heap [] := va_S.rf
  have hl := lv_entry ([.ref y, .int p0, .int p1, .int p2, .int p3]) (n := 6) (Nat.le_of_ble_eq_true rfl)
  rw [lg_entry_eq]
  generalize (lg_sl ([.ref y, .int p0, .int p1, .int p2, .int p3]) ++ List.replicate (6 - (lg_sl ([.ref y, .int p0, .int p1, .int p2, .int p3])).length) Slot.unset).toArray = ls at hl ⊢
  have hl : lv_has ls 6 [(0, .ref y), (1, .int p0), (2, .int p1), (3, .int p2), (4, .int p3)] := hl
  have hP : va_P (dC, dI) vwCl [(y, .inr (11, [.int th, .ref ys, .ref yp, .int 0])), (ys, .inr (3, [.int 0, .ref (ta 4), .int 0])), (yp, .inr (3, [.int 0, .ref (ta 4), .int 0]))] s.heap := hP
  refine lv_aload_n hx hb dX7_move_0 rfl (lv_at hl 0 rfl) ?_
  refine lv_iload_n hx hb dX7_move_1 rfl (lv_at hl 1 rfl) ?_
  refine lv_iconst (v := 0) hx hb dX7_move_2 (by decide) ?_
  refine lv_aload_n hx hb dX7_move_3 rfl (lv_at hl 0 rfl) ?_
  refine va_get (D := (dC, dI)) (ci := 11) (v := .ref ys) (C := RX7) (T := TX7) (N := 4) hx hb hts (by decide +kernel) hown hK hP 0 rfl rfl 1 (by decide) (hts (.fieldLink RX7 10 "DiffractoryModel" "sources" "Ljava/util/ArrayList;") (by decide +kernel)) (fun _ h9 => h9) rfl dX7_move_4 ?_
  have hPc := hP.sub (ws' := [(ys, .inr (3, [.int 0, .ref (ta 4), .int 0]))]) [1] rfl
  have hKc := hK.sub (tys' := []) [] rfl
  refine va_calli (va_runV (As := []) (rest := [.int 0, .int p0, .ref y]) ⟨hx, hb, hml, hown, hts⟩ (c_Jx4a65c_size_8abf5 l dC dI ys (ta 4) sa ta 0 0) (cwV 0 hts gX7_move_Jx4a65c_size_8abf5 rfl rfl rfl (by decide +kernel) ⟨Nat.le_of_ble_eq_true rfl, Nat.le_of_ble_eq_true rfl⟩) ⟨ax_fbR, va_recv hK hP (ci := 3) (q0 := 1) rfl rfl, ax_prR hPc hKc hS hE⟩ rfl rfl hl.1 rfl (lv_room (Nat.le_of_ble_eq_true rfl)) dX7_move_7 ⟨Nat.le_of_ble_eq_true rfl, Nat.le_of_ble_eq_true rfl⟩) hS (fun _ _ h9 => h9.elim) (fun _ h9 => h9.elim) (fun r_1 u_3  t H locs ht hvm hw_2 hB hz1 hk1 hS => ?_)
  have hP := ax_keep hP (fun _ h9 => h9) hk1
  refine ax_i (y := 0) hw_2 ?_
  refine lv_iconst (v := 1) hx hb dX7_move_10 (by decide) ?_
  refine lv_isub hx hb dX7_move_11 ?_
  refine ax_i (y := (-1)) (by decide) ?_
  refine va_calli (va_runS (As := [.int p0, .int 0, .int (-1)]) (rest := [.ref y]) ⟨hx, hb, hml, hown, hts⟩ (c_X7_isIn l p0 0 (-1)) (va_cwS 3 hts gX7_move_X7_isIn rfl rfl rfl (by decide +kernel) ⟨Nat.le_of_ble_eq_true rfl, Nat.le_of_ble_eq_true rfl⟩) ⟨ax_fbP, ax_prP⟩ rfl rfl hl.1 rfl (lv_room (Nat.le_of_ble_eq_true rfl)) dX7_move_12 ⟨Nat.le_of_ble_eq_true rfl, Nat.le_of_ble_eq_true rfl⟩) hS (fun _ _ h9 => h9.elim) (fun _ h9 => h9.elim) (fun r_4 u_6  t H locs ht hvm hw_5 hB hz1 hk1 hS => ?_)
  have hP := ax_keep hP (fun _ h9 => h9) hk1
  rcases hw_5 with ⟨hr9, hw_5⟩ | ⟨hr9, hw_5⟩
  · have hw_5 : 0 ≤ p0.toInt ∧ p0.toInt ≤ (-1) := hw_5
    exfalso
    omega
  · have hw_5 : ¬ (0 ≤ p0.toInt ∧ p0.toInt ≤ (-1)) := hw_5
    refine ax_i hr9 ?_
    refine lv_if_ne (tgt := 22) hx hb dX7_move_15 (by decide) (fun h9 => absurd rfl h9) (fun _ => ?_)
    refine lv_iconst (v := 1) hx hb dX7_move_18 (by decide) ?_
    refine lv_goto (tgt := 23) hx hb dX7_move_19 (by decide) ?_
    refine lv_iconst (v := 1) hx hb dX7_move_23 (by decide) ?_
    have hPc := hP.sub (ws' := [(y, .inr (11, [.int th, .ref ys, .ref yp, .int 0])), (ys, .inr (3, [.int 0, .ref (ta 4), .int 0])), (yp, .inr (3, [.int 0, .ref (ta 4), .int 0]))]) [0, 1, 2] rfl
    have hKc := hK.sub (tys' := []) [] rfl
    have hDc := hD.sub (ws' := [(y, .inr (11, [.int th, .ref ys, .ref yp, .int 0])), (ys, .inr (3, [.int 0, .ref (ta 4), .int 0])), (yp, .inr (3, [.int 0, .ref (ta 4), .int 0]))]) [0, 1, 2] (by decide) rfl
    have hFc := va_free (wc := [(y, .inr (11, [.int th, .ref ys, .ref yp, .int 0])), (ys, .inr (3, [.int 0, .ref (ta 4), .int 0])), (yp, .inr (3, [.int 0, .ref (ta 4), .int 0]))]) hD hS hA [0, 1, 2] rfl
    refine va_calli (va_runV (As := [.int 1, .int 1]) (rest := []) ⟨hx, hb, hml, hown, hts⟩ (c_X7_start_1 l dC dI y ys yp sa ta H.size th) (cwV 2 hts gX7_move_X7_start rfl rfl rfl (by decide +kernel) ⟨Nat.le_of_ble_eq_true rfl, Nat.le_of_ble_eq_true rfl⟩) ⟨ax_fbW, va_recv hK hP (ci := 11) (q0 := 0) rfl rfl, ax_prW hPc hKc hDc hS hFc hE⟩ rfl rfl hl.1 rfl (lv_room (Nat.le_of_ble_eq_true rfl)) dX7_move_24 ⟨Nat.le_of_ble_eq_true rfl, Nat.le_of_ble_eq_true rfl⟩) hS (fun q _ h9 => hFc q h9) hFc (fun r_7 u_9  t H locs ht hvm hw_8 hB hz1 hk1 hS => ?_)
    obtain ⟨hP1, hK1, hD1⟩ := hB
    rw [ht] at hP1
    have hK1 := va_K.moved hvm.symm hK1
    obtain ⟨hP, hD⟩ := va_join (wr := []) (w1 := [(y, .inr (11, [.int 1, .ref ys, .ref yp, .int 0])), (ys, .inr (3, [.int 0, .ref (ta 4), .int 0])), (yp, .inr (3, [.int 0, .ref (ta 4), .int 0]))]) hP hD [0, 1, 2] [] rfl rfl (by decide) (by decide) hk1 hFc hP1 hD1
    have hP : va_P (dC, dI) vwCl [(y, .inr (11, [.int 1, .ref ys, .ref yp, .int 0])), (ys, .inr (3, [.int 0, .ref (ta 4), .int 0])), (yp, .inr (3, [.int 0, .ref (ta 4), .int 0]))] H := hP
    have hD : va_D A [(y, .inr (11, [.int 1, .ref ys, .ref yp, .int 0])), (ys, .inr (3, [.int 0, .ref (ta 4), .int 0])), (yp, .inr (3, [.int 0, .ref (ta 4), .int 0]))] := hD
    refine ax_i (y := 1) hw_8 ?_
    refine lv_if_ne (tgt := 45) hx hb dX7_move_27 (by decide) (fun _ => ?_) (fun h9 => absurd h9 (by decide))
    refine lv_iconst (v := 0) hx hb dX7_move_45 (by decide) ?_
    refine W.widen (k := 0) (n := 0) (Nat.le_of_ble_eq_true rfl) (Nat.le_of_ble_eq_true rfl) ?_
    have hP9 := hP.sub (ws' := [(y, .inr (11, [.int 1, .ref ys, .ref yp, .int 0]))]) [0] rfl
    have hD9 := hD.sub (ws' := [(y, .inr (11, [.int 1, .ref ys, .ref yp, .int 0]))]) [0] (by decide) rfl
    have hK9 := hK.sub (tys' := []) [] rfl
    exact W.iret (v := 0) hx hb hr (fun t ht hW => ⟨⟨0, 1, rfl, rfl, by rw [ht]; exact hP9, va_K.moved hW.alike hK9, hD9⟩, hS.F ht⟩) hS.2.2 dX7_move_46

set_option maxHeartbeats 4000000 in
set_option maxRecDepth 100000 in
theorem c_X7_set (l : Launch) (dC : Nat → ClassId) (dI : Nat → Nat → Nat) (y ys yp : Nat) (sa ta : Nat → Nat) (sz : Nat) (th : Int32) (p0 : Int32) (p1 : Int32) : Met l yX7_set wsX7_set ({ frames := 24, cells := 0, slots := 0, locals := 600 }) (va_Pc [.ref y, .int p0, .int p1] (ax_W (dC, dI) vwCl [(y, .inr (11, [.int th, .ref ys, .ref yp, .int 0])), (ys, .inr (3, [.int 0, .ref (ta 4), .int 0])), (yp, .inr (3, [.int 0, .ref (ta 4), .int 0]))] [] sa ta sz)) (va_Qi (fun (r : Int32) (u : Int32) => u = 1) (fun (u : Int32) (t : State) => va_P (dC, dI) vwCl [(y, .inr (11, [.int u, .ref ys, .ref yp, .int 0]))] t.heap ∧ va_K (dC, dI) vwCl [] t ∧ va_D (va_A [(y, .inr (11, [.int th, .ref ys, .ref yp, .int 0])), (ys, .inr (3, [.int 0, .ref (ta 4), .int 0])), (yp, .inr (3, [.int 0, .ref (ta 4), .int 0]))] sz) [(y, .inr (11, [.int u, .ref ys, .ref yp, .int 0]))]) (va_A [(y, .inr (11, [.int th, .ref ys, .ref yp, .int 0])), (ys, .inr (3, [.int 0, .ref (ta 4), .int 0])), (yp, .inr (3, [.int 0, .ref (ta 4), .int 0]))] sz)) 0 0 (va_A [(y, .inr (11, [.int th, .ref ys, .ref yp, .int 0])), (ys, .inr (3, [.int 0, .ref (ta 4), .int 0])), (yp, .inr (3, [.int 0, .ref (ta 4), .int 0]))] sz) := by
  refine Met.ofW (cc := cX7_set) (maxL := 4) (ret := (some .int)) (by decide) rfl ?_
  intro p e s m args below meth c s₁ B hml hv
  obtain ⟨rfl, hsz, hP, hK, hD0, hE⟩ := hv
  have hx := B.exec
  have hb := B.bytes
  have hr := B.returns
  have hts := atoms_spec (ws := wsX7_set) B.pre
  have hown : s.vm.findClass RX7 = some m.cls := findClass_of_methodNamed B.named
  have hlocks := B.notSynchronized
  subst hsz
  have hD := hD0.self (sz := s.heap.size)
  generalize hAe : va_A [(y, .inr (11, [.int th, .ref ys, .ref yp, .int 0])), (ys, .inr (3, [.int 0, .ref (ta 4), .int 0])), (yp, .inr (3, [.int 0, .ref (ta 4), .int 0]))] s.heap.size = A at hD hE ⊢
  have hA : ∀ q : Nat, s.heap.size ≤ q → A q := fun q h => by rw [← hAe]; exact Or.inr h
  have hS : va_S A s.heap s.heap [] := va_S.rf
  have hl := lv_entry ([.ref y, .int p0, .int p1]) (n := 4) (Nat.le_of_ble_eq_true rfl)
  rw [lg_entry_eq]
  generalize (lg_sl ([.ref y, .int p0, .int p1]) ++ List.replicate (4 - (lg_sl ([.ref y, .int p0, .int p1])).length) Slot.unset).toArray = ls at hl ⊢
  have hl : lv_has ls 4 [(0, .ref y), (1, .int p0), (2, .int p1)] := hl
  have hP : va_P (dC, dI) vwCl [(y, .inr (11, [.int th, .ref ys, .ref yp, .int 0])), (ys, .inr (3, [.int 0, .ref (ta 4), .int 0])), (yp, .inr (3, [.int 0, .ref (ta 4), .int 0]))] s.heap := hP
  refine lv_aload_n hx hb dX7_set_0 rfl (lv_at hl 0 rfl) ?_
  refine lv_aload_n hx hb dX7_set_1 rfl (lv_at hl 0 rfl) ?_
  refine lv_iload_n hx hb dX7_set_2 rfl (lv_at hl 1 rfl) ?_
  have hPc := hP.sub (ws' := [(y, .inr (11, [.int th, .ref ys, .ref yp, .int 0])), (ys, .inr (3, [.int 0, .ref (ta 4), .int 0])), (yp, .inr (3, [.int 0, .ref (ta 4), .int 0]))]) [0, 1, 2] rfl
  have hKc := hK.sub (tys' := []) [] rfl
  refine va_calli (va_runV (As := [.int p0]) (rest := [.ref y]) ⟨hx, hb, hml, hown, hts⟩ (c_X7_isNoPart l dC dI y ys yp sa ta th p0) (cwV 1 hts gX7_set_X7_isNoPart rfl rfl rfl (by decide +kernel) ⟨Nat.le_of_ble_eq_true rfl, Nat.le_of_ble_eq_true rfl⟩) ⟨ax_fbR, va_recv hK hP (ci := 11) (q0 := 0) rfl rfl, ax_prR hPc hKc hS hE⟩ rfl rfl hl.1 rfl (lv_room (Nat.le_of_ble_eq_true rfl)) dX7_set_3 ⟨Nat.le_of_ble_eq_true rfl, Nat.le_of_ble_eq_true rfl⟩) hS (fun _ _ h9 => h9.elim) (fun _ h9 => h9.elim) (fun r_1 u_3  t H locs ht hvm hw_2 hB hz1 hk1 hS => ?_)
  have hP := ax_keep hP (fun _ h9 => h9) hk1
  refine ax_i (y := 1) hw_2 ?_
  refine lv_iconst (v := 1) hx hb dX7_set_6 (by decide) ?_
  have hPc := hP.sub (ws' := [(y, .inr (11, [.int th, .ref ys, .ref yp, .int 0])), (ys, .inr (3, [.int 0, .ref (ta 4), .int 0])), (yp, .inr (3, [.int 0, .ref (ta 4), .int 0]))]) [0, 1, 2] rfl
  have hKc := hK.sub (tys' := []) [] rfl
  have hDc := hD.sub (ws' := [(y, .inr (11, [.int th, .ref ys, .ref yp, .int 0])), (ys, .inr (3, [.int 0, .ref (ta 4), .int 0])), (yp, .inr (3, [.int 0, .ref (ta 4), .int 0]))]) [0, 1, 2] (by decide) rfl
  have hFc := va_free (wc := [(y, .inr (11, [.int th, .ref ys, .ref yp, .int 0])), (ys, .inr (3, [.int 0, .ref (ta 4), .int 0])), (yp, .inr (3, [.int 0, .ref (ta 4), .int 0]))]) hD hS hA [0, 1, 2] rfl
  refine va_calli (va_runV (As := [.int 1, .int 1]) (rest := []) ⟨hx, hb, hml, hown, hts⟩ (c_X7_start_1 l dC dI y ys yp sa ta H.size th) (cwV 2 hts gX7_set_X7_start rfl rfl rfl (by decide +kernel) ⟨Nat.le_of_ble_eq_true rfl, Nat.le_of_ble_eq_true rfl⟩) ⟨ax_fbW, va_recv hK hP (ci := 11) (q0 := 0) rfl rfl, ax_prW hPc hKc hDc hS hFc hE⟩ rfl rfl hl.1 rfl (lv_room (Nat.le_of_ble_eq_true rfl)) dX7_set_7 ⟨Nat.le_of_ble_eq_true rfl, Nat.le_of_ble_eq_true rfl⟩) hS (fun q _ h9 => hFc q h9) hFc (fun r_4 u_6  t H locs ht hvm hw_5 hB hz1 hk1 hS => ?_)
  obtain ⟨hP1, hK1, hD1⟩ := hB
  rw [ht] at hP1
  have hK1 := va_K.moved hvm.symm hK1
  obtain ⟨hP, hD⟩ := va_join (wr := []) (w1 := [(y, .inr (11, [.int 1, .ref ys, .ref yp, .int 0])), (ys, .inr (3, [.int 0, .ref (ta 4), .int 0])), (yp, .inr (3, [.int 0, .ref (ta 4), .int 0]))]) hP hD [0, 1, 2] [] rfl rfl (by decide) (by decide) hk1 hFc hP1 hD1
  have hP : va_P (dC, dI) vwCl [(y, .inr (11, [.int 1, .ref ys, .ref yp, .int 0])), (ys, .inr (3, [.int 0, .ref (ta 4), .int 0])), (yp, .inr (3, [.int 0, .ref (ta 4), .int 0]))] H := hP
  have hD : va_D A [(y, .inr (11, [.int 1, .ref ys, .ref yp, .int 0])), (ys, .inr (3, [.int 0, .ref (ta 4), .int 0])), (yp, .inr (3, [.int 0, .ref (ta 4), .int 0]))] := hD
  refine ax_i (y := 1) hw_5 ?_
  refine lv_if_ne (tgt := 39) hx hb dX7_set_10 (by decide) (fun _ => ?_) (fun h9 => absurd h9 (by decide))
  refine lv_iconst (v := 0) hx hb dX7_set_39 (by decide) ?_
  refine W.widen (k := 0) (n := 0) (Nat.le_of_ble_eq_true rfl) (Nat.le_of_ble_eq_true rfl) ?_
  have hP9 := hP.sub (ws' := [(y, .inr (11, [.int 1, .ref ys, .ref yp, .int 0]))]) [0] rfl
  have hD9 := hD.sub (ws' := [(y, .inr (11, [.int 1, .ref ys, .ref yp, .int 0]))]) [0] (by decide) rfl
  have hK9 := hK.sub (tys' := []) [] rfl
  exact W.iret (v := 0) hx hb hr (fun t ht hW => ⟨⟨0, 1, rfl, rfl, by rw [ht]; exact hP9, va_K.moved hW.alike hK9, hD9⟩, hS.F ht⟩) hS.2.2 dX7_set_40

set_option maxHeartbeats 4000000 in
set_option maxRecDepth 100000 in
theorem c_X7_put (l : Launch) (dC : Nat → ClassId) (dI : Nat → Nat → Nat) (y ys yp : Nat) (sa ta : Nat → Nat) (sz : Nat) (th : Int32) (p0 : Int32) (p1 : Int32) : Met l yX7_put wsX7_put ({ frames := 24, cells := 0, slots := 0, locals := 600 }) (va_Pc [.ref y, .int p0, .int p1] (ax_W (dC, dI) vwCl [(y, .inr (11, [.int th, .ref ys, .ref yp, .int 0])), (ys, .inr (3, [.int 0, .ref (ta 4), .int 0])), (yp, .inr (3, [.int 0, .ref (ta 4), .int 0]))] [] sa ta sz)) (va_Qi (fun (r : Int32) (u : Int32) => u = 1) (fun (u : Int32) (t : State) => va_P (dC, dI) vwCl [(y, .inr (11, [.int u, .ref ys, .ref yp, .int 0]))] t.heap ∧ va_K (dC, dI) vwCl [] t ∧ va_D (va_A [(y, .inr (11, [.int th, .ref ys, .ref yp, .int 0])), (ys, .inr (3, [.int 0, .ref (ta 4), .int 0])), (yp, .inr (3, [.int 0, .ref (ta 4), .int 0]))] sz) [(y, .inr (11, [.int u, .ref ys, .ref yp, .int 0]))]) (va_A [(y, .inr (11, [.int th, .ref ys, .ref yp, .int 0])), (ys, .inr (3, [.int 0, .ref (ta 4), .int 0])), (yp, .inr (3, [.int 0, .ref (ta 4), .int 0]))] sz)) 0 0 (va_A [(y, .inr (11, [.int th, .ref ys, .ref yp, .int 0])), (ys, .inr (3, [.int 0, .ref (ta 4), .int 0])), (yp, .inr (3, [.int 0, .ref (ta 4), .int 0]))] sz) := by
  refine Met.ofW (cc := cX7_put) (maxL := 4) (ret := (some .boolean)) (by decide) rfl ?_
  intro p e s m args below meth c s₁ B hml hv
  obtain ⟨rfl, hsz, hP, hK, hD0, hE⟩ := hv
  have hx := B.exec
  have hb := B.bytes
  have hr := B.returns
  have hts := atoms_spec (ws := wsX7_put) B.pre
  have hown : s.vm.findClass RX7 = some m.cls := findClass_of_methodNamed B.named
  have hlocks := B.notSynchronized
  subst hsz
  have hD := hD0.self (sz := s.heap.size)
  generalize hAe : va_A [(y, .inr (11, [.int th, .ref ys, .ref yp, .int 0])), (ys, .inr (3, [.int 0, .ref (ta 4), .int 0])), (yp, .inr (3, [.int 0, .ref (ta 4), .int 0]))] s.heap.size = A at hD hE ⊢
  have hA : ∀ q : Nat, s.heap.size ≤ q → A q := fun q h => by rw [← hAe]; exact Or.inr h
  have hS : va_S A s.heap s.heap [] := va_S.rf
  have hl := lv_entry ([.ref y, .int p0, .int p1]) (n := 4) (Nat.le_of_ble_eq_true rfl)
  rw [lg_entry_eq]
  generalize (lg_sl ([.ref y, .int p0, .int p1]) ++ List.replicate (4 - (lg_sl ([.ref y, .int p0, .int p1])).length) Slot.unset).toArray = ls at hl ⊢
  have hl : lv_has ls 4 [(0, .ref y), (1, .int p0), (2, .int p1)] := hl
  have hP : va_P (dC, dI) vwCl [(y, .inr (11, [.int th, .ref ys, .ref yp, .int 0])), (ys, .inr (3, [.int 0, .ref (ta 4), .int 0])), (yp, .inr (3, [.int 0, .ref (ta 4), .int 0]))] s.heap := hP
  refine lv_aload_n hx hb dX7_put_0 rfl (lv_at hl 0 rfl) ?_
  refine lv_aload_n hx hb dX7_put_1 rfl (lv_at hl 0 rfl) ?_
  refine lv_iload_n hx hb dX7_put_2 rfl (lv_at hl 1 rfl) ?_
  have hPc := hP.sub (ws' := [(y, .inr (11, [.int th, .ref ys, .ref yp, .int 0])), (ys, .inr (3, [.int 0, .ref (ta 4), .int 0])), (yp, .inr (3, [.int 0, .ref (ta 4), .int 0]))]) [0, 1, 2] rfl
  have hKc := hK.sub (tys' := []) [] rfl
  refine va_calli (va_runV (As := [.int p0]) (rest := [.ref y]) ⟨hx, hb, hml, hown, hts⟩ (c_X7_isNoPart l dC dI y ys yp sa ta th p0) (cwV 1 hts gX7_put_X7_isNoPart rfl rfl rfl (by decide +kernel) ⟨Nat.le_of_ble_eq_true rfl, Nat.le_of_ble_eq_true rfl⟩) ⟨ax_fbR, va_recv hK hP (ci := 11) (q0 := 0) rfl rfl, ax_prR hPc hKc hS hE⟩ rfl rfl hl.1 rfl (lv_room (Nat.le_of_ble_eq_true rfl)) dX7_put_3 ⟨Nat.le_of_ble_eq_true rfl, Nat.le_of_ble_eq_true rfl⟩) hS (fun _ _ h9 => h9.elim) (fun _ h9 => h9.elim) (fun r_1 u_3  t H locs ht hvm hw_2 hB hz1 hk1 hS => ?_)
  have hP := ax_keep hP (fun _ h9 => h9) hk1
  refine ax_i (y := 1) hw_2 ?_
  refine lv_iconst (v := 1) hx hb dX7_put_6 (by decide) ?_
  have hPc := hP.sub (ws' := [(y, .inr (11, [.int th, .ref ys, .ref yp, .int 0])), (ys, .inr (3, [.int 0, .ref (ta 4), .int 0])), (yp, .inr (3, [.int 0, .ref (ta 4), .int 0]))]) [0, 1, 2] rfl
  have hKc := hK.sub (tys' := []) [] rfl
  have hDc := hD.sub (ws' := [(y, .inr (11, [.int th, .ref ys, .ref yp, .int 0])), (ys, .inr (3, [.int 0, .ref (ta 4), .int 0])), (yp, .inr (3, [.int 0, .ref (ta 4), .int 0]))]) [0, 1, 2] (by decide) rfl
  have hFc := va_free (wc := [(y, .inr (11, [.int th, .ref ys, .ref yp, .int 0])), (ys, .inr (3, [.int 0, .ref (ta 4), .int 0])), (yp, .inr (3, [.int 0, .ref (ta 4), .int 0]))]) hD hS hA [0, 1, 2] rfl
  refine va_calli (va_runV (As := [.int 1, .int 1]) (rest := []) ⟨hx, hb, hml, hown, hts⟩ (c_X7_start_1 l dC dI y ys yp sa ta H.size th) (cwV 2 hts gX7_put_X7_start rfl rfl rfl (by decide +kernel) ⟨Nat.le_of_ble_eq_true rfl, Nat.le_of_ble_eq_true rfl⟩) ⟨ax_fbW, va_recv hK hP (ci := 11) (q0 := 0) rfl rfl, ax_prW hPc hKc hDc hS hFc hE⟩ rfl rfl hl.1 rfl (lv_room (Nat.le_of_ble_eq_true rfl)) dX7_put_7 ⟨Nat.le_of_ble_eq_true rfl, Nat.le_of_ble_eq_true rfl⟩) hS (fun q _ h9 => hFc q h9) hFc (fun r_4 u_6  t H locs ht hvm hw_5 hB hz1 hk1 hS => ?_)
  obtain ⟨hP1, hK1, hD1⟩ := hB
  rw [ht] at hP1
  have hK1 := va_K.moved hvm.symm hK1
  obtain ⟨hP, hD⟩ := va_join (wr := []) (w1 := [(y, .inr (11, [.int 1, .ref ys, .ref yp, .int 0])), (ys, .inr (3, [.int 0, .ref (ta 4), .int 0])), (yp, .inr (3, [.int 0, .ref (ta 4), .int 0]))]) hP hD [0, 1, 2] [] rfl rfl (by decide) (by decide) hk1 hFc hP1 hD1
  have hP : va_P (dC, dI) vwCl [(y, .inr (11, [.int 1, .ref ys, .ref yp, .int 0])), (ys, .inr (3, [.int 0, .ref (ta 4), .int 0])), (yp, .inr (3, [.int 0, .ref (ta 4), .int 0]))] H := hP
  have hD : va_D A [(y, .inr (11, [.int 1, .ref ys, .ref yp, .int 0])), (ys, .inr (3, [.int 0, .ref (ta 4), .int 0])), (yp, .inr (3, [.int 0, .ref (ta 4), .int 0]))] := hD
  refine ax_i (y := 1) hw_5 ?_
  refine lv_if_eq (tgt := 15) hx hb dX7_put_10 (by decide) (fun h9 => absurd h9 (by decide)) (fun _ => ?_)
  refine lv_iconst (v := 0) hx hb dX7_put_13 (by decide) ?_
  refine W.widen (k := 0) (n := 0) (Nat.le_of_ble_eq_true rfl) (Nat.le_of_ble_eq_true rfl) ?_
  have hP9 := hP.sub (ws' := [(y, .inr (11, [.int 1, .ref ys, .ref yp, .int 0]))]) [0] rfl
  have hD9 := hD.sub (ws' := [(y, .inr (11, [.int 1, .ref ys, .ref yp, .int 0]))]) [0] (by decide) rfl
  have hK9 := hK.sub (tys' := []) [] rfl
  exact W.zret (v := 0) (ty := .boolean) hx hb hr (by decide +kernel) (fun t ht hW => ⟨⟨0, 1, rfl, rfl, by rw [ht]; exact hP9, va_K.moved hW.alike hK9, hD9⟩, hS.F ht⟩) hS.2.2 dX7_put_14

set_option maxHeartbeats 4000000 in
set_option maxRecDepth 100000 in
theorem c_X7_dirt (l : Launch) (dC : Nat → ClassId) (dI : Nat → Nat → Nat) (y ys yp : Nat) (sa ta : Nat → Nat) (sz : Nat) (th : Int32) (p0 : Int32) (p1 : Int32) : Met l yX7_dirt wsX7_dirt ({ frames := 24, cells := 0, slots := 0, locals := 600 }) (va_Pc [.ref y, .int p0, .int p1] (ax_W (dC, dI) vwCl [(y, .inr (11, [.int th, .ref ys, .ref yp, .int 0])), (ys, .inr (3, [.int 0, .ref (ta 4), .int 0])), (yp, .inr (3, [.int 0, .ref (ta 4), .int 0]))] [] sa ta sz)) (va_Qi (fun (r : Int32) (u : Int32) => u = 1) (fun (u : Int32) (t : State) => va_P (dC, dI) vwCl [(y, .inr (11, [.int u, .ref ys, .ref yp, .int 0]))] t.heap ∧ va_K (dC, dI) vwCl [] t ∧ va_D (va_A [(y, .inr (11, [.int th, .ref ys, .ref yp, .int 0])), (ys, .inr (3, [.int 0, .ref (ta 4), .int 0])), (yp, .inr (3, [.int 0, .ref (ta 4), .int 0]))] sz) [(y, .inr (11, [.int u, .ref ys, .ref yp, .int 0]))]) (va_A [(y, .inr (11, [.int th, .ref ys, .ref yp, .int 0])), (ys, .inr (3, [.int 0, .ref (ta 4), .int 0])), (yp, .inr (3, [.int 0, .ref (ta 4), .int 0]))] sz)) 0 0 (va_A [(y, .inr (11, [.int th, .ref ys, .ref yp, .int 0])), (ys, .inr (3, [.int 0, .ref (ta 4), .int 0])), (yp, .inr (3, [.int 0, .ref (ta 4), .int 0]))] sz) := by
  refine Met.ofW (cc := cX7_dirt) (maxL := 4) (ret := (some .int)) (by decide) rfl ?_
  intro p e s m args below meth c s₁ B hml hv
  obtain ⟨rfl, hsz, hP, hK, hD0, hE⟩ := hv
  have hx := B.exec
  have hb := B.bytes
  have hr := B.returns
  have hts := atoms_spec (ws := wsX7_dirt) B.pre
  have hown : s.vm.findClass RX7 = some m.cls := findClass_of_methodNamed B.named
  have hlocks := B.notSynchronized
  subst hsz
  have hD := hD0.self (sz := s.heap.size)
  generalize hAe : va_A [(y, .inr (11, [.int th, .ref ys, .ref yp, .int 0])), (ys, .inr (3, [.int 0, .ref (ta 4), .int 0])), (yp, .inr (3, [.int 0, .ref (ta 4), .int 0]))] s.heap.size = A at hD hE ⊢
  have hA : ∀ q : Nat, s.heap.size ≤ q → A q := fun q h => by rw [← hAe]; exact Or.inr h
  have hS : va_S A s.heap s.heap [] := va_S.rf
  have hl := lv_entry ([.ref y, .int p0, .int p1]) (n := 4) (Nat.le_of_ble_eq_true rfl)
  rw [lg_entry_eq]
  generalize (lg_sl ([.ref y, .int p0, .int p1]) ++ List.replicate (4 - (lg_sl ([.ref y, .int p0, .int p1])).length) Slot.unset).toArray = ls at hl ⊢
  have hl : lv_has ls 4 [(0, .ref y), (1, .int p0), (2, .int p1)] := hl
  have hP : va_P (dC, dI) vwCl [(y, .inr (11, [.int th, .ref ys, .ref yp, .int 0])), (ys, .inr (3, [.int 0, .ref (ta 4), .int 0])), (yp, .inr (3, [.int 0, .ref (ta 4), .int 0]))] s.heap := hP
  refine lv_aload_n hx hb dX7_dirt_0 rfl (lv_at hl 0 rfl) ?_
  refine lv_aload_n hx hb dX7_dirt_1 rfl (lv_at hl 0 rfl) ?_
  refine lv_iload_n hx hb dX7_dirt_2 rfl (lv_at hl 1 rfl) ?_
  have hPc := hP.sub (ws' := [(y, .inr (11, [.int th, .ref ys, .ref yp, .int 0])), (ys, .inr (3, [.int 0, .ref (ta 4), .int 0])), (yp, .inr (3, [.int 0, .ref (ta 4), .int 0]))]) [0, 1, 2] rfl
  have hKc := hK.sub (tys' := []) [] rfl
  refine va_calli (va_runV (As := [.int p0]) (rest := [.ref y]) ⟨hx, hb, hml, hown, hts⟩ (c_X7_isNoPart l dC dI y ys yp sa ta th p0) (cwV 1 hts gX7_dirt_X7_isNoPart rfl rfl rfl (by decide +kernel) ⟨Nat.le_of_ble_eq_true rfl, Nat.le_of_ble_eq_true rfl⟩) ⟨ax_fbR, va_recv hK hP (ci := 11) (q0 := 0) rfl rfl, ax_prR hPc hKc hS hE⟩ rfl rfl hl.1 rfl (lv_room (Nat.le_of_ble_eq_true rfl)) dX7_dirt_3 ⟨Nat.le_of_ble_eq_true rfl, Nat.le_of_ble_eq_true rfl⟩) hS (fun _ _ h9 => h9.elim) (fun _ h9 => h9.elim) (fun r_1 u_3  t H locs ht hvm hw_2 hB hz1 hk1 hS => ?_)
  have hP := ax_keep hP (fun _ h9 => h9) hk1
  refine ax_i (y := 1) hw_2 ?_
  refine lv_iconst (v := 1) hx hb dX7_dirt_6 (by decide) ?_
  have hPc := hP.sub (ws' := [(y, .inr (11, [.int th, .ref ys, .ref yp, .int 0])), (ys, .inr (3, [.int 0, .ref (ta 4), .int 0])), (yp, .inr (3, [.int 0, .ref (ta 4), .int 0]))]) [0, 1, 2] rfl
  have hKc := hK.sub (tys' := []) [] rfl
  have hDc := hD.sub (ws' := [(y, .inr (11, [.int th, .ref ys, .ref yp, .int 0])), (ys, .inr (3, [.int 0, .ref (ta 4), .int 0])), (yp, .inr (3, [.int 0, .ref (ta 4), .int 0]))]) [0, 1, 2] (by decide) rfl
  have hFc := va_free (wc := [(y, .inr (11, [.int th, .ref ys, .ref yp, .int 0])), (ys, .inr (3, [.int 0, .ref (ta 4), .int 0])), (yp, .inr (3, [.int 0, .ref (ta 4), .int 0]))]) hD hS hA [0, 1, 2] rfl
  refine va_calli (va_runV (As := [.int 1, .int 1]) (rest := []) ⟨hx, hb, hml, hown, hts⟩ (c_X7_start_1 l dC dI y ys yp sa ta H.size th) (cwV 2 hts gX7_dirt_X7_start rfl rfl rfl (by decide +kernel) ⟨Nat.le_of_ble_eq_true rfl, Nat.le_of_ble_eq_true rfl⟩) ⟨ax_fbW, va_recv hK hP (ci := 11) (q0 := 0) rfl rfl, ax_prW hPc hKc hDc hS hFc hE⟩ rfl rfl hl.1 rfl (lv_room (Nat.le_of_ble_eq_true rfl)) dX7_dirt_7 ⟨Nat.le_of_ble_eq_true rfl, Nat.le_of_ble_eq_true rfl⟩) hS (fun q _ h9 => hFc q h9) hFc (fun r_4 u_6  t H locs ht hvm hw_5 hB hz1 hk1 hS => ?_)
  obtain ⟨hP1, hK1, hD1⟩ := hB
  rw [ht] at hP1
  have hK1 := va_K.moved hvm.symm hK1
  obtain ⟨hP, hD⟩ := va_join (wr := []) (w1 := [(y, .inr (11, [.int 1, .ref ys, .ref yp, .int 0])), (ys, .inr (3, [.int 0, .ref (ta 4), .int 0])), (yp, .inr (3, [.int 0, .ref (ta 4), .int 0]))]) hP hD [0, 1, 2] [] rfl rfl (by decide) (by decide) hk1 hFc hP1 hD1
  have hP : va_P (dC, dI) vwCl [(y, .inr (11, [.int 1, .ref ys, .ref yp, .int 0])), (ys, .inr (3, [.int 0, .ref (ta 4), .int 0])), (yp, .inr (3, [.int 0, .ref (ta 4), .int 0]))] H := hP
  have hD : va_D A [(y, .inr (11, [.int 1, .ref ys, .ref yp, .int 0])), (ys, .inr (3, [.int 0, .ref (ta 4), .int 0])), (yp, .inr (3, [.int 0, .ref (ta 4), .int 0]))] := hD
  refine ax_i (y := 1) hw_5 ?_
  refine lv_if_ne (tgt := 37) hx hb dX7_dirt_10 (by decide) (fun _ => ?_) (fun h9 => absurd h9 (by decide))
  refine lv_iconst (v := 0) hx hb dX7_dirt_37 (by decide) ?_
  refine W.widen (k := 0) (n := 0) (Nat.le_of_ble_eq_true rfl) (Nat.le_of_ble_eq_true rfl) ?_
  have hP9 := hP.sub (ws' := [(y, .inr (11, [.int 1, .ref ys, .ref yp, .int 0]))]) [0] rfl
  have hD9 := hD.sub (ws' := [(y, .inr (11, [.int 1, .ref ys, .ref yp, .int 0]))]) [0] (by decide) rfl
  have hK9 := hK.sub (tys' := []) [] rfl
  exact W.iret (v := 0) hx hb hr (fun t ht hW => ⟨⟨0, 1, rfl, rfl, by rw [ht]; exact hP9, va_K.moved hW.alike hK9, hD9⟩, hS.F ht⟩) hS.2.2 dX7_dirt_38

set_option maxHeartbeats 4000000 in
set_option maxRecDepth 100000 in
theorem c_X7_expose (l : Launch) (dC : Nat → ClassId) (dI : Nat → Nat → Nat) (y ys yp : Nat) (sa ta : Nat → Nat) (sz : Nat) (th : Int32) (p0 : Int32) (p1 : Int32) : Met l yX7_expose wsX7_expose ({ frames := 24, cells := 0, slots := 0, locals := 600 }) (va_Pc [.ref y, .int p0, .int p1] (ax_W (dC, dI) vwCl [(y, .inr (11, [.int th, .ref ys, .ref yp, .int 0])), (ys, .inr (3, [.int 0, .ref (ta 4), .int 0])), (yp, .inr (3, [.int 0, .ref (ta 4), .int 0]))] [] sa ta sz)) (va_Qi (fun (r : Int32) (u : Int32) => u = 1) (fun (u : Int32) (t : State) => va_P (dC, dI) vwCl [(y, .inr (11, [.int u, .ref ys, .ref yp, .int 0]))] t.heap ∧ va_K (dC, dI) vwCl [] t ∧ va_D (va_A [(y, .inr (11, [.int th, .ref ys, .ref yp, .int 0])), (ys, .inr (3, [.int 0, .ref (ta 4), .int 0])), (yp, .inr (3, [.int 0, .ref (ta 4), .int 0]))] sz) [(y, .inr (11, [.int u, .ref ys, .ref yp, .int 0]))]) (va_A [(y, .inr (11, [.int th, .ref ys, .ref yp, .int 0])), (ys, .inr (3, [.int 0, .ref (ta 4), .int 0])), (yp, .inr (3, [.int 0, .ref (ta 4), .int 0]))] sz)) 0 0 (va_A [(y, .inr (11, [.int th, .ref ys, .ref yp, .int 0])), (ys, .inr (3, [.int 0, .ref (ta 4), .int 0])), (yp, .inr (3, [.int 0, .ref (ta 4), .int 0]))] sz) := by
  refine Met.ofW (cc := cX7_expose) (maxL := 6) (ret := (some .int)) (by decide) rfl ?_
  intro p e s m args below meth c s₁ B hml hv
  obtain ⟨rfl, hsz, hP, hK, hD0, hE⟩ := hv
  have hx := B.exec
  have hb := B.bytes
  have hr := B.returns
  have hts := atoms_spec (ws := wsX7_expose) B.pre
  have hown : s.vm.findClass RX7 = some m.cls := findClass_of_methodNamed B.named
  have hlocks := B.notSynchronized
  subst hsz
  have hD := hD0.self (sz := s.heap.size)
  generalize hAe : va_A [(y, .inr (11, [.int th, .ref ys, .ref yp, .int 0])), (ys, .inr (3, [.int 0, .ref (ta 4), .int 0])), (yp, .inr (3, [.int 0, .ref (ta 4), .int 0]))] s.heap.size = A at hD hE ⊢
  have hA : ∀ q : Nat, s.heap.size ≤ q → A q := fun q h => by rw [← hAe]; exact Or.inr h
  have hS : va_S A s.heap s.heap [] := va_S.rf
  have hl := lv_entry ([.ref y, .int p0, .int p1]) (n := 6) (Nat.le_of_ble_eq_true rfl)
  rw [lg_entry_eq]
  generalize (lg_sl ([.ref y, .int p0, .int p1]) ++ List.replicate (6 - (lg_sl ([.ref y, .int p0, .int p1])).length) Slot.unset).toArray = ls at hl ⊢
  have hl : lv_has ls 6 [(0, .ref y), (1, .int p0), (2, .int p1)] := hl
  have hP : va_P (dC, dI) vwCl [(y, .inr (11, [.int th, .ref ys, .ref yp, .int 0])), (ys, .inr (3, [.int 0, .ref (ta 4), .int 0])), (yp, .inr (3, [.int 0, .ref (ta 4), .int 0]))] s.heap := hP
  refine lv_aload_n hx hb dX7_expose_0 rfl (lv_at hl 0 rfl) ?_
  refine lv_aload_n hx hb dX7_expose_1 rfl (lv_at hl 0 rfl) ?_
  refine lv_iload_n hx hb dX7_expose_2 rfl (lv_at hl 1 rfl) ?_
  have hPc := hP.sub (ws' := [(y, .inr (11, [.int th, .ref ys, .ref yp, .int 0])), (ys, .inr (3, [.int 0, .ref (ta 4), .int 0])), (yp, .inr (3, [.int 0, .ref (ta 4), .int 0]))]) [0, 1, 2] rfl
  have hKc := hK.sub (tys' := []) [] rfl
  refine va_calli (va_runV (As := [.int p0]) (rest := [.ref y]) ⟨hx, hb, hml, hown, hts⟩ (c_X7_isNoPart l dC dI y ys yp sa ta th p0) (cwV 1 hts gX7_expose_X7_isNoPart rfl rfl rfl (by decide +kernel) ⟨Nat.le_of_ble_eq_true rfl, Nat.le_of_ble_eq_true rfl⟩) ⟨ax_fbR, va_recv hK hP (ci := 11) (q0 := 0) rfl rfl, ax_prR hPc hKc hS hE⟩ rfl rfl hl.1 rfl (lv_room (Nat.le_of_ble_eq_true rfl)) dX7_expose_3 ⟨Nat.le_of_ble_eq_true rfl, Nat.le_of_ble_eq_true rfl⟩) hS (fun _ _ h9 => h9.elim) (fun _ h9 => h9.elim) (fun r_1 u_3  t H locs ht hvm hw_2 hB hz1 hk1 hS => ?_)
  have hP := ax_keep hP (fun _ h9 => h9) hk1
  refine ax_i (y := 1) hw_2 ?_
  refine lv_iconst (v := 1) hx hb dX7_expose_6 (by decide) ?_
  have hPc := hP.sub (ws' := [(y, .inr (11, [.int th, .ref ys, .ref yp, .int 0])), (ys, .inr (3, [.int 0, .ref (ta 4), .int 0])), (yp, .inr (3, [.int 0, .ref (ta 4), .int 0]))]) [0, 1, 2] rfl
  have hKc := hK.sub (tys' := []) [] rfl
  have hDc := hD.sub (ws' := [(y, .inr (11, [.int th, .ref ys, .ref yp, .int 0])), (ys, .inr (3, [.int 0, .ref (ta 4), .int 0])), (yp, .inr (3, [.int 0, .ref (ta 4), .int 0]))]) [0, 1, 2] (by decide) rfl
  have hFc := va_free (wc := [(y, .inr (11, [.int th, .ref ys, .ref yp, .int 0])), (ys, .inr (3, [.int 0, .ref (ta 4), .int 0])), (yp, .inr (3, [.int 0, .ref (ta 4), .int 0]))]) hD hS hA [0, 1, 2] rfl
  refine va_calli (va_runV (As := [.int 1, .int 1]) (rest := []) ⟨hx, hb, hml, hown, hts⟩ (c_X7_start_1 l dC dI y ys yp sa ta H.size th) (cwV 2 hts gX7_expose_X7_start rfl rfl rfl (by decide +kernel) ⟨Nat.le_of_ble_eq_true rfl, Nat.le_of_ble_eq_true rfl⟩) ⟨ax_fbW, va_recv hK hP (ci := 11) (q0 := 0) rfl rfl, ax_prW hPc hKc hDc hS hFc hE⟩ rfl rfl hl.1 rfl (lv_room (Nat.le_of_ble_eq_true rfl)) dX7_expose_7 ⟨Nat.le_of_ble_eq_true rfl, Nat.le_of_ble_eq_true rfl⟩) hS (fun q _ h9 => hFc q h9) hFc (fun r_4 u_6  t H locs ht hvm hw_5 hB hz1 hk1 hS => ?_)
  obtain ⟨hP1, hK1, hD1⟩ := hB
  rw [ht] at hP1
  have hK1 := va_K.moved hvm.symm hK1
  obtain ⟨hP, hD⟩ := va_join (wr := []) (w1 := [(y, .inr (11, [.int 1, .ref ys, .ref yp, .int 0])), (ys, .inr (3, [.int 0, .ref (ta 4), .int 0])), (yp, .inr (3, [.int 0, .ref (ta 4), .int 0]))]) hP hD [0, 1, 2] [] rfl rfl (by decide) (by decide) hk1 hFc hP1 hD1
  have hP : va_P (dC, dI) vwCl [(y, .inr (11, [.int 1, .ref ys, .ref yp, .int 0])), (ys, .inr (3, [.int 0, .ref (ta 4), .int 0])), (yp, .inr (3, [.int 0, .ref (ta 4), .int 0]))] H := hP
  have hD : va_D A [(y, .inr (11, [.int 1, .ref ys, .ref yp, .int 0])), (ys, .inr (3, [.int 0, .ref (ta 4), .int 0])), (yp, .inr (3, [.int 0, .ref (ta 4), .int 0]))] := hD
  refine ax_i (y := 1) hw_5 ?_
  refine lv_if_ne (tgt := 36) hx hb dX7_expose_10 (by decide) (fun _ => ?_) (fun h9 => absurd h9 (by decide))
  refine lv_iconst (v := 0) hx hb dX7_expose_36 (by decide) ?_
  refine W.widen (k := 0) (n := 0) (Nat.le_of_ble_eq_true rfl) (Nat.le_of_ble_eq_true rfl) ?_
  have hP9 := hP.sub (ws' := [(y, .inr (11, [.int 1, .ref ys, .ref yp, .int 0]))]) [0] rfl
  have hD9 := hD.sub (ws' := [(y, .inr (11, [.int 1, .ref ys, .ref yp, .int 0]))]) [0] (by decide) rfl
  have hK9 := hK.sub (tys' := []) [] rfl
  exact W.iret (v := 0) hx hb hr (fun t ht hW => ⟨⟨0, 1, rfl, rfl, by rw [ht]; exact hP9, va_K.moved hW.alike hK9, hD9⟩, hS.F ht⟩) hS.2.2 dX7_expose_37

set_option maxHeartbeats 4000000 in
set_option maxRecDepth 100000 in
theorem c_X7_amplitude (l : Launch) (dC : Nat → ClassId) (dI : Nat → Nat → Nat) (y ys yp : Nat) (sa ta : Nat → Nat) (sz : Nat) (th : Int32) (p0 : Int32) (p1 : Int32) (p2 : Int32) (p3 : Int32) : Met l yX7_amplitude wsX7_amplitude ({ frames := 32, cells := 0, slots := 0, locals := 800 }) (va_Pc [.ref y, .int p0, .int p1, .int p2, .int p3] (ax_W (dC, dI) vwCl [(y, .inr (11, [.int th, .ref ys, .ref yp, .int 0])), (ys, .inr (3, [.int 0, .ref (ta 4), .int 0])), (yp, .inr (3, [.int 0, .ref (ta 4), .int 0]))] [] sa ta sz)) (va_Ql (fun (r : Int64) (u : Int32) => u = 1) (fun (u : Int32) (t : State) => va_P (dC, dI) vwCl [(y, .inr (11, [.int u, .ref ys, .ref yp, .int 0]))] t.heap ∧ va_K (dC, dI) vwCl [] t ∧ va_D (va_A [(y, .inr (11, [.int th, .ref ys, .ref yp, .int 0])), (ys, .inr (3, [.int 0, .ref (ta 4), .int 0])), (yp, .inr (3, [.int 0, .ref (ta 4), .int 0]))] sz) [(y, .inr (11, [.int u, .ref ys, .ref yp, .int 0]))]) (va_A [(y, .inr (11, [.int th, .ref ys, .ref yp, .int 0])), (ys, .inr (3, [.int 0, .ref (ta 4), .int 0])), (yp, .inr (3, [.int 0, .ref (ta 4), .int 0]))] sz)) 0 0 (va_A [(y, .inr (11, [.int th, .ref ys, .ref yp, .int 0])), (ys, .inr (3, [.int 0, .ref (ta 4), .int 0])), (yp, .inr (3, [.int 0, .ref (ta 4), .int 0]))] sz) := by
  refine Met.ofW (cc := cX7_amplitude) (maxL := 5) (ret := (some .long)) (by decide) rfl ?_
  intro p e s m args below meth c s₁ B hml hv
  obtain ⟨rfl, hsz, hP, hK, hD0, hE⟩ := hv
  have hx := B.exec
  have hb := B.bytes
  have hr := B.returns
  have hts := atoms_spec (ws := wsX7_amplitude) B.pre
  have hown : s.vm.findClass RX7 = some m.cls := findClass_of_methodNamed B.named
  have hlocks := B.notSynchronized
  subst hsz
  have hD := hD0.self (sz := s.heap.size)
  generalize hAe : va_A [(y, .inr (11, [.int th, .ref ys, .ref yp, .int 0])), (ys, .inr (3, [.int 0, .ref (ta 4), .int 0])), (yp, .inr (3, [.int 0, .ref (ta 4), .int 0]))] s.heap.size = A at hD hE ⊢
  have hA : ∀ q : Nat, s.heap.size ≤ q → A q := fun q h => by rw [← hAe]; exact Or.inr h
  have hS : va_S A s.heap s.heap [] := va_S.rf
  have hl := lv_entry ([.ref y, .int p0, .int p1, .int p2, .int p3]) (n := 5) (Nat.le_of_ble_eq_true rfl)
  rw [lg_entry_eq]
  generalize (lg_sl ([.ref y, .int p0, .int p1, .int p2, .int p3]) ++ List.replicate (5 - (lg_sl ([.ref y, .int p0, .int p1, .int p2, .int p3])).length) Slot.unset).toArray = ls at hl ⊢
  have hl : lv_has ls 5 [(0, .ref y), (1, .int p0), (2, .int p1), (3, .int p2), (4, .int p3)] := hl
  have hP : va_P (dC, dI) vwCl [(y, .inr (11, [.int th, .ref ys, .ref yp, .int 0])), (ys, .inr (3, [.int 0, .ref (ta 4), .int 0])), (yp, .inr (3, [.int 0, .ref (ta 4), .int 0]))] s.heap := hP
  refine lv_aload_n hx hb dX7_amplitude_0 rfl (lv_at hl 0 rfl) ?_
  refine lv_aload_n hx hb dX7_amplitude_1 rfl (lv_at hl 0 rfl) ?_
  refine lv_iload_n hx hb dX7_amplitude_2 rfl (lv_at hl 1 rfl) ?_
  have hPc := hP.sub (ws' := [(y, .inr (11, [.int th, .ref ys, .ref yp, .int 0])), (ys, .inr (3, [.int 0, .ref (ta 4), .int 0])), (yp, .inr (3, [.int 0, .ref (ta 4), .int 0]))]) [0, 1, 2] rfl
  have hKc := hK.sub (tys' := []) [] rfl
  refine va_calli (va_runV (As := [.int p0]) (rest := [.ref y]) ⟨hx, hb, hml, hown, hts⟩ (c_X7_isNowhere l dC dI y ys yp sa ta th p0) (cwV 1 hts gX7_amplitude_X7_isNowhere rfl rfl rfl (by decide +kernel) ⟨Nat.le_of_ble_eq_true rfl, Nat.le_of_ble_eq_true rfl⟩) ⟨ax_fbR, va_recv hK hP (ci := 11) (q0 := 0) rfl rfl, ax_prR hPc hKc hS hE⟩ rfl rfl hl.1 rfl (lv_room (Nat.le_of_ble_eq_true rfl)) dX7_amplitude_3 ⟨Nat.le_of_ble_eq_true rfl, Nat.le_of_ble_eq_true rfl⟩) hS (fun _ _ h9 => h9.elim) (fun _ h9 => h9.elim) (fun r_1 u_3  t H locs ht hvm hw_2 hB hz1 hk1 hS => ?_)
  have hP := ax_keep hP (fun _ h9 => h9) hk1
  rcases hw_2 with ⟨hr9, hw_2⟩ | ⟨hr9, hw_2⟩
  · refine ax_i hr9 ?_
    refine lv_if_ne (tgt := 33) hx hb dX7_amplitude_6 (by decide) (fun _ => ?_) (fun h9 => absurd h9 (by decide))
    refine lv_iconst (v := 1) hx hb dX7_amplitude_33 (by decide) ?_
    refine lv_goto (tgt := 38) hx hb dX7_amplitude_34 (by decide) ?_
    refine lv_iconst (v := 1) hx hb dX7_amplitude_38 (by decide) ?_
    have hPc := hP.sub (ws' := [(y, .inr (11, [.int th, .ref ys, .ref yp, .int 0])), (ys, .inr (3, [.int 0, .ref (ta 4), .int 0])), (yp, .inr (3, [.int 0, .ref (ta 4), .int 0]))]) [0, 1, 2] rfl
    have hKc := hK.sub (tys' := []) [] rfl
    have hDc := hD.sub (ws' := [(y, .inr (11, [.int th, .ref ys, .ref yp, .int 0])), (ys, .inr (3, [.int 0, .ref (ta 4), .int 0])), (yp, .inr (3, [.int 0, .ref (ta 4), .int 0]))]) [0, 1, 2] (by decide) rfl
    have hFc := va_free (wc := [(y, .inr (11, [.int th, .ref ys, .ref yp, .int 0])), (ys, .inr (3, [.int 0, .ref (ta 4), .int 0])), (yp, .inr (3, [.int 0, .ref (ta 4), .int 0]))]) hD hS hA [0, 1, 2] rfl
    refine va_calli (va_runV (As := [.int 1, .int 1]) (rest := []) ⟨hx, hb, hml, hown, hts⟩ (c_X7_start_1 l dC dI y ys yp sa ta H.size th) (cwV 2 hts gX7_amplitude_X7_start rfl rfl rfl (by decide +kernel) ⟨Nat.le_of_ble_eq_true rfl, Nat.le_of_ble_eq_true rfl⟩) ⟨ax_fbW, va_recv hK hP (ci := 11) (q0 := 0) rfl rfl, ax_prW hPc hKc hDc hS hFc hE⟩ rfl rfl hl.1 rfl (lv_room (Nat.le_of_ble_eq_true rfl)) dX7_amplitude_39 ⟨Nat.le_of_ble_eq_true rfl, Nat.le_of_ble_eq_true rfl⟩) hS (fun q _ h9 => hFc q h9) hFc (fun r_4 u_6  t H locs ht hvm hw_5 hB hz1 hk1 hS => ?_)
    obtain ⟨hP1, hK1, hD1⟩ := hB
    rw [ht] at hP1
    have hK1 := va_K.moved hvm.symm hK1
    obtain ⟨hP, hD⟩ := va_join (wr := []) (w1 := [(y, .inr (11, [.int 1, .ref ys, .ref yp, .int 0])), (ys, .inr (3, [.int 0, .ref (ta 4), .int 0])), (yp, .inr (3, [.int 0, .ref (ta 4), .int 0]))]) hP hD [0, 1, 2] [] rfl rfl (by decide) (by decide) hk1 hFc hP1 hD1
    have hP : va_P (dC, dI) vwCl [(y, .inr (11, [.int 1, .ref ys, .ref yp, .int 0])), (ys, .inr (3, [.int 0, .ref (ta 4), .int 0])), (yp, .inr (3, [.int 0, .ref (ta 4), .int 0]))] H := hP
    have hD : va_D A [(y, .inr (11, [.int 1, .ref ys, .ref yp, .int 0])), (ys, .inr (3, [.int 0, .ref (ta 4), .int 0])), (yp, .inr (3, [.int 0, .ref (ta 4), .int 0]))] := hD
    refine ax_i (y := 1) hw_5 ?_
    refine lv_if_ne (tgt := 69) hx hb dX7_amplitude_42 (by decide) (fun _ => ?_) (fun h9 => absurd h9 (by decide))
    refine lv_lconst (v := 0) hx hb dX7_amplitude_69 (by decide) ?_
    refine W.widen (k := 0) (n := 0) (Nat.le_of_ble_eq_true rfl) (Nat.le_of_ble_eq_true rfl) ?_
    have hP9 := hP.sub (ws' := [(y, .inr (11, [.int 1, .ref ys, .ref yp, .int 0]))]) [0] rfl
    have hD9 := hD.sub (ws' := [(y, .inr (11, [.int 1, .ref ys, .ref yp, .int 0]))]) [0] (by decide) rfl
    have hK9 := hK.sub (tys' := []) [] rfl
    exact W.lret (v := 0) hx hb hr (fun t ht hW => ⟨⟨0, 1, rfl, rfl, by rw [ht]; exact hP9, va_K.moved hW.alike hK9, hD9⟩, hS.F ht⟩) hS.2.2 dX7_amplitude_70
  · refine ax_i hr9 ?_
    refine lv_if_ne (tgt := 33) hx hb dX7_amplitude_6 (by decide) (fun h9 => absurd rfl h9) (fun _ => ?_)
    refine lv_iload_n hx hb dX7_amplitude_9 rfl (lv_at hl 2 rfl) ?_
    refine lv_iconst (v := 0) hx hb dX7_amplitude_10 (by decide) ?_
    refine lv_aload_n hx hb dX7_amplitude_11 rfl (lv_at hl 0 rfl) ?_
    refine va_get (D := (dC, dI)) (ci := 11) (v := .ref ys) (C := RX7) (T := TX7) (N := 4) hx hb hts (by decide +kernel) hown hK hP 0 rfl rfl 1 (by decide) (hts (.fieldLink RX7 10 "DiffractoryModel" "sources" "Ljava/util/ArrayList;") (by decide +kernel)) (fun _ h9 => h9) rfl dX7_amplitude_12 ?_
    have hPc := hP.sub (ws' := [(ys, .inr (3, [.int 0, .ref (ta 4), .int 0]))]) [1] rfl
    have hKc := hK.sub (tys' := []) [] rfl
    refine va_calli (va_runV (As := []) (rest := [.int 0, .int p1, .ref y]) ⟨hx, hb, hml, hown, hts⟩ (c_Jx4a65c_size_8abf5 l dC dI ys (ta 4) sa ta 0 0) (cwV 0 hts gX7_amplitude_Jx4a65c_size_8abf5 rfl rfl rfl (by decide +kernel) ⟨Nat.le_of_ble_eq_true rfl, Nat.le_of_ble_eq_true rfl⟩) ⟨ax_fbR, va_recv hK hP (ci := 3) (q0 := 1) rfl rfl, ax_prR hPc hKc hS hE⟩ rfl rfl hl.1 rfl (lv_room (Nat.le_of_ble_eq_true rfl)) dX7_amplitude_15 ⟨Nat.le_of_ble_eq_true rfl, Nat.le_of_ble_eq_true rfl⟩) hS (fun _ _ h9 => h9.elim) (fun _ h9 => h9.elim) (fun r_7 u_9  t H locs ht hvm hw_8 hB hz1 hk1 hS => ?_)
    have hP := ax_keep hP (fun _ h9 => h9) hk1
    refine ax_i (y := 0) hw_8 ?_
    refine lv_iconst (v := 1) hx hb dX7_amplitude_18 (by decide) ?_
    refine lv_isub hx hb dX7_amplitude_19 ?_
    refine ax_i (y := (-1)) (by decide) ?_
    refine va_calli (va_runS (As := [.int p1, .int 0, .int (-1)]) (rest := [.ref y]) ⟨hx, hb, hml, hown, hts⟩ (c_X7_isIn l p1 0 (-1)) (va_cwS 3 hts gX7_amplitude_X7_isIn rfl rfl rfl (by decide +kernel) ⟨Nat.le_of_ble_eq_true rfl, Nat.le_of_ble_eq_true rfl⟩) ⟨ax_fbP, ax_prP⟩ rfl rfl hl.1 rfl (lv_room (Nat.le_of_ble_eq_true rfl)) dX7_amplitude_20 ⟨Nat.le_of_ble_eq_true rfl, Nat.le_of_ble_eq_true rfl⟩) hS (fun _ _ h9 => h9.elim) (fun _ h9 => h9.elim) (fun r_10 u_12  t H locs ht hvm hw_11 hB hz1 hk1 hS => ?_)
    have hP := ax_keep hP (fun _ h9 => h9) hk1
    rcases hw_11 with ⟨hr9, hw_11⟩ | ⟨hr9, hw_11⟩
    · have hw_11 : 0 ≤ p1.toInt ∧ p1.toInt ≤ (-1) := hw_11
      exfalso
      omega
    · have hw_11 : ¬ (0 ≤ p1.toInt ∧ p1.toInt ≤ (-1)) := hw_11
      refine ax_i hr9 ?_
      refine lv_if_eq (tgt := 33) hx hb dX7_amplitude_23 (by decide) (fun _ => ?_) (fun h9 => absurd (by decide) h9)
      refine lv_iconst (v := 1) hx hb dX7_amplitude_33 (by decide) ?_
      refine lv_goto (tgt := 38) hx hb dX7_amplitude_34 (by decide) ?_
      refine lv_iconst (v := 1) hx hb dX7_amplitude_38 (by decide) ?_
      have hPc := hP.sub (ws' := [(y, .inr (11, [.int th, .ref ys, .ref yp, .int 0])), (ys, .inr (3, [.int 0, .ref (ta 4), .int 0])), (yp, .inr (3, [.int 0, .ref (ta 4), .int 0]))]) [0, 1, 2] rfl
      have hKc := hK.sub (tys' := []) [] rfl
      have hDc := hD.sub (ws' := [(y, .inr (11, [.int th, .ref ys, .ref yp, .int 0])), (ys, .inr (3, [.int 0, .ref (ta 4), .int 0])), (yp, .inr (3, [.int 0, .ref (ta 4), .int 0]))]) [0, 1, 2] (by decide) rfl
      have hFc := va_free (wc := [(y, .inr (11, [.int th, .ref ys, .ref yp, .int 0])), (ys, .inr (3, [.int 0, .ref (ta 4), .int 0])), (yp, .inr (3, [.int 0, .ref (ta 4), .int 0]))]) hD hS hA [0, 1, 2] rfl
      refine va_calli (va_runV (As := [.int 1, .int 1]) (rest := []) ⟨hx, hb, hml, hown, hts⟩ (c_X7_start_1 l dC dI y ys yp sa ta H.size th) (cwV 2 hts gX7_amplitude_X7_start rfl rfl rfl (by decide +kernel) ⟨Nat.le_of_ble_eq_true rfl, Nat.le_of_ble_eq_true rfl⟩) ⟨ax_fbW, va_recv hK hP (ci := 11) (q0 := 0) rfl rfl, ax_prW hPc hKc hDc hS hFc hE⟩ rfl rfl hl.1 rfl (lv_room (Nat.le_of_ble_eq_true rfl)) dX7_amplitude_39 ⟨Nat.le_of_ble_eq_true rfl, Nat.le_of_ble_eq_true rfl⟩) hS (fun q _ h9 => hFc q h9) hFc (fun r_13 u_15  t H locs ht hvm hw_14 hB hz1 hk1 hS => ?_)
      obtain ⟨hP1, hK1, hD1⟩ := hB
      rw [ht] at hP1
      have hK1 := va_K.moved hvm.symm hK1
      obtain ⟨hP, hD⟩ := va_join (wr := []) (w1 := [(y, .inr (11, [.int 1, .ref ys, .ref yp, .int 0])), (ys, .inr (3, [.int 0, .ref (ta 4), .int 0])), (yp, .inr (3, [.int 0, .ref (ta 4), .int 0]))]) hP hD [0, 1, 2] [] rfl rfl (by decide) (by decide) hk1 hFc hP1 hD1
      have hP : va_P (dC, dI) vwCl [(y, .inr (11, [.int 1, .ref ys, .ref yp, .int 0])), (ys, .inr (3, [.int 0, .ref (ta 4), .int 0])), (yp, .inr (3, [.int 0, .ref (ta 4), .int 0]))] H := hP
      have hD : va_D A [(y, .inr (11, [.int 1, .ref ys, .ref yp, .int 0])), (ys, .inr (3, [.int 0, .ref (ta 4), .int 0])), (yp, .inr (3, [.int 0, .ref (ta 4), .int 0]))] := hD
      refine ax_i (y := 1) hw_14 ?_
      refine lv_if_ne (tgt := 69) hx hb dX7_amplitude_42 (by decide) (fun _ => ?_) (fun h9 => absurd h9 (by decide))
      refine lv_lconst (v := 0) hx hb dX7_amplitude_69 (by decide) ?_
      refine W.widen (k := 0) (n := 0) (Nat.le_of_ble_eq_true rfl) (Nat.le_of_ble_eq_true rfl) ?_
      have hP9 := hP.sub (ws' := [(y, .inr (11, [.int 1, .ref ys, .ref yp, .int 0]))]) [0] rfl
      have hD9 := hD.sub (ws' := [(y, .inr (11, [.int 1, .ref ys, .ref yp, .int 0]))]) [0] (by decide) rfl
      have hK9 := hK.sub (tys' := []) [] rfl
      exact W.lret (v := 0) hx hb hr (fun t ht hW => ⟨⟨0, 1, rfl, rfl, by rw [ht]; exact hP9, va_K.moved hW.alike hK9, hD9⟩, hS.F ht⟩) hS.2.2 dX7_amplitude_70

set_option maxHeartbeats 4000000 in
set_option maxRecDepth 100000 in
theorem c_X7_loses (l : Launch) (dC : Nat → ClassId) (dI : Nat → Nat → Nat) (y ys yp : Nat) (sa ta : Nat → Nat) (sz : Nat) (th : Int32) (p0 : Int32) : Met l yX7_loses wsX7_loses ({ frames := 24, cells := 0, slots := 0, locals := 600 }) (va_Pc [.ref y, .int p0] (ax_W (dC, dI) vwCl [(y, .inr (11, [.int th, .ref ys, .ref yp, .int 0])), (ys, .inr (3, [.int 0, .ref (ta 4), .int 0])), (yp, .inr (3, [.int 0, .ref (ta 4), .int 0]))] [] sa ta sz)) (va_Ql (fun (r : Int64) (u : Int32) => u = 1) (fun (u : Int32) (t : State) => va_P (dC, dI) vwCl [(y, .inr (11, [.int u, .ref ys, .ref yp, .int 0]))] t.heap ∧ va_K (dC, dI) vwCl [] t ∧ va_D (va_A [(y, .inr (11, [.int th, .ref ys, .ref yp, .int 0])), (ys, .inr (3, [.int 0, .ref (ta 4), .int 0])), (yp, .inr (3, [.int 0, .ref (ta 4), .int 0]))] sz) [(y, .inr (11, [.int u, .ref ys, .ref yp, .int 0]))]) (va_A [(y, .inr (11, [.int th, .ref ys, .ref yp, .int 0])), (ys, .inr (3, [.int 0, .ref (ta 4), .int 0])), (yp, .inr (3, [.int 0, .ref (ta 4), .int 0]))] sz)) 0 0 (va_A [(y, .inr (11, [.int th, .ref ys, .ref yp, .int 0])), (ys, .inr (3, [.int 0, .ref (ta 4), .int 0])), (yp, .inr (3, [.int 0, .ref (ta 4), .int 0]))] sz) := by
  refine Met.ofW (cc := cX7_loses) (maxL := 2) (ret := (some .long)) (by decide) rfl ?_
  intro p e s m args below meth c s₁ B hml hv
  obtain ⟨rfl, hsz, hP, hK, hD0, hE⟩ := hv
  have hx := B.exec
  have hb := B.bytes
  have hr := B.returns
  have hts := atoms_spec (ws := wsX7_loses) B.pre
  have hown : s.vm.findClass RX7 = some m.cls := findClass_of_methodNamed B.named
  have hlocks := B.notSynchronized
  subst hsz
  have hD := hD0.self (sz := s.heap.size)
  generalize hAe : va_A [(y, .inr (11, [.int th, .ref ys, .ref yp, .int 0])), (ys, .inr (3, [.int 0, .ref (ta 4), .int 0])), (yp, .inr (3, [.int 0, .ref (ta 4), .int 0]))] s.heap.size = A at hD hE ⊢
  have hA : ∀ q : Nat, s.heap.size ≤ q → A q := fun q h => by rw [← hAe]; exact Or.inr h
  have hS : va_S A s.heap s.heap [] := va_S.rf
  have hl := lv_entry ([.ref y, .int p0]) (n := 2) (Nat.le_of_ble_eq_true rfl)
  rw [lg_entry_eq]
  generalize (lg_sl ([.ref y, .int p0]) ++ List.replicate (2 - (lg_sl ([.ref y, .int p0])).length) Slot.unset).toArray = ls at hl ⊢
  have hl : lv_has ls 2 [(0, .ref y), (1, .int p0)] := hl
  have hP : va_P (dC, dI) vwCl [(y, .inr (11, [.int th, .ref ys, .ref yp, .int 0])), (ys, .inr (3, [.int 0, .ref (ta 4), .int 0])), (yp, .inr (3, [.int 0, .ref (ta 4), .int 0]))] s.heap := hP
  refine lv_aload_n hx hb dX7_loses_0 rfl (lv_at hl 0 rfl) ?_
  refine lv_aload_n hx hb dX7_loses_1 rfl (lv_at hl 0 rfl) ?_
  refine lv_iload_n hx hb dX7_loses_2 rfl (lv_at hl 1 rfl) ?_
  have hPc := hP.sub (ws' := [(y, .inr (11, [.int th, .ref ys, .ref yp, .int 0])), (ys, .inr (3, [.int 0, .ref (ta 4), .int 0])), (yp, .inr (3, [.int 0, .ref (ta 4), .int 0]))]) [0, 1, 2] rfl
  have hKc := hK.sub (tys' := []) [] rfl
  refine va_calli (va_runV (As := [.int p0]) (rest := [.ref y]) ⟨hx, hb, hml, hown, hts⟩ (c_X7_isNoPart l dC dI y ys yp sa ta th p0) (cwV 1 hts gX7_loses_X7_isNoPart rfl rfl rfl (by decide +kernel) ⟨Nat.le_of_ble_eq_true rfl, Nat.le_of_ble_eq_true rfl⟩) ⟨ax_fbR, va_recv hK hP (ci := 11) (q0 := 0) rfl rfl, ax_prR hPc hKc hS hE⟩ rfl rfl hl.1 rfl (lv_room (Nat.le_of_ble_eq_true rfl)) dX7_loses_3 ⟨Nat.le_of_ble_eq_true rfl, Nat.le_of_ble_eq_true rfl⟩) hS (fun _ _ h9 => h9.elim) (fun _ h9 => h9.elim) (fun r_1 u_3  t H locs ht hvm hw_2 hB hz1 hk1 hS => ?_)
  have hP := ax_keep hP (fun _ h9 => h9) hk1
  refine ax_i (y := 1) hw_2 ?_
  refine lv_iconst (v := 1) hx hb dX7_loses_6 (by decide) ?_
  have hPc := hP.sub (ws' := [(y, .inr (11, [.int th, .ref ys, .ref yp, .int 0])), (ys, .inr (3, [.int 0, .ref (ta 4), .int 0])), (yp, .inr (3, [.int 0, .ref (ta 4), .int 0]))]) [0, 1, 2] rfl
  have hKc := hK.sub (tys' := []) [] rfl
  have hDc := hD.sub (ws' := [(y, .inr (11, [.int th, .ref ys, .ref yp, .int 0])), (ys, .inr (3, [.int 0, .ref (ta 4), .int 0])), (yp, .inr (3, [.int 0, .ref (ta 4), .int 0]))]) [0, 1, 2] (by decide) rfl
  have hFc := va_free (wc := [(y, .inr (11, [.int th, .ref ys, .ref yp, .int 0])), (ys, .inr (3, [.int 0, .ref (ta 4), .int 0])), (yp, .inr (3, [.int 0, .ref (ta 4), .int 0]))]) hD hS hA [0, 1, 2] rfl
  refine va_calli (va_runV (As := [.int 1, .int 1]) (rest := []) ⟨hx, hb, hml, hown, hts⟩ (c_X7_start_1 l dC dI y ys yp sa ta H.size th) (cwV 2 hts gX7_loses_X7_start rfl rfl rfl (by decide +kernel) ⟨Nat.le_of_ble_eq_true rfl, Nat.le_of_ble_eq_true rfl⟩) ⟨ax_fbW, va_recv hK hP (ci := 11) (q0 := 0) rfl rfl, ax_prW hPc hKc hDc hS hFc hE⟩ rfl rfl hl.1 rfl (lv_room (Nat.le_of_ble_eq_true rfl)) dX7_loses_7 ⟨Nat.le_of_ble_eq_true rfl, Nat.le_of_ble_eq_true rfl⟩) hS (fun q _ h9 => hFc q h9) hFc (fun r_4 u_6  t H locs ht hvm hw_5 hB hz1 hk1 hS => ?_)
  obtain ⟨hP1, hK1, hD1⟩ := hB
  rw [ht] at hP1
  have hK1 := va_K.moved hvm.symm hK1
  obtain ⟨hP, hD⟩ := va_join (wr := []) (w1 := [(y, .inr (11, [.int 1, .ref ys, .ref yp, .int 0])), (ys, .inr (3, [.int 0, .ref (ta 4), .int 0])), (yp, .inr (3, [.int 0, .ref (ta 4), .int 0]))]) hP hD [0, 1, 2] [] rfl rfl (by decide) (by decide) hk1 hFc hP1 hD1
  have hP : va_P (dC, dI) vwCl [(y, .inr (11, [.int 1, .ref ys, .ref yp, .int 0])), (ys, .inr (3, [.int 0, .ref (ta 4), .int 0])), (yp, .inr (3, [.int 0, .ref (ta 4), .int 0]))] H := hP
  have hD : va_D A [(y, .inr (11, [.int 1, .ref ys, .ref yp, .int 0])), (ys, .inr (3, [.int 0, .ref (ta 4), .int 0])), (yp, .inr (3, [.int 0, .ref (ta 4), .int 0]))] := hD
  refine ax_i (y := 1) hw_5 ?_
  refine lv_if_eq (tgt := 17) hx hb dX7_loses_10 (by decide) (fun h9 => absurd h9 (by decide)) (fun _ => ?_)
  refine lv_lconst (v := 0) hx hb dX7_loses_13 (by decide) ?_
  refine lv_goto (tgt := 22) hx hb dX7_loses_14 (by decide) ?_
  refine W.widen (k := 0) (n := 0) (Nat.le_of_ble_eq_true rfl) (Nat.le_of_ble_eq_true rfl) ?_
  have hP9 := hP.sub (ws' := [(y, .inr (11, [.int 1, .ref ys, .ref yp, .int 0]))]) [0] rfl
  have hD9 := hD.sub (ws' := [(y, .inr (11, [.int 1, .ref ys, .ref yp, .int 0]))]) [0] (by decide) rfl
  have hK9 := hK.sub (tys' := []) [] rfl
  exact W.lret (v := 0) hx hb hr (fun t ht hW => ⟨⟨0, 1, rfl, rfl, by rw [ht]; exact hP9, va_K.moved hW.alike hK9, hD9⟩, hS.F ht⟩) hS.2.2 dX7_loses_22

set_option maxHeartbeats 4000000 in
set_option maxRecDepth 100000 in
theorem c_X7_ofPart (l : Launch) (dC : Nat → ClassId) (dI : Nat → Nat → Nat) (y ys yp : Nat) (sa ta : Nat → Nat) (sz : Nat) (th : Int32) (p0 : Int32) (p1 : Int32) : Met l yX7_ofPart wsX7_ofPart ({ frames := 24, cells := 0, slots := 0, locals := 600 }) (va_Pc [.ref y, .int p0, .int p1] (ax_W (dC, dI) vwCl [(y, .inr (11, [.int th, .ref ys, .ref yp, .int 0])), (ys, .inr (3, [.int 0, .ref (ta 4), .int 0])), (yp, .inr (3, [.int 0, .ref (ta 4), .int 0]))] [] sa ta sz)) (va_Qi (fun (r : Int32) (u : Int32) => u = 1) (fun (u : Int32) (t : State) => va_P (dC, dI) vwCl [(y, .inr (11, [.int u, .ref ys, .ref yp, .int 0]))] t.heap ∧ va_K (dC, dI) vwCl [] t ∧ va_D (va_A [(y, .inr (11, [.int th, .ref ys, .ref yp, .int 0])), (ys, .inr (3, [.int 0, .ref (ta 4), .int 0])), (yp, .inr (3, [.int 0, .ref (ta 4), .int 0]))] sz) [(y, .inr (11, [.int u, .ref ys, .ref yp, .int 0]))]) (va_A [(y, .inr (11, [.int th, .ref ys, .ref yp, .int 0])), (ys, .inr (3, [.int 0, .ref (ta 4), .int 0])), (yp, .inr (3, [.int 0, .ref (ta 4), .int 0]))] sz)) 0 0 (va_A [(y, .inr (11, [.int th, .ref ys, .ref yp, .int 0])), (ys, .inr (3, [.int 0, .ref (ta 4), .int 0])), (yp, .inr (3, [.int 0, .ref (ta 4), .int 0]))] sz) := by
  refine Met.ofW (cc := cX7_ofPart) (maxL := 3) (ret := (some .int)) (by decide) rfl ?_
  intro p e s m args below meth c s₁ B hml hv
  obtain ⟨rfl, hsz, hP, hK, hD0, hE⟩ := hv
  have hx := B.exec
  have hb := B.bytes
  have hr := B.returns
  have hts := atoms_spec (ws := wsX7_ofPart) B.pre
  have hown : s.vm.findClass RX7 = some m.cls := findClass_of_methodNamed B.named
  have hlocks := B.notSynchronized
  subst hsz
  have hD := hD0.self (sz := s.heap.size)
  generalize hAe : va_A [(y, .inr (11, [.int th, .ref ys, .ref yp, .int 0])), (ys, .inr (3, [.int 0, .ref (ta 4), .int 0])), (yp, .inr (3, [.int 0, .ref (ta 4), .int 0]))] s.heap.size = A at hD hE ⊢
  have hA : ∀ q : Nat, s.heap.size ≤ q → A q := fun q h => by rw [← hAe]; exact Or.inr h
  have hS : va_S A s.heap s.heap [] := va_S.rf
  have hl := lv_entry ([.ref y, .int p0, .int p1]) (n := 3) (Nat.le_of_ble_eq_true rfl)
  rw [lg_entry_eq]
  generalize (lg_sl ([.ref y, .int p0, .int p1]) ++ List.replicate (3 - (lg_sl ([.ref y, .int p0, .int p1])).length) Slot.unset).toArray = ls at hl ⊢
  have hl : lv_has ls 3 [(0, .ref y), (1, .int p0), (2, .int p1)] := hl
  have hP : va_P (dC, dI) vwCl [(y, .inr (11, [.int th, .ref ys, .ref yp, .int 0])), (ys, .inr (3, [.int 0, .ref (ta 4), .int 0])), (yp, .inr (3, [.int 0, .ref (ta 4), .int 0]))] s.heap := hP
  refine lv_aload_n hx hb dX7_ofPart_0 rfl (lv_at hl 0 rfl) ?_
  refine lv_aload_n hx hb dX7_ofPart_1 rfl (lv_at hl 0 rfl) ?_
  refine lv_iload_n hx hb dX7_ofPart_2 rfl (lv_at hl 1 rfl) ?_
  have hPc := hP.sub (ws' := [(y, .inr (11, [.int th, .ref ys, .ref yp, .int 0])), (ys, .inr (3, [.int 0, .ref (ta 4), .int 0])), (yp, .inr (3, [.int 0, .ref (ta 4), .int 0]))]) [0, 1, 2] rfl
  have hKc := hK.sub (tys' := []) [] rfl
  refine va_calli (va_runV (As := [.int p0]) (rest := [.ref y]) ⟨hx, hb, hml, hown, hts⟩ (c_X7_isNoPart l dC dI y ys yp sa ta th p0) (cwV 1 hts gX7_ofPart_X7_isNoPart rfl rfl rfl (by decide +kernel) ⟨Nat.le_of_ble_eq_true rfl, Nat.le_of_ble_eq_true rfl⟩) ⟨ax_fbR, va_recv hK hP (ci := 11) (q0 := 0) rfl rfl, ax_prR hPc hKc hS hE⟩ rfl rfl hl.1 rfl (lv_room (Nat.le_of_ble_eq_true rfl)) dX7_ofPart_3 ⟨Nat.le_of_ble_eq_true rfl, Nat.le_of_ble_eq_true rfl⟩) hS (fun _ _ h9 => h9.elim) (fun _ h9 => h9.elim) (fun r_1 u_3  t H locs ht hvm hw_2 hB hz1 hk1 hS => ?_)
  have hP := ax_keep hP (fun _ h9 => h9) hk1
  refine ax_i (y := 1) hw_2 ?_
  refine lv_iconst (v := 1) hx hb dX7_ofPart_6 (by decide) ?_
  have hPc := hP.sub (ws' := [(y, .inr (11, [.int th, .ref ys, .ref yp, .int 0])), (ys, .inr (3, [.int 0, .ref (ta 4), .int 0])), (yp, .inr (3, [.int 0, .ref (ta 4), .int 0]))]) [0, 1, 2] rfl
  have hKc := hK.sub (tys' := []) [] rfl
  have hDc := hD.sub (ws' := [(y, .inr (11, [.int th, .ref ys, .ref yp, .int 0])), (ys, .inr (3, [.int 0, .ref (ta 4), .int 0])), (yp, .inr (3, [.int 0, .ref (ta 4), .int 0]))]) [0, 1, 2] (by decide) rfl
  have hFc := va_free (wc := [(y, .inr (11, [.int th, .ref ys, .ref yp, .int 0])), (ys, .inr (3, [.int 0, .ref (ta 4), .int 0])), (yp, .inr (3, [.int 0, .ref (ta 4), .int 0]))]) hD hS hA [0, 1, 2] rfl
  refine va_calli (va_runV (As := [.int 1, .int 1]) (rest := []) ⟨hx, hb, hml, hown, hts⟩ (c_X7_start_1 l dC dI y ys yp sa ta H.size th) (cwV 2 hts gX7_ofPart_X7_start rfl rfl rfl (by decide +kernel) ⟨Nat.le_of_ble_eq_true rfl, Nat.le_of_ble_eq_true rfl⟩) ⟨ax_fbW, va_recv hK hP (ci := 11) (q0 := 0) rfl rfl, ax_prW hPc hKc hDc hS hFc hE⟩ rfl rfl hl.1 rfl (lv_room (Nat.le_of_ble_eq_true rfl)) dX7_ofPart_7 ⟨Nat.le_of_ble_eq_true rfl, Nat.le_of_ble_eq_true rfl⟩) hS (fun q _ h9 => hFc q h9) hFc (fun r_4 u_6  t H locs ht hvm hw_5 hB hz1 hk1 hS => ?_)
  obtain ⟨hP1, hK1, hD1⟩ := hB
  rw [ht] at hP1
  have hK1 := va_K.moved hvm.symm hK1
  obtain ⟨hP, hD⟩ := va_join (wr := []) (w1 := [(y, .inr (11, [.int 1, .ref ys, .ref yp, .int 0])), (ys, .inr (3, [.int 0, .ref (ta 4), .int 0])), (yp, .inr (3, [.int 0, .ref (ta 4), .int 0]))]) hP hD [0, 1, 2] [] rfl rfl (by decide) (by decide) hk1 hFc hP1 hD1
  have hP : va_P (dC, dI) vwCl [(y, .inr (11, [.int 1, .ref ys, .ref yp, .int 0])), (ys, .inr (3, [.int 0, .ref (ta 4), .int 0])), (yp, .inr (3, [.int 0, .ref (ta 4), .int 0]))] H := hP
  have hD : va_D A [(y, .inr (11, [.int 1, .ref ys, .ref yp, .int 0])), (ys, .inr (3, [.int 0, .ref (ta 4), .int 0])), (yp, .inr (3, [.int 0, .ref (ta 4), .int 0]))] := hD
  refine ax_i (y := 1) hw_5 ?_
  refine lv_if_ne (tgt := 35) hx hb dX7_ofPart_10 (by decide) (fun _ => ?_) (fun h9 => absurd h9 (by decide))
  refine lv_iconst (v := 0) hx hb dX7_ofPart_35 (by decide) ?_
  refine lv_goto (tgt := 54) hx hb dX7_ofPart_36 (by decide) ?_
  refine W.widen (k := 0) (n := 0) (Nat.le_of_ble_eq_true rfl) (Nat.le_of_ble_eq_true rfl) ?_
  have hP9 := hP.sub (ws' := [(y, .inr (11, [.int 1, .ref ys, .ref yp, .int 0]))]) [0] rfl
  have hD9 := hD.sub (ws' := [(y, .inr (11, [.int 1, .ref ys, .ref yp, .int 0]))]) [0] (by decide) rfl
  have hK9 := hK.sub (tys' := []) [] rfl
  exact W.iret (v := 0) hx hb hr (fun t ht hW => ⟨⟨0, 1, rfl, rfl, by rw [ht]; exact hP9, va_K.moved hW.alike hK9, hD9⟩, hS.F ht⟩) hS.2.2 dX7_ofPart_54

set_option maxHeartbeats 4000000 in
set_option maxRecDepth 100000 in
theorem c_X7_exposure (l : Launch) (dC : Nat → ClassId) (dI : Nat → Nat → Nat) (y ys yp : Nat) (sa ta : Nat → Nat) (sz : Nat) (th : Int32) (p0 : Int32) (p1 : Int32) : Met l yX7_exposure wsX7_exposure ({ frames := 24, cells := 0, slots := 0, locals := 600 }) (va_Pc [.ref y, .int p0, .int p1] (ax_W (dC, dI) vwCl [(y, .inr (11, [.int th, .ref ys, .ref yp, .int 0])), (ys, .inr (3, [.int 0, .ref (ta 4), .int 0])), (yp, .inr (3, [.int 0, .ref (ta 4), .int 0]))] [] sa ta sz)) (va_Qi (fun (r : Int32) (u : Int32) => u = 1) (fun (u : Int32) (t : State) => va_P (dC, dI) vwCl [(y, .inr (11, [.int u, .ref ys, .ref yp, .int 0]))] t.heap ∧ va_K (dC, dI) vwCl [] t ∧ va_D (va_A [(y, .inr (11, [.int th, .ref ys, .ref yp, .int 0])), (ys, .inr (3, [.int 0, .ref (ta 4), .int 0])), (yp, .inr (3, [.int 0, .ref (ta 4), .int 0]))] sz) [(y, .inr (11, [.int u, .ref ys, .ref yp, .int 0]))]) (va_A [(y, .inr (11, [.int th, .ref ys, .ref yp, .int 0])), (ys, .inr (3, [.int 0, .ref (ta 4), .int 0])), (yp, .inr (3, [.int 0, .ref (ta 4), .int 0]))] sz)) 0 0 (va_A [(y, .inr (11, [.int th, .ref ys, .ref yp, .int 0])), (ys, .inr (3, [.int 0, .ref (ta 4), .int 0])), (yp, .inr (3, [.int 0, .ref (ta 4), .int 0]))] sz) := by
  refine Met.ofW (cc := cX7_exposure) (maxL := 3) (ret := (some .int)) (by decide) rfl ?_
  intro p e s m args below meth c s₁ B hml hv
  obtain ⟨rfl, hsz, hP, hK, hD0, hE⟩ := hv
  have hx := B.exec
  have hb := B.bytes
  have hr := B.returns
  have hts := atoms_spec (ws := wsX7_exposure) B.pre
  have hown : s.vm.findClass RX7 = some m.cls := findClass_of_methodNamed B.named
  have hlocks := B.notSynchronized
  subst hsz
  have hD := hD0.self (sz := s.heap.size)
  generalize hAe : va_A [(y, .inr (11, [.int th, .ref ys, .ref yp, .int 0])), (ys, .inr (3, [.int 0, .ref (ta 4), .int 0])), (yp, .inr (3, [.int 0, .ref (ta 4), .int 0]))] s.heap.size = A at hD hE ⊢
  have hA : ∀ q : Nat, s.heap.size ≤ q → A q := fun q h => by rw [← hAe]; exact Or.inr h
  have hS : va_S A s.heap s.heap [] := va_S.rf
  have hl := lv_entry ([.ref y, .int p0, .int p1]) (n := 3) (Nat.le_of_ble_eq_true rfl)
  rw [lg_entry_eq]
  generalize (lg_sl ([.ref y, .int p0, .int p1]) ++ List.replicate (3 - (lg_sl ([.ref y, .int p0, .int p1])).length) Slot.unset).toArray = ls at hl ⊢
  have hl : lv_has ls 3 [(0, .ref y), (1, .int p0), (2, .int p1)] := hl
  have hP : va_P (dC, dI) vwCl [(y, .inr (11, [.int th, .ref ys, .ref yp, .int 0])), (ys, .inr (3, [.int 0, .ref (ta 4), .int 0])), (yp, .inr (3, [.int 0, .ref (ta 4), .int 0]))] s.heap := hP
  refine lv_aload_n hx hb dX7_exposure_0 rfl (lv_at hl 0 rfl) ?_
  refine lv_aload_n hx hb dX7_exposure_1 rfl (lv_at hl 0 rfl) ?_
  refine lv_iload_n hx hb dX7_exposure_2 rfl (lv_at hl 1 rfl) ?_
  have hPc := hP.sub (ws' := [(y, .inr (11, [.int th, .ref ys, .ref yp, .int 0])), (ys, .inr (3, [.int 0, .ref (ta 4), .int 0])), (yp, .inr (3, [.int 0, .ref (ta 4), .int 0]))]) [0, 1, 2] rfl
  have hKc := hK.sub (tys' := []) [] rfl
  refine va_calli (va_runV (As := [.int p0]) (rest := [.ref y]) ⟨hx, hb, hml, hown, hts⟩ (c_X7_isNoPart l dC dI y ys yp sa ta th p0) (cwV 1 hts gX7_exposure_X7_isNoPart rfl rfl rfl (by decide +kernel) ⟨Nat.le_of_ble_eq_true rfl, Nat.le_of_ble_eq_true rfl⟩) ⟨ax_fbR, va_recv hK hP (ci := 11) (q0 := 0) rfl rfl, ax_prR hPc hKc hS hE⟩ rfl rfl hl.1 rfl (lv_room (Nat.le_of_ble_eq_true rfl)) dX7_exposure_3 ⟨Nat.le_of_ble_eq_true rfl, Nat.le_of_ble_eq_true rfl⟩) hS (fun _ _ h9 => h9.elim) (fun _ h9 => h9.elim) (fun r_1 u_3  t H locs ht hvm hw_2 hB hz1 hk1 hS => ?_)
  have hP := ax_keep hP (fun _ h9 => h9) hk1
  refine ax_i (y := 1) hw_2 ?_
  refine lv_if_ne (tgt := 16) hx hb dX7_exposure_6 (by decide) (fun _ => ?_) (fun h9 => absurd h9 (by decide))
  refine lv_iconst (v := 1) hx hb dX7_exposure_16 (by decide) ?_
  refine lv_goto (tgt := 21) hx hb dX7_exposure_17 (by decide) ?_
  refine lv_iconst (v := 1) hx hb dX7_exposure_21 (by decide) ?_
  have hPc := hP.sub (ws' := [(y, .inr (11, [.int th, .ref ys, .ref yp, .int 0])), (ys, .inr (3, [.int 0, .ref (ta 4), .int 0])), (yp, .inr (3, [.int 0, .ref (ta 4), .int 0]))]) [0, 1, 2] rfl
  have hKc := hK.sub (tys' := []) [] rfl
  have hDc := hD.sub (ws' := [(y, .inr (11, [.int th, .ref ys, .ref yp, .int 0])), (ys, .inr (3, [.int 0, .ref (ta 4), .int 0])), (yp, .inr (3, [.int 0, .ref (ta 4), .int 0]))]) [0, 1, 2] (by decide) rfl
  have hFc := va_free (wc := [(y, .inr (11, [.int th, .ref ys, .ref yp, .int 0])), (ys, .inr (3, [.int 0, .ref (ta 4), .int 0])), (yp, .inr (3, [.int 0, .ref (ta 4), .int 0]))]) hD hS hA [0, 1, 2] rfl
  refine va_calli (va_runV (As := [.int 1, .int 1]) (rest := []) ⟨hx, hb, hml, hown, hts⟩ (c_X7_start_1 l dC dI y ys yp sa ta H.size th) (cwV 2 hts gX7_exposure_X7_start rfl rfl rfl (by decide +kernel) ⟨Nat.le_of_ble_eq_true rfl, Nat.le_of_ble_eq_true rfl⟩) ⟨ax_fbW, va_recv hK hP (ci := 11) (q0 := 0) rfl rfl, ax_prW hPc hKc hDc hS hFc hE⟩ rfl rfl hl.1 rfl (lv_room (Nat.le_of_ble_eq_true rfl)) dX7_exposure_22 ⟨Nat.le_of_ble_eq_true rfl, Nat.le_of_ble_eq_true rfl⟩) hS (fun q _ h9 => hFc q h9) hFc (fun r_4 u_6  t H locs ht hvm hw_5 hB hz1 hk1 hS => ?_)
  obtain ⟨hP1, hK1, hD1⟩ := hB
  rw [ht] at hP1
  have hK1 := va_K.moved hvm.symm hK1
  obtain ⟨hP, hD⟩ := va_join (wr := []) (w1 := [(y, .inr (11, [.int 1, .ref ys, .ref yp, .int 0])), (ys, .inr (3, [.int 0, .ref (ta 4), .int 0])), (yp, .inr (3, [.int 0, .ref (ta 4), .int 0]))]) hP hD [0, 1, 2] [] rfl rfl (by decide) (by decide) hk1 hFc hP1 hD1
  have hP : va_P (dC, dI) vwCl [(y, .inr (11, [.int 1, .ref ys, .ref yp, .int 0])), (ys, .inr (3, [.int 0, .ref (ta 4), .int 0])), (yp, .inr (3, [.int 0, .ref (ta 4), .int 0]))] H := hP
  have hD : va_D A [(y, .inr (11, [.int 1, .ref ys, .ref yp, .int 0])), (ys, .inr (3, [.int 0, .ref (ta 4), .int 0])), (yp, .inr (3, [.int 0, .ref (ta 4), .int 0]))] := hD
  refine ax_i (y := 1) hw_5 ?_
  refine lv_if_eq (tgt := 32) hx hb dX7_exposure_25 (by decide) (fun h9 => absurd h9 (by decide)) (fun _ => ?_)
  refine lv_iconst (v := 0) hx hb dX7_exposure_28 (by decide) ?_
  refine lv_goto (tgt := 48) hx hb dX7_exposure_29 (by decide) ?_
  refine W.widen (k := 0) (n := 0) (Nat.le_of_ble_eq_true rfl) (Nat.le_of_ble_eq_true rfl) ?_
  have hP9 := hP.sub (ws' := [(y, .inr (11, [.int 1, .ref ys, .ref yp, .int 0]))]) [0] rfl
  have hD9 := hD.sub (ws' := [(y, .inr (11, [.int 1, .ref ys, .ref yp, .int 0]))]) [0] (by decide) rfl
  have hK9 := hK.sub (tys' := []) [] rfl
  exact W.iret (v := 0) hx hb hr (fun t ht hW => ⟨⟨0, 1, rfl, rfl, by rw [ht]; exact hP9, va_K.moved hW.alike hK9, hD9⟩, hS.F ht⟩) hS.2.2 dX7_exposure_48

set_option maxHeartbeats 4000000 in
set_option maxRecDepth 100000 in
theorem c_X7_ofSource (l : Launch) (dC : Nat → ClassId) (dI : Nat → Nat → Nat) (y ys yp : Nat) (sa ta : Nat → Nat) (sz : Nat) (th : Int32) (p0 : Int32) (p1 : Int32) : Met l yX7_ofSource wsX7_ofSource ({ frames := 24, cells := 0, slots := 0, locals := 600 }) (va_Pc [.ref y, .int p0, .int p1] (ax_W (dC, dI) vwCl [(y, .inr (11, [.int th, .ref ys, .ref yp, .int 0])), (ys, .inr (3, [.int 0, .ref (ta 4), .int 0])), (yp, .inr (3, [.int 0, .ref (ta 4), .int 0]))] [] sa ta sz)) (va_Qi (fun (r : Int32) (u : Int32) => u = 1) (fun (u : Int32) (t : State) => va_P (dC, dI) vwCl [(y, .inr (11, [.int u, .ref ys, .ref yp, .int 0]))] t.heap ∧ va_K (dC, dI) vwCl [] t ∧ va_D (va_A [(y, .inr (11, [.int th, .ref ys, .ref yp, .int 0])), (ys, .inr (3, [.int 0, .ref (ta 4), .int 0])), (yp, .inr (3, [.int 0, .ref (ta 4), .int 0]))] sz) [(y, .inr (11, [.int u, .ref ys, .ref yp, .int 0]))]) (va_A [(y, .inr (11, [.int th, .ref ys, .ref yp, .int 0])), (ys, .inr (3, [.int 0, .ref (ta 4), .int 0])), (yp, .inr (3, [.int 0, .ref (ta 4), .int 0]))] sz)) 0 0 (va_A [(y, .inr (11, [.int th, .ref ys, .ref yp, .int 0])), (ys, .inr (3, [.int 0, .ref (ta 4), .int 0])), (yp, .inr (3, [.int 0, .ref (ta 4), .int 0]))] sz) := by
  refine Met.ofW (cc := cX7_ofSource) (maxL := 3) (ret := (some .int)) (by decide) rfl ?_
  intro p e s m args below meth c s₁ B hml hv
  obtain ⟨rfl, hsz, hP, hK, hD0, hE⟩ := hv
  have hx := B.exec
  have hb := B.bytes
  have hr := B.returns
  have hts := atoms_spec (ws := wsX7_ofSource) B.pre
  have hown : s.vm.findClass RX7 = some m.cls := findClass_of_methodNamed B.named
  have hlocks := B.notSynchronized
  subst hsz
  have hD := hD0.self (sz := s.heap.size)
  generalize hAe : va_A [(y, .inr (11, [.int th, .ref ys, .ref yp, .int 0])), (ys, .inr (3, [.int 0, .ref (ta 4), .int 0])), (yp, .inr (3, [.int 0, .ref (ta 4), .int 0]))] s.heap.size = A at hD hE ⊢
  have hA : ∀ q : Nat, s.heap.size ≤ q → A q := fun q h => by rw [← hAe]; exact Or.inr h
  have hS : va_S A s.heap s.heap [] := va_S.rf
  have hl := lv_entry ([.ref y, .int p0, .int p1]) (n := 3) (Nat.le_of_ble_eq_true rfl)
  rw [lg_entry_eq]
  generalize (lg_sl ([.ref y, .int p0, .int p1]) ++ List.replicate (3 - (lg_sl ([.ref y, .int p0, .int p1])).length) Slot.unset).toArray = ls at hl ⊢
  have hl : lv_has ls 3 [(0, .ref y), (1, .int p0), (2, .int p1)] := hl
  have hP : va_P (dC, dI) vwCl [(y, .inr (11, [.int th, .ref ys, .ref yp, .int 0])), (ys, .inr (3, [.int 0, .ref (ta 4), .int 0])), (yp, .inr (3, [.int 0, .ref (ta 4), .int 0]))] s.heap := hP
  refine lv_aload_n hx hb dX7_ofSource_0 rfl (lv_at hl 0 rfl) ?_
  refine lv_iload_n hx hb dX7_ofSource_1 rfl (lv_at hl 1 rfl) ?_
  refine lv_iconst (v := 0) hx hb dX7_ofSource_2 (by decide) ?_
  refine lv_aload_n hx hb dX7_ofSource_3 rfl (lv_at hl 0 rfl) ?_
  refine va_get (D := (dC, dI)) (ci := 11) (v := .ref ys) (C := RX7) (T := TX7) (N := 4) hx hb hts (by decide +kernel) hown hK hP 0 rfl rfl 1 (by decide) (hts (.fieldLink RX7 10 "DiffractoryModel" "sources" "Ljava/util/ArrayList;") (by decide +kernel)) (fun _ h9 => h9) rfl dX7_ofSource_4 ?_
  have hPc := hP.sub (ws' := [(ys, .inr (3, [.int 0, .ref (ta 4), .int 0]))]) [1] rfl
  have hKc := hK.sub (tys' := []) [] rfl
  refine va_calli (va_runV (As := []) (rest := [.int 0, .int p0, .ref y]) ⟨hx, hb, hml, hown, hts⟩ (c_Jx4a65c_size_8abf5 l dC dI ys (ta 4) sa ta 0 0) (cwV 0 hts gX7_ofSource_Jx4a65c_size_8abf5 rfl rfl rfl (by decide +kernel) ⟨Nat.le_of_ble_eq_true rfl, Nat.le_of_ble_eq_true rfl⟩) ⟨ax_fbR, va_recv hK hP (ci := 3) (q0 := 1) rfl rfl, ax_prR hPc hKc hS hE⟩ rfl rfl hl.1 rfl (lv_room (Nat.le_of_ble_eq_true rfl)) dX7_ofSource_7 ⟨Nat.le_of_ble_eq_true rfl, Nat.le_of_ble_eq_true rfl⟩) hS (fun _ _ h9 => h9.elim) (fun _ h9 => h9.elim) (fun r_1 u_3  t H locs ht hvm hw_2 hB hz1 hk1 hS => ?_)
  have hP := ax_keep hP (fun _ h9 => h9) hk1
  refine ax_i (y := 0) hw_2 ?_
  refine lv_iconst (v := 1) hx hb dX7_ofSource_10 (by decide) ?_
  refine lv_isub hx hb dX7_ofSource_11 ?_
  refine ax_i (y := (-1)) (by decide) ?_
  refine va_calli (va_runS (As := [.int p0, .int 0, .int (-1)]) (rest := [.ref y]) ⟨hx, hb, hml, hown, hts⟩ (c_X7_isIn l p0 0 (-1)) (va_cwS 3 hts gX7_ofSource_X7_isIn rfl rfl rfl (by decide +kernel) ⟨Nat.le_of_ble_eq_true rfl, Nat.le_of_ble_eq_true rfl⟩) ⟨ax_fbP, ax_prP⟩ rfl rfl hl.1 rfl (lv_room (Nat.le_of_ble_eq_true rfl)) dX7_ofSource_12 ⟨Nat.le_of_ble_eq_true rfl, Nat.le_of_ble_eq_true rfl⟩) hS (fun _ _ h9 => h9.elim) (fun _ h9 => h9.elim) (fun r_4 u_6  t H locs ht hvm hw_5 hB hz1 hk1 hS => ?_)
  have hP := ax_keep hP (fun _ h9 => h9) hk1
  rcases hw_5 with ⟨hr9, hw_5⟩ | ⟨hr9, hw_5⟩
  · have hw_5 : 0 ≤ p0.toInt ∧ p0.toInt ≤ (-1) := hw_5
    exfalso
    omega
  · have hw_5 : ¬ (0 ≤ p0.toInt ∧ p0.toInt ≤ (-1)) := hw_5
    refine ax_i hr9 ?_
    refine lv_if_ne (tgt := 22) hx hb dX7_ofSource_15 (by decide) (fun h9 => absurd rfl h9) (fun _ => ?_)
    refine lv_iconst (v := 1) hx hb dX7_ofSource_18 (by decide) ?_
    refine lv_goto (tgt := 23) hx hb dX7_ofSource_19 (by decide) ?_
    refine lv_iconst (v := 1) hx hb dX7_ofSource_23 (by decide) ?_
    have hPc := hP.sub (ws' := [(y, .inr (11, [.int th, .ref ys, .ref yp, .int 0])), (ys, .inr (3, [.int 0, .ref (ta 4), .int 0])), (yp, .inr (3, [.int 0, .ref (ta 4), .int 0]))]) [0, 1, 2] rfl
    have hKc := hK.sub (tys' := []) [] rfl
    have hDc := hD.sub (ws' := [(y, .inr (11, [.int th, .ref ys, .ref yp, .int 0])), (ys, .inr (3, [.int 0, .ref (ta 4), .int 0])), (yp, .inr (3, [.int 0, .ref (ta 4), .int 0]))]) [0, 1, 2] (by decide) rfl
    have hFc := va_free (wc := [(y, .inr (11, [.int th, .ref ys, .ref yp, .int 0])), (ys, .inr (3, [.int 0, .ref (ta 4), .int 0])), (yp, .inr (3, [.int 0, .ref (ta 4), .int 0]))]) hD hS hA [0, 1, 2] rfl
    refine va_calli (va_runV (As := [.int 1, .int 1]) (rest := []) ⟨hx, hb, hml, hown, hts⟩ (c_X7_start_1 l dC dI y ys yp sa ta H.size th) (cwV 2 hts gX7_ofSource_X7_start rfl rfl rfl (by decide +kernel) ⟨Nat.le_of_ble_eq_true rfl, Nat.le_of_ble_eq_true rfl⟩) ⟨ax_fbW, va_recv hK hP (ci := 11) (q0 := 0) rfl rfl, ax_prW hPc hKc hDc hS hFc hE⟩ rfl rfl hl.1 rfl (lv_room (Nat.le_of_ble_eq_true rfl)) dX7_ofSource_24 ⟨Nat.le_of_ble_eq_true rfl, Nat.le_of_ble_eq_true rfl⟩) hS (fun q _ h9 => hFc q h9) hFc (fun r_7 u_9  t H locs ht hvm hw_8 hB hz1 hk1 hS => ?_)
    obtain ⟨hP1, hK1, hD1⟩ := hB
    rw [ht] at hP1
    have hK1 := va_K.moved hvm.symm hK1
    obtain ⟨hP, hD⟩ := va_join (wr := []) (w1 := [(y, .inr (11, [.int 1, .ref ys, .ref yp, .int 0])), (ys, .inr (3, [.int 0, .ref (ta 4), .int 0])), (yp, .inr (3, [.int 0, .ref (ta 4), .int 0]))]) hP hD [0, 1, 2] [] rfl rfl (by decide) (by decide) hk1 hFc hP1 hD1
    have hP : va_P (dC, dI) vwCl [(y, .inr (11, [.int 1, .ref ys, .ref yp, .int 0])), (ys, .inr (3, [.int 0, .ref (ta 4), .int 0])), (yp, .inr (3, [.int 0, .ref (ta 4), .int 0]))] H := hP
    have hD : va_D A [(y, .inr (11, [.int 1, .ref ys, .ref yp, .int 0])), (ys, .inr (3, [.int 0, .ref (ta 4), .int 0])), (yp, .inr (3, [.int 0, .ref (ta 4), .int 0]))] := hD
    refine ax_i (y := 1) hw_8 ?_
    refine lv_if_ne (tgt := 52) hx hb dX7_ofSource_27 (by decide) (fun _ => ?_) (fun h9 => absurd h9 (by decide))
    refine lv_iconst (v := 0) hx hb dX7_ofSource_52 (by decide) ?_
    refine lv_goto (tgt := 71) hx hb dX7_ofSource_53 (by decide) ?_
    refine W.widen (k := 0) (n := 0) (Nat.le_of_ble_eq_true rfl) (Nat.le_of_ble_eq_true rfl) ?_
    have hP9 := hP.sub (ws' := [(y, .inr (11, [.int 1, .ref ys, .ref yp, .int 0]))]) [0] rfl
    have hD9 := hD.sub (ws' := [(y, .inr (11, [.int 1, .ref ys, .ref yp, .int 0]))]) [0] (by decide) rfl
    have hK9 := hK.sub (tys' := []) [] rfl
    exact W.iret (v := 0) hx hb hr (fun t ht hW => ⟨⟨0, 1, rfl, rfl, by rw [ht]; exact hP9, va_K.moved hW.alike hK9, hD9⟩, hS.F ht⟩) hS.2.2 dX7_ofSource_71

set_option maxHeartbeats 4000000 in
set_option maxRecDepth 100000 in
theorem c_X7_without (l : Launch) (dC : Nat → ClassId) (dI : Nat → Nat → Nat) (y ys yp : Nat) (sa ta : Nat → Nat) (sz : Nat) (th : Int32) (p0 : Int32) (p1 : Int32) : Met l yX7_without wsX7_without ({ frames := 24, cells := 0, slots := 0, locals := 600 }) (va_Pc [.ref y, .int p0, .int p1] (ax_W (dC, dI) vwCl [(y, .inr (11, [.int th, .ref ys, .ref yp, .int 0])), (ys, .inr (3, [.int 0, .ref (ta 4), .int 0])), (yp, .inr (3, [.int 0, .ref (ta 4), .int 0]))] [] sa ta sz)) (va_Ql (fun (r : Int64) (u : Int32) => u = 1) (fun (u : Int32) (t : State) => va_P (dC, dI) vwCl [(y, .inr (11, [.int u, .ref ys, .ref yp, .int 0]))] t.heap ∧ va_K (dC, dI) vwCl [] t ∧ va_D (va_A [(y, .inr (11, [.int th, .ref ys, .ref yp, .int 0])), (ys, .inr (3, [.int 0, .ref (ta 4), .int 0])), (yp, .inr (3, [.int 0, .ref (ta 4), .int 0]))] sz) [(y, .inr (11, [.int u, .ref ys, .ref yp, .int 0]))]) (va_A [(y, .inr (11, [.int th, .ref ys, .ref yp, .int 0])), (ys, .inr (3, [.int 0, .ref (ta 4), .int 0])), (yp, .inr (3, [.int 0, .ref (ta 4), .int 0]))] sz)) 0 0 (va_A [(y, .inr (11, [.int th, .ref ys, .ref yp, .int 0])), (ys, .inr (3, [.int 0, .ref (ta 4), .int 0])), (yp, .inr (3, [.int 0, .ref (ta 4), .int 0]))] sz) := by
  refine Met.ofW (cc := cX7_without) (maxL := 3) (ret := (some .long)) (by decide) rfl ?_
  intro p e s m args below meth c s₁ B hml hv
  obtain ⟨rfl, hsz, hP, hK, hD0, hE⟩ := hv
  have hx := B.exec
  have hb := B.bytes
  have hr := B.returns
  have hts := atoms_spec (ws := wsX7_without) B.pre
  have hown : s.vm.findClass RX7 = some m.cls := findClass_of_methodNamed B.named
  have hlocks := B.notSynchronized
  subst hsz
  have hD := hD0.self (sz := s.heap.size)
  generalize hAe : va_A [(y, .inr (11, [.int th, .ref ys, .ref yp, .int 0])), (ys, .inr (3, [.int 0, .ref (ta 4), .int 0])), (yp, .inr (3, [.int 0, .ref (ta 4), .int 0]))] s.heap.size = A at hD hE ⊢
  have hA : ∀ q : Nat, s.heap.size ≤ q → A q := fun q h => by rw [← hAe]; exact Or.inr h
  have hS : va_S A s.heap s.heap [] := va_S.rf
  have hl := lv_entry ([.ref y, .int p0, .int p1]) (n := 3) (Nat.le_of_ble_eq_true rfl)
  rw [lg_entry_eq]
  generalize (lg_sl ([.ref y, .int p0, .int p1]) ++ List.replicate (3 - (lg_sl ([.ref y, .int p0, .int p1])).length) Slot.unset).toArray = ls at hl ⊢
  have hl : lv_has ls 3 [(0, .ref y), (1, .int p0), (2, .int p1)] := hl
  have hP : va_P (dC, dI) vwCl [(y, .inr (11, [.int th, .ref ys, .ref yp, .int 0])), (ys, .inr (3, [.int 0, .ref (ta 4), .int 0])), (yp, .inr (3, [.int 0, .ref (ta 4), .int 0]))] s.heap := hP
  refine lv_aload_n hx hb dX7_without_0 rfl (lv_at hl 0 rfl) ?_
  refine lv_aload_n hx hb dX7_without_1 rfl (lv_at hl 0 rfl) ?_
  refine lv_iload_n hx hb dX7_without_2 rfl (lv_at hl 1 rfl) ?_
  have hPc := hP.sub (ws' := [(y, .inr (11, [.int th, .ref ys, .ref yp, .int 0])), (ys, .inr (3, [.int 0, .ref (ta 4), .int 0])), (yp, .inr (3, [.int 0, .ref (ta 4), .int 0]))]) [0, 1, 2] rfl
  have hKc := hK.sub (tys' := []) [] rfl
  refine va_calli (va_runV (As := [.int p0]) (rest := [.ref y]) ⟨hx, hb, hml, hown, hts⟩ (c_X7_isNoPart l dC dI y ys yp sa ta th p0) (cwV 1 hts gX7_without_X7_isNoPart rfl rfl rfl (by decide +kernel) ⟨Nat.le_of_ble_eq_true rfl, Nat.le_of_ble_eq_true rfl⟩) ⟨ax_fbR, va_recv hK hP (ci := 11) (q0 := 0) rfl rfl, ax_prR hPc hKc hS hE⟩ rfl rfl hl.1 rfl (lv_room (Nat.le_of_ble_eq_true rfl)) dX7_without_3 ⟨Nat.le_of_ble_eq_true rfl, Nat.le_of_ble_eq_true rfl⟩) hS (fun _ _ h9 => h9.elim) (fun _ h9 => h9.elim) (fun r_1 u_3  t H locs ht hvm hw_2 hB hz1 hk1 hS => ?_)
  have hP := ax_keep hP (fun _ h9 => h9) hk1
  refine ax_i (y := 1) hw_2 ?_
  refine lv_if_ne (tgt := 16) hx hb dX7_without_6 (by decide) (fun _ => ?_) (fun h9 => absurd h9 (by decide))
  refine lv_iconst (v := 1) hx hb dX7_without_16 (by decide) ?_
  refine lv_goto (tgt := 21) hx hb dX7_without_17 (by decide) ?_
  refine lv_iconst (v := 1) hx hb dX7_without_21 (by decide) ?_
  have hPc := hP.sub (ws' := [(y, .inr (11, [.int th, .ref ys, .ref yp, .int 0])), (ys, .inr (3, [.int 0, .ref (ta 4), .int 0])), (yp, .inr (3, [.int 0, .ref (ta 4), .int 0]))]) [0, 1, 2] rfl
  have hKc := hK.sub (tys' := []) [] rfl
  have hDc := hD.sub (ws' := [(y, .inr (11, [.int th, .ref ys, .ref yp, .int 0])), (ys, .inr (3, [.int 0, .ref (ta 4), .int 0])), (yp, .inr (3, [.int 0, .ref (ta 4), .int 0]))]) [0, 1, 2] (by decide) rfl
  have hFc := va_free (wc := [(y, .inr (11, [.int th, .ref ys, .ref yp, .int 0])), (ys, .inr (3, [.int 0, .ref (ta 4), .int 0])), (yp, .inr (3, [.int 0, .ref (ta 4), .int 0]))]) hD hS hA [0, 1, 2] rfl
  refine va_calli (va_runV (As := [.int 1, .int 1]) (rest := []) ⟨hx, hb, hml, hown, hts⟩ (c_X7_start_1 l dC dI y ys yp sa ta H.size th) (cwV 2 hts gX7_without_X7_start rfl rfl rfl (by decide +kernel) ⟨Nat.le_of_ble_eq_true rfl, Nat.le_of_ble_eq_true rfl⟩) ⟨ax_fbW, va_recv hK hP (ci := 11) (q0 := 0) rfl rfl, ax_prW hPc hKc hDc hS hFc hE⟩ rfl rfl hl.1 rfl (lv_room (Nat.le_of_ble_eq_true rfl)) dX7_without_22 ⟨Nat.le_of_ble_eq_true rfl, Nat.le_of_ble_eq_true rfl⟩) hS (fun q _ h9 => hFc q h9) hFc (fun r_4 u_6  t H locs ht hvm hw_5 hB hz1 hk1 hS => ?_)
  obtain ⟨hP1, hK1, hD1⟩ := hB
  rw [ht] at hP1
  have hK1 := va_K.moved hvm.symm hK1
  obtain ⟨hP, hD⟩ := va_join (wr := []) (w1 := [(y, .inr (11, [.int 1, .ref ys, .ref yp, .int 0])), (ys, .inr (3, [.int 0, .ref (ta 4), .int 0])), (yp, .inr (3, [.int 0, .ref (ta 4), .int 0]))]) hP hD [0, 1, 2] [] rfl rfl (by decide) (by decide) hk1 hFc hP1 hD1
  have hP : va_P (dC, dI) vwCl [(y, .inr (11, [.int 1, .ref ys, .ref yp, .int 0])), (ys, .inr (3, [.int 0, .ref (ta 4), .int 0])), (yp, .inr (3, [.int 0, .ref (ta 4), .int 0]))] H := hP
  have hD : va_D A [(y, .inr (11, [.int 1, .ref ys, .ref yp, .int 0])), (ys, .inr (3, [.int 0, .ref (ta 4), .int 0])), (yp, .inr (3, [.int 0, .ref (ta 4), .int 0]))] := hD
  refine ax_i (y := 1) hw_5 ?_
  refine lv_if_eq (tgt := 32) hx hb dX7_without_25 (by decide) (fun h9 => absurd h9 (by decide)) (fun _ => ?_)
  refine lv_lconst (v := 0) hx hb dX7_without_28 (by decide) ?_
  refine lv_goto (tgt := 38) hx hb dX7_without_29 (by decide) ?_
  refine W.widen (k := 0) (n := 0) (Nat.le_of_ble_eq_true rfl) (Nat.le_of_ble_eq_true rfl) ?_
  have hP9 := hP.sub (ws' := [(y, .inr (11, [.int 1, .ref ys, .ref yp, .int 0]))]) [0] rfl
  have hD9 := hD.sub (ws' := [(y, .inr (11, [.int 1, .ref ys, .ref yp, .int 0]))]) [0] (by decide) rfl
  have hK9 := hK.sub (tys' := []) [] rfl
  exact W.lret (v := 0) hx hb hr (fun t ht hW => ⟨⟨0, 1, rfl, rfl, by rw [ht]; exact hP9, va_K.moved hW.alike hK9, hD9⟩, hS.F ht⟩) hS.2.2 dX7_without_38

set_option maxHeartbeats 4000000 in
set_option maxRecDepth 100000 in
theorem c_X7_best (l : Launch) (dC : Nat → ClassId) (dI : Nat → Nat → Nat) (y ys yp : Nat) (sa ta : Nat → Nat) (sz : Nat) (th : Int32) (p0 : Int32) (p1 : Int32) : Met l yX7_best wsX7_best ({ frames := 24, cells := 0, slots := 0, locals := 600 }) (va_Pc [.ref y, .int p0, .int p1] (ax_W (dC, dI) vwCl [(y, .inr (11, [.int th, .ref ys, .ref yp, .int 0])), (ys, .inr (3, [.int 0, .ref (ta 4), .int 0])), (yp, .inr (3, [.int 0, .ref (ta 4), .int 0]))] [] sa ta sz)) (va_Qi (fun (r : Int32) (u : Int32) => u = 1) (fun (u : Int32) (t : State) => va_P (dC, dI) vwCl [(y, .inr (11, [.int u, .ref ys, .ref yp, .int 0]))] t.heap ∧ va_K (dC, dI) vwCl [] t ∧ va_D (va_A [(y, .inr (11, [.int th, .ref ys, .ref yp, .int 0])), (ys, .inr (3, [.int 0, .ref (ta 4), .int 0])), (yp, .inr (3, [.int 0, .ref (ta 4), .int 0]))] sz) [(y, .inr (11, [.int u, .ref ys, .ref yp, .int 0]))]) (va_A [(y, .inr (11, [.int th, .ref ys, .ref yp, .int 0])), (ys, .inr (3, [.int 0, .ref (ta 4), .int 0])), (yp, .inr (3, [.int 0, .ref (ta 4), .int 0]))] sz)) 0 0 (va_A [(y, .inr (11, [.int th, .ref ys, .ref yp, .int 0])), (ys, .inr (3, [.int 0, .ref (ta 4), .int 0])), (yp, .inr (3, [.int 0, .ref (ta 4), .int 0]))] sz) := by
  refine Met.ofW (cc := cX7_best) (maxL := 3) (ret := (some .int)) (by decide) rfl ?_
  intro p e s m args below meth c s₁ B hml hv
  obtain ⟨rfl, hsz, hP, hK, hD0, hE⟩ := hv
  have hx := B.exec
  have hb := B.bytes
  have hr := B.returns
  have hts := atoms_spec (ws := wsX7_best) B.pre
  have hown : s.vm.findClass RX7 = some m.cls := findClass_of_methodNamed B.named
  have hlocks := B.notSynchronized
  subst hsz
  have hD := hD0.self (sz := s.heap.size)
  generalize hAe : va_A [(y, .inr (11, [.int th, .ref ys, .ref yp, .int 0])), (ys, .inr (3, [.int 0, .ref (ta 4), .int 0])), (yp, .inr (3, [.int 0, .ref (ta 4), .int 0]))] s.heap.size = A at hD hE ⊢
  have hA : ∀ q : Nat, s.heap.size ≤ q → A q := fun q h => by rw [← hAe]; exact Or.inr h
  have hS : va_S A s.heap s.heap [] := va_S.rf
  have hl := lv_entry ([.ref y, .int p0, .int p1]) (n := 3) (Nat.le_of_ble_eq_true rfl)
  rw [lg_entry_eq]
  generalize (lg_sl ([.ref y, .int p0, .int p1]) ++ List.replicate (3 - (lg_sl ([.ref y, .int p0, .int p1])).length) Slot.unset).toArray = ls at hl ⊢
  have hl : lv_has ls 3 [(0, .ref y), (1, .int p0), (2, .int p1)] := hl
  have hP : va_P (dC, dI) vwCl [(y, .inr (11, [.int th, .ref ys, .ref yp, .int 0])), (ys, .inr (3, [.int 0, .ref (ta 4), .int 0])), (yp, .inr (3, [.int 0, .ref (ta 4), .int 0]))] s.heap := hP
  refine lv_aload_n hx hb dX7_best_0 rfl (lv_at hl 0 rfl) ?_
  refine lv_aload_n hx hb dX7_best_1 rfl (lv_at hl 0 rfl) ?_
  refine lv_iload_n hx hb dX7_best_2 rfl (lv_at hl 1 rfl) ?_
  have hPc := hP.sub (ws' := [(y, .inr (11, [.int th, .ref ys, .ref yp, .int 0])), (ys, .inr (3, [.int 0, .ref (ta 4), .int 0])), (yp, .inr (3, [.int 0, .ref (ta 4), .int 0]))]) [0, 1, 2] rfl
  have hKc := hK.sub (tys' := []) [] rfl
  refine va_calli (va_runV (As := [.int p0]) (rest := [.ref y]) ⟨hx, hb, hml, hown, hts⟩ (c_X7_isNoPart l dC dI y ys yp sa ta th p0) (cwV 1 hts gX7_best_X7_isNoPart rfl rfl rfl (by decide +kernel) ⟨Nat.le_of_ble_eq_true rfl, Nat.le_of_ble_eq_true rfl⟩) ⟨ax_fbR, va_recv hK hP (ci := 11) (q0 := 0) rfl rfl, ax_prR hPc hKc hS hE⟩ rfl rfl hl.1 rfl (lv_room (Nat.le_of_ble_eq_true rfl)) dX7_best_3 ⟨Nat.le_of_ble_eq_true rfl, Nat.le_of_ble_eq_true rfl⟩) hS (fun _ _ h9 => h9.elim) (fun _ h9 => h9.elim) (fun r_1 u_3  t H locs ht hvm hw_2 hB hz1 hk1 hS => ?_)
  have hP := ax_keep hP (fun _ h9 => h9) hk1
  refine ax_i (y := 1) hw_2 ?_
  refine lv_if_ne (tgt := 16) hx hb dX7_best_6 (by decide) (fun _ => ?_) (fun h9 => absurd h9 (by decide))
  refine lv_iconst (v := 1) hx hb dX7_best_16 (by decide) ?_
  refine lv_goto (tgt := 21) hx hb dX7_best_17 (by decide) ?_
  refine lv_iconst (v := 1) hx hb dX7_best_21 (by decide) ?_
  have hPc := hP.sub (ws' := [(y, .inr (11, [.int th, .ref ys, .ref yp, .int 0])), (ys, .inr (3, [.int 0, .ref (ta 4), .int 0])), (yp, .inr (3, [.int 0, .ref (ta 4), .int 0]))]) [0, 1, 2] rfl
  have hKc := hK.sub (tys' := []) [] rfl
  have hDc := hD.sub (ws' := [(y, .inr (11, [.int th, .ref ys, .ref yp, .int 0])), (ys, .inr (3, [.int 0, .ref (ta 4), .int 0])), (yp, .inr (3, [.int 0, .ref (ta 4), .int 0]))]) [0, 1, 2] (by decide) rfl
  have hFc := va_free (wc := [(y, .inr (11, [.int th, .ref ys, .ref yp, .int 0])), (ys, .inr (3, [.int 0, .ref (ta 4), .int 0])), (yp, .inr (3, [.int 0, .ref (ta 4), .int 0]))]) hD hS hA [0, 1, 2] rfl
  refine va_calli (va_runV (As := [.int 1, .int 1]) (rest := []) ⟨hx, hb, hml, hown, hts⟩ (c_X7_start_1 l dC dI y ys yp sa ta H.size th) (cwV 2 hts gX7_best_X7_start rfl rfl rfl (by decide +kernel) ⟨Nat.le_of_ble_eq_true rfl, Nat.le_of_ble_eq_true rfl⟩) ⟨ax_fbW, va_recv hK hP (ci := 11) (q0 := 0) rfl rfl, ax_prW hPc hKc hDc hS hFc hE⟩ rfl rfl hl.1 rfl (lv_room (Nat.le_of_ble_eq_true rfl)) dX7_best_22 ⟨Nat.le_of_ble_eq_true rfl, Nat.le_of_ble_eq_true rfl⟩) hS (fun q _ h9 => hFc q h9) hFc (fun r_4 u_6  t H locs ht hvm hw_5 hB hz1 hk1 hS => ?_)
  obtain ⟨hP1, hK1, hD1⟩ := hB
  rw [ht] at hP1
  have hK1 := va_K.moved hvm.symm hK1
  obtain ⟨hP, hD⟩ := va_join (wr := []) (w1 := [(y, .inr (11, [.int 1, .ref ys, .ref yp, .int 0])), (ys, .inr (3, [.int 0, .ref (ta 4), .int 0])), (yp, .inr (3, [.int 0, .ref (ta 4), .int 0]))]) hP hD [0, 1, 2] [] rfl rfl (by decide) (by decide) hk1 hFc hP1 hD1
  have hP : va_P (dC, dI) vwCl [(y, .inr (11, [.int 1, .ref ys, .ref yp, .int 0])), (ys, .inr (3, [.int 0, .ref (ta 4), .int 0])), (yp, .inr (3, [.int 0, .ref (ta 4), .int 0]))] H := hP
  have hD : va_D A [(y, .inr (11, [.int 1, .ref ys, .ref yp, .int 0])), (ys, .inr (3, [.int 0, .ref (ta 4), .int 0])), (yp, .inr (3, [.int 0, .ref (ta 4), .int 0]))] := hD
  refine ax_i (y := 1) hw_5 ?_
  refine lv_if_eq (tgt := 32) hx hb dX7_best_25 (by decide) (fun h9 => absurd h9 (by decide)) (fun _ => ?_)
  refine lv_iconst (v := 0) hx hb dX7_best_28 (by decide) ?_
  refine lv_goto (tgt := 38) hx hb dX7_best_29 (by decide) ?_
  refine W.widen (k := 0) (n := 0) (Nat.le_of_ble_eq_true rfl) (Nat.le_of_ble_eq_true rfl) ?_
  have hP9 := hP.sub (ws' := [(y, .inr (11, [.int 1, .ref ys, .ref yp, .int 0]))]) [0] rfl
  have hD9 := hD.sub (ws' := [(y, .inr (11, [.int 1, .ref ys, .ref yp, .int 0]))]) [0] (by decide) rfl
  have hK9 := hK.sub (tys' := []) [] rfl
  exact W.iret (v := 0) hx hb hr (fun t ht hW => ⟨⟨0, 1, rfl, rfl, by rw [ht]; exact hP9, va_K.moved hW.alike hK9, hD9⟩, hS.F ht⟩) hS.2.2 dX7_best_38

set_option maxHeartbeats 4000000 in
set_option maxRecDepth 100000 in
theorem c_X7_alone (l : Launch) (dC : Nat → ClassId) (dI : Nat → Nat → Nat) (y ys yp : Nat) (sa ta : Nat → Nat) (sz : Nat) (th : Int32) (p0 : Int32) : Met l yX7_alone wsX7_alone ({ frames := 24, cells := 0, slots := 0, locals := 600 }) (va_Pc [.ref y, .int p0] (ax_W (dC, dI) vwCl [(y, .inr (11, [.int th, .ref ys, .ref yp, .int 0])), (ys, .inr (3, [.int 0, .ref (ta 4), .int 0])), (yp, .inr (3, [.int 0, .ref (ta 4), .int 0]))] [] sa ta sz)) (va_Qi (fun (r : Int32) (u : Int32) => u = 1) (fun (u : Int32) (t : State) => va_P (dC, dI) vwCl [(y, .inr (11, [.int u, .ref ys, .ref yp, .int 0]))] t.heap ∧ va_K (dC, dI) vwCl [] t ∧ va_D (va_A [(y, .inr (11, [.int th, .ref ys, .ref yp, .int 0])), (ys, .inr (3, [.int 0, .ref (ta 4), .int 0])), (yp, .inr (3, [.int 0, .ref (ta 4), .int 0]))] sz) [(y, .inr (11, [.int u, .ref ys, .ref yp, .int 0]))]) (va_A [(y, .inr (11, [.int th, .ref ys, .ref yp, .int 0])), (ys, .inr (3, [.int 0, .ref (ta 4), .int 0])), (yp, .inr (3, [.int 0, .ref (ta 4), .int 0]))] sz)) 0 0 (va_A [(y, .inr (11, [.int th, .ref ys, .ref yp, .int 0])), (ys, .inr (3, [.int 0, .ref (ta 4), .int 0])), (yp, .inr (3, [.int 0, .ref (ta 4), .int 0]))] sz) := by
  refine Met.ofW (cc := cX7_alone) (maxL := 2) (ret := (some .int)) (by decide) rfl ?_
  intro p e s m args below meth c s₁ B hml hv
  obtain ⟨rfl, hsz, hP, hK, hD0, hE⟩ := hv
  have hx := B.exec
  have hb := B.bytes
  have hr := B.returns
  have hts := atoms_spec (ws := wsX7_alone) B.pre
  have hown : s.vm.findClass RX7 = some m.cls := findClass_of_methodNamed B.named
  have hlocks := B.notSynchronized
  subst hsz
  have hD := hD0.self (sz := s.heap.size)
  generalize hAe : va_A [(y, .inr (11, [.int th, .ref ys, .ref yp, .int 0])), (ys, .inr (3, [.int 0, .ref (ta 4), .int 0])), (yp, .inr (3, [.int 0, .ref (ta 4), .int 0]))] s.heap.size = A at hD hE ⊢
  have hA : ∀ q : Nat, s.heap.size ≤ q → A q := fun q h => by rw [← hAe]; exact Or.inr h
  have hS : va_S A s.heap s.heap [] := va_S.rf
  have hl := lv_entry ([.ref y, .int p0]) (n := 2) (Nat.le_of_ble_eq_true rfl)
  rw [lg_entry_eq]
  generalize (lg_sl ([.ref y, .int p0]) ++ List.replicate (2 - (lg_sl ([.ref y, .int p0])).length) Slot.unset).toArray = ls at hl ⊢
  have hl : lv_has ls 2 [(0, .ref y), (1, .int p0)] := hl
  have hP : va_P (dC, dI) vwCl [(y, .inr (11, [.int th, .ref ys, .ref yp, .int 0])), (ys, .inr (3, [.int 0, .ref (ta 4), .int 0])), (yp, .inr (3, [.int 0, .ref (ta 4), .int 0]))] s.heap := hP
  refine lv_aload_n hx hb dX7_alone_0 rfl (lv_at hl 0 rfl) ?_
  refine lv_iload_n hx hb dX7_alone_1 rfl (lv_at hl 1 rfl) ?_
  refine lv_iconst (v := 0) hx hb dX7_alone_2 (by decide) ?_
  refine lv_aload_n hx hb dX7_alone_3 rfl (lv_at hl 0 rfl) ?_
  refine va_get (D := (dC, dI)) (ci := 11) (v := .ref ys) (C := RX7) (T := TX7) (N := 4) hx hb hts (by decide +kernel) hown hK hP 0 rfl rfl 1 (by decide) (hts (.fieldLink RX7 10 "DiffractoryModel" "sources" "Ljava/util/ArrayList;") (by decide +kernel)) (fun _ h9 => h9) rfl dX7_alone_4 ?_
  have hPc := hP.sub (ws' := [(ys, .inr (3, [.int 0, .ref (ta 4), .int 0]))]) [1] rfl
  have hKc := hK.sub (tys' := []) [] rfl
  refine va_calli (va_runV (As := []) (rest := [.int 0, .int p0, .ref y]) ⟨hx, hb, hml, hown, hts⟩ (c_Jx4a65c_size_8abf5 l dC dI ys (ta 4) sa ta 0 0) (cwV 0 hts gX7_alone_Jx4a65c_size_8abf5 rfl rfl rfl (by decide +kernel) ⟨Nat.le_of_ble_eq_true rfl, Nat.le_of_ble_eq_true rfl⟩) ⟨ax_fbR, va_recv hK hP (ci := 3) (q0 := 1) rfl rfl, ax_prR hPc hKc hS hE⟩ rfl rfl hl.1 rfl (lv_room (Nat.le_of_ble_eq_true rfl)) dX7_alone_7 ⟨Nat.le_of_ble_eq_true rfl, Nat.le_of_ble_eq_true rfl⟩) hS (fun _ _ h9 => h9.elim) (fun _ h9 => h9.elim) (fun r_1 u_3  t H locs ht hvm hw_2 hB hz1 hk1 hS => ?_)
  have hP := ax_keep hP (fun _ h9 => h9) hk1
  refine ax_i (y := 0) hw_2 ?_
  refine lv_iconst (v := 1) hx hb dX7_alone_10 (by decide) ?_
  refine lv_isub hx hb dX7_alone_11 ?_
  refine ax_i (y := (-1)) (by decide) ?_
  refine va_calli (va_runS (As := [.int p0, .int 0, .int (-1)]) (rest := [.ref y]) ⟨hx, hb, hml, hown, hts⟩ (c_X7_isIn l p0 0 (-1)) (va_cwS 3 hts gX7_alone_X7_isIn rfl rfl rfl (by decide +kernel) ⟨Nat.le_of_ble_eq_true rfl, Nat.le_of_ble_eq_true rfl⟩) ⟨ax_fbP, ax_prP⟩ rfl rfl hl.1 rfl (lv_room (Nat.le_of_ble_eq_true rfl)) dX7_alone_12 ⟨Nat.le_of_ble_eq_true rfl, Nat.le_of_ble_eq_true rfl⟩) hS (fun _ _ h9 => h9.elim) (fun _ h9 => h9.elim) (fun r_4 u_6  t H locs ht hvm hw_5 hB hz1 hk1 hS => ?_)
  have hP := ax_keep hP (fun _ h9 => h9) hk1
  rcases hw_5 with ⟨hr9, hw_5⟩ | ⟨hr9, hw_5⟩
  · have hw_5 : 0 ≤ p0.toInt ∧ p0.toInt ≤ (-1) := hw_5
    exfalso
    omega
  · have hw_5 : ¬ (0 ≤ p0.toInt ∧ p0.toInt ≤ (-1)) := hw_5
    refine ax_i hr9 ?_
    refine lv_if_ne (tgt := 22) hx hb dX7_alone_15 (by decide) (fun h9 => absurd rfl h9) (fun _ => ?_)
    refine lv_iconst (v := 1) hx hb dX7_alone_18 (by decide) ?_
    refine lv_goto (tgt := 23) hx hb dX7_alone_19 (by decide) ?_
    refine lv_iconst (v := 1) hx hb dX7_alone_23 (by decide) ?_
    have hPc := hP.sub (ws' := [(y, .inr (11, [.int th, .ref ys, .ref yp, .int 0])), (ys, .inr (3, [.int 0, .ref (ta 4), .int 0])), (yp, .inr (3, [.int 0, .ref (ta 4), .int 0]))]) [0, 1, 2] rfl
    have hKc := hK.sub (tys' := []) [] rfl
    have hDc := hD.sub (ws' := [(y, .inr (11, [.int th, .ref ys, .ref yp, .int 0])), (ys, .inr (3, [.int 0, .ref (ta 4), .int 0])), (yp, .inr (3, [.int 0, .ref (ta 4), .int 0]))]) [0, 1, 2] (by decide) rfl
    have hFc := va_free (wc := [(y, .inr (11, [.int th, .ref ys, .ref yp, .int 0])), (ys, .inr (3, [.int 0, .ref (ta 4), .int 0])), (yp, .inr (3, [.int 0, .ref (ta 4), .int 0]))]) hD hS hA [0, 1, 2] rfl
    refine va_calli (va_runV (As := [.int 1, .int 1]) (rest := []) ⟨hx, hb, hml, hown, hts⟩ (c_X7_start_1 l dC dI y ys yp sa ta H.size th) (cwV 2 hts gX7_alone_X7_start rfl rfl rfl (by decide +kernel) ⟨Nat.le_of_ble_eq_true rfl, Nat.le_of_ble_eq_true rfl⟩) ⟨ax_fbW, va_recv hK hP (ci := 11) (q0 := 0) rfl rfl, ax_prW hPc hKc hDc hS hFc hE⟩ rfl rfl hl.1 rfl (lv_room (Nat.le_of_ble_eq_true rfl)) dX7_alone_24 ⟨Nat.le_of_ble_eq_true rfl, Nat.le_of_ble_eq_true rfl⟩) hS (fun q _ h9 => hFc q h9) hFc (fun r_7 u_9  t H locs ht hvm hw_8 hB hz1 hk1 hS => ?_)
    obtain ⟨hP1, hK1, hD1⟩ := hB
    rw [ht] at hP1
    have hK1 := va_K.moved hvm.symm hK1
    obtain ⟨hP, hD⟩ := va_join (wr := []) (w1 := [(y, .inr (11, [.int 1, .ref ys, .ref yp, .int 0])), (ys, .inr (3, [.int 0, .ref (ta 4), .int 0])), (yp, .inr (3, [.int 0, .ref (ta 4), .int 0]))]) hP hD [0, 1, 2] [] rfl rfl (by decide) (by decide) hk1 hFc hP1 hD1
    have hP : va_P (dC, dI) vwCl [(y, .inr (11, [.int 1, .ref ys, .ref yp, .int 0])), (ys, .inr (3, [.int 0, .ref (ta 4), .int 0])), (yp, .inr (3, [.int 0, .ref (ta 4), .int 0]))] H := hP
    have hD : va_D A [(y, .inr (11, [.int 1, .ref ys, .ref yp, .int 0])), (ys, .inr (3, [.int 0, .ref (ta 4), .int 0])), (yp, .inr (3, [.int 0, .ref (ta 4), .int 0]))] := hD
    refine ax_i (y := 1) hw_8 ?_
    refine lv_if_eq (tgt := 34) hx hb dX7_alone_27 (by decide) (fun h9 => absurd h9 (by decide)) (fun _ => ?_)
    refine lv_iconst (v := 0) hx hb dX7_alone_30 (by decide) ?_
    refine lv_goto (tgt := 39) hx hb dX7_alone_31 (by decide) ?_
    refine W.widen (k := 0) (n := 0) (Nat.le_of_ble_eq_true rfl) (Nat.le_of_ble_eq_true rfl) ?_
    have hP9 := hP.sub (ws' := [(y, .inr (11, [.int 1, .ref ys, .ref yp, .int 0]))]) [0] rfl
    have hD9 := hD.sub (ws' := [(y, .inr (11, [.int 1, .ref ys, .ref yp, .int 0]))]) [0] (by decide) rfl
    have hK9 := hK.sub (tys' := []) [] rfl
    exact W.iret (v := 0) hx hb hr (fun t ht hW => ⟨⟨0, 1, rfl, rfl, by rw [ht]; exact hP9, va_K.moved hW.alike hK9, hD9⟩, hS.F ht⟩) hS.2.2 dX7_alone_39

set_option maxHeartbeats 4000000 in
set_option maxRecDepth 100000 in
theorem c_X6_init (l : Launch) (dC : Nat → ClassId) (dI : Nat → Nat → Nat) (ja : Nat) (sa ta : Nat → Nat) (sz : Nat) : Met l yX6_init wsX6_init ({ frames := 8, cells := 0, slots := 0, locals := 200 }) (va_Pc [.ref ja] (ax_W (dC, dI) vwCl [(ja, .inr (10, [.int 0, .int 0, .int 0]))] [] sa ta sz)) (va_Qv (fun (u : Unit) => True) (fun (u : Unit) (t : State) => va_P (dC, dI) vwCl [(ja, .inr (10, [.int 0, .int 0, .int 0]))] t.heap ∧ va_K (dC, dI) vwCl [] t ∧ va_D (va_A [(ja, .inr (10, [.int 0, .int 0, .int 0]))] sz) [(ja, .inr (10, [.int 0, .int 0, .int 0]))]) (va_A [(ja, .inr (10, [.int 0, .int 0, .int 0]))] sz)) 0 0 (va_A [(ja, .inr (10, [.int 0, .int 0, .int 0]))] sz) := by
  refine Met.ofW (cc := cX6_init) (maxL := 1) (ret := none) (by decide) rfl ?_
  intro p e s m args below meth c s₁ B hml hv
  obtain ⟨rfl, hsz, hP, hK, hD0, hE⟩ := hv
  have hx := B.exec
  have hb := B.bytes
  have hr := B.returns
  have hts := atoms_spec (ws := wsX6_init) B.pre
  have hown : s.vm.findClass RX6 = some m.cls := findClass_of_methodNamed B.named
  have hlocks := B.notSynchronized
  have hin : meth.name = "<init>" := (name_of_methodNamed B.named B.method).1
  subst hsz
  have hD := hD0.self (sz := s.heap.size)
  generalize hAe : va_A [(ja, .inr (10, [.int 0, .int 0, .int 0]))] s.heap.size = A at hD hE ⊢
  have hA : ∀ q : Nat, s.heap.size ≤ q → A q := fun q h => by rw [← hAe]; exact Or.inr h
  have hS : va_S A s.heap s.heap [] := va_S.rf
  have hl := lv_entry ([.ref ja]) (n := 1) (Nat.le_of_ble_eq_true rfl)
  rw [lg_entry_eq]
  generalize (lg_sl ([.ref ja]) ++ List.replicate (1 - (lg_sl ([.ref ja])).length) Slot.unset).toArray = ls at hl ⊢
  have hl : lv_has ls 1 [(0, .ref ja)] := hl
  have hP : va_P (dC, dI) vwCl [(ja, .inr (10, [.int 0, .int 0, .int 0]))] s.heap := hP
  refine lv_aload_n hx hb dX6_init_0 rfl (lv_at hl 0 rfl) ?_
  refine W.objInit hx hb hown (hts (.methodLink RX6 1 objectInit) (by decide +kernel)) (hts (.instanceMethod objectInit) (by decide +kernel)) (hts (.code objectInit ⟨#[0xb1]⟩ 1 none) (by decide +kernel)) rfl (by rw [hml]; exact hl.1) rfl dX6_init_1 (Nat.le_of_ble_eq_true rfl) (Nat.le_of_ble_eq_true rfl) ?_
  refine W.eq (g2 := F0 m 4 ls []) rfl ?_
  refine W.widen (k := 0) (n := 0) (Nat.le_of_ble_eq_true rfl) (Nat.le_of_ble_eq_true rfl) ?_
  have hP9 := hP.sub (ws' := [(ja, .inr (10, [.int 0, .int 0, .int 0]))]) [0] rfl
  have hD9 := hD.sub (ws' := [(ja, .inr (10, [.int 0, .int 0, .int 0]))]) [0] (by decide) rfl
  have hK9 := hK.sub (tys' := []) [] rfl
  exact W.vret hx hb hr (fun t ht hW => ⟨⟨(), rfl, trivial, by rw [ht]; exact hP9, va_K.moved hW.alike hK9, hD9⟩, hS.F ht⟩) hS.2.2 dX6_init_4

set_option maxHeartbeats 4000000 in
set_option maxRecDepth 100000 in
theorem c_X6_tell (l : Launch) (dC : Nat → ClassId) (dI : Nat → Nat → Nat) (ja : Nat) (sa ta : Nat → Nat) (sz : Nat) (p0 : Int32) (p1 : Int32) (p2 : Int32) : Met l yX6_tell wsX6_tell ({ frames := 8, cells := 0, slots := 0, locals := 200 }) (va_Pc [.ref ja, .int p0, .int p1, .int p2] (ax_W (dC, dI) vwCl [(ja, .inr (10, [.int 0, .int 0, .int 0]))] [] sa ta sz)) (va_Qv (fun (u : Unit) => True) (fun (u : Unit) (t : State) => va_P (dC, dI) vwCl [(ja, .inr (10, [.int p0, .int p1, .int p2]))] t.heap ∧ va_K (dC, dI) vwCl [] t ∧ va_D (va_A [(ja, .inr (10, [.int 0, .int 0, .int 0]))] sz) [(ja, .inr (10, [.int p0, .int p1, .int p2]))]) (va_A [(ja, .inr (10, [.int 0, .int 0, .int 0]))] sz)) 0 0 (va_A [(ja, .inr (10, [.int 0, .int 0, .int 0]))] sz) := by
  refine Met.ofW (cc := cX6_tell) (maxL := 4) (ret := none) (by decide) rfl ?_
  intro p e s m args below meth c s₁ B hml hv
  obtain ⟨rfl, hsz, hP, hK, hD0, hE⟩ := hv
  have hx := B.exec
  have hb := B.bytes
  have hr := B.returns
  have hts := atoms_spec (ws := wsX6_tell) B.pre
  have hown : s.vm.findClass RX6 = some m.cls := findClass_of_methodNamed B.named
  have hlocks := B.notSynchronized
  subst hsz
  have hD := hD0.self (sz := s.heap.size)
  generalize hAe : va_A [(ja, .inr (10, [.int 0, .int 0, .int 0]))] s.heap.size = A at hD hE ⊢
  have hA : ∀ q : Nat, s.heap.size ≤ q → A q := fun q h => by rw [← hAe]; exact Or.inr h
  have hS : va_S A s.heap s.heap [] := va_S.rf
  have hl := lv_entry ([.ref ja, .int p0, .int p1, .int p2]) (n := 4) (Nat.le_of_ble_eq_true rfl)
  rw [lg_entry_eq]
  generalize (lg_sl ([.ref ja, .int p0, .int p1, .int p2]) ++ List.replicate (4 - (lg_sl ([.ref ja, .int p0, .int p1, .int p2])).length) Slot.unset).toArray = ls at hl ⊢
  have hl : lv_has ls 4 [(0, .ref ja), (1, .int p0), (2, .int p1), (3, .int p2)] := hl
  have hP : va_P (dC, dI) vwCl [(ja, .inr (10, [.int 0, .int 0, .int 0]))] s.heap := hP
  refine lv_aload_n hx hb dX6_tell_0 rfl (lv_at hl 0 rfl) ?_
  refine lv_iload_n hx hb dX6_tell_1 rfl (lv_at hl 1 rfl) ?_
  refine va_put (D := (dC, dI)) (ci := 10) (v := .int p0) (ty := .int) (C := RX6) (T := TX6) (N := 3) hx hb hts (by decide +kernel) tyX6 tyX6_ok nmX6 hown hK hP hD hS 0 rfl rfl 0 (by decide) (hts (.fieldLink RX6 7 "DiffractoryModel$Source" "place" "I") (by decide +kernel)) (fun _ h9 => h9) rfl (by decide +kernel) rfl rfl (Nat.le_of_ble_eq_true rfl) dX6_tell_2 (fun H locs hP hD hS => ?_)
  have hP : va_P (dC, dI) vwCl [(ja, .inr (10, [.int p0, .int 0, .int 0]))] H := hP
  have hD : va_D A [(ja, .inr (10, [.int p0, .int 0, .int 0]))] := hD
  refine lv_aload_n hx hb dX6_tell_5 rfl (lv_at hl 0 rfl) ?_
  refine lv_iload_n hx hb dX6_tell_6 rfl (lv_at hl 2 rfl) ?_
  refine va_put (D := (dC, dI)) (ci := 10) (v := .int p1) (ty := .int) (C := RX6) (T := TX6) (N := 3) hx hb hts (by decide +kernel) tyX6 tyX6_ok nmX6 hown hK hP hD hS 0 rfl rfl 1 (by decide) (hts (.fieldLink RX6 13 "DiffractoryModel$Source" "phase" "I") (by decide +kernel)) (fun _ h9 => h9) rfl (by decide +kernel) rfl rfl (Nat.le_of_ble_eq_true rfl) dX6_tell_7 (fun H locs hP hD hS => ?_)
  have hP : va_P (dC, dI) vwCl [(ja, .inr (10, [.int p0, .int p1, .int 0]))] H := hP
  have hD : va_D A [(ja, .inr (10, [.int p0, .int p1, .int 0]))] := hD
  refine lv_aload_n hx hb dX6_tell_10 rfl (lv_at hl 0 rfl) ?_
  refine lv_iload_n hx hb dX6_tell_11 rfl (lv_at hl 3 rfl) ?_
  refine va_put (D := (dC, dI)) (ci := 10) (v := .int p2) (ty := .int) (C := RX6) (T := TX6) (N := 3) hx hb hts (by decide +kernel) tyX6 tyX6_ok nmX6 hown hK hP hD hS 0 rfl rfl 2 (by decide) (hts (.fieldLink RX6 16 "DiffractoryModel$Source" "strength" "I") (by decide +kernel)) (fun _ h9 => h9) rfl (by decide +kernel) rfl rfl (Nat.le_of_ble_eq_true rfl) dX6_tell_12 (fun H locs hP hD hS => ?_)
  have hP : va_P (dC, dI) vwCl [(ja, .inr (10, [.int p0, .int p1, .int p2]))] H := hP
  have hD : va_D A [(ja, .inr (10, [.int p0, .int p1, .int p2]))] := hD
  refine W.widen (k := 0) (n := 0) (Nat.le_of_ble_eq_true rfl) (Nat.le_of_ble_eq_true rfl) ?_
  have hP9 := hP.sub (ws' := [(ja, .inr (10, [.int p0, .int p1, .int p2]))]) [0] rfl
  have hD9 := hD.sub (ws' := [(ja, .inr (10, [.int p0, .int p1, .int p2]))]) [0] (by decide) rfl
  have hK9 := hK.sub (tys' := []) [] rfl
  exact W.vret hx hb hr (fun t ht hW => ⟨⟨(), rfl, trivial, by rw [ht]; exact hP9, va_K.moved hW.alike hK9, hD9⟩, hS.F ht⟩) hS.2.2 dX6_tell_15

set_option maxHeartbeats 4000000 in
set_option maxRecDepth 100000 in
theorem c_X5_init (l : Launch) (dC : Nat → ClassId) (dI : Nat → Nat → Nat) (ja : Nat) (sa ta : Nat → Nat) (sz : Nat) (p0 : Int32) (p1 : Int32) : Met l yX5_init wsX5_init ({ frames := 8, cells := 1, slots := 8, locals := 200 }) (va_Pc [.ref ja, .int p0, .int p1] (ax_W (dC, dI) vwCl [(ja, .inr (9, [.int 0, .int 0, .int 0, .int 0, .int 0, .null]))] [] sa ta sz)) (va_Qv (fun (u : Nat × ClassId) => True) (fun (u : Nat × ClassId) (t : State) => va_P (dC, dI) vwCl [(ja, .inr (9, [.int p0, .int p1, .int 1, .int 0, .int 0, .ref (u.1)])), ((u.1), .inl ((u.2), 8, .inl (fun _ => 0)))] t.heap ∧ va_K (dC, dI) vwCl [((u.2), .int)] t ∧ va_D (va_A [(ja, .inr (9, [.int 0, .int 0, .int 0, .int 0, .int 0, .null]))] sz) [(ja, .inr (9, [.int p0, .int p1, .int 1, .int 0, .int 0, .ref (u.1)])), ((u.1), .inl ((u.2), 8, .inl (fun _ => 0)))]) (va_A [(ja, .inr (9, [.int 0, .int 0, .int 0, .int 0, .int 0, .null]))] sz)) 1 8 (va_A [(ja, .inr (9, [.int 0, .int 0, .int 0, .int 0, .int 0, .null]))] sz) := by
  refine Met.ofW (cc := cX5_init) (maxL := 3) (ret := none) (by decide) rfl ?_
  intro p e s m args below meth c s₁ B hml hv
  obtain ⟨rfl, hsz, hP, hK, hD0, hE⟩ := hv
  have hx := B.exec
  have hb := B.bytes
  have hr := B.returns
  have hts := atoms_spec (ws := wsX5_init) B.pre
  have hown : s.vm.findClass RX5 = some m.cls := findClass_of_methodNamed B.named
  have hlocks := B.notSynchronized
  have hin : meth.name = "<init>" := (name_of_methodNamed B.named B.method).1
  subst hsz
  have hD := hD0.self (sz := s.heap.size)
  generalize hAe : va_A [(ja, .inr (9, [.int 0, .int 0, .int 0, .int 0, .int 0, .null]))] s.heap.size = A at hD hE ⊢
  have hA : ∀ q : Nat, s.heap.size ≤ q → A q := fun q h => by rw [← hAe]; exact Or.inr h
  have hS : va_S A s.heap s.heap [] := va_S.rf
  have hl := lv_entry ([.ref ja, .int p0, .int p1]) (n := 3) (Nat.le_of_ble_eq_true rfl)
  rw [lg_entry_eq]
  generalize (lg_sl ([.ref ja, .int p0, .int p1]) ++ List.replicate (3 - (lg_sl ([.ref ja, .int p0, .int p1])).length) Slot.unset).toArray = ls at hl ⊢
  have hl : lv_has ls 3 [(0, .ref ja), (1, .int p0), (2, .int p1)] := hl
  have hP : va_P (dC, dI) vwCl [(ja, .inr (9, [.int 0, .int 0, .int 0, .int 0, .int 0, .null]))] s.heap := hP
  refine lv_aload_n hx hb dX5_init_0 rfl (lv_at hl 0 rfl) ?_
  refine W.objInit hx hb hown (hts (.methodLink RX5 3 objectInit) (by decide +kernel)) (hts (.instanceMethod objectInit) (by decide +kernel)) (hts (.code objectInit ⟨#[0xb1]⟩ 1 none) (by decide +kernel)) rfl (by rw [hml]; exact hl.1) rfl dX5_init_1 (Nat.le_of_ble_eq_true rfl) (Nat.le_of_ble_eq_true rfl) ?_
  refine W.eq (g2 := F0 m 4 ls []) rfl ?_
  refine lv_aload_n hx hb dX5_init_4 rfl (lv_at hl 0 rfl) ?_
  refine lv_iconst (v := 1) hx hb dX5_init_5 (by decide) ?_
  refine va_put (D := (dC, dI)) (ci := 9) (v := .int 1) (ty := .boolean) (C := RX5) (T := TX5) (N := 6) hx hb hts (by decide +kernel) tyX5 tyX5_ok nmX5 hown hK hP hD hS 0 rfl rfl 2 (by decide) (hts (.fieldLink RX5 9 "DiffractoryModel$Part" "isIn" "Z") (by decide +kernel)) (fun _ h9 => h9) rfl (by decide +kernel) rfl rfl (Nat.le_of_ble_eq_true rfl) dX5_init_6 (fun H locs hP hD hS => ?_)
  have hP : va_P (dC, dI) vwCl [(ja, .inr (9, [.int 0, .int 0, .int 1, .int 0, .int 0, .null]))] H := hP
  have hD : va_D A [(ja, .inr (9, [.int 0, .int 0, .int 1, .int 0, .int 0, .null]))] := hD
  refine lv_aload_n hx hb dX5_init_9 rfl (lv_at hl 0 rfl) ?_
  refine lv_bipush (v := 8) hx hb dX5_init_10 (by decide) ?_
  refine va_newa (atype := .int) (ty := .int) (N' := 8) (a0 := (8, .inl (fun _ => 0))) hx hb (hts (.arrayClass .int) (by decide +kernel)) rfl hK hP hD hS hA (fun _ => rfl) (by decide) (by decide) (by decide) (Nat.le_of_ble_eq_true rfl) (Nat.le_of_ble_eq_true rfl) dX5_init_12 (fun q_1 cA_2 H hK hP hD hS => ?_)
  have hP : va_P (dC, dI) vwCl [(ja, .inr (9, [.int 0, .int 0, .int 1, .int 0, .int 0, .null])), (q_1, .inl (cA_2, 8, .inl (fun _ => 0)))] H := hP
  have hD : va_D A [(ja, .inr (9, [.int 0, .int 0, .int 1, .int 0, .int 0, .null])), (q_1, .inl (cA_2, 8, .inl (fun _ => 0)))] := hD
  have hK : va_K (dC, dI) vwCl [(cA_2, .int)] s := hK
  refine va_putF (D := (dC, dI)) (ci := 9) (v := .ref q_1) (ty := .array .int) (C := RX5) (T := TX5) (N := 6) hx hb hts (by decide +kernel) tyX5 tyX5_ok nmX5 hown hK hP hD hS 0 rfl rfl 5 (by decide) (hts (.fieldLink RX5 15 "DiffractoryModel$Part" "exposures" "[I") (by decide +kernel)) (fun _ h9 => h9) rfl hin rfl (by decide +kernel) rfl rfl (Nat.le_of_ble_eq_true rfl) dX5_init_14 (fun H locs hP hD hS => ?_)
  have hP : va_P (dC, dI) vwCl [(ja, .inr (9, [.int 0, .int 0, .int 1, .int 0, .int 0, .ref q_1])), (q_1, .inl (cA_2, 8, .inl (fun _ => 0)))] H := hP
  have hD : va_D A [(ja, .inr (9, [.int 0, .int 0, .int 1, .int 0, .int 0, .ref q_1])), (q_1, .inl (cA_2, 8, .inl (fun _ => 0)))] := hD
  refine lv_aload_n hx hb dX5_init_17 rfl (lv_at hl 0 rfl) ?_
  refine lv_iload_n hx hb dX5_init_18 rfl (lv_at hl 1 rfl) ?_
  refine va_putF (D := (dC, dI)) (ci := 9) (v := .int p0) (ty := .int) (C := RX5) (T := TX5) (N := 6) hx hb hts (by decide +kernel) tyX5 tyX5_ok nmX5 hown hK hP hD hS 0 rfl rfl 0 (by decide) (hts (.fieldLink RX5 19 "DiffractoryModel$Part" "kind" "I") (by decide +kernel)) (fun _ h9 => h9) rfl hin rfl (by decide +kernel) rfl rfl (Nat.le_of_ble_eq_true rfl) dX5_init_19 (fun H locs hP hD hS => ?_)
  have hP : va_P (dC, dI) vwCl [(ja, .inr (9, [.int p0, .int 0, .int 1, .int 0, .int 0, .ref q_1])), (q_1, .inl (cA_2, 8, .inl (fun _ => 0)))] H := hP
  have hD : va_D A [(ja, .inr (9, [.int p0, .int 0, .int 1, .int 0, .int 0, .ref q_1])), (q_1, .inl (cA_2, 8, .inl (fun _ => 0)))] := hD
  refine lv_aload_n hx hb dX5_init_22 rfl (lv_at hl 0 rfl) ?_
  refine lv_iload_n hx hb dX5_init_23 rfl (lv_at hl 2 rfl) ?_
  refine va_put (D := (dC, dI)) (ci := 9) (v := .int p1) (ty := .int) (C := RX5) (T := TX5) (N := 6) hx hb hts (by decide +kernel) tyX5 tyX5_ok nmX5 hown hK hP hD hS 0 rfl rfl 1 (by decide) (hts (.fieldLink RX5 23 "DiffractoryModel$Part" "number" "I") (by decide +kernel)) (fun _ h9 => h9) rfl (by decide +kernel) rfl rfl (Nat.le_of_ble_eq_true rfl) dX5_init_24 (fun H locs hP hD hS => ?_)
  have hP : va_P (dC, dI) vwCl [(ja, .inr (9, [.int p0, .int p1, .int 1, .int 0, .int 0, .ref q_1])), (q_1, .inl (cA_2, 8, .inl (fun _ => 0)))] H := hP
  have hD : va_D A [(ja, .inr (9, [.int p0, .int p1, .int 1, .int 0, .int 0, .ref q_1])), (q_1, .inl (cA_2, 8, .inl (fun _ => 0)))] := hD
  refine W.widen (k := 1) (n := 8) (Nat.le_of_ble_eq_true rfl) (Nat.le_of_ble_eq_true rfl) ?_
  have hP9 := hP.sub (ws' := [(ja, .inr (9, [.int p0, .int p1, .int 1, .int 0, .int 0, .ref q_1])), (q_1, .inl (cA_2, 8, .inl (fun _ => 0)))]) [0, 1] rfl
  have hD9 := hD.sub (ws' := [(ja, .inr (9, [.int p0, .int p1, .int 1, .int 0, .int 0, .ref q_1])), (q_1, .inl (cA_2, 8, .inl (fun _ => 0)))]) [0, 1] (by decide) rfl
  have hK9 := hK.sub (tys' := [(cA_2, .int)]) [0] rfl
  exact W.vret hx hb hr (fun t ht hW => ⟨⟨(q_1, cA_2), rfl, trivial, by rw [ht]; exact hP9, va_K.moved hW.alike hK9, hD9⟩, hS.F ht⟩) hS.2.2 dX5_init_27

set_option maxHeartbeats 4000000 in
set_option maxRecDepth 100000 in
theorem c_X7_source (l : Launch) (dC : Nat → ClassId) (dI : Nat → Nat → Nat) (y ys yp : Nat) (sa ta : Nat → Nat) (sz : Nat) (th : Int32) (p0 : Int32) (p1 : Int32) (p2 : Int32) : Met l yX7_source wsX7_source ({ frames := 40, cells := 2, slots := 13, locals := 1000 }) (va_Pc [.ref y, .int p0, .int p1, .int p2] (ax_W (dC, dI) vwCl [(y, .inr (11, [.int th, .ref ys, .ref yp, .int 0])), (ys, .inr (3, [.int 0, .ref (ta 4), .int 0])), (yp, .inr (3, [.int 0, .ref (ta 4), .int 0]))] [] sa ta sz)) (va_Qi (fun (r : Int32) (u : Int32) => (((0 ≤ p0.toInt ∧ p0.toInt ≤ 7) ∧ (0 ≤ p1.toInt ∧ p1.toInt ≤ 7) ∧ (1 ≤ p2.toInt ∧ p2.toInt ≤ 9)) ∧ u = 0 ∧ r = 0) ∨ (¬ (((0 ≤ p0.toInt ∧ p0.toInt ≤ 7) ∧ (0 ≤ p1.toInt ∧ p1.toInt ≤ 7) ∧ (1 ≤ p2.toInt ∧ p2.toInt ≤ 9))) ∧ u = 1)) (fun (u : Int32) (t : State) => va_P (dC, dI) vwCl [(y, .inr (11, [.int u, .ref ys, .ref yp, .int 0]))] t.heap ∧ va_K (dC, dI) vwCl [] t ∧ va_D (va_A [(y, .inr (11, [.int th, .ref ys, .ref yp, .int 0])), (ys, .inr (3, [.int 0, .ref (ta 4), .int 0])), (yp, .inr (3, [.int 0, .ref (ta 4), .int 0]))] sz) [(y, .inr (11, [.int u, .ref ys, .ref yp, .int 0]))]) (va_A [(y, .inr (11, [.int th, .ref ys, .ref yp, .int 0])), (ys, .inr (3, [.int 0, .ref (ta 4), .int 0])), (yp, .inr (3, [.int 0, .ref (ta 4), .int 0]))] sz)) 2 13 (va_A [(y, .inr (11, [.int th, .ref ys, .ref yp, .int 0])), (ys, .inr (3, [.int 0, .ref (ta 4), .int 0])), (yp, .inr (3, [.int 0, .ref (ta 4), .int 0]))] sz) := by
  refine Met.ofW (cc := cX7_source) (maxL := 5) (ret := (some .int)) (by decide) rfl ?_
  intro p e s m args below meth c s₁ B hml hv
  obtain ⟨rfl, hsz, hP, hK, hD0, hE⟩ := hv
  have hx := B.exec
  have hb := B.bytes
  have hr := B.returns
  have hts := atoms_spec (ws := wsX7_source) B.pre
  have hown : s.vm.findClass RX7 = some m.cls := findClass_of_methodNamed B.named
  have hlocks := B.notSynchronized
  subst hsz
  have hD := hD0.self (sz := s.heap.size)
  generalize hAe : va_A [(y, .inr (11, [.int th, .ref ys, .ref yp, .int 0])), (ys, .inr (3, [.int 0, .ref (ta 4), .int 0])), (yp, .inr (3, [.int 0, .ref (ta 4), .int 0]))] s.heap.size = A at hD hE ⊢
  have hA : ∀ q : Nat, s.heap.size ≤ q → A q := fun q h => by rw [← hAe]; exact Or.inr h
  have hS : va_S A s.heap s.heap [] := va_S.rf
  have hl := lv_entry ([.ref y, .int p0, .int p1, .int p2]) (n := 5) (Nat.le_of_ble_eq_true rfl)
  rw [lg_entry_eq]
  generalize (lg_sl ([.ref y, .int p0, .int p1, .int p2]) ++ List.replicate (5 - (lg_sl ([.ref y, .int p0, .int p1, .int p2])).length) Slot.unset).toArray = ls at hl ⊢
  have hl : lv_has ls 5 [(0, .ref y), (1, .int p0), (2, .int p1), (3, .int p2)] := hl
  have hP : va_P (dC, dI) vwCl [(y, .inr (11, [.int th, .ref ys, .ref yp, .int 0])), (ys, .inr (3, [.int 0, .ref (ta 4), .int 0])), (yp, .inr (3, [.int 0, .ref (ta 4), .int 0]))] s.heap := hP
  refine lv_aload_n hx hb dX7_source_0 rfl (lv_at hl 0 rfl) ?_
  refine lv_iload_n hx hb dX7_source_1 rfl (lv_at hl 1 rfl) ?_
  refine lv_iload_n hx hb dX7_source_2 rfl (lv_at hl 2 rfl) ?_
  refine lv_iload_n hx hb dX7_source_3 rfl (lv_at hl 3 rfl) ?_
  refine va_calli (va_runS (As := [.int p0, .int p1, .int p2]) (rest := [.ref y]) ⟨hx, hb, hml, hown, hts⟩ (c_X7_isNoSource l p0 p1 p2) (va_cwS 3 hts gX7_source_X7_isNoSource rfl rfl rfl (by decide +kernel) ⟨Nat.le_of_ble_eq_true rfl, Nat.le_of_ble_eq_true rfl⟩) ⟨ax_fbP, ax_prP⟩ rfl rfl hl.1 rfl (lv_room (Nat.le_of_ble_eq_true rfl)) dX7_source_4 ⟨Nat.le_of_ble_eq_true rfl, Nat.le_of_ble_eq_true rfl⟩) hS (fun _ _ h9 => h9.elim) (fun _ h9 => h9.elim) (fun r_1 u_3  t H locs ht hvm hw_2 hB hz1 hk1 hS => ?_)
  have hP := ax_keep hP (fun _ h9 => h9) hk1
  rcases hw_2 with ⟨hr9, hw_2⟩ | ⟨hr9, hw_2⟩
  · refine ax_i hr9 ?_
    refine lv_iconst (v := 1) hx hb dX7_source_7 (by decide) ?_
    have hPc := hP.sub (ws' := [(y, .inr (11, [.int th, .ref ys, .ref yp, .int 0])), (ys, .inr (3, [.int 0, .ref (ta 4), .int 0])), (yp, .inr (3, [.int 0, .ref (ta 4), .int 0]))]) [0, 1, 2] rfl
    have hKc := hK.sub (tys' := []) [] rfl
    have hDc := hD.sub (ws' := [(y, .inr (11, [.int th, .ref ys, .ref yp, .int 0])), (ys, .inr (3, [.int 0, .ref (ta 4), .int 0])), (yp, .inr (3, [.int 0, .ref (ta 4), .int 0]))]) [0, 1, 2] (by decide) rfl
    have hFc := va_free (wc := [(y, .inr (11, [.int th, .ref ys, .ref yp, .int 0])), (ys, .inr (3, [.int 0, .ref (ta 4), .int 0])), (yp, .inr (3, [.int 0, .ref (ta 4), .int 0]))]) hD hS hA [0, 1, 2] rfl
    refine va_calli (va_runV (As := [.int 1, .int 1]) (rest := []) ⟨hx, hb, hml, hown, hts⟩ (c_X7_start_1 l dC dI y ys yp sa ta H.size th) (cwV 2 hts gX7_source_X7_start rfl rfl rfl (by decide +kernel) ⟨Nat.le_of_ble_eq_true rfl, Nat.le_of_ble_eq_true rfl⟩) ⟨ax_fbW, va_recv hK hP (ci := 11) (q0 := 0) rfl rfl, ax_prW hPc hKc hDc hS hFc hE⟩ rfl rfl hl.1 rfl (lv_room (Nat.le_of_ble_eq_true rfl)) dX7_source_8 ⟨Nat.le_of_ble_eq_true rfl, Nat.le_of_ble_eq_true rfl⟩) hS (fun q _ h9 => hFc q h9) hFc (fun r_4 u_6  t H locs ht hvm hw_5 hB hz1 hk1 hS => ?_)
    obtain ⟨hP1, hK1, hD1⟩ := hB
    rw [ht] at hP1
    have hK1 := va_K.moved hvm.symm hK1
    obtain ⟨hP, hD⟩ := va_join (wr := []) (w1 := [(y, .inr (11, [.int 1, .ref ys, .ref yp, .int 0])), (ys, .inr (3, [.int 0, .ref (ta 4), .int 0])), (yp, .inr (3, [.int 0, .ref (ta 4), .int 0]))]) hP hD [0, 1, 2] [] rfl rfl (by decide) (by decide) hk1 hFc hP1 hD1
    have hP : va_P (dC, dI) vwCl [(y, .inr (11, [.int 1, .ref ys, .ref yp, .int 0])), (ys, .inr (3, [.int 0, .ref (ta 4), .int 0])), (yp, .inr (3, [.int 0, .ref (ta 4), .int 0]))] H := hP
    have hD : va_D A [(y, .inr (11, [.int 1, .ref ys, .ref yp, .int 0])), (ys, .inr (3, [.int 0, .ref (ta 4), .int 0])), (yp, .inr (3, [.int 0, .ref (ta 4), .int 0]))] := hD
    refine ax_i (y := 1) hw_5 ?_
    refine lv_if_ne (tgt := 38) hx hb dX7_source_11 (by decide) (fun _ => ?_) (fun h9 => absurd h9 (by decide))
    refine lv_iconst (v := 0) hx hb dX7_source_38 (by decide) ?_
    refine W.widen (k := 2) (n := 13) (Nat.le_of_ble_eq_true rfl) (Nat.le_of_ble_eq_true rfl) ?_
    have hP9 := hP.sub (ws' := [(y, .inr (11, [.int 1, .ref ys, .ref yp, .int 0]))]) [0] rfl
    have hD9 := hD.sub (ws' := [(y, .inr (11, [.int 1, .ref ys, .ref yp, .int 0]))]) [0] (by decide) rfl
    have hK9 := hK.sub (tys' := []) [] rfl
    exact W.iret (v := 0) hx hb hr (fun t ht hW => ⟨⟨0, 1, rfl, Or.inr ⟨by omega, rfl⟩, by rw [ht]; exact hP9, va_K.moved hW.alike hK9, hD9⟩, hS.F ht⟩) hS.2.2 dX7_source_39
  · refine ax_i hr9 ?_
    refine lv_iconst (v := 1) hx hb dX7_source_7 (by decide) ?_
    have hPc := hP.sub (ws' := [(y, .inr (11, [.int th, .ref ys, .ref yp, .int 0])), (ys, .inr (3, [.int 0, .ref (ta 4), .int 0])), (yp, .inr (3, [.int 0, .ref (ta 4), .int 0]))]) [0, 1, 2] rfl
    have hKc := hK.sub (tys' := []) [] rfl
    have hDc := hD.sub (ws' := [(y, .inr (11, [.int th, .ref ys, .ref yp, .int 0])), (ys, .inr (3, [.int 0, .ref (ta 4), .int 0])), (yp, .inr (3, [.int 0, .ref (ta 4), .int 0]))]) [0, 1, 2] (by decide) rfl
    have hFc := va_free (wc := [(y, .inr (11, [.int th, .ref ys, .ref yp, .int 0])), (ys, .inr (3, [.int 0, .ref (ta 4), .int 0])), (yp, .inr (3, [.int 0, .ref (ta 4), .int 0]))]) hD hS hA [0, 1, 2] rfl
    refine va_calli (va_runV (As := [.int 0, .int 1]) (rest := []) ⟨hx, hb, hml, hown, hts⟩ (c_X7_start_0 l dC dI y ys yp sa ta H.size th) (cwV 2 hts gX7_source_X7_start rfl rfl rfl (by decide +kernel) ⟨Nat.le_of_ble_eq_true rfl, Nat.le_of_ble_eq_true rfl⟩) ⟨ax_fbW, va_recv hK hP (ci := 11) (q0 := 0) rfl rfl, ax_prW hPc hKc hDc hS hFc hE⟩ rfl rfl hl.1 rfl (lv_room (Nat.le_of_ble_eq_true rfl)) dX7_source_8 ⟨Nat.le_of_ble_eq_true rfl, Nat.le_of_ble_eq_true rfl⟩) hS (fun q _ h9 => hFc q h9) hFc (fun r_7 u_9  t H locs ht hvm hw_8 hB hz1 hk1 hS => ?_)
    obtain ⟨hP1, hK1, hD1⟩ := hB
    rw [ht] at hP1
    have hK1 := va_K.moved hvm.symm hK1
    obtain ⟨hP, hD⟩ := va_join (wr := []) (w1 := [(y, .inr (11, [.int 0, .ref ys, .ref yp, .int 0])), (ys, .inr (3, [.int 0, .ref (ta 4), .int 0])), (yp, .inr (3, [.int 0, .ref (ta 4), .int 0]))]) hP hD [0, 1, 2] [] rfl rfl (by decide) (by decide) hk1 hFc hP1 hD1
    have hP : va_P (dC, dI) vwCl [(y, .inr (11, [.int 0, .ref ys, .ref yp, .int 0])), (ys, .inr (3, [.int 0, .ref (ta 4), .int 0])), (yp, .inr (3, [.int 0, .ref (ta 4), .int 0]))] H := hP
    have hD : va_D A [(y, .inr (11, [.int 0, .ref ys, .ref yp, .int 0])), (ys, .inr (3, [.int 0, .ref (ta 4), .int 0])), (yp, .inr (3, [.int 0, .ref (ta 4), .int 0]))] := hD
    refine ax_i (y := 0) hw_8 ?_
    refine lv_if_ne (tgt := 38) hx hb dX7_source_11 (by decide) (fun h9 => absurd rfl h9) (fun _ => ?_)
    refine lv_aload_n hx hb dX7_source_14 rfl (lv_at hl 0 rfl) ?_
    refine lv_aload_n hx hb dX7_source_15 rfl (lv_at hl 0 rfl) ?_
    refine va_get (D := (dC, dI)) (ci := 11) (v := .ref ys) (C := RX7) (T := TX7) (N := 4) hx hb hts (by decide +kernel) hown hK hP 0 rfl rfl 1 (by decide) (hts (.fieldLink RX7 10 "DiffractoryModel" "sources" "Ljava/util/ArrayList;") (by decide +kernel)) (fun _ h9 => h9) rfl dX7_source_16 ?_
    have hPc := hP.sub (ws' := [(ys, .inr (3, [.int 0, .ref (ta 4), .int 0]))]) [1] rfl
    have hKc := hK.sub (tys' := []) [] rfl
    refine va_calli (va_runV (As := []) (rest := [.ref y]) ⟨hx, hb, hml, hown, hts⟩ (c_Jx4a65c_size_8abf5 l dC dI ys (ta 4) sa ta 0 0) (cwV 0 hts gX7_source_Jx4a65c_size_8abf5 rfl rfl rfl (by decide +kernel) ⟨Nat.le_of_ble_eq_true rfl, Nat.le_of_ble_eq_true rfl⟩) ⟨ax_fbR, va_recv hK hP (ci := 3) (q0 := 1) rfl rfl, ax_prR hPc hKc hS hE⟩ rfl rfl hl.1 rfl (lv_room (Nat.le_of_ble_eq_true rfl)) dX7_source_19 ⟨Nat.le_of_ble_eq_true rfl, Nat.le_of_ble_eq_true rfl⟩) hS (fun _ _ h9 => h9.elim) (fun _ h9 => h9.elim) (fun r_10 u_12  t H locs ht hvm hw_11 hB hz1 hk1 hS => ?_)
    have hP := ax_keep hP (fun _ h9 => h9) hk1
    refine ax_i (y := 0) hw_11 ?_
    refine lv_iconst (v := 3) hx hb dX7_source_22 (by decide) ?_
    refine lv_icmp_ne (tgt := 30) hx hb dX7_source_23 (by decide) (fun _ => ?_) (fun h9 => absurd h9 (by decide))
    refine lv_iconst (v := 0) hx hb dX7_source_30 (by decide) ?_
    refine lv_iconst (v := 2) hx hb dX7_source_31 (by decide) ?_
    have hPc := hP.sub (ws' := [(y, .inr (11, [.int 0, .ref ys, .ref yp, .int 0])), (ys, .inr (3, [.int 0, .ref (ta 4), .int 0])), (yp, .inr (3, [.int 0, .ref (ta 4), .int 0]))]) [0, 1, 2] rfl
    have hKc := hK.sub (tys' := []) [] rfl
    have hDc := hD.sub (ws' := [(y, .inr (11, [.int 0, .ref ys, .ref yp, .int 0])), (ys, .inr (3, [.int 0, .ref (ta 4), .int 0])), (yp, .inr (3, [.int 0, .ref (ta 4), .int 0]))]) [0, 1, 2] (by decide) rfl
    have hFc := va_free (wc := [(y, .inr (11, [.int 0, .ref ys, .ref yp, .int 0])), (ys, .inr (3, [.int 0, .ref (ta 4), .int 0])), (yp, .inr (3, [.int 0, .ref (ta 4), .int 0]))]) hD hS hA [0, 1, 2] rfl
    refine va_calli (va_runV (As := [.int 0, .int 2]) (rest := []) ⟨hx, hb, hml, hown, hts⟩ (c_X7_refuse_02 l dC dI y ys yp sa ta H.size) (cwV 2 hts gX7_source_X7_refuse rfl rfl rfl (by decide +kernel) ⟨Nat.le_of_ble_eq_true rfl, Nat.le_of_ble_eq_true rfl⟩) ⟨ax_fbW, va_recv hK hP (ci := 11) (q0 := 0) rfl rfl, ax_prW hPc hKc hDc hS hFc hE⟩ rfl rfl hl.1 rfl (lv_room (Nat.le_of_ble_eq_true rfl)) dX7_source_32 ⟨Nat.le_of_ble_eq_true rfl, Nat.le_of_ble_eq_true rfl⟩) hS (fun q _ h9 => hFc q h9) hFc (fun r_13 u_15  t H locs ht hvm hw_14 hB hz1 hk1 hS => ?_)
    obtain ⟨hP1, hK1, hD1⟩ := hB
    rw [ht] at hP1
    have hK1 := va_K.moved hvm.symm hK1
    obtain ⟨hP, hD⟩ := va_join (wr := []) (w1 := [(y, .inr (11, [.int 0, .ref ys, .ref yp, .int 0])), (ys, .inr (3, [.int 0, .ref (ta 4), .int 0])), (yp, .inr (3, [.int 0, .ref (ta 4), .int 0]))]) hP hD [0, 1, 2] [] rfl rfl (by decide) (by decide) hk1 hFc hP1 hD1
    have hP : va_P (dC, dI) vwCl [(y, .inr (11, [.int 0, .ref ys, .ref yp, .int 0])), (ys, .inr (3, [.int 0, .ref (ta 4), .int 0])), (yp, .inr (3, [.int 0, .ref (ta 4), .int 0]))] H := hP
    have hD : va_D A [(y, .inr (11, [.int 0, .ref ys, .ref yp, .int 0])), (ys, .inr (3, [.int 0, .ref (ta 4), .int 0])), (yp, .inr (3, [.int 0, .ref (ta 4), .int 0]))] := hD
    refine ax_i (y := 0) hw_14 ?_
    refine lv_if_eq (tgt := 40) hx hb dX7_source_35 (by decide) (fun _ => ?_) (fun h9 => absurd (by decide) h9)
    refine va_new (ci := 10) (fs := [.int 0, .int 0, .int 0]) (C := RX6) (T := TX6) (N := 3) hx hb hts (by decide +kernel) tyX6 tyX6_ok hown (hts (.classLink RX7 50 RX6) (by decide +kernel)) (hts (.instantiable RX6 3) (by decide +kernel)) (hts (.initialized RX6) (by decide +kernel)) hK hP hD hS hA rfl (fun j hj => by rcases (show j = 0 ∨ j = 1 ∨ j = 2 by omega) with rfl | rfl | rfl <;> rfl) (Nat.le_of_ble_eq_true rfl) (Nat.le_of_ble_eq_true rfl) dX7_source_40 (fun q_16 H hP hD hS => ?_)
    have hP : va_P (dC, dI) vwCl [(y, .inr (11, [.int 0, .ref ys, .ref yp, .int 0])), (ys, .inr (3, [.int 0, .ref (ta 4), .int 0])), (yp, .inr (3, [.int 0, .ref (ta 4), .int 0])), (q_16, .inr (10, [.int 0, .int 0, .int 0]))] H := hP
    have hD : va_D A [(y, .inr (11, [.int 0, .ref ys, .ref yp, .int 0])), (ys, .inr (3, [.int 0, .ref (ta 4), .int 0])), (yp, .inr (3, [.int 0, .ref (ta 4), .int 0])), (q_16, .inr (10, [.int 0, .int 0, .int 0]))] := hD
    refine lv_dup hx hb dX7_source_43 rfl ?_
    have hPc := hP.sub (ws' := [(q_16, .inr (10, [.int 0, .int 0, .int 0]))]) [3] rfl
    have hKc := hK.sub (tys' := []) [] rfl
    have hDc := hD.sub (ws' := [(q_16, .inr (10, [.int 0, .int 0, .int 0]))]) [3] (by decide) rfl
    have hFc := va_free (wc := [(q_16, .inr (10, [.int 0, .int 0, .int 0]))]) hD hS hA [3] rfl
    refine va_callv (va_runIN (As := []) (rest := [.ref q_16]) ⟨hx, hb, hml, hown, hts⟩ (c_X6_init l dC dI q_16 sa ta H.size) ⟨va_cnB 0 hts gX7_source_X6_init_n138 rfl rfl rfl hE.n2 (hts (.initialized RX6) (by decide +kernel)) (by decide +kernel) ⟨Nat.le_of_ble_eq_true rfl, Nat.le_of_ble_eq_true rfl⟩, rfl, hts (.instanceMethod yX6_init) (by decide +kernel)⟩ ⟨ax_fbW, ax_prW hPc hKc hDc hS hFc hE⟩ rfl rfl hl.1 rfl (lv_room (Nat.le_of_ble_eq_true rfl)) dX7_source_44 ⟨Nat.le_of_ble_eq_true rfl, Nat.le_of_ble_eq_true rfl⟩) hS (fun q _ h9 => hFc q h9) hFc (fun u_19  t H locs ht hvm hw_18 hB hz1 hk1 hS => ?_)
    obtain ⟨hP1, hK1, hD1⟩ := hB
    rw [ht] at hP1
    have hK1 := va_K.moved hvm.symm hK1
    obtain ⟨hP, hD⟩ := va_join (wr := [(y, .inr (11, [.int 0, .ref ys, .ref yp, .int 0])), (ys, .inr (3, [.int 0, .ref (ta 4), .int 0])), (yp, .inr (3, [.int 0, .ref (ta 4), .int 0]))]) (w1 := [(q_16, .inr (10, [.int 0, .int 0, .int 0]))]) hP hD [3] [0, 1, 2] rfl rfl (by decide) (by decide) hk1 hFc hP1 hD1
    have hP : va_P (dC, dI) vwCl [(y, .inr (11, [.int 0, .ref ys, .ref yp, .int 0])), (ys, .inr (3, [.int 0, .ref (ta 4), .int 0])), (yp, .inr (3, [.int 0, .ref (ta 4), .int 0])), (q_16, .inr (10, [.int 0, .int 0, .int 0]))] H := hP
    have hD : va_D A [(y, .inr (11, [.int 0, .ref ys, .ref yp, .int 0])), (ys, .inr (3, [.int 0, .ref (ta 4), .int 0])), (yp, .inr (3, [.int 0, .ref (ta 4), .int 0])), (q_16, .inr (10, [.int 0, .int 0, .int 0]))] := hD
    refine lv_astore (lv' := [(4, .ref q_16), (0, .ref y), (1, .int p0), (2, .int p1), (3, .int p2)]) hx hb dX7_source_47 hl (by decide) rfl (fun ls hl => ?_)
    refine lv_aload hx hb dX7_source_49 (lv_at hl 0 rfl) ?_
    refine lv_iload_n hx hb dX7_source_51 rfl (lv_at hl 2 rfl) ?_
    refine lv_iload_n hx hb dX7_source_52 rfl (lv_at hl 3 rfl) ?_
    refine lv_iload_n hx hb dX7_source_53 rfl (lv_at hl 4 rfl) ?_
    have hPc := hP.sub (ws' := [(q_16, .inr (10, [.int 0, .int 0, .int 0]))]) [3] rfl
    have hKc := hK.sub (tys' := []) [] rfl
    have hDc := hD.sub (ws' := [(q_16, .inr (10, [.int 0, .int 0, .int 0]))]) [3] (by decide) rfl
    have hFc := va_free (wc := [(q_16, .inr (10, [.int 0, .int 0, .int 0]))]) hD hS hA [3] rfl
    refine va_callv (va_runV (As := [.int p0, .int p1, .int p2]) (rest := []) ⟨hx, hb, hml, hown, hts⟩ (c_X6_tell l dC dI q_16 sa ta H.size p0 p1 p2) (cwV 3 hts gX7_source_X6_tell rfl rfl rfl (by decide +kernel) ⟨Nat.le_of_ble_eq_true rfl, Nat.le_of_ble_eq_true rfl⟩) ⟨ax_fbW, va_recv hK hP (ci := 10) (q0 := 3) rfl rfl, ax_prW hPc hKc hDc hS hFc hE⟩ rfl rfl hl.1 rfl (lv_room (Nat.le_of_ble_eq_true rfl)) dX7_source_54 ⟨Nat.le_of_ble_eq_true rfl, Nat.le_of_ble_eq_true rfl⟩) hS (fun q _ h9 => hFc q h9) hFc (fun u_22  t H locs ht hvm hw_21 hB hz1 hk1 hS => ?_)
    obtain ⟨hP1, hK1, hD1⟩ := hB
    rw [ht] at hP1
    have hK1 := va_K.moved hvm.symm hK1
    obtain ⟨hP, hD⟩ := va_join (wr := [(y, .inr (11, [.int 0, .ref ys, .ref yp, .int 0])), (ys, .inr (3, [.int 0, .ref (ta 4), .int 0])), (yp, .inr (3, [.int 0, .ref (ta 4), .int 0]))]) (w1 := [(q_16, .inr (10, [.int p0, .int p1, .int p2]))]) hP hD [3] [0, 1, 2] rfl rfl (by decide) (by decide) hk1 hFc hP1 hD1
    have hP : va_P (dC, dI) vwCl [(y, .inr (11, [.int 0, .ref ys, .ref yp, .int 0])), (ys, .inr (3, [.int 0, .ref (ta 4), .int 0])), (yp, .inr (3, [.int 0, .ref (ta 4), .int 0])), (q_16, .inr (10, [.int p0, .int p1, .int p2]))] H := hP
    have hD : va_D A [(y, .inr (11, [.int 0, .ref ys, .ref yp, .int 0])), (ys, .inr (3, [.int 0, .ref (ta 4), .int 0])), (yp, .inr (3, [.int 0, .ref (ta 4), .int 0])), (q_16, .inr (10, [.int p0, .int p1, .int p2]))] := hD
    refine lv_aload_n hx hb dX7_source_57 rfl (lv_at hl 1 rfl) ?_
    refine va_get (D := (dC, dI)) (ci := 11) (v := .ref ys) (C := RX7) (T := TX7) (N := 4) hx hb hts (by decide +kernel) hown hK hP 0 rfl rfl 1 (by decide) (hts (.fieldLink RX7 10 "DiffractoryModel" "sources" "Ljava/util/ArrayList;") (by decide +kernel)) (fun _ h9 => h9) rfl dX7_source_58 ?_
    refine lv_aload hx hb dX7_source_61 (lv_at hl 0 rfl) ?_
    have hPc := hP.sub (ws' := [(ys, .inr (3, [.int 0, .ref (ta 4), .int 0])), (q_16, .inr (10, [.int p0, .int p1, .int p2]))]) [1, 3] rfl
    have hKc := hK.sub (tys' := []) [] rfl
    have hDc := hD.sub (ws' := [(ys, .inr (3, [.int 0, .ref (ta 4), .int 0])), (q_16, .inr (10, [.int p0, .int p1, .int p2]))]) [1, 3] (by decide) rfl
    have hFc := va_free (wc := [(ys, .inr (3, [.int 0, .ref (ta 4), .int 0])), (q_16, .inr (10, [.int p0, .int p1, .int p2]))]) hD hS hA [1, 3] rfl
    refine va_calli (va_runV (As := [.ref q_16]) (rest := []) ⟨hx, hb, hml, hown, hts⟩ (c_Jx4a65c_add_9ea2d_6 l dC dI ys q_16 sa ta H.size p0 p1 p2) (cwV 1 hts gX7_source_Jx4a65c_add_9ea2d rfl rfl rfl (by decide +kernel) ⟨Nat.le_of_ble_eq_true rfl, Nat.le_of_ble_eq_true rfl⟩) ⟨ax_fbW, va_recv hK hP (ci := 3) (q0 := 1) rfl rfl, ax_prW hPc hKc hDc hS hFc hE⟩ rfl rfl hl.1 rfl (lv_room (Nat.le_of_ble_eq_true rfl)) dX7_source_63 ⟨Nat.le_of_ble_eq_true rfl, Nat.le_of_ble_eq_true rfl⟩) hS (fun q _ h9 => hFc q h9) hFc (fun r_23 u_25  t H locs ht hvm hw_24 hB hz1 hk1 hS => ?_)
    obtain ⟨qn_26, rfl⟩ : ∃ z, z = u_25 := ⟨_, rfl⟩
    obtain ⟨hP1, hK1, hD1⟩ := hB
    rw [ht] at hP1
    have hK1 := va_K.moved hvm.symm hK1
    obtain ⟨hP, hD⟩ := va_join (wr := [(y, .inr (11, [.int 0, .ref ys, .ref yp, .int 0])), (yp, .inr (3, [.int 0, .ref (ta 4), .int 0]))]) (w1 := [(ys, .inr (3, [.int 1, .ref qn_26, .int 1])), (q_16, .inr (10, [.int p0, .int p1, .int p2]))]) hP hD [1, 3] [0, 2] rfl rfl (by decide) (by decide) hk1 hFc hP1 hD1
    have hP : va_P (dC, dI) vwCl [(y, .inr (11, [.int 0, .ref ys, .ref yp, .int 0])), (yp, .inr (3, [.int 0, .ref (ta 4), .int 0])), (ys, .inr (3, [.int 1, .ref qn_26, .int 1])), (q_16, .inr (10, [.int p0, .int p1, .int p2]))] H := hP
    have hD : va_D A [(y, .inr (11, [.int 0, .ref ys, .ref yp, .int 0])), (yp, .inr (3, [.int 0, .ref (ta 4), .int 0])), (ys, .inr (3, [.int 1, .ref qn_26, .int 1])), (q_16, .inr (10, [.int p0, .int p1, .int p2]))] := hD
    refine lv_pop hx hb dX7_source_66 rfl ?_
    refine lv_aload_n hx hb dX7_source_67 rfl (lv_at hl 1 rfl) ?_
    refine va_get (D := (dC, dI)) (ci := 11) (v := .ref ys) (C := RX7) (T := TX7) (N := 4) hx hb hts (by decide +kernel) hown hK hP 0 rfl rfl 1 (by decide) (hts (.fieldLink RX7 10 "DiffractoryModel" "sources" "Ljava/util/ArrayList;") (by decide +kernel)) (fun _ h9 => h9) rfl dX7_source_68 ?_
    have hPc := hP.sub (ws' := [(ys, .inr (3, [.int 1, .ref qn_26, .int 1]))]) [2] rfl
    have hKc := hK.sub (tys' := []) [] rfl
    refine va_calli (va_runV (As := []) (rest := []) ⟨hx, hb, hml, hown, hts⟩ (c_Jx4a65c_size_8abf5 l dC dI ys qn_26 sa ta 1 1) (cwV 0 hts gX7_source_Jx4a65c_size_8abf5 rfl rfl rfl (by decide +kernel) ⟨Nat.le_of_ble_eq_true rfl, Nat.le_of_ble_eq_true rfl⟩) ⟨ax_fbR, va_recv hK hP (ci := 3) (q0 := 2) rfl rfl, ax_prR hPc hKc hS hE⟩ rfl rfl hl.1 rfl (lv_room (Nat.le_of_ble_eq_true rfl)) dX7_source_71 ⟨Nat.le_of_ble_eq_true rfl, Nat.le_of_ble_eq_true rfl⟩) hS (fun _ _ h9 => h9.elim) (fun _ h9 => h9.elim) (fun r_27 u_29  t H locs ht hvm hw_28 hB hz1 hk1 hS => ?_)
    have hP := ax_keep hP (fun _ h9 => h9) hk1
    refine ax_i (y := 1) hw_28 ?_
    refine lv_iconst (v := 1) hx hb dX7_source_74 (by decide) ?_
    refine lv_isub hx hb dX7_source_75 ?_
    refine ax_i (y := 0) (by decide) ?_
    refine W.widen (k := 2) (n := 13) (Nat.le_of_ble_eq_true rfl) (Nat.le_of_ble_eq_true rfl) ?_
    have hP9 := hP.sub (ws' := [(y, .inr (11, [.int 0, .ref ys, .ref yp, .int 0]))]) [0] rfl
    have hD9 := hD.sub (ws' := [(y, .inr (11, [.int 0, .ref ys, .ref yp, .int 0]))]) [0] (by decide) rfl
    have hK9 := hK.sub (tys' := []) [] rfl
    exact W.iret (v := 0) hx hb hr (fun t ht hW => ⟨⟨0, 0, rfl, Or.inl ⟨by omega, rfl, rfl⟩, by rw [ht]; exact hP9, va_K.moved hW.alike hK9, hD9⟩, hS.F ht⟩) hS.2.2 dX7_source_76

set_option maxHeartbeats 4000000 in
set_option maxRecDepth 100000 in
theorem c_X7_part (l : Launch) (dC : Nat → ClassId) (dI : Nat → Nat → Nat) (y ys yp : Nat) (sa ta : Nat → Nat) (sz : Nat) (th : Int32) (p0 : Int32) (p1 : Int32) : Met l yX7_part wsX7_part ({ frames := 40, cells := 3, slots := 24, locals := 1000 }) (va_Pc [.ref y, .int p0, .int p1] (ax_W (dC, dI) vwCl [(y, .inr (11, [.int th, .ref ys, .ref yp, .int 0])), (ys, .inr (3, [.int 0, .ref (ta 4), .int 0])), (yp, .inr (3, [.int 0, .ref (ta 4), .int 0]))] [] sa ta sz)) (va_Qi (fun (r : Int32) (u : Int32) => (((0 ≤ p0.toInt ∧ p0.toInt ≤ 10) ∧ (ax_lo p0).toInt ≤ p1.toInt ∧ p1.toInt ≤ (ax_hi p0).toInt) ∧ u = 0 ∧ r = 0) ∨ (¬ (((0 ≤ p0.toInt ∧ p0.toInt ≤ 10) ∧ (ax_lo p0).toInt ≤ p1.toInt ∧ p1.toInt ≤ (ax_hi p0).toInt)) ∧ u = 1)) (fun (u : Int32) (t : State) => va_P (dC, dI) vwCl [(y, .inr (11, [.int u, .ref ys, .ref yp, .int 0]))] t.heap ∧ va_K (dC, dI) vwCl [] t ∧ va_D (va_A [(y, .inr (11, [.int th, .ref ys, .ref yp, .int 0])), (ys, .inr (3, [.int 0, .ref (ta 4), .int 0])), (yp, .inr (3, [.int 0, .ref (ta 4), .int 0]))] sz) [(y, .inr (11, [.int u, .ref ys, .ref yp, .int 0]))]) (va_A [(y, .inr (11, [.int th, .ref ys, .ref yp, .int 0])), (ys, .inr (3, [.int 0, .ref (ta 4), .int 0])), (yp, .inr (3, [.int 0, .ref (ta 4), .int 0]))] sz)) 3 24 (va_A [(y, .inr (11, [.int th, .ref ys, .ref yp, .int 0])), (ys, .inr (3, [.int 0, .ref (ta 4), .int 0])), (yp, .inr (3, [.int 0, .ref (ta 4), .int 0]))] sz) := by
  refine Met.ofW (cc := cX7_part) (maxL := 3) (ret := (some .int)) (by decide) rfl ?_
  intro p e s m args below meth c s₁ B hml hv
  obtain ⟨rfl, hsz, hP, hK, hD0, hE⟩ := hv
  have hx := B.exec
  have hb := B.bytes
  have hr := B.returns
  have hts := atoms_spec (ws := wsX7_part) B.pre
  have hown : s.vm.findClass RX7 = some m.cls := findClass_of_methodNamed B.named
  have hlocks := B.notSynchronized
  subst hsz
  have hD := hD0.self (sz := s.heap.size)
  generalize hAe : va_A [(y, .inr (11, [.int th, .ref ys, .ref yp, .int 0])), (ys, .inr (3, [.int 0, .ref (ta 4), .int 0])), (yp, .inr (3, [.int 0, .ref (ta 4), .int 0]))] s.heap.size = A at hD hE ⊢
  have hA : ∀ q : Nat, s.heap.size ≤ q → A q := fun q h => by rw [← hAe]; exact Or.inr h
  have hS : va_S A s.heap s.heap [] := va_S.rf
  have hl := lv_entry ([.ref y, .int p0, .int p1]) (n := 3) (Nat.le_of_ble_eq_true rfl)
  rw [lg_entry_eq]
  generalize (lg_sl ([.ref y, .int p0, .int p1]) ++ List.replicate (3 - (lg_sl ([.ref y, .int p0, .int p1])).length) Slot.unset).toArray = ls at hl ⊢
  have hl : lv_has ls 3 [(0, .ref y), (1, .int p0), (2, .int p1)] := hl
  have hP : va_P (dC, dI) vwCl [(y, .inr (11, [.int th, .ref ys, .ref yp, .int 0])), (ys, .inr (3, [.int 0, .ref (ta 4), .int 0])), (yp, .inr (3, [.int 0, .ref (ta 4), .int 0]))] s.heap := hP
  refine lv_aload_n hx hb dX7_part_0 rfl (lv_at hl 0 rfl) ?_
  refine lv_iload_n hx hb dX7_part_1 rfl (lv_at hl 1 rfl) ?_
  refine lv_iconst (v := 0) hx hb dX7_part_2 (by decide) ?_
  refine lv_bipush (v := 10) hx hb dX7_part_3 (by decide) ?_
  refine va_calli (va_runS (As := [.int p0, .int 0, .int 10]) (rest := [.ref y]) ⟨hx, hb, hml, hown, hts⟩ (c_X7_isIn l p0 0 10) (va_cwS 3 hts gX7_part_X7_isIn rfl rfl rfl (by decide +kernel) ⟨Nat.le_of_ble_eq_true rfl, Nat.le_of_ble_eq_true rfl⟩) ⟨ax_fbP, ax_prP⟩ rfl rfl hl.1 rfl (lv_room (Nat.le_of_ble_eq_true rfl)) dX7_part_5 ⟨Nat.le_of_ble_eq_true rfl, Nat.le_of_ble_eq_true rfl⟩) hS (fun _ _ h9 => h9.elim) (fun _ h9 => h9.elim) (fun r_1 u_3  t H locs ht hvm hw_2 hB hz1 hk1 hS => ?_)
  have hP := ax_keep hP (fun _ h9 => h9) hk1
  rcases hw_2 with ⟨hr9, hw_2⟩ | ⟨hr9, hw_2⟩
  · have hw_2 : 0 ≤ p0.toInt ∧ p0.toInt ≤ 10 := hw_2
    refine ax_i hr9 ?_
    refine lv_if_eq (tgt := 19) hx hb dX7_part_8 (by decide) (fun h9 => absurd h9 (by decide)) (fun _ => ?_)
    refine lv_iload_n hx hb dX7_part_11 rfl (lv_at hl 1 rfl) ?_
    refine lv_iload_n hx hb dX7_part_12 rfl (lv_at hl 2 rfl) ?_
    have hPc := hP.sub (ws' := []) [] rfl
    have hKc := hK.sub (tys' := []) [] rfl
    refine va_calli (va_runS (As := [.int p0, .int p1]) (rest := [.ref y]) ⟨hx, hb, hml, hown, hts⟩ (c_X7_isNoNumber l dC dI sa ta p0 p1 (by omega)) (va_cwS 2 hts gX7_part_X7_isNoNumber rfl rfl rfl (by decide +kernel) ⟨Nat.le_of_ble_eq_true rfl, Nat.le_of_ble_eq_true rfl⟩) ⟨ax_fbR, ax_prR hPc hKc hS hE⟩ rfl rfl hl.1 rfl (lv_room (Nat.le_of_ble_eq_true rfl)) dX7_part_13 ⟨Nat.le_of_ble_eq_true rfl, Nat.le_of_ble_eq_true rfl⟩) hS (fun _ _ h9 => h9.elim) (fun _ h9 => h9.elim) (fun r_4 u_6  t H locs ht hvm hw_5 hB hz1 hk1 hS => ?_)
    have hP := ax_keep hP (fun _ h9 => h9) hk1
    rcases hw_5 with ⟨hr9, hw_5⟩ | ⟨hr9, hw_5⟩
    · refine ax_i hr9 ?_
      refine lv_if_eq (tgt := 23) hx hb dX7_part_16 (by decide) (fun h9 => absurd h9 (by decide)) (fun _ => ?_)
      refine lv_iconst (v := 1) hx hb dX7_part_19 (by decide) ?_
      refine lv_goto (tgt := 24) hx hb dX7_part_20 (by decide) ?_
      refine lv_iconst (v := 1) hx hb dX7_part_24 (by decide) ?_
      have hPc := hP.sub (ws' := [(y, .inr (11, [.int th, .ref ys, .ref yp, .int 0])), (ys, .inr (3, [.int 0, .ref (ta 4), .int 0])), (yp, .inr (3, [.int 0, .ref (ta 4), .int 0]))]) [0, 1, 2] rfl
      have hKc := hK.sub (tys' := []) [] rfl
      have hDc := hD.sub (ws' := [(y, .inr (11, [.int th, .ref ys, .ref yp, .int 0])), (ys, .inr (3, [.int 0, .ref (ta 4), .int 0])), (yp, .inr (3, [.int 0, .ref (ta 4), .int 0]))]) [0, 1, 2] (by decide) rfl
      have hFc := va_free (wc := [(y, .inr (11, [.int th, .ref ys, .ref yp, .int 0])), (ys, .inr (3, [.int 0, .ref (ta 4), .int 0])), (yp, .inr (3, [.int 0, .ref (ta 4), .int 0]))]) hD hS hA [0, 1, 2] rfl
      refine va_calli (va_runV (As := [.int 1, .int 1]) (rest := []) ⟨hx, hb, hml, hown, hts⟩ (c_X7_start_1 l dC dI y ys yp sa ta H.size th) (cwV 2 hts gX7_part_X7_start rfl rfl rfl (by decide +kernel) ⟨Nat.le_of_ble_eq_true rfl, Nat.le_of_ble_eq_true rfl⟩) ⟨ax_fbW, va_recv hK hP (ci := 11) (q0 := 0) rfl rfl, ax_prW hPc hKc hDc hS hFc hE⟩ rfl rfl hl.1 rfl (lv_room (Nat.le_of_ble_eq_true rfl)) dX7_part_25 ⟨Nat.le_of_ble_eq_true rfl, Nat.le_of_ble_eq_true rfl⟩) hS (fun q _ h9 => hFc q h9) hFc (fun r_7 u_9  t H locs ht hvm hw_8 hB hz1 hk1 hS => ?_)
      obtain ⟨hP1, hK1, hD1⟩ := hB
      rw [ht] at hP1
      have hK1 := va_K.moved hvm.symm hK1
      obtain ⟨hP, hD⟩ := va_join (wr := []) (w1 := [(y, .inr (11, [.int 1, .ref ys, .ref yp, .int 0])), (ys, .inr (3, [.int 0, .ref (ta 4), .int 0])), (yp, .inr (3, [.int 0, .ref (ta 4), .int 0]))]) hP hD [0, 1, 2] [] rfl rfl (by decide) (by decide) hk1 hFc hP1 hD1
      have hP : va_P (dC, dI) vwCl [(y, .inr (11, [.int 1, .ref ys, .ref yp, .int 0])), (ys, .inr (3, [.int 0, .ref (ta 4), .int 0])), (yp, .inr (3, [.int 0, .ref (ta 4), .int 0]))] H := hP
      have hD : va_D A [(y, .inr (11, [.int 1, .ref ys, .ref yp, .int 0])), (ys, .inr (3, [.int 0, .ref (ta 4), .int 0])), (yp, .inr (3, [.int 0, .ref (ta 4), .int 0]))] := hD
      refine ax_i (y := 1) hw_8 ?_
      refine lv_if_ne (tgt := 56) hx hb dX7_part_28 (by decide) (fun _ => ?_) (fun h9 => absurd h9 (by decide))
      refine lv_iconst (v := 0) hx hb dX7_part_56 (by decide) ?_
      refine W.widen (k := 3) (n := 24) (Nat.le_of_ble_eq_true rfl) (Nat.le_of_ble_eq_true rfl) ?_
      have hP9 := hP.sub (ws' := [(y, .inr (11, [.int 1, .ref ys, .ref yp, .int 0]))]) [0] rfl
      have hD9 := hD.sub (ws' := [(y, .inr (11, [.int 1, .ref ys, .ref yp, .int 0]))]) [0] (by decide) rfl
      have hK9 := hK.sub (tys' := []) [] rfl
      exact W.iret (v := 0) hx hb hr (fun t ht hW => ⟨⟨0, 1, rfl, Or.inr ⟨by omega, rfl⟩, by rw [ht]; exact hP9, va_K.moved hW.alike hK9, hD9⟩, hS.F ht⟩) hS.2.2 dX7_part_57
    · refine ax_i hr9 ?_
      refine lv_if_eq (tgt := 23) hx hb dX7_part_16 (by decide) (fun _ => ?_) (fun h9 => absurd (by decide) h9)
      refine lv_iconst (v := 0) hx hb dX7_part_23 (by decide) ?_
      refine lv_iconst (v := 1) hx hb dX7_part_24 (by decide) ?_
      have hPc := hP.sub (ws' := [(y, .inr (11, [.int th, .ref ys, .ref yp, .int 0])), (ys, .inr (3, [.int 0, .ref (ta 4), .int 0])), (yp, .inr (3, [.int 0, .ref (ta 4), .int 0]))]) [0, 1, 2] rfl
      have hKc := hK.sub (tys' := []) [] rfl
      have hDc := hD.sub (ws' := [(y, .inr (11, [.int th, .ref ys, .ref yp, .int 0])), (ys, .inr (3, [.int 0, .ref (ta 4), .int 0])), (yp, .inr (3, [.int 0, .ref (ta 4), .int 0]))]) [0, 1, 2] (by decide) rfl
      have hFc := va_free (wc := [(y, .inr (11, [.int th, .ref ys, .ref yp, .int 0])), (ys, .inr (3, [.int 0, .ref (ta 4), .int 0])), (yp, .inr (3, [.int 0, .ref (ta 4), .int 0]))]) hD hS hA [0, 1, 2] rfl
      refine va_calli (va_runV (As := [.int 0, .int 1]) (rest := []) ⟨hx, hb, hml, hown, hts⟩ (c_X7_start_0 l dC dI y ys yp sa ta H.size th) (cwV 2 hts gX7_part_X7_start rfl rfl rfl (by decide +kernel) ⟨Nat.le_of_ble_eq_true rfl, Nat.le_of_ble_eq_true rfl⟩) ⟨ax_fbW, va_recv hK hP (ci := 11) (q0 := 0) rfl rfl, ax_prW hPc hKc hDc hS hFc hE⟩ rfl rfl hl.1 rfl (lv_room (Nat.le_of_ble_eq_true rfl)) dX7_part_25 ⟨Nat.le_of_ble_eq_true rfl, Nat.le_of_ble_eq_true rfl⟩) hS (fun q _ h9 => hFc q h9) hFc (fun r_10 u_12  t H locs ht hvm hw_11 hB hz1 hk1 hS => ?_)
      obtain ⟨hP1, hK1, hD1⟩ := hB
      rw [ht] at hP1
      have hK1 := va_K.moved hvm.symm hK1
      obtain ⟨hP, hD⟩ := va_join (wr := []) (w1 := [(y, .inr (11, [.int 0, .ref ys, .ref yp, .int 0])), (ys, .inr (3, [.int 0, .ref (ta 4), .int 0])), (yp, .inr (3, [.int 0, .ref (ta 4), .int 0]))]) hP hD [0, 1, 2] [] rfl rfl (by decide) (by decide) hk1 hFc hP1 hD1
      have hP : va_P (dC, dI) vwCl [(y, .inr (11, [.int 0, .ref ys, .ref yp, .int 0])), (ys, .inr (3, [.int 0, .ref (ta 4), .int 0])), (yp, .inr (3, [.int 0, .ref (ta 4), .int 0]))] H := hP
      have hD : va_D A [(y, .inr (11, [.int 0, .ref ys, .ref yp, .int 0])), (ys, .inr (3, [.int 0, .ref (ta 4), .int 0])), (yp, .inr (3, [.int 0, .ref (ta 4), .int 0]))] := hD
      refine ax_i (y := 0) hw_11 ?_
      refine lv_if_ne (tgt := 56) hx hb dX7_part_28 (by decide) (fun h9 => absurd rfl h9) (fun _ => ?_)
      refine lv_aload_n hx hb dX7_part_31 rfl (lv_at hl 0 rfl) ?_
      refine lv_aload_n hx hb dX7_part_32 rfl (lv_at hl 0 rfl) ?_
      refine va_get (D := (dC, dI)) (ci := 11) (v := .ref yp) (C := RX7) (T := TX7) (N := 4) hx hb hts (by decide +kernel) hown hK hP 0 rfl rfl 2 (by decide) (hts (.fieldLink RX7 16 "DiffractoryModel" "parts" "Ljava/util/ArrayList;") (by decide +kernel)) (fun _ h9 => h9) rfl dX7_part_33 ?_
      have hPc := hP.sub (ws' := [(yp, .inr (3, [.int 0, .ref (ta 4), .int 0]))]) [2] rfl
      have hKc := hK.sub (tys' := []) [] rfl
      refine va_calli (va_runV (As := []) (rest := [.ref y]) ⟨hx, hb, hml, hown, hts⟩ (c_Jx4a65c_size_8abf5 l dC dI yp (ta 4) sa ta 0 0) (cwV 0 hts gX7_part_Jx4a65c_size_8abf5 rfl rfl rfl (by decide +kernel) ⟨Nat.le_of_ble_eq_true rfl, Nat.le_of_ble_eq_true rfl⟩) ⟨ax_fbR, va_recv hK hP (ci := 3) (q0 := 2) rfl rfl, ax_prR hPc hKc hS hE⟩ rfl rfl hl.1 rfl (lv_room (Nat.le_of_ble_eq_true rfl)) dX7_part_36 ⟨Nat.le_of_ble_eq_true rfl, Nat.le_of_ble_eq_true rfl⟩) hS (fun _ _ h9 => h9.elim) (fun _ h9 => h9.elim) (fun r_13 u_15  t H locs ht hvm hw_14 hB hz1 hk1 hS => ?_)
      have hP := ax_keep hP (fun _ h9 => h9) hk1
      refine ax_i (y := 0) hw_14 ?_
      refine lv_bipush (v := 8) hx hb dX7_part_39 (by decide) ?_
      refine lv_icmp_ne (tgt := 48) hx hb dX7_part_41 (by decide) (fun _ => ?_) (fun h9 => absurd h9 (by decide))
      refine lv_iconst (v := 0) hx hb dX7_part_48 (by decide) ?_
      refine lv_iconst (v := 2) hx hb dX7_part_49 (by decide) ?_
      have hPc := hP.sub (ws' := [(y, .inr (11, [.int 0, .ref ys, .ref yp, .int 0])), (ys, .inr (3, [.int 0, .ref (ta 4), .int 0])), (yp, .inr (3, [.int 0, .ref (ta 4), .int 0]))]) [0, 1, 2] rfl
      have hKc := hK.sub (tys' := []) [] rfl
      have hDc := hD.sub (ws' := [(y, .inr (11, [.int 0, .ref ys, .ref yp, .int 0])), (ys, .inr (3, [.int 0, .ref (ta 4), .int 0])), (yp, .inr (3, [.int 0, .ref (ta 4), .int 0]))]) [0, 1, 2] (by decide) rfl
      have hFc := va_free (wc := [(y, .inr (11, [.int 0, .ref ys, .ref yp, .int 0])), (ys, .inr (3, [.int 0, .ref (ta 4), .int 0])), (yp, .inr (3, [.int 0, .ref (ta 4), .int 0]))]) hD hS hA [0, 1, 2] rfl
      refine va_calli (va_runV (As := [.int 0, .int 2]) (rest := []) ⟨hx, hb, hml, hown, hts⟩ (c_X7_refuse_02 l dC dI y ys yp sa ta H.size) (cwV 2 hts gX7_part_X7_refuse rfl rfl rfl (by decide +kernel) ⟨Nat.le_of_ble_eq_true rfl, Nat.le_of_ble_eq_true rfl⟩) ⟨ax_fbW, va_recv hK hP (ci := 11) (q0 := 0) rfl rfl, ax_prW hPc hKc hDc hS hFc hE⟩ rfl rfl hl.1 rfl (lv_room (Nat.le_of_ble_eq_true rfl)) dX7_part_50 ⟨Nat.le_of_ble_eq_true rfl, Nat.le_of_ble_eq_true rfl⟩) hS (fun q _ h9 => hFc q h9) hFc (fun r_16 u_18  t H locs ht hvm hw_17 hB hz1 hk1 hS => ?_)
      obtain ⟨hP1, hK1, hD1⟩ := hB
      rw [ht] at hP1
      have hK1 := va_K.moved hvm.symm hK1
      obtain ⟨hP, hD⟩ := va_join (wr := []) (w1 := [(y, .inr (11, [.int 0, .ref ys, .ref yp, .int 0])), (ys, .inr (3, [.int 0, .ref (ta 4), .int 0])), (yp, .inr (3, [.int 0, .ref (ta 4), .int 0]))]) hP hD [0, 1, 2] [] rfl rfl (by decide) (by decide) hk1 hFc hP1 hD1
      have hP : va_P (dC, dI) vwCl [(y, .inr (11, [.int 0, .ref ys, .ref yp, .int 0])), (ys, .inr (3, [.int 0, .ref (ta 4), .int 0])), (yp, .inr (3, [.int 0, .ref (ta 4), .int 0]))] H := hP
      have hD : va_D A [(y, .inr (11, [.int 0, .ref ys, .ref yp, .int 0])), (ys, .inr (3, [.int 0, .ref (ta 4), .int 0])), (yp, .inr (3, [.int 0, .ref (ta 4), .int 0]))] := hD
      refine ax_i (y := 0) hw_17 ?_
      refine lv_if_eq (tgt := 58) hx hb dX7_part_53 (by decide) (fun _ => ?_) (fun h9 => absurd (by decide) h9)
      refine lv_aload_n hx hb dX7_part_58 rfl (lv_at hl 0 rfl) ?_
      refine va_get (D := (dC, dI)) (ci := 11) (v := .ref yp) (C := RX7) (T := TX7) (N := 4) hx hb hts (by decide +kernel) hown hK hP 0 rfl rfl 2 (by decide) (hts (.fieldLink RX7 16 "DiffractoryModel" "parts" "Ljava/util/ArrayList;") (by decide +kernel)) (fun _ h9 => h9) rfl dX7_part_59 ?_
      refine va_new (ci := 9) (fs := [.int 0, .int 0, .int 0, .int 0, .int 0, .null]) (C := RX5) (T := TX5) (N := 6) hx hb hts (by decide +kernel) tyX5 tyX5_ok hown (hts (.classLink RX7 70 RX5) (by decide +kernel)) (hts (.instantiable RX5 6) (by decide +kernel)) (hts (.initialized RX5) (by decide +kernel)) hK hP hD hS hA rfl (fun j hj => by rcases (show j = 0 ∨ j = 1 ∨ j = 2 ∨ j = 3 ∨ j = 4 ∨ j = 5 by omega) with rfl | rfl | rfl | rfl | rfl | rfl <;> rfl) (Nat.le_of_ble_eq_true rfl) (Nat.le_of_ble_eq_true rfl) dX7_part_62 (fun q_19 H hP hD hS => ?_)
      have hP : va_P (dC, dI) vwCl [(y, .inr (11, [.int 0, .ref ys, .ref yp, .int 0])), (ys, .inr (3, [.int 0, .ref (ta 4), .int 0])), (yp, .inr (3, [.int 0, .ref (ta 4), .int 0])), (q_19, .inr (9, [.int 0, .int 0, .int 0, .int 0, .int 0, .null]))] H := hP
      have hD : va_D A [(y, .inr (11, [.int 0, .ref ys, .ref yp, .int 0])), (ys, .inr (3, [.int 0, .ref (ta 4), .int 0])), (yp, .inr (3, [.int 0, .ref (ta 4), .int 0])), (q_19, .inr (9, [.int 0, .int 0, .int 0, .int 0, .int 0, .null]))] := hD
      refine lv_dup hx hb dX7_part_65 rfl ?_
      refine lv_iload_n hx hb dX7_part_66 rfl (lv_at hl 1 rfl) ?_
      refine lv_iload_n hx hb dX7_part_67 rfl (lv_at hl 2 rfl) ?_
      have hPc := hP.sub (ws' := [(q_19, .inr (9, [.int 0, .int 0, .int 0, .int 0, .int 0, .null]))]) [3] rfl
      have hKc := hK.sub (tys' := []) [] rfl
      have hDc := hD.sub (ws' := [(q_19, .inr (9, [.int 0, .int 0, .int 0, .int 0, .int 0, .null]))]) [3] (by decide) rfl
      have hFc := va_free (wc := [(q_19, .inr (9, [.int 0, .int 0, .int 0, .int 0, .int 0, .null]))]) hD hS hA [3] rfl
      refine va_callv (va_runI (As := [.int p0, .int p1]) (rest := [.ref q_19, .ref yp]) ⟨hx, hb, hml, hown, hts⟩ (c_X5_init l dC dI q_19 sa ta H.size p0 p1) (cwI 2 hts gX7_part_X5_init rfl rfl rfl (hts (.initialized RX5) (by decide +kernel)) (hts (.methodLink RX7 150 yX5_init) (by decide +kernel)) (hts (.instanceMethod yX5_init) (by decide +kernel)) rfl (by decide +kernel) ⟨Nat.le_of_ble_eq_true rfl, Nat.le_of_ble_eq_true rfl⟩) ⟨ax_fbW, ax_prW hPc hKc hDc hS hFc hE⟩ rfl rfl hl.1 rfl (lv_room (Nat.le_of_ble_eq_true rfl)) dX7_part_68 ⟨Nat.le_of_ble_eq_true rfl, Nat.le_of_ble_eq_true rfl⟩) hS (fun q _ h9 => hFc q h9) hFc (fun u_22  t H locs ht hvm hw_21 hB hz1 hk1 hS => ?_)
      obtain ⟨qa_23, ca_24⟩ := u_22
      obtain ⟨hP1, hK1, hD1⟩ := hB
      rw [ht] at hP1
      have hK1 := va_K.moved hvm.symm hK1
      obtain ⟨hP, hD⟩ := va_join (wr := [(y, .inr (11, [.int 0, .ref ys, .ref yp, .int 0])), (ys, .inr (3, [.int 0, .ref (ta 4), .int 0])), (yp, .inr (3, [.int 0, .ref (ta 4), .int 0]))]) (w1 := [(q_19, .inr (9, [.int p0, .int p1, .int 1, .int 0, .int 0, .ref qa_23])), (qa_23, .inl (ca_24, 8, .inl (fun _ => 0)))]) hP hD [3] [0, 1, 2] rfl rfl (by decide) (by decide) hk1 hFc hP1 hD1
      have hK := hK.app hK1
      have hK := hK.sub (tys' := [(ca_24, .int)]) [0] rfl
      have hP : va_P (dC, dI) vwCl [(y, .inr (11, [.int 0, .ref ys, .ref yp, .int 0])), (ys, .inr (3, [.int 0, .ref (ta 4), .int 0])), (yp, .inr (3, [.int 0, .ref (ta 4), .int 0])), (q_19, .inr (9, [.int p0, .int p1, .int 1, .int 0, .int 0, .ref qa_23])), (qa_23, .inl (ca_24, 8, .inl (fun _ => 0)))] H := hP
      have hD : va_D A [(y, .inr (11, [.int 0, .ref ys, .ref yp, .int 0])), (ys, .inr (3, [.int 0, .ref (ta 4), .int 0])), (yp, .inr (3, [.int 0, .ref (ta 4), .int 0])), (q_19, .inr (9, [.int p0, .int p1, .int 1, .int 0, .int 0, .ref qa_23])), (qa_23, .inl (ca_24, 8, .inl (fun _ => 0)))] := hD
      have hPc := hP.sub (ws' := [(yp, .inr (3, [.int 0, .ref (ta 4), .int 0])), (q_19, .inr (9, [.int p0, .int p1, .int 1, .int 0, .int 0, .ref qa_23]))]) [2, 3] rfl
      have hKc := hK.sub (tys' := []) [] rfl
      have hDc := hD.sub (ws' := [(yp, .inr (3, [.int 0, .ref (ta 4), .int 0])), (q_19, .inr (9, [.int p0, .int p1, .int 1, .int 0, .int 0, .ref qa_23]))]) [2, 3] (by decide) rfl
      have hFc := va_free (wc := [(yp, .inr (3, [.int 0, .ref (ta 4), .int 0])), (q_19, .inr (9, [.int p0, .int p1, .int 1, .int 0, .int 0, .ref qa_23]))]) hD hS hA [2, 3] rfl
      refine va_calli (va_runV (As := [.ref q_19]) (rest := []) ⟨hx, hb, hml, hown, hts⟩ (c_Jx4a65c_add_9ea2d_5 l dC dI yp q_19 qa_23 sa ta H.size p0 p1) (cwV 1 hts gX7_part_Jx4a65c_add_9ea2d rfl rfl rfl (by decide +kernel) ⟨Nat.le_of_ble_eq_true rfl, Nat.le_of_ble_eq_true rfl⟩) ⟨ax_fbW, va_recv hK hP (ci := 3) (q0 := 2) rfl rfl, ax_prW hPc hKc hDc hS hFc hE⟩ rfl rfl hl.1 rfl (lv_room (Nat.le_of_ble_eq_true rfl)) dX7_part_71 ⟨Nat.le_of_ble_eq_true rfl, Nat.le_of_ble_eq_true rfl⟩) hS (fun q _ h9 => hFc q h9) hFc (fun r_25 u_27  t H locs ht hvm hw_26 hB hz1 hk1 hS => ?_)
      obtain ⟨qn_28, rfl⟩ : ∃ z, z = u_27 := ⟨_, rfl⟩
      obtain ⟨hP1, hK1, hD1⟩ := hB
      rw [ht] at hP1
      have hK1 := va_K.moved hvm.symm hK1
      obtain ⟨hP, hD⟩ := va_join (wr := [(y, .inr (11, [.int 0, .ref ys, .ref yp, .int 0])), (ys, .inr (3, [.int 0, .ref (ta 4), .int 0])), (qa_23, .inl (ca_24, 8, .inl (fun _ => 0)))]) (w1 := [(yp, .inr (3, [.int 1, .ref qn_28, .int 1])), (q_19, .inr (9, [.int p0, .int p1, .int 1, .int 0, .int 0, .ref qa_23]))]) hP hD [2, 3] [0, 1, 4] rfl rfl (by decide) (by decide) hk1 hFc hP1 hD1
      have hP : va_P (dC, dI) vwCl [(y, .inr (11, [.int 0, .ref ys, .ref yp, .int 0])), (ys, .inr (3, [.int 0, .ref (ta 4), .int 0])), (qa_23, .inl (ca_24, 8, .inl (fun _ => 0))), (yp, .inr (3, [.int 1, .ref qn_28, .int 1])), (q_19, .inr (9, [.int p0, .int p1, .int 1, .int 0, .int 0, .ref qa_23]))] H := hP
      have hD : va_D A [(y, .inr (11, [.int 0, .ref ys, .ref yp, .int 0])), (ys, .inr (3, [.int 0, .ref (ta 4), .int 0])), (qa_23, .inl (ca_24, 8, .inl (fun _ => 0))), (yp, .inr (3, [.int 1, .ref qn_28, .int 1])), (q_19, .inr (9, [.int p0, .int p1, .int 1, .int 0, .int 0, .ref qa_23]))] := hD
      refine lv_pop hx hb dX7_part_74 rfl ?_
      refine lv_aload_n hx hb dX7_part_75 rfl (lv_at hl 0 rfl) ?_
      refine va_get (D := (dC, dI)) (ci := 11) (v := .ref yp) (C := RX7) (T := TX7) (N := 4) hx hb hts (by decide +kernel) hown hK hP 0 rfl rfl 2 (by decide) (hts (.fieldLink RX7 16 "DiffractoryModel" "parts" "Ljava/util/ArrayList;") (by decide +kernel)) (fun _ h9 => h9) rfl dX7_part_76 ?_
      have hPc := hP.sub (ws' := [(yp, .inr (3, [.int 1, .ref qn_28, .int 1]))]) [3] rfl
      have hKc := hK.sub (tys' := []) [] rfl
      refine va_calli (va_runV (As := []) (rest := []) ⟨hx, hb, hml, hown, hts⟩ (c_Jx4a65c_size_8abf5 l dC dI yp qn_28 sa ta 1 1) (cwV 0 hts gX7_part_Jx4a65c_size_8abf5 rfl rfl rfl (by decide +kernel) ⟨Nat.le_of_ble_eq_true rfl, Nat.le_of_ble_eq_true rfl⟩) ⟨ax_fbR, va_recv hK hP (ci := 3) (q0 := 3) rfl rfl, ax_prR hPc hKc hS hE⟩ rfl rfl hl.1 rfl (lv_room (Nat.le_of_ble_eq_true rfl)) dX7_part_79 ⟨Nat.le_of_ble_eq_true rfl, Nat.le_of_ble_eq_true rfl⟩) hS (fun _ _ h9 => h9.elim) (fun _ h9 => h9.elim) (fun r_29 u_31  t H locs ht hvm hw_30 hB hz1 hk1 hS => ?_)
      have hP := ax_keep hP (fun _ h9 => h9) hk1
      refine ax_i (y := 1) hw_30 ?_
      refine lv_iconst (v := 1) hx hb dX7_part_82 (by decide) ?_
      refine lv_isub hx hb dX7_part_83 ?_
      refine ax_i (y := 0) (by decide) ?_
      refine W.widen (k := 3) (n := 24) (Nat.le_of_ble_eq_true rfl) (Nat.le_of_ble_eq_true rfl) ?_
      have hP9 := hP.sub (ws' := [(y, .inr (11, [.int 0, .ref ys, .ref yp, .int 0]))]) [0] rfl
      have hD9 := hD.sub (ws' := [(y, .inr (11, [.int 0, .ref ys, .ref yp, .int 0]))]) [0] (by decide) rfl
      have hK9 := hK.sub (tys' := []) [] rfl
      exact W.iret (v := 0) hx hb hr (fun t ht hW => ⟨⟨0, 0, rfl, Or.inl ⟨by omega, rfl, rfl⟩, by rw [ht]; exact hP9, va_K.moved hW.alike hK9, hD9⟩, hS.F ht⟩) hS.2.2 dX7_part_84
  · have hw_2 : ¬ (0 ≤ p0.toInt ∧ p0.toInt ≤ 10) := hw_2
    refine ax_i hr9 ?_
    refine lv_if_eq (tgt := 19) hx hb dX7_part_8 (by decide) (fun _ => ?_) (fun h9 => absurd (by decide) h9)
    refine lv_iconst (v := 1) hx hb dX7_part_19 (by decide) ?_
    refine lv_goto (tgt := 24) hx hb dX7_part_20 (by decide) ?_
    refine lv_iconst (v := 1) hx hb dX7_part_24 (by decide) ?_
    have hPc := hP.sub (ws' := [(y, .inr (11, [.int th, .ref ys, .ref yp, .int 0])), (ys, .inr (3, [.int 0, .ref (ta 4), .int 0])), (yp, .inr (3, [.int 0, .ref (ta 4), .int 0]))]) [0, 1, 2] rfl
    have hKc := hK.sub (tys' := []) [] rfl
    have hDc := hD.sub (ws' := [(y, .inr (11, [.int th, .ref ys, .ref yp, .int 0])), (ys, .inr (3, [.int 0, .ref (ta 4), .int 0])), (yp, .inr (3, [.int 0, .ref (ta 4), .int 0]))]) [0, 1, 2] (by decide) rfl
    have hFc := va_free (wc := [(y, .inr (11, [.int th, .ref ys, .ref yp, .int 0])), (ys, .inr (3, [.int 0, .ref (ta 4), .int 0])), (yp, .inr (3, [.int 0, .ref (ta 4), .int 0]))]) hD hS hA [0, 1, 2] rfl
    refine va_calli (va_runV (As := [.int 1, .int 1]) (rest := []) ⟨hx, hb, hml, hown, hts⟩ (c_X7_start_1 l dC dI y ys yp sa ta H.size th) (cwV 2 hts gX7_part_X7_start rfl rfl rfl (by decide +kernel) ⟨Nat.le_of_ble_eq_true rfl, Nat.le_of_ble_eq_true rfl⟩) ⟨ax_fbW, va_recv hK hP (ci := 11) (q0 := 0) rfl rfl, ax_prW hPc hKc hDc hS hFc hE⟩ rfl rfl hl.1 rfl (lv_room (Nat.le_of_ble_eq_true rfl)) dX7_part_25 ⟨Nat.le_of_ble_eq_true rfl, Nat.le_of_ble_eq_true rfl⟩) hS (fun q _ h9 => hFc q h9) hFc (fun r_32 u_34  t H locs ht hvm hw_33 hB hz1 hk1 hS => ?_)
    obtain ⟨hP1, hK1, hD1⟩ := hB
    rw [ht] at hP1
    have hK1 := va_K.moved hvm.symm hK1
    obtain ⟨hP, hD⟩ := va_join (wr := []) (w1 := [(y, .inr (11, [.int 1, .ref ys, .ref yp, .int 0])), (ys, .inr (3, [.int 0, .ref (ta 4), .int 0])), (yp, .inr (3, [.int 0, .ref (ta 4), .int 0]))]) hP hD [0, 1, 2] [] rfl rfl (by decide) (by decide) hk1 hFc hP1 hD1
    have hP : va_P (dC, dI) vwCl [(y, .inr (11, [.int 1, .ref ys, .ref yp, .int 0])), (ys, .inr (3, [.int 0, .ref (ta 4), .int 0])), (yp, .inr (3, [.int 0, .ref (ta 4), .int 0]))] H := hP
    have hD : va_D A [(y, .inr (11, [.int 1, .ref ys, .ref yp, .int 0])), (ys, .inr (3, [.int 0, .ref (ta 4), .int 0])), (yp, .inr (3, [.int 0, .ref (ta 4), .int 0]))] := hD
    refine ax_i (y := 1) hw_33 ?_
    refine lv_if_ne (tgt := 56) hx hb dX7_part_28 (by decide) (fun _ => ?_) (fun h9 => absurd h9 (by decide))
    refine lv_iconst (v := 0) hx hb dX7_part_56 (by decide) ?_
    refine W.widen (k := 3) (n := 24) (Nat.le_of_ble_eq_true rfl) (Nat.le_of_ble_eq_true rfl) ?_
    have hP9 := hP.sub (ws' := [(y, .inr (11, [.int 1, .ref ys, .ref yp, .int 0]))]) [0] rfl
    have hD9 := hD.sub (ws' := [(y, .inr (11, [.int 1, .ref ys, .ref yp, .int 0]))]) [0] (by decide) rfl
    have hK9 := hK.sub (tys' := []) [] rfl
    exact W.iret (v := 0) hx hb hr (fun t ht hW => ⟨⟨0, 1, rfl, Or.inr ⟨by omega, rfl⟩, by rw [ht]; exact hP9, va_K.moved hW.alike hK9, hD9⟩, hS.F ht⟩) hS.2.2 dX7_part_57

set_option maxHeartbeats 4000000 in
set_option maxRecDepth 100000 in
theorem c_X7_manyNow (l : Launch) (dC : Nat → ClassId) (dI : Nat → Nat → Nat) (y ys yp : Nat) (sa ta : Nat → Nat) (th : Int32) (p0 : Int32) (hk : 0 ≤ p0.toInt ∧ p0.toInt ≤ 4) : Met l yX7_manyNow wsX7_manyNow ({ frames := 16, cells := 0, slots := 0, locals := 400 }) (va_Pc [.ref y, .int p0] (ax_R (dC, dI) vwCl [(y, .inr (11, [.int th, .ref ys, .ref yp, .int 0])), (ys, .inr (3, [.int 0, .ref (ta 4), .int 0])), (yp, .inr (3, [.int 0, .ref (ta 4), .int 0]))] [] sa ta)) (va_Qi (fun (r : Int32) (u : Unit) => r = if p0.toInt = 3 then -1 else 0) (fun _ _ => True) ax_no) 0 0 ax_no := by
  refine Met.ofW (cc := cX7_manyNow) (maxL := 5) (ret := (some .int)) (by decide) rfl ?_
  intro p e s m args below meth c s₁ B hml hv
  obtain ⟨rfl, hP, hK, hE⟩ := hv
  have hx := B.exec
  have hb := B.bytes
  have hr := B.returns
  have hts := atoms_spec (ws := wsX7_manyNow) B.pre
  have hown : s.vm.findClass RX7 = some m.cls := findClass_of_methodNamed B.named
  have hlocks := B.notSynchronized
  have hS : va_S ax_no s.heap s.heap [] := va_S.rf
  have hl := lv_entry ([.ref y, .int p0]) (n := 5) (Nat.le_of_ble_eq_true rfl)
  rw [lg_entry_eq]
  generalize (lg_sl ([.ref y, .int p0]) ++ List.replicate (5 - (lg_sl ([.ref y, .int p0])).length) Slot.unset).toArray = ls at hl ⊢
  have hl : lv_has ls 5 [(0, .ref y), (1, .int p0)] := hl
  have hP : va_P (dC, dI) vwCl [(y, .inr (11, [.int th, .ref ys, .ref yp, .int 0])), (ys, .inr (3, [.int 0, .ref (ta 4), .int 0])), (yp, .inr (3, [.int 0, .ref (ta 4), .int 0]))] s.heap := hP
  refine lv_iconst (v := 0) hx hb dX7_manyNow_0 (by decide) ?_
  refine lv_istore_n (lv' := [(2, .int 0), (0, .ref y), (1, .int p0)]) hx hb dX7_manyNow_1 rfl hl (by decide) rfl (fun ls hl => ?_)
  refine lv_iconst (v := (-1)) hx hb dX7_manyNow_2 (by decide) ?_
  refine lv_istore_n (lv' := [(3, .int (-1)), (2, .int 0), (0, .ref y), (1, .int p0)]) hx hb dX7_manyNow_3 rfl hl (by decide) rfl (fun ls hl => ?_)
  refine lv_aload_n hx hb dX7_manyNow_4 rfl (lv_at hl 2 rfl) ?_
  refine va_get (D := (dC, dI)) (ci := 11) (v := .ref yp) (C := RX7) (T := TX7) (N := 4) hx hb hts (by decide +kernel) hown hK hP 0 rfl rfl 2 (by decide) (hts (.fieldLink RX7 16 "DiffractoryModel" "parts" "Ljava/util/ArrayList;") (by decide +kernel)) (fun _ h9 => h9) rfl dX7_manyNow_5 ?_
  have hPc := hP.sub (ws' := [(yp, .inr (3, [.int 0, .ref (ta 4), .int 0]))]) [2] rfl
  have hKc := hK.sub (tys' := []) [] rfl
  refine va_calli (va_runV (As := []) (rest := []) ⟨hx, hb, hml, hown, hts⟩ (c_Jx4a65c_size_8abf5 l dC dI yp (ta 4) sa ta 0 0) (cwV 0 hts gX7_manyNow_Jx4a65c_size_8abf5 rfl rfl rfl (by decide +kernel) ⟨Nat.le_of_ble_eq_true rfl, Nat.le_of_ble_eq_true rfl⟩) ⟨ax_fbR, va_recv hK hP (ci := 3) (q0 := 2) rfl rfl, ax_prR hPc hKc hS hE⟩ rfl rfl hl.1 rfl (lv_room (Nat.le_of_ble_eq_true rfl)) dX7_manyNow_8 ⟨Nat.le_of_ble_eq_true rfl, Nat.le_of_ble_eq_true rfl⟩) hS (fun _ _ h9 => h9.elim) (fun _ h9 => h9.elim) (fun r_1 u_3  t H locs ht hvm hw_2 hB hz1 hk1 hS => ?_)
  have hP := ax_keep hP (fun _ h9 => h9) hk1
  refine ax_i (y := 0) hw_2 ?_
  refine lv_iconst (v := 1) hx hb dX7_manyNow_11 (by decide) ?_
  refine lv_isub hx hb dX7_manyNow_12 ?_
  refine ax_i (y := (-1)) (by decide) ?_
  refine lv_istore (lv' := [(4, .int (-1)), (3, .int (-1)), (2, .int 0), (0, .ref y), (1, .int p0)]) hx hb dX7_manyNow_13 hl (by decide) rfl (fun ls hl => ?_)
  refine lv_iload hx hb dX7_manyNow_15 (lv_at hl 0 rfl) ?_
  refine lv_if_lt (tgt := 75) hx hb dX7_manyNow_17 (by decide) (fun _ => ?_) (fun h9 => absurd (by decide) h9)
  refine lv_iload_n hx hb dX7_manyNow_75 rfl (lv_at hl 4 rfl) ?_
  refine lv_if_ne (tgt := 89) hx hb dX7_manyNow_76 (by decide) (fun c_4 => ?_) (fun c_4 => ?_)
  · have c_4 : ¬ p0.toInt = 0 := fun h9 => c_4 ((ax_eq _ _).mpr h9)
    refine lv_iload_n hx hb dX7_manyNow_89 rfl (lv_at hl 4 rfl) ?_
    refine lv_iconst (v := 1) hx hb dX7_manyNow_90 (by decide) ?_
    refine lv_icmp_ne (tgt := 104) hx hb dX7_manyNow_91 (by decide) (fun c_5 => ?_) (fun c_5 => ?_)
    · have c_5 : ¬ p0.toInt = 1 := fun h9 => c_5 ((ax_eq _ _).mpr h9)
      refine lv_iload_n hx hb dX7_manyNow_104 rfl (lv_at hl 4 rfl) ?_
      refine lv_iconst (v := 2) hx hb dX7_manyNow_105 (by decide) ?_
      refine lv_icmp_ne (tgt := 113) hx hb dX7_manyNow_106 (by decide) (fun c_6 => ?_) (fun c_6 => ?_)
      · have c_6 : ¬ p0.toInt = 2 := fun h9 => c_6 ((ax_eq _ _).mpr h9)
        refine lv_iload_n hx hb dX7_manyNow_113 rfl (lv_at hl 4 rfl) ?_
        refine lv_iconst (v := 3) hx hb dX7_manyNow_114 (by decide) ?_
        refine lv_icmp_ne (tgt := 122) hx hb dX7_manyNow_115 (by decide) (fun c_7 => ?_) (fun c_7 => ?_)
        · have c_7 : ¬ p0.toInt = 3 := fun h9 => c_7 ((ax_eq _ _).mpr h9)
          refine lv_aload_n hx hb dX7_manyNow_122 rfl (lv_at hl 3 rfl) ?_
          refine va_get (D := (dC, dI)) (ci := 11) (v := .int 0) (C := RX7) (T := TX7) (N := 4) hx hb hts (by decide +kernel) hown hK hP 0 rfl rfl 3 (by decide) (hts (.fieldLink RX7 166 "DiffractoryModel" "exposed" "I") (by decide +kernel)) (fun _ h9 => h9) rfl dX7_manyNow_123 ?_
          refine W.widen (k := 0) (n := 0) (Nat.le_of_ble_eq_true rfl) (Nat.le_of_ble_eq_true rfl) ?_
          exact W.iret (v := 0) hx hb hr (fun t ht hW => ⟨⟨0, (), rfl, (if_neg (by omega)).symm, trivial⟩, hS.F ht⟩) hS.2.2 dX7_manyNow_126
        · have c_7 : p0.toInt = 3 := (ax_eq _ _).mp c_7
          refine lv_iload_n hx hb dX7_manyNow_118 rfl (lv_at hl 1 rfl) ?_
          refine lv_goto (tgt := 126) hx hb dX7_manyNow_119 (by decide) ?_
          refine W.widen (k := 0) (n := 0) (Nat.le_of_ble_eq_true rfl) (Nat.le_of_ble_eq_true rfl) ?_
          exact W.iret (v := (-1)) hx hb hr (fun t ht hW => ⟨⟨(-1), (), rfl, (if_pos (by omega)).symm, trivial⟩, hS.F ht⟩) hS.2.2 dX7_manyNow_126
      · have c_6 : p0.toInt = 2 := (ax_eq _ _).mp c_6
        refine lv_iload_n hx hb dX7_manyNow_109 rfl (lv_at hl 2 rfl) ?_
        refine lv_goto (tgt := 126) hx hb dX7_manyNow_110 (by decide) ?_
        refine W.widen (k := 0) (n := 0) (Nat.le_of_ble_eq_true rfl) (Nat.le_of_ble_eq_true rfl) ?_
        exact W.iret (v := 0) hx hb hr (fun t ht hW => ⟨⟨0, (), rfl, (if_neg (by omega)).symm, trivial⟩, hS.F ht⟩) hS.2.2 dX7_manyNow_126
    · have c_5 : p0.toInt = 1 := (ax_eq _ _).mp c_5
      refine lv_aload_n hx hb dX7_manyNow_94 rfl (lv_at hl 3 rfl) ?_
      refine va_get (D := (dC, dI)) (ci := 11) (v := .ref yp) (C := RX7) (T := TX7) (N := 4) hx hb hts (by decide +kernel) hown hK hP 0 rfl rfl 2 (by decide) (hts (.fieldLink RX7 16 "DiffractoryModel" "parts" "Ljava/util/ArrayList;") (by decide +kernel)) (fun _ h9 => h9) rfl dX7_manyNow_95 ?_
      have hPc := hP.sub (ws' := [(yp, .inr (3, [.int 0, .ref (ta 4), .int 0]))]) [2] rfl
      have hKc := hK.sub (tys' := []) [] rfl
      refine va_calli (va_runV (As := []) (rest := []) ⟨hx, hb, hml, hown, hts⟩ (c_Jx4a65c_size_8abf5 l dC dI yp (ta 4) sa ta 0 0) (cwV 0 hts gX7_manyNow_Jx4a65c_size_8abf5 rfl rfl rfl (by decide +kernel) ⟨Nat.le_of_ble_eq_true rfl, Nat.le_of_ble_eq_true rfl⟩) ⟨ax_fbR, va_recv hK hP (ci := 3) (q0 := 2) rfl rfl, ax_prR hPc hKc hS hE⟩ rfl rfl hl.1 rfl (lv_room (Nat.le_of_ble_eq_true rfl)) dX7_manyNow_98 ⟨Nat.le_of_ble_eq_true rfl, Nat.le_of_ble_eq_true rfl⟩) hS (fun _ _ h9 => h9.elim) (fun _ h9 => h9.elim) (fun r_8 u_10  t H locs ht hvm hw_9 hB hz1 hk1 hS => ?_)
      have hP := ax_keep hP (fun _ h9 => h9) hk1
      refine ax_i (y := 0) hw_9 ?_
      refine lv_goto (tgt := 126) hx hb dX7_manyNow_101 (by decide) ?_
      refine W.widen (k := 0) (n := 0) (Nat.le_of_ble_eq_true rfl) (Nat.le_of_ble_eq_true rfl) ?_
      exact W.iret (v := 0) hx hb hr (fun t ht hW => ⟨⟨0, (), rfl, (if_neg (by omega)).symm, trivial⟩, hS.F ht⟩) hS.2.2 dX7_manyNow_126
  · have c_4 : p0.toInt = 0 := (ax_eq _ _).mp c_4
    refine lv_aload_n hx hb dX7_manyNow_79 rfl (lv_at hl 3 rfl) ?_
    refine va_get (D := (dC, dI)) (ci := 11) (v := .ref ys) (C := RX7) (T := TX7) (N := 4) hx hb hts (by decide +kernel) hown hK hP 0 rfl rfl 1 (by decide) (hts (.fieldLink RX7 10 "DiffractoryModel" "sources" "Ljava/util/ArrayList;") (by decide +kernel)) (fun _ h9 => h9) rfl dX7_manyNow_80 ?_
    have hPc := hP.sub (ws' := [(ys, .inr (3, [.int 0, .ref (ta 4), .int 0]))]) [1] rfl
    have hKc := hK.sub (tys' := []) [] rfl
    refine va_calli (va_runV (As := []) (rest := []) ⟨hx, hb, hml, hown, hts⟩ (c_Jx4a65c_size_8abf5 l dC dI ys (ta 4) sa ta 0 0) (cwV 0 hts gX7_manyNow_Jx4a65c_size_8abf5 rfl rfl rfl (by decide +kernel) ⟨Nat.le_of_ble_eq_true rfl, Nat.le_of_ble_eq_true rfl⟩) ⟨ax_fbR, va_recv hK hP (ci := 3) (q0 := 1) rfl rfl, ax_prR hPc hKc hS hE⟩ rfl rfl hl.1 rfl (lv_room (Nat.le_of_ble_eq_true rfl)) dX7_manyNow_83 ⟨Nat.le_of_ble_eq_true rfl, Nat.le_of_ble_eq_true rfl⟩) hS (fun _ _ h9 => h9.elim) (fun _ h9 => h9.elim) (fun r_11 u_13  t H locs ht hvm hw_12 hB hz1 hk1 hS => ?_)
    have hP := ax_keep hP (fun _ h9 => h9) hk1
    refine ax_i (y := 0) hw_12 ?_
    refine lv_goto (tgt := 126) hx hb dX7_manyNow_86 (by decide) ?_
    refine W.widen (k := 0) (n := 0) (Nat.le_of_ble_eq_true rfl) (Nat.le_of_ble_eq_true rfl) ?_
    exact W.iret (v := 0) hx hb hr (fun t ht hW => ⟨⟨0, (), rfl, (if_neg (by omega)).symm, trivial⟩, hS.F ht⟩) hS.2.2 dX7_manyNow_126

set_option maxHeartbeats 4000000 in
set_option maxRecDepth 100000 in
theorem c_X7_many (l : Launch) (dC : Nat → ClassId) (dI : Nat → Nat → Nat) (y ys yp : Nat) (sa ta : Nat → Nat) (sz : Nat) (th : Int32) (p0 : Int32) : Met l yX7_many wsX7_many ({ frames := 24, cells := 0, slots := 0, locals := 600 }) (va_Pc [.ref y, .int p0] (ax_W (dC, dI) vwCl [(y, .inr (11, [.int th, .ref ys, .ref yp, .int 0])), (ys, .inr (3, [.int 0, .ref (ta 4), .int 0])), (yp, .inr (3, [.int 0, .ref (ta 4), .int 0]))] [] sa ta sz)) (va_Qi (fun (r : Int32) (u : Int32) => ((0 ≤ p0.toInt ∧ p0.toInt ≤ 4) ∧ u = 0 ∧ r = if p0.toInt = 3 then -1 else 0) ∨ (¬ ((0 ≤ p0.toInt ∧ p0.toInt ≤ 4)) ∧ u = 1)) (fun (u : Int32) (t : State) => va_P (dC, dI) vwCl [(y, .inr (11, [.int u, .ref ys, .ref yp, .int 0]))] t.heap ∧ va_K (dC, dI) vwCl [] t ∧ va_D (va_A [(y, .inr (11, [.int th, .ref ys, .ref yp, .int 0])), (ys, .inr (3, [.int 0, .ref (ta 4), .int 0])), (yp, .inr (3, [.int 0, .ref (ta 4), .int 0]))] sz) [(y, .inr (11, [.int u, .ref ys, .ref yp, .int 0]))]) (va_A [(y, .inr (11, [.int th, .ref ys, .ref yp, .int 0])), (ys, .inr (3, [.int 0, .ref (ta 4), .int 0])), (yp, .inr (3, [.int 0, .ref (ta 4), .int 0]))] sz)) 0 0 (va_A [(y, .inr (11, [.int th, .ref ys, .ref yp, .int 0])), (ys, .inr (3, [.int 0, .ref (ta 4), .int 0])), (yp, .inr (3, [.int 0, .ref (ta 4), .int 0]))] sz) := by
  refine Met.ofW (cc := cX7_many) (maxL := 2) (ret := (some .int)) (by decide) rfl ?_
  intro p e s m args below meth c s₁ B hml hv
  obtain ⟨rfl, hsz, hP, hK, hD0, hE⟩ := hv
  have hx := B.exec
  have hb := B.bytes
  have hr := B.returns
  have hts := atoms_spec (ws := wsX7_many) B.pre
  have hown : s.vm.findClass RX7 = some m.cls := findClass_of_methodNamed B.named
  have hlocks := B.notSynchronized
  subst hsz
  have hD := hD0.self (sz := s.heap.size)
  generalize hAe : va_A [(y, .inr (11, [.int th, .ref ys, .ref yp, .int 0])), (ys, .inr (3, [.int 0, .ref (ta 4), .int 0])), (yp, .inr (3, [.int 0, .ref (ta 4), .int 0]))] s.heap.size = A at hD hE ⊢
  have hA : ∀ q : Nat, s.heap.size ≤ q → A q := fun q h => by rw [← hAe]; exact Or.inr h
  have hS : va_S A s.heap s.heap [] := va_S.rf
  have hl := lv_entry ([.ref y, .int p0]) (n := 2) (Nat.le_of_ble_eq_true rfl)
  rw [lg_entry_eq]
  generalize (lg_sl ([.ref y, .int p0]) ++ List.replicate (2 - (lg_sl ([.ref y, .int p0])).length) Slot.unset).toArray = ls at hl ⊢
  have hl : lv_has ls 2 [(0, .ref y), (1, .int p0)] := hl
  have hP : va_P (dC, dI) vwCl [(y, .inr (11, [.int th, .ref ys, .ref yp, .int 0])), (ys, .inr (3, [.int 0, .ref (ta 4), .int 0])), (yp, .inr (3, [.int 0, .ref (ta 4), .int 0]))] s.heap := hP
  refine lv_aload_n hx hb dX7_many_0 rfl (lv_at hl 0 rfl) ?_
  refine lv_iload_n hx hb dX7_many_1 rfl (lv_at hl 1 rfl) ?_
  refine lv_iconst (v := 0) hx hb dX7_many_2 (by decide) ?_
  refine lv_iconst (v := 4) hx hb dX7_many_3 (by decide) ?_
  refine va_calli (va_runS (As := [.int p0, .int 0, .int 4]) (rest := [.ref y]) ⟨hx, hb, hml, hown, hts⟩ (c_X7_isIn l p0 0 4) (va_cwS 3 hts gX7_many_X7_isIn rfl rfl rfl (by decide +kernel) ⟨Nat.le_of_ble_eq_true rfl, Nat.le_of_ble_eq_true rfl⟩) ⟨ax_fbP, ax_prP⟩ rfl rfl hl.1 rfl (lv_room (Nat.le_of_ble_eq_true rfl)) dX7_many_4 ⟨Nat.le_of_ble_eq_true rfl, Nat.le_of_ble_eq_true rfl⟩) hS (fun _ _ h9 => h9.elim) (fun _ h9 => h9.elim) (fun r_1 u_3  t H locs ht hvm hw_2 hB hz1 hk1 hS => ?_)
  have hP := ax_keep hP (fun _ h9 => h9) hk1
  rcases hw_2 with ⟨hr9, hw_2⟩ | ⟨hr9, hw_2⟩
  · have hw_2 : 0 ≤ p0.toInt ∧ p0.toInt ≤ 4 := hw_2
    refine ax_i hr9 ?_
    refine lv_if_ne (tgt := 14) hx hb dX7_many_7 (by decide) (fun _ => ?_) (fun h9 => absurd h9 (by decide))
    refine lv_iconst (v := 0) hx hb dX7_many_14 (by decide) ?_
    refine lv_iconst (v := 1) hx hb dX7_many_15 (by decide) ?_
    have hPc := hP.sub (ws' := [(y, .inr (11, [.int th, .ref ys, .ref yp, .int 0])), (ys, .inr (3, [.int 0, .ref (ta 4), .int 0])), (yp, .inr (3, [.int 0, .ref (ta 4), .int 0]))]) [0, 1, 2] rfl
    have hKc := hK.sub (tys' := []) [] rfl
    have hDc := hD.sub (ws' := [(y, .inr (11, [.int th, .ref ys, .ref yp, .int 0])), (ys, .inr (3, [.int 0, .ref (ta 4), .int 0])), (yp, .inr (3, [.int 0, .ref (ta 4), .int 0]))]) [0, 1, 2] (by decide) rfl
    have hFc := va_free (wc := [(y, .inr (11, [.int th, .ref ys, .ref yp, .int 0])), (ys, .inr (3, [.int 0, .ref (ta 4), .int 0])), (yp, .inr (3, [.int 0, .ref (ta 4), .int 0]))]) hD hS hA [0, 1, 2] rfl
    refine va_calli (va_runV (As := [.int 0, .int 1]) (rest := []) ⟨hx, hb, hml, hown, hts⟩ (c_X7_start_0 l dC dI y ys yp sa ta H.size th) (cwV 2 hts gX7_many_X7_start rfl rfl rfl (by decide +kernel) ⟨Nat.le_of_ble_eq_true rfl, Nat.le_of_ble_eq_true rfl⟩) ⟨ax_fbW, va_recv hK hP (ci := 11) (q0 := 0) rfl rfl, ax_prW hPc hKc hDc hS hFc hE⟩ rfl rfl hl.1 rfl (lv_room (Nat.le_of_ble_eq_true rfl)) dX7_many_16 ⟨Nat.le_of_ble_eq_true rfl, Nat.le_of_ble_eq_true rfl⟩) hS (fun q _ h9 => hFc q h9) hFc (fun r_4 u_6  t H locs ht hvm hw_5 hB hz1 hk1 hS => ?_)
    obtain ⟨hP1, hK1, hD1⟩ := hB
    rw [ht] at hP1
    have hK1 := va_K.moved hvm.symm hK1
    obtain ⟨hP, hD⟩ := va_join (wr := []) (w1 := [(y, .inr (11, [.int 0, .ref ys, .ref yp, .int 0])), (ys, .inr (3, [.int 0, .ref (ta 4), .int 0])), (yp, .inr (3, [.int 0, .ref (ta 4), .int 0]))]) hP hD [0, 1, 2] [] rfl rfl (by decide) (by decide) hk1 hFc hP1 hD1
    have hP : va_P (dC, dI) vwCl [(y, .inr (11, [.int 0, .ref ys, .ref yp, .int 0])), (ys, .inr (3, [.int 0, .ref (ta 4), .int 0])), (yp, .inr (3, [.int 0, .ref (ta 4), .int 0]))] H := hP
    have hD : va_D A [(y, .inr (11, [.int 0, .ref ys, .ref yp, .int 0])), (ys, .inr (3, [.int 0, .ref (ta 4), .int 0])), (yp, .inr (3, [.int 0, .ref (ta 4), .int 0]))] := hD
    refine ax_i (y := 0) hw_5 ?_
    refine lv_if_eq (tgt := 26) hx hb dX7_many_19 (by decide) (fun _ => ?_) (fun h9 => absurd (by decide) h9)
    refine lv_aload_n hx hb dX7_many_26 rfl (lv_at hl 0 rfl) ?_
    refine lv_iload_n hx hb dX7_many_27 rfl (lv_at hl 1 rfl) ?_
    have hPc := hP.sub (ws' := [(y, .inr (11, [.int 0, .ref ys, .ref yp, .int 0])), (ys, .inr (3, [.int 0, .ref (ta 4), .int 0])), (yp, .inr (3, [.int 0, .ref (ta 4), .int 0]))]) [0, 1, 2] rfl
    have hKc := hK.sub (tys' := []) [] rfl
    refine va_calli (va_runV (As := [.int p0]) (rest := []) ⟨hx, hb, hml, hown, hts⟩ (c_X7_manyNow l dC dI y ys yp sa ta 0 p0 (by first | omega | decide)) (cwV 1 hts gX7_many_X7_manyNow rfl rfl rfl (by decide +kernel) ⟨Nat.le_of_ble_eq_true rfl, Nat.le_of_ble_eq_true rfl⟩) ⟨ax_fbR, va_recv hK hP (ci := 11) (q0 := 0) rfl rfl, ax_prR hPc hKc hS hE⟩ rfl rfl hl.1 rfl (lv_room (Nat.le_of_ble_eq_true rfl)) dX7_many_28 ⟨Nat.le_of_ble_eq_true rfl, Nat.le_of_ble_eq_true rfl⟩) hS (fun _ _ h9 => h9.elim) (fun _ h9 => h9.elim) (fun r_7 u_9  t H locs ht hvm hw_8 hB hz1 hk1 hS => ?_)
    have hP := ax_keep hP (fun _ h9 => h9) hk1
    refine ax_i (y := (if p0.toInt = 3 then -1 else 0)) hw_8 ?_
    refine W.widen (k := 0) (n := 0) (Nat.le_of_ble_eq_true rfl) (Nat.le_of_ble_eq_true rfl) ?_
    have hP9 := hP.sub (ws' := [(y, .inr (11, [.int 0, .ref ys, .ref yp, .int 0]))]) [0] rfl
    have hD9 := hD.sub (ws' := [(y, .inr (11, [.int 0, .ref ys, .ref yp, .int 0]))]) [0] (by decide) rfl
    have hK9 := hK.sub (tys' := []) [] rfl
    exact W.iret (v := (if p0.toInt = 3 then -1 else 0)) hx hb hr (fun t ht hW => ⟨⟨(if p0.toInt = 3 then -1 else 0), 0, rfl, Or.inl ⟨by omega, rfl, rfl⟩, by rw [ht]; exact hP9, va_K.moved hW.alike hK9, hD9⟩, hS.F ht⟩) hS.2.2 dX7_many_31
  · have hw_2 : ¬ (0 ≤ p0.toInt ∧ p0.toInt ≤ 4) := hw_2
    refine ax_i hr9 ?_
    refine lv_if_ne (tgt := 14) hx hb dX7_many_7 (by decide) (fun h9 => absurd rfl h9) (fun _ => ?_)
    refine lv_iconst (v := 1) hx hb dX7_many_10 (by decide) ?_
    refine lv_goto (tgt := 15) hx hb dX7_many_11 (by decide) ?_
    refine lv_iconst (v := 1) hx hb dX7_many_15 (by decide) ?_
    have hPc := hP.sub (ws' := [(y, .inr (11, [.int th, .ref ys, .ref yp, .int 0])), (ys, .inr (3, [.int 0, .ref (ta 4), .int 0])), (yp, .inr (3, [.int 0, .ref (ta 4), .int 0]))]) [0, 1, 2] rfl
    have hKc := hK.sub (tys' := []) [] rfl
    have hDc := hD.sub (ws' := [(y, .inr (11, [.int th, .ref ys, .ref yp, .int 0])), (ys, .inr (3, [.int 0, .ref (ta 4), .int 0])), (yp, .inr (3, [.int 0, .ref (ta 4), .int 0]))]) [0, 1, 2] (by decide) rfl
    have hFc := va_free (wc := [(y, .inr (11, [.int th, .ref ys, .ref yp, .int 0])), (ys, .inr (3, [.int 0, .ref (ta 4), .int 0])), (yp, .inr (3, [.int 0, .ref (ta 4), .int 0]))]) hD hS hA [0, 1, 2] rfl
    refine va_calli (va_runV (As := [.int 1, .int 1]) (rest := []) ⟨hx, hb, hml, hown, hts⟩ (c_X7_start_1 l dC dI y ys yp sa ta H.size th) (cwV 2 hts gX7_many_X7_start rfl rfl rfl (by decide +kernel) ⟨Nat.le_of_ble_eq_true rfl, Nat.le_of_ble_eq_true rfl⟩) ⟨ax_fbW, va_recv hK hP (ci := 11) (q0 := 0) rfl rfl, ax_prW hPc hKc hDc hS hFc hE⟩ rfl rfl hl.1 rfl (lv_room (Nat.le_of_ble_eq_true rfl)) dX7_many_16 ⟨Nat.le_of_ble_eq_true rfl, Nat.le_of_ble_eq_true rfl⟩) hS (fun q _ h9 => hFc q h9) hFc (fun r_10 u_12  t H locs ht hvm hw_11 hB hz1 hk1 hS => ?_)
    obtain ⟨hP1, hK1, hD1⟩ := hB
    rw [ht] at hP1
    have hK1 := va_K.moved hvm.symm hK1
    obtain ⟨hP, hD⟩ := va_join (wr := []) (w1 := [(y, .inr (11, [.int 1, .ref ys, .ref yp, .int 0])), (ys, .inr (3, [.int 0, .ref (ta 4), .int 0])), (yp, .inr (3, [.int 0, .ref (ta 4), .int 0]))]) hP hD [0, 1, 2] [] rfl rfl (by decide) (by decide) hk1 hFc hP1 hD1
    have hP : va_P (dC, dI) vwCl [(y, .inr (11, [.int 1, .ref ys, .ref yp, .int 0])), (ys, .inr (3, [.int 0, .ref (ta 4), .int 0])), (yp, .inr (3, [.int 0, .ref (ta 4), .int 0]))] H := hP
    have hD : va_D A [(y, .inr (11, [.int 1, .ref ys, .ref yp, .int 0])), (ys, .inr (3, [.int 0, .ref (ta 4), .int 0])), (yp, .inr (3, [.int 0, .ref (ta 4), .int 0]))] := hD
    refine ax_i (y := 1) hw_11 ?_
    refine lv_if_eq (tgt := 26) hx hb dX7_many_19 (by decide) (fun h9 => absurd h9 (by decide)) (fun _ => ?_)
    refine lv_iconst (v := 0) hx hb dX7_many_22 (by decide) ?_
    refine lv_goto (tgt := 31) hx hb dX7_many_23 (by decide) ?_
    refine W.widen (k := 0) (n := 0) (Nat.le_of_ble_eq_true rfl) (Nat.le_of_ble_eq_true rfl) ?_
    have hP9 := hP.sub (ws' := [(y, .inr (11, [.int 1, .ref ys, .ref yp, .int 0]))]) [0] rfl
    have hD9 := hD.sub (ws' := [(y, .inr (11, [.int 1, .ref ys, .ref yp, .int 0]))]) [0] (by decide) rfl
    have hK9 := hK.sub (tys' := []) [] rfl
    exact W.iret (v := 0) hx hb hr (fun t ht hW => ⟨⟨0, 1, rfl, Or.inr ⟨by omega, rfl⟩, by rw [ht]; exact hP9, va_K.moved hW.alike hK9, hD9⟩, hS.F ht⟩) hS.2.2 dX7_many_31

set_option maxHeartbeats 4000000 in
set_option maxRecDepth 100000 in
theorem c_X7_add_ (l : Launch) (p0 : Int64) (p1 : Int64) : Met l yX7_add_ wsX7_add_ ({ frames := 8, cells := 0, slots := 0, locals := 200 }) (va_Pc [.long p0, .long p1] (fun _ => True)) (va_Ql (fun (r : Int64) (u : Unit) => r = p0 * 31 + p1) (fun _ _ => True) ax_no) 0 0 ax_no := by
  refine Met.ofW (cc := cX7_add_) (maxL := 4) (ret := (some .long)) (by decide) rfl ?_
  intro p e s m args below meth c s₁ B hml hv
  obtain ⟨rfl, -⟩ := hv
  have hx := B.exec
  have hb := B.bytes
  have hr := B.returns
  have hts := atoms_spec (ws := wsX7_add_) B.pre
  have hown : s.vm.findClass RX7 = some m.cls := findClass_of_methodNamed B.named
  have hlocks := B.notSynchronized
  have hS : va_S ax_no s.heap s.heap [] := va_S.rf
  have hl := lv_entry ([.long p0, .long p1]) (n := 4) (Nat.le_of_ble_eq_true rfl)
  rw [lg_entry_eq]
  generalize (lg_sl ([.long p0, .long p1]) ++ List.replicate (4 - (lg_sl ([.long p0, .long p1])).length) Slot.unset).toArray = ls at hl ⊢
  have hl : lv_has ls 4 [(0, .long p0), (2, .long p1)] := hl
  refine lv_lload_n hx hb dX7_add__0 rfl (lv_at hl 0 rfl) ?_
  refine lv_ldc2 (v := 31) hx hb hown (hts (.constantLong RX7 235 31) (by decide +kernel)) dX7_add__1 ?_
  refine lv_lmul hx hb dX7_add__4 ?_
  refine lv_lload_n hx hb dX7_add__5 rfl (lv_at hl 1 rfl) ?_
  refine lv_ladd hx hb dX7_add__6 ?_
  refine W.widen (k := 0) (n := 0) (Nat.le_of_ble_eq_true rfl) (Nat.le_of_ble_eq_true rfl) ?_
  exact W.lret (v := ((p0 * 31) + p1)) hx hb hr (fun t ht hW => ⟨⟨((p0 * 31) + p1), (), rfl, rfl, trivial⟩, hS.F ht⟩) hS.2.2 dX7_add__7

set_option maxHeartbeats 4000000 in
set_option maxRecDepth 100000 in
theorem c_X7_digest (l : Launch) (dC : Nat → ClassId) (dI : Nat → Nat → Nat) (y ys yp : Nat) (sa ta : Nat → Nat) (sz : Nat) (th : Int32) : Met l yX7_digest wsX7_digest ({ frames := 40, cells := 2, slots := 4, locals := 1000 }) (va_Pc [.ref y] (ax_W (dC, dI) vwCl [(y, .inr (11, [.int th, .ref ys, .ref yp, .int 0])), (ys, .inr (3, [.int 0, .ref (ta 4), .int 0])), (yp, .inr (3, [.int 0, .ref (ta 4), .int 0]))] [] sa ta sz)) (va_Ql (fun (r : Int64) (u : Unit) => r = (-5377871487814150780)) (fun (u : Unit) (t : State) => va_P (dC, dI) vwCl [(y, .inr (11, [.int 0, .ref ys, .ref yp, .int 0]))] t.heap ∧ va_K (dC, dI) vwCl [] t ∧ va_D (va_A [(y, .inr (11, [.int th, .ref ys, .ref yp, .int 0])), (ys, .inr (3, [.int 0, .ref (ta 4), .int 0])), (yp, .inr (3, [.int 0, .ref (ta 4), .int 0]))] sz) [(y, .inr (11, [.int 0, .ref ys, .ref yp, .int 0]))]) (va_A [(y, .inr (11, [.int th, .ref ys, .ref yp, .int 0])), (ys, .inr (3, [.int 0, .ref (ta 4), .int 0])), (yp, .inr (3, [.int 0, .ref (ta 4), .int 0]))] sz)) 2 4 (va_A [(y, .inr (11, [.int th, .ref ys, .ref yp, .int 0])), (ys, .inr (3, [.int 0, .ref (ta 4), .int 0])), (yp, .inr (3, [.int 0, .ref (ta 4), .int 0]))] sz) := by
  refine Met.ofW (cc := cX7_digest) (maxL := 6) (ret := (some .long)) (by decide) rfl ?_
  intro p e s m args below meth c s₁ B hml hv
  obtain ⟨rfl, hsz, hP, hK, hD0, hE⟩ := hv
  have hx := B.exec
  have hb := B.bytes
  have hr := B.returns
  have hts := atoms_spec (ws := wsX7_digest) B.pre
  have hown : s.vm.findClass RX7 = some m.cls := findClass_of_methodNamed B.named
  have hlocks := B.notSynchronized
  subst hsz
  have hD := hD0.self (sz := s.heap.size)
  generalize hAe : va_A [(y, .inr (11, [.int th, .ref ys, .ref yp, .int 0])), (ys, .inr (3, [.int 0, .ref (ta 4), .int 0])), (yp, .inr (3, [.int 0, .ref (ta 4), .int 0]))] s.heap.size = A at hD hE ⊢
  have hA : ∀ q : Nat, s.heap.size ≤ q → A q := fun q h => by rw [← hAe]; exact Or.inr h
  have hS : va_S A s.heap s.heap [] := va_S.rf
  have hl := lv_entry ([.ref y]) (n := 6) (Nat.le_of_ble_eq_true rfl)
  rw [lg_entry_eq]
  generalize (lg_sl ([.ref y]) ++ List.replicate (6 - (lg_sl ([.ref y])).length) Slot.unset).toArray = ls at hl ⊢
  have hl : lv_has ls 6 [(0, .ref y)] := hl
  have hP : va_P (dC, dI) vwCl [(y, .inr (11, [.int th, .ref ys, .ref yp, .int 0])), (ys, .inr (3, [.int 0, .ref (ta 4), .int 0])), (yp, .inr (3, [.int 0, .ref (ta 4), .int 0]))] s.heap := hP
  refine lv_aload_n hx hb dX7_digest_0 rfl (lv_at hl 0 rfl) ?_
  refine lv_iconst (v := 0) hx hb dX7_digest_1 (by decide) ?_
  refine va_put (D := (dC, dI)) (ci := 11) (v := .int 0) (ty := .int) (C := RX7) (T := TX7) (N := 4) hx hb hts (by decide +kernel) tyX7 tyX7_ok nmX7 hown hK hP hD hS 0 rfl rfl 0 (by decide) (hts (.fieldLink RX7 19 "DiffractoryModel" "thrown" "I") (by decide +kernel)) (fun _ h9 => h9) rfl (by decide +kernel) rfl rfl (Nat.le_of_ble_eq_true rfl) dX7_digest_2 (fun H locs hP hD hS => ?_)
  have hP : va_P (dC, dI) vwCl [(y, .inr (11, [.int 0, .ref ys, .ref yp, .int 0])), (ys, .inr (3, [.int 0, .ref (ta 4), .int 0])), (yp, .inr (3, [.int 0, .ref (ta 4), .int 0]))] H := hP
  have hD : va_D A [(y, .inr (11, [.int 0, .ref ys, .ref yp, .int 0])), (ys, .inr (3, [.int 0, .ref (ta 4), .int 0])), (yp, .inr (3, [.int 0, .ref (ta 4), .int 0]))] := hD
  refine lv_ldc2 (v := 9507) hx hb hown (hts (.constantLong RX7 237 9507) (by decide +kernel)) dX7_digest_5 ?_
  refine lv_lstore_n (lv' := [(1, .long 9507), (0, .ref y)]) hx hb dX7_digest_8 rfl hl (by decide) rfl (fun ls hl => ?_)
  refine lv_iconst (v := 0) hx hb dX7_digest_9 (by decide) ?_
  refine lv_istore_n (lv' := [(3, .int 0), (1, .long 9507), (0, .ref y)]) hx hb dX7_digest_10 rfl hl (by decide) rfl (fun ls hl => ?_)
  refine lv_iload_n hx hb dX7_digest_11 rfl (lv_at hl 0 rfl) ?_
  refine lv_iconst (v := 5) hx hb dX7_digest_12 (by decide) ?_
  refine lv_icmp_ge (tgt := 33) hx hb dX7_digest_13 (by decide) (fun h9 => absurd h9 (by decide)) (fun _ => ?_)
  refine lv_lload_n hx hb dX7_digest_16 rfl (lv_at hl 1 rfl) ?_
  refine lv_aload_n hx hb dX7_digest_17 rfl (lv_at hl 2 rfl) ?_
  refine lv_iload_n hx hb dX7_digest_18 rfl (lv_at hl 0 rfl) ?_
  have hPc := hP.sub (ws' := [(y, .inr (11, [.int 0, .ref ys, .ref yp, .int 0])), (ys, .inr (3, [.int 0, .ref (ta 4), .int 0])), (yp, .inr (3, [.int 0, .ref (ta 4), .int 0]))]) [0, 1, 2] rfl
  have hKc := hK.sub (tys' := []) [] rfl
  refine va_calli (va_runV (As := [.int 0]) (rest := [.long 9507]) ⟨hx, hb, hml, hown, hts⟩ (c_X7_manyNow l dC dI y ys yp sa ta 0 0 (by first | omega | decide)) (cwV 1 hts gX7_digest_X7_manyNow rfl rfl rfl (by decide +kernel) ⟨Nat.le_of_ble_eq_true rfl, Nat.le_of_ble_eq_true rfl⟩) ⟨ax_fbR, va_recv hK hP (ci := 11) (q0 := 0) rfl rfl, ax_prR hPc hKc hS hE⟩ rfl rfl hl.1 rfl (lv_room (Nat.le_of_ble_eq_true rfl)) dX7_digest_19 ⟨Nat.le_of_ble_eq_true rfl, Nat.le_of_ble_eq_true rfl⟩) hS (fun _ _ h9 => h9.elim) (fun _ h9 => h9.elim) (fun r_1 u_3  t H locs ht hvm hw_2 hB hz1 hk1 hS => ?_)
  have hP := ax_keep hP (fun _ h9 => h9) hk1
  refine ax_i (y := 0) (hw_2.trans (by decide)) ?_
  refine lv_i2l (v := 0) hx hb dX7_digest_22 (by decide) ?_
  refine va_calll (va_runS (As := [.long 9507, .long 0]) (rest := []) ⟨hx, hb, hml, hown, hts⟩ (c_X7_add_ l 9507 0) (va_cwS 2 hts gX7_digest_X7_add_ rfl rfl rfl (by decide +kernel) ⟨Nat.le_of_ble_eq_true rfl, Nat.le_of_ble_eq_true rfl⟩) ⟨ax_fbP, ax_prP⟩ rfl rfl hl.1 rfl (lv_room (Nat.le_of_ble_eq_true rfl)) dX7_digest_23 ⟨Nat.le_of_ble_eq_true rfl, Nat.le_of_ble_eq_true rfl⟩) hS (fun _ _ h9 => h9.elim) (fun _ h9 => h9.elim) (fun r_4 u_6  t H locs ht hvm hw_5 hB hz1 hk1 hS => ?_)
  have hP := ax_keep hP (fun _ h9 => h9) hk1
  refine ax_l (y := 294717) (hw_5.trans (by decide)) ?_
  refine lv_lstore_n (lv' := [(1, .long 294717), (3, .int 0), (0, .ref y)]) hx hb dX7_digest_26 rfl hl (by decide) rfl (fun ls hl => ?_)
  refine lv_iinc (v := 1) (lv' := [(3, .int 1), (1, .long 294717), (0, .ref y)]) hx hb dX7_digest_27 hl (k := 1) rfl (by decide) (by decide) rfl (fun ls hl => ?_)
  refine lv_goto (tgt := 11) hx hb dX7_digest_30 (by decide) ?_
  refine lv_iload_n hx hb dX7_digest_11 rfl (lv_at hl 0 rfl) ?_
  refine lv_iconst (v := 5) hx hb dX7_digest_12 (by decide) ?_
  refine lv_icmp_ge (tgt := 33) hx hb dX7_digest_13 (by decide) (fun h9 => absurd h9 (by decide)) (fun _ => ?_)
  refine lv_lload_n hx hb dX7_digest_16 rfl (lv_at hl 1 rfl) ?_
  refine lv_aload_n hx hb dX7_digest_17 rfl (lv_at hl 2 rfl) ?_
  refine lv_iload_n hx hb dX7_digest_18 rfl (lv_at hl 0 rfl) ?_
  have hPc := hP.sub (ws' := [(y, .inr (11, [.int 0, .ref ys, .ref yp, .int 0])), (ys, .inr (3, [.int 0, .ref (ta 4), .int 0])), (yp, .inr (3, [.int 0, .ref (ta 4), .int 0]))]) [0, 1, 2] rfl
  have hKc := hK.sub (tys' := []) [] rfl
  refine va_calli (va_runV (As := [.int 1]) (rest := [.long 294717]) ⟨hx, hb, hml, hown, hts⟩ (c_X7_manyNow l dC dI y ys yp sa ta 0 1 (by first | omega | decide)) (cwV 1 hts gX7_digest_X7_manyNow rfl rfl rfl (by decide +kernel) ⟨Nat.le_of_ble_eq_true rfl, Nat.le_of_ble_eq_true rfl⟩) ⟨ax_fbR, va_recv hK hP (ci := 11) (q0 := 0) rfl rfl, ax_prR hPc hKc hS hE⟩ rfl rfl hl.1 rfl (lv_room (Nat.le_of_ble_eq_true rfl)) dX7_digest_19 ⟨Nat.le_of_ble_eq_true rfl, Nat.le_of_ble_eq_true rfl⟩) hS (fun _ _ h9 => h9.elim) (fun _ h9 => h9.elim) (fun r_7 u_9  t H locs ht hvm hw_8 hB hz1 hk1 hS => ?_)
  have hP := ax_keep hP (fun _ h9 => h9) hk1
  refine ax_i (y := 0) (hw_8.trans (by decide)) ?_
  refine lv_i2l (v := 0) hx hb dX7_digest_22 (by decide) ?_
  refine va_calll (va_runS (As := [.long 294717, .long 0]) (rest := []) ⟨hx, hb, hml, hown, hts⟩ (c_X7_add_ l 294717 0) (va_cwS 2 hts gX7_digest_X7_add_ rfl rfl rfl (by decide +kernel) ⟨Nat.le_of_ble_eq_true rfl, Nat.le_of_ble_eq_true rfl⟩) ⟨ax_fbP, ax_prP⟩ rfl rfl hl.1 rfl (lv_room (Nat.le_of_ble_eq_true rfl)) dX7_digest_23 ⟨Nat.le_of_ble_eq_true rfl, Nat.le_of_ble_eq_true rfl⟩) hS (fun _ _ h9 => h9.elim) (fun _ h9 => h9.elim) (fun r_10 u_12  t H locs ht hvm hw_11 hB hz1 hk1 hS => ?_)
  have hP := ax_keep hP (fun _ h9 => h9) hk1
  refine ax_l (y := 9136227) (hw_11.trans (by decide)) ?_
  refine lv_lstore_n (lv' := [(1, .long 9136227), (3, .int 1), (0, .ref y)]) hx hb dX7_digest_26 rfl hl (by decide) rfl (fun ls hl => ?_)
  refine lv_iinc (v := 2) (lv' := [(3, .int 2), (1, .long 9136227), (0, .ref y)]) hx hb dX7_digest_27 hl (k := 1) rfl (by decide) (by decide) rfl (fun ls hl => ?_)
  refine lv_goto (tgt := 11) hx hb dX7_digest_30 (by decide) ?_
  refine lv_iload_n hx hb dX7_digest_11 rfl (lv_at hl 0 rfl) ?_
  refine lv_iconst (v := 5) hx hb dX7_digest_12 (by decide) ?_
  refine lv_icmp_ge (tgt := 33) hx hb dX7_digest_13 (by decide) (fun h9 => absurd h9 (by decide)) (fun _ => ?_)
  refine lv_lload_n hx hb dX7_digest_16 rfl (lv_at hl 1 rfl) ?_
  refine lv_aload_n hx hb dX7_digest_17 rfl (lv_at hl 2 rfl) ?_
  refine lv_iload_n hx hb dX7_digest_18 rfl (lv_at hl 0 rfl) ?_
  have hPc := hP.sub (ws' := [(y, .inr (11, [.int 0, .ref ys, .ref yp, .int 0])), (ys, .inr (3, [.int 0, .ref (ta 4), .int 0])), (yp, .inr (3, [.int 0, .ref (ta 4), .int 0]))]) [0, 1, 2] rfl
  have hKc := hK.sub (tys' := []) [] rfl
  refine va_calli (va_runV (As := [.int 2]) (rest := [.long 9136227]) ⟨hx, hb, hml, hown, hts⟩ (c_X7_manyNow l dC dI y ys yp sa ta 0 2 (by first | omega | decide)) (cwV 1 hts gX7_digest_X7_manyNow rfl rfl rfl (by decide +kernel) ⟨Nat.le_of_ble_eq_true rfl, Nat.le_of_ble_eq_true rfl⟩) ⟨ax_fbR, va_recv hK hP (ci := 11) (q0 := 0) rfl rfl, ax_prR hPc hKc hS hE⟩ rfl rfl hl.1 rfl (lv_room (Nat.le_of_ble_eq_true rfl)) dX7_digest_19 ⟨Nat.le_of_ble_eq_true rfl, Nat.le_of_ble_eq_true rfl⟩) hS (fun _ _ h9 => h9.elim) (fun _ h9 => h9.elim) (fun r_13 u_15  t H locs ht hvm hw_14 hB hz1 hk1 hS => ?_)
  have hP := ax_keep hP (fun _ h9 => h9) hk1
  refine ax_i (y := 0) (hw_14.trans (by decide)) ?_
  refine lv_i2l (v := 0) hx hb dX7_digest_22 (by decide) ?_
  refine va_calll (va_runS (As := [.long 9136227, .long 0]) (rest := []) ⟨hx, hb, hml, hown, hts⟩ (c_X7_add_ l 9136227 0) (va_cwS 2 hts gX7_digest_X7_add_ rfl rfl rfl (by decide +kernel) ⟨Nat.le_of_ble_eq_true rfl, Nat.le_of_ble_eq_true rfl⟩) ⟨ax_fbP, ax_prP⟩ rfl rfl hl.1 rfl (lv_room (Nat.le_of_ble_eq_true rfl)) dX7_digest_23 ⟨Nat.le_of_ble_eq_true rfl, Nat.le_of_ble_eq_true rfl⟩) hS (fun _ _ h9 => h9.elim) (fun _ h9 => h9.elim) (fun r_16 u_18  t H locs ht hvm hw_17 hB hz1 hk1 hS => ?_)
  have hP := ax_keep hP (fun _ h9 => h9) hk1
  refine ax_l (y := 283223037) (hw_17.trans (by decide)) ?_
  refine lv_lstore_n (lv' := [(1, .long 283223037), (3, .int 2), (0, .ref y)]) hx hb dX7_digest_26 rfl hl (by decide) rfl (fun ls hl => ?_)
  refine lv_iinc (v := 3) (lv' := [(3, .int 3), (1, .long 283223037), (0, .ref y)]) hx hb dX7_digest_27 hl (k := 1) rfl (by decide) (by decide) rfl (fun ls hl => ?_)
  refine lv_goto (tgt := 11) hx hb dX7_digest_30 (by decide) ?_
  refine lv_iload_n hx hb dX7_digest_11 rfl (lv_at hl 0 rfl) ?_
  refine lv_iconst (v := 5) hx hb dX7_digest_12 (by decide) ?_
  refine lv_icmp_ge (tgt := 33) hx hb dX7_digest_13 (by decide) (fun h9 => absurd h9 (by decide)) (fun _ => ?_)
  refine lv_lload_n hx hb dX7_digest_16 rfl (lv_at hl 1 rfl) ?_
  refine lv_aload_n hx hb dX7_digest_17 rfl (lv_at hl 2 rfl) ?_
  refine lv_iload_n hx hb dX7_digest_18 rfl (lv_at hl 0 rfl) ?_
  have hPc := hP.sub (ws' := [(y, .inr (11, [.int 0, .ref ys, .ref yp, .int 0])), (ys, .inr (3, [.int 0, .ref (ta 4), .int 0])), (yp, .inr (3, [.int 0, .ref (ta 4), .int 0]))]) [0, 1, 2] rfl
  have hKc := hK.sub (tys' := []) [] rfl
  refine va_calli (va_runV (As := [.int 3]) (rest := [.long 283223037]) ⟨hx, hb, hml, hown, hts⟩ (c_X7_manyNow l dC dI y ys yp sa ta 0 3 (by first | omega | decide)) (cwV 1 hts gX7_digest_X7_manyNow rfl rfl rfl (by decide +kernel) ⟨Nat.le_of_ble_eq_true rfl, Nat.le_of_ble_eq_true rfl⟩) ⟨ax_fbR, va_recv hK hP (ci := 11) (q0 := 0) rfl rfl, ax_prR hPc hKc hS hE⟩ rfl rfl hl.1 rfl (lv_room (Nat.le_of_ble_eq_true rfl)) dX7_digest_19 ⟨Nat.le_of_ble_eq_true rfl, Nat.le_of_ble_eq_true rfl⟩) hS (fun _ _ h9 => h9.elim) (fun _ h9 => h9.elim) (fun r_19 u_21  t H locs ht hvm hw_20 hB hz1 hk1 hS => ?_)
  have hP := ax_keep hP (fun _ h9 => h9) hk1
  refine ax_i (y := (-1)) (hw_20.trans (by decide)) ?_
  refine lv_i2l (v := (-1)) hx hb dX7_digest_22 (by decide) ?_
  refine va_calll (va_runS (As := [.long 283223037, .long (-1)]) (rest := []) ⟨hx, hb, hml, hown, hts⟩ (c_X7_add_ l 283223037 (-1)) (va_cwS 2 hts gX7_digest_X7_add_ rfl rfl rfl (by decide +kernel) ⟨Nat.le_of_ble_eq_true rfl, Nat.le_of_ble_eq_true rfl⟩) ⟨ax_fbP, ax_prP⟩ rfl rfl hl.1 rfl (lv_room (Nat.le_of_ble_eq_true rfl)) dX7_digest_23 ⟨Nat.le_of_ble_eq_true rfl, Nat.le_of_ble_eq_true rfl⟩) hS (fun _ _ h9 => h9.elim) (fun _ h9 => h9.elim) (fun r_22 u_24  t H locs ht hvm hw_23 hB hz1 hk1 hS => ?_)
  have hP := ax_keep hP (fun _ h9 => h9) hk1
  refine ax_l (y := 8779914146) (hw_23.trans (by decide)) ?_
  refine lv_lstore_n (lv' := [(1, .long 8779914146), (3, .int 3), (0, .ref y)]) hx hb dX7_digest_26 rfl hl (by decide) rfl (fun ls hl => ?_)
  refine lv_iinc (v := 4) (lv' := [(3, .int 4), (1, .long 8779914146), (0, .ref y)]) hx hb dX7_digest_27 hl (k := 1) rfl (by decide) (by decide) rfl (fun ls hl => ?_)
  refine lv_goto (tgt := 11) hx hb dX7_digest_30 (by decide) ?_
  refine lv_iload_n hx hb dX7_digest_11 rfl (lv_at hl 0 rfl) ?_
  refine lv_iconst (v := 5) hx hb dX7_digest_12 (by decide) ?_
  refine lv_icmp_ge (tgt := 33) hx hb dX7_digest_13 (by decide) (fun h9 => absurd h9 (by decide)) (fun _ => ?_)
  refine lv_lload_n hx hb dX7_digest_16 rfl (lv_at hl 1 rfl) ?_
  refine lv_aload_n hx hb dX7_digest_17 rfl (lv_at hl 2 rfl) ?_
  refine lv_iload_n hx hb dX7_digest_18 rfl (lv_at hl 0 rfl) ?_
  have hPc := hP.sub (ws' := [(y, .inr (11, [.int 0, .ref ys, .ref yp, .int 0])), (ys, .inr (3, [.int 0, .ref (ta 4), .int 0])), (yp, .inr (3, [.int 0, .ref (ta 4), .int 0]))]) [0, 1, 2] rfl
  have hKc := hK.sub (tys' := []) [] rfl
  refine va_calli (va_runV (As := [.int 4]) (rest := [.long 8779914146]) ⟨hx, hb, hml, hown, hts⟩ (c_X7_manyNow l dC dI y ys yp sa ta 0 4 (by first | omega | decide)) (cwV 1 hts gX7_digest_X7_manyNow rfl rfl rfl (by decide +kernel) ⟨Nat.le_of_ble_eq_true rfl, Nat.le_of_ble_eq_true rfl⟩) ⟨ax_fbR, va_recv hK hP (ci := 11) (q0 := 0) rfl rfl, ax_prR hPc hKc hS hE⟩ rfl rfl hl.1 rfl (lv_room (Nat.le_of_ble_eq_true rfl)) dX7_digest_19 ⟨Nat.le_of_ble_eq_true rfl, Nat.le_of_ble_eq_true rfl⟩) hS (fun _ _ h9 => h9.elim) (fun _ h9 => h9.elim) (fun r_25 u_27  t H locs ht hvm hw_26 hB hz1 hk1 hS => ?_)
  have hP := ax_keep hP (fun _ h9 => h9) hk1
  refine ax_i (y := 0) (hw_26.trans (by decide)) ?_
  refine lv_i2l (v := 0) hx hb dX7_digest_22 (by decide) ?_
  refine va_calll (va_runS (As := [.long 8779914146, .long 0]) (rest := []) ⟨hx, hb, hml, hown, hts⟩ (c_X7_add_ l 8779914146 0) (va_cwS 2 hts gX7_digest_X7_add_ rfl rfl rfl (by decide +kernel) ⟨Nat.le_of_ble_eq_true rfl, Nat.le_of_ble_eq_true rfl⟩) ⟨ax_fbP, ax_prP⟩ rfl rfl hl.1 rfl (lv_room (Nat.le_of_ble_eq_true rfl)) dX7_digest_23 ⟨Nat.le_of_ble_eq_true rfl, Nat.le_of_ble_eq_true rfl⟩) hS (fun _ _ h9 => h9.elim) (fun _ h9 => h9.elim) (fun r_28 u_30  t H locs ht hvm hw_29 hB hz1 hk1 hS => ?_)
  have hP := ax_keep hP (fun _ h9 => h9) hk1
  refine ax_l (y := 272177338526) (hw_29.trans (by decide)) ?_
  refine lv_lstore_n (lv' := [(1, .long 272177338526), (3, .int 4), (0, .ref y)]) hx hb dX7_digest_26 rfl hl (by decide) rfl (fun ls hl => ?_)
  refine lv_iinc (v := 5) (lv' := [(3, .int 5), (1, .long 272177338526), (0, .ref y)]) hx hb dX7_digest_27 hl (k := 1) rfl (by decide) (by decide) rfl (fun ls hl => ?_)
  refine lv_goto (tgt := 11) hx hb dX7_digest_30 (by decide) ?_
  refine lv_iload_n hx hb dX7_digest_11 rfl (lv_at hl 0 rfl) ?_
  refine lv_iconst (v := 5) hx hb dX7_digest_12 (by decide) ?_
  refine lv_icmp_ge (tgt := 33) hx hb dX7_digest_13 (by decide) (fun _ => ?_) (fun h9 => absurd (by decide) h9)
  refine lv_iconst (v := 0) hx hb dX7_digest_33 (by decide) ?_
  refine lv_istore_n (lv' := [(3, .int 0), (1, .long 272177338526), (0, .ref y)]) hx hb dX7_digest_34 rfl hl (by decide) rfl (fun ls hl => ?_)
  refine lv_iload_n hx hb dX7_digest_35 rfl (lv_at hl 0 rfl) ?_
  refine lv_aload_n hx hb dX7_digest_36 rfl (lv_at hl 2 rfl) ?_
  refine va_get (D := (dC, dI)) (ci := 11) (v := .ref ys) (C := RX7) (T := TX7) (N := 4) hx hb hts (by decide +kernel) hown hK hP 0 rfl rfl 1 (by decide) (hts (.fieldLink RX7 10 "DiffractoryModel" "sources" "Ljava/util/ArrayList;") (by decide +kernel)) (fun _ h9 => h9) rfl dX7_digest_37 ?_
  have hPc := hP.sub (ws' := [(ys, .inr (3, [.int 0, .ref (ta 4), .int 0]))]) [1] rfl
  have hKc := hK.sub (tys' := []) [] rfl
  refine va_calli (va_runV (As := []) (rest := [.int 0]) ⟨hx, hb, hml, hown, hts⟩ (c_Jx4a65c_size_8abf5 l dC dI ys (ta 4) sa ta 0 0) (cwV 0 hts gX7_digest_Jx4a65c_size_8abf5 rfl rfl rfl (by decide +kernel) ⟨Nat.le_of_ble_eq_true rfl, Nat.le_of_ble_eq_true rfl⟩) ⟨ax_fbR, va_recv hK hP (ci := 3) (q0 := 1) rfl rfl, ax_prR hPc hKc hS hE⟩ rfl rfl hl.1 rfl (lv_room (Nat.le_of_ble_eq_true rfl)) dX7_digest_40 ⟨Nat.le_of_ble_eq_true rfl, Nat.le_of_ble_eq_true rfl⟩) hS (fun _ _ h9 => h9.elim) (fun _ h9 => h9.elim) (fun r_31 u_33  t H locs ht hvm hw_32 hB hz1 hk1 hS => ?_)
  have hP := ax_keep hP (fun _ h9 => h9) hk1
  refine ax_i (y := 0) hw_32 ?_
  refine lv_icmp_ge (tgt := 100) hx hb dX7_digest_43 (by decide) (fun _ => ?_) (fun h9 => absurd (by decide) h9)
  refine lv_aload_n hx hb dX7_digest_100 rfl (lv_at hl 2 rfl) ?_
  refine lv_iconst (v := (-1)) hx hb dX7_digest_101 (by decide) ?_
  have hPc := hP.sub (ws' := [(y, .inr (11, [.int 0, .ref ys, .ref yp, .int 0])), (ys, .inr (3, [.int 0, .ref (ta 4), .int 0])), (yp, .inr (3, [.int 0, .ref (ta 4), .int 0]))]) [0, 1, 2] rfl
  have hKc := hK.sub (tys' := []) [] rfl
  have hDc := hD.sub (ws' := [(y, .inr (11, [.int 0, .ref ys, .ref yp, .int 0])), (ys, .inr (3, [.int 0, .ref (ta 4), .int 0])), (yp, .inr (3, [.int 0, .ref (ta 4), .int 0]))]) [0, 1, 2] (by decide) rfl
  have hFc := va_free (wc := [(y, .inr (11, [.int 0, .ref ys, .ref yp, .int 0])), (ys, .inr (3, [.int 0, .ref (ta 4), .int 0])), (yp, .inr (3, [.int 0, .ref (ta 4), .int 0]))]) hD hS hA [0, 1, 2] rfl
  refine va_callr (va_runV (As := [.int (-1)]) (rest := []) ⟨hx, hb, hml, hown, hts⟩ (c_X7_first l dC dI y ys yp sa ta H.size 0) (cwV 1 hts gX7_digest_X7_first rfl rfl rfl (by decide +kernel) ⟨Nat.le_of_ble_eq_true rfl, Nat.le_of_ble_eq_true rfl⟩) ⟨ax_fbW, va_recv hK hP (ci := 11) (q0 := 0) rfl rfl, ax_prW hPc hKc hDc hS hFc hE⟩ rfl rfl hl.1 rfl (lv_room (Nat.le_of_ble_eq_true rfl)) dX7_digest_102 ⟨Nat.le_of_ble_eq_true rfl, Nat.le_of_ble_eq_true rfl⟩) hS (fun q _ h9 => hFc q h9) hFc (fun u_36  r_34 t H locs ht hvm hw_35 hB hz1 hk1 hS => ?_)
  obtain ⟨qA_37, rfl⟩ : ∃ z, z = u_36 := ⟨_, rfl⟩
  obtain ⟨hP1, hK1, hD1⟩ := hB
  rw [ht] at hP1
  have hK1 := va_K.moved hvm.symm hK1
  obtain ⟨hP, hD⟩ := va_join (wr := []) (w1 := [(y, .inr (11, [.int 0, .ref ys, .ref yp, .int 0])), (ys, .inr (3, [.int 0, .ref (ta 4), .int 0])), (yp, .inr (3, [.int 0, .ref (ta 4), .int 0])), (r_34, .inl (qA_37, 0, .inr (.inl (fun _ => 0))))]) hP hD [0, 1, 2] [] rfl rfl (by decide) (by decide) hk1 hFc hP1 hD1
  have hK := hK.app hK1
  have hK := hK.sub (tys' := [(qA_37, .long)]) [0] rfl
  have hP : va_P (dC, dI) vwCl [(y, .inr (11, [.int 0, .ref ys, .ref yp, .int 0])), (ys, .inr (3, [.int 0, .ref (ta 4), .int 0])), (yp, .inr (3, [.int 0, .ref (ta 4), .int 0])), (r_34, .inl (qA_37, 0, .inr (.inl (fun _ => 0))))] H := hP
  have hD : va_D A [(y, .inr (11, [.int 0, .ref ys, .ref yp, .int 0])), (ys, .inr (3, [.int 0, .ref (ta 4), .int 0])), (yp, .inr (3, [.int 0, .ref (ta 4), .int 0])), (r_34, .inl (qA_37, 0, .inr (.inl (fun _ => 0))))] := hD
  refine lv_astore_n (lv' := [(3, .ref r_34), (1, .long 272177338526), (0, .ref y)]) hx hb dX7_digest_105 rfl hl (by decide) rfl (fun ls hl => ?_)
  refine lv_iconst (v := (-1)) hx hb dX7_digest_106 (by decide) ?_
  refine lv_istore (lv' := [(4, .int (-1)), (3, .ref r_34), (1, .long 272177338526), (0, .ref y)]) hx hb dX7_digest_107 hl (by decide) rfl (fun ls hl => ?_)
  refine lv_iload hx hb dX7_digest_109 (lv_at hl 0 rfl) ?_
  refine lv_aload_n hx hb dX7_digest_111 rfl (lv_at hl 3 rfl) ?_
  refine va_get (D := (dC, dI)) (ci := 11) (v := .ref yp) (C := RX7) (T := TX7) (N := 4) hx hb hts (by decide +kernel) hown hK hP 0 rfl rfl 2 (by decide) (hts (.fieldLink RX7 16 "DiffractoryModel" "parts" "Ljava/util/ArrayList;") (by decide +kernel)) (fun _ h9 => h9) rfl dX7_digest_112 ?_
  have hPc := hP.sub (ws' := [(yp, .inr (3, [.int 0, .ref (ta 4), .int 0]))]) [2] rfl
  have hKc := hK.sub (tys' := []) [] rfl
  refine va_calli (va_runV (As := []) (rest := [.int (-1)]) ⟨hx, hb, hml, hown, hts⟩ (c_Jx4a65c_size_8abf5 l dC dI yp (ta 4) sa ta 0 0) (cwV 0 hts gX7_digest_Jx4a65c_size_8abf5 rfl rfl rfl (by decide +kernel) ⟨Nat.le_of_ble_eq_true rfl, Nat.le_of_ble_eq_true rfl⟩) ⟨ax_fbR, va_recv hK hP (ci := 3) (q0 := 2) rfl rfl, ax_prR hPc hKc hS hE⟩ rfl rfl hl.1 rfl (lv_room (Nat.le_of_ble_eq_true rfl)) dX7_digest_115 ⟨Nat.le_of_ble_eq_true rfl, Nat.le_of_ble_eq_true rfl⟩) hS (fun _ _ h9 => h9.elim) (fun _ h9 => h9.elim) (fun r_38 u_40  t H locs ht hvm hw_39 hB hz1 hk1 hS => ?_)
  have hP := ax_keep hP (fun _ h9 => h9) hk1
  refine ax_i (y := 0) hw_39 ?_
  refine lv_icmp_ge (tgt := 218) hx hb dX7_digest_118 (by decide) (fun h9 => absurd h9 (by decide)) (fun _ => ?_)
  refine lv_iload hx hb dX7_digest_121 (lv_at hl 0 rfl) ?_
  refine lv_iconst (v := (-1)) hx hb dX7_digest_123 (by decide) ?_
  refine lv_icmp_eq (tgt := 145) hx hb dX7_digest_124 (by decide) (fun _ => ?_) (fun h9 => absurd (by decide) h9)
  refine lv_iconst (v := 0) hx hb dX7_digest_145 (by decide) ?_
  refine lv_istore (lv' := [(5, .int 0), (4, .int (-1)), (3, .ref r_34), (1, .long 272177338526), (0, .ref y)]) hx hb dX7_digest_146 hl (by decide) rfl (fun ls hl => ?_)
  refine lv_iload hx hb dX7_digest_148 (lv_at hl 0 rfl) ?_
  refine lv_bipush (v := 8) hx hb dX7_digest_150 (by decide) ?_
  refine lv_icmp_ge (tgt := 183) hx hb dX7_digest_152 (by decide) (fun h9 => absurd h9 (by decide)) (fun _ => ?_)
  refine lv_lload_n hx hb dX7_digest_155 rfl (lv_at hl 3 rfl) ?_
  refine lv_aload_n hx hb dX7_digest_156 rfl (lv_at hl 4 rfl) ?_
  refine lv_iload hx hb dX7_digest_157 (lv_at hl 0 rfl) ?_
  refine lv_aload_n hx hb dX7_digest_159 rfl (lv_at hl 2 rfl) ?_
  have hPc := hP.sub (ws' := [(y, .inr (11, [.int 0, .ref ys, .ref yp, .int 0])), (ys, .inr (3, [.int 0, .ref (ta 4), .int 0])), (yp, .inr (3, [.int 0, .ref (ta 4), .int 0]))]) [0, 1, 2] rfl
  have hKc := hK.sub (tys' := []) [] rfl
  refine va_calll (va_runV (As := [.int 0, .ref r_34]) (rest := [.long 272177338526]) ⟨hx, hb, hml, hown, hts⟩ (c_X7_whole_ l dC dI y ys yp sa ta 0 0 r_34) (cwV 2 hts gX7_digest_X7_whole_ rfl rfl rfl (by decide +kernel) ⟨Nat.le_of_ble_eq_true rfl, Nat.le_of_ble_eq_true rfl⟩) ⟨ax_fbR, va_recv hK hP (ci := 11) (q0 := 0) rfl rfl, ax_prR hPc hKc hS hE⟩ rfl rfl hl.1 rfl (lv_room (Nat.le_of_ble_eq_true rfl)) dX7_digest_160 ⟨Nat.le_of_ble_eq_true rfl, Nat.le_of_ble_eq_true rfl⟩) hS (fun _ _ h9 => h9.elim) (fun _ h9 => h9.elim) (fun r_41 u_43  t H locs ht hvm hw_42 hB hz1 hk1 hS => ?_)
  have hP := ax_keep hP (fun _ h9 => h9) hk1
  refine ax_l (y := 0) hw_42 ?_
  refine va_calll (va_runS (As := [.long 272177338526, .long 0]) (rest := []) ⟨hx, hb, hml, hown, hts⟩ (c_X7_add_ l 272177338526 0) (va_cwS 2 hts gX7_digest_X7_add_ rfl rfl rfl (by decide +kernel) ⟨Nat.le_of_ble_eq_true rfl, Nat.le_of_ble_eq_true rfl⟩) ⟨ax_fbP, ax_prP⟩ rfl rfl hl.1 rfl (lv_room (Nat.le_of_ble_eq_true rfl)) dX7_digest_163 ⟨Nat.le_of_ble_eq_true rfl, Nat.le_of_ble_eq_true rfl⟩) hS (fun _ _ h9 => h9.elim) (fun _ h9 => h9.elim) (fun r_44 u_46  t H locs ht hvm hw_45 hB hz1 hk1 hS => ?_)
  have hP := ax_keep hP (fun _ h9 => h9) hk1
  refine ax_l (y := 8437497494306) (hw_45.trans (by decide)) ?_
  refine lv_aload_n hx hb dX7_digest_166 rfl (lv_at hl 4 rfl) ?_
  refine lv_iload hx hb dX7_digest_167 (lv_at hl 0 rfl) ?_
  refine lv_aload_n hx hb dX7_digest_169 rfl (lv_at hl 2 rfl) ?_
  have hPc := hP.sub (ws' := [(y, .inr (11, [.int 0, .ref ys, .ref yp, .int 0])), (ys, .inr (3, [.int 0, .ref (ta 4), .int 0])), (yp, .inr (3, [.int 0, .ref (ta 4), .int 0]))]) [0, 1, 2] rfl
  have hKc := hK.sub (tys' := []) [] rfl
  refine va_calll (va_runV (As := [.int 0, .ref r_34]) (rest := [.long 8437497494306]) ⟨hx, hb, hml, hown, hts⟩ (c_X7_root_ l dC dI y ys yp sa ta 0 0 r_34) (cwV 2 hts gX7_digest_X7_root_ rfl rfl rfl (by decide +kernel) ⟨Nat.le_of_ble_eq_true rfl, Nat.le_of_ble_eq_true rfl⟩) ⟨ax_fbR, va_recv hK hP (ci := 11) (q0 := 0) rfl rfl, ax_prR hPc hKc hS hE⟩ rfl rfl hl.1 rfl (lv_room (Nat.le_of_ble_eq_true rfl)) dX7_digest_170 ⟨Nat.le_of_ble_eq_true rfl, Nat.le_of_ble_eq_true rfl⟩) hS (fun _ _ h9 => h9.elim) (fun _ h9 => h9.elim) (fun r_47 u_49  t H locs ht hvm hw_48 hB hz1 hk1 hS => ?_)
  have hP := ax_keep hP (fun _ h9 => h9) hk1
  refine ax_l (y := 0) hw_48 ?_
  refine va_calll (va_runS (As := [.long 8437497494306, .long 0]) (rest := []) ⟨hx, hb, hml, hown, hts⟩ (c_X7_add_ l 8437497494306 0) (va_cwS 2 hts gX7_digest_X7_add_ rfl rfl rfl (by decide +kernel) ⟨Nat.le_of_ble_eq_true rfl, Nat.le_of_ble_eq_true rfl⟩) ⟨ax_fbP, ax_prP⟩ rfl rfl hl.1 rfl (lv_room (Nat.le_of_ble_eq_true rfl)) dX7_digest_173 ⟨Nat.le_of_ble_eq_true rfl, Nat.le_of_ble_eq_true rfl⟩) hS (fun _ _ h9 => h9.elim) (fun _ h9 => h9.elim) (fun r_50 u_52  t H locs ht hvm hw_51 hB hz1 hk1 hS => ?_)
  have hP := ax_keep hP (fun _ h9 => h9) hk1
  refine ax_l (y := 261562422323486) (hw_51.trans (by decide)) ?_
  refine lv_lstore_n (lv' := [(1, .long 261562422323486), (5, .int 0), (4, .int (-1)), (3, .ref r_34), (0, .ref y)]) hx hb dX7_digest_176 rfl hl (by decide) rfl (fun ls hl => ?_)
  refine lv_iinc (v := 1) (lv' := [(5, .int 1), (1, .long 261562422323486), (4, .int (-1)), (3, .ref r_34), (0, .ref y)]) hx hb dX7_digest_177 hl (k := 1) rfl (by decide) (by decide) rfl (fun ls hl => ?_)
  refine lv_goto (tgt := 148) hx hb dX7_digest_180 (by decide) ?_
  refine lv_iload hx hb dX7_digest_148 (lv_at hl 0 rfl) ?_
  refine lv_bipush (v := 8) hx hb dX7_digest_150 (by decide) ?_
  refine lv_icmp_ge (tgt := 183) hx hb dX7_digest_152 (by decide) (fun h9 => absurd h9 (by decide)) (fun _ => ?_)
  refine lv_lload_n hx hb dX7_digest_155 rfl (lv_at hl 1 rfl) ?_
  refine lv_aload_n hx hb dX7_digest_156 rfl (lv_at hl 4 rfl) ?_
  refine lv_iload hx hb dX7_digest_157 (lv_at hl 0 rfl) ?_
  refine lv_aload_n hx hb dX7_digest_159 rfl (lv_at hl 3 rfl) ?_
  have hPc := hP.sub (ws' := [(y, .inr (11, [.int 0, .ref ys, .ref yp, .int 0])), (ys, .inr (3, [.int 0, .ref (ta 4), .int 0])), (yp, .inr (3, [.int 0, .ref (ta 4), .int 0]))]) [0, 1, 2] rfl
  have hKc := hK.sub (tys' := []) [] rfl
  refine va_calll (va_runV (As := [.int 1, .ref r_34]) (rest := [.long 261562422323486]) ⟨hx, hb, hml, hown, hts⟩ (c_X7_whole_ l dC dI y ys yp sa ta 0 1 r_34) (cwV 2 hts gX7_digest_X7_whole_ rfl rfl rfl (by decide +kernel) ⟨Nat.le_of_ble_eq_true rfl, Nat.le_of_ble_eq_true rfl⟩) ⟨ax_fbR, va_recv hK hP (ci := 11) (q0 := 0) rfl rfl, ax_prR hPc hKc hS hE⟩ rfl rfl hl.1 rfl (lv_room (Nat.le_of_ble_eq_true rfl)) dX7_digest_160 ⟨Nat.le_of_ble_eq_true rfl, Nat.le_of_ble_eq_true rfl⟩) hS (fun _ _ h9 => h9.elim) (fun _ h9 => h9.elim) (fun r_53 u_55  t H locs ht hvm hw_54 hB hz1 hk1 hS => ?_)
  have hP := ax_keep hP (fun _ h9 => h9) hk1
  refine ax_l (y := 0) hw_54 ?_
  refine va_calll (va_runS (As := [.long 261562422323486, .long 0]) (rest := []) ⟨hx, hb, hml, hown, hts⟩ (c_X7_add_ l 261562422323486 0) (va_cwS 2 hts gX7_digest_X7_add_ rfl rfl rfl (by decide +kernel) ⟨Nat.le_of_ble_eq_true rfl, Nat.le_of_ble_eq_true rfl⟩) ⟨ax_fbP, ax_prP⟩ rfl rfl hl.1 rfl (lv_room (Nat.le_of_ble_eq_true rfl)) dX7_digest_163 ⟨Nat.le_of_ble_eq_true rfl, Nat.le_of_ble_eq_true rfl⟩) hS (fun _ _ h9 => h9.elim) (fun _ h9 => h9.elim) (fun r_56 u_58  t H locs ht hvm hw_57 hB hz1 hk1 hS => ?_)
  have hP := ax_keep hP (fun _ h9 => h9) hk1
  refine ax_l (y := 8108435092028066) (hw_57.trans (by decide)) ?_
  refine lv_aload_n hx hb dX7_digest_166 rfl (lv_at hl 4 rfl) ?_
  refine lv_iload hx hb dX7_digest_167 (lv_at hl 0 rfl) ?_
  refine lv_aload_n hx hb dX7_digest_169 rfl (lv_at hl 3 rfl) ?_
  have hPc := hP.sub (ws' := [(y, .inr (11, [.int 0, .ref ys, .ref yp, .int 0])), (ys, .inr (3, [.int 0, .ref (ta 4), .int 0])), (yp, .inr (3, [.int 0, .ref (ta 4), .int 0]))]) [0, 1, 2] rfl
  have hKc := hK.sub (tys' := []) [] rfl
  refine va_calll (va_runV (As := [.int 1, .ref r_34]) (rest := [.long 8108435092028066]) ⟨hx, hb, hml, hown, hts⟩ (c_X7_root_ l dC dI y ys yp sa ta 0 1 r_34) (cwV 2 hts gX7_digest_X7_root_ rfl rfl rfl (by decide +kernel) ⟨Nat.le_of_ble_eq_true rfl, Nat.le_of_ble_eq_true rfl⟩) ⟨ax_fbR, va_recv hK hP (ci := 11) (q0 := 0) rfl rfl, ax_prR hPc hKc hS hE⟩ rfl rfl hl.1 rfl (lv_room (Nat.le_of_ble_eq_true rfl)) dX7_digest_170 ⟨Nat.le_of_ble_eq_true rfl, Nat.le_of_ble_eq_true rfl⟩) hS (fun _ _ h9 => h9.elim) (fun _ h9 => h9.elim) (fun r_59 u_61  t H locs ht hvm hw_60 hB hz1 hk1 hS => ?_)
  have hP := ax_keep hP (fun _ h9 => h9) hk1
  refine ax_l (y := 0) hw_60 ?_
  refine va_calll (va_runS (As := [.long 8108435092028066, .long 0]) (rest := []) ⟨hx, hb, hml, hown, hts⟩ (c_X7_add_ l 8108435092028066 0) (va_cwS 2 hts gX7_digest_X7_add_ rfl rfl rfl (by decide +kernel) ⟨Nat.le_of_ble_eq_true rfl, Nat.le_of_ble_eq_true rfl⟩) ⟨ax_fbP, ax_prP⟩ rfl rfl hl.1 rfl (lv_room (Nat.le_of_ble_eq_true rfl)) dX7_digest_173 ⟨Nat.le_of_ble_eq_true rfl, Nat.le_of_ble_eq_true rfl⟩) hS (fun _ _ h9 => h9.elim) (fun _ h9 => h9.elim) (fun r_62 u_64  t H locs ht hvm hw_63 hB hz1 hk1 hS => ?_)
  have hP := ax_keep hP (fun _ h9 => h9) hk1
  refine ax_l (y := 251361487852870046) (hw_63.trans (by decide)) ?_
  refine lv_lstore_n (lv' := [(1, .long 251361487852870046), (5, .int 1), (4, .int (-1)), (3, .ref r_34), (0, .ref y)]) hx hb dX7_digest_176 rfl hl (by decide) rfl (fun ls hl => ?_)
  refine lv_iinc (v := 2) (lv' := [(5, .int 2), (1, .long 251361487852870046), (4, .int (-1)), (3, .ref r_34), (0, .ref y)]) hx hb dX7_digest_177 hl (k := 1) rfl (by decide) (by decide) rfl (fun ls hl => ?_)
  refine lv_goto (tgt := 148) hx hb dX7_digest_180 (by decide) ?_
  refine lv_iload hx hb dX7_digest_148 (lv_at hl 0 rfl) ?_
  refine lv_bipush (v := 8) hx hb dX7_digest_150 (by decide) ?_
  refine lv_icmp_ge (tgt := 183) hx hb dX7_digest_152 (by decide) (fun h9 => absurd h9 (by decide)) (fun _ => ?_)
  refine lv_lload_n hx hb dX7_digest_155 rfl (lv_at hl 1 rfl) ?_
  refine lv_aload_n hx hb dX7_digest_156 rfl (lv_at hl 4 rfl) ?_
  refine lv_iload hx hb dX7_digest_157 (lv_at hl 0 rfl) ?_
  refine lv_aload_n hx hb dX7_digest_159 rfl (lv_at hl 3 rfl) ?_
  have hPc := hP.sub (ws' := [(y, .inr (11, [.int 0, .ref ys, .ref yp, .int 0])), (ys, .inr (3, [.int 0, .ref (ta 4), .int 0])), (yp, .inr (3, [.int 0, .ref (ta 4), .int 0]))]) [0, 1, 2] rfl
  have hKc := hK.sub (tys' := []) [] rfl
  refine va_calll (va_runV (As := [.int 2, .ref r_34]) (rest := [.long 251361487852870046]) ⟨hx, hb, hml, hown, hts⟩ (c_X7_whole_ l dC dI y ys yp sa ta 0 2 r_34) (cwV 2 hts gX7_digest_X7_whole_ rfl rfl rfl (by decide +kernel) ⟨Nat.le_of_ble_eq_true rfl, Nat.le_of_ble_eq_true rfl⟩) ⟨ax_fbR, va_recv hK hP (ci := 11) (q0 := 0) rfl rfl, ax_prR hPc hKc hS hE⟩ rfl rfl hl.1 rfl (lv_room (Nat.le_of_ble_eq_true rfl)) dX7_digest_160 ⟨Nat.le_of_ble_eq_true rfl, Nat.le_of_ble_eq_true rfl⟩) hS (fun _ _ h9 => h9.elim) (fun _ h9 => h9.elim) (fun r_65 u_67  t H locs ht hvm hw_66 hB hz1 hk1 hS => ?_)
  have hP := ax_keep hP (fun _ h9 => h9) hk1
  refine ax_l (y := 0) hw_66 ?_
  refine va_calll (va_runS (As := [.long 251361487852870046, .long 0]) (rest := []) ⟨hx, hb, hml, hown, hts⟩ (c_X7_add_ l 251361487852870046 0) (va_cwS 2 hts gX7_digest_X7_add_ rfl rfl rfl (by decide +kernel) ⟨Nat.le_of_ble_eq_true rfl, Nat.le_of_ble_eq_true rfl⟩) ⟨ax_fbP, ax_prP⟩ rfl rfl hl.1 rfl (lv_room (Nat.le_of_ble_eq_true rfl)) dX7_digest_163 ⟨Nat.le_of_ble_eq_true rfl, Nat.le_of_ble_eq_true rfl⟩) hS (fun _ _ h9 => h9.elim) (fun _ h9 => h9.elim) (fun r_68 u_70  t H locs ht hvm hw_69 hB hz1 hk1 hS => ?_)
  have hP := ax_keep hP (fun _ h9 => h9) hk1
  refine ax_l (y := 7792206123438971426) (hw_69.trans (by decide)) ?_
  refine lv_aload_n hx hb dX7_digest_166 rfl (lv_at hl 4 rfl) ?_
  refine lv_iload hx hb dX7_digest_167 (lv_at hl 0 rfl) ?_
  refine lv_aload_n hx hb dX7_digest_169 rfl (lv_at hl 3 rfl) ?_
  have hPc := hP.sub (ws' := [(y, .inr (11, [.int 0, .ref ys, .ref yp, .int 0])), (ys, .inr (3, [.int 0, .ref (ta 4), .int 0])), (yp, .inr (3, [.int 0, .ref (ta 4), .int 0]))]) [0, 1, 2] rfl
  have hKc := hK.sub (tys' := []) [] rfl
  refine va_calll (va_runV (As := [.int 2, .ref r_34]) (rest := [.long 7792206123438971426]) ⟨hx, hb, hml, hown, hts⟩ (c_X7_root_ l dC dI y ys yp sa ta 0 2 r_34) (cwV 2 hts gX7_digest_X7_root_ rfl rfl rfl (by decide +kernel) ⟨Nat.le_of_ble_eq_true rfl, Nat.le_of_ble_eq_true rfl⟩) ⟨ax_fbR, va_recv hK hP (ci := 11) (q0 := 0) rfl rfl, ax_prR hPc hKc hS hE⟩ rfl rfl hl.1 rfl (lv_room (Nat.le_of_ble_eq_true rfl)) dX7_digest_170 ⟨Nat.le_of_ble_eq_true rfl, Nat.le_of_ble_eq_true rfl⟩) hS (fun _ _ h9 => h9.elim) (fun _ h9 => h9.elim) (fun r_71 u_73  t H locs ht hvm hw_72 hB hz1 hk1 hS => ?_)
  have hP := ax_keep hP (fun _ h9 => h9) hk1
  refine ax_l (y := 0) hw_72 ?_
  refine va_calll (va_runS (As := [.long 7792206123438971426, .long 0]) (rest := []) ⟨hx, hb, hml, hown, hts⟩ (c_X7_add_ l 7792206123438971426 0) (va_cwS 2 hts gX7_digest_X7_add_ rfl rfl rfl (by decide +kernel) ⟨Nat.le_of_ble_eq_true rfl, Nat.le_of_ble_eq_true rfl⟩) ⟨ax_fbP, ax_prP⟩ rfl rfl hl.1 rfl (lv_room (Nat.le_of_ble_eq_true rfl)) dX7_digest_173 ⟨Nat.le_of_ble_eq_true rfl, Nat.le_of_ble_eq_true rfl⟩) hS (fun _ _ h9 => h9.elim) (fun _ h9 => h9.elim) (fun r_74 u_76  t H locs ht hvm hw_75 hB hz1 hk1 hS => ?_)
  have hP := ax_keep hP (fun _ h9 => h9) hk1
  refine ax_l (y := 1750716868383943198) (hw_75.trans (by decide)) ?_
  refine lv_lstore_n (lv' := [(1, .long 1750716868383943198), (5, .int 2), (4, .int (-1)), (3, .ref r_34), (0, .ref y)]) hx hb dX7_digest_176 rfl hl (by decide) rfl (fun ls hl => ?_)
  refine lv_iinc (v := 3) (lv' := [(5, .int 3), (1, .long 1750716868383943198), (4, .int (-1)), (3, .ref r_34), (0, .ref y)]) hx hb dX7_digest_177 hl (k := 1) rfl (by decide) (by decide) rfl (fun ls hl => ?_)
  refine lv_goto (tgt := 148) hx hb dX7_digest_180 (by decide) ?_
  refine lv_iload hx hb dX7_digest_148 (lv_at hl 0 rfl) ?_
  refine lv_bipush (v := 8) hx hb dX7_digest_150 (by decide) ?_
  refine lv_icmp_ge (tgt := 183) hx hb dX7_digest_152 (by decide) (fun h9 => absurd h9 (by decide)) (fun _ => ?_)
  refine lv_lload_n hx hb dX7_digest_155 rfl (lv_at hl 1 rfl) ?_
  refine lv_aload_n hx hb dX7_digest_156 rfl (lv_at hl 4 rfl) ?_
  refine lv_iload hx hb dX7_digest_157 (lv_at hl 0 rfl) ?_
  refine lv_aload_n hx hb dX7_digest_159 rfl (lv_at hl 3 rfl) ?_
  have hPc := hP.sub (ws' := [(y, .inr (11, [.int 0, .ref ys, .ref yp, .int 0])), (ys, .inr (3, [.int 0, .ref (ta 4), .int 0])), (yp, .inr (3, [.int 0, .ref (ta 4), .int 0]))]) [0, 1, 2] rfl
  have hKc := hK.sub (tys' := []) [] rfl
  refine va_calll (va_runV (As := [.int 3, .ref r_34]) (rest := [.long 1750716868383943198]) ⟨hx, hb, hml, hown, hts⟩ (c_X7_whole_ l dC dI y ys yp sa ta 0 3 r_34) (cwV 2 hts gX7_digest_X7_whole_ rfl rfl rfl (by decide +kernel) ⟨Nat.le_of_ble_eq_true rfl, Nat.le_of_ble_eq_true rfl⟩) ⟨ax_fbR, va_recv hK hP (ci := 11) (q0 := 0) rfl rfl, ax_prR hPc hKc hS hE⟩ rfl rfl hl.1 rfl (lv_room (Nat.le_of_ble_eq_true rfl)) dX7_digest_160 ⟨Nat.le_of_ble_eq_true rfl, Nat.le_of_ble_eq_true rfl⟩) hS (fun _ _ h9 => h9.elim) (fun _ h9 => h9.elim) (fun r_77 u_79  t H locs ht hvm hw_78 hB hz1 hk1 hS => ?_)
  have hP := ax_keep hP (fun _ h9 => h9) hk1
  refine ax_l (y := 0) hw_78 ?_
  refine va_calll (va_runS (As := [.long 1750716868383943198, .long 0]) (rest := []) ⟨hx, hb, hml, hown, hts⟩ (c_X7_add_ l 1750716868383943198 0) (va_cwS 2 hts gX7_digest_X7_add_ rfl rfl rfl (by decide +kernel) ⟨Nat.le_of_ble_eq_true rfl, Nat.le_of_ble_eq_true rfl⟩) ⟨ax_fbP, ax_prP⟩ rfl rfl hl.1 rfl (lv_room (Nat.le_of_ble_eq_true rfl)) dX7_digest_163 ⟨Nat.le_of_ble_eq_true rfl, Nat.le_of_ble_eq_true rfl⟩) hS (fun _ _ h9 => h9.elim) (fun _ h9 => h9.elim) (fun r_80 u_82  t H locs ht hvm hw_81 hB hz1 hk1 hS => ?_)
  have hP := ax_keep hP (fun _ h9 => h9) hk1
  refine ax_l (y := (-1068009301226415710)) (hw_81.trans (by decide)) ?_
  refine lv_aload_n hx hb dX7_digest_166 rfl (lv_at hl 4 rfl) ?_
  refine lv_iload hx hb dX7_digest_167 (lv_at hl 0 rfl) ?_
  refine lv_aload_n hx hb dX7_digest_169 rfl (lv_at hl 3 rfl) ?_
  have hPc := hP.sub (ws' := [(y, .inr (11, [.int 0, .ref ys, .ref yp, .int 0])), (ys, .inr (3, [.int 0, .ref (ta 4), .int 0])), (yp, .inr (3, [.int 0, .ref (ta 4), .int 0]))]) [0, 1, 2] rfl
  have hKc := hK.sub (tys' := []) [] rfl
  refine va_calll (va_runV (As := [.int 3, .ref r_34]) (rest := [.long (-1068009301226415710)]) ⟨hx, hb, hml, hown, hts⟩ (c_X7_root_ l dC dI y ys yp sa ta 0 3 r_34) (cwV 2 hts gX7_digest_X7_root_ rfl rfl rfl (by decide +kernel) ⟨Nat.le_of_ble_eq_true rfl, Nat.le_of_ble_eq_true rfl⟩) ⟨ax_fbR, va_recv hK hP (ci := 11) (q0 := 0) rfl rfl, ax_prR hPc hKc hS hE⟩ rfl rfl hl.1 rfl (lv_room (Nat.le_of_ble_eq_true rfl)) dX7_digest_170 ⟨Nat.le_of_ble_eq_true rfl, Nat.le_of_ble_eq_true rfl⟩) hS (fun _ _ h9 => h9.elim) (fun _ h9 => h9.elim) (fun r_83 u_85  t H locs ht hvm hw_84 hB hz1 hk1 hS => ?_)
  have hP := ax_keep hP (fun _ h9 => h9) hk1
  refine ax_l (y := 0) hw_84 ?_
  refine va_calll (va_runS (As := [.long (-1068009301226415710), .long 0]) (rest := []) ⟨hx, hb, hml, hown, hts⟩ (c_X7_add_ l (-1068009301226415710) 0) (va_cwS 2 hts gX7_digest_X7_add_ rfl rfl rfl (by decide +kernel) ⟨Nat.le_of_ble_eq_true rfl, Nat.le_of_ble_eq_true rfl⟩) ⟨ax_fbP, ax_prP⟩ rfl rfl hl.1 rfl (lv_room (Nat.le_of_ble_eq_true rfl)) dX7_digest_173 ⟨Nat.le_of_ble_eq_true rfl, Nat.le_of_ble_eq_true rfl⟩) hS (fun _ _ h9 => h9.elim) (fun _ h9 => h9.elim) (fun r_86 u_88  t H locs ht hvm hw_87 hB hz1 hk1 hS => ?_)
  have hP := ax_keep hP (fun _ h9 => h9) hk1
  refine ax_l (y := 3785199809400216222) (hw_87.trans (by decide)) ?_
  refine lv_lstore_n (lv' := [(1, .long 3785199809400216222), (5, .int 3), (4, .int (-1)), (3, .ref r_34), (0, .ref y)]) hx hb dX7_digest_176 rfl hl (by decide) rfl (fun ls hl => ?_)
  refine lv_iinc (v := 4) (lv' := [(5, .int 4), (1, .long 3785199809400216222), (4, .int (-1)), (3, .ref r_34), (0, .ref y)]) hx hb dX7_digest_177 hl (k := 1) rfl (by decide) (by decide) rfl (fun ls hl => ?_)
  refine lv_goto (tgt := 148) hx hb dX7_digest_180 (by decide) ?_
  refine lv_iload hx hb dX7_digest_148 (lv_at hl 0 rfl) ?_
  refine lv_bipush (v := 8) hx hb dX7_digest_150 (by decide) ?_
  refine lv_icmp_ge (tgt := 183) hx hb dX7_digest_152 (by decide) (fun h9 => absurd h9 (by decide)) (fun _ => ?_)
  refine lv_lload_n hx hb dX7_digest_155 rfl (lv_at hl 1 rfl) ?_
  refine lv_aload_n hx hb dX7_digest_156 rfl (lv_at hl 4 rfl) ?_
  refine lv_iload hx hb dX7_digest_157 (lv_at hl 0 rfl) ?_
  refine lv_aload_n hx hb dX7_digest_159 rfl (lv_at hl 3 rfl) ?_
  have hPc := hP.sub (ws' := [(y, .inr (11, [.int 0, .ref ys, .ref yp, .int 0])), (ys, .inr (3, [.int 0, .ref (ta 4), .int 0])), (yp, .inr (3, [.int 0, .ref (ta 4), .int 0]))]) [0, 1, 2] rfl
  have hKc := hK.sub (tys' := []) [] rfl
  refine va_calll (va_runV (As := [.int 4, .ref r_34]) (rest := [.long 3785199809400216222]) ⟨hx, hb, hml, hown, hts⟩ (c_X7_whole_ l dC dI y ys yp sa ta 0 4 r_34) (cwV 2 hts gX7_digest_X7_whole_ rfl rfl rfl (by decide +kernel) ⟨Nat.le_of_ble_eq_true rfl, Nat.le_of_ble_eq_true rfl⟩) ⟨ax_fbR, va_recv hK hP (ci := 11) (q0 := 0) rfl rfl, ax_prR hPc hKc hS hE⟩ rfl rfl hl.1 rfl (lv_room (Nat.le_of_ble_eq_true rfl)) dX7_digest_160 ⟨Nat.le_of_ble_eq_true rfl, Nat.le_of_ble_eq_true rfl⟩) hS (fun _ _ h9 => h9.elim) (fun _ h9 => h9.elim) (fun r_89 u_91  t H locs ht hvm hw_90 hB hz1 hk1 hS => ?_)
  have hP := ax_keep hP (fun _ h9 => h9) hk1
  refine ax_l (y := 0) hw_90 ?_
  refine va_calll (va_runS (As := [.long 3785199809400216222, .long 0]) (rest := []) ⟨hx, hb, hml, hown, hts⟩ (c_X7_add_ l 3785199809400216222 0) (va_cwS 2 hts gX7_digest_X7_add_ rfl rfl rfl (by decide +kernel) ⟨Nat.le_of_ble_eq_true rfl, Nat.le_of_ble_eq_true rfl⟩) ⟨ax_fbP, ax_prP⟩ rfl rfl hl.1 rfl (lv_room (Nat.le_of_ble_eq_true rfl)) dX7_digest_163 ⟨Nat.le_of_ble_eq_true rfl, Nat.le_of_ble_eq_true rfl⟩) hS (fun _ _ h9 => h9.elim) (fun _ h9 => h9.elim) (fun r_92 u_94  t H locs ht hvm hw_93 hB hz1 hk1 hS => ?_)
  have hP := ax_keep hP (fun _ h9 => h9) hk1
  refine ax_l (y := 6660729649149393186) (hw_93.trans (by decide)) ?_
  refine lv_aload_n hx hb dX7_digest_166 rfl (lv_at hl 4 rfl) ?_
  refine lv_iload hx hb dX7_digest_167 (lv_at hl 0 rfl) ?_
  refine lv_aload_n hx hb dX7_digest_169 rfl (lv_at hl 3 rfl) ?_
  have hPc := hP.sub (ws' := [(y, .inr (11, [.int 0, .ref ys, .ref yp, .int 0])), (ys, .inr (3, [.int 0, .ref (ta 4), .int 0])), (yp, .inr (3, [.int 0, .ref (ta 4), .int 0]))]) [0, 1, 2] rfl
  have hKc := hK.sub (tys' := []) [] rfl
  refine va_calll (va_runV (As := [.int 4, .ref r_34]) (rest := [.long 6660729649149393186]) ⟨hx, hb, hml, hown, hts⟩ (c_X7_root_ l dC dI y ys yp sa ta 0 4 r_34) (cwV 2 hts gX7_digest_X7_root_ rfl rfl rfl (by decide +kernel) ⟨Nat.le_of_ble_eq_true rfl, Nat.le_of_ble_eq_true rfl⟩) ⟨ax_fbR, va_recv hK hP (ci := 11) (q0 := 0) rfl rfl, ax_prR hPc hKc hS hE⟩ rfl rfl hl.1 rfl (lv_room (Nat.le_of_ble_eq_true rfl)) dX7_digest_170 ⟨Nat.le_of_ble_eq_true rfl, Nat.le_of_ble_eq_true rfl⟩) hS (fun _ _ h9 => h9.elim) (fun _ h9 => h9.elim) (fun r_95 u_97  t H locs ht hvm hw_96 hB hz1 hk1 hS => ?_)
  have hP := ax_keep hP (fun _ h9 => h9) hk1
  refine ax_l (y := 0) hw_96 ?_
  refine va_calll (va_runS (As := [.long 6660729649149393186, .long 0]) (rest := []) ⟨hx, hb, hml, hown, hts⟩ (c_X7_add_ l 6660729649149393186 0) (va_cwS 2 hts gX7_digest_X7_add_ rfl rfl rfl (by decide +kernel) ⟨Nat.le_of_ble_eq_true rfl, Nat.le_of_ble_eq_true rfl⟩) ⟨ax_fbP, ax_prP⟩ rfl rfl hl.1 rfl (lv_room (Nat.le_of_ble_eq_true rfl)) dX7_digest_173 ⟨Nat.le_of_ble_eq_true rfl, Nat.le_of_ble_eq_true rfl⟩) hS (fun _ _ h9 => h9.elim) (fun _ h9 => h9.elim) (fun r_98 u_100  t H locs ht hvm hw_99 hB hz1 hk1 hS => ?_)
  have hP := ax_keep hP (fun _ h9 => h9) hk1
  refine ax_l (y := 3568434312826120990) (hw_99.trans (by decide)) ?_
  refine lv_lstore_n (lv' := [(1, .long 3568434312826120990), (5, .int 4), (4, .int (-1)), (3, .ref r_34), (0, .ref y)]) hx hb dX7_digest_176 rfl hl (by decide) rfl (fun ls hl => ?_)
  refine lv_iinc (v := 5) (lv' := [(5, .int 5), (1, .long 3568434312826120990), (4, .int (-1)), (3, .ref r_34), (0, .ref y)]) hx hb dX7_digest_177 hl (k := 1) rfl (by decide) (by decide) rfl (fun ls hl => ?_)
  refine lv_goto (tgt := 148) hx hb dX7_digest_180 (by decide) ?_
  refine lv_iload hx hb dX7_digest_148 (lv_at hl 0 rfl) ?_
  refine lv_bipush (v := 8) hx hb dX7_digest_150 (by decide) ?_
  refine lv_icmp_ge (tgt := 183) hx hb dX7_digest_152 (by decide) (fun h9 => absurd h9 (by decide)) (fun _ => ?_)
  refine lv_lload_n hx hb dX7_digest_155 rfl (lv_at hl 1 rfl) ?_
  refine lv_aload_n hx hb dX7_digest_156 rfl (lv_at hl 4 rfl) ?_
  refine lv_iload hx hb dX7_digest_157 (lv_at hl 0 rfl) ?_
  refine lv_aload_n hx hb dX7_digest_159 rfl (lv_at hl 3 rfl) ?_
  have hPc := hP.sub (ws' := [(y, .inr (11, [.int 0, .ref ys, .ref yp, .int 0])), (ys, .inr (3, [.int 0, .ref (ta 4), .int 0])), (yp, .inr (3, [.int 0, .ref (ta 4), .int 0]))]) [0, 1, 2] rfl
  have hKc := hK.sub (tys' := []) [] rfl
  refine va_calll (va_runV (As := [.int 5, .ref r_34]) (rest := [.long 3568434312826120990]) ⟨hx, hb, hml, hown, hts⟩ (c_X7_whole_ l dC dI y ys yp sa ta 0 5 r_34) (cwV 2 hts gX7_digest_X7_whole_ rfl rfl rfl (by decide +kernel) ⟨Nat.le_of_ble_eq_true rfl, Nat.le_of_ble_eq_true rfl⟩) ⟨ax_fbR, va_recv hK hP (ci := 11) (q0 := 0) rfl rfl, ax_prR hPc hKc hS hE⟩ rfl rfl hl.1 rfl (lv_room (Nat.le_of_ble_eq_true rfl)) dX7_digest_160 ⟨Nat.le_of_ble_eq_true rfl, Nat.le_of_ble_eq_true rfl⟩) hS (fun _ _ h9 => h9.elim) (fun _ h9 => h9.elim) (fun r_101 u_103  t H locs ht hvm hw_102 hB hz1 hk1 hS => ?_)
  have hP := ax_keep hP (fun _ h9 => h9) hk1
  refine ax_l (y := 0) hw_102 ?_
  refine va_calll (va_runS (As := [.long 3568434312826120990, .long 0]) (rest := []) ⟨hx, hb, hml, hown, hts⟩ (c_X7_add_ l 3568434312826120990 0) (va_cwS 2 hts gX7_digest_X7_add_ rfl rfl rfl (by decide +kernel) ⟨Nat.le_of_ble_eq_true rfl, Nat.le_of_ble_eq_true rfl⟩) ⟨ax_fbP, ax_prP⟩ rfl rfl hl.1 rfl (lv_room (Nat.le_of_ble_eq_true rfl)) dX7_digest_163 ⟨Nat.le_of_ble_eq_true rfl, Nat.le_of_ble_eq_true rfl⟩) hS (fun _ _ h9 => h9.elim) (fun _ h9 => h9.elim) (fun r_104 u_106  t H locs ht hvm hw_105 hB hz1 hk1 hS => ?_)
  have hP := ax_keep hP (fun _ h9 => h9) hk1
  refine ax_l (y := (-59000744647559006)) (hw_105.trans (by decide)) ?_
  refine lv_aload_n hx hb dX7_digest_166 rfl (lv_at hl 4 rfl) ?_
  refine lv_iload hx hb dX7_digest_167 (lv_at hl 0 rfl) ?_
  refine lv_aload_n hx hb dX7_digest_169 rfl (lv_at hl 3 rfl) ?_
  have hPc := hP.sub (ws' := [(y, .inr (11, [.int 0, .ref ys, .ref yp, .int 0])), (ys, .inr (3, [.int 0, .ref (ta 4), .int 0])), (yp, .inr (3, [.int 0, .ref (ta 4), .int 0]))]) [0, 1, 2] rfl
  have hKc := hK.sub (tys' := []) [] rfl
  refine va_calll (va_runV (As := [.int 5, .ref r_34]) (rest := [.long (-59000744647559006)]) ⟨hx, hb, hml, hown, hts⟩ (c_X7_root_ l dC dI y ys yp sa ta 0 5 r_34) (cwV 2 hts gX7_digest_X7_root_ rfl rfl rfl (by decide +kernel) ⟨Nat.le_of_ble_eq_true rfl, Nat.le_of_ble_eq_true rfl⟩) ⟨ax_fbR, va_recv hK hP (ci := 11) (q0 := 0) rfl rfl, ax_prR hPc hKc hS hE⟩ rfl rfl hl.1 rfl (lv_room (Nat.le_of_ble_eq_true rfl)) dX7_digest_170 ⟨Nat.le_of_ble_eq_true rfl, Nat.le_of_ble_eq_true rfl⟩) hS (fun _ _ h9 => h9.elim) (fun _ h9 => h9.elim) (fun r_107 u_109  t H locs ht hvm hw_108 hB hz1 hk1 hS => ?_)
  have hP := ax_keep hP (fun _ h9 => h9) hk1
  refine ax_l (y := 0) hw_108 ?_
  refine va_calll (va_runS (As := [.long (-59000744647559006), .long 0]) (rest := []) ⟨hx, hb, hml, hown, hts⟩ (c_X7_add_ l (-59000744647559006) 0) (va_cwS 2 hts gX7_digest_X7_add_ rfl rfl rfl (by decide +kernel) ⟨Nat.le_of_ble_eq_true rfl, Nat.le_of_ble_eq_true rfl⟩) ⟨ax_fbP, ax_prP⟩ rfl rfl hl.1 rfl (lv_room (Nat.le_of_ble_eq_true rfl)) dX7_digest_173 ⟨Nat.le_of_ble_eq_true rfl, Nat.le_of_ble_eq_true rfl⟩) hS (fun _ _ h9 => h9.elim) (fun _ h9 => h9.elim) (fun r_110 u_112  t H locs ht hvm hw_111 hB hz1 hk1 hS => ?_)
  have hP := ax_keep hP (fun _ h9 => h9) hk1
  refine ax_l (y := (-1829023084074329186)) (hw_111.trans (by decide)) ?_
  refine lv_lstore_n (lv' := [(1, .long (-1829023084074329186)), (5, .int 5), (4, .int (-1)), (3, .ref r_34), (0, .ref y)]) hx hb dX7_digest_176 rfl hl (by decide) rfl (fun ls hl => ?_)
  refine lv_iinc (v := 6) (lv' := [(5, .int 6), (1, .long (-1829023084074329186)), (4, .int (-1)), (3, .ref r_34), (0, .ref y)]) hx hb dX7_digest_177 hl (k := 1) rfl (by decide) (by decide) rfl (fun ls hl => ?_)
  refine lv_goto (tgt := 148) hx hb dX7_digest_180 (by decide) ?_
  refine lv_iload hx hb dX7_digest_148 (lv_at hl 0 rfl) ?_
  refine lv_bipush (v := 8) hx hb dX7_digest_150 (by decide) ?_
  refine lv_icmp_ge (tgt := 183) hx hb dX7_digest_152 (by decide) (fun h9 => absurd h9 (by decide)) (fun _ => ?_)
  refine lv_lload_n hx hb dX7_digest_155 rfl (lv_at hl 1 rfl) ?_
  refine lv_aload_n hx hb dX7_digest_156 rfl (lv_at hl 4 rfl) ?_
  refine lv_iload hx hb dX7_digest_157 (lv_at hl 0 rfl) ?_
  refine lv_aload_n hx hb dX7_digest_159 rfl (lv_at hl 3 rfl) ?_
  have hPc := hP.sub (ws' := [(y, .inr (11, [.int 0, .ref ys, .ref yp, .int 0])), (ys, .inr (3, [.int 0, .ref (ta 4), .int 0])), (yp, .inr (3, [.int 0, .ref (ta 4), .int 0]))]) [0, 1, 2] rfl
  have hKc := hK.sub (tys' := []) [] rfl
  refine va_calll (va_runV (As := [.int 6, .ref r_34]) (rest := [.long (-1829023084074329186)]) ⟨hx, hb, hml, hown, hts⟩ (c_X7_whole_ l dC dI y ys yp sa ta 0 6 r_34) (cwV 2 hts gX7_digest_X7_whole_ rfl rfl rfl (by decide +kernel) ⟨Nat.le_of_ble_eq_true rfl, Nat.le_of_ble_eq_true rfl⟩) ⟨ax_fbR, va_recv hK hP (ci := 11) (q0 := 0) rfl rfl, ax_prR hPc hKc hS hE⟩ rfl rfl hl.1 rfl (lv_room (Nat.le_of_ble_eq_true rfl)) dX7_digest_160 ⟨Nat.le_of_ble_eq_true rfl, Nat.le_of_ble_eq_true rfl⟩) hS (fun _ _ h9 => h9.elim) (fun _ h9 => h9.elim) (fun r_113 u_115  t H locs ht hvm hw_114 hB hz1 hk1 hS => ?_)
  have hP := ax_keep hP (fun _ h9 => h9) hk1
  refine ax_l (y := 0) hw_114 ?_
  refine va_calll (va_runS (As := [.long (-1829023084074329186), .long 0]) (rest := []) ⟨hx, hb, hml, hown, hts⟩ (c_X7_add_ l (-1829023084074329186) 0) (va_cwS 2 hts gX7_digest_X7_add_ rfl rfl rfl (by decide +kernel) ⟨Nat.le_of_ble_eq_true rfl, Nat.le_of_ble_eq_true rfl⟩) ⟨ax_fbP, ax_prP⟩ rfl rfl hl.1 rfl (lv_room (Nat.le_of_ble_eq_true rfl)) dX7_digest_163 ⟨Nat.le_of_ble_eq_true rfl, Nat.le_of_ble_eq_true rfl⟩) hS (fun _ _ h9 => h9.elim) (fun _ h9 => h9.elim) (fun r_116 u_118  t H locs ht hvm hw_117 hB hz1 hk1 hS => ?_)
  have hP := ax_keep hP (fun _ h9 => h9) hk1
  refine ax_l (y := (-1359483385175549918)) (hw_117.trans (by decide)) ?_
  refine lv_aload_n hx hb dX7_digest_166 rfl (lv_at hl 4 rfl) ?_
  refine lv_iload hx hb dX7_digest_167 (lv_at hl 0 rfl) ?_
  refine lv_aload_n hx hb dX7_digest_169 rfl (lv_at hl 3 rfl) ?_
  have hPc := hP.sub (ws' := [(y, .inr (11, [.int 0, .ref ys, .ref yp, .int 0])), (ys, .inr (3, [.int 0, .ref (ta 4), .int 0])), (yp, .inr (3, [.int 0, .ref (ta 4), .int 0]))]) [0, 1, 2] rfl
  have hKc := hK.sub (tys' := []) [] rfl
  refine va_calll (va_runV (As := [.int 6, .ref r_34]) (rest := [.long (-1359483385175549918)]) ⟨hx, hb, hml, hown, hts⟩ (c_X7_root_ l dC dI y ys yp sa ta 0 6 r_34) (cwV 2 hts gX7_digest_X7_root_ rfl rfl rfl (by decide +kernel) ⟨Nat.le_of_ble_eq_true rfl, Nat.le_of_ble_eq_true rfl⟩) ⟨ax_fbR, va_recv hK hP (ci := 11) (q0 := 0) rfl rfl, ax_prR hPc hKc hS hE⟩ rfl rfl hl.1 rfl (lv_room (Nat.le_of_ble_eq_true rfl)) dX7_digest_170 ⟨Nat.le_of_ble_eq_true rfl, Nat.le_of_ble_eq_true rfl⟩) hS (fun _ _ h9 => h9.elim) (fun _ h9 => h9.elim) (fun r_119 u_121  t H locs ht hvm hw_120 hB hz1 hk1 hS => ?_)
  have hP := ax_keep hP (fun _ h9 => h9) hk1
  refine ax_l (y := 0) hw_120 ?_
  refine va_calll (va_runS (As := [.long (-1359483385175549918), .long 0]) (rest := []) ⟨hx, hb, hml, hown, hts⟩ (c_X7_add_ l (-1359483385175549918) 0) (va_cwS 2 hts gX7_digest_X7_add_ rfl rfl rfl (by decide +kernel) ⟨Nat.le_of_ble_eq_true rfl, Nat.le_of_ble_eq_true rfl⟩) ⟨ax_fbP, ax_prP⟩ rfl rfl hl.1 rfl (lv_room (Nat.le_of_ble_eq_true rfl)) dX7_digest_173 ⟨Nat.le_of_ble_eq_true rfl, Nat.le_of_ble_eq_true rfl⟩) hS (fun _ _ h9 => h9.elim) (fun _ h9 => h9.elim) (fun r_122 u_124  t H locs ht hvm hw_123 hB hz1 hk1 hS => ?_)
  have hP := ax_keep hP (fun _ h9 => h9) hk1
  refine ax_l (y := (-5250496793022944226)) (hw_123.trans (by decide)) ?_
  refine lv_lstore_n (lv' := [(1, .long (-5250496793022944226)), (5, .int 6), (4, .int (-1)), (3, .ref r_34), (0, .ref y)]) hx hb dX7_digest_176 rfl hl (by decide) rfl (fun ls hl => ?_)
  refine lv_iinc (v := 7) (lv' := [(5, .int 7), (1, .long (-5250496793022944226)), (4, .int (-1)), (3, .ref r_34), (0, .ref y)]) hx hb dX7_digest_177 hl (k := 1) rfl (by decide) (by decide) rfl (fun ls hl => ?_)
  refine lv_goto (tgt := 148) hx hb dX7_digest_180 (by decide) ?_
  refine lv_iload hx hb dX7_digest_148 (lv_at hl 0 rfl) ?_
  refine lv_bipush (v := 8) hx hb dX7_digest_150 (by decide) ?_
  refine lv_icmp_ge (tgt := 183) hx hb dX7_digest_152 (by decide) (fun h9 => absurd h9 (by decide)) (fun _ => ?_)
  refine lv_lload_n hx hb dX7_digest_155 rfl (lv_at hl 1 rfl) ?_
  refine lv_aload_n hx hb dX7_digest_156 rfl (lv_at hl 4 rfl) ?_
  refine lv_iload hx hb dX7_digest_157 (lv_at hl 0 rfl) ?_
  refine lv_aload_n hx hb dX7_digest_159 rfl (lv_at hl 3 rfl) ?_
  have hPc := hP.sub (ws' := [(y, .inr (11, [.int 0, .ref ys, .ref yp, .int 0])), (ys, .inr (3, [.int 0, .ref (ta 4), .int 0])), (yp, .inr (3, [.int 0, .ref (ta 4), .int 0]))]) [0, 1, 2] rfl
  have hKc := hK.sub (tys' := []) [] rfl
  refine va_calll (va_runV (As := [.int 7, .ref r_34]) (rest := [.long (-5250496793022944226)]) ⟨hx, hb, hml, hown, hts⟩ (c_X7_whole_ l dC dI y ys yp sa ta 0 7 r_34) (cwV 2 hts gX7_digest_X7_whole_ rfl rfl rfl (by decide +kernel) ⟨Nat.le_of_ble_eq_true rfl, Nat.le_of_ble_eq_true rfl⟩) ⟨ax_fbR, va_recv hK hP (ci := 11) (q0 := 0) rfl rfl, ax_prR hPc hKc hS hE⟩ rfl rfl hl.1 rfl (lv_room (Nat.le_of_ble_eq_true rfl)) dX7_digest_160 ⟨Nat.le_of_ble_eq_true rfl, Nat.le_of_ble_eq_true rfl⟩) hS (fun _ _ h9 => h9.elim) (fun _ h9 => h9.elim) (fun r_125 u_127  t H locs ht hvm hw_126 hB hz1 hk1 hS => ?_)
  have hP := ax_keep hP (fun _ h9 => h9) hk1
  refine ax_l (y := 0) hw_126 ?_
  refine va_calll (va_runS (As := [.long (-5250496793022944226), .long 0]) (rest := []) ⟨hx, hb, hml, hown, hts⟩ (c_X7_add_ l (-5250496793022944226) 0) (va_cwS 2 hts gX7_digest_X7_add_ rfl rfl rfl (by decide +kernel) ⟨Nat.le_of_ble_eq_true rfl, Nat.le_of_ble_eq_true rfl⟩) ⟨ax_fbP, ax_prP⟩ rfl rfl hl.1 rfl (lv_room (Nat.le_of_ble_eq_true rfl)) dX7_digest_163 ⟨Nat.le_of_ble_eq_true rfl, Nat.le_of_ble_eq_true rfl⟩) hS (fun _ _ h9 => h9.elim) (fun _ h9 => h9.elim) (fun r_128 u_130  t H locs ht hvm hw_129 hB hz1 hk1 hS => ?_)
  have hP := ax_keep hP (fun _ h9 => h9) hk1
  refine ax_l (y := 3255296079674693538) (hw_129.trans (by decide)) ?_
  refine lv_aload_n hx hb dX7_digest_166 rfl (lv_at hl 4 rfl) ?_
  refine lv_iload hx hb dX7_digest_167 (lv_at hl 0 rfl) ?_
  refine lv_aload_n hx hb dX7_digest_169 rfl (lv_at hl 3 rfl) ?_
  have hPc := hP.sub (ws' := [(y, .inr (11, [.int 0, .ref ys, .ref yp, .int 0])), (ys, .inr (3, [.int 0, .ref (ta 4), .int 0])), (yp, .inr (3, [.int 0, .ref (ta 4), .int 0]))]) [0, 1, 2] rfl
  have hKc := hK.sub (tys' := []) [] rfl
  refine va_calll (va_runV (As := [.int 7, .ref r_34]) (rest := [.long 3255296079674693538]) ⟨hx, hb, hml, hown, hts⟩ (c_X7_root_ l dC dI y ys yp sa ta 0 7 r_34) (cwV 2 hts gX7_digest_X7_root_ rfl rfl rfl (by decide +kernel) ⟨Nat.le_of_ble_eq_true rfl, Nat.le_of_ble_eq_true rfl⟩) ⟨ax_fbR, va_recv hK hP (ci := 11) (q0 := 0) rfl rfl, ax_prR hPc hKc hS hE⟩ rfl rfl hl.1 rfl (lv_room (Nat.le_of_ble_eq_true rfl)) dX7_digest_170 ⟨Nat.le_of_ble_eq_true rfl, Nat.le_of_ble_eq_true rfl⟩) hS (fun _ _ h9 => h9.elim) (fun _ h9 => h9.elim) (fun r_131 u_133  t H locs ht hvm hw_132 hB hz1 hk1 hS => ?_)
  have hP := ax_keep hP (fun _ h9 => h9) hk1
  refine ax_l (y := 0) hw_132 ?_
  refine va_calll (va_runS (As := [.long 3255296079674693538, .long 0]) (rest := []) ⟨hx, hb, hml, hown, hts⟩ (c_X7_add_ l 3255296079674693538 0) (va_cwS 2 hts gX7_digest_X7_add_ rfl rfl rfl (by decide +kernel) ⟨Nat.le_of_ble_eq_true rfl, Nat.le_of_ble_eq_true rfl⟩) ⟨ax_fbP, ax_prP⟩ rfl rfl hl.1 rfl (lv_room (Nat.le_of_ble_eq_true rfl)) dX7_digest_173 ⟨Nat.le_of_ble_eq_true rfl, Nat.le_of_ble_eq_true rfl⟩) hS (fun _ _ h9 => h9.elim) (fun _ h9 => h9.elim) (fun r_134 u_136  t H locs ht hvm hw_135 hB hz1 hk1 hS => ?_)
  have hP := ax_keep hP (fun _ h9 => h9) hk1
  refine ax_l (y := 8680458101367741598) (hw_135.trans (by decide)) ?_
  refine lv_lstore_n (lv' := [(1, .long 8680458101367741598), (5, .int 7), (4, .int (-1)), (3, .ref r_34), (0, .ref y)]) hx hb dX7_digest_176 rfl hl (by decide) rfl (fun ls hl => ?_)
  refine lv_iinc (v := 8) (lv' := [(5, .int 8), (1, .long 8680458101367741598), (4, .int (-1)), (3, .ref r_34), (0, .ref y)]) hx hb dX7_digest_177 hl (k := 1) rfl (by decide) (by decide) rfl (fun ls hl => ?_)
  refine lv_goto (tgt := 148) hx hb dX7_digest_180 (by decide) ?_
  refine lv_iload hx hb dX7_digest_148 (lv_at hl 0 rfl) ?_
  refine lv_bipush (v := 8) hx hb dX7_digest_150 (by decide) ?_
  refine lv_icmp_ge (tgt := 183) hx hb dX7_digest_152 (by decide) (fun _ => ?_) (fun h9 => absurd (by decide) h9)
  refine lv_lload_n hx hb dX7_digest_183 rfl (lv_at hl 1 rfl) ?_
  refine lv_aload_n hx hb dX7_digest_184 rfl (lv_at hl 4 rfl) ?_
  refine lv_aload_n hx hb dX7_digest_185 rfl (lv_at hl 3 rfl) ?_
  have hPc := hP.sub (ws' := [(y, .inr (11, [.int 0, .ref ys, .ref yp, .int 0])), (ys, .inr (3, [.int 0, .ref (ta 4), .int 0])), (yp, .inr (3, [.int 0, .ref (ta 4), .int 0]))]) [0, 1, 2] rfl
  have hKc := hK.sub (tys' := []) [] rfl
  refine va_calli (va_runV (As := [.ref r_34]) (rest := [.long 8680458101367741598]) ⟨hx, hb, hml, hown, hts⟩ (c_X7_brightest l dC dI y ys yp sa ta 0 r_34) (cwV 1 hts gX7_digest_X7_brightest rfl rfl rfl (by decide +kernel) ⟨Nat.le_of_ble_eq_true rfl, Nat.le_of_ble_eq_true rfl⟩) ⟨ax_fbR, va_recv hK hP (ci := 11) (q0 := 0) rfl rfl, ax_prR hPc hKc hS hE⟩ rfl rfl hl.1 rfl (lv_room (Nat.le_of_ble_eq_true rfl)) dX7_digest_186 ⟨Nat.le_of_ble_eq_true rfl, Nat.le_of_ble_eq_true rfl⟩) hS (fun _ _ h9 => h9.elim) (fun _ h9 => h9.elim) (fun r_137 u_139  t H locs ht hvm hw_138 hB hz1 hk1 hS => ?_)
  have hP := ax_keep hP (fun _ h9 => h9) hk1
  refine ax_i (y := 0) hw_138 ?_
  refine lv_i2l (v := 0) hx hb dX7_digest_189 (by decide) ?_
  refine va_calll (va_runS (As := [.long 8680458101367741598, .long 0]) (rest := []) ⟨hx, hb, hml, hown, hts⟩ (c_X7_add_ l 8680458101367741598 0) (va_cwS 2 hts gX7_digest_X7_add_ rfl rfl rfl (by decide +kernel) ⟨Nat.le_of_ble_eq_true rfl, Nat.le_of_ble_eq_true rfl⟩) ⟨ax_fbP, ax_prP⟩ rfl rfl hl.1 rfl (lv_room (Nat.le_of_ble_eq_true rfl)) dX7_digest_190 ⟨Nat.le_of_ble_eq_true rfl, Nat.le_of_ble_eq_true rfl⟩) hS (fun _ _ h9 => h9.elim) (fun _ h9 => h9.elim) (fun r_140 u_142  t H locs ht hvm hw_141 hB hz1 hk1 hS => ?_)
  have hP := ax_keep hP (fun _ h9 => h9) hk1
  refine ax_l (y := (-7606959963243284702)) (hw_141.trans (by decide)) ?_
  refine lv_aload_n hx hb dX7_digest_193 rfl (lv_at hl 4 rfl) ?_
  refine lv_aload_n hx hb dX7_digest_194 rfl (lv_at hl 3 rfl) ?_
  have hPc := hP.sub (ws' := [(y, .inr (11, [.int 0, .ref ys, .ref yp, .int 0])), (ys, .inr (3, [.int 0, .ref (ta 4), .int 0])), (yp, .inr (3, [.int 0, .ref (ta 4), .int 0]))]) [0, 1, 2] rfl
  have hKc := hK.sub (tys' := []) [] rfl
  refine va_calli (va_runV (As := [.ref r_34]) (rest := [.long (-7606959963243284702)]) ⟨hx, hb, hml, hown, hts⟩ (c_X7_dark l dC dI y ys yp sa ta 0 r_34) (cwV 1 hts gX7_digest_X7_dark rfl rfl rfl (by decide +kernel) ⟨Nat.le_of_ble_eq_true rfl, Nat.le_of_ble_eq_true rfl⟩) ⟨ax_fbR, va_recv hK hP (ci := 11) (q0 := 0) rfl rfl, ax_prR hPc hKc hS hE⟩ rfl rfl hl.1 rfl (lv_room (Nat.le_of_ble_eq_true rfl)) dX7_digest_195 ⟨Nat.le_of_ble_eq_true rfl, Nat.le_of_ble_eq_true rfl⟩) hS (fun _ _ h9 => h9.elim) (fun _ h9 => h9.elim) (fun r_143 u_145  t H locs ht hvm hw_144 hB hz1 hk1 hS => ?_)
  have hP := ax_keep hP (fun _ h9 => h9) hk1
  refine ax_i (y := 255) hw_144 ?_
  refine lv_i2l (v := 255) hx hb dX7_digest_198 (by decide) ?_
  refine va_calll (va_runS (As := [.long (-7606959963243284702), .long 255]) (rest := []) ⟨hx, hb, hml, hown, hts⟩ (c_X7_add_ l (-7606959963243284702) 255) (va_cwS 2 hts gX7_digest_X7_add_ rfl rfl rfl (by decide +kernel) ⟨Nat.le_of_ble_eq_true rfl, Nat.le_of_ble_eq_true rfl⟩) ⟨ax_fbP, ax_prP⟩ rfl rfl hl.1 rfl (lv_room (Nat.le_of_ble_eq_true rfl)) dX7_digest_199 ⟨Nat.le_of_ble_eq_true rfl, Nat.le_of_ble_eq_true rfl⟩) hS (fun _ _ h9 => h9.elim) (fun _ h9 => h9.elim) (fun r_146 u_148  t H locs ht hvm hw_147 hB hz1 hk1 hS => ?_)
  have hP := ax_keep hP (fun _ h9 => h9) hk1
  refine ax_l (y := 3991914097682345501) (hw_147.trans (by decide)) ?_
  refine lv_aload_n hx hb dX7_digest_202 rfl (lv_at hl 4 rfl) ?_
  refine lv_aload_n hx hb dX7_digest_203 rfl (lv_at hl 3 rfl) ?_
  have hPc := hP.sub (ws' := [(y, .inr (11, [.int 0, .ref ys, .ref yp, .int 0])), (ys, .inr (3, [.int 0, .ref (ta 4), .int 0])), (yp, .inr (3, [.int 0, .ref (ta 4), .int 0]))]) [0, 1, 2] rfl
  have hKc := hK.sub (tys' := []) [] rfl
  refine va_calli (va_runV (As := [.ref r_34]) (rest := [.long 3991914097682345501]) ⟨hx, hb, hml, hown, hts⟩ (c_X7_period l dC dI y ys yp sa ta 0 r_34) (cwV 1 hts gX7_digest_X7_period rfl rfl rfl (by decide +kernel) ⟨Nat.le_of_ble_eq_true rfl, Nat.le_of_ble_eq_true rfl⟩) ⟨ax_fbR, va_recv hK hP (ci := 11) (q0 := 0) rfl rfl, ax_prR hPc hKc hS hE⟩ rfl rfl hl.1 rfl (lv_room (Nat.le_of_ble_eq_true rfl)) dX7_digest_204 ⟨Nat.le_of_ble_eq_true rfl, Nat.le_of_ble_eq_true rfl⟩) hS (fun _ _ h9 => h9.elim) (fun _ h9 => h9.elim) (fun r_149 u_151  t H locs ht hvm hw_150 hB hz1 hk1 hS => ?_)
  have hP := ax_keep hP (fun _ h9 => h9) hk1
  refine ax_i (y := 1) hw_150 ?_
  refine lv_i2l (v := 1) hx hb dX7_digest_207 (by decide) ?_
  refine va_calll (va_runS (As := [.long 3991914097682345501, .long 1]) (rest := []) ⟨hx, hb, hml, hown, hts⟩ (c_X7_add_ l 3991914097682345501 1) (va_cwS 2 hts gX7_digest_X7_add_ rfl rfl rfl (by decide +kernel) ⟨Nat.le_of_ble_eq_true rfl, Nat.le_of_ble_eq_true rfl⟩) ⟨ax_fbP, ax_prP⟩ rfl rfl hl.1 rfl (lv_room (Nat.le_of_ble_eq_true rfl)) dX7_digest_208 ⟨Nat.le_of_ble_eq_true rfl, Nat.le_of_ble_eq_true rfl⟩) hS (fun _ _ h9 => h9.elim) (fun _ h9 => h9.elim) (fun r_152 u_154  t H locs ht hvm hw_153 hB hz1 hk1 hS => ?_)
  have hP := ax_keep hP (fun _ h9 => h9) hk1
  refine ax_l (y := (-5377871487814150780)) (hw_153.trans (by decide)) ?_
  refine lv_lstore_n (lv' := [(1, .long (-5377871487814150780)), (5, .int 8), (4, .int (-1)), (3, .ref r_34), (0, .ref y)]) hx hb dX7_digest_211 rfl hl (by decide) rfl (fun ls hl => ?_)
  refine lv_iinc (v := 0) (lv' := [(4, .int 0), (1, .long (-5377871487814150780)), (5, .int 8), (3, .ref r_34), (0, .ref y)]) hx hb dX7_digest_212 hl (k := 2) rfl (by decide) (by decide) rfl (fun ls hl => ?_)
  refine lv_goto (tgt := 109) hx hb dX7_digest_215 (by decide) ?_
  refine lv_iload hx hb dX7_digest_109 (lv_at hl 0 rfl) ?_
  refine lv_aload_n hx hb dX7_digest_111 rfl (lv_at hl 4 rfl) ?_
  refine va_get (D := (dC, dI)) (ci := 11) (v := .ref yp) (C := RX7) (T := TX7) (N := 4) hx hb hts (by decide +kernel) hown hK hP 0 rfl rfl 2 (by decide) (hts (.fieldLink RX7 16 "DiffractoryModel" "parts" "Ljava/util/ArrayList;") (by decide +kernel)) (fun _ h9 => h9) rfl dX7_digest_112 ?_
  have hPc := hP.sub (ws' := [(yp, .inr (3, [.int 0, .ref (ta 4), .int 0]))]) [2] rfl
  have hKc := hK.sub (tys' := []) [] rfl
  refine va_calli (va_runV (As := []) (rest := [.int 0]) ⟨hx, hb, hml, hown, hts⟩ (c_Jx4a65c_size_8abf5 l dC dI yp (ta 4) sa ta 0 0) (cwV 0 hts gX7_digest_Jx4a65c_size_8abf5 rfl rfl rfl (by decide +kernel) ⟨Nat.le_of_ble_eq_true rfl, Nat.le_of_ble_eq_true rfl⟩) ⟨ax_fbR, va_recv hK hP (ci := 3) (q0 := 2) rfl rfl, ax_prR hPc hKc hS hE⟩ rfl rfl hl.1 rfl (lv_room (Nat.le_of_ble_eq_true rfl)) dX7_digest_115 ⟨Nat.le_of_ble_eq_true rfl, Nat.le_of_ble_eq_true rfl⟩) hS (fun _ _ h9 => h9.elim) (fun _ h9 => h9.elim) (fun r_155 u_157  t H locs ht hvm hw_156 hB hz1 hk1 hS => ?_)
  have hP := ax_keep hP (fun _ h9 => h9) hk1
  refine ax_i (y := 0) hw_156 ?_
  refine lv_icmp_ge (tgt := 218) hx hb dX7_digest_118 (by decide) (fun _ => ?_) (fun h9 => absurd (by decide) h9)
  refine lv_iconst (v := 0) hx hb dX7_digest_218 (by decide) ?_
  refine lv_istore (lv' := [(4, .int 0), (1, .long (-5377871487814150780)), (5, .int 8), (3, .ref r_34), (0, .ref y)]) hx hb dX7_digest_219 hl (by decide) rfl (fun ls hl => ?_)
  refine lv_iload hx hb dX7_digest_221 (lv_at hl 0 rfl) ?_
  refine lv_aload_n hx hb dX7_digest_223 rfl (lv_at hl 4 rfl) ?_
  refine va_get (D := (dC, dI)) (ci := 11) (v := .ref yp) (C := RX7) (T := TX7) (N := 4) hx hb hts (by decide +kernel) hown hK hP 0 rfl rfl 2 (by decide) (hts (.fieldLink RX7 16 "DiffractoryModel" "parts" "Ljava/util/ArrayList;") (by decide +kernel)) (fun _ h9 => h9) rfl dX7_digest_224 ?_
  have hPc := hP.sub (ws' := [(yp, .inr (3, [.int 0, .ref (ta 4), .int 0]))]) [2] rfl
  have hKc := hK.sub (tys' := []) [] rfl
  refine va_calli (va_runV (As := []) (rest := [.int 0]) ⟨hx, hb, hml, hown, hts⟩ (c_Jx4a65c_size_8abf5 l dC dI yp (ta 4) sa ta 0 0) (cwV 0 hts gX7_digest_Jx4a65c_size_8abf5 rfl rfl rfl (by decide +kernel) ⟨Nat.le_of_ble_eq_true rfl, Nat.le_of_ble_eq_true rfl⟩) ⟨ax_fbR, va_recv hK hP (ci := 3) (q0 := 2) rfl rfl, ax_prR hPc hKc hS hE⟩ rfl rfl hl.1 rfl (lv_room (Nat.le_of_ble_eq_true rfl)) dX7_digest_227 ⟨Nat.le_of_ble_eq_true rfl, Nat.le_of_ble_eq_true rfl⟩) hS (fun _ _ h9 => h9.elim) (fun _ h9 => h9.elim) (fun r_158 u_160  t H locs ht hvm hw_159 hB hz1 hk1 hS => ?_)
  have hP := ax_keep hP (fun _ h9 => h9) hk1
  refine ax_i (y := 0) hw_159 ?_
  refine lv_icmp_ge (tgt := 310) hx hb dX7_digest_230 (by decide) (fun _ => ?_) (fun h9 => absurd (by decide) h9)
  refine lv_lload_n hx hb dX7_digest_310 rfl (lv_at hl 1 rfl) ?_
  refine W.widen (k := 2) (n := 4) (Nat.le_of_ble_eq_true rfl) (Nat.le_of_ble_eq_true rfl) ?_
  have hP9 := hP.sub (ws' := [(y, .inr (11, [.int 0, .ref ys, .ref yp, .int 0]))]) [0] rfl
  have hD9 := hD.sub (ws' := [(y, .inr (11, [.int 0, .ref ys, .ref yp, .int 0]))]) [0] (by decide) rfl
  have hK9 := hK.sub (tys' := []) [] rfl
  exact W.lret (v := (-5377871487814150780)) hx hb hr (fun t ht hW => ⟨⟨(-5377871487814150780), (), rfl, rfl, by rw [ht]; exact hP9, va_K.moved hW.alike hK9, hD9⟩, hS.F ht⟩) hS.2.2 dX7_digest_311
