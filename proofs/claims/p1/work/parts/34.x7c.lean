set_option maxHeartbeats 4000000 in
set_option maxRecDepth 100000 in
theorem c_X7_whole__ (l : Launch) (dC : Nat → ClassId) (dI : Nat → Nat → Nat) (y ys yp : Nat) (sa ta : Nat → Nat) (sz : Nat) (th : Int32) (p0 : Int32) (p1 : Int32) : Met l yX7_whole__ wsX7_whole__ ({ frames := 40, cells := 2, slots := 4, locals := 1000 }) (va_Pc [.ref y, .int p0, .int p1] (ax_W (dC, dI) vwCl [(y, .inr (11, [.int th, .ref ys, .ref yp, .int 0])), (ys, .inr (3, [.int 0, .ref (ta 4), .int 0])), (yp, .inr (3, [.int 0, .ref (ta 4), .int 0]))] [] sa ta sz)) (va_Ql (fun (r : Int64) (u : Int32) => ((p0.toInt = -1 ∧ (0 ≤ p1.toInt ∧ p1.toInt ≤ 7)) ∧ u = 0 ∧ r = 0) ∨ (¬ ((p0.toInt = -1 ∧ (0 ≤ p1.toInt ∧ p1.toInt ≤ 7))) ∧ u = 1)) (fun (u : Int32) (t : State) => va_P (dC, dI) vwCl [(y, .inr (11, [.int u, .ref ys, .ref yp, .int 0]))] t.heap ∧ va_K (dC, dI) vwCl [] t ∧ va_D (va_A [(y, .inr (11, [.int th, .ref ys, .ref yp, .int 0])), (ys, .inr (3, [.int 0, .ref (ta 4), .int 0])), (yp, .inr (3, [.int 0, .ref (ta 4), .int 0]))] sz) [(y, .inr (11, [.int u, .ref ys, .ref yp, .int 0]))]) (va_A [(y, .inr (11, [.int th, .ref ys, .ref yp, .int 0])), (ys, .inr (3, [.int 0, .ref (ta 4), .int 0])), (yp, .inr (3, [.int 0, .ref (ta 4), .int 0]))] sz)) 2 4 (va_A [(y, .inr (11, [.int th, .ref ys, .ref yp, .int 0])), (ys, .inr (3, [.int 0, .ref (ta 4), .int 0])), (yp, .inr (3, [.int 0, .ref (ta 4), .int 0]))] sz) := by
  refine Met.ofW (cc := cX7_whole__) (maxL := 3) (ret := (some .long)) (by decide) rfl ?_
  intro p e s m args below meth c s₁ B hml hv
  obtain ⟨rfl, hsz, hP, hK, hD0, hE⟩ := hv
  have hx := B.exec
  have hb := B.bytes
  have hr := B.returns
  have hts := atoms_spec (ws := wsX7_whole__) B.pre
  have hown : s.vm.findClass RX7 = some m.cls := findClass_of_methodNamed B.named
  have hlocks := B.notSynchronized
  subst hsz
  have hD := hD0.self (sz := s.heap.size)
  generalize hAe : va_A [(y, .inr (11, [.int th, .ref ys, .ref yp, .int 0])), (ys, .inr (3, [.int 0, .ref (ta 4), .int 0])), (yp, .inr (3, [.int 0, .ref (ta 4), .int 0]))] s.heap.size = A at hD hE ⊢
  have hA : ∀ q : Nat, s.heap.size ≤ q → A q := fun q h => by rw [← hAe]; exact Or.inr h
  have hS : va_S A s.heap s.heap [] := va_S.rf
  have hl := lv_entry ([.ref y, .int p0, .int p1]) (n := 3) (Nat.le_of_ble_eq_true rfl)
  rw [lg_entry_eq]
  generalize (lg_sl ([.ref y, .int p0, .int p1]) ++ List.replicate (3 - (lg_sl ([.ref y, .int p0, .int p1])).length) Slot.unset).toArray = ls at hl ⊢
  have hl : lv_has ls 3 [(0, .ref y), (1, .int p0), (2, .int p1)] := hl
  have hP : va_P (dC, dI) vwCl [(y, .inr (11, [.int th, .ref ys, .ref yp, .int 0])), (ys, .inr (3, [.int 0, .ref (ta 4), .int 0])), (yp, .inr (3, [.int 0, .ref (ta 4), .int 0]))] s.heap := hP
  refine lv_aload_n hx hb dX7_whole___0 rfl (lv_at hl 0 rfl) ?_
  refine lv_aload_n hx hb dX7_whole___1 rfl (lv_at hl 0 rfl) ?_
  refine lv_iload_n hx hb dX7_whole___2 rfl (lv_at hl 1 rfl) ?_
  have hPc := hP.sub (ws' := [(y, .inr (11, [.int th, .ref ys, .ref yp, .int 0])), (ys, .inr (3, [.int 0, .ref (ta 4), .int 0])), (yp, .inr (3, [.int 0, .ref (ta 4), .int 0]))]) [0, 1, 2] rfl
  have hKc := hK.sub (tys' := []) [] rfl
  refine va_calli (va_runV (As := [.int p0]) (rest := [.ref y]) ⟨hx, hb, hml, hown, hts⟩ (c_X7_isNowhere l dC dI y ys yp sa ta th p0) (cwV 1 hts gX7_whole___X7_isNowhere rfl rfl rfl (by decide +kernel) ⟨Nat.le_of_ble_eq_true rfl, Nat.le_of_ble_eq_true rfl⟩) ⟨ax_fbR, va_recv hK hP (ci := 11) (q0 := 0) rfl rfl, ax_prR hPc hKc hS hE⟩ rfl rfl hl.1 rfl (lv_room (Nat.le_of_ble_eq_true rfl)) dX7_whole___3 ⟨Nat.le_of_ble_eq_true rfl, Nat.le_of_ble_eq_true rfl⟩) hS (fun _ _ h9 => h9.elim) (fun _ h9 => h9.elim) (fun r_1 u_3  t H locs ht hvm hw_2 hB hz1 hk1 hS => ?_)
  have hP := ax_keep hP (fun _ h9 => h9) hk1
  rcases hw_2 with ⟨hr9, hw_2⟩ | ⟨hr9, hw_2⟩
  · refine ax_i hr9 ?_
    refine lv_if_ne (tgt := 16) hx hb dX7_whole___6 (by decide) (fun _ => ?_) (fun h9 => absurd h9 (by decide))
    refine lv_iconst (v := 1) hx hb dX7_whole___16 (by decide) ?_
    refine lv_goto (tgt := 21) hx hb dX7_whole___17 (by decide) ?_
    refine lv_iconst (v := 1) hx hb dX7_whole___21 (by decide) ?_
    have hPc := hP.sub (ws' := [(y, .inr (11, [.int th, .ref ys, .ref yp, .int 0])), (ys, .inr (3, [.int 0, .ref (ta 4), .int 0])), (yp, .inr (3, [.int 0, .ref (ta 4), .int 0]))]) [0, 1, 2] rfl
    have hKc := hK.sub (tys' := []) [] rfl
    have hDc := hD.sub (ws' := [(y, .inr (11, [.int th, .ref ys, .ref yp, .int 0])), (ys, .inr (3, [.int 0, .ref (ta 4), .int 0])), (yp, .inr (3, [.int 0, .ref (ta 4), .int 0]))]) [0, 1, 2] (by decide) rfl
    have hFc := va_free (wc := [(y, .inr (11, [.int th, .ref ys, .ref yp, .int 0])), (ys, .inr (3, [.int 0, .ref (ta 4), .int 0])), (yp, .inr (3, [.int 0, .ref (ta 4), .int 0]))]) hD hS hA [0, 1, 2] rfl
    refine va_calli (va_runV (As := [.int 1, .int 1]) (rest := []) ⟨hx, hb, hml, hown, hts⟩ (c_X7_start_1 l dC dI y ys yp sa ta H.size th) (cwV 2 hts gX7_whole___X7_start rfl rfl rfl (by decide +kernel) ⟨Nat.le_of_ble_eq_true rfl, Nat.le_of_ble_eq_true rfl⟩) ⟨ax_fbW, va_recv hK hP (ci := 11) (q0 := 0) rfl rfl, ax_prW hPc hKc hDc hS hFc hE⟩ rfl rfl hl.1 rfl (lv_room (Nat.le_of_ble_eq_true rfl)) dX7_whole___22 ⟨Nat.le_of_ble_eq_true rfl, Nat.le_of_ble_eq_true rfl⟩) hS (fun q _ h9 => hFc q h9) hFc (fun r_4 u_6  t H locs ht hvm hw_5 hB hz1 hk1 hS => ?_)
    obtain ⟨hP1, hK1, hD1⟩ := hB
    rw [ht] at hP1
    have hK1 := va_K.moved hvm.symm hK1
    obtain ⟨hP, hD⟩ := va_join (wr := []) (w1 := [(y, .inr (11, [.int 1, .ref ys, .ref yp, .int 0])), (ys, .inr (3, [.int 0, .ref (ta 4), .int 0])), (yp, .inr (3, [.int 0, .ref (ta 4), .int 0]))]) hP hD [0, 1, 2] [] rfl rfl (by decide) (by decide) hk1 hFc hP1 hD1
    have hP : va_P (dC, dI) vwCl [(y, .inr (11, [.int 1, .ref ys, .ref yp, .int 0])), (ys, .inr (3, [.int 0, .ref (ta 4), .int 0])), (yp, .inr (3, [.int 0, .ref (ta 4), .int 0]))] H := hP
    have hD : va_D A [(y, .inr (11, [.int 1, .ref ys, .ref yp, .int 0])), (ys, .inr (3, [.int 0, .ref (ta 4), .int 0])), (yp, .inr (3, [.int 0, .ref (ta 4), .int 0]))] := hD
    refine ax_i (y := 1) hw_5 ?_
    refine lv_if_eq (tgt := 32) hx hb dX7_whole___25 (by decide) (fun h9 => absurd h9 (by decide)) (fun _ => ?_)
    refine lv_lconst (v := 0) hx hb dX7_whole___28 (by decide) ?_
    refine lv_goto (tgt := 42) hx hb dX7_whole___29 (by decide) ?_
    refine W.widen (k := 2) (n := 4) (Nat.le_of_ble_eq_true rfl) (Nat.le_of_ble_eq_true rfl) ?_
    have hP9 := hP.sub (ws' := [(y, .inr (11, [.int 1, .ref ys, .ref yp, .int 0]))]) [0] rfl
    have hD9 := hD.sub (ws' := [(y, .inr (11, [.int 1, .ref ys, .ref yp, .int 0]))]) [0] (by decide) rfl
    have hK9 := hK.sub (tys' := []) [] rfl
    exact W.lret (v := 0) hx hb hr (fun t ht hW => ⟨⟨0, 1, rfl, Or.inr ⟨by omega, rfl⟩, by rw [ht]; exact hP9, va_K.moved hW.alike hK9, hD9⟩, hS.F ht⟩) hS.2.2 dX7_whole___42
  · refine ax_i hr9 ?_
    refine lv_if_ne (tgt := 16) hx hb dX7_whole___6 (by decide) (fun h9 => absurd rfl h9) (fun _ => ?_)
    refine lv_iload_n hx hb dX7_whole___9 rfl (lv_at hl 2 rfl) ?_
    refine va_calli (va_runS (As := [.int p1]) (rest := [.ref y]) ⟨hx, hb, hml, hown, hts⟩ (c_X7_isNoPlace l p1) (va_cwS 1 hts gX7_whole___X7_isNoPlace rfl rfl rfl (by decide +kernel) ⟨Nat.le_of_ble_eq_true rfl, Nat.le_of_ble_eq_true rfl⟩) ⟨ax_fbP, ax_prP⟩ rfl rfl hl.1 rfl (lv_room (Nat.le_of_ble_eq_true rfl)) dX7_whole___10 ⟨Nat.le_of_ble_eq_true rfl, Nat.le_of_ble_eq_true rfl⟩) hS (fun _ _ h9 => h9.elim) (fun _ h9 => h9.elim) (fun r_7 u_9  t H locs ht hvm hw_8 hB hz1 hk1 hS => ?_)
    have hP := ax_keep hP (fun _ h9 => h9) hk1
    rcases hw_8 with ⟨hr9, hw_8⟩ | ⟨hr9, hw_8⟩
    · refine ax_i hr9 ?_
      refine lv_if_eq (tgt := 20) hx hb dX7_whole___13 (by decide) (fun h9 => absurd h9 (by decide)) (fun _ => ?_)
      refine lv_iconst (v := 1) hx hb dX7_whole___16 (by decide) ?_
      refine lv_goto (tgt := 21) hx hb dX7_whole___17 (by decide) ?_
      refine lv_iconst (v := 1) hx hb dX7_whole___21 (by decide) ?_
      have hPc := hP.sub (ws' := [(y, .inr (11, [.int th, .ref ys, .ref yp, .int 0])), (ys, .inr (3, [.int 0, .ref (ta 4), .int 0])), (yp, .inr (3, [.int 0, .ref (ta 4), .int 0]))]) [0, 1, 2] rfl
      have hKc := hK.sub (tys' := []) [] rfl
      have hDc := hD.sub (ws' := [(y, .inr (11, [.int th, .ref ys, .ref yp, .int 0])), (ys, .inr (3, [.int 0, .ref (ta 4), .int 0])), (yp, .inr (3, [.int 0, .ref (ta 4), .int 0]))]) [0, 1, 2] (by decide) rfl
      have hFc := va_free (wc := [(y, .inr (11, [.int th, .ref ys, .ref yp, .int 0])), (ys, .inr (3, [.int 0, .ref (ta 4), .int 0])), (yp, .inr (3, [.int 0, .ref (ta 4), .int 0]))]) hD hS hA [0, 1, 2] rfl
      refine va_calli (va_runV (As := [.int 1, .int 1]) (rest := []) ⟨hx, hb, hml, hown, hts⟩ (c_X7_start_1 l dC dI y ys yp sa ta H.size th) (cwV 2 hts gX7_whole___X7_start rfl rfl rfl (by decide +kernel) ⟨Nat.le_of_ble_eq_true rfl, Nat.le_of_ble_eq_true rfl⟩) ⟨ax_fbW, va_recv hK hP (ci := 11) (q0 := 0) rfl rfl, ax_prW hPc hKc hDc hS hFc hE⟩ rfl rfl hl.1 rfl (lv_room (Nat.le_of_ble_eq_true rfl)) dX7_whole___22 ⟨Nat.le_of_ble_eq_true rfl, Nat.le_of_ble_eq_true rfl⟩) hS (fun q _ h9 => hFc q h9) hFc (fun r_10 u_12  t H locs ht hvm hw_11 hB hz1 hk1 hS => ?_)
      obtain ⟨hP1, hK1, hD1⟩ := hB
      rw [ht] at hP1
      have hK1 := va_K.moved hvm.symm hK1
      obtain ⟨hP, hD⟩ := va_join (wr := []) (w1 := [(y, .inr (11, [.int 1, .ref ys, .ref yp, .int 0])), (ys, .inr (3, [.int 0, .ref (ta 4), .int 0])), (yp, .inr (3, [.int 0, .ref (ta 4), .int 0]))]) hP hD [0, 1, 2] [] rfl rfl (by decide) (by decide) hk1 hFc hP1 hD1
      have hP : va_P (dC, dI) vwCl [(y, .inr (11, [.int 1, .ref ys, .ref yp, .int 0])), (ys, .inr (3, [.int 0, .ref (ta 4), .int 0])), (yp, .inr (3, [.int 0, .ref (ta 4), .int 0]))] H := hP
      have hD : va_D A [(y, .inr (11, [.int 1, .ref ys, .ref yp, .int 0])), (ys, .inr (3, [.int 0, .ref (ta 4), .int 0])), (yp, .inr (3, [.int 0, .ref (ta 4), .int 0]))] := hD
      refine ax_i (y := 1) hw_11 ?_
      refine lv_if_eq (tgt := 32) hx hb dX7_whole___25 (by decide) (fun h9 => absurd h9 (by decide)) (fun _ => ?_)
      refine lv_lconst (v := 0) hx hb dX7_whole___28 (by decide) ?_
      refine lv_goto (tgt := 42) hx hb dX7_whole___29 (by decide) ?_
      refine W.widen (k := 2) (n := 4) (Nat.le_of_ble_eq_true rfl) (Nat.le_of_ble_eq_true rfl) ?_
      have hP9 := hP.sub (ws' := [(y, .inr (11, [.int 1, .ref ys, .ref yp, .int 0]))]) [0] rfl
      have hD9 := hD.sub (ws' := [(y, .inr (11, [.int 1, .ref ys, .ref yp, .int 0]))]) [0] (by decide) rfl
      have hK9 := hK.sub (tys' := []) [] rfl
      exact W.lret (v := 0) hx hb hr (fun t ht hW => ⟨⟨0, 1, rfl, Or.inr ⟨by omega, rfl⟩, by rw [ht]; exact hP9, va_K.moved hW.alike hK9, hD9⟩, hS.F ht⟩) hS.2.2 dX7_whole___42
    · refine ax_i hr9 ?_
      refine lv_if_eq (tgt := 20) hx hb dX7_whole___13 (by decide) (fun _ => ?_) (fun h9 => absurd (by decide) h9)
      refine lv_iconst (v := 0) hx hb dX7_whole___20 (by decide) ?_
      refine lv_iconst (v := 1) hx hb dX7_whole___21 (by decide) ?_
      have hPc := hP.sub (ws' := [(y, .inr (11, [.int th, .ref ys, .ref yp, .int 0])), (ys, .inr (3, [.int 0, .ref (ta 4), .int 0])), (yp, .inr (3, [.int 0, .ref (ta 4), .int 0]))]) [0, 1, 2] rfl
      have hKc := hK.sub (tys' := []) [] rfl
      have hDc := hD.sub (ws' := [(y, .inr (11, [.int th, .ref ys, .ref yp, .int 0])), (ys, .inr (3, [.int 0, .ref (ta 4), .int 0])), (yp, .inr (3, [.int 0, .ref (ta 4), .int 0]))]) [0, 1, 2] (by decide) rfl
      have hFc := va_free (wc := [(y, .inr (11, [.int th, .ref ys, .ref yp, .int 0])), (ys, .inr (3, [.int 0, .ref (ta 4), .int 0])), (yp, .inr (3, [.int 0, .ref (ta 4), .int 0]))]) hD hS hA [0, 1, 2] rfl
      refine va_calli (va_runV (As := [.int 0, .int 1]) (rest := []) ⟨hx, hb, hml, hown, hts⟩ (c_X7_start_0 l dC dI y ys yp sa ta H.size th) (cwV 2 hts gX7_whole___X7_start rfl rfl rfl (by decide +kernel) ⟨Nat.le_of_ble_eq_true rfl, Nat.le_of_ble_eq_true rfl⟩) ⟨ax_fbW, va_recv hK hP (ci := 11) (q0 := 0) rfl rfl, ax_prW hPc hKc hDc hS hFc hE⟩ rfl rfl hl.1 rfl (lv_room (Nat.le_of_ble_eq_true rfl)) dX7_whole___22 ⟨Nat.le_of_ble_eq_true rfl, Nat.le_of_ble_eq_true rfl⟩) hS (fun q _ h9 => hFc q h9) hFc (fun r_13 u_15  t H locs ht hvm hw_14 hB hz1 hk1 hS => ?_)
      obtain ⟨hP1, hK1, hD1⟩ := hB
      rw [ht] at hP1
      have hK1 := va_K.moved hvm.symm hK1
      obtain ⟨hP, hD⟩ := va_join (wr := []) (w1 := [(y, .inr (11, [.int 0, .ref ys, .ref yp, .int 0])), (ys, .inr (3, [.int 0, .ref (ta 4), .int 0])), (yp, .inr (3, [.int 0, .ref (ta 4), .int 0]))]) hP hD [0, 1, 2] [] rfl rfl (by decide) (by decide) hk1 hFc hP1 hD1
      have hP : va_P (dC, dI) vwCl [(y, .inr (11, [.int 0, .ref ys, .ref yp, .int 0])), (ys, .inr (3, [.int 0, .ref (ta 4), .int 0])), (yp, .inr (3, [.int 0, .ref (ta 4), .int 0]))] H := hP
      have hD : va_D A [(y, .inr (11, [.int 0, .ref ys, .ref yp, .int 0])), (ys, .inr (3, [.int 0, .ref (ta 4), .int 0])), (yp, .inr (3, [.int 0, .ref (ta 4), .int 0]))] := hD
      refine ax_i (y := 0) hw_14 ?_
      refine lv_if_eq (tgt := 32) hx hb dX7_whole___25 (by decide) (fun _ => ?_) (fun h9 => absurd (by decide) h9)
      refine lv_aload_n hx hb dX7_whole___32 rfl (lv_at hl 0 rfl) ?_
      refine lv_iload_n hx hb dX7_whole___33 rfl (lv_at hl 2 rfl) ?_
      refine lv_aload_n hx hb dX7_whole___34 rfl (lv_at hl 0 rfl) ?_
      refine lv_iload_n hx hb dX7_whole___35 rfl (lv_at hl 1 rfl) ?_
      have hPc := hP.sub (ws' := [(y, .inr (11, [.int 0, .ref ys, .ref yp, .int 0])), (ys, .inr (3, [.int 0, .ref (ta 4), .int 0])), (yp, .inr (3, [.int 0, .ref (ta 4), .int 0]))]) [0, 1, 2] rfl
      have hKc := hK.sub (tys' := []) [] rfl
      have hDc := hD.sub (ws' := [(y, .inr (11, [.int 0, .ref ys, .ref yp, .int 0])), (ys, .inr (3, [.int 0, .ref (ta 4), .int 0])), (yp, .inr (3, [.int 0, .ref (ta 4), .int 0]))]) [0, 1, 2] (by decide) rfl
      have hFc := va_free (wc := [(y, .inr (11, [.int 0, .ref ys, .ref yp, .int 0])), (ys, .inr (3, [.int 0, .ref (ta 4), .int 0])), (yp, .inr (3, [.int 0, .ref (ta 4), .int 0]))]) hD hS hA [0, 1, 2] rfl
      refine va_callr (va_runV (As := [.int p0]) (rest := [.int p1, .ref y]) ⟨hx, hb, hml, hown, hts⟩ (c_X7_behind_ l dC dI y ys yp sa ta H.size 0 p0 (by omega)) (cwV 1 hts gX7_whole___X7_behind_ rfl rfl rfl (by decide +kernel) ⟨Nat.le_of_ble_eq_true rfl, Nat.le_of_ble_eq_true rfl⟩) ⟨ax_fbW, va_recv hK hP (ci := 11) (q0 := 0) rfl rfl, ax_prW hPc hKc hDc hS hFc hE⟩ rfl rfl hl.1 rfl (lv_room (Nat.le_of_ble_eq_true rfl)) dX7_whole___36 ⟨Nat.le_of_ble_eq_true rfl, Nat.le_of_ble_eq_true rfl⟩) hS (fun q _ h9 => hFc q h9) hFc (fun u_18  r_16 t H locs ht hvm hw_17 hB hz1 hk1 hS => ?_)
      obtain ⟨qA_19, rfl⟩ : ∃ z, z = u_18 := ⟨_, rfl⟩
      obtain ⟨hP1, hK1, hD1⟩ := hB
      rw [ht] at hP1
      have hK1 := va_K.moved hvm.symm hK1
      obtain ⟨hP, hD⟩ := va_join (wr := []) (w1 := [(y, .inr (11, [.int 0, .ref ys, .ref yp, .int 0])), (ys, .inr (3, [.int 0, .ref (ta 4), .int 0])), (yp, .inr (3, [.int 0, .ref (ta 4), .int 0])), (r_16, .inl (qA_19, 0, .inr (.inl (fun _ => 0))))]) hP hD [0, 1, 2] [] rfl rfl (by decide) (by decide) hk1 hFc hP1 hD1
      have hK := hK.app hK1
      have hK := hK.sub (tys' := [(qA_19, .long)]) [0] rfl
      have hP : va_P (dC, dI) vwCl [(y, .inr (11, [.int 0, .ref ys, .ref yp, .int 0])), (ys, .inr (3, [.int 0, .ref (ta 4), .int 0])), (yp, .inr (3, [.int 0, .ref (ta 4), .int 0])), (r_16, .inl (qA_19, 0, .inr (.inl (fun _ => 0))))] H := hP
      have hD : va_D A [(y, .inr (11, [.int 0, .ref ys, .ref yp, .int 0])), (ys, .inr (3, [.int 0, .ref (ta 4), .int 0])), (yp, .inr (3, [.int 0, .ref (ta 4), .int 0])), (r_16, .inl (qA_19, 0, .inr (.inl (fun _ => 0))))] := hD
      have hPc := hP.sub (ws' := [(y, .inr (11, [.int 0, .ref ys, .ref yp, .int 0])), (ys, .inr (3, [.int 0, .ref (ta 4), .int 0])), (yp, .inr (3, [.int 0, .ref (ta 4), .int 0]))]) [0, 1, 2] rfl
      have hKc := hK.sub (tys' := []) [] rfl
      refine va_calll (va_runV (As := [.int p1, .ref r_16]) (rest := []) ⟨hx, hb, hml, hown, hts⟩ (c_X7_whole_ l dC dI y ys yp sa ta 0 p1 r_16) (cwV 2 hts gX7_whole___X7_whole_ rfl rfl rfl (by decide +kernel) ⟨Nat.le_of_ble_eq_true rfl, Nat.le_of_ble_eq_true rfl⟩) ⟨ax_fbR, va_recv hK hP (ci := 11) (q0 := 0) rfl rfl, ax_prR hPc hKc hS hE⟩ rfl rfl hl.1 rfl (lv_room (Nat.le_of_ble_eq_true rfl)) dX7_whole___39 ⟨Nat.le_of_ble_eq_true rfl, Nat.le_of_ble_eq_true rfl⟩) hS (fun _ _ h9 => h9.elim) (fun _ h9 => h9.elim) (fun r_20 u_22  t H locs ht hvm hw_21 hB hz1 hk1 hS => ?_)
      have hP := ax_keep hP (fun _ h9 => h9) hk1
      refine ax_l (y := 0) hw_21 ?_
      refine W.widen (k := 2) (n := 4) (Nat.le_of_ble_eq_true rfl) (Nat.le_of_ble_eq_true rfl) ?_
      have hP9 := hP.sub (ws' := [(y, .inr (11, [.int 0, .ref ys, .ref yp, .int 0]))]) [0] rfl
      have hD9 := hD.sub (ws' := [(y, .inr (11, [.int 0, .ref ys, .ref yp, .int 0]))]) [0] (by decide) rfl
      have hK9 := hK.sub (tys' := []) [] rfl
      exact W.lret (v := 0) hx hb hr (fun t ht hW => ⟨⟨0, 0, rfl, Or.inl ⟨by omega, rfl, rfl⟩, by rw [ht]; exact hP9, va_K.moved hW.alike hK9, hD9⟩, hS.F ht⟩) hS.2.2 dX7_whole___42

set_option maxHeartbeats 4000000 in
set_option maxRecDepth 100000 in
theorem c_X7_root__ (l : Launch) (dC : Nat → ClassId) (dI : Nat → Nat → Nat) (y ys yp : Nat) (sa ta : Nat → Nat) (sz : Nat) (th : Int32) (p0 : Int32) (p1 : Int32) : Met l yX7_root__ wsX7_root__ ({ frames := 40, cells := 2, slots := 4, locals := 1000 }) (va_Pc [.ref y, .int p0, .int p1] (ax_W (dC, dI) vwCl [(y, .inr (11, [.int th, .ref ys, .ref yp, .int 0])), (ys, .inr (3, [.int 0, .ref (ta 4), .int 0])), (yp, .inr (3, [.int 0, .ref (ta 4), .int 0]))] [] sa ta sz)) (va_Ql (fun (r : Int64) (u : Int32) => ((p0.toInt = -1 ∧ (0 ≤ p1.toInt ∧ p1.toInt ≤ 7)) ∧ u = 0 ∧ r = 0) ∨ (¬ ((p0.toInt = -1 ∧ (0 ≤ p1.toInt ∧ p1.toInt ≤ 7))) ∧ u = 1)) (fun (u : Int32) (t : State) => va_P (dC, dI) vwCl [(y, .inr (11, [.int u, .ref ys, .ref yp, .int 0]))] t.heap ∧ va_K (dC, dI) vwCl [] t ∧ va_D (va_A [(y, .inr (11, [.int th, .ref ys, .ref yp, .int 0])), (ys, .inr (3, [.int 0, .ref (ta 4), .int 0])), (yp, .inr (3, [.int 0, .ref (ta 4), .int 0]))] sz) [(y, .inr (11, [.int u, .ref ys, .ref yp, .int 0]))]) (va_A [(y, .inr (11, [.int th, .ref ys, .ref yp, .int 0])), (ys, .inr (3, [.int 0, .ref (ta 4), .int 0])), (yp, .inr (3, [.int 0, .ref (ta 4), .int 0]))] sz)) 2 4 (va_A [(y, .inr (11, [.int th, .ref ys, .ref yp, .int 0])), (ys, .inr (3, [.int 0, .ref (ta 4), .int 0])), (yp, .inr (3, [.int 0, .ref (ta 4), .int 0]))] sz) := by
  refine Met.ofW (cc := cX7_root__) (maxL := 3) (ret := (some .long)) (by decide) rfl ?_
  intro p e s m args below meth c s₁ B hml hv
  obtain ⟨rfl, hsz, hP, hK, hD0, hE⟩ := hv
  have hx := B.exec
  have hb := B.bytes
  have hr := B.returns
  have hts := atoms_spec (ws := wsX7_root__) B.pre
  have hown : s.vm.findClass RX7 = some m.cls := findClass_of_methodNamed B.named
  have hlocks := B.notSynchronized
  subst hsz
  have hD := hD0.self (sz := s.heap.size)
  generalize hAe : va_A [(y, .inr (11, [.int th, .ref ys, .ref yp, .int 0])), (ys, .inr (3, [.int 0, .ref (ta 4), .int 0])), (yp, .inr (3, [.int 0, .ref (ta 4), .int 0]))] s.heap.size = A at hD hE ⊢
  have hA : ∀ q : Nat, s.heap.size ≤ q → A q := fun q h => by rw [← hAe]; exact Or.inr h
  have hS : va_S A s.heap s.heap [] := va_S.rf
  have hl := lv_entry ([.ref y, .int p0, .int p1]) (n := 3) (Nat.le_of_ble_eq_true rfl)
  rw [lg_entry_eq]
  generalize (lg_sl ([.ref y, .int p0, .int p1]) ++ List.replicate (3 - (lg_sl ([.ref y, .int p0, .int p1])).length) Slot.unset).toArray = ls at hl ⊢
  have hl : lv_has ls 3 [(0, .ref y), (1, .int p0), (2, .int p1)] := hl
  have hP : va_P (dC, dI) vwCl [(y, .inr (11, [.int th, .ref ys, .ref yp, .int 0])), (ys, .inr (3, [.int 0, .ref (ta 4), .int 0])), (yp, .inr (3, [.int 0, .ref (ta 4), .int 0]))] s.heap := hP
  refine lv_aload_n hx hb dX7_root___0 rfl (lv_at hl 0 rfl) ?_
  refine lv_aload_n hx hb dX7_root___1 rfl (lv_at hl 0 rfl) ?_
  refine lv_iload_n hx hb dX7_root___2 rfl (lv_at hl 1 rfl) ?_
  have hPc := hP.sub (ws' := [(y, .inr (11, [.int th, .ref ys, .ref yp, .int 0])), (ys, .inr (3, [.int 0, .ref (ta 4), .int 0])), (yp, .inr (3, [.int 0, .ref (ta 4), .int 0]))]) [0, 1, 2] rfl
  have hKc := hK.sub (tys' := []) [] rfl
  refine va_calli (va_runV (As := [.int p0]) (rest := [.ref y]) ⟨hx, hb, hml, hown, hts⟩ (c_X7_isNowhere l dC dI y ys yp sa ta th p0) (cwV 1 hts gX7_root___X7_isNowhere rfl rfl rfl (by decide +kernel) ⟨Nat.le_of_ble_eq_true rfl, Nat.le_of_ble_eq_true rfl⟩) ⟨ax_fbR, va_recv hK hP (ci := 11) (q0 := 0) rfl rfl, ax_prR hPc hKc hS hE⟩ rfl rfl hl.1 rfl (lv_room (Nat.le_of_ble_eq_true rfl)) dX7_root___3 ⟨Nat.le_of_ble_eq_true rfl, Nat.le_of_ble_eq_true rfl⟩) hS (fun _ _ h9 => h9.elim) (fun _ h9 => h9.elim) (fun r_1 u_3  t H locs ht hvm hw_2 hB hz1 hk1 hS => ?_)
  have hP := ax_keep hP (fun _ h9 => h9) hk1
  rcases hw_2 with ⟨hr9, hw_2⟩ | ⟨hr9, hw_2⟩
  · refine ax_i hr9 ?_
    refine lv_if_ne (tgt := 16) hx hb dX7_root___6 (by decide) (fun _ => ?_) (fun h9 => absurd h9 (by decide))
    refine lv_iconst (v := 1) hx hb dX7_root___16 (by decide) ?_
    refine lv_goto (tgt := 21) hx hb dX7_root___17 (by decide) ?_
    refine lv_iconst (v := 1) hx hb dX7_root___21 (by decide) ?_
    have hPc := hP.sub (ws' := [(y, .inr (11, [.int th, .ref ys, .ref yp, .int 0])), (ys, .inr (3, [.int 0, .ref (ta 4), .int 0])), (yp, .inr (3, [.int 0, .ref (ta 4), .int 0]))]) [0, 1, 2] rfl
    have hKc := hK.sub (tys' := []) [] rfl
    have hDc := hD.sub (ws' := [(y, .inr (11, [.int th, .ref ys, .ref yp, .int 0])), (ys, .inr (3, [.int 0, .ref (ta 4), .int 0])), (yp, .inr (3, [.int 0, .ref (ta 4), .int 0]))]) [0, 1, 2] (by decide) rfl
    have hFc := va_free (wc := [(y, .inr (11, [.int th, .ref ys, .ref yp, .int 0])), (ys, .inr (3, [.int 0, .ref (ta 4), .int 0])), (yp, .inr (3, [.int 0, .ref (ta 4), .int 0]))]) hD hS hA [0, 1, 2] rfl
    refine va_calli (va_runV (As := [.int 1, .int 1]) (rest := []) ⟨hx, hb, hml, hown, hts⟩ (c_X7_start_1 l dC dI y ys yp sa ta H.size th) (cwV 2 hts gX7_root___X7_start rfl rfl rfl (by decide +kernel) ⟨Nat.le_of_ble_eq_true rfl, Nat.le_of_ble_eq_true rfl⟩) ⟨ax_fbW, va_recv hK hP (ci := 11) (q0 := 0) rfl rfl, ax_prW hPc hKc hDc hS hFc hE⟩ rfl rfl hl.1 rfl (lv_room (Nat.le_of_ble_eq_true rfl)) dX7_root___22 ⟨Nat.le_of_ble_eq_true rfl, Nat.le_of_ble_eq_true rfl⟩) hS (fun q _ h9 => hFc q h9) hFc (fun r_4 u_6  t H locs ht hvm hw_5 hB hz1 hk1 hS => ?_)
    obtain ⟨hP1, hK1, hD1⟩ := hB
    rw [ht] at hP1
    have hK1 := va_K.moved hvm.symm hK1
    obtain ⟨hP, hD⟩ := va_join (wr := []) (w1 := [(y, .inr (11, [.int 1, .ref ys, .ref yp, .int 0])), (ys, .inr (3, [.int 0, .ref (ta 4), .int 0])), (yp, .inr (3, [.int 0, .ref (ta 4), .int 0]))]) hP hD [0, 1, 2] [] rfl rfl (by decide) (by decide) hk1 hFc hP1 hD1
    have hP : va_P (dC, dI) vwCl [(y, .inr (11, [.int 1, .ref ys, .ref yp, .int 0])), (ys, .inr (3, [.int 0, .ref (ta 4), .int 0])), (yp, .inr (3, [.int 0, .ref (ta 4), .int 0]))] H := hP
    have hD : va_D A [(y, .inr (11, [.int 1, .ref ys, .ref yp, .int 0])), (ys, .inr (3, [.int 0, .ref (ta 4), .int 0])), (yp, .inr (3, [.int 0, .ref (ta 4), .int 0]))] := hD
    refine ax_i (y := 1) hw_5 ?_
    refine lv_if_eq (tgt := 32) hx hb dX7_root___25 (by decide) (fun h9 => absurd h9 (by decide)) (fun _ => ?_)
    refine lv_lconst (v := 0) hx hb dX7_root___28 (by decide) ?_
    refine lv_goto (tgt := 42) hx hb dX7_root___29 (by decide) ?_
    refine W.widen (k := 2) (n := 4) (Nat.le_of_ble_eq_true rfl) (Nat.le_of_ble_eq_true rfl) ?_
    have hP9 := hP.sub (ws' := [(y, .inr (11, [.int 1, .ref ys, .ref yp, .int 0]))]) [0] rfl
    have hD9 := hD.sub (ws' := [(y, .inr (11, [.int 1, .ref ys, .ref yp, .int 0]))]) [0] (by decide) rfl
    have hK9 := hK.sub (tys' := []) [] rfl
    exact W.lret (v := 0) hx hb hr (fun t ht hW => ⟨⟨0, 1, rfl, Or.inr ⟨by omega, rfl⟩, by rw [ht]; exact hP9, va_K.moved hW.alike hK9, hD9⟩, hS.F ht⟩) hS.2.2 dX7_root___42
  · refine ax_i hr9 ?_
    refine lv_if_ne (tgt := 16) hx hb dX7_root___6 (by decide) (fun h9 => absurd rfl h9) (fun _ => ?_)
    refine lv_iload_n hx hb dX7_root___9 rfl (lv_at hl 2 rfl) ?_
    refine va_calli (va_runS (As := [.int p1]) (rest := [.ref y]) ⟨hx, hb, hml, hown, hts⟩ (c_X7_isNoPlace l p1) (va_cwS 1 hts gX7_root___X7_isNoPlace rfl rfl rfl (by decide +kernel) ⟨Nat.le_of_ble_eq_true rfl, Nat.le_of_ble_eq_true rfl⟩) ⟨ax_fbP, ax_prP⟩ rfl rfl hl.1 rfl (lv_room (Nat.le_of_ble_eq_true rfl)) dX7_root___10 ⟨Nat.le_of_ble_eq_true rfl, Nat.le_of_ble_eq_true rfl⟩) hS (fun _ _ h9 => h9.elim) (fun _ h9 => h9.elim) (fun r_7 u_9  t H locs ht hvm hw_8 hB hz1 hk1 hS => ?_)
    have hP := ax_keep hP (fun _ h9 => h9) hk1
    rcases hw_8 with ⟨hr9, hw_8⟩ | ⟨hr9, hw_8⟩
    · refine ax_i hr9 ?_
      refine lv_if_eq (tgt := 20) hx hb dX7_root___13 (by decide) (fun h9 => absurd h9 (by decide)) (fun _ => ?_)
      refine lv_iconst (v := 1) hx hb dX7_root___16 (by decide) ?_
      refine lv_goto (tgt := 21) hx hb dX7_root___17 (by decide) ?_
      refine lv_iconst (v := 1) hx hb dX7_root___21 (by decide) ?_
      have hPc := hP.sub (ws' := [(y, .inr (11, [.int th, .ref ys, .ref yp, .int 0])), (ys, .inr (3, [.int 0, .ref (ta 4), .int 0])), (yp, .inr (3, [.int 0, .ref (ta 4), .int 0]))]) [0, 1, 2] rfl
      have hKc := hK.sub (tys' := []) [] rfl
      have hDc := hD.sub (ws' := [(y, .inr (11, [.int th, .ref ys, .ref yp, .int 0])), (ys, .inr (3, [.int 0, .ref (ta 4), .int 0])), (yp, .inr (3, [.int 0, .ref (ta 4), .int 0]))]) [0, 1, 2] (by decide) rfl
      have hFc := va_free (wc := [(y, .inr (11, [.int th, .ref ys, .ref yp, .int 0])), (ys, .inr (3, [.int 0, .ref (ta 4), .int 0])), (yp, .inr (3, [.int 0, .ref (ta 4), .int 0]))]) hD hS hA [0, 1, 2] rfl
      refine va_calli (va_runV (As := [.int 1, .int 1]) (rest := []) ⟨hx, hb, hml, hown, hts⟩ (c_X7_start_1 l dC dI y ys yp sa ta H.size th) (cwV 2 hts gX7_root___X7_start rfl rfl rfl (by decide +kernel) ⟨Nat.le_of_ble_eq_true rfl, Nat.le_of_ble_eq_true rfl⟩) ⟨ax_fbW, va_recv hK hP (ci := 11) (q0 := 0) rfl rfl, ax_prW hPc hKc hDc hS hFc hE⟩ rfl rfl hl.1 rfl (lv_room (Nat.le_of_ble_eq_true rfl)) dX7_root___22 ⟨Nat.le_of_ble_eq_true rfl, Nat.le_of_ble_eq_true rfl⟩) hS (fun q _ h9 => hFc q h9) hFc (fun r_10 u_12  t H locs ht hvm hw_11 hB hz1 hk1 hS => ?_)
      obtain ⟨hP1, hK1, hD1⟩ := hB
      rw [ht] at hP1
      have hK1 := va_K.moved hvm.symm hK1
      obtain ⟨hP, hD⟩ := va_join (wr := []) (w1 := [(y, .inr (11, [.int 1, .ref ys, .ref yp, .int 0])), (ys, .inr (3, [.int 0, .ref (ta 4), .int 0])), (yp, .inr (3, [.int 0, .ref (ta 4), .int 0]))]) hP hD [0, 1, 2] [] rfl rfl (by decide) (by decide) hk1 hFc hP1 hD1
      have hP : va_P (dC, dI) vwCl [(y, .inr (11, [.int 1, .ref ys, .ref yp, .int 0])), (ys, .inr (3, [.int 0, .ref (ta 4), .int 0])), (yp, .inr (3, [.int 0, .ref (ta 4), .int 0]))] H := hP
      have hD : va_D A [(y, .inr (11, [.int 1, .ref ys, .ref yp, .int 0])), (ys, .inr (3, [.int 0, .ref (ta 4), .int 0])), (yp, .inr (3, [.int 0, .ref (ta 4), .int 0]))] := hD
      refine ax_i (y := 1) hw_11 ?_
      refine lv_if_eq (tgt := 32) hx hb dX7_root___25 (by decide) (fun h9 => absurd h9 (by decide)) (fun _ => ?_)
      refine lv_lconst (v := 0) hx hb dX7_root___28 (by decide) ?_
      refine lv_goto (tgt := 42) hx hb dX7_root___29 (by decide) ?_
      refine W.widen (k := 2) (n := 4) (Nat.le_of_ble_eq_true rfl) (Nat.le_of_ble_eq_true rfl) ?_
      have hP9 := hP.sub (ws' := [(y, .inr (11, [.int 1, .ref ys, .ref yp, .int 0]))]) [0] rfl
      have hD9 := hD.sub (ws' := [(y, .inr (11, [.int 1, .ref ys, .ref yp, .int 0]))]) [0] (by decide) rfl
      have hK9 := hK.sub (tys' := []) [] rfl
      exact W.lret (v := 0) hx hb hr (fun t ht hW => ⟨⟨0, 1, rfl, Or.inr ⟨by omega, rfl⟩, by rw [ht]; exact hP9, va_K.moved hW.alike hK9, hD9⟩, hS.F ht⟩) hS.2.2 dX7_root___42
    · refine ax_i hr9 ?_
      refine lv_if_eq (tgt := 20) hx hb dX7_root___13 (by decide) (fun _ => ?_) (fun h9 => absurd (by decide) h9)
      refine lv_iconst (v := 0) hx hb dX7_root___20 (by decide) ?_
      refine lv_iconst (v := 1) hx hb dX7_root___21 (by decide) ?_
      have hPc := hP.sub (ws' := [(y, .inr (11, [.int th, .ref ys, .ref yp, .int 0])), (ys, .inr (3, [.int 0, .ref (ta 4), .int 0])), (yp, .inr (3, [.int 0, .ref (ta 4), .int 0]))]) [0, 1, 2] rfl
      have hKc := hK.sub (tys' := []) [] rfl
      have hDc := hD.sub (ws' := [(y, .inr (11, [.int th, .ref ys, .ref yp, .int 0])), (ys, .inr (3, [.int 0, .ref (ta 4), .int 0])), (yp, .inr (3, [.int 0, .ref (ta 4), .int 0]))]) [0, 1, 2] (by decide) rfl
      have hFc := va_free (wc := [(y, .inr (11, [.int th, .ref ys, .ref yp, .int 0])), (ys, .inr (3, [.int 0, .ref (ta 4), .int 0])), (yp, .inr (3, [.int 0, .ref (ta 4), .int 0]))]) hD hS hA [0, 1, 2] rfl
      refine va_calli (va_runV (As := [.int 0, .int 1]) (rest := []) ⟨hx, hb, hml, hown, hts⟩ (c_X7_start_0 l dC dI y ys yp sa ta H.size th) (cwV 2 hts gX7_root___X7_start rfl rfl rfl (by decide +kernel) ⟨Nat.le_of_ble_eq_true rfl, Nat.le_of_ble_eq_true rfl⟩) ⟨ax_fbW, va_recv hK hP (ci := 11) (q0 := 0) rfl rfl, ax_prW hPc hKc hDc hS hFc hE⟩ rfl rfl hl.1 rfl (lv_room (Nat.le_of_ble_eq_true rfl)) dX7_root___22 ⟨Nat.le_of_ble_eq_true rfl, Nat.le_of_ble_eq_true rfl⟩) hS (fun q _ h9 => hFc q h9) hFc (fun r_13 u_15  t H locs ht hvm hw_14 hB hz1 hk1 hS => ?_)
      obtain ⟨hP1, hK1, hD1⟩ := hB
      rw [ht] at hP1
      have hK1 := va_K.moved hvm.symm hK1
      obtain ⟨hP, hD⟩ := va_join (wr := []) (w1 := [(y, .inr (11, [.int 0, .ref ys, .ref yp, .int 0])), (ys, .inr (3, [.int 0, .ref (ta 4), .int 0])), (yp, .inr (3, [.int 0, .ref (ta 4), .int 0]))]) hP hD [0, 1, 2] [] rfl rfl (by decide) (by decide) hk1 hFc hP1 hD1
      have hP : va_P (dC, dI) vwCl [(y, .inr (11, [.int 0, .ref ys, .ref yp, .int 0])), (ys, .inr (3, [.int 0, .ref (ta 4), .int 0])), (yp, .inr (3, [.int 0, .ref (ta 4), .int 0]))] H := hP
      have hD : va_D A [(y, .inr (11, [.int 0, .ref ys, .ref yp, .int 0])), (ys, .inr (3, [.int 0, .ref (ta 4), .int 0])), (yp, .inr (3, [.int 0, .ref (ta 4), .int 0]))] := hD
      refine ax_i (y := 0) hw_14 ?_
      refine lv_if_eq (tgt := 32) hx hb dX7_root___25 (by decide) (fun _ => ?_) (fun h9 => absurd (by decide) h9)
      refine lv_aload_n hx hb dX7_root___32 rfl (lv_at hl 0 rfl) ?_
      refine lv_iload_n hx hb dX7_root___33 rfl (lv_at hl 2 rfl) ?_
      refine lv_aload_n hx hb dX7_root___34 rfl (lv_at hl 0 rfl) ?_
      refine lv_iload_n hx hb dX7_root___35 rfl (lv_at hl 1 rfl) ?_
      have hPc := hP.sub (ws' := [(y, .inr (11, [.int 0, .ref ys, .ref yp, .int 0])), (ys, .inr (3, [.int 0, .ref (ta 4), .int 0])), (yp, .inr (3, [.int 0, .ref (ta 4), .int 0]))]) [0, 1, 2] rfl
      have hKc := hK.sub (tys' := []) [] rfl
      have hDc := hD.sub (ws' := [(y, .inr (11, [.int 0, .ref ys, .ref yp, .int 0])), (ys, .inr (3, [.int 0, .ref (ta 4), .int 0])), (yp, .inr (3, [.int 0, .ref (ta 4), .int 0]))]) [0, 1, 2] (by decide) rfl
      have hFc := va_free (wc := [(y, .inr (11, [.int 0, .ref ys, .ref yp, .int 0])), (ys, .inr (3, [.int 0, .ref (ta 4), .int 0])), (yp, .inr (3, [.int 0, .ref (ta 4), .int 0]))]) hD hS hA [0, 1, 2] rfl
      refine va_callr (va_runV (As := [.int p0]) (rest := [.int p1, .ref y]) ⟨hx, hb, hml, hown, hts⟩ (c_X7_behind_ l dC dI y ys yp sa ta H.size 0 p0 (by omega)) (cwV 1 hts gX7_root___X7_behind_ rfl rfl rfl (by decide +kernel) ⟨Nat.le_of_ble_eq_true rfl, Nat.le_of_ble_eq_true rfl⟩) ⟨ax_fbW, va_recv hK hP (ci := 11) (q0 := 0) rfl rfl, ax_prW hPc hKc hDc hS hFc hE⟩ rfl rfl hl.1 rfl (lv_room (Nat.le_of_ble_eq_true rfl)) dX7_root___36 ⟨Nat.le_of_ble_eq_true rfl, Nat.le_of_ble_eq_true rfl⟩) hS (fun q _ h9 => hFc q h9) hFc (fun u_18  r_16 t H locs ht hvm hw_17 hB hz1 hk1 hS => ?_)
      obtain ⟨qA_19, rfl⟩ : ∃ z, z = u_18 := ⟨_, rfl⟩
      obtain ⟨hP1, hK1, hD1⟩ := hB
      rw [ht] at hP1
      have hK1 := va_K.moved hvm.symm hK1
      obtain ⟨hP, hD⟩ := va_join (wr := []) (w1 := [(y, .inr (11, [.int 0, .ref ys, .ref yp, .int 0])), (ys, .inr (3, [.int 0, .ref (ta 4), .int 0])), (yp, .inr (3, [.int 0, .ref (ta 4), .int 0])), (r_16, .inl (qA_19, 0, .inr (.inl (fun _ => 0))))]) hP hD [0, 1, 2] [] rfl rfl (by decide) (by decide) hk1 hFc hP1 hD1
      have hK := hK.app hK1
      have hK := hK.sub (tys' := [(qA_19, .long)]) [0] rfl
      have hP : va_P (dC, dI) vwCl [(y, .inr (11, [.int 0, .ref ys, .ref yp, .int 0])), (ys, .inr (3, [.int 0, .ref (ta 4), .int 0])), (yp, .inr (3, [.int 0, .ref (ta 4), .int 0])), (r_16, .inl (qA_19, 0, .inr (.inl (fun _ => 0))))] H := hP
      have hD : va_D A [(y, .inr (11, [.int 0, .ref ys, .ref yp, .int 0])), (ys, .inr (3, [.int 0, .ref (ta 4), .int 0])), (yp, .inr (3, [.int 0, .ref (ta 4), .int 0])), (r_16, .inl (qA_19, 0, .inr (.inl (fun _ => 0))))] := hD
      have hPc := hP.sub (ws' := [(y, .inr (11, [.int 0, .ref ys, .ref yp, .int 0])), (ys, .inr (3, [.int 0, .ref (ta 4), .int 0])), (yp, .inr (3, [.int 0, .ref (ta 4), .int 0]))]) [0, 1, 2] rfl
      have hKc := hK.sub (tys' := []) [] rfl
      refine va_calll (va_runV (As := [.int p1, .ref r_16]) (rest := []) ⟨hx, hb, hml, hown, hts⟩ (c_X7_root_ l dC dI y ys yp sa ta 0 p1 r_16) (cwV 2 hts gX7_root___X7_root_ rfl rfl rfl (by decide +kernel) ⟨Nat.le_of_ble_eq_true rfl, Nat.le_of_ble_eq_true rfl⟩) ⟨ax_fbR, va_recv hK hP (ci := 11) (q0 := 0) rfl rfl, ax_prR hPc hKc hS hE⟩ rfl rfl hl.1 rfl (lv_room (Nat.le_of_ble_eq_true rfl)) dX7_root___39 ⟨Nat.le_of_ble_eq_true rfl, Nat.le_of_ble_eq_true rfl⟩) hS (fun _ _ h9 => h9.elim) (fun _ h9 => h9.elim) (fun r_20 u_22  t H locs ht hvm hw_21 hB hz1 hk1 hS => ?_)
      have hP := ax_keep hP (fun _ h9 => h9) hk1
      refine ax_l (y := 0) hw_21 ?_
      refine W.widen (k := 2) (n := 4) (Nat.le_of_ble_eq_true rfl) (Nat.le_of_ble_eq_true rfl) ?_
      have hP9 := hP.sub (ws' := [(y, .inr (11, [.int 0, .ref ys, .ref yp, .int 0]))]) [0] rfl
      have hD9 := hD.sub (ws' := [(y, .inr (11, [.int 0, .ref ys, .ref yp, .int 0]))]) [0] (by decide) rfl
      have hK9 := hK.sub (tys' := []) [] rfl
      exact W.lret (v := 0) hx hb hr (fun t ht hW => ⟨⟨0, 0, rfl, Or.inl ⟨by omega, rfl, rfl⟩, by rw [ht]; exact hP9, va_K.moved hW.alike hK9, hD9⟩, hS.F ht⟩) hS.2.2 dX7_root___42

set_option maxHeartbeats 4000000 in
set_option maxRecDepth 100000 in
theorem c_X7_power__0 (l : Launch) (dC : Nat → ClassId) (dI : Nat → Nat → Nat) (y ys yp : Nat) (sa ta : Nat → Nat) (sz : Nat) (th : Int32) (p0 : Int32) : Met l yX7_power_ wsX7_power_ ({ frames := 40, cells := 2, slots := 4, locals := 1000 }) (va_Pc [.ref y, .int p0, .int 0] (ax_W (dC, dI) vwCl [(y, .inr (11, [.int th, .ref ys, .ref yp, .int 0])), (ys, .inr (3, [.int 0, .ref (ta 4), .int 0])), (yp, .inr (3, [.int 0, .ref (ta 4), .int 0]))] [] sa ta sz)) (va_Ql (fun (r : Int64) (u : Int32) => (p0.toInt = -1 ∧ u = 0 ∧ r = 0) ∨ (¬ (p0.toInt = -1) ∧ u = 1)) (fun (u : Int32) (t : State) => va_P (dC, dI) vwCl [(y, .inr (11, [.int u, .ref ys, .ref yp, .int 0]))] t.heap ∧ va_K (dC, dI) vwCl [] t ∧ va_D (va_A [(y, .inr (11, [.int th, .ref ys, .ref yp, .int 0])), (ys, .inr (3, [.int 0, .ref (ta 4), .int 0])), (yp, .inr (3, [.int 0, .ref (ta 4), .int 0]))] sz) [(y, .inr (11, [.int u, .ref ys, .ref yp, .int 0]))]) (va_A [(y, .inr (11, [.int th, .ref ys, .ref yp, .int 0])), (ys, .inr (3, [.int 0, .ref (ta 4), .int 0])), (yp, .inr (3, [.int 0, .ref (ta 4), .int 0]))] sz)) 2 4 (va_A [(y, .inr (11, [.int th, .ref ys, .ref yp, .int 0])), (ys, .inr (3, [.int 0, .ref (ta 4), .int 0])), (yp, .inr (3, [.int 0, .ref (ta 4), .int 0]))] sz) := by
  refine Met.ofW (cc := cX7_power_) (maxL := 3) (ret := (some .long)) (by decide) rfl ?_
  intro p e s m args below meth c s₁ B hml hv
  obtain ⟨rfl, hsz, hP, hK, hD0, hE⟩ := hv
  have hx := B.exec
  have hb := B.bytes
  have hr := B.returns
  have hts := atoms_spec (ws := wsX7_power_) B.pre
  have hown : s.vm.findClass RX7 = some m.cls := findClass_of_methodNamed B.named
  have hlocks := B.notSynchronized
  subst hsz
  have hD := hD0.self (sz := s.heap.size)
  generalize hAe : va_A [(y, .inr (11, [.int th, .ref ys, .ref yp, .int 0])), (ys, .inr (3, [.int 0, .ref (ta 4), .int 0])), (yp, .inr (3, [.int 0, .ref (ta 4), .int 0]))] s.heap.size = A at hD hE ⊢
  have hA : ∀ q : Nat, s.heap.size ≤ q → A q := fun q h => by rw [← hAe]; exact Or.inr h
  have hS : va_S A s.heap s.heap [] := va_S.rf
  have hl := lv_entry ([.ref y, .int p0, .int 0]) (n := 3) (Nat.le_of_ble_eq_true rfl)
  rw [lg_entry_eq]
  generalize (lg_sl ([.ref y, .int p0, .int 0]) ++ List.replicate (3 - (lg_sl ([.ref y, .int p0, .int 0])).length) Slot.unset).toArray = ls at hl ⊢
  have hl : lv_has ls 3 [(0, .ref y), (1, .int p0), (2, .int 0)] := hl
  have hP : va_P (dC, dI) vwCl [(y, .inr (11, [.int th, .ref ys, .ref yp, .int 0])), (ys, .inr (3, [.int 0, .ref (ta 4), .int 0])), (yp, .inr (3, [.int 0, .ref (ta 4), .int 0]))] s.heap := hP
  refine lv_aload_n hx hb dX7_power__0 rfl (lv_at hl 0 rfl) ?_
  refine lv_aload_n hx hb dX7_power__1 rfl (lv_at hl 0 rfl) ?_
  refine lv_iload_n hx hb dX7_power__2 rfl (lv_at hl 1 rfl) ?_
  have hPc := hP.sub (ws' := [(y, .inr (11, [.int th, .ref ys, .ref yp, .int 0])), (ys, .inr (3, [.int 0, .ref (ta 4), .int 0])), (yp, .inr (3, [.int 0, .ref (ta 4), .int 0]))]) [0, 1, 2] rfl
  have hKc := hK.sub (tys' := []) [] rfl
  refine va_calli (va_runV (As := [.int p0]) (rest := [.ref y]) ⟨hx, hb, hml, hown, hts⟩ (c_X7_isNowhere l dC dI y ys yp sa ta th p0) (cwV 1 hts gX7_power__X7_isNowhere rfl rfl rfl (by decide +kernel) ⟨Nat.le_of_ble_eq_true rfl, Nat.le_of_ble_eq_true rfl⟩) ⟨ax_fbR, va_recv hK hP (ci := 11) (q0 := 0) rfl rfl, ax_prR hPc hKc hS hE⟩ rfl rfl hl.1 rfl (lv_room (Nat.le_of_ble_eq_true rfl)) dX7_power__3 ⟨Nat.le_of_ble_eq_true rfl, Nat.le_of_ble_eq_true rfl⟩) hS (fun _ _ h9 => h9.elim) (fun _ h9 => h9.elim) (fun r_1 u_3  t H locs ht hvm hw_2 hB hz1 hk1 hS => ?_)
  have hP := ax_keep hP (fun _ h9 => h9) hk1
  rcases hw_2 with ⟨hr9, hw_2⟩ | ⟨hr9, hw_2⟩
  · refine ax_i hr9 ?_
    refine lv_iconst (v := 1) hx hb dX7_power__6 (by decide) ?_
    have hPc := hP.sub (ws' := [(y, .inr (11, [.int th, .ref ys, .ref yp, .int 0])), (ys, .inr (3, [.int 0, .ref (ta 4), .int 0])), (yp, .inr (3, [.int 0, .ref (ta 4), .int 0]))]) [0, 1, 2] rfl
    have hKc := hK.sub (tys' := []) [] rfl
    have hDc := hD.sub (ws' := [(y, .inr (11, [.int th, .ref ys, .ref yp, .int 0])), (ys, .inr (3, [.int 0, .ref (ta 4), .int 0])), (yp, .inr (3, [.int 0, .ref (ta 4), .int 0]))]) [0, 1, 2] (by decide) rfl
    have hFc := va_free (wc := [(y, .inr (11, [.int th, .ref ys, .ref yp, .int 0])), (ys, .inr (3, [.int 0, .ref (ta 4), .int 0])), (yp, .inr (3, [.int 0, .ref (ta 4), .int 0]))]) hD hS hA [0, 1, 2] rfl
    refine va_calli (va_runV (As := [.int 1, .int 1]) (rest := []) ⟨hx, hb, hml, hown, hts⟩ (c_X7_start_1 l dC dI y ys yp sa ta H.size th) (cwV 2 hts gX7_power__X7_start rfl rfl rfl (by decide +kernel) ⟨Nat.le_of_ble_eq_true rfl, Nat.le_of_ble_eq_true rfl⟩) ⟨ax_fbW, va_recv hK hP (ci := 11) (q0 := 0) rfl rfl, ax_prW hPc hKc hDc hS hFc hE⟩ rfl rfl hl.1 rfl (lv_room (Nat.le_of_ble_eq_true rfl)) dX7_power__7 ⟨Nat.le_of_ble_eq_true rfl, Nat.le_of_ble_eq_true rfl⟩) hS (fun q _ h9 => hFc q h9) hFc (fun r_4 u_6  t H locs ht hvm hw_5 hB hz1 hk1 hS => ?_)
    obtain ⟨hP1, hK1, hD1⟩ := hB
    rw [ht] at hP1
    have hK1 := va_K.moved hvm.symm hK1
    obtain ⟨hP, hD⟩ := va_join (wr := []) (w1 := [(y, .inr (11, [.int 1, .ref ys, .ref yp, .int 0])), (ys, .inr (3, [.int 0, .ref (ta 4), .int 0])), (yp, .inr (3, [.int 0, .ref (ta 4), .int 0]))]) hP hD [0, 1, 2] [] rfl rfl (by decide) (by decide) hk1 hFc hP1 hD1
    have hP : va_P (dC, dI) vwCl [(y, .inr (11, [.int 1, .ref ys, .ref yp, .int 0])), (ys, .inr (3, [.int 0, .ref (ta 4), .int 0])), (yp, .inr (3, [.int 0, .ref (ta 4), .int 0]))] H := hP
    have hD : va_D A [(y, .inr (11, [.int 1, .ref ys, .ref yp, .int 0])), (ys, .inr (3, [.int 0, .ref (ta 4), .int 0])), (yp, .inr (3, [.int 0, .ref (ta 4), .int 0]))] := hD
    refine ax_i (y := 1) hw_5 ?_
    refine lv_if_eq (tgt := 17) hx hb dX7_power__10 (by decide) (fun h9 => absurd h9 (by decide)) (fun _ => ?_)
    refine lv_lconst (v := 0) hx hb dX7_power__13 (by decide) ?_
    refine lv_goto (tgt := 27) hx hb dX7_power__14 (by decide) ?_
    refine W.widen (k := 2) (n := 4) (Nat.le_of_ble_eq_true rfl) (Nat.le_of_ble_eq_true rfl) ?_
    have hP9 := hP.sub (ws' := [(y, .inr (11, [.int 1, .ref ys, .ref yp, .int 0]))]) [0] rfl
    have hD9 := hD.sub (ws' := [(y, .inr (11, [.int 1, .ref ys, .ref yp, .int 0]))]) [0] (by decide) rfl
    have hK9 := hK.sub (tys' := []) [] rfl
    exact W.lret (v := 0) hx hb hr (fun t ht hW => ⟨⟨0, 1, rfl, Or.inr ⟨by omega, rfl⟩, by rw [ht]; exact hP9, va_K.moved hW.alike hK9, hD9⟩, hS.F ht⟩) hS.2.2 dX7_power__27
  · refine ax_i hr9 ?_
    refine lv_iconst (v := 1) hx hb dX7_power__6 (by decide) ?_
    have hPc := hP.sub (ws' := [(y, .inr (11, [.int th, .ref ys, .ref yp, .int 0])), (ys, .inr (3, [.int 0, .ref (ta 4), .int 0])), (yp, .inr (3, [.int 0, .ref (ta 4), .int 0]))]) [0, 1, 2] rfl
    have hKc := hK.sub (tys' := []) [] rfl
    have hDc := hD.sub (ws' := [(y, .inr (11, [.int th, .ref ys, .ref yp, .int 0])), (ys, .inr (3, [.int 0, .ref (ta 4), .int 0])), (yp, .inr (3, [.int 0, .ref (ta 4), .int 0]))]) [0, 1, 2] (by decide) rfl
    have hFc := va_free (wc := [(y, .inr (11, [.int th, .ref ys, .ref yp, .int 0])), (ys, .inr (3, [.int 0, .ref (ta 4), .int 0])), (yp, .inr (3, [.int 0, .ref (ta 4), .int 0]))]) hD hS hA [0, 1, 2] rfl
    refine va_calli (va_runV (As := [.int 0, .int 1]) (rest := []) ⟨hx, hb, hml, hown, hts⟩ (c_X7_start_0 l dC dI y ys yp sa ta H.size th) (cwV 2 hts gX7_power__X7_start rfl rfl rfl (by decide +kernel) ⟨Nat.le_of_ble_eq_true rfl, Nat.le_of_ble_eq_true rfl⟩) ⟨ax_fbW, va_recv hK hP (ci := 11) (q0 := 0) rfl rfl, ax_prW hPc hKc hDc hS hFc hE⟩ rfl rfl hl.1 rfl (lv_room (Nat.le_of_ble_eq_true rfl)) dX7_power__7 ⟨Nat.le_of_ble_eq_true rfl, Nat.le_of_ble_eq_true rfl⟩) hS (fun q _ h9 => hFc q h9) hFc (fun r_7 u_9  t H locs ht hvm hw_8 hB hz1 hk1 hS => ?_)
    obtain ⟨hP1, hK1, hD1⟩ := hB
    rw [ht] at hP1
    have hK1 := va_K.moved hvm.symm hK1
    obtain ⟨hP, hD⟩ := va_join (wr := []) (w1 := [(y, .inr (11, [.int 0, .ref ys, .ref yp, .int 0])), (ys, .inr (3, [.int 0, .ref (ta 4), .int 0])), (yp, .inr (3, [.int 0, .ref (ta 4), .int 0]))]) hP hD [0, 1, 2] [] rfl rfl (by decide) (by decide) hk1 hFc hP1 hD1
    have hP : va_P (dC, dI) vwCl [(y, .inr (11, [.int 0, .ref ys, .ref yp, .int 0])), (ys, .inr (3, [.int 0, .ref (ta 4), .int 0])), (yp, .inr (3, [.int 0, .ref (ta 4), .int 0]))] H := hP
    have hD : va_D A [(y, .inr (11, [.int 0, .ref ys, .ref yp, .int 0])), (ys, .inr (3, [.int 0, .ref (ta 4), .int 0])), (yp, .inr (3, [.int 0, .ref (ta 4), .int 0]))] := hD
    refine ax_i (y := 0) hw_8 ?_
    refine lv_if_eq (tgt := 17) hx hb dX7_power__10 (by decide) (fun _ => ?_) (fun h9 => absurd (by decide) h9)
    refine lv_aload_n hx hb dX7_power__17 rfl (lv_at hl 0 rfl) ?_
    refine lv_aload_n hx hb dX7_power__18 rfl (lv_at hl 0 rfl) ?_
    refine lv_iload_n hx hb dX7_power__19 rfl (lv_at hl 1 rfl) ?_
    have hPc := hP.sub (ws' := [(y, .inr (11, [.int 0, .ref ys, .ref yp, .int 0])), (ys, .inr (3, [.int 0, .ref (ta 4), .int 0])), (yp, .inr (3, [.int 0, .ref (ta 4), .int 0]))]) [0, 1, 2] rfl
    have hKc := hK.sub (tys' := []) [] rfl
    have hDc := hD.sub (ws' := [(y, .inr (11, [.int 0, .ref ys, .ref yp, .int 0])), (ys, .inr (3, [.int 0, .ref (ta 4), .int 0])), (yp, .inr (3, [.int 0, .ref (ta 4), .int 0]))]) [0, 1, 2] (by decide) rfl
    have hFc := va_free (wc := [(y, .inr (11, [.int 0, .ref ys, .ref yp, .int 0])), (ys, .inr (3, [.int 0, .ref (ta 4), .int 0])), (yp, .inr (3, [.int 0, .ref (ta 4), .int 0]))]) hD hS hA [0, 1, 2] rfl
    refine va_callr (va_runV (As := [.int p0]) (rest := [.ref y]) ⟨hx, hb, hml, hown, hts⟩ (c_X7_behind_ l dC dI y ys yp sa ta H.size 0 p0 (by omega)) (cwV 1 hts gX7_power__X7_behind_ rfl rfl rfl (by decide +kernel) ⟨Nat.le_of_ble_eq_true rfl, Nat.le_of_ble_eq_true rfl⟩) ⟨ax_fbW, va_recv hK hP (ci := 11) (q0 := 0) rfl rfl, ax_prW hPc hKc hDc hS hFc hE⟩ rfl rfl hl.1 rfl (lv_room (Nat.le_of_ble_eq_true rfl)) dX7_power__20 ⟨Nat.le_of_ble_eq_true rfl, Nat.le_of_ble_eq_true rfl⟩) hS (fun q _ h9 => hFc q h9) hFc (fun u_12  r_10 t H locs ht hvm hw_11 hB hz1 hk1 hS => ?_)
    obtain ⟨qA_13, rfl⟩ : ∃ z, z = u_12 := ⟨_, rfl⟩
    obtain ⟨hP1, hK1, hD1⟩ := hB
    rw [ht] at hP1
    have hK1 := va_K.moved hvm.symm hK1
    obtain ⟨hP, hD⟩ := va_join (wr := []) (w1 := [(y, .inr (11, [.int 0, .ref ys, .ref yp, .int 0])), (ys, .inr (3, [.int 0, .ref (ta 4), .int 0])), (yp, .inr (3, [.int 0, .ref (ta 4), .int 0])), (r_10, .inl (qA_13, 0, .inr (.inl (fun _ => 0))))]) hP hD [0, 1, 2] [] rfl rfl (by decide) (by decide) hk1 hFc hP1 hD1
    have hK := hK.app hK1
    have hK := hK.sub (tys' := [(qA_13, .long)]) [0] rfl
    have hP : va_P (dC, dI) vwCl [(y, .inr (11, [.int 0, .ref ys, .ref yp, .int 0])), (ys, .inr (3, [.int 0, .ref (ta 4), .int 0])), (yp, .inr (3, [.int 0, .ref (ta 4), .int 0])), (r_10, .inl (qA_13, 0, .inr (.inl (fun _ => 0))))] H := hP
    have hD : va_D A [(y, .inr (11, [.int 0, .ref ys, .ref yp, .int 0])), (ys, .inr (3, [.int 0, .ref (ta 4), .int 0])), (yp, .inr (3, [.int 0, .ref (ta 4), .int 0])), (r_10, .inl (qA_13, 0, .inr (.inl (fun _ => 0))))] := hD
    refine lv_iload_n hx hb dX7_power__23 rfl (lv_at hl 2 rfl) ?_
    have hPc := hP.sub (ws' := [(y, .inr (11, [.int 0, .ref ys, .ref yp, .int 0])), (ys, .inr (3, [.int 0, .ref (ta 4), .int 0])), (yp, .inr (3, [.int 0, .ref (ta 4), .int 0]))]) [0, 1, 2] rfl
    have hKc := hK.sub (tys' := []) [] rfl
    refine va_calll (va_runV (As := [.ref r_10, .int 0]) (rest := []) ⟨hx, hb, hml, hown, hts⟩ (c_X7_power_0 l dC dI y ys yp sa ta 0 r_10) (cwV 2 hts gX7_power__X7_power rfl rfl rfl (by decide +kernel) ⟨Nat.le_of_ble_eq_true rfl, Nat.le_of_ble_eq_true rfl⟩) ⟨ax_fbR, va_recv hK hP (ci := 11) (q0 := 0) rfl rfl, ax_prR hPc hKc hS hE⟩ rfl rfl hl.1 rfl (lv_room (Nat.le_of_ble_eq_true rfl)) dX7_power__24 ⟨Nat.le_of_ble_eq_true rfl, Nat.le_of_ble_eq_true rfl⟩) hS (fun _ _ h9 => h9.elim) (fun _ h9 => h9.elim) (fun r_14 u_16  t H locs ht hvm hw_15 hB hz1 hk1 hS => ?_)
    have hP := ax_keep hP (fun _ h9 => h9) hk1
    refine ax_l (y := 0) hw_15 ?_
    refine W.widen (k := 2) (n := 4) (Nat.le_of_ble_eq_true rfl) (Nat.le_of_ble_eq_true rfl) ?_
    have hP9 := hP.sub (ws' := [(y, .inr (11, [.int 0, .ref ys, .ref yp, .int 0]))]) [0] rfl
    have hD9 := hD.sub (ws' := [(y, .inr (11, [.int 0, .ref ys, .ref yp, .int 0]))]) [0] (by decide) rfl
    have hK9 := hK.sub (tys' := []) [] rfl
    exact W.lret (v := 0) hx hb hr (fun t ht hW => ⟨⟨0, 0, rfl, Or.inl ⟨by omega, rfl, rfl⟩, by rw [ht]; exact hP9, va_K.moved hW.alike hK9, hD9⟩, hS.F ht⟩) hS.2.2 dX7_power__27

set_option maxHeartbeats 4000000 in
set_option maxRecDepth 100000 in
theorem c_X7_power__1 (l : Launch) (dC : Nat → ClassId) (dI : Nat → Nat → Nat) (y ys yp : Nat) (sa ta : Nat → Nat) (sz : Nat) (th : Int32) (p0 : Int32) : Met l yX7_power_ wsX7_power_ ({ frames := 40, cells := 2, slots := 4, locals := 1000 }) (va_Pc [.ref y, .int p0, .int 1] (ax_W (dC, dI) vwCl [(y, .inr (11, [.int th, .ref ys, .ref yp, .int 0])), (ys, .inr (3, [.int 0, .ref (ta 4), .int 0])), (yp, .inr (3, [.int 0, .ref (ta 4), .int 0]))] [] sa ta sz)) (va_Ql (fun (r : Int64) (u : Int32) => (p0.toInt = -1 ∧ u = 0 ∧ r = 0) ∨ (¬ (p0.toInt = -1) ∧ u = 1)) (fun (u : Int32) (t : State) => va_P (dC, dI) vwCl [(y, .inr (11, [.int u, .ref ys, .ref yp, .int 0]))] t.heap ∧ va_K (dC, dI) vwCl [] t ∧ va_D (va_A [(y, .inr (11, [.int th, .ref ys, .ref yp, .int 0])), (ys, .inr (3, [.int 0, .ref (ta 4), .int 0])), (yp, .inr (3, [.int 0, .ref (ta 4), .int 0]))] sz) [(y, .inr (11, [.int u, .ref ys, .ref yp, .int 0]))]) (va_A [(y, .inr (11, [.int th, .ref ys, .ref yp, .int 0])), (ys, .inr (3, [.int 0, .ref (ta 4), .int 0])), (yp, .inr (3, [.int 0, .ref (ta 4), .int 0]))] sz)) 2 4 (va_A [(y, .inr (11, [.int th, .ref ys, .ref yp, .int 0])), (ys, .inr (3, [.int 0, .ref (ta 4), .int 0])), (yp, .inr (3, [.int 0, .ref (ta 4), .int 0]))] sz) := by
  refine Met.ofW (cc := cX7_power_) (maxL := 3) (ret := (some .long)) (by decide) rfl ?_
  intro p e s m args below meth c s₁ B hml hv
  obtain ⟨rfl, hsz, hP, hK, hD0, hE⟩ := hv
  have hx := B.exec
  have hb := B.bytes
  have hr := B.returns
  have hts := atoms_spec (ws := wsX7_power_) B.pre
  have hown : s.vm.findClass RX7 = some m.cls := findClass_of_methodNamed B.named
  have hlocks := B.notSynchronized
  subst hsz
  have hD := hD0.self (sz := s.heap.size)
  generalize hAe : va_A [(y, .inr (11, [.int th, .ref ys, .ref yp, .int 0])), (ys, .inr (3, [.int 0, .ref (ta 4), .int 0])), (yp, .inr (3, [.int 0, .ref (ta 4), .int 0]))] s.heap.size = A at hD hE ⊢
  have hA : ∀ q : Nat, s.heap.size ≤ q → A q := fun q h => by rw [← hAe]; exact Or.inr h
  have hS : va_S A s.heap s.heap [] := va_S.rf
  have hl := lv_entry ([.ref y, .int p0, .int 1]) (n := 3) (Nat.le_of_ble_eq_true rfl)
  rw [lg_entry_eq]
  generalize (lg_sl ([.ref y, .int p0, .int 1]) ++ List.replicate (3 - (lg_sl ([.ref y, .int p0, .int 1])).length) Slot.unset).toArray = ls at hl ⊢
  have hl : lv_has ls 3 [(0, .ref y), (1, .int p0), (2, .int 1)] := hl
  have hP : va_P (dC, dI) vwCl [(y, .inr (11, [.int th, .ref ys, .ref yp, .int 0])), (ys, .inr (3, [.int 0, .ref (ta 4), .int 0])), (yp, .inr (3, [.int 0, .ref (ta 4), .int 0]))] s.heap := hP
  refine lv_aload_n hx hb dX7_power__0 rfl (lv_at hl 0 rfl) ?_
  refine lv_aload_n hx hb dX7_power__1 rfl (lv_at hl 0 rfl) ?_
  refine lv_iload_n hx hb dX7_power__2 rfl (lv_at hl 1 rfl) ?_
  have hPc := hP.sub (ws' := [(y, .inr (11, [.int th, .ref ys, .ref yp, .int 0])), (ys, .inr (3, [.int 0, .ref (ta 4), .int 0])), (yp, .inr (3, [.int 0, .ref (ta 4), .int 0]))]) [0, 1, 2] rfl
  have hKc := hK.sub (tys' := []) [] rfl
  refine va_calli (va_runV (As := [.int p0]) (rest := [.ref y]) ⟨hx, hb, hml, hown, hts⟩ (c_X7_isNowhere l dC dI y ys yp sa ta th p0) (cwV 1 hts gX7_power__X7_isNowhere rfl rfl rfl (by decide +kernel) ⟨Nat.le_of_ble_eq_true rfl, Nat.le_of_ble_eq_true rfl⟩) ⟨ax_fbR, va_recv hK hP (ci := 11) (q0 := 0) rfl rfl, ax_prR hPc hKc hS hE⟩ rfl rfl hl.1 rfl (lv_room (Nat.le_of_ble_eq_true rfl)) dX7_power__3 ⟨Nat.le_of_ble_eq_true rfl, Nat.le_of_ble_eq_true rfl⟩) hS (fun _ _ h9 => h9.elim) (fun _ h9 => h9.elim) (fun r_1 u_3  t H locs ht hvm hw_2 hB hz1 hk1 hS => ?_)
  have hP := ax_keep hP (fun _ h9 => h9) hk1
  rcases hw_2 with ⟨hr9, hw_2⟩ | ⟨hr9, hw_2⟩
  · refine ax_i hr9 ?_
    refine lv_iconst (v := 1) hx hb dX7_power__6 (by decide) ?_
    have hPc := hP.sub (ws' := [(y, .inr (11, [.int th, .ref ys, .ref yp, .int 0])), (ys, .inr (3, [.int 0, .ref (ta 4), .int 0])), (yp, .inr (3, [.int 0, .ref (ta 4), .int 0]))]) [0, 1, 2] rfl
    have hKc := hK.sub (tys' := []) [] rfl
    have hDc := hD.sub (ws' := [(y, .inr (11, [.int th, .ref ys, .ref yp, .int 0])), (ys, .inr (3, [.int 0, .ref (ta 4), .int 0])), (yp, .inr (3, [.int 0, .ref (ta 4), .int 0]))]) [0, 1, 2] (by decide) rfl
    have hFc := va_free (wc := [(y, .inr (11, [.int th, .ref ys, .ref yp, .int 0])), (ys, .inr (3, [.int 0, .ref (ta 4), .int 0])), (yp, .inr (3, [.int 0, .ref (ta 4), .int 0]))]) hD hS hA [0, 1, 2] rfl
    refine va_calli (va_runV (As := [.int 1, .int 1]) (rest := []) ⟨hx, hb, hml, hown, hts⟩ (c_X7_start_1 l dC dI y ys yp sa ta H.size th) (cwV 2 hts gX7_power__X7_start rfl rfl rfl (by decide +kernel) ⟨Nat.le_of_ble_eq_true rfl, Nat.le_of_ble_eq_true rfl⟩) ⟨ax_fbW, va_recv hK hP (ci := 11) (q0 := 0) rfl rfl, ax_prW hPc hKc hDc hS hFc hE⟩ rfl rfl hl.1 rfl (lv_room (Nat.le_of_ble_eq_true rfl)) dX7_power__7 ⟨Nat.le_of_ble_eq_true rfl, Nat.le_of_ble_eq_true rfl⟩) hS (fun q _ h9 => hFc q h9) hFc (fun r_4 u_6  t H locs ht hvm hw_5 hB hz1 hk1 hS => ?_)
    obtain ⟨hP1, hK1, hD1⟩ := hB
    rw [ht] at hP1
    have hK1 := va_K.moved hvm.symm hK1
    obtain ⟨hP, hD⟩ := va_join (wr := []) (w1 := [(y, .inr (11, [.int 1, .ref ys, .ref yp, .int 0])), (ys, .inr (3, [.int 0, .ref (ta 4), .int 0])), (yp, .inr (3, [.int 0, .ref (ta 4), .int 0]))]) hP hD [0, 1, 2] [] rfl rfl (by decide) (by decide) hk1 hFc hP1 hD1
    have hP : va_P (dC, dI) vwCl [(y, .inr (11, [.int 1, .ref ys, .ref yp, .int 0])), (ys, .inr (3, [.int 0, .ref (ta 4), .int 0])), (yp, .inr (3, [.int 0, .ref (ta 4), .int 0]))] H := hP
    have hD : va_D A [(y, .inr (11, [.int 1, .ref ys, .ref yp, .int 0])), (ys, .inr (3, [.int 0, .ref (ta 4), .int 0])), (yp, .inr (3, [.int 0, .ref (ta 4), .int 0]))] := hD
    refine ax_i (y := 1) hw_5 ?_
    refine lv_if_eq (tgt := 17) hx hb dX7_power__10 (by decide) (fun h9 => absurd h9 (by decide)) (fun _ => ?_)
    refine lv_lconst (v := 0) hx hb dX7_power__13 (by decide) ?_
    refine lv_goto (tgt := 27) hx hb dX7_power__14 (by decide) ?_
    refine W.widen (k := 2) (n := 4) (Nat.le_of_ble_eq_true rfl) (Nat.le_of_ble_eq_true rfl) ?_
    have hP9 := hP.sub (ws' := [(y, .inr (11, [.int 1, .ref ys, .ref yp, .int 0]))]) [0] rfl
    have hD9 := hD.sub (ws' := [(y, .inr (11, [.int 1, .ref ys, .ref yp, .int 0]))]) [0] (by decide) rfl
    have hK9 := hK.sub (tys' := []) [] rfl
    exact W.lret (v := 0) hx hb hr (fun t ht hW => ⟨⟨0, 1, rfl, Or.inr ⟨by omega, rfl⟩, by rw [ht]; exact hP9, va_K.moved hW.alike hK9, hD9⟩, hS.F ht⟩) hS.2.2 dX7_power__27
  · refine ax_i hr9 ?_
    refine lv_iconst (v := 1) hx hb dX7_power__6 (by decide) ?_
    have hPc := hP.sub (ws' := [(y, .inr (11, [.int th, .ref ys, .ref yp, .int 0])), (ys, .inr (3, [.int 0, .ref (ta 4), .int 0])), (yp, .inr (3, [.int 0, .ref (ta 4), .int 0]))]) [0, 1, 2] rfl
    have hKc := hK.sub (tys' := []) [] rfl
    have hDc := hD.sub (ws' := [(y, .inr (11, [.int th, .ref ys, .ref yp, .int 0])), (ys, .inr (3, [.int 0, .ref (ta 4), .int 0])), (yp, .inr (3, [.int 0, .ref (ta 4), .int 0]))]) [0, 1, 2] (by decide) rfl
    have hFc := va_free (wc := [(y, .inr (11, [.int th, .ref ys, .ref yp, .int 0])), (ys, .inr (3, [.int 0, .ref (ta 4), .int 0])), (yp, .inr (3, [.int 0, .ref (ta 4), .int 0]))]) hD hS hA [0, 1, 2] rfl
    refine va_calli (va_runV (As := [.int 0, .int 1]) (rest := []) ⟨hx, hb, hml, hown, hts⟩ (c_X7_start_0 l dC dI y ys yp sa ta H.size th) (cwV 2 hts gX7_power__X7_start rfl rfl rfl (by decide +kernel) ⟨Nat.le_of_ble_eq_true rfl, Nat.le_of_ble_eq_true rfl⟩) ⟨ax_fbW, va_recv hK hP (ci := 11) (q0 := 0) rfl rfl, ax_prW hPc hKc hDc hS hFc hE⟩ rfl rfl hl.1 rfl (lv_room (Nat.le_of_ble_eq_true rfl)) dX7_power__7 ⟨Nat.le_of_ble_eq_true rfl, Nat.le_of_ble_eq_true rfl⟩) hS (fun q _ h9 => hFc q h9) hFc (fun r_7 u_9  t H locs ht hvm hw_8 hB hz1 hk1 hS => ?_)
    obtain ⟨hP1, hK1, hD1⟩ := hB
    rw [ht] at hP1
    have hK1 := va_K.moved hvm.symm hK1
    obtain ⟨hP, hD⟩ := va_join (wr := []) (w1 := [(y, .inr (11, [.int 0, .ref ys, .ref yp, .int 0])), (ys, .inr (3, [.int 0, .ref (ta 4), .int 0])), (yp, .inr (3, [.int 0, .ref (ta 4), .int 0]))]) hP hD [0, 1, 2] [] rfl rfl (by decide) (by decide) hk1 hFc hP1 hD1
    have hP : va_P (dC, dI) vwCl [(y, .inr (11, [.int 0, .ref ys, .ref yp, .int 0])), (ys, .inr (3, [.int 0, .ref (ta 4), .int 0])), (yp, .inr (3, [.int 0, .ref (ta 4), .int 0]))] H := hP
    have hD : va_D A [(y, .inr (11, [.int 0, .ref ys, .ref yp, .int 0])), (ys, .inr (3, [.int 0, .ref (ta 4), .int 0])), (yp, .inr (3, [.int 0, .ref (ta 4), .int 0]))] := hD
    refine ax_i (y := 0) hw_8 ?_
    refine lv_if_eq (tgt := 17) hx hb dX7_power__10 (by decide) (fun _ => ?_) (fun h9 => absurd (by decide) h9)
    refine lv_aload_n hx hb dX7_power__17 rfl (lv_at hl 0 rfl) ?_
    refine lv_aload_n hx hb dX7_power__18 rfl (lv_at hl 0 rfl) ?_
    refine lv_iload_n hx hb dX7_power__19 rfl (lv_at hl 1 rfl) ?_
    have hPc := hP.sub (ws' := [(y, .inr (11, [.int 0, .ref ys, .ref yp, .int 0])), (ys, .inr (3, [.int 0, .ref (ta 4), .int 0])), (yp, .inr (3, [.int 0, .ref (ta 4), .int 0]))]) [0, 1, 2] rfl
    have hKc := hK.sub (tys' := []) [] rfl
    have hDc := hD.sub (ws' := [(y, .inr (11, [.int 0, .ref ys, .ref yp, .int 0])), (ys, .inr (3, [.int 0, .ref (ta 4), .int 0])), (yp, .inr (3, [.int 0, .ref (ta 4), .int 0]))]) [0, 1, 2] (by decide) rfl
    have hFc := va_free (wc := [(y, .inr (11, [.int 0, .ref ys, .ref yp, .int 0])), (ys, .inr (3, [.int 0, .ref (ta 4), .int 0])), (yp, .inr (3, [.int 0, .ref (ta 4), .int 0]))]) hD hS hA [0, 1, 2] rfl
    refine va_callr (va_runV (As := [.int p0]) (rest := [.ref y]) ⟨hx, hb, hml, hown, hts⟩ (c_X7_behind_ l dC dI y ys yp sa ta H.size 0 p0 (by omega)) (cwV 1 hts gX7_power__X7_behind_ rfl rfl rfl (by decide +kernel) ⟨Nat.le_of_ble_eq_true rfl, Nat.le_of_ble_eq_true rfl⟩) ⟨ax_fbW, va_recv hK hP (ci := 11) (q0 := 0) rfl rfl, ax_prW hPc hKc hDc hS hFc hE⟩ rfl rfl hl.1 rfl (lv_room (Nat.le_of_ble_eq_true rfl)) dX7_power__20 ⟨Nat.le_of_ble_eq_true rfl, Nat.le_of_ble_eq_true rfl⟩) hS (fun q _ h9 => hFc q h9) hFc (fun u_12  r_10 t H locs ht hvm hw_11 hB hz1 hk1 hS => ?_)
    obtain ⟨qA_13, rfl⟩ : ∃ z, z = u_12 := ⟨_, rfl⟩
    obtain ⟨hP1, hK1, hD1⟩ := hB
    rw [ht] at hP1
    have hK1 := va_K.moved hvm.symm hK1
    obtain ⟨hP, hD⟩ := va_join (wr := []) (w1 := [(y, .inr (11, [.int 0, .ref ys, .ref yp, .int 0])), (ys, .inr (3, [.int 0, .ref (ta 4), .int 0])), (yp, .inr (3, [.int 0, .ref (ta 4), .int 0])), (r_10, .inl (qA_13, 0, .inr (.inl (fun _ => 0))))]) hP hD [0, 1, 2] [] rfl rfl (by decide) (by decide) hk1 hFc hP1 hD1
    have hK := hK.app hK1
    have hK := hK.sub (tys' := [(qA_13, .long)]) [0] rfl
    have hP : va_P (dC, dI) vwCl [(y, .inr (11, [.int 0, .ref ys, .ref yp, .int 0])), (ys, .inr (3, [.int 0, .ref (ta 4), .int 0])), (yp, .inr (3, [.int 0, .ref (ta 4), .int 0])), (r_10, .inl (qA_13, 0, .inr (.inl (fun _ => 0))))] H := hP
    have hD : va_D A [(y, .inr (11, [.int 0, .ref ys, .ref yp, .int 0])), (ys, .inr (3, [.int 0, .ref (ta 4), .int 0])), (yp, .inr (3, [.int 0, .ref (ta 4), .int 0])), (r_10, .inl (qA_13, 0, .inr (.inl (fun _ => 0))))] := hD
    refine lv_iload_n hx hb dX7_power__23 rfl (lv_at hl 2 rfl) ?_
    have hPc := hP.sub (ws' := [(y, .inr (11, [.int 0, .ref ys, .ref yp, .int 0])), (ys, .inr (3, [.int 0, .ref (ta 4), .int 0])), (yp, .inr (3, [.int 0, .ref (ta 4), .int 0]))]) [0, 1, 2] rfl
    have hKc := hK.sub (tys' := []) [] rfl
    refine va_calll (va_runV (As := [.ref r_10, .int 1]) (rest := []) ⟨hx, hb, hml, hown, hts⟩ (c_X7_power_1 l dC dI y ys yp sa ta 0 r_10) (cwV 2 hts gX7_power__X7_power rfl rfl rfl (by decide +kernel) ⟨Nat.le_of_ble_eq_true rfl, Nat.le_of_ble_eq_true rfl⟩) ⟨ax_fbR, va_recv hK hP (ci := 11) (q0 := 0) rfl rfl, ax_prR hPc hKc hS hE⟩ rfl rfl hl.1 rfl (lv_room (Nat.le_of_ble_eq_true rfl)) dX7_power__24 ⟨Nat.le_of_ble_eq_true rfl, Nat.le_of_ble_eq_true rfl⟩) hS (fun _ _ h9 => h9.elim) (fun _ h9 => h9.elim) (fun r_14 u_16  t H locs ht hvm hw_15 hB hz1 hk1 hS => ?_)
    have hP := ax_keep hP (fun _ h9 => h9) hk1
    refine ax_l (y := 0) hw_15 ?_
    refine W.widen (k := 2) (n := 4) (Nat.le_of_ble_eq_true rfl) (Nat.le_of_ble_eq_true rfl) ?_
    have hP9 := hP.sub (ws' := [(y, .inr (11, [.int 0, .ref ys, .ref yp, .int 0]))]) [0] rfl
    have hD9 := hD.sub (ws' := [(y, .inr (11, [.int 0, .ref ys, .ref yp, .int 0]))]) [0] (by decide) rfl
    have hK9 := hK.sub (tys' := []) [] rfl
    exact W.lret (v := 0) hx hb hr (fun t ht hW => ⟨⟨0, 0, rfl, Or.inl ⟨by omega, rfl, rfl⟩, by rw [ht]; exact hP9, va_K.moved hW.alike hK9, hD9⟩, hS.F ht⟩) hS.2.2 dX7_power__27

set_option maxHeartbeats 4000000 in
set_option maxRecDepth 100000 in
theorem c_X7_brightest_ (l : Launch) (dC : Nat → ClassId) (dI : Nat → Nat → Nat) (y ys yp : Nat) (sa ta : Nat → Nat) (sz : Nat) (th : Int32) (p0 : Int32) : Met l yX7_brightest_ wsX7_brightest_ ({ frames := 40, cells := 2, slots := 4, locals := 1000 }) (va_Pc [.ref y, .int p0] (ax_W (dC, dI) vwCl [(y, .inr (11, [.int th, .ref ys, .ref yp, .int 0])), (ys, .inr (3, [.int 0, .ref (ta 4), .int 0])), (yp, .inr (3, [.int 0, .ref (ta 4), .int 0]))] [] sa ta sz)) (va_Qi (fun (r : Int32) (u : Int32) => (p0.toInt = -1 ∧ u = 0 ∧ r = 0) ∨ (¬ (p0.toInt = -1) ∧ u = 1)) (fun (u : Int32) (t : State) => va_P (dC, dI) vwCl [(y, .inr (11, [.int u, .ref ys, .ref yp, .int 0]))] t.heap ∧ va_K (dC, dI) vwCl [] t ∧ va_D (va_A [(y, .inr (11, [.int th, .ref ys, .ref yp, .int 0])), (ys, .inr (3, [.int 0, .ref (ta 4), .int 0])), (yp, .inr (3, [.int 0, .ref (ta 4), .int 0]))] sz) [(y, .inr (11, [.int u, .ref ys, .ref yp, .int 0]))]) (va_A [(y, .inr (11, [.int th, .ref ys, .ref yp, .int 0])), (ys, .inr (3, [.int 0, .ref (ta 4), .int 0])), (yp, .inr (3, [.int 0, .ref (ta 4), .int 0]))] sz)) 2 4 (va_A [(y, .inr (11, [.int th, .ref ys, .ref yp, .int 0])), (ys, .inr (3, [.int 0, .ref (ta 4), .int 0])), (yp, .inr (3, [.int 0, .ref (ta 4), .int 0]))] sz) := by
  refine Met.ofW (cc := cX7_brightest_) (maxL := 2) (ret := (some .int)) (by decide) rfl ?_
  intro p e s m args below meth c s₁ B hml hv
  obtain ⟨rfl, hsz, hP, hK, hD0, hE⟩ := hv
  have hx := B.exec
  have hb := B.bytes
  have hr := B.returns
  have hts := atoms_spec (ws := wsX7_brightest_) B.pre
  have hown : s.vm.findClass RX7 = some m.cls := findClass_of_methodNamed B.named
  have hlocks := B.notSynchronized
  subst hsz
  have hD := hD0.self (sz := s.heap.size)
  generalize hAe : va_A [(y, .inr (11, [.int th, .ref ys, .ref yp, .int 0])), (ys, .inr (3, [.int 0, .ref (ta 4), .int 0])), (yp, .inr (3, [.int 0, .ref (ta 4), .int 0]))] s.heap.size = A at hD hE ⊢
  have hA : ∀ q : Nat, s.heap.size ≤ q → A q := fun q h => by rw [← hAe]; exact Or.inr h
  have hS : va_S A s.heap s.heap [] := va_S.rf
  have hl := lv_entry ([.ref y, .int p0]) (n := 2) (Nat.le_of_ble_eq_true rfl)
  rw [lg_entry_eq]
  generalize (lg_sl ([.ref y, .int p0]) ++ List.replicate (2 - (lg_sl ([.ref y, .int p0])).length) Slot.unset).toArray = ls at hl ⊢
  have hl : lv_has ls 2 [(0, .ref y), (1, .int p0)] := hl
  have hP : va_P (dC, dI) vwCl [(y, .inr (11, [.int th, .ref ys, .ref yp, .int 0])), (ys, .inr (3, [.int 0, .ref (ta 4), .int 0])), (yp, .inr (3, [.int 0, .ref (ta 4), .int 0]))] s.heap := hP
  refine lv_aload_n hx hb dX7_brightest__0 rfl (lv_at hl 0 rfl) ?_
  refine lv_aload_n hx hb dX7_brightest__1 rfl (lv_at hl 0 rfl) ?_
  refine lv_iload_n hx hb dX7_brightest__2 rfl (lv_at hl 1 rfl) ?_
  have hPc := hP.sub (ws' := [(y, .inr (11, [.int th, .ref ys, .ref yp, .int 0])), (ys, .inr (3, [.int 0, .ref (ta 4), .int 0])), (yp, .inr (3, [.int 0, .ref (ta 4), .int 0]))]) [0, 1, 2] rfl
  have hKc := hK.sub (tys' := []) [] rfl
  refine va_calli (va_runV (As := [.int p0]) (rest := [.ref y]) ⟨hx, hb, hml, hown, hts⟩ (c_X7_isNowhere l dC dI y ys yp sa ta th p0) (cwV 1 hts gX7_brightest__X7_isNowhere rfl rfl rfl (by decide +kernel) ⟨Nat.le_of_ble_eq_true rfl, Nat.le_of_ble_eq_true rfl⟩) ⟨ax_fbR, va_recv hK hP (ci := 11) (q0 := 0) rfl rfl, ax_prR hPc hKc hS hE⟩ rfl rfl hl.1 rfl (lv_room (Nat.le_of_ble_eq_true rfl)) dX7_brightest__3 ⟨Nat.le_of_ble_eq_true rfl, Nat.le_of_ble_eq_true rfl⟩) hS (fun _ _ h9 => h9.elim) (fun _ h9 => h9.elim) (fun r_1 u_3  t H locs ht hvm hw_2 hB hz1 hk1 hS => ?_)
  have hP := ax_keep hP (fun _ h9 => h9) hk1
  rcases hw_2 with ⟨hr9, hw_2⟩ | ⟨hr9, hw_2⟩
  · refine ax_i hr9 ?_
    refine lv_iconst (v := 1) hx hb dX7_brightest__6 (by decide) ?_
    have hPc := hP.sub (ws' := [(y, .inr (11, [.int th, .ref ys, .ref yp, .int 0])), (ys, .inr (3, [.int 0, .ref (ta 4), .int 0])), (yp, .inr (3, [.int 0, .ref (ta 4), .int 0]))]) [0, 1, 2] rfl
    have hKc := hK.sub (tys' := []) [] rfl
    have hDc := hD.sub (ws' := [(y, .inr (11, [.int th, .ref ys, .ref yp, .int 0])), (ys, .inr (3, [.int 0, .ref (ta 4), .int 0])), (yp, .inr (3, [.int 0, .ref (ta 4), .int 0]))]) [0, 1, 2] (by decide) rfl
    have hFc := va_free (wc := [(y, .inr (11, [.int th, .ref ys, .ref yp, .int 0])), (ys, .inr (3, [.int 0, .ref (ta 4), .int 0])), (yp, .inr (3, [.int 0, .ref (ta 4), .int 0]))]) hD hS hA [0, 1, 2] rfl
    refine va_calli (va_runV (As := [.int 1, .int 1]) (rest := []) ⟨hx, hb, hml, hown, hts⟩ (c_X7_start_1 l dC dI y ys yp sa ta H.size th) (cwV 2 hts gX7_brightest__X7_start rfl rfl rfl (by decide +kernel) ⟨Nat.le_of_ble_eq_true rfl, Nat.le_of_ble_eq_true rfl⟩) ⟨ax_fbW, va_recv hK hP (ci := 11) (q0 := 0) rfl rfl, ax_prW hPc hKc hDc hS hFc hE⟩ rfl rfl hl.1 rfl (lv_room (Nat.le_of_ble_eq_true rfl)) dX7_brightest__7 ⟨Nat.le_of_ble_eq_true rfl, Nat.le_of_ble_eq_true rfl⟩) hS (fun q _ h9 => hFc q h9) hFc (fun r_4 u_6  t H locs ht hvm hw_5 hB hz1 hk1 hS => ?_)
    obtain ⟨hP1, hK1, hD1⟩ := hB
    rw [ht] at hP1
    have hK1 := va_K.moved hvm.symm hK1
    obtain ⟨hP, hD⟩ := va_join (wr := []) (w1 := [(y, .inr (11, [.int 1, .ref ys, .ref yp, .int 0])), (ys, .inr (3, [.int 0, .ref (ta 4), .int 0])), (yp, .inr (3, [.int 0, .ref (ta 4), .int 0]))]) hP hD [0, 1, 2] [] rfl rfl (by decide) (by decide) hk1 hFc hP1 hD1
    have hP : va_P (dC, dI) vwCl [(y, .inr (11, [.int 1, .ref ys, .ref yp, .int 0])), (ys, .inr (3, [.int 0, .ref (ta 4), .int 0])), (yp, .inr (3, [.int 0, .ref (ta 4), .int 0]))] H := hP
    have hD : va_D A [(y, .inr (11, [.int 1, .ref ys, .ref yp, .int 0])), (ys, .inr (3, [.int 0, .ref (ta 4), .int 0])), (yp, .inr (3, [.int 0, .ref (ta 4), .int 0]))] := hD
    refine ax_i (y := 1) hw_5 ?_
    refine lv_if_eq (tgt := 17) hx hb dX7_brightest__10 (by decide) (fun h9 => absurd h9 (by decide)) (fun _ => ?_)
    refine lv_iconst (v := 0) hx hb dX7_brightest__13 (by decide) ?_
    refine lv_goto (tgt := 26) hx hb dX7_brightest__14 (by decide) ?_
    refine W.widen (k := 2) (n := 4) (Nat.le_of_ble_eq_true rfl) (Nat.le_of_ble_eq_true rfl) ?_
    have hP9 := hP.sub (ws' := [(y, .inr (11, [.int 1, .ref ys, .ref yp, .int 0]))]) [0] rfl
    have hD9 := hD.sub (ws' := [(y, .inr (11, [.int 1, .ref ys, .ref yp, .int 0]))]) [0] (by decide) rfl
    have hK9 := hK.sub (tys' := []) [] rfl
    exact W.iret (v := 0) hx hb hr (fun t ht hW => ⟨⟨0, 1, rfl, Or.inr ⟨by omega, rfl⟩, by rw [ht]; exact hP9, va_K.moved hW.alike hK9, hD9⟩, hS.F ht⟩) hS.2.2 dX7_brightest__26
  · refine ax_i hr9 ?_
    refine lv_iconst (v := 1) hx hb dX7_brightest__6 (by decide) ?_
    have hPc := hP.sub (ws' := [(y, .inr (11, [.int th, .ref ys, .ref yp, .int 0])), (ys, .inr (3, [.int 0, .ref (ta 4), .int 0])), (yp, .inr (3, [.int 0, .ref (ta 4), .int 0]))]) [0, 1, 2] rfl
    have hKc := hK.sub (tys' := []) [] rfl
    have hDc := hD.sub (ws' := [(y, .inr (11, [.int th, .ref ys, .ref yp, .int 0])), (ys, .inr (3, [.int 0, .ref (ta 4), .int 0])), (yp, .inr (3, [.int 0, .ref (ta 4), .int 0]))]) [0, 1, 2] (by decide) rfl
    have hFc := va_free (wc := [(y, .inr (11, [.int th, .ref ys, .ref yp, .int 0])), (ys, .inr (3, [.int 0, .ref (ta 4), .int 0])), (yp, .inr (3, [.int 0, .ref (ta 4), .int 0]))]) hD hS hA [0, 1, 2] rfl
    refine va_calli (va_runV (As := [.int 0, .int 1]) (rest := []) ⟨hx, hb, hml, hown, hts⟩ (c_X7_start_0 l dC dI y ys yp sa ta H.size th) (cwV 2 hts gX7_brightest__X7_start rfl rfl rfl (by decide +kernel) ⟨Nat.le_of_ble_eq_true rfl, Nat.le_of_ble_eq_true rfl⟩) ⟨ax_fbW, va_recv hK hP (ci := 11) (q0 := 0) rfl rfl, ax_prW hPc hKc hDc hS hFc hE⟩ rfl rfl hl.1 rfl (lv_room (Nat.le_of_ble_eq_true rfl)) dX7_brightest__7 ⟨Nat.le_of_ble_eq_true rfl, Nat.le_of_ble_eq_true rfl⟩) hS (fun q _ h9 => hFc q h9) hFc (fun r_7 u_9  t H locs ht hvm hw_8 hB hz1 hk1 hS => ?_)
    obtain ⟨hP1, hK1, hD1⟩ := hB
    rw [ht] at hP1
    have hK1 := va_K.moved hvm.symm hK1
    obtain ⟨hP, hD⟩ := va_join (wr := []) (w1 := [(y, .inr (11, [.int 0, .ref ys, .ref yp, .int 0])), (ys, .inr (3, [.int 0, .ref (ta 4), .int 0])), (yp, .inr (3, [.int 0, .ref (ta 4), .int 0]))]) hP hD [0, 1, 2] [] rfl rfl (by decide) (by decide) hk1 hFc hP1 hD1
    have hP : va_P (dC, dI) vwCl [(y, .inr (11, [.int 0, .ref ys, .ref yp, .int 0])), (ys, .inr (3, [.int 0, .ref (ta 4), .int 0])), (yp, .inr (3, [.int 0, .ref (ta 4), .int 0]))] H := hP
    have hD : va_D A [(y, .inr (11, [.int 0, .ref ys, .ref yp, .int 0])), (ys, .inr (3, [.int 0, .ref (ta 4), .int 0])), (yp, .inr (3, [.int 0, .ref (ta 4), .int 0]))] := hD
    refine ax_i (y := 0) hw_8 ?_
    refine lv_if_eq (tgt := 17) hx hb dX7_brightest__10 (by decide) (fun _ => ?_) (fun h9 => absurd (by decide) h9)
    refine lv_aload_n hx hb dX7_brightest__17 rfl (lv_at hl 0 rfl) ?_
    refine lv_aload_n hx hb dX7_brightest__18 rfl (lv_at hl 0 rfl) ?_
    refine lv_iload_n hx hb dX7_brightest__19 rfl (lv_at hl 1 rfl) ?_
    have hPc := hP.sub (ws' := [(y, .inr (11, [.int 0, .ref ys, .ref yp, .int 0])), (ys, .inr (3, [.int 0, .ref (ta 4), .int 0])), (yp, .inr (3, [.int 0, .ref (ta 4), .int 0]))]) [0, 1, 2] rfl
    have hKc := hK.sub (tys' := []) [] rfl
    have hDc := hD.sub (ws' := [(y, .inr (11, [.int 0, .ref ys, .ref yp, .int 0])), (ys, .inr (3, [.int 0, .ref (ta 4), .int 0])), (yp, .inr (3, [.int 0, .ref (ta 4), .int 0]))]) [0, 1, 2] (by decide) rfl
    have hFc := va_free (wc := [(y, .inr (11, [.int 0, .ref ys, .ref yp, .int 0])), (ys, .inr (3, [.int 0, .ref (ta 4), .int 0])), (yp, .inr (3, [.int 0, .ref (ta 4), .int 0]))]) hD hS hA [0, 1, 2] rfl
    refine va_callr (va_runV (As := [.int p0]) (rest := [.ref y]) ⟨hx, hb, hml, hown, hts⟩ (c_X7_behind_ l dC dI y ys yp sa ta H.size 0 p0 (by omega)) (cwV 1 hts gX7_brightest__X7_behind_ rfl rfl rfl (by decide +kernel) ⟨Nat.le_of_ble_eq_true rfl, Nat.le_of_ble_eq_true rfl⟩) ⟨ax_fbW, va_recv hK hP (ci := 11) (q0 := 0) rfl rfl, ax_prW hPc hKc hDc hS hFc hE⟩ rfl rfl hl.1 rfl (lv_room (Nat.le_of_ble_eq_true rfl)) dX7_brightest__20 ⟨Nat.le_of_ble_eq_true rfl, Nat.le_of_ble_eq_true rfl⟩) hS (fun q _ h9 => hFc q h9) hFc (fun u_12  r_10 t H locs ht hvm hw_11 hB hz1 hk1 hS => ?_)
    obtain ⟨qA_13, rfl⟩ : ∃ z, z = u_12 := ⟨_, rfl⟩
    obtain ⟨hP1, hK1, hD1⟩ := hB
    rw [ht] at hP1
    have hK1 := va_K.moved hvm.symm hK1
    obtain ⟨hP, hD⟩ := va_join (wr := []) (w1 := [(y, .inr (11, [.int 0, .ref ys, .ref yp, .int 0])), (ys, .inr (3, [.int 0, .ref (ta 4), .int 0])), (yp, .inr (3, [.int 0, .ref (ta 4), .int 0])), (r_10, .inl (qA_13, 0, .inr (.inl (fun _ => 0))))]) hP hD [0, 1, 2] [] rfl rfl (by decide) (by decide) hk1 hFc hP1 hD1
    have hK := hK.app hK1
    have hK := hK.sub (tys' := [(qA_13, .long)]) [0] rfl
    have hP : va_P (dC, dI) vwCl [(y, .inr (11, [.int 0, .ref ys, .ref yp, .int 0])), (ys, .inr (3, [.int 0, .ref (ta 4), .int 0])), (yp, .inr (3, [.int 0, .ref (ta 4), .int 0])), (r_10, .inl (qA_13, 0, .inr (.inl (fun _ => 0))))] H := hP
    have hD : va_D A [(y, .inr (11, [.int 0, .ref ys, .ref yp, .int 0])), (ys, .inr (3, [.int 0, .ref (ta 4), .int 0])), (yp, .inr (3, [.int 0, .ref (ta 4), .int 0])), (r_10, .inl (qA_13, 0, .inr (.inl (fun _ => 0))))] := hD
    have hPc := hP.sub (ws' := [(y, .inr (11, [.int 0, .ref ys, .ref yp, .int 0])), (ys, .inr (3, [.int 0, .ref (ta 4), .int 0])), (yp, .inr (3, [.int 0, .ref (ta 4), .int 0]))]) [0, 1, 2] rfl
    have hKc := hK.sub (tys' := []) [] rfl
    refine va_calli (va_runV (As := [.ref r_10]) (rest := []) ⟨hx, hb, hml, hown, hts⟩ (c_X7_brightest l dC dI y ys yp sa ta 0 r_10) (cwV 1 hts gX7_brightest__X7_brightest rfl rfl rfl (by decide +kernel) ⟨Nat.le_of_ble_eq_true rfl, Nat.le_of_ble_eq_true rfl⟩) ⟨ax_fbR, va_recv hK hP (ci := 11) (q0 := 0) rfl rfl, ax_prR hPc hKc hS hE⟩ rfl rfl hl.1 rfl (lv_room (Nat.le_of_ble_eq_true rfl)) dX7_brightest__23 ⟨Nat.le_of_ble_eq_true rfl, Nat.le_of_ble_eq_true rfl⟩) hS (fun _ _ h9 => h9.elim) (fun _ h9 => h9.elim) (fun r_14 u_16  t H locs ht hvm hw_15 hB hz1 hk1 hS => ?_)
    have hP := ax_keep hP (fun _ h9 => h9) hk1
    refine ax_i (y := 0) hw_15 ?_
    refine W.widen (k := 2) (n := 4) (Nat.le_of_ble_eq_true rfl) (Nat.le_of_ble_eq_true rfl) ?_
    have hP9 := hP.sub (ws' := [(y, .inr (11, [.int 0, .ref ys, .ref yp, .int 0]))]) [0] rfl
    have hD9 := hD.sub (ws' := [(y, .inr (11, [.int 0, .ref ys, .ref yp, .int 0]))]) [0] (by decide) rfl
    have hK9 := hK.sub (tys' := []) [] rfl
    exact W.iret (v := 0) hx hb hr (fun t ht hW => ⟨⟨0, 0, rfl, Or.inl ⟨by omega, rfl, rfl⟩, by rw [ht]; exact hP9, va_K.moved hW.alike hK9, hD9⟩, hS.F ht⟩) hS.2.2 dX7_brightest__26

set_option maxHeartbeats 4000000 in
set_option maxRecDepth 100000 in
theorem c_X7_dark_ (l : Launch) (dC : Nat → ClassId) (dI : Nat → Nat → Nat) (y ys yp : Nat) (sa ta : Nat → Nat) (sz : Nat) (th : Int32) (p0 : Int32) : Met l yX7_dark_ wsX7_dark_ ({ frames := 40, cells := 2, slots := 4, locals := 1000 }) (va_Pc [.ref y, .int p0] (ax_W (dC, dI) vwCl [(y, .inr (11, [.int th, .ref ys, .ref yp, .int 0])), (ys, .inr (3, [.int 0, .ref (ta 4), .int 0])), (yp, .inr (3, [.int 0, .ref (ta 4), .int 0]))] [] sa ta sz)) (va_Qi (fun (r : Int32) (u : Int32) => (p0.toInt = -1 ∧ u = 0 ∧ r = 255) ∨ (¬ (p0.toInt = -1) ∧ u = 1)) (fun (u : Int32) (t : State) => va_P (dC, dI) vwCl [(y, .inr (11, [.int u, .ref ys, .ref yp, .int 0]))] t.heap ∧ va_K (dC, dI) vwCl [] t ∧ va_D (va_A [(y, .inr (11, [.int th, .ref ys, .ref yp, .int 0])), (ys, .inr (3, [.int 0, .ref (ta 4), .int 0])), (yp, .inr (3, [.int 0, .ref (ta 4), .int 0]))] sz) [(y, .inr (11, [.int u, .ref ys, .ref yp, .int 0]))]) (va_A [(y, .inr (11, [.int th, .ref ys, .ref yp, .int 0])), (ys, .inr (3, [.int 0, .ref (ta 4), .int 0])), (yp, .inr (3, [.int 0, .ref (ta 4), .int 0]))] sz)) 2 4 (va_A [(y, .inr (11, [.int th, .ref ys, .ref yp, .int 0])), (ys, .inr (3, [.int 0, .ref (ta 4), .int 0])), (yp, .inr (3, [.int 0, .ref (ta 4), .int 0]))] sz) := by
  refine Met.ofW (cc := cX7_dark_) (maxL := 2) (ret := (some .int)) (by decide) rfl ?_
  intro p e s m args below meth c s₁ B hml hv
  obtain ⟨rfl, hsz, hP, hK, hD0, hE⟩ := hv
  have hx := B.exec
  have hb := B.bytes
  have hr := B.returns
  have hts := atoms_spec (ws := wsX7_dark_) B.pre
  have hown : s.vm.findClass RX7 = some m.cls := findClass_of_methodNamed B.named
  have hlocks := B.notSynchronized
  subst hsz
  have hD := hD0.self (sz := s.heap.size)
  generalize hAe : va_A [(y, .inr (11, [.int th, .ref ys, .ref yp, .int 0])), (ys, .inr (3, [.int 0, .ref (ta 4), .int 0])), (yp, .inr (3, [.int 0, .ref (ta 4), .int 0]))] s.heap.size = A at hD hE ⊢
  have hA : ∀ q : Nat, s.heap.size ≤ q → A q := fun q h => by rw [← hAe]; exact Or.inr h
  have hS : va_S A s.heap s.heap [] := va_S.rf
  have hl := lv_entry ([.ref y, .int p0]) (n := 2) (Nat.le_of_ble_eq_true rfl)
  rw [lg_entry_eq]
  generalize (lg_sl ([.ref y, .int p0]) ++ List.replicate (2 - (lg_sl ([.ref y, .int p0])).length) Slot.unset).toArray = ls at hl ⊢
  have hl : lv_has ls 2 [(0, .ref y), (1, .int p0)] := hl
  have hP : va_P (dC, dI) vwCl [(y, .inr (11, [.int th, .ref ys, .ref yp, .int 0])), (ys, .inr (3, [.int 0, .ref (ta 4), .int 0])), (yp, .inr (3, [.int 0, .ref (ta 4), .int 0]))] s.heap := hP
  refine lv_aload_n hx hb dX7_dark__0 rfl (lv_at hl 0 rfl) ?_
  refine lv_aload_n hx hb dX7_dark__1 rfl (lv_at hl 0 rfl) ?_
  refine lv_iload_n hx hb dX7_dark__2 rfl (lv_at hl 1 rfl) ?_
  have hPc := hP.sub (ws' := [(y, .inr (11, [.int th, .ref ys, .ref yp, .int 0])), (ys, .inr (3, [.int 0, .ref (ta 4), .int 0])), (yp, .inr (3, [.int 0, .ref (ta 4), .int 0]))]) [0, 1, 2] rfl
  have hKc := hK.sub (tys' := []) [] rfl
  refine va_calli (va_runV (As := [.int p0]) (rest := [.ref y]) ⟨hx, hb, hml, hown, hts⟩ (c_X7_isNowhere l dC dI y ys yp sa ta th p0) (cwV 1 hts gX7_dark__X7_isNowhere rfl rfl rfl (by decide +kernel) ⟨Nat.le_of_ble_eq_true rfl, Nat.le_of_ble_eq_true rfl⟩) ⟨ax_fbR, va_recv hK hP (ci := 11) (q0 := 0) rfl rfl, ax_prR hPc hKc hS hE⟩ rfl rfl hl.1 rfl (lv_room (Nat.le_of_ble_eq_true rfl)) dX7_dark__3 ⟨Nat.le_of_ble_eq_true rfl, Nat.le_of_ble_eq_true rfl⟩) hS (fun _ _ h9 => h9.elim) (fun _ h9 => h9.elim) (fun r_1 u_3  t H locs ht hvm hw_2 hB hz1 hk1 hS => ?_)
  have hP := ax_keep hP (fun _ h9 => h9) hk1
  rcases hw_2 with ⟨hr9, hw_2⟩ | ⟨hr9, hw_2⟩
  · refine ax_i hr9 ?_
    refine lv_iconst (v := 1) hx hb dX7_dark__6 (by decide) ?_
    have hPc := hP.sub (ws' := [(y, .inr (11, [.int th, .ref ys, .ref yp, .int 0])), (ys, .inr (3, [.int 0, .ref (ta 4), .int 0])), (yp, .inr (3, [.int 0, .ref (ta 4), .int 0]))]) [0, 1, 2] rfl
    have hKc := hK.sub (tys' := []) [] rfl
    have hDc := hD.sub (ws' := [(y, .inr (11, [.int th, .ref ys, .ref yp, .int 0])), (ys, .inr (3, [.int 0, .ref (ta 4), .int 0])), (yp, .inr (3, [.int 0, .ref (ta 4), .int 0]))]) [0, 1, 2] (by decide) rfl
    have hFc := va_free (wc := [(y, .inr (11, [.int th, .ref ys, .ref yp, .int 0])), (ys, .inr (3, [.int 0, .ref (ta 4), .int 0])), (yp, .inr (3, [.int 0, .ref (ta 4), .int 0]))]) hD hS hA [0, 1, 2] rfl
    refine va_calli (va_runV (As := [.int 1, .int 1]) (rest := []) ⟨hx, hb, hml, hown, hts⟩ (c_X7_start_1 l dC dI y ys yp sa ta H.size th) (cwV 2 hts gX7_dark__X7_start rfl rfl rfl (by decide +kernel) ⟨Nat.le_of_ble_eq_true rfl, Nat.le_of_ble_eq_true rfl⟩) ⟨ax_fbW, va_recv hK hP (ci := 11) (q0 := 0) rfl rfl, ax_prW hPc hKc hDc hS hFc hE⟩ rfl rfl hl.1 rfl (lv_room (Nat.le_of_ble_eq_true rfl)) dX7_dark__7 ⟨Nat.le_of_ble_eq_true rfl, Nat.le_of_ble_eq_true rfl⟩) hS (fun q _ h9 => hFc q h9) hFc (fun r_4 u_6  t H locs ht hvm hw_5 hB hz1 hk1 hS => ?_)
    obtain ⟨hP1, hK1, hD1⟩ := hB
    rw [ht] at hP1
    have hK1 := va_K.moved hvm.symm hK1
    obtain ⟨hP, hD⟩ := va_join (wr := []) (w1 := [(y, .inr (11, [.int 1, .ref ys, .ref yp, .int 0])), (ys, .inr (3, [.int 0, .ref (ta 4), .int 0])), (yp, .inr (3, [.int 0, .ref (ta 4), .int 0]))]) hP hD [0, 1, 2] [] rfl rfl (by decide) (by decide) hk1 hFc hP1 hD1
    have hP : va_P (dC, dI) vwCl [(y, .inr (11, [.int 1, .ref ys, .ref yp, .int 0])), (ys, .inr (3, [.int 0, .ref (ta 4), .int 0])), (yp, .inr (3, [.int 0, .ref (ta 4), .int 0]))] H := hP
    have hD : va_D A [(y, .inr (11, [.int 1, .ref ys, .ref yp, .int 0])), (ys, .inr (3, [.int 0, .ref (ta 4), .int 0])), (yp, .inr (3, [.int 0, .ref (ta 4), .int 0]))] := hD
    refine ax_i (y := 1) hw_5 ?_
    refine lv_if_eq (tgt := 17) hx hb dX7_dark__10 (by decide) (fun h9 => absurd h9 (by decide)) (fun _ => ?_)
    refine lv_iconst (v := 0) hx hb dX7_dark__13 (by decide) ?_
    refine lv_goto (tgt := 26) hx hb dX7_dark__14 (by decide) ?_
    refine W.widen (k := 2) (n := 4) (Nat.le_of_ble_eq_true rfl) (Nat.le_of_ble_eq_true rfl) ?_
    have hP9 := hP.sub (ws' := [(y, .inr (11, [.int 1, .ref ys, .ref yp, .int 0]))]) [0] rfl
    have hD9 := hD.sub (ws' := [(y, .inr (11, [.int 1, .ref ys, .ref yp, .int 0]))]) [0] (by decide) rfl
    have hK9 := hK.sub (tys' := []) [] rfl
    exact W.iret (v := 0) hx hb hr (fun t ht hW => ⟨⟨0, 1, rfl, Or.inr ⟨by omega, rfl⟩, by rw [ht]; exact hP9, va_K.moved hW.alike hK9, hD9⟩, hS.F ht⟩) hS.2.2 dX7_dark__26
  · refine ax_i hr9 ?_
    refine lv_iconst (v := 1) hx hb dX7_dark__6 (by decide) ?_
    have hPc := hP.sub (ws' := [(y, .inr (11, [.int th, .ref ys, .ref yp, .int 0])), (ys, .inr (3, [.int 0, .ref (ta 4), .int 0])), (yp, .inr (3, [.int 0, .ref (ta 4), .int 0]))]) [0, 1, 2] rfl
    have hKc := hK.sub (tys' := []) [] rfl
    have hDc := hD.sub (ws' := [(y, .inr (11, [.int th, .ref ys, .ref yp, .int 0])), (ys, .inr (3, [.int 0, .ref (ta 4), .int 0])), (yp, .inr (3, [.int 0, .ref (ta 4), .int 0]))]) [0, 1, 2] (by decide) rfl
    have hFc := va_free (wc := [(y, .inr (11, [.int th, .ref ys, .ref yp, .int 0])), (ys, .inr (3, [.int 0, .ref (ta 4), .int 0])), (yp, .inr (3, [.int 0, .ref (ta 4), .int 0]))]) hD hS hA [0, 1, 2] rfl
    refine va_calli (va_runV (As := [.int 0, .int 1]) (rest := []) ⟨hx, hb, hml, hown, hts⟩ (c_X7_start_0 l dC dI y ys yp sa ta H.size th) (cwV 2 hts gX7_dark__X7_start rfl rfl rfl (by decide +kernel) ⟨Nat.le_of_ble_eq_true rfl, Nat.le_of_ble_eq_true rfl⟩) ⟨ax_fbW, va_recv hK hP (ci := 11) (q0 := 0) rfl rfl, ax_prW hPc hKc hDc hS hFc hE⟩ rfl rfl hl.1 rfl (lv_room (Nat.le_of_ble_eq_true rfl)) dX7_dark__7 ⟨Nat.le_of_ble_eq_true rfl, Nat.le_of_ble_eq_true rfl⟩) hS (fun q _ h9 => hFc q h9) hFc (fun r_7 u_9  t H locs ht hvm hw_8 hB hz1 hk1 hS => ?_)
    obtain ⟨hP1, hK1, hD1⟩ := hB
    rw [ht] at hP1
    have hK1 := va_K.moved hvm.symm hK1
    obtain ⟨hP, hD⟩ := va_join (wr := []) (w1 := [(y, .inr (11, [.int 0, .ref ys, .ref yp, .int 0])), (ys, .inr (3, [.int 0, .ref (ta 4), .int 0])), (yp, .inr (3, [.int 0, .ref (ta 4), .int 0]))]) hP hD [0, 1, 2] [] rfl rfl (by decide) (by decide) hk1 hFc hP1 hD1
    have hP : va_P (dC, dI) vwCl [(y, .inr (11, [.int 0, .ref ys, .ref yp, .int 0])), (ys, .inr (3, [.int 0, .ref (ta 4), .int 0])), (yp, .inr (3, [.int 0, .ref (ta 4), .int 0]))] H := hP
    have hD : va_D A [(y, .inr (11, [.int 0, .ref ys, .ref yp, .int 0])), (ys, .inr (3, [.int 0, .ref (ta 4), .int 0])), (yp, .inr (3, [.int 0, .ref (ta 4), .int 0]))] := hD
    refine ax_i (y := 0) hw_8 ?_
    refine lv_if_eq (tgt := 17) hx hb dX7_dark__10 (by decide) (fun _ => ?_) (fun h9 => absurd (by decide) h9)
    refine lv_aload_n hx hb dX7_dark__17 rfl (lv_at hl 0 rfl) ?_
    refine lv_aload_n hx hb dX7_dark__18 rfl (lv_at hl 0 rfl) ?_
    refine lv_iload_n hx hb dX7_dark__19 rfl (lv_at hl 1 rfl) ?_
    have hPc := hP.sub (ws' := [(y, .inr (11, [.int 0, .ref ys, .ref yp, .int 0])), (ys, .inr (3, [.int 0, .ref (ta 4), .int 0])), (yp, .inr (3, [.int 0, .ref (ta 4), .int 0]))]) [0, 1, 2] rfl
    have hKc := hK.sub (tys' := []) [] rfl
    have hDc := hD.sub (ws' := [(y, .inr (11, [.int 0, .ref ys, .ref yp, .int 0])), (ys, .inr (3, [.int 0, .ref (ta 4), .int 0])), (yp, .inr (3, [.int 0, .ref (ta 4), .int 0]))]) [0, 1, 2] (by decide) rfl
    have hFc := va_free (wc := [(y, .inr (11, [.int 0, .ref ys, .ref yp, .int 0])), (ys, .inr (3, [.int 0, .ref (ta 4), .int 0])), (yp, .inr (3, [.int 0, .ref (ta 4), .int 0]))]) hD hS hA [0, 1, 2] rfl
    refine va_callr (va_runV (As := [.int p0]) (rest := [.ref y]) ⟨hx, hb, hml, hown, hts⟩ (c_X7_behind_ l dC dI y ys yp sa ta H.size 0 p0 (by omega)) (cwV 1 hts gX7_dark__X7_behind_ rfl rfl rfl (by decide +kernel) ⟨Nat.le_of_ble_eq_true rfl, Nat.le_of_ble_eq_true rfl⟩) ⟨ax_fbW, va_recv hK hP (ci := 11) (q0 := 0) rfl rfl, ax_prW hPc hKc hDc hS hFc hE⟩ rfl rfl hl.1 rfl (lv_room (Nat.le_of_ble_eq_true rfl)) dX7_dark__20 ⟨Nat.le_of_ble_eq_true rfl, Nat.le_of_ble_eq_true rfl⟩) hS (fun q _ h9 => hFc q h9) hFc (fun u_12  r_10 t H locs ht hvm hw_11 hB hz1 hk1 hS => ?_)
    obtain ⟨qA_13, rfl⟩ : ∃ z, z = u_12 := ⟨_, rfl⟩
    obtain ⟨hP1, hK1, hD1⟩ := hB
    rw [ht] at hP1
    have hK1 := va_K.moved hvm.symm hK1
    obtain ⟨hP, hD⟩ := va_join (wr := []) (w1 := [(y, .inr (11, [.int 0, .ref ys, .ref yp, .int 0])), (ys, .inr (3, [.int 0, .ref (ta 4), .int 0])), (yp, .inr (3, [.int 0, .ref (ta 4), .int 0])), (r_10, .inl (qA_13, 0, .inr (.inl (fun _ => 0))))]) hP hD [0, 1, 2] [] rfl rfl (by decide) (by decide) hk1 hFc hP1 hD1
    have hK := hK.app hK1
    have hK := hK.sub (tys' := [(qA_13, .long)]) [0] rfl
    have hP : va_P (dC, dI) vwCl [(y, .inr (11, [.int 0, .ref ys, .ref yp, .int 0])), (ys, .inr (3, [.int 0, .ref (ta 4), .int 0])), (yp, .inr (3, [.int 0, .ref (ta 4), .int 0])), (r_10, .inl (qA_13, 0, .inr (.inl (fun _ => 0))))] H := hP
    have hD : va_D A [(y, .inr (11, [.int 0, .ref ys, .ref yp, .int 0])), (ys, .inr (3, [.int 0, .ref (ta 4), .int 0])), (yp, .inr (3, [.int 0, .ref (ta 4), .int 0])), (r_10, .inl (qA_13, 0, .inr (.inl (fun _ => 0))))] := hD
    have hPc := hP.sub (ws' := [(y, .inr (11, [.int 0, .ref ys, .ref yp, .int 0])), (ys, .inr (3, [.int 0, .ref (ta 4), .int 0])), (yp, .inr (3, [.int 0, .ref (ta 4), .int 0]))]) [0, 1, 2] rfl
    have hKc := hK.sub (tys' := []) [] rfl
    refine va_calli (va_runV (As := [.ref r_10]) (rest := []) ⟨hx, hb, hml, hown, hts⟩ (c_X7_dark l dC dI y ys yp sa ta 0 r_10) (cwV 1 hts gX7_dark__X7_dark rfl rfl rfl (by decide +kernel) ⟨Nat.le_of_ble_eq_true rfl, Nat.le_of_ble_eq_true rfl⟩) ⟨ax_fbR, va_recv hK hP (ci := 11) (q0 := 0) rfl rfl, ax_prR hPc hKc hS hE⟩ rfl rfl hl.1 rfl (lv_room (Nat.le_of_ble_eq_true rfl)) dX7_dark__23 ⟨Nat.le_of_ble_eq_true rfl, Nat.le_of_ble_eq_true rfl⟩) hS (fun _ _ h9 => h9.elim) (fun _ h9 => h9.elim) (fun r_14 u_16  t H locs ht hvm hw_15 hB hz1 hk1 hS => ?_)
    have hP := ax_keep hP (fun _ h9 => h9) hk1
    refine ax_i (y := 255) hw_15 ?_
    refine W.widen (k := 2) (n := 4) (Nat.le_of_ble_eq_true rfl) (Nat.le_of_ble_eq_true rfl) ?_
    have hP9 := hP.sub (ws' := [(y, .inr (11, [.int 0, .ref ys, .ref yp, .int 0]))]) [0] rfl
    have hD9 := hD.sub (ws' := [(y, .inr (11, [.int 0, .ref ys, .ref yp, .int 0]))]) [0] (by decide) rfl
    have hK9 := hK.sub (tys' := []) [] rfl
    exact W.iret (v := 255) hx hb hr (fun t ht hW => ⟨⟨255, 0, rfl, Or.inl ⟨by omega, rfl, rfl⟩, by rw [ht]; exact hP9, va_K.moved hW.alike hK9, hD9⟩, hS.F ht⟩) hS.2.2 dX7_dark__26

set_option maxHeartbeats 4000000 in
set_option maxRecDepth 100000 in
theorem c_X7_period_ (l : Launch) (dC : Nat → ClassId) (dI : Nat → Nat → Nat) (y ys yp : Nat) (sa ta : Nat → Nat) (sz : Nat) (th : Int32) (p0 : Int32) : Met l yX7_period_ wsX7_period_ ({ frames := 40, cells := 2, slots := 4, locals := 1000 }) (va_Pc [.ref y, .int p0] (ax_W (dC, dI) vwCl [(y, .inr (11, [.int th, .ref ys, .ref yp, .int 0])), (ys, .inr (3, [.int 0, .ref (ta 4), .int 0])), (yp, .inr (3, [.int 0, .ref (ta 4), .int 0]))] [] sa ta sz)) (va_Qi (fun (r : Int32) (u : Int32) => (p0.toInt = -1 ∧ u = 0 ∧ r = 1) ∨ (¬ (p0.toInt = -1) ∧ u = 1)) (fun (u : Int32) (t : State) => va_P (dC, dI) vwCl [(y, .inr (11, [.int u, .ref ys, .ref yp, .int 0]))] t.heap ∧ va_K (dC, dI) vwCl [] t ∧ va_D (va_A [(y, .inr (11, [.int th, .ref ys, .ref yp, .int 0])), (ys, .inr (3, [.int 0, .ref (ta 4), .int 0])), (yp, .inr (3, [.int 0, .ref (ta 4), .int 0]))] sz) [(y, .inr (11, [.int u, .ref ys, .ref yp, .int 0]))]) (va_A [(y, .inr (11, [.int th, .ref ys, .ref yp, .int 0])), (ys, .inr (3, [.int 0, .ref (ta 4), .int 0])), (yp, .inr (3, [.int 0, .ref (ta 4), .int 0]))] sz)) 2 4 (va_A [(y, .inr (11, [.int th, .ref ys, .ref yp, .int 0])), (ys, .inr (3, [.int 0, .ref (ta 4), .int 0])), (yp, .inr (3, [.int 0, .ref (ta 4), .int 0]))] sz) := by
  refine Met.ofW (cc := cX7_period_) (maxL := 2) (ret := (some .int)) (by decide) rfl ?_
  intro p e s m args below meth c s₁ B hml hv
  obtain ⟨rfl, hsz, hP, hK, hD0, hE⟩ := hv
  have hx := B.exec
  have hb := B.bytes
  have hr := B.returns
  have hts := atoms_spec (ws := wsX7_period_) B.pre
  have hown : s.vm.findClass RX7 = some m.cls := findClass_of_methodNamed B.named
  have hlocks := B.notSynchronized
  subst hsz
  have hD := hD0.self (sz := s.heap.size)
  generalize hAe : va_A [(y, .inr (11, [.int th, .ref ys, .ref yp, .int 0])), (ys, .inr (3, [.int 0, .ref (ta 4), .int 0])), (yp, .inr (3, [.int 0, .ref (ta 4), .int 0]))] s.heap.size = A at hD hE ⊢
  have hA : ∀ q : Nat, s.heap.size ≤ q → A q := fun q h => by rw [← hAe]; exact Or.inr h
  have hS : va_S A s.heap s.heap [] := va_S.rf
  have hl := lv_entry ([.ref y, .int p0]) (n := 2) (Nat.le_of_ble_eq_true rfl)
  rw [lg_entry_eq]
  generalize (lg_sl ([.ref y, .int p0]) ++ List.replicate (2 - (lg_sl ([.ref y, .int p0])).length) Slot.unset).toArray = ls at hl ⊢
  have hl : lv_has ls 2 [(0, .ref y), (1, .int p0)] := hl
  have hP : va_P (dC, dI) vwCl [(y, .inr (11, [.int th, .ref ys, .ref yp, .int 0])), (ys, .inr (3, [.int 0, .ref (ta 4), .int 0])), (yp, .inr (3, [.int 0, .ref (ta 4), .int 0]))] s.heap := hP
  refine lv_aload_n hx hb dX7_period__0 rfl (lv_at hl 0 rfl) ?_
  refine lv_aload_n hx hb dX7_period__1 rfl (lv_at hl 0 rfl) ?_
  refine lv_iload_n hx hb dX7_period__2 rfl (lv_at hl 1 rfl) ?_
  have hPc := hP.sub (ws' := [(y, .inr (11, [.int th, .ref ys, .ref yp, .int 0])), (ys, .inr (3, [.int 0, .ref (ta 4), .int 0])), (yp, .inr (3, [.int 0, .ref (ta 4), .int 0]))]) [0, 1, 2] rfl
  have hKc := hK.sub (tys' := []) [] rfl
  refine va_calli (va_runV (As := [.int p0]) (rest := [.ref y]) ⟨hx, hb, hml, hown, hts⟩ (c_X7_isNowhere l dC dI y ys yp sa ta th p0) (cwV 1 hts gX7_period__X7_isNowhere rfl rfl rfl (by decide +kernel) ⟨Nat.le_of_ble_eq_true rfl, Nat.le_of_ble_eq_true rfl⟩) ⟨ax_fbR, va_recv hK hP (ci := 11) (q0 := 0) rfl rfl, ax_prR hPc hKc hS hE⟩ rfl rfl hl.1 rfl (lv_room (Nat.le_of_ble_eq_true rfl)) dX7_period__3 ⟨Nat.le_of_ble_eq_true rfl, Nat.le_of_ble_eq_true rfl⟩) hS (fun _ _ h9 => h9.elim) (fun _ h9 => h9.elim) (fun r_1 u_3  t H locs ht hvm hw_2 hB hz1 hk1 hS => ?_)
  have hP := ax_keep hP (fun _ h9 => h9) hk1
  rcases hw_2 with ⟨hr9, hw_2⟩ | ⟨hr9, hw_2⟩
  · refine ax_i hr9 ?_
    refine lv_iconst (v := 1) hx hb dX7_period__6 (by decide) ?_
    have hPc := hP.sub (ws' := [(y, .inr (11, [.int th, .ref ys, .ref yp, .int 0])), (ys, .inr (3, [.int 0, .ref (ta 4), .int 0])), (yp, .inr (3, [.int 0, .ref (ta 4), .int 0]))]) [0, 1, 2] rfl
    have hKc := hK.sub (tys' := []) [] rfl
    have hDc := hD.sub (ws' := [(y, .inr (11, [.int th, .ref ys, .ref yp, .int 0])), (ys, .inr (3, [.int 0, .ref (ta 4), .int 0])), (yp, .inr (3, [.int 0, .ref (ta 4), .int 0]))]) [0, 1, 2] (by decide) rfl
    have hFc := va_free (wc := [(y, .inr (11, [.int th, .ref ys, .ref yp, .int 0])), (ys, .inr (3, [.int 0, .ref (ta 4), .int 0])), (yp, .inr (3, [.int 0, .ref (ta 4), .int 0]))]) hD hS hA [0, 1, 2] rfl
    refine va_calli (va_runV (As := [.int 1, .int 1]) (rest := []) ⟨hx, hb, hml, hown, hts⟩ (c_X7_start_1 l dC dI y ys yp sa ta H.size th) (cwV 2 hts gX7_period__X7_start rfl rfl rfl (by decide +kernel) ⟨Nat.le_of_ble_eq_true rfl, Nat.le_of_ble_eq_true rfl⟩) ⟨ax_fbW, va_recv hK hP (ci := 11) (q0 := 0) rfl rfl, ax_prW hPc hKc hDc hS hFc hE⟩ rfl rfl hl.1 rfl (lv_room (Nat.le_of_ble_eq_true rfl)) dX7_period__7 ⟨Nat.le_of_ble_eq_true rfl, Nat.le_of_ble_eq_true rfl⟩) hS (fun q _ h9 => hFc q h9) hFc (fun r_4 u_6  t H locs ht hvm hw_5 hB hz1 hk1 hS => ?_)
    obtain ⟨hP1, hK1, hD1⟩ := hB
    rw [ht] at hP1
    have hK1 := va_K.moved hvm.symm hK1
    obtain ⟨hP, hD⟩ := va_join (wr := []) (w1 := [(y, .inr (11, [.int 1, .ref ys, .ref yp, .int 0])), (ys, .inr (3, [.int 0, .ref (ta 4), .int 0])), (yp, .inr (3, [.int 0, .ref (ta 4), .int 0]))]) hP hD [0, 1, 2] [] rfl rfl (by decide) (by decide) hk1 hFc hP1 hD1
    have hP : va_P (dC, dI) vwCl [(y, .inr (11, [.int 1, .ref ys, .ref yp, .int 0])), (ys, .inr (3, [.int 0, .ref (ta 4), .int 0])), (yp, .inr (3, [.int 0, .ref (ta 4), .int 0]))] H := hP
    have hD : va_D A [(y, .inr (11, [.int 1, .ref ys, .ref yp, .int 0])), (ys, .inr (3, [.int 0, .ref (ta 4), .int 0])), (yp, .inr (3, [.int 0, .ref (ta 4), .int 0]))] := hD
    refine ax_i (y := 1) hw_5 ?_
    refine lv_if_eq (tgt := 17) hx hb dX7_period__10 (by decide) (fun h9 => absurd h9 (by decide)) (fun _ => ?_)
    refine lv_iconst (v := 0) hx hb dX7_period__13 (by decide) ?_
    refine lv_goto (tgt := 26) hx hb dX7_period__14 (by decide) ?_
    refine W.widen (k := 2) (n := 4) (Nat.le_of_ble_eq_true rfl) (Nat.le_of_ble_eq_true rfl) ?_
    have hP9 := hP.sub (ws' := [(y, .inr (11, [.int 1, .ref ys, .ref yp, .int 0]))]) [0] rfl
    have hD9 := hD.sub (ws' := [(y, .inr (11, [.int 1, .ref ys, .ref yp, .int 0]))]) [0] (by decide) rfl
    have hK9 := hK.sub (tys' := []) [] rfl
    exact W.iret (v := 0) hx hb hr (fun t ht hW => ⟨⟨0, 1, rfl, Or.inr ⟨by omega, rfl⟩, by rw [ht]; exact hP9, va_K.moved hW.alike hK9, hD9⟩, hS.F ht⟩) hS.2.2 dX7_period__26
  · refine ax_i hr9 ?_
    refine lv_iconst (v := 1) hx hb dX7_period__6 (by decide) ?_
    have hPc := hP.sub (ws' := [(y, .inr (11, [.int th, .ref ys, .ref yp, .int 0])), (ys, .inr (3, [.int 0, .ref (ta 4), .int 0])), (yp, .inr (3, [.int 0, .ref (ta 4), .int 0]))]) [0, 1, 2] rfl
    have hKc := hK.sub (tys' := []) [] rfl
    have hDc := hD.sub (ws' := [(y, .inr (11, [.int th, .ref ys, .ref yp, .int 0])), (ys, .inr (3, [.int 0, .ref (ta 4), .int 0])), (yp, .inr (3, [.int 0, .ref (ta 4), .int 0]))]) [0, 1, 2] (by decide) rfl
    have hFc := va_free (wc := [(y, .inr (11, [.int th, .ref ys, .ref yp, .int 0])), (ys, .inr (3, [.int 0, .ref (ta 4), .int 0])), (yp, .inr (3, [.int 0, .ref (ta 4), .int 0]))]) hD hS hA [0, 1, 2] rfl
    refine va_calli (va_runV (As := [.int 0, .int 1]) (rest := []) ⟨hx, hb, hml, hown, hts⟩ (c_X7_start_0 l dC dI y ys yp sa ta H.size th) (cwV 2 hts gX7_period__X7_start rfl rfl rfl (by decide +kernel) ⟨Nat.le_of_ble_eq_true rfl, Nat.le_of_ble_eq_true rfl⟩) ⟨ax_fbW, va_recv hK hP (ci := 11) (q0 := 0) rfl rfl, ax_prW hPc hKc hDc hS hFc hE⟩ rfl rfl hl.1 rfl (lv_room (Nat.le_of_ble_eq_true rfl)) dX7_period__7 ⟨Nat.le_of_ble_eq_true rfl, Nat.le_of_ble_eq_true rfl⟩) hS (fun q _ h9 => hFc q h9) hFc (fun r_7 u_9  t H locs ht hvm hw_8 hB hz1 hk1 hS => ?_)
    obtain ⟨hP1, hK1, hD1⟩ := hB
    rw [ht] at hP1
    have hK1 := va_K.moved hvm.symm hK1
    obtain ⟨hP, hD⟩ := va_join (wr := []) (w1 := [(y, .inr (11, [.int 0, .ref ys, .ref yp, .int 0])), (ys, .inr (3, [.int 0, .ref (ta 4), .int 0])), (yp, .inr (3, [.int 0, .ref (ta 4), .int 0]))]) hP hD [0, 1, 2] [] rfl rfl (by decide) (by decide) hk1 hFc hP1 hD1
    have hP : va_P (dC, dI) vwCl [(y, .inr (11, [.int 0, .ref ys, .ref yp, .int 0])), (ys, .inr (3, [.int 0, .ref (ta 4), .int 0])), (yp, .inr (3, [.int 0, .ref (ta 4), .int 0]))] H := hP
    have hD : va_D A [(y, .inr (11, [.int 0, .ref ys, .ref yp, .int 0])), (ys, .inr (3, [.int 0, .ref (ta 4), .int 0])), (yp, .inr (3, [.int 0, .ref (ta 4), .int 0]))] := hD
    refine ax_i (y := 0) hw_8 ?_
    refine lv_if_eq (tgt := 17) hx hb dX7_period__10 (by decide) (fun _ => ?_) (fun h9 => absurd (by decide) h9)
    refine lv_aload_n hx hb dX7_period__17 rfl (lv_at hl 0 rfl) ?_
    refine lv_aload_n hx hb dX7_period__18 rfl (lv_at hl 0 rfl) ?_
    refine lv_iload_n hx hb dX7_period__19 rfl (lv_at hl 1 rfl) ?_
    have hPc := hP.sub (ws' := [(y, .inr (11, [.int 0, .ref ys, .ref yp, .int 0])), (ys, .inr (3, [.int 0, .ref (ta 4), .int 0])), (yp, .inr (3, [.int 0, .ref (ta 4), .int 0]))]) [0, 1, 2] rfl
    have hKc := hK.sub (tys' := []) [] rfl
    have hDc := hD.sub (ws' := [(y, .inr (11, [.int 0, .ref ys, .ref yp, .int 0])), (ys, .inr (3, [.int 0, .ref (ta 4), .int 0])), (yp, .inr (3, [.int 0, .ref (ta 4), .int 0]))]) [0, 1, 2] (by decide) rfl
    have hFc := va_free (wc := [(y, .inr (11, [.int 0, .ref ys, .ref yp, .int 0])), (ys, .inr (3, [.int 0, .ref (ta 4), .int 0])), (yp, .inr (3, [.int 0, .ref (ta 4), .int 0]))]) hD hS hA [0, 1, 2] rfl
    refine va_callr (va_runV (As := [.int p0]) (rest := [.ref y]) ⟨hx, hb, hml, hown, hts⟩ (c_X7_behind_ l dC dI y ys yp sa ta H.size 0 p0 (by omega)) (cwV 1 hts gX7_period__X7_behind_ rfl rfl rfl (by decide +kernel) ⟨Nat.le_of_ble_eq_true rfl, Nat.le_of_ble_eq_true rfl⟩) ⟨ax_fbW, va_recv hK hP (ci := 11) (q0 := 0) rfl rfl, ax_prW hPc hKc hDc hS hFc hE⟩ rfl rfl hl.1 rfl (lv_room (Nat.le_of_ble_eq_true rfl)) dX7_period__20 ⟨Nat.le_of_ble_eq_true rfl, Nat.le_of_ble_eq_true rfl⟩) hS (fun q _ h9 => hFc q h9) hFc (fun u_12  r_10 t H locs ht hvm hw_11 hB hz1 hk1 hS => ?_)
    obtain ⟨qA_13, rfl⟩ : ∃ z, z = u_12 := ⟨_, rfl⟩
    obtain ⟨hP1, hK1, hD1⟩ := hB
    rw [ht] at hP1
    have hK1 := va_K.moved hvm.symm hK1
    obtain ⟨hP, hD⟩ := va_join (wr := []) (w1 := [(y, .inr (11, [.int 0, .ref ys, .ref yp, .int 0])), (ys, .inr (3, [.int 0, .ref (ta 4), .int 0])), (yp, .inr (3, [.int 0, .ref (ta 4), .int 0])), (r_10, .inl (qA_13, 0, .inr (.inl (fun _ => 0))))]) hP hD [0, 1, 2] [] rfl rfl (by decide) (by decide) hk1 hFc hP1 hD1
    have hK := hK.app hK1
    have hK := hK.sub (tys' := [(qA_13, .long)]) [0] rfl
    have hP : va_P (dC, dI) vwCl [(y, .inr (11, [.int 0, .ref ys, .ref yp, .int 0])), (ys, .inr (3, [.int 0, .ref (ta 4), .int 0])), (yp, .inr (3, [.int 0, .ref (ta 4), .int 0])), (r_10, .inl (qA_13, 0, .inr (.inl (fun _ => 0))))] H := hP
    have hD : va_D A [(y, .inr (11, [.int 0, .ref ys, .ref yp, .int 0])), (ys, .inr (3, [.int 0, .ref (ta 4), .int 0])), (yp, .inr (3, [.int 0, .ref (ta 4), .int 0])), (r_10, .inl (qA_13, 0, .inr (.inl (fun _ => 0))))] := hD
    have hPc := hP.sub (ws' := [(y, .inr (11, [.int 0, .ref ys, .ref yp, .int 0])), (ys, .inr (3, [.int 0, .ref (ta 4), .int 0])), (yp, .inr (3, [.int 0, .ref (ta 4), .int 0]))]) [0, 1, 2] rfl
    have hKc := hK.sub (tys' := []) [] rfl
    refine va_calli (va_runV (As := [.ref r_10]) (rest := []) ⟨hx, hb, hml, hown, hts⟩ (c_X7_period l dC dI y ys yp sa ta 0 r_10) (cwV 1 hts gX7_period__X7_period rfl rfl rfl (by decide +kernel) ⟨Nat.le_of_ble_eq_true rfl, Nat.le_of_ble_eq_true rfl⟩) ⟨ax_fbR, va_recv hK hP (ci := 11) (q0 := 0) rfl rfl, ax_prR hPc hKc hS hE⟩ rfl rfl hl.1 rfl (lv_room (Nat.le_of_ble_eq_true rfl)) dX7_period__23 ⟨Nat.le_of_ble_eq_true rfl, Nat.le_of_ble_eq_true rfl⟩) hS (fun _ _ h9 => h9.elim) (fun _ h9 => h9.elim) (fun r_14 u_16  t H locs ht hvm hw_15 hB hz1 hk1 hS => ?_)
    have hP := ax_keep hP (fun _ h9 => h9) hk1
    refine ax_i (y := 1) hw_15 ?_
    refine W.widen (k := 2) (n := 4) (Nat.le_of_ble_eq_true rfl) (Nat.le_of_ble_eq_true rfl) ?_
    have hP9 := hP.sub (ws' := [(y, .inr (11, [.int 0, .ref ys, .ref yp, .int 0]))]) [0] rfl
    have hD9 := hD.sub (ws' := [(y, .inr (11, [.int 0, .ref ys, .ref yp, .int 0]))]) [0] (by decide) rfl
    have hK9 := hK.sub (tys' := []) [] rfl
    exact W.iret (v := 1) hx hb hr (fun t ht hW => ⟨⟨1, 0, rfl, Or.inl ⟨by omega, rfl, rfl⟩, by rw [ht]; exact hP9, va_K.moved hW.alike hK9, hD9⟩, hS.F ht⟩) hS.2.2 dX7_period__26

set_option maxHeartbeats 4000000 in
set_option maxRecDepth 100000 in
theorem c_X7_clear (l : Launch) (dC : Nat → ClassId) (dI : Nat → Nat → Nat) (y ys yp : Nat) (sa ta : Nat → Nat) (sz : Nat) (th : Int32) (p0 : Int32) : Met l yX7_clear wsX7_clear ({ frames := 40, cells := 2, slots := 4, locals := 1000 }) (va_Pc [.ref y, .int p0] (ax_W (dC, dI) vwCl [(y, .inr (11, [.int th, .ref ys, .ref yp, .int 0])), (ys, .inr (3, [.int 0, .ref (ta 4), .int 0])), (yp, .inr (3, [.int 0, .ref (ta 4), .int 0]))] [] sa ta sz)) (va_Qd (fun (r : UInt64) (u : Int32) => (p0.toInt = -1 ∧ u = 0 ∧ r = 0) ∨ (¬ (p0.toInt = -1) ∧ u = 1)) (fun (u : Int32) (t : State) => va_P (dC, dI) vwCl [(y, .inr (11, [.int u, .ref ys, .ref yp, .int 0]))] t.heap ∧ va_K (dC, dI) vwCl [] t ∧ va_D (va_A [(y, .inr (11, [.int th, .ref ys, .ref yp, .int 0])), (ys, .inr (3, [.int 0, .ref (ta 4), .int 0])), (yp, .inr (3, [.int 0, .ref (ta 4), .int 0]))] sz) [(y, .inr (11, [.int u, .ref ys, .ref yp, .int 0]))]) (va_A [(y, .inr (11, [.int th, .ref ys, .ref yp, .int 0])), (ys, .inr (3, [.int 0, .ref (ta 4), .int 0])), (yp, .inr (3, [.int 0, .ref (ta 4), .int 0]))] sz)) 2 4 (va_A [(y, .inr (11, [.int th, .ref ys, .ref yp, .int 0])), (ys, .inr (3, [.int 0, .ref (ta 4), .int 0])), (yp, .inr (3, [.int 0, .ref (ta 4), .int 0]))] sz) := by
  refine Met.ofW (cc := cX7_clear) (maxL := 8) (ret := (some .double)) (by decide) rfl ?_
  intro p e s m args below meth c s₁ B hml hv
  obtain ⟨rfl, hsz, hP, hK, hD0, hE⟩ := hv
  have hx := B.exec
  have hb := B.bytes
  have hr := B.returns
  have hts := atoms_spec (ws := wsX7_clear) B.pre
  have hown : s.vm.findClass RX7 = some m.cls := findClass_of_methodNamed B.named
  have hlocks := B.notSynchronized
  subst hsz
  have hD := hD0.self (sz := s.heap.size)
  generalize hAe : va_A [(y, .inr (11, [.int th, .ref ys, .ref yp, .int 0])), (ys, .inr (3, [.int 0, .ref (ta 4), .int 0])), (yp, .inr (3, [.int 0, .ref (ta 4), .int 0]))] s.heap.size = A at hD hE ⊢
  have hA : ∀ q : Nat, s.heap.size ≤ q → A q := fun q h => by rw [← hAe]; exact Or.inr h
  have hS : va_S A s.heap s.heap [] := va_S.rf
  have hl := lv_entry ([.ref y, .int p0]) (n := 8) (Nat.le_of_ble_eq_true rfl)
  rw [lg_entry_eq]
  generalize (lg_sl ([.ref y, .int p0]) ++ List.replicate (8 - (lg_sl ([.ref y, .int p0])).length) Slot.unset).toArray = ls at hl ⊢
  have hl : lv_has ls 8 [(0, .ref y), (1, .int p0)] := hl
  have hP : va_P (dC, dI) vwCl [(y, .inr (11, [.int th, .ref ys, .ref yp, .int 0])), (ys, .inr (3, [.int 0, .ref (ta 4), .int 0])), (yp, .inr (3, [.int 0, .ref (ta 4), .int 0]))] s.heap := hP
  refine lv_aload_n hx hb dX7_clear_0 rfl (lv_at hl 0 rfl) ?_
  refine lv_aload_n hx hb dX7_clear_1 rfl (lv_at hl 0 rfl) ?_
  refine lv_iload_n hx hb dX7_clear_2 rfl (lv_at hl 1 rfl) ?_
  have hPc := hP.sub (ws' := [(y, .inr (11, [.int th, .ref ys, .ref yp, .int 0])), (ys, .inr (3, [.int 0, .ref (ta 4), .int 0])), (yp, .inr (3, [.int 0, .ref (ta 4), .int 0]))]) [0, 1, 2] rfl
  have hKc := hK.sub (tys' := []) [] rfl
  refine va_calli (va_runV (As := [.int p0]) (rest := [.ref y]) ⟨hx, hb, hml, hown, hts⟩ (c_X7_isNowhere l dC dI y ys yp sa ta th p0) (cwV 1 hts gX7_clear_X7_isNowhere rfl rfl rfl (by decide +kernel) ⟨Nat.le_of_ble_eq_true rfl, Nat.le_of_ble_eq_true rfl⟩) ⟨ax_fbR, va_recv hK hP (ci := 11) (q0 := 0) rfl rfl, ax_prR hPc hKc hS hE⟩ rfl rfl hl.1 rfl (lv_room (Nat.le_of_ble_eq_true rfl)) dX7_clear_3 ⟨Nat.le_of_ble_eq_true rfl, Nat.le_of_ble_eq_true rfl⟩) hS (fun _ _ h9 => h9.elim) (fun _ h9 => h9.elim) (fun r_1 u_3  t H locs ht hvm hw_2 hB hz1 hk1 hS => ?_)
  have hP := ax_keep hP (fun _ h9 => h9) hk1
  rcases hw_2 with ⟨hr9, hw_2⟩ | ⟨hr9, hw_2⟩
  · refine ax_i hr9 ?_
    refine lv_iconst (v := 1) hx hb dX7_clear_6 (by decide) ?_
    have hPc := hP.sub (ws' := [(y, .inr (11, [.int th, .ref ys, .ref yp, .int 0])), (ys, .inr (3, [.int 0, .ref (ta 4), .int 0])), (yp, .inr (3, [.int 0, .ref (ta 4), .int 0]))]) [0, 1, 2] rfl
    have hKc := hK.sub (tys' := []) [] rfl
    have hDc := hD.sub (ws' := [(y, .inr (11, [.int th, .ref ys, .ref yp, .int 0])), (ys, .inr (3, [.int 0, .ref (ta 4), .int 0])), (yp, .inr (3, [.int 0, .ref (ta 4), .int 0]))]) [0, 1, 2] (by decide) rfl
    have hFc := va_free (wc := [(y, .inr (11, [.int th, .ref ys, .ref yp, .int 0])), (ys, .inr (3, [.int 0, .ref (ta 4), .int 0])), (yp, .inr (3, [.int 0, .ref (ta 4), .int 0]))]) hD hS hA [0, 1, 2] rfl
    refine va_calli (va_runV (As := [.int 1, .int 1]) (rest := []) ⟨hx, hb, hml, hown, hts⟩ (c_X7_start_1 l dC dI y ys yp sa ta H.size th) (cwV 2 hts gX7_clear_X7_start rfl rfl rfl (by decide +kernel) ⟨Nat.le_of_ble_eq_true rfl, Nat.le_of_ble_eq_true rfl⟩) ⟨ax_fbW, va_recv hK hP (ci := 11) (q0 := 0) rfl rfl, ax_prW hPc hKc hDc hS hFc hE⟩ rfl rfl hl.1 rfl (lv_room (Nat.le_of_ble_eq_true rfl)) dX7_clear_7 ⟨Nat.le_of_ble_eq_true rfl, Nat.le_of_ble_eq_true rfl⟩) hS (fun q _ h9 => hFc q h9) hFc (fun r_4 u_6  t H locs ht hvm hw_5 hB hz1 hk1 hS => ?_)
    obtain ⟨hP1, hK1, hD1⟩ := hB
    rw [ht] at hP1
    have hK1 := va_K.moved hvm.symm hK1
    obtain ⟨hP, hD⟩ := va_join (wr := []) (w1 := [(y, .inr (11, [.int 1, .ref ys, .ref yp, .int 0])), (ys, .inr (3, [.int 0, .ref (ta 4), .int 0])), (yp, .inr (3, [.int 0, .ref (ta 4), .int 0]))]) hP hD [0, 1, 2] [] rfl rfl (by decide) (by decide) hk1 hFc hP1 hD1
    have hP : va_P (dC, dI) vwCl [(y, .inr (11, [.int 1, .ref ys, .ref yp, .int 0])), (ys, .inr (3, [.int 0, .ref (ta 4), .int 0])), (yp, .inr (3, [.int 0, .ref (ta 4), .int 0]))] H := hP
    have hD : va_D A [(y, .inr (11, [.int 1, .ref ys, .ref yp, .int 0])), (ys, .inr (3, [.int 0, .ref (ta 4), .int 0])), (yp, .inr (3, [.int 0, .ref (ta 4), .int 0]))] := hD
    refine ax_i (y := 1) hw_5 ?_
    refine lv_if_eq (tgt := 15) hx hb dX7_clear_10 (by decide) (fun h9 => absurd h9 (by decide)) (fun _ => ?_)
    refine lv_dconst0 hx hb dX7_clear_13 ?_
    refine ax_d (y := 0) (by decide +kernel) ?_
    refine W.widen (k := 2) (n := 4) (Nat.le_of_ble_eq_true rfl) (Nat.le_of_ble_eq_true rfl) ?_
    have hP9 := hP.sub (ws' := [(y, .inr (11, [.int 1, .ref ys, .ref yp, .int 0]))]) [0] rfl
    have hD9 := hD.sub (ws' := [(y, .inr (11, [.int 1, .ref ys, .ref yp, .int 0]))]) [0] (by decide) rfl
    have hK9 := hK.sub (tys' := []) [] rfl
    exact W.dret (v := 0) hx hb hr (fun t ht hW => ⟨⟨0, 1, rfl, Or.inr ⟨by omega, rfl⟩, by rw [ht]; exact hP9, va_K.moved hW.alike hK9, hD9⟩, hS.F ht⟩) hS.2.2 dX7_clear_14
  · refine ax_i hr9 ?_
    refine lv_iconst (v := 1) hx hb dX7_clear_6 (by decide) ?_
    have hPc := hP.sub (ws' := [(y, .inr (11, [.int th, .ref ys, .ref yp, .int 0])), (ys, .inr (3, [.int 0, .ref (ta 4), .int 0])), (yp, .inr (3, [.int 0, .ref (ta 4), .int 0]))]) [0, 1, 2] rfl
    have hKc := hK.sub (tys' := []) [] rfl
    have hDc := hD.sub (ws' := [(y, .inr (11, [.int th, .ref ys, .ref yp, .int 0])), (ys, .inr (3, [.int 0, .ref (ta 4), .int 0])), (yp, .inr (3, [.int 0, .ref (ta 4), .int 0]))]) [0, 1, 2] (by decide) rfl
    have hFc := va_free (wc := [(y, .inr (11, [.int th, .ref ys, .ref yp, .int 0])), (ys, .inr (3, [.int 0, .ref (ta 4), .int 0])), (yp, .inr (3, [.int 0, .ref (ta 4), .int 0]))]) hD hS hA [0, 1, 2] rfl
    refine va_calli (va_runV (As := [.int 0, .int 1]) (rest := []) ⟨hx, hb, hml, hown, hts⟩ (c_X7_start_0 l dC dI y ys yp sa ta H.size th) (cwV 2 hts gX7_clear_X7_start rfl rfl rfl (by decide +kernel) ⟨Nat.le_of_ble_eq_true rfl, Nat.le_of_ble_eq_true rfl⟩) ⟨ax_fbW, va_recv hK hP (ci := 11) (q0 := 0) rfl rfl, ax_prW hPc hKc hDc hS hFc hE⟩ rfl rfl hl.1 rfl (lv_room (Nat.le_of_ble_eq_true rfl)) dX7_clear_7 ⟨Nat.le_of_ble_eq_true rfl, Nat.le_of_ble_eq_true rfl⟩) hS (fun q _ h9 => hFc q h9) hFc (fun r_7 u_9  t H locs ht hvm hw_8 hB hz1 hk1 hS => ?_)
    obtain ⟨hP1, hK1, hD1⟩ := hB
    rw [ht] at hP1
    have hK1 := va_K.moved hvm.symm hK1
    obtain ⟨hP, hD⟩ := va_join (wr := []) (w1 := [(y, .inr (11, [.int 0, .ref ys, .ref yp, .int 0])), (ys, .inr (3, [.int 0, .ref (ta 4), .int 0])), (yp, .inr (3, [.int 0, .ref (ta 4), .int 0]))]) hP hD [0, 1, 2] [] rfl rfl (by decide) (by decide) hk1 hFc hP1 hD1
    have hP : va_P (dC, dI) vwCl [(y, .inr (11, [.int 0, .ref ys, .ref yp, .int 0])), (ys, .inr (3, [.int 0, .ref (ta 4), .int 0])), (yp, .inr (3, [.int 0, .ref (ta 4), .int 0]))] H := hP
    have hD : va_D A [(y, .inr (11, [.int 0, .ref ys, .ref yp, .int 0])), (ys, .inr (3, [.int 0, .ref (ta 4), .int 0])), (yp, .inr (3, [.int 0, .ref (ta 4), .int 0]))] := hD
    refine ax_i (y := 0) hw_8 ?_
    refine lv_if_eq (tgt := 15) hx hb dX7_clear_10 (by decide) (fun _ => ?_) (fun h9 => absurd (by decide) h9)
    refine lv_aload_n hx hb dX7_clear_15 rfl (lv_at hl 0 rfl) ?_
    refine lv_iload_n hx hb dX7_clear_16 rfl (lv_at hl 1 rfl) ?_
    have hPc := hP.sub (ws' := [(y, .inr (11, [.int 0, .ref ys, .ref yp, .int 0])), (ys, .inr (3, [.int 0, .ref (ta 4), .int 0])), (yp, .inr (3, [.int 0, .ref (ta 4), .int 0]))]) [0, 1, 2] rfl
    have hKc := hK.sub (tys' := []) [] rfl
    have hDc := hD.sub (ws' := [(y, .inr (11, [.int 0, .ref ys, .ref yp, .int 0])), (ys, .inr (3, [.int 0, .ref (ta 4), .int 0])), (yp, .inr (3, [.int 0, .ref (ta 4), .int 0]))]) [0, 1, 2] (by decide) rfl
    have hFc := va_free (wc := [(y, .inr (11, [.int 0, .ref ys, .ref yp, .int 0])), (ys, .inr (3, [.int 0, .ref (ta 4), .int 0])), (yp, .inr (3, [.int 0, .ref (ta 4), .int 0]))]) hD hS hA [0, 1, 2] rfl
    refine va_callr (va_runV (As := [.int p0]) (rest := []) ⟨hx, hb, hml, hown, hts⟩ (c_X7_behind_ l dC dI y ys yp sa ta H.size 0 p0 (by omega)) (cwV 1 hts gX7_clear_X7_behind_ rfl rfl rfl (by decide +kernel) ⟨Nat.le_of_ble_eq_true rfl, Nat.le_of_ble_eq_true rfl⟩) ⟨ax_fbW, va_recv hK hP (ci := 11) (q0 := 0) rfl rfl, ax_prW hPc hKc hDc hS hFc hE⟩ rfl rfl hl.1 rfl (lv_room (Nat.le_of_ble_eq_true rfl)) dX7_clear_17 ⟨Nat.le_of_ble_eq_true rfl, Nat.le_of_ble_eq_true rfl⟩) hS (fun q _ h9 => hFc q h9) hFc (fun u_12  r_10 t H locs ht hvm hw_11 hB hz1 hk1 hS => ?_)
    obtain ⟨qA_13, rfl⟩ : ∃ z, z = u_12 := ⟨_, rfl⟩
    obtain ⟨hP1, hK1, hD1⟩ := hB
    rw [ht] at hP1
    have hK1 := va_K.moved hvm.symm hK1
    obtain ⟨hP, hD⟩ := va_join (wr := []) (w1 := [(y, .inr (11, [.int 0, .ref ys, .ref yp, .int 0])), (ys, .inr (3, [.int 0, .ref (ta 4), .int 0])), (yp, .inr (3, [.int 0, .ref (ta 4), .int 0])), (r_10, .inl (qA_13, 0, .inr (.inl (fun _ => 0))))]) hP hD [0, 1, 2] [] rfl rfl (by decide) (by decide) hk1 hFc hP1 hD1
    have hK := hK.app hK1
    have hK := hK.sub (tys' := [(qA_13, .long)]) [0] rfl
    have hP : va_P (dC, dI) vwCl [(y, .inr (11, [.int 0, .ref ys, .ref yp, .int 0])), (ys, .inr (3, [.int 0, .ref (ta 4), .int 0])), (yp, .inr (3, [.int 0, .ref (ta 4), .int 0])), (r_10, .inl (qA_13, 0, .inr (.inl (fun _ => 0))))] H := hP
    have hD : va_D A [(y, .inr (11, [.int 0, .ref ys, .ref yp, .int 0])), (ys, .inr (3, [.int 0, .ref (ta 4), .int 0])), (yp, .inr (3, [.int 0, .ref (ta 4), .int 0])), (r_10, .inl (qA_13, 0, .inr (.inl (fun _ => 0))))] := hD
    refine lv_astore_n (lv' := [(2, .ref r_10), (0, .ref y), (1, .int p0)]) hx hb dX7_clear_20 rfl hl (by decide) rfl (fun ls hl => ?_)
    refine lv_aload_n hx hb dX7_clear_21 rfl (lv_at hl 1 rfl) ?_
    refine lv_iconst (v := 0) hx hb dX7_clear_22 (by decide) ?_
    refine lv_aload_n hx hb dX7_clear_23 rfl (lv_at hl 0 rfl) ?_
    have hPc := hP.sub (ws' := [(y, .inr (11, [.int 0, .ref ys, .ref yp, .int 0])), (ys, .inr (3, [.int 0, .ref (ta 4), .int 0])), (yp, .inr (3, [.int 0, .ref (ta 4), .int 0]))]) [0, 1, 2] rfl
    have hKc := hK.sub (tys' := []) [] rfl
    refine va_calld (va_runV (As := [.int 0, .ref r_10]) (rest := []) ⟨hx, hb, hml, hown, hts⟩ (c_X7_value l dC dI y ys yp sa ta 0 0 r_10) (cwV 2 hts gX7_clear_X7_value rfl rfl rfl (by decide +kernel) ⟨Nat.le_of_ble_eq_true rfl, Nat.le_of_ble_eq_true rfl⟩) ⟨ax_fbR, va_recv hK hP (ci := 11) (q0 := 0) rfl rfl, ax_prR hPc hKc hS hE⟩ rfl rfl hl.1 rfl (lv_room (Nat.le_of_ble_eq_true rfl)) dX7_clear_24 ⟨Nat.le_of_ble_eq_true rfl, Nat.le_of_ble_eq_true rfl⟩) hS (fun _ _ h9 => h9.elim) (fun _ h9 => h9.elim) (fun r_14 u_16  t H locs ht hvm hw_15 hB hz1 hk1 hS => ?_)
    have hP := ax_keep hP (fun _ h9 => h9) hk1
    refine ax_d (y := 0) hw_15 ?_
    refine lv_dstore_n (lv' := [(3, .double 0), (2, .ref r_10), (0, .ref y), (1, .int p0)]) hx hb dX7_clear_27 rfl hl (by decide) rfl (fun ls hl => ?_)
    refine lv_dload_n hx hb dX7_clear_28 rfl (lv_at hl 0 rfl) ?_
    refine lv_dstore (lv' := [(5, .double 0), (3, .double 0), (2, .ref r_10), (0, .ref y), (1, .int p0)]) hx hb dX7_clear_29 hl (by decide) rfl (fun ls hl => ?_)
    refine lv_iconst (v := 1) hx hb dX7_clear_31 (by decide) ?_
    refine lv_istore (lv' := [(7, .int 1), (5, .double 0), (3, .double 0), (2, .ref r_10), (0, .ref y), (1, .int p0)]) hx hb dX7_clear_32 hl (by decide) rfl (fun ls hl => ?_)
    refine lv_iload hx hb dX7_clear_34 (lv_at hl 0 rfl) ?_
    refine lv_bipush (v := 8) hx hb dX7_clear_36 (by decide) ?_
    refine lv_icmp_ge (tgt := 73) hx hb dX7_clear_38 (by decide) (fun h9 => absurd h9 (by decide)) (fun _ => ?_)
    refine lv_dload_n hx hb dX7_clear_41 rfl (lv_at hl 2 rfl) ?_
    refine lv_aload_n hx hb dX7_clear_42 rfl (lv_at hl 4 rfl) ?_
    refine lv_iload hx hb dX7_clear_43 (lv_at hl 0 rfl) ?_
    refine lv_aload_n hx hb dX7_clear_45 rfl (lv_at hl 3 rfl) ?_
    have hPc := hP.sub (ws' := [(y, .inr (11, [.int 0, .ref ys, .ref yp, .int 0])), (ys, .inr (3, [.int 0, .ref (ta 4), .int 0])), (yp, .inr (3, [.int 0, .ref (ta 4), .int 0]))]) [0, 1, 2] rfl
    have hKc := hK.sub (tys' := []) [] rfl
    refine va_calld (va_runV (As := [.int 1, .ref r_10]) (rest := [.double 0]) ⟨hx, hb, hml, hown, hts⟩ (c_X7_value l dC dI y ys yp sa ta 0 1 r_10) (cwV 2 hts gX7_clear_X7_value rfl rfl rfl (by decide +kernel) ⟨Nat.le_of_ble_eq_true rfl, Nat.le_of_ble_eq_true rfl⟩) ⟨ax_fbR, va_recv hK hP (ci := 11) (q0 := 0) rfl rfl, ax_prR hPc hKc hS hE⟩ rfl rfl hl.1 rfl (lv_room (Nat.le_of_ble_eq_true rfl)) dX7_clear_46 ⟨Nat.le_of_ble_eq_true rfl, Nat.le_of_ble_eq_true rfl⟩) hS (fun _ _ h9 => h9.elim) (fun _ h9 => h9.elim) (fun r_17 u_19  t H locs ht hvm hw_18 hB hz1 hk1 hS => ?_)
    have hP := ax_keep hP (fun _ h9 => h9) hk1
    refine ax_d (y := 0) hw_18 ?_
    refine ax_mmax hx hb (hml.trans hl.1.symm) hown (hts (.methodLink RX7 187 yJ9_max_eb370) (by decide +kernel)) (hts (.static yJ9_max_eb370) (by decide +kernel)) (hts (.initialized "java/lang/Math") (by decide +kernel)) (hts (.code yJ9_max_eb370 cJ9_max_eb370 4 (some .double)) (by decide +kernel)) (Nat.le_of_ble_eq_true rfl) (Nat.le_of_ble_eq_true rfl) (Nat.le_of_ble_eq_true rfl) (Nat.le_of_ble_eq_true rfl) dX7_clear_49 ?_
    refine lv_dstore_n (lv' := [(3, .double 0), (7, .int 1), (5, .double 0), (2, .ref r_10), (0, .ref y), (1, .int p0)]) hx hb dX7_clear_52 rfl hl (by decide) rfl (fun ls hl => ?_)
    refine lv_dload hx hb dX7_clear_53 (lv_at hl 2 rfl) ?_
    refine lv_aload_n hx hb dX7_clear_55 rfl (lv_at hl 4 rfl) ?_
    refine lv_iload hx hb dX7_clear_56 (lv_at hl 1 rfl) ?_
    refine lv_aload_n hx hb dX7_clear_58 rfl (lv_at hl 3 rfl) ?_
    have hPc := hP.sub (ws' := [(y, .inr (11, [.int 0, .ref ys, .ref yp, .int 0])), (ys, .inr (3, [.int 0, .ref (ta 4), .int 0])), (yp, .inr (3, [.int 0, .ref (ta 4), .int 0]))]) [0, 1, 2] rfl
    have hKc := hK.sub (tys' := []) [] rfl
    refine va_calld (va_runV (As := [.int 1, .ref r_10]) (rest := [.double 0]) ⟨hx, hb, hml, hown, hts⟩ (c_X7_value l dC dI y ys yp sa ta 0 1 r_10) (cwV 2 hts gX7_clear_X7_value rfl rfl rfl (by decide +kernel) ⟨Nat.le_of_ble_eq_true rfl, Nat.le_of_ble_eq_true rfl⟩) ⟨ax_fbR, va_recv hK hP (ci := 11) (q0 := 0) rfl rfl, ax_prR hPc hKc hS hE⟩ rfl rfl hl.1 rfl (lv_room (Nat.le_of_ble_eq_true rfl)) dX7_clear_59 ⟨Nat.le_of_ble_eq_true rfl, Nat.le_of_ble_eq_true rfl⟩) hS (fun _ _ h9 => h9.elim) (fun _ h9 => h9.elim) (fun r_20 u_22  t H locs ht hvm hw_21 hB hz1 hk1 hS => ?_)
    have hP := ax_keep hP (fun _ h9 => h9) hk1
    refine ax_d (y := 0) hw_21 ?_
    refine ax_mmin hx hb (hml.trans hl.1.symm) hown (hts (.methodLink RX7 191 yJ9_min_eb370) (by decide +kernel)) (hts (.static yJ9_min_eb370) (by decide +kernel)) (hts (.initialized "java/lang/Math") (by decide +kernel)) (hts (.code yJ9_min_eb370 cJ9_min_eb370 4 (some .double)) (by decide +kernel)) (Nat.le_of_ble_eq_true rfl) (Nat.le_of_ble_eq_true rfl) (Nat.le_of_ble_eq_true rfl) (Nat.le_of_ble_eq_true rfl) dX7_clear_62 ?_
    refine lv_dstore (lv' := [(5, .double 0), (3, .double 0), (7, .int 1), (2, .ref r_10), (0, .ref y), (1, .int p0)]) hx hb dX7_clear_65 hl (by decide) rfl (fun ls hl => ?_)
    refine lv_iinc (v := 2) (lv' := [(7, .int 2), (5, .double 0), (3, .double 0), (2, .ref r_10), (0, .ref y), (1, .int p0)]) hx hb dX7_clear_67 hl (k := 2) rfl (by decide) (by decide) rfl (fun ls hl => ?_)
    refine lv_goto (tgt := 34) hx hb dX7_clear_70 (by decide) ?_
    refine lv_iload hx hb dX7_clear_34 (lv_at hl 0 rfl) ?_
    refine lv_bipush (v := 8) hx hb dX7_clear_36 (by decide) ?_
    refine lv_icmp_ge (tgt := 73) hx hb dX7_clear_38 (by decide) (fun h9 => absurd h9 (by decide)) (fun _ => ?_)
    refine lv_dload_n hx hb dX7_clear_41 rfl (lv_at hl 2 rfl) ?_
    refine lv_aload_n hx hb dX7_clear_42 rfl (lv_at hl 4 rfl) ?_
    refine lv_iload hx hb dX7_clear_43 (lv_at hl 0 rfl) ?_
    refine lv_aload_n hx hb dX7_clear_45 rfl (lv_at hl 3 rfl) ?_
    have hPc := hP.sub (ws' := [(y, .inr (11, [.int 0, .ref ys, .ref yp, .int 0])), (ys, .inr (3, [.int 0, .ref (ta 4), .int 0])), (yp, .inr (3, [.int 0, .ref (ta 4), .int 0]))]) [0, 1, 2] rfl
    have hKc := hK.sub (tys' := []) [] rfl
    refine va_calld (va_runV (As := [.int 2, .ref r_10]) (rest := [.double 0]) ⟨hx, hb, hml, hown, hts⟩ (c_X7_value l dC dI y ys yp sa ta 0 2 r_10) (cwV 2 hts gX7_clear_X7_value rfl rfl rfl (by decide +kernel) ⟨Nat.le_of_ble_eq_true rfl, Nat.le_of_ble_eq_true rfl⟩) ⟨ax_fbR, va_recv hK hP (ci := 11) (q0 := 0) rfl rfl, ax_prR hPc hKc hS hE⟩ rfl rfl hl.1 rfl (lv_room (Nat.le_of_ble_eq_true rfl)) dX7_clear_46 ⟨Nat.le_of_ble_eq_true rfl, Nat.le_of_ble_eq_true rfl⟩) hS (fun _ _ h9 => h9.elim) (fun _ h9 => h9.elim) (fun r_23 u_25  t H locs ht hvm hw_24 hB hz1 hk1 hS => ?_)
    have hP := ax_keep hP (fun _ h9 => h9) hk1
    refine ax_d (y := 0) hw_24 ?_
    refine ax_mmax hx hb (hml.trans hl.1.symm) hown (hts (.methodLink RX7 187 yJ9_max_eb370) (by decide +kernel)) (hts (.static yJ9_max_eb370) (by decide +kernel)) (hts (.initialized "java/lang/Math") (by decide +kernel)) (hts (.code yJ9_max_eb370 cJ9_max_eb370 4 (some .double)) (by decide +kernel)) (Nat.le_of_ble_eq_true rfl) (Nat.le_of_ble_eq_true rfl) (Nat.le_of_ble_eq_true rfl) (Nat.le_of_ble_eq_true rfl) dX7_clear_49 ?_
    refine lv_dstore_n (lv' := [(3, .double 0), (7, .int 2), (5, .double 0), (2, .ref r_10), (0, .ref y), (1, .int p0)]) hx hb dX7_clear_52 rfl hl (by decide) rfl (fun ls hl => ?_)
    refine lv_dload hx hb dX7_clear_53 (lv_at hl 2 rfl) ?_
    refine lv_aload_n hx hb dX7_clear_55 rfl (lv_at hl 4 rfl) ?_
    refine lv_iload hx hb dX7_clear_56 (lv_at hl 1 rfl) ?_
    refine lv_aload_n hx hb dX7_clear_58 rfl (lv_at hl 3 rfl) ?_
    have hPc := hP.sub (ws' := [(y, .inr (11, [.int 0, .ref ys, .ref yp, .int 0])), (ys, .inr (3, [.int 0, .ref (ta 4), .int 0])), (yp, .inr (3, [.int 0, .ref (ta 4), .int 0]))]) [0, 1, 2] rfl
    have hKc := hK.sub (tys' := []) [] rfl
    refine va_calld (va_runV (As := [.int 2, .ref r_10]) (rest := [.double 0]) ⟨hx, hb, hml, hown, hts⟩ (c_X7_value l dC dI y ys yp sa ta 0 2 r_10) (cwV 2 hts gX7_clear_X7_value rfl rfl rfl (by decide +kernel) ⟨Nat.le_of_ble_eq_true rfl, Nat.le_of_ble_eq_true rfl⟩) ⟨ax_fbR, va_recv hK hP (ci := 11) (q0 := 0) rfl rfl, ax_prR hPc hKc hS hE⟩ rfl rfl hl.1 rfl (lv_room (Nat.le_of_ble_eq_true rfl)) dX7_clear_59 ⟨Nat.le_of_ble_eq_true rfl, Nat.le_of_ble_eq_true rfl⟩) hS (fun _ _ h9 => h9.elim) (fun _ h9 => h9.elim) (fun r_26 u_28  t H locs ht hvm hw_27 hB hz1 hk1 hS => ?_)
    have hP := ax_keep hP (fun _ h9 => h9) hk1
    refine ax_d (y := 0) hw_27 ?_
    refine ax_mmin hx hb (hml.trans hl.1.symm) hown (hts (.methodLink RX7 191 yJ9_min_eb370) (by decide +kernel)) (hts (.static yJ9_min_eb370) (by decide +kernel)) (hts (.initialized "java/lang/Math") (by decide +kernel)) (hts (.code yJ9_min_eb370 cJ9_min_eb370 4 (some .double)) (by decide +kernel)) (Nat.le_of_ble_eq_true rfl) (Nat.le_of_ble_eq_true rfl) (Nat.le_of_ble_eq_true rfl) (Nat.le_of_ble_eq_true rfl) dX7_clear_62 ?_
    refine lv_dstore (lv' := [(5, .double 0), (3, .double 0), (7, .int 2), (2, .ref r_10), (0, .ref y), (1, .int p0)]) hx hb dX7_clear_65 hl (by decide) rfl (fun ls hl => ?_)
    refine lv_iinc (v := 3) (lv' := [(7, .int 3), (5, .double 0), (3, .double 0), (2, .ref r_10), (0, .ref y), (1, .int p0)]) hx hb dX7_clear_67 hl (k := 2) rfl (by decide) (by decide) rfl (fun ls hl => ?_)
    refine lv_goto (tgt := 34) hx hb dX7_clear_70 (by decide) ?_
    refine lv_iload hx hb dX7_clear_34 (lv_at hl 0 rfl) ?_
    refine lv_bipush (v := 8) hx hb dX7_clear_36 (by decide) ?_
    refine lv_icmp_ge (tgt := 73) hx hb dX7_clear_38 (by decide) (fun h9 => absurd h9 (by decide)) (fun _ => ?_)
    refine lv_dload_n hx hb dX7_clear_41 rfl (lv_at hl 2 rfl) ?_
    refine lv_aload_n hx hb dX7_clear_42 rfl (lv_at hl 4 rfl) ?_
    refine lv_iload hx hb dX7_clear_43 (lv_at hl 0 rfl) ?_
    refine lv_aload_n hx hb dX7_clear_45 rfl (lv_at hl 3 rfl) ?_
    have hPc := hP.sub (ws' := [(y, .inr (11, [.int 0, .ref ys, .ref yp, .int 0])), (ys, .inr (3, [.int 0, .ref (ta 4), .int 0])), (yp, .inr (3, [.int 0, .ref (ta 4), .int 0]))]) [0, 1, 2] rfl
    have hKc := hK.sub (tys' := []) [] rfl
    refine va_calld (va_runV (As := [.int 3, .ref r_10]) (rest := [.double 0]) ⟨hx, hb, hml, hown, hts⟩ (c_X7_value l dC dI y ys yp sa ta 0 3 r_10) (cwV 2 hts gX7_clear_X7_value rfl rfl rfl (by decide +kernel) ⟨Nat.le_of_ble_eq_true rfl, Nat.le_of_ble_eq_true rfl⟩) ⟨ax_fbR, va_recv hK hP (ci := 11) (q0 := 0) rfl rfl, ax_prR hPc hKc hS hE⟩ rfl rfl hl.1 rfl (lv_room (Nat.le_of_ble_eq_true rfl)) dX7_clear_46 ⟨Nat.le_of_ble_eq_true rfl, Nat.le_of_ble_eq_true rfl⟩) hS (fun _ _ h9 => h9.elim) (fun _ h9 => h9.elim) (fun r_29 u_31  t H locs ht hvm hw_30 hB hz1 hk1 hS => ?_)
    have hP := ax_keep hP (fun _ h9 => h9) hk1
    refine ax_d (y := 0) hw_30 ?_
    refine ax_mmax hx hb (hml.trans hl.1.symm) hown (hts (.methodLink RX7 187 yJ9_max_eb370) (by decide +kernel)) (hts (.static yJ9_max_eb370) (by decide +kernel)) (hts (.initialized "java/lang/Math") (by decide +kernel)) (hts (.code yJ9_max_eb370 cJ9_max_eb370 4 (some .double)) (by decide +kernel)) (Nat.le_of_ble_eq_true rfl) (Nat.le_of_ble_eq_true rfl) (Nat.le_of_ble_eq_true rfl) (Nat.le_of_ble_eq_true rfl) dX7_clear_49 ?_
    refine lv_dstore_n (lv' := [(3, .double 0), (7, .int 3), (5, .double 0), (2, .ref r_10), (0, .ref y), (1, .int p0)]) hx hb dX7_clear_52 rfl hl (by decide) rfl (fun ls hl => ?_)
    refine lv_dload hx hb dX7_clear_53 (lv_at hl 2 rfl) ?_
    refine lv_aload_n hx hb dX7_clear_55 rfl (lv_at hl 4 rfl) ?_
    refine lv_iload hx hb dX7_clear_56 (lv_at hl 1 rfl) ?_
    refine lv_aload_n hx hb dX7_clear_58 rfl (lv_at hl 3 rfl) ?_
    have hPc := hP.sub (ws' := [(y, .inr (11, [.int 0, .ref ys, .ref yp, .int 0])), (ys, .inr (3, [.int 0, .ref (ta 4), .int 0])), (yp, .inr (3, [.int 0, .ref (ta 4), .int 0]))]) [0, 1, 2] rfl
    have hKc := hK.sub (tys' := []) [] rfl
    refine va_calld (va_runV (As := [.int 3, .ref r_10]) (rest := [.double 0]) ⟨hx, hb, hml, hown, hts⟩ (c_X7_value l dC dI y ys yp sa ta 0 3 r_10) (cwV 2 hts gX7_clear_X7_value rfl rfl rfl (by decide +kernel) ⟨Nat.le_of_ble_eq_true rfl, Nat.le_of_ble_eq_true rfl⟩) ⟨ax_fbR, va_recv hK hP (ci := 11) (q0 := 0) rfl rfl, ax_prR hPc hKc hS hE⟩ rfl rfl hl.1 rfl (lv_room (Nat.le_of_ble_eq_true rfl)) dX7_clear_59 ⟨Nat.le_of_ble_eq_true rfl, Nat.le_of_ble_eq_true rfl⟩) hS (fun _ _ h9 => h9.elim) (fun _ h9 => h9.elim) (fun r_32 u_34  t H locs ht hvm hw_33 hB hz1 hk1 hS => ?_)
    have hP := ax_keep hP (fun _ h9 => h9) hk1
    refine ax_d (y := 0) hw_33 ?_
    refine ax_mmin hx hb (hml.trans hl.1.symm) hown (hts (.methodLink RX7 191 yJ9_min_eb370) (by decide +kernel)) (hts (.static yJ9_min_eb370) (by decide +kernel)) (hts (.initialized "java/lang/Math") (by decide +kernel)) (hts (.code yJ9_min_eb370 cJ9_min_eb370 4 (some .double)) (by decide +kernel)) (Nat.le_of_ble_eq_true rfl) (Nat.le_of_ble_eq_true rfl) (Nat.le_of_ble_eq_true rfl) (Nat.le_of_ble_eq_true rfl) dX7_clear_62 ?_
    refine lv_dstore (lv' := [(5, .double 0), (3, .double 0), (7, .int 3), (2, .ref r_10), (0, .ref y), (1, .int p0)]) hx hb dX7_clear_65 hl (by decide) rfl (fun ls hl => ?_)
    refine lv_iinc (v := 4) (lv' := [(7, .int 4), (5, .double 0), (3, .double 0), (2, .ref r_10), (0, .ref y), (1, .int p0)]) hx hb dX7_clear_67 hl (k := 2) rfl (by decide) (by decide) rfl (fun ls hl => ?_)
    refine lv_goto (tgt := 34) hx hb dX7_clear_70 (by decide) ?_
    refine lv_iload hx hb dX7_clear_34 (lv_at hl 0 rfl) ?_
    refine lv_bipush (v := 8) hx hb dX7_clear_36 (by decide) ?_
    refine lv_icmp_ge (tgt := 73) hx hb dX7_clear_38 (by decide) (fun h9 => absurd h9 (by decide)) (fun _ => ?_)
    refine lv_dload_n hx hb dX7_clear_41 rfl (lv_at hl 2 rfl) ?_
    refine lv_aload_n hx hb dX7_clear_42 rfl (lv_at hl 4 rfl) ?_
    refine lv_iload hx hb dX7_clear_43 (lv_at hl 0 rfl) ?_
    refine lv_aload_n hx hb dX7_clear_45 rfl (lv_at hl 3 rfl) ?_
    have hPc := hP.sub (ws' := [(y, .inr (11, [.int 0, .ref ys, .ref yp, .int 0])), (ys, .inr (3, [.int 0, .ref (ta 4), .int 0])), (yp, .inr (3, [.int 0, .ref (ta 4), .int 0]))]) [0, 1, 2] rfl
    have hKc := hK.sub (tys' := []) [] rfl
    refine va_calld (va_runV (As := [.int 4, .ref r_10]) (rest := [.double 0]) ⟨hx, hb, hml, hown, hts⟩ (c_X7_value l dC dI y ys yp sa ta 0 4 r_10) (cwV 2 hts gX7_clear_X7_value rfl rfl rfl (by decide +kernel) ⟨Nat.le_of_ble_eq_true rfl, Nat.le_of_ble_eq_true rfl⟩) ⟨ax_fbR, va_recv hK hP (ci := 11) (q0 := 0) rfl rfl, ax_prR hPc hKc hS hE⟩ rfl rfl hl.1 rfl (lv_room (Nat.le_of_ble_eq_true rfl)) dX7_clear_46 ⟨Nat.le_of_ble_eq_true rfl, Nat.le_of_ble_eq_true rfl⟩) hS (fun _ _ h9 => h9.elim) (fun _ h9 => h9.elim) (fun r_35 u_37  t H locs ht hvm hw_36 hB hz1 hk1 hS => ?_)
    have hP := ax_keep hP (fun _ h9 => h9) hk1
    refine ax_d (y := 0) hw_36 ?_
    refine ax_mmax hx hb (hml.trans hl.1.symm) hown (hts (.methodLink RX7 187 yJ9_max_eb370) (by decide +kernel)) (hts (.static yJ9_max_eb370) (by decide +kernel)) (hts (.initialized "java/lang/Math") (by decide +kernel)) (hts (.code yJ9_max_eb370 cJ9_max_eb370 4 (some .double)) (by decide +kernel)) (Nat.le_of_ble_eq_true rfl) (Nat.le_of_ble_eq_true rfl) (Nat.le_of_ble_eq_true rfl) (Nat.le_of_ble_eq_true rfl) dX7_clear_49 ?_
    refine lv_dstore_n (lv' := [(3, .double 0), (7, .int 4), (5, .double 0), (2, .ref r_10), (0, .ref y), (1, .int p0)]) hx hb dX7_clear_52 rfl hl (by decide) rfl (fun ls hl => ?_)
    refine lv_dload hx hb dX7_clear_53 (lv_at hl 2 rfl) ?_
    refine lv_aload_n hx hb dX7_clear_55 rfl (lv_at hl 4 rfl) ?_
    refine lv_iload hx hb dX7_clear_56 (lv_at hl 1 rfl) ?_
    refine lv_aload_n hx hb dX7_clear_58 rfl (lv_at hl 3 rfl) ?_
    have hPc := hP.sub (ws' := [(y, .inr (11, [.int 0, .ref ys, .ref yp, .int 0])), (ys, .inr (3, [.int 0, .ref (ta 4), .int 0])), (yp, .inr (3, [.int 0, .ref (ta 4), .int 0]))]) [0, 1, 2] rfl
    have hKc := hK.sub (tys' := []) [] rfl
    refine va_calld (va_runV (As := [.int 4, .ref r_10]) (rest := [.double 0]) ⟨hx, hb, hml, hown, hts⟩ (c_X7_value l dC dI y ys yp sa ta 0 4 r_10) (cwV 2 hts gX7_clear_X7_value rfl rfl rfl (by decide +kernel) ⟨Nat.le_of_ble_eq_true rfl, Nat.le_of_ble_eq_true rfl⟩) ⟨ax_fbR, va_recv hK hP (ci := 11) (q0 := 0) rfl rfl, ax_prR hPc hKc hS hE⟩ rfl rfl hl.1 rfl (lv_room (Nat.le_of_ble_eq_true rfl)) dX7_clear_59 ⟨Nat.le_of_ble_eq_true rfl, Nat.le_of_ble_eq_true rfl⟩) hS (fun _ _ h9 => h9.elim) (fun _ h9 => h9.elim) (fun r_38 u_40  t H locs ht hvm hw_39 hB hz1 hk1 hS => ?_)
    have hP := ax_keep hP (fun _ h9 => h9) hk1
    refine ax_d (y := 0) hw_39 ?_
    refine ax_mmin hx hb (hml.trans hl.1.symm) hown (hts (.methodLink RX7 191 yJ9_min_eb370) (by decide +kernel)) (hts (.static yJ9_min_eb370) (by decide +kernel)) (hts (.initialized "java/lang/Math") (by decide +kernel)) (hts (.code yJ9_min_eb370 cJ9_min_eb370 4 (some .double)) (by decide +kernel)) (Nat.le_of_ble_eq_true rfl) (Nat.le_of_ble_eq_true rfl) (Nat.le_of_ble_eq_true rfl) (Nat.le_of_ble_eq_true rfl) dX7_clear_62 ?_
    refine lv_dstore (lv' := [(5, .double 0), (3, .double 0), (7, .int 4), (2, .ref r_10), (0, .ref y), (1, .int p0)]) hx hb dX7_clear_65 hl (by decide) rfl (fun ls hl => ?_)
    refine lv_iinc (v := 5) (lv' := [(7, .int 5), (5, .double 0), (3, .double 0), (2, .ref r_10), (0, .ref y), (1, .int p0)]) hx hb dX7_clear_67 hl (k := 2) rfl (by decide) (by decide) rfl (fun ls hl => ?_)
    refine lv_goto (tgt := 34) hx hb dX7_clear_70 (by decide) ?_
    refine lv_iload hx hb dX7_clear_34 (lv_at hl 0 rfl) ?_
    refine lv_bipush (v := 8) hx hb dX7_clear_36 (by decide) ?_
    refine lv_icmp_ge (tgt := 73) hx hb dX7_clear_38 (by decide) (fun h9 => absurd h9 (by decide)) (fun _ => ?_)
    refine lv_dload_n hx hb dX7_clear_41 rfl (lv_at hl 2 rfl) ?_
    refine lv_aload_n hx hb dX7_clear_42 rfl (lv_at hl 4 rfl) ?_
    refine lv_iload hx hb dX7_clear_43 (lv_at hl 0 rfl) ?_
    refine lv_aload_n hx hb dX7_clear_45 rfl (lv_at hl 3 rfl) ?_
    have hPc := hP.sub (ws' := [(y, .inr (11, [.int 0, .ref ys, .ref yp, .int 0])), (ys, .inr (3, [.int 0, .ref (ta 4), .int 0])), (yp, .inr (3, [.int 0, .ref (ta 4), .int 0]))]) [0, 1, 2] rfl
    have hKc := hK.sub (tys' := []) [] rfl
    refine va_calld (va_runV (As := [.int 5, .ref r_10]) (rest := [.double 0]) ⟨hx, hb, hml, hown, hts⟩ (c_X7_value l dC dI y ys yp sa ta 0 5 r_10) (cwV 2 hts gX7_clear_X7_value rfl rfl rfl (by decide +kernel) ⟨Nat.le_of_ble_eq_true rfl, Nat.le_of_ble_eq_true rfl⟩) ⟨ax_fbR, va_recv hK hP (ci := 11) (q0 := 0) rfl rfl, ax_prR hPc hKc hS hE⟩ rfl rfl hl.1 rfl (lv_room (Nat.le_of_ble_eq_true rfl)) dX7_clear_46 ⟨Nat.le_of_ble_eq_true rfl, Nat.le_of_ble_eq_true rfl⟩) hS (fun _ _ h9 => h9.elim) (fun _ h9 => h9.elim) (fun r_41 u_43  t H locs ht hvm hw_42 hB hz1 hk1 hS => ?_)
    have hP := ax_keep hP (fun _ h9 => h9) hk1
    refine ax_d (y := 0) hw_42 ?_
    refine ax_mmax hx hb (hml.trans hl.1.symm) hown (hts (.methodLink RX7 187 yJ9_max_eb370) (by decide +kernel)) (hts (.static yJ9_max_eb370) (by decide +kernel)) (hts (.initialized "java/lang/Math") (by decide +kernel)) (hts (.code yJ9_max_eb370 cJ9_max_eb370 4 (some .double)) (by decide +kernel)) (Nat.le_of_ble_eq_true rfl) (Nat.le_of_ble_eq_true rfl) (Nat.le_of_ble_eq_true rfl) (Nat.le_of_ble_eq_true rfl) dX7_clear_49 ?_
    refine lv_dstore_n (lv' := [(3, .double 0), (7, .int 5), (5, .double 0), (2, .ref r_10), (0, .ref y), (1, .int p0)]) hx hb dX7_clear_52 rfl hl (by decide) rfl (fun ls hl => ?_)
    refine lv_dload hx hb dX7_clear_53 (lv_at hl 2 rfl) ?_
    refine lv_aload_n hx hb dX7_clear_55 rfl (lv_at hl 4 rfl) ?_
    refine lv_iload hx hb dX7_clear_56 (lv_at hl 1 rfl) ?_
    refine lv_aload_n hx hb dX7_clear_58 rfl (lv_at hl 3 rfl) ?_
    have hPc := hP.sub (ws' := [(y, .inr (11, [.int 0, .ref ys, .ref yp, .int 0])), (ys, .inr (3, [.int 0, .ref (ta 4), .int 0])), (yp, .inr (3, [.int 0, .ref (ta 4), .int 0]))]) [0, 1, 2] rfl
    have hKc := hK.sub (tys' := []) [] rfl
    refine va_calld (va_runV (As := [.int 5, .ref r_10]) (rest := [.double 0]) ⟨hx, hb, hml, hown, hts⟩ (c_X7_value l dC dI y ys yp sa ta 0 5 r_10) (cwV 2 hts gX7_clear_X7_value rfl rfl rfl (by decide +kernel) ⟨Nat.le_of_ble_eq_true rfl, Nat.le_of_ble_eq_true rfl⟩) ⟨ax_fbR, va_recv hK hP (ci := 11) (q0 := 0) rfl rfl, ax_prR hPc hKc hS hE⟩ rfl rfl hl.1 rfl (lv_room (Nat.le_of_ble_eq_true rfl)) dX7_clear_59 ⟨Nat.le_of_ble_eq_true rfl, Nat.le_of_ble_eq_true rfl⟩) hS (fun _ _ h9 => h9.elim) (fun _ h9 => h9.elim) (fun r_44 u_46  t H locs ht hvm hw_45 hB hz1 hk1 hS => ?_)
    have hP := ax_keep hP (fun _ h9 => h9) hk1
    refine ax_d (y := 0) hw_45 ?_
    refine ax_mmin hx hb (hml.trans hl.1.symm) hown (hts (.methodLink RX7 191 yJ9_min_eb370) (by decide +kernel)) (hts (.static yJ9_min_eb370) (by decide +kernel)) (hts (.initialized "java/lang/Math") (by decide +kernel)) (hts (.code yJ9_min_eb370 cJ9_min_eb370 4 (some .double)) (by decide +kernel)) (Nat.le_of_ble_eq_true rfl) (Nat.le_of_ble_eq_true rfl) (Nat.le_of_ble_eq_true rfl) (Nat.le_of_ble_eq_true rfl) dX7_clear_62 ?_
    refine lv_dstore (lv' := [(5, .double 0), (3, .double 0), (7, .int 5), (2, .ref r_10), (0, .ref y), (1, .int p0)]) hx hb dX7_clear_65 hl (by decide) rfl (fun ls hl => ?_)
    refine lv_iinc (v := 6) (lv' := [(7, .int 6), (5, .double 0), (3, .double 0), (2, .ref r_10), (0, .ref y), (1, .int p0)]) hx hb dX7_clear_67 hl (k := 2) rfl (by decide) (by decide) rfl (fun ls hl => ?_)
    refine lv_goto (tgt := 34) hx hb dX7_clear_70 (by decide) ?_
    refine lv_iload hx hb dX7_clear_34 (lv_at hl 0 rfl) ?_
    refine lv_bipush (v := 8) hx hb dX7_clear_36 (by decide) ?_
    refine lv_icmp_ge (tgt := 73) hx hb dX7_clear_38 (by decide) (fun h9 => absurd h9 (by decide)) (fun _ => ?_)
    refine lv_dload_n hx hb dX7_clear_41 rfl (lv_at hl 2 rfl) ?_
    refine lv_aload_n hx hb dX7_clear_42 rfl (lv_at hl 4 rfl) ?_
    refine lv_iload hx hb dX7_clear_43 (lv_at hl 0 rfl) ?_
    refine lv_aload_n hx hb dX7_clear_45 rfl (lv_at hl 3 rfl) ?_
    have hPc := hP.sub (ws' := [(y, .inr (11, [.int 0, .ref ys, .ref yp, .int 0])), (ys, .inr (3, [.int 0, .ref (ta 4), .int 0])), (yp, .inr (3, [.int 0, .ref (ta 4), .int 0]))]) [0, 1, 2] rfl
    have hKc := hK.sub (tys' := []) [] rfl
    refine va_calld (va_runV (As := [.int 6, .ref r_10]) (rest := [.double 0]) ⟨hx, hb, hml, hown, hts⟩ (c_X7_value l dC dI y ys yp sa ta 0 6 r_10) (cwV 2 hts gX7_clear_X7_value rfl rfl rfl (by decide +kernel) ⟨Nat.le_of_ble_eq_true rfl, Nat.le_of_ble_eq_true rfl⟩) ⟨ax_fbR, va_recv hK hP (ci := 11) (q0 := 0) rfl rfl, ax_prR hPc hKc hS hE⟩ rfl rfl hl.1 rfl (lv_room (Nat.le_of_ble_eq_true rfl)) dX7_clear_46 ⟨Nat.le_of_ble_eq_true rfl, Nat.le_of_ble_eq_true rfl⟩) hS (fun _ _ h9 => h9.elim) (fun _ h9 => h9.elim) (fun r_47 u_49  t H locs ht hvm hw_48 hB hz1 hk1 hS => ?_)
    have hP := ax_keep hP (fun _ h9 => h9) hk1
    refine ax_d (y := 0) hw_48 ?_
    refine ax_mmax hx hb (hml.trans hl.1.symm) hown (hts (.methodLink RX7 187 yJ9_max_eb370) (by decide +kernel)) (hts (.static yJ9_max_eb370) (by decide +kernel)) (hts (.initialized "java/lang/Math") (by decide +kernel)) (hts (.code yJ9_max_eb370 cJ9_max_eb370 4 (some .double)) (by decide +kernel)) (Nat.le_of_ble_eq_true rfl) (Nat.le_of_ble_eq_true rfl) (Nat.le_of_ble_eq_true rfl) (Nat.le_of_ble_eq_true rfl) dX7_clear_49 ?_
    refine lv_dstore_n (lv' := [(3, .double 0), (7, .int 6), (5, .double 0), (2, .ref r_10), (0, .ref y), (1, .int p0)]) hx hb dX7_clear_52 rfl hl (by decide) rfl (fun ls hl => ?_)
    refine lv_dload hx hb dX7_clear_53 (lv_at hl 2 rfl) ?_
    refine lv_aload_n hx hb dX7_clear_55 rfl (lv_at hl 4 rfl) ?_
    refine lv_iload hx hb dX7_clear_56 (lv_at hl 1 rfl) ?_
    refine lv_aload_n hx hb dX7_clear_58 rfl (lv_at hl 3 rfl) ?_
    have hPc := hP.sub (ws' := [(y, .inr (11, [.int 0, .ref ys, .ref yp, .int 0])), (ys, .inr (3, [.int 0, .ref (ta 4), .int 0])), (yp, .inr (3, [.int 0, .ref (ta 4), .int 0]))]) [0, 1, 2] rfl
    have hKc := hK.sub (tys' := []) [] rfl
    refine va_calld (va_runV (As := [.int 6, .ref r_10]) (rest := [.double 0]) ⟨hx, hb, hml, hown, hts⟩ (c_X7_value l dC dI y ys yp sa ta 0 6 r_10) (cwV 2 hts gX7_clear_X7_value rfl rfl rfl (by decide +kernel) ⟨Nat.le_of_ble_eq_true rfl, Nat.le_of_ble_eq_true rfl⟩) ⟨ax_fbR, va_recv hK hP (ci := 11) (q0 := 0) rfl rfl, ax_prR hPc hKc hS hE⟩ rfl rfl hl.1 rfl (lv_room (Nat.le_of_ble_eq_true rfl)) dX7_clear_59 ⟨Nat.le_of_ble_eq_true rfl, Nat.le_of_ble_eq_true rfl⟩) hS (fun _ _ h9 => h9.elim) (fun _ h9 => h9.elim) (fun r_50 u_52  t H locs ht hvm hw_51 hB hz1 hk1 hS => ?_)
    have hP := ax_keep hP (fun _ h9 => h9) hk1
    refine ax_d (y := 0) hw_51 ?_
    refine ax_mmin hx hb (hml.trans hl.1.symm) hown (hts (.methodLink RX7 191 yJ9_min_eb370) (by decide +kernel)) (hts (.static yJ9_min_eb370) (by decide +kernel)) (hts (.initialized "java/lang/Math") (by decide +kernel)) (hts (.code yJ9_min_eb370 cJ9_min_eb370 4 (some .double)) (by decide +kernel)) (Nat.le_of_ble_eq_true rfl) (Nat.le_of_ble_eq_true rfl) (Nat.le_of_ble_eq_true rfl) (Nat.le_of_ble_eq_true rfl) dX7_clear_62 ?_
    refine lv_dstore (lv' := [(5, .double 0), (3, .double 0), (7, .int 6), (2, .ref r_10), (0, .ref y), (1, .int p0)]) hx hb dX7_clear_65 hl (by decide) rfl (fun ls hl => ?_)
    refine lv_iinc (v := 7) (lv' := [(7, .int 7), (5, .double 0), (3, .double 0), (2, .ref r_10), (0, .ref y), (1, .int p0)]) hx hb dX7_clear_67 hl (k := 2) rfl (by decide) (by decide) rfl (fun ls hl => ?_)
    refine lv_goto (tgt := 34) hx hb dX7_clear_70 (by decide) ?_
    refine lv_iload hx hb dX7_clear_34 (lv_at hl 0 rfl) ?_
    refine lv_bipush (v := 8) hx hb dX7_clear_36 (by decide) ?_
    refine lv_icmp_ge (tgt := 73) hx hb dX7_clear_38 (by decide) (fun h9 => absurd h9 (by decide)) (fun _ => ?_)
    refine lv_dload_n hx hb dX7_clear_41 rfl (lv_at hl 2 rfl) ?_
    refine lv_aload_n hx hb dX7_clear_42 rfl (lv_at hl 4 rfl) ?_
    refine lv_iload hx hb dX7_clear_43 (lv_at hl 0 rfl) ?_
    refine lv_aload_n hx hb dX7_clear_45 rfl (lv_at hl 3 rfl) ?_
    have hPc := hP.sub (ws' := [(y, .inr (11, [.int 0, .ref ys, .ref yp, .int 0])), (ys, .inr (3, [.int 0, .ref (ta 4), .int 0])), (yp, .inr (3, [.int 0, .ref (ta 4), .int 0]))]) [0, 1, 2] rfl
    have hKc := hK.sub (tys' := []) [] rfl
    refine va_calld (va_runV (As := [.int 7, .ref r_10]) (rest := [.double 0]) ⟨hx, hb, hml, hown, hts⟩ (c_X7_value l dC dI y ys yp sa ta 0 7 r_10) (cwV 2 hts gX7_clear_X7_value rfl rfl rfl (by decide +kernel) ⟨Nat.le_of_ble_eq_true rfl, Nat.le_of_ble_eq_true rfl⟩) ⟨ax_fbR, va_recv hK hP (ci := 11) (q0 := 0) rfl rfl, ax_prR hPc hKc hS hE⟩ rfl rfl hl.1 rfl (lv_room (Nat.le_of_ble_eq_true rfl)) dX7_clear_46 ⟨Nat.le_of_ble_eq_true rfl, Nat.le_of_ble_eq_true rfl⟩) hS (fun _ _ h9 => h9.elim) (fun _ h9 => h9.elim) (fun r_53 u_55  t H locs ht hvm hw_54 hB hz1 hk1 hS => ?_)
    have hP := ax_keep hP (fun _ h9 => h9) hk1
    refine ax_d (y := 0) hw_54 ?_
    refine ax_mmax hx hb (hml.trans hl.1.symm) hown (hts (.methodLink RX7 187 yJ9_max_eb370) (by decide +kernel)) (hts (.static yJ9_max_eb370) (by decide +kernel)) (hts (.initialized "java/lang/Math") (by decide +kernel)) (hts (.code yJ9_max_eb370 cJ9_max_eb370 4 (some .double)) (by decide +kernel)) (Nat.le_of_ble_eq_true rfl) (Nat.le_of_ble_eq_true rfl) (Nat.le_of_ble_eq_true rfl) (Nat.le_of_ble_eq_true rfl) dX7_clear_49 ?_
    refine lv_dstore_n (lv' := [(3, .double 0), (7, .int 7), (5, .double 0), (2, .ref r_10), (0, .ref y), (1, .int p0)]) hx hb dX7_clear_52 rfl hl (by decide) rfl (fun ls hl => ?_)
    refine lv_dload hx hb dX7_clear_53 (lv_at hl 2 rfl) ?_
    refine lv_aload_n hx hb dX7_clear_55 rfl (lv_at hl 4 rfl) ?_
    refine lv_iload hx hb dX7_clear_56 (lv_at hl 1 rfl) ?_
    refine lv_aload_n hx hb dX7_clear_58 rfl (lv_at hl 3 rfl) ?_
    have hPc := hP.sub (ws' := [(y, .inr (11, [.int 0, .ref ys, .ref yp, .int 0])), (ys, .inr (3, [.int 0, .ref (ta 4), .int 0])), (yp, .inr (3, [.int 0, .ref (ta 4), .int 0]))]) [0, 1, 2] rfl
    have hKc := hK.sub (tys' := []) [] rfl
    refine va_calld (va_runV (As := [.int 7, .ref r_10]) (rest := [.double 0]) ⟨hx, hb, hml, hown, hts⟩ (c_X7_value l dC dI y ys yp sa ta 0 7 r_10) (cwV 2 hts gX7_clear_X7_value rfl rfl rfl (by decide +kernel) ⟨Nat.le_of_ble_eq_true rfl, Nat.le_of_ble_eq_true rfl⟩) ⟨ax_fbR, va_recv hK hP (ci := 11) (q0 := 0) rfl rfl, ax_prR hPc hKc hS hE⟩ rfl rfl hl.1 rfl (lv_room (Nat.le_of_ble_eq_true rfl)) dX7_clear_59 ⟨Nat.le_of_ble_eq_true rfl, Nat.le_of_ble_eq_true rfl⟩) hS (fun _ _ h9 => h9.elim) (fun _ h9 => h9.elim) (fun r_56 u_58  t H locs ht hvm hw_57 hB hz1 hk1 hS => ?_)
    have hP := ax_keep hP (fun _ h9 => h9) hk1
    refine ax_d (y := 0) hw_57 ?_
    refine ax_mmin hx hb (hml.trans hl.1.symm) hown (hts (.methodLink RX7 191 yJ9_min_eb370) (by decide +kernel)) (hts (.static yJ9_min_eb370) (by decide +kernel)) (hts (.initialized "java/lang/Math") (by decide +kernel)) (hts (.code yJ9_min_eb370 cJ9_min_eb370 4 (some .double)) (by decide +kernel)) (Nat.le_of_ble_eq_true rfl) (Nat.le_of_ble_eq_true rfl) (Nat.le_of_ble_eq_true rfl) (Nat.le_of_ble_eq_true rfl) dX7_clear_62 ?_
    refine lv_dstore (lv' := [(5, .double 0), (3, .double 0), (7, .int 7), (2, .ref r_10), (0, .ref y), (1, .int p0)]) hx hb dX7_clear_65 hl (by decide) rfl (fun ls hl => ?_)
    refine lv_iinc (v := 8) (lv' := [(7, .int 8), (5, .double 0), (3, .double 0), (2, .ref r_10), (0, .ref y), (1, .int p0)]) hx hb dX7_clear_67 hl (k := 2) rfl (by decide) (by decide) rfl (fun ls hl => ?_)
    refine lv_goto (tgt := 34) hx hb dX7_clear_70 (by decide) ?_
    refine lv_iload hx hb dX7_clear_34 (lv_at hl 0 rfl) ?_
    refine lv_bipush (v := 8) hx hb dX7_clear_36 (by decide) ?_
    refine lv_icmp_ge (tgt := 73) hx hb dX7_clear_38 (by decide) (fun _ => ?_) (fun h9 => absurd (by decide) h9)
    refine lv_dconst0 hx hb dX7_clear_73 ?_
    refine ax_d (y := 0) (by decide +kernel) ?_
    refine lv_dload_n hx hb dX7_clear_74 rfl (lv_at hl 2 rfl) ?_
    refine ax_mmax hx hb (hml.trans hl.1.symm) hown (hts (.methodLink RX7 187 yJ9_max_eb370) (by decide +kernel)) (hts (.static yJ9_max_eb370) (by decide +kernel)) (hts (.initialized "java/lang/Math") (by decide +kernel)) (hts (.code yJ9_max_eb370 cJ9_max_eb370 4 (some .double)) (by decide +kernel)) (Nat.le_of_ble_eq_true rfl) (Nat.le_of_ble_eq_true rfl) (Nat.le_of_ble_eq_true rfl) (Nat.le_of_ble_eq_true rfl) dX7_clear_75 ?_
    refine lv_dstore_n (lv' := [(3, .double 0), (7, .int 8), (5, .double 0), (2, .ref r_10), (0, .ref y), (1, .int p0)]) hx hb dX7_clear_78 rfl hl (by decide) rfl (fun ls hl => ?_)
    refine lv_dconst0 hx hb dX7_clear_79 ?_
    refine ax_d (y := 0) (by decide +kernel) ?_
    refine lv_dload hx hb dX7_clear_80 (lv_at hl 2 rfl) ?_
    refine ax_mmax hx hb (hml.trans hl.1.symm) hown (hts (.methodLink RX7 187 yJ9_max_eb370) (by decide +kernel)) (hts (.static yJ9_max_eb370) (by decide +kernel)) (hts (.initialized "java/lang/Math") (by decide +kernel)) (hts (.code yJ9_max_eb370 cJ9_max_eb370 4 (some .double)) (by decide +kernel)) (Nat.le_of_ble_eq_true rfl) (Nat.le_of_ble_eq_true rfl) (Nat.le_of_ble_eq_true rfl) (Nat.le_of_ble_eq_true rfl) dX7_clear_82 ?_
    refine lv_dstore (lv' := [(5, .double 0), (3, .double 0), (7, .int 8), (2, .ref r_10), (0, .ref y), (1, .int p0)]) hx hb dX7_clear_85 hl (by decide) rfl (fun ls hl => ?_)
    refine lv_dload_n hx hb dX7_clear_87 rfl (lv_at hl 1 rfl) ?_
    refine lv_dload hx hb dX7_clear_88 (lv_at hl 0 rfl) ?_
    refine lv_dadd hx hb dX7_clear_90 (by unfold vf_n64; decide +kernel) ?_
    refine ax_d (y := 0) (by decide +kernel) ?_
    refine lv_dconst0 hx hb dX7_clear_91 ?_
    refine ax_d (y := 0) (by decide +kernel) ?_
    refine lv_dcmp hx hb dX7_clear_92 ?_
    refine ax_i (y := 0) (by decide +kernel) ?_
    refine lv_if_le (tgt := 108) hx hb dX7_clear_93 (by decide) (fun _ => ?_) (fun h9 => absurd (by decide) h9)
    refine lv_dconst0 hx hb dX7_clear_108 ?_
    refine ax_d (y := 0) (by decide +kernel) ?_
    refine W.widen (k := 2) (n := 4) (Nat.le_of_ble_eq_true rfl) (Nat.le_of_ble_eq_true rfl) ?_
    have hP9 := hP.sub (ws' := [(y, .inr (11, [.int 0, .ref ys, .ref yp, .int 0]))]) [0] rfl
    have hD9 := hD.sub (ws' := [(y, .inr (11, [.int 0, .ref ys, .ref yp, .int 0]))]) [0] (by decide) rfl
    have hK9 := hK.sub (tys' := []) [] rfl
    exact W.dret (v := 0) hx hb hr (fun t ht hW => ⟨⟨0, 0, rfl, Or.inl ⟨by omega, rfl, rfl⟩, by rw [ht]; exact hP9, va_K.moved hW.alike hK9, hD9⟩, hS.F ht⟩) hS.2.2 dX7_clear_109

set_option maxHeartbeats 4000000 in
set_option maxRecDepth 100000 in
theorem c_X7_tenths (l : Launch) (dC : Nat → ClassId) (dI : Nat → Nat → Nat) (y ys yp : Nat) (sa ta : Nat → Nat) (sz : Nat) (th : Int32) (p0 : Int32) (p1 : Int32) : Met l yX7_tenths wsX7_tenths ({ frames := 40, cells := 2, slots := 4, locals := 1000 }) (va_Pc [.ref y, .int p0, .int p1] (ax_W (dC, dI) vwCl [(y, .inr (11, [.int th, .ref ys, .ref yp, .int 0])), (ys, .inr (3, [.int 0, .ref (ta 4), .int 0])), (yp, .inr (3, [.int 0, .ref (ta 4), .int 0]))] [] sa ta sz)) (va_Qd (fun (r : UInt64) (u : Int32) => ((p0.toInt = -1 ∧ (0 ≤ p1.toInt ∧ p1.toInt ≤ 7)) ∧ u = 0 ∧ r = 0) ∨ (¬ ((p0.toInt = -1 ∧ (0 ≤ p1.toInt ∧ p1.toInt ≤ 7))) ∧ u = 1)) (fun (u : Int32) (t : State) => va_P (dC, dI) vwCl [(y, .inr (11, [.int u, .ref ys, .ref yp, .int 0]))] t.heap ∧ va_K (dC, dI) vwCl [] t ∧ va_D (va_A [(y, .inr (11, [.int th, .ref ys, .ref yp, .int 0])), (ys, .inr (3, [.int 0, .ref (ta 4), .int 0])), (yp, .inr (3, [.int 0, .ref (ta 4), .int 0]))] sz) [(y, .inr (11, [.int u, .ref ys, .ref yp, .int 0]))]) (va_A [(y, .inr (11, [.int th, .ref ys, .ref yp, .int 0])), (ys, .inr (3, [.int 0, .ref (ta 4), .int 0])), (yp, .inr (3, [.int 0, .ref (ta 4), .int 0]))] sz)) 2 4 (va_A [(y, .inr (11, [.int th, .ref ys, .ref yp, .int 0])), (ys, .inr (3, [.int 0, .ref (ta 4), .int 0])), (yp, .inr (3, [.int 0, .ref (ta 4), .int 0]))] sz) := by
  refine Met.ofW (cc := cX7_tenths) (maxL := 6) (ret := (some .double)) (by decide) rfl ?_
  intro p e s m args below meth c s₁ B hml hv
  obtain ⟨rfl, hsz, hP, hK, hD0, hE⟩ := hv
  have hx := B.exec
  have hb := B.bytes
  have hr := B.returns
  have hts := atoms_spec (ws := wsX7_tenths) B.pre
  have hown : s.vm.findClass RX7 = some m.cls := findClass_of_methodNamed B.named
  have hlocks := B.notSynchronized
  subst hsz
  have hD := hD0.self (sz := s.heap.size)
  generalize hAe : va_A [(y, .inr (11, [.int th, .ref ys, .ref yp, .int 0])), (ys, .inr (3, [.int 0, .ref (ta 4), .int 0])), (yp, .inr (3, [.int 0, .ref (ta 4), .int 0]))] s.heap.size = A at hD hE ⊢
  have hA : ∀ q : Nat, s.heap.size ≤ q → A q := fun q h => by rw [← hAe]; exact Or.inr h
  have hS : va_S A s.heap s.heap [] := va_S.rf
  have hl := lv_entry ([.ref y, .int p0, .int p1]) (n := 6) (Nat.le_of_ble_eq_true rfl)
  rw [lg_entry_eq]
  generalize (lg_sl ([.ref y, .int p0, .int p1]) ++ List.replicate (6 - (lg_sl ([.ref y, .int p0, .int p1])).length) Slot.unset).toArray = ls at hl ⊢
  have hl : lv_has ls 6 [(0, .ref y), (1, .int p0), (2, .int p1)] := hl
  have hP : va_P (dC, dI) vwCl [(y, .inr (11, [.int th, .ref ys, .ref yp, .int 0])), (ys, .inr (3, [.int 0, .ref (ta 4), .int 0])), (yp, .inr (3, [.int 0, .ref (ta 4), .int 0]))] s.heap := hP
  refine lv_aload_n hx hb dX7_tenths_0 rfl (lv_at hl 0 rfl) ?_
  refine lv_aload_n hx hb dX7_tenths_1 rfl (lv_at hl 0 rfl) ?_
  refine lv_iload_n hx hb dX7_tenths_2 rfl (lv_at hl 1 rfl) ?_
  have hPc := hP.sub (ws' := [(y, .inr (11, [.int th, .ref ys, .ref yp, .int 0])), (ys, .inr (3, [.int 0, .ref (ta 4), .int 0])), (yp, .inr (3, [.int 0, .ref (ta 4), .int 0]))]) [0, 1, 2] rfl
  have hKc := hK.sub (tys' := []) [] rfl
  refine va_calli (va_runV (As := [.int p0]) (rest := [.ref y]) ⟨hx, hb, hml, hown, hts⟩ (c_X7_isNowhere l dC dI y ys yp sa ta th p0) (cwV 1 hts gX7_tenths_X7_isNowhere rfl rfl rfl (by decide +kernel) ⟨Nat.le_of_ble_eq_true rfl, Nat.le_of_ble_eq_true rfl⟩) ⟨ax_fbR, va_recv hK hP (ci := 11) (q0 := 0) rfl rfl, ax_prR hPc hKc hS hE⟩ rfl rfl hl.1 rfl (lv_room (Nat.le_of_ble_eq_true rfl)) dX7_tenths_3 ⟨Nat.le_of_ble_eq_true rfl, Nat.le_of_ble_eq_true rfl⟩) hS (fun _ _ h9 => h9.elim) (fun _ h9 => h9.elim) (fun r_1 u_3  t H locs ht hvm hw_2 hB hz1 hk1 hS => ?_)
  have hP := ax_keep hP (fun _ h9 => h9) hk1
  rcases hw_2 with ⟨hr9, hw_2⟩ | ⟨hr9, hw_2⟩
  · refine ax_i hr9 ?_
    refine lv_if_ne (tgt := 16) hx hb dX7_tenths_6 (by decide) (fun _ => ?_) (fun h9 => absurd h9 (by decide))
    refine lv_iconst (v := 1) hx hb dX7_tenths_16 (by decide) ?_
    refine lv_goto (tgt := 21) hx hb dX7_tenths_17 (by decide) ?_
    refine lv_iconst (v := 1) hx hb dX7_tenths_21 (by decide) ?_
    have hPc := hP.sub (ws' := [(y, .inr (11, [.int th, .ref ys, .ref yp, .int 0])), (ys, .inr (3, [.int 0, .ref (ta 4), .int 0])), (yp, .inr (3, [.int 0, .ref (ta 4), .int 0]))]) [0, 1, 2] rfl
    have hKc := hK.sub (tys' := []) [] rfl
    have hDc := hD.sub (ws' := [(y, .inr (11, [.int th, .ref ys, .ref yp, .int 0])), (ys, .inr (3, [.int 0, .ref (ta 4), .int 0])), (yp, .inr (3, [.int 0, .ref (ta 4), .int 0]))]) [0, 1, 2] (by decide) rfl
    have hFc := va_free (wc := [(y, .inr (11, [.int th, .ref ys, .ref yp, .int 0])), (ys, .inr (3, [.int 0, .ref (ta 4), .int 0])), (yp, .inr (3, [.int 0, .ref (ta 4), .int 0]))]) hD hS hA [0, 1, 2] rfl
    refine va_calli (va_runV (As := [.int 1, .int 1]) (rest := []) ⟨hx, hb, hml, hown, hts⟩ (c_X7_start_1 l dC dI y ys yp sa ta H.size th) (cwV 2 hts gX7_tenths_X7_start rfl rfl rfl (by decide +kernel) ⟨Nat.le_of_ble_eq_true rfl, Nat.le_of_ble_eq_true rfl⟩) ⟨ax_fbW, va_recv hK hP (ci := 11) (q0 := 0) rfl rfl, ax_prW hPc hKc hDc hS hFc hE⟩ rfl rfl hl.1 rfl (lv_room (Nat.le_of_ble_eq_true rfl)) dX7_tenths_22 ⟨Nat.le_of_ble_eq_true rfl, Nat.le_of_ble_eq_true rfl⟩) hS (fun q _ h9 => hFc q h9) hFc (fun r_4 u_6  t H locs ht hvm hw_5 hB hz1 hk1 hS => ?_)
    obtain ⟨hP1, hK1, hD1⟩ := hB
    rw [ht] at hP1
    have hK1 := va_K.moved hvm.symm hK1
    obtain ⟨hP, hD⟩ := va_join (wr := []) (w1 := [(y, .inr (11, [.int 1, .ref ys, .ref yp, .int 0])), (ys, .inr (3, [.int 0, .ref (ta 4), .int 0])), (yp, .inr (3, [.int 0, .ref (ta 4), .int 0]))]) hP hD [0, 1, 2] [] rfl rfl (by decide) (by decide) hk1 hFc hP1 hD1
    have hP : va_P (dC, dI) vwCl [(y, .inr (11, [.int 1, .ref ys, .ref yp, .int 0])), (ys, .inr (3, [.int 0, .ref (ta 4), .int 0])), (yp, .inr (3, [.int 0, .ref (ta 4), .int 0]))] H := hP
    have hD : va_D A [(y, .inr (11, [.int 1, .ref ys, .ref yp, .int 0])), (ys, .inr (3, [.int 0, .ref (ta 4), .int 0])), (yp, .inr (3, [.int 0, .ref (ta 4), .int 0]))] := hD
    refine ax_i (y := 1) hw_5 ?_
    refine lv_if_eq (tgt := 30) hx hb dX7_tenths_25 (by decide) (fun h9 => absurd h9 (by decide)) (fun _ => ?_)
    refine lv_dconst0 hx hb dX7_tenths_28 ?_
    refine ax_d (y := 0) (by decide +kernel) ?_
    refine W.widen (k := 2) (n := 4) (Nat.le_of_ble_eq_true rfl) (Nat.le_of_ble_eq_true rfl) ?_
    have hP9 := hP.sub (ws' := [(y, .inr (11, [.int 1, .ref ys, .ref yp, .int 0]))]) [0] rfl
    have hD9 := hD.sub (ws' := [(y, .inr (11, [.int 1, .ref ys, .ref yp, .int 0]))]) [0] (by decide) rfl
    have hK9 := hK.sub (tys' := []) [] rfl
    exact W.dret (v := 0) hx hb hr (fun t ht hW => ⟨⟨0, 1, rfl, Or.inr ⟨by omega, rfl⟩, by rw [ht]; exact hP9, va_K.moved hW.alike hK9, hD9⟩, hS.F ht⟩) hS.2.2 dX7_tenths_29
  · refine ax_i hr9 ?_
    refine lv_if_ne (tgt := 16) hx hb dX7_tenths_6 (by decide) (fun h9 => absurd rfl h9) (fun _ => ?_)
    refine lv_iload_n hx hb dX7_tenths_9 rfl (lv_at hl 2 rfl) ?_
    refine va_calli (va_runS (As := [.int p1]) (rest := [.ref y]) ⟨hx, hb, hml, hown, hts⟩ (c_X7_isNoPlace l p1) (va_cwS 1 hts gX7_tenths_X7_isNoPlace rfl rfl rfl (by decide +kernel) ⟨Nat.le_of_ble_eq_true rfl, Nat.le_of_ble_eq_true rfl⟩) ⟨ax_fbP, ax_prP⟩ rfl rfl hl.1 rfl (lv_room (Nat.le_of_ble_eq_true rfl)) dX7_tenths_10 ⟨Nat.le_of_ble_eq_true rfl, Nat.le_of_ble_eq_true rfl⟩) hS (fun _ _ h9 => h9.elim) (fun _ h9 => h9.elim) (fun r_7 u_9  t H locs ht hvm hw_8 hB hz1 hk1 hS => ?_)
    have hP := ax_keep hP (fun _ h9 => h9) hk1
    rcases hw_8 with ⟨hr9, hw_8⟩ | ⟨hr9, hw_8⟩
    · refine ax_i hr9 ?_
      refine lv_if_eq (tgt := 20) hx hb dX7_tenths_13 (by decide) (fun h9 => absurd h9 (by decide)) (fun _ => ?_)
      refine lv_iconst (v := 1) hx hb dX7_tenths_16 (by decide) ?_
      refine lv_goto (tgt := 21) hx hb dX7_tenths_17 (by decide) ?_
      refine lv_iconst (v := 1) hx hb dX7_tenths_21 (by decide) ?_
      have hPc := hP.sub (ws' := [(y, .inr (11, [.int th, .ref ys, .ref yp, .int 0])), (ys, .inr (3, [.int 0, .ref (ta 4), .int 0])), (yp, .inr (3, [.int 0, .ref (ta 4), .int 0]))]) [0, 1, 2] rfl
      have hKc := hK.sub (tys' := []) [] rfl
      have hDc := hD.sub (ws' := [(y, .inr (11, [.int th, .ref ys, .ref yp, .int 0])), (ys, .inr (3, [.int 0, .ref (ta 4), .int 0])), (yp, .inr (3, [.int 0, .ref (ta 4), .int 0]))]) [0, 1, 2] (by decide) rfl
      have hFc := va_free (wc := [(y, .inr (11, [.int th, .ref ys, .ref yp, .int 0])), (ys, .inr (3, [.int 0, .ref (ta 4), .int 0])), (yp, .inr (3, [.int 0, .ref (ta 4), .int 0]))]) hD hS hA [0, 1, 2] rfl
      refine va_calli (va_runV (As := [.int 1, .int 1]) (rest := []) ⟨hx, hb, hml, hown, hts⟩ (c_X7_start_1 l dC dI y ys yp sa ta H.size th) (cwV 2 hts gX7_tenths_X7_start rfl rfl rfl (by decide +kernel) ⟨Nat.le_of_ble_eq_true rfl, Nat.le_of_ble_eq_true rfl⟩) ⟨ax_fbW, va_recv hK hP (ci := 11) (q0 := 0) rfl rfl, ax_prW hPc hKc hDc hS hFc hE⟩ rfl rfl hl.1 rfl (lv_room (Nat.le_of_ble_eq_true rfl)) dX7_tenths_22 ⟨Nat.le_of_ble_eq_true rfl, Nat.le_of_ble_eq_true rfl⟩) hS (fun q _ h9 => hFc q h9) hFc (fun r_10 u_12  t H locs ht hvm hw_11 hB hz1 hk1 hS => ?_)
      obtain ⟨hP1, hK1, hD1⟩ := hB
      rw [ht] at hP1
      have hK1 := va_K.moved hvm.symm hK1
      obtain ⟨hP, hD⟩ := va_join (wr := []) (w1 := [(y, .inr (11, [.int 1, .ref ys, .ref yp, .int 0])), (ys, .inr (3, [.int 0, .ref (ta 4), .int 0])), (yp, .inr (3, [.int 0, .ref (ta 4), .int 0]))]) hP hD [0, 1, 2] [] rfl rfl (by decide) (by decide) hk1 hFc hP1 hD1
      have hP : va_P (dC, dI) vwCl [(y, .inr (11, [.int 1, .ref ys, .ref yp, .int 0])), (ys, .inr (3, [.int 0, .ref (ta 4), .int 0])), (yp, .inr (3, [.int 0, .ref (ta 4), .int 0]))] H := hP
      have hD : va_D A [(y, .inr (11, [.int 1, .ref ys, .ref yp, .int 0])), (ys, .inr (3, [.int 0, .ref (ta 4), .int 0])), (yp, .inr (3, [.int 0, .ref (ta 4), .int 0]))] := hD
      refine ax_i (y := 1) hw_11 ?_
      refine lv_if_eq (tgt := 30) hx hb dX7_tenths_25 (by decide) (fun h9 => absurd h9 (by decide)) (fun _ => ?_)
      refine lv_dconst0 hx hb dX7_tenths_28 ?_
      refine ax_d (y := 0) (by decide +kernel) ?_
      refine W.widen (k := 2) (n := 4) (Nat.le_of_ble_eq_true rfl) (Nat.le_of_ble_eq_true rfl) ?_
      have hP9 := hP.sub (ws' := [(y, .inr (11, [.int 1, .ref ys, .ref yp, .int 0]))]) [0] rfl
      have hD9 := hD.sub (ws' := [(y, .inr (11, [.int 1, .ref ys, .ref yp, .int 0]))]) [0] (by decide) rfl
      have hK9 := hK.sub (tys' := []) [] rfl
      exact W.dret (v := 0) hx hb hr (fun t ht hW => ⟨⟨0, 1, rfl, Or.inr ⟨by omega, rfl⟩, by rw [ht]; exact hP9, va_K.moved hW.alike hK9, hD9⟩, hS.F ht⟩) hS.2.2 dX7_tenths_29
    · refine ax_i hr9 ?_
      refine lv_if_eq (tgt := 20) hx hb dX7_tenths_13 (by decide) (fun _ => ?_) (fun h9 => absurd (by decide) h9)
      refine lv_iconst (v := 0) hx hb dX7_tenths_20 (by decide) ?_
      refine lv_iconst (v := 1) hx hb dX7_tenths_21 (by decide) ?_
      have hPc := hP.sub (ws' := [(y, .inr (11, [.int th, .ref ys, .ref yp, .int 0])), (ys, .inr (3, [.int 0, .ref (ta 4), .int 0])), (yp, .inr (3, [.int 0, .ref (ta 4), .int 0]))]) [0, 1, 2] rfl
      have hKc := hK.sub (tys' := []) [] rfl
      have hDc := hD.sub (ws' := [(y, .inr (11, [.int th, .ref ys, .ref yp, .int 0])), (ys, .inr (3, [.int 0, .ref (ta 4), .int 0])), (yp, .inr (3, [.int 0, .ref (ta 4), .int 0]))]) [0, 1, 2] (by decide) rfl
      have hFc := va_free (wc := [(y, .inr (11, [.int th, .ref ys, .ref yp, .int 0])), (ys, .inr (3, [.int 0, .ref (ta 4), .int 0])), (yp, .inr (3, [.int 0, .ref (ta 4), .int 0]))]) hD hS hA [0, 1, 2] rfl
      refine va_calli (va_runV (As := [.int 0, .int 1]) (rest := []) ⟨hx, hb, hml, hown, hts⟩ (c_X7_start_0 l dC dI y ys yp sa ta H.size th) (cwV 2 hts gX7_tenths_X7_start rfl rfl rfl (by decide +kernel) ⟨Nat.le_of_ble_eq_true rfl, Nat.le_of_ble_eq_true rfl⟩) ⟨ax_fbW, va_recv hK hP (ci := 11) (q0 := 0) rfl rfl, ax_prW hPc hKc hDc hS hFc hE⟩ rfl rfl hl.1 rfl (lv_room (Nat.le_of_ble_eq_true rfl)) dX7_tenths_22 ⟨Nat.le_of_ble_eq_true rfl, Nat.le_of_ble_eq_true rfl⟩) hS (fun q _ h9 => hFc q h9) hFc (fun r_13 u_15  t H locs ht hvm hw_14 hB hz1 hk1 hS => ?_)
      obtain ⟨hP1, hK1, hD1⟩ := hB
      rw [ht] at hP1
      have hK1 := va_K.moved hvm.symm hK1
      obtain ⟨hP, hD⟩ := va_join (wr := []) (w1 := [(y, .inr (11, [.int 0, .ref ys, .ref yp, .int 0])), (ys, .inr (3, [.int 0, .ref (ta 4), .int 0])), (yp, .inr (3, [.int 0, .ref (ta 4), .int 0]))]) hP hD [0, 1, 2] [] rfl rfl (by decide) (by decide) hk1 hFc hP1 hD1
      have hP : va_P (dC, dI) vwCl [(y, .inr (11, [.int 0, .ref ys, .ref yp, .int 0])), (ys, .inr (3, [.int 0, .ref (ta 4), .int 0])), (yp, .inr (3, [.int 0, .ref (ta 4), .int 0]))] H := hP
      have hD : va_D A [(y, .inr (11, [.int 0, .ref ys, .ref yp, .int 0])), (ys, .inr (3, [.int 0, .ref (ta 4), .int 0])), (yp, .inr (3, [.int 0, .ref (ta 4), .int 0]))] := hD
      refine ax_i (y := 0) hw_14 ?_
      refine lv_if_eq (tgt := 30) hx hb dX7_tenths_25 (by decide) (fun _ => ?_) (fun h9 => absurd (by decide) h9)
      refine lv_aload_n hx hb dX7_tenths_30 rfl (lv_at hl 0 rfl) ?_
      refine lv_iload_n hx hb dX7_tenths_31 rfl (lv_at hl 1 rfl) ?_
      have hPc := hP.sub (ws' := [(y, .inr (11, [.int 0, .ref ys, .ref yp, .int 0])), (ys, .inr (3, [.int 0, .ref (ta 4), .int 0])), (yp, .inr (3, [.int 0, .ref (ta 4), .int 0]))]) [0, 1, 2] rfl
      have hKc := hK.sub (tys' := []) [] rfl
      have hDc := hD.sub (ws' := [(y, .inr (11, [.int 0, .ref ys, .ref yp, .int 0])), (ys, .inr (3, [.int 0, .ref (ta 4), .int 0])), (yp, .inr (3, [.int 0, .ref (ta 4), .int 0]))]) [0, 1, 2] (by decide) rfl
      have hFc := va_free (wc := [(y, .inr (11, [.int 0, .ref ys, .ref yp, .int 0])), (ys, .inr (3, [.int 0, .ref (ta 4), .int 0])), (yp, .inr (3, [.int 0, .ref (ta 4), .int 0]))]) hD hS hA [0, 1, 2] rfl
      refine va_callr (va_runV (As := [.int p0]) (rest := []) ⟨hx, hb, hml, hown, hts⟩ (c_X7_behind_ l dC dI y ys yp sa ta H.size 0 p0 (by omega)) (cwV 1 hts gX7_tenths_X7_behind_ rfl rfl rfl (by decide +kernel) ⟨Nat.le_of_ble_eq_true rfl, Nat.le_of_ble_eq_true rfl⟩) ⟨ax_fbW, va_recv hK hP (ci := 11) (q0 := 0) rfl rfl, ax_prW hPc hKc hDc hS hFc hE⟩ rfl rfl hl.1 rfl (lv_room (Nat.le_of_ble_eq_true rfl)) dX7_tenths_32 ⟨Nat.le_of_ble_eq_true rfl, Nat.le_of_ble_eq_true rfl⟩) hS (fun q _ h9 => hFc q h9) hFc (fun u_18  r_16 t H locs ht hvm hw_17 hB hz1 hk1 hS => ?_)
      obtain ⟨qA_19, rfl⟩ : ∃ z, z = u_18 := ⟨_, rfl⟩
      obtain ⟨hP1, hK1, hD1⟩ := hB
      rw [ht] at hP1
      have hK1 := va_K.moved hvm.symm hK1
      obtain ⟨hP, hD⟩ := va_join (wr := []) (w1 := [(y, .inr (11, [.int 0, .ref ys, .ref yp, .int 0])), (ys, .inr (3, [.int 0, .ref (ta 4), .int 0])), (yp, .inr (3, [.int 0, .ref (ta 4), .int 0])), (r_16, .inl (qA_19, 0, .inr (.inl (fun _ => 0))))]) hP hD [0, 1, 2] [] rfl rfl (by decide) (by decide) hk1 hFc hP1 hD1
      have hK := hK.app hK1
      have hK := hK.sub (tys' := [(qA_19, .long)]) [0] rfl
      have hP : va_P (dC, dI) vwCl [(y, .inr (11, [.int 0, .ref ys, .ref yp, .int 0])), (ys, .inr (3, [.int 0, .ref (ta 4), .int 0])), (yp, .inr (3, [.int 0, .ref (ta 4), .int 0])), (r_16, .inl (qA_19, 0, .inr (.inl (fun _ => 0))))] H := hP
      have hD : va_D A [(y, .inr (11, [.int 0, .ref ys, .ref yp, .int 0])), (ys, .inr (3, [.int 0, .ref (ta 4), .int 0])), (yp, .inr (3, [.int 0, .ref (ta 4), .int 0])), (r_16, .inl (qA_19, 0, .inr (.inl (fun _ => 0))))] := hD
      refine lv_astore_n (lv' := [(3, .ref r_16), (0, .ref y), (1, .int p0), (2, .int p1)]) hx hb dX7_tenths_35 rfl hl (by decide) rfl (fun ls hl => ?_)
      refine lv_aload_n hx hb dX7_tenths_36 rfl (lv_at hl 1 rfl) ?_
      refine lv_aload_n hx hb dX7_tenths_37 rfl (lv_at hl 1 rfl) ?_
      refine lv_aload_n hx hb dX7_tenths_38 rfl (lv_at hl 0 rfl) ?_
      have hPc := hP.sub (ws' := [(y, .inr (11, [.int 0, .ref ys, .ref yp, .int 0])), (ys, .inr (3, [.int 0, .ref (ta 4), .int 0])), (yp, .inr (3, [.int 0, .ref (ta 4), .int 0]))]) [0, 1, 2] rfl
      have hKc := hK.sub (tys' := []) [] rfl
      refine va_calli (va_runV (As := [.ref r_16]) (rest := [.ref y]) ⟨hx, hb, hml, hown, hts⟩ (c_X7_brightest l dC dI y ys yp sa ta 0 r_16) (cwV 1 hts gX7_tenths_X7_brightest rfl rfl rfl (by decide +kernel) ⟨Nat.le_of_ble_eq_true rfl, Nat.le_of_ble_eq_true rfl⟩) ⟨ax_fbR, va_recv hK hP (ci := 11) (q0 := 0) rfl rfl, ax_prR hPc hKc hS hE⟩ rfl rfl hl.1 rfl (lv_room (Nat.le_of_ble_eq_true rfl)) dX7_tenths_39 ⟨Nat.le_of_ble_eq_true rfl, Nat.le_of_ble_eq_true rfl⟩) hS (fun _ _ h9 => h9.elim) (fun _ h9 => h9.elim) (fun r_20 u_22  t H locs ht hvm hw_21 hB hz1 hk1 hS => ?_)
      have hP := ax_keep hP (fun _ h9 => h9) hk1
      refine ax_i (y := 0) hw_21 ?_
      refine lv_aload_n hx hb dX7_tenths_42 rfl (lv_at hl 0 rfl) ?_
      have hPc := hP.sub (ws' := [(y, .inr (11, [.int 0, .ref ys, .ref yp, .int 0])), (ys, .inr (3, [.int 0, .ref (ta 4), .int 0])), (yp, .inr (3, [.int 0, .ref (ta 4), .int 0]))]) [0, 1, 2] rfl
      have hKc := hK.sub (tys' := []) [] rfl
      refine va_calld (va_runV (As := [.int 0, .ref r_16]) (rest := []) ⟨hx, hb, hml, hown, hts⟩ (c_X7_value l dC dI y ys yp sa ta 0 0 r_16) (cwV 2 hts gX7_tenths_X7_value rfl rfl rfl (by decide +kernel) ⟨Nat.le_of_ble_eq_true rfl, Nat.le_of_ble_eq_true rfl⟩) ⟨ax_fbR, va_recv hK hP (ci := 11) (q0 := 0) rfl rfl, ax_prR hPc hKc hS hE⟩ rfl rfl hl.1 rfl (lv_room (Nat.le_of_ble_eq_true rfl)) dX7_tenths_43 ⟨Nat.le_of_ble_eq_true rfl, Nat.le_of_ble_eq_true rfl⟩) hS (fun _ _ h9 => h9.elim) (fun _ h9 => h9.elim) (fun r_23 u_25  t H locs ht hvm hw_24 hB hz1 hk1 hS => ?_)
      have hP := ax_keep hP (fun _ h9 => h9) hk1
      refine ax_d (y := 0) hw_24 ?_
      refine lv_dstore (lv' := [(4, .double 0), (3, .ref r_16), (0, .ref y), (1, .int p0), (2, .int p1)]) hx hb dX7_tenths_46 hl (by decide) rfl (fun ls hl => ?_)
      refine lv_dload hx hb dX7_tenths_48 (lv_at hl 0 rfl) ?_
      refine lv_dconst0 hx hb dX7_tenths_50 ?_
      refine ax_d (y := 0) (by decide +kernel) ?_
      refine lv_dcmp hx hb dX7_tenths_51 ?_
      refine ax_i (y := 0) (by decide +kernel) ?_
      refine lv_if_le (tgt := 74) hx hb dX7_tenths_52 (by decide) (fun _ => ?_) (fun h9 => absurd (by decide) h9)
      refine lv_dconst0 hx hb dX7_tenths_74 ?_
      refine ax_d (y := 0) (by decide +kernel) ?_
      refine W.widen (k := 2) (n := 4) (Nat.le_of_ble_eq_true rfl) (Nat.le_of_ble_eq_true rfl) ?_
      have hP9 := hP.sub (ws' := [(y, .inr (11, [.int 0, .ref ys, .ref yp, .int 0]))]) [0] rfl
      have hD9 := hD.sub (ws' := [(y, .inr (11, [.int 0, .ref ys, .ref yp, .int 0]))]) [0] (by decide) rfl
      have hK9 := hK.sub (tys' := []) [] rfl
      exact W.dret (v := 0) hx hb hr (fun t ht hW => ⟨⟨0, 0, rfl, Or.inl ⟨by omega, rfl, rfl⟩, by rw [ht]; exact hP9, va_K.moved hW.alike hK9, hD9⟩, hS.F ht⟩) hS.2.2 dX7_tenths_75
