set_option maxHeartbeats 4000000 in
set_option maxRecDepth 100000 in
theorem c_L_source (l : Launch) (hlt : l.stackTraces = false) (dC : Nat → ClassId) (dI : Nat → Nat → Nat) (x xs xp xl xn xm xr xw xt o : Nat) (cS cP cn cm cw ct cO : ClassId) (sa ta : Nat → Nat) (sz : Nat) (p1 : Int32) (p2 : Int32) (p3 : Int32) : Met l yL_source wl_source ({ frames := 32, cells := 2, slots := 9, locals := 800 }) (va_Pc [.ref x, .int p1, .int p2, .int p3, .ref o] (ax_W (dC, dI) vwCl [(x, .inr (8, [.ref xs, .ref xp, .int 0, .int 0, .ref xl, .ref xr])), (xs, .inl (cS, 3, .inr (.inr (.inr (.inr (fun _ => none)))))), (xp, .inl (cP, 8, .inr (.inr (.inr (.inr (fun _ => none)))))), (xl, .inr (4, [.ref xn, .ref xm])), (xn, .inl (cn, 64, .inr (.inl (fun _ => 0)))), (xm, .inl (cm, 64, .inr (.inl (fun _ => 0)))), (xr, .inr (6, [.ref xw, .ref xt])), (xw, .inl (cw, 8, .inr (.inl (fun _ => 0)))), (xt, .inl (ct, 8, .inr (.inl (fun _ => 0)))), (o, .inl (cO, 1, .inr (.inl (fun _ => 0))))] [(cS, .object "Diffractory$Source"), (cP, .object "Diffractory$Part"), (cn, .long), (cm, .long), (cw, .long), (ct, .long), (cO, .long)] sa ta sz)) (va_Qi (fun (r : Int32) (u : Nat → Int64) => (((0 ≤ p1.toInt ∧ p1.toInt ≤ 7) ∧ (0 ≤ p2.toInt ∧ p2.toInt ≤ 7) ∧ (1 ≤ p3.toInt ∧ p3.toInt ≤ 9)) ∧ r = 0 ∧ u 0 = 0) ∨ (¬ ((0 ≤ p1.toInt ∧ p1.toInt ≤ 7) ∧ (0 ≤ p2.toInt ∧ p2.toInt ≤ 7) ∧ (1 ≤ p3.toInt ∧ p3.toInt ≤ 9)) ∧ r = 1)) (fun (u : Nat → Int64) (t : State) => va_P (dC, dI) vwCl [(o, .inl (cO, 1, .inr (.inl u)))] t.heap ∧ va_K (dC, dI) vwCl [(cO, .long)] t ∧ va_D (va_A [(x, .inr (8, [.ref xs, .ref xp, .int 0, .int 0, .ref xl, .ref xr])), (xs, .inl (cS, 3, .inr (.inr (.inr (.inr (fun _ => none)))))), (xp, .inl (cP, 8, .inr (.inr (.inr (.inr (fun _ => none)))))), (xl, .inr (4, [.ref xn, .ref xm])), (xn, .inl (cn, 64, .inr (.inl (fun _ => 0)))), (xm, .inl (cm, 64, .inr (.inl (fun _ => 0)))), (xr, .inr (6, [.ref xw, .ref xt])), (xw, .inl (cw, 8, .inr (.inl (fun _ => 0)))), (xt, .inl (ct, 8, .inr (.inl (fun _ => 0)))), (o, .inl (cO, 1, .inr (.inl (fun _ => 0))))] sz) [(o, .inl (cO, 1, .inr (.inl u)))]) (va_A [(x, .inr (8, [.ref xs, .ref xp, .int 0, .int 0, .ref xl, .ref xr])), (xs, .inl (cS, 3, .inr (.inr (.inr (.inr (fun _ => none)))))), (xp, .inl (cP, 8, .inr (.inr (.inr (.inr (fun _ => none)))))), (xl, .inr (4, [.ref xn, .ref xm])), (xn, .inl (cn, 64, .inr (.inl (fun _ => 0)))), (xm, .inl (cm, 64, .inr (.inl (fun _ => 0)))), (xr, .inr (6, [.ref xw, .ref xt])), (xw, .inl (cw, 8, .inr (.inl (fun _ => 0)))), (xt, .inl (ct, 8, .inr (.inl (fun _ => 0)))), (o, .inl (cO, 1, .inr (.inl (fun _ => 0))))] sz)) 2 9 (va_A [(x, .inr (8, [.ref xs, .ref xp, .int 0, .int 0, .ref xl, .ref xr])), (xs, .inl (cS, 3, .inr (.inr (.inr (.inr (fun _ => none)))))), (xp, .inl (cP, 8, .inr (.inr (.inr (.inr (fun _ => none)))))), (xl, .inr (4, [.ref xn, .ref xm])), (xn, .inl (cn, 64, .inr (.inl (fun _ => 0)))), (xm, .inl (cm, 64, .inr (.inl (fun _ => 0)))), (xr, .inr (6, [.ref xw, .ref xt])), (xw, .inl (cw, 8, .inr (.inl (fun _ => 0)))), (xt, .inl (ct, 8, .inr (.inl (fun _ => 0)))), (o, .inl (cO, 1, .inr (.inl (fun _ => 0))))] sz) := by
  refine ax_MetWH (cc := cL_source) (maxL := 6) (ret := (some .int)) (by decide) rfl ?_
  intro p e s m args below meth c s₁ B hml hv
  obtain ⟨rfl, hsz, hP, hK, hD0, hE⟩ := hv
  have hx := B.exec
  have hb := B.bytes
  have hr := B.returns
  have hts := atoms_spec (ws := wl_source) B.pre
  have hown : s.vm.findClass RL = some m.cls := findClass_of_methodNamed B.named
  have hlocks := B.notSynchronized
  have htab := vx_table (x := yL_source) B (hts _ List.mem_cons_self)
  subst hsz
  have hD := hD0.self (sz := s.heap.size)
  generalize hAe : va_A [(x, .inr (8, [.ref xs, .ref xp, .int 0, .int 0, .ref xl, .ref xr])), (xs, .inl (cS, 3, .inr (.inr (.inr (.inr (fun _ => none)))))), (xp, .inl (cP, 8, .inr (.inr (.inr (.inr (fun _ => none)))))), (xl, .inr (4, [.ref xn, .ref xm])), (xn, .inl (cn, 64, .inr (.inl (fun _ => 0)))), (xm, .inl (cm, 64, .inr (.inl (fun _ => 0)))), (xr, .inr (6, [.ref xw, .ref xt])), (xw, .inl (cw, 8, .inr (.inl (fun _ => 0)))), (xt, .inl (ct, 8, .inr (.inl (fun _ => 0)))), (o, .inl (cO, 1, .inr (.inl (fun _ => 0))))] s.heap.size = A at hD hE ⊢
  have hA : ∀ q : Nat, s.heap.size ≤ q → A q := fun q h => by rw [← hAe]; exact Or.inr h
  have hS : va_S A s.heap s.heap [] := va_S.rf
  have hl := lv_entry ([.ref x, .int p1, .int p2, .int p3, .ref o]) (n := 6) (Nat.le_of_ble_eq_true rfl)
  rw [lg_entry_eq]
  generalize (lg_sl ([.ref x, .int p1, .int p2, .int p3, .ref o]) ++ List.replicate (6 - (lg_sl ([.ref x, .int p1, .int p2, .int p3, .ref o])).length) Slot.unset).toArray = ls at hl ⊢
  have hl : lv_has ls 6 [(0, .ref x), (1, .int p1), (2, .int p2), (3, .int p3), (4, .ref o)] := hl
  have hP : va_P (dC, dI) vwCl [(x, .inr (8, [.ref xs, .ref xp, .int 0, .int 0, .ref xl, .ref xr])), (xs, .inl (cS, 3, .inr (.inr (.inr (.inr (fun _ => none)))))), (xp, .inl (cP, 8, .inr (.inr (.inr (.inr (fun _ => none)))))), (xl, .inr (4, [.ref xn, .ref xm])), (xn, .inl (cn, 64, .inr (.inl (fun _ => 0)))), (xm, .inl (cm, 64, .inr (.inl (fun _ => 0)))), (xr, .inr (6, [.ref xw, .ref xt])), (xw, .inl (cw, 8, .inr (.inl (fun _ => 0)))), (xt, .inl (ct, 8, .inr (.inl (fun _ => 0)))), (o, .inl (cO, 1, .inr (.inl (fun _ => 0))))] s.heap := hP
  refine lv_aload hx hb dL_source_0 (lv_at hl 4 rfl) ?_
  refine lv_iconst (v := 0) hx hb dL_source_2 (by decide) ?_
  refine lv_aload_n hx hb dL_source_3 rfl (lv_at hl 0 rfl) ?_
  refine lv_iload_n hx hb dL_source_4 rfl (lv_at hl 1 rfl) ?_
  refine lv_iload_n hx hb dL_source_5 rfl (lv_at hl 2 rfl) ?_
  refine lv_iload_n hx hb dL_source_6 rfl (lv_at hl 3 rfl) ?_
  have hPc := hP.sub (ws' := [(x, .inr (8, [.ref xs, .ref xp, .int 0, .int 0, .ref xl, .ref xr])), (xs, .inl (cS, 3, .inr (.inr (.inr (.inr (fun _ => none)))))), (xp, .inl (cP, 8, .inr (.inr (.inr (.inr (fun _ => none)))))), (xl, .inr (4, [.ref xn, .ref xm])), (xn, .inl (cn, 64, .inr (.inl (fun _ => 0)))), (xm, .inl (cm, 64, .inr (.inl (fun _ => 0)))), (xr, .inr (6, [.ref xw, .ref xt])), (xw, .inl (cw, 8, .inr (.inl (fun _ => 0)))), (xt, .inl (ct, 8, .inr (.inl (fun _ => 0))))]) [0, 1, 2, 3, 4, 5, 6, 7, 8] rfl
  have hKc := hK.sub (tys' := [(cS, .object "Diffractory$Source"), (cP, .object "Diffractory$Part"), (cn, .long), (cm, .long), (cw, .long), (ct, .long)]) [0, 1, 2, 3, 4, 5] rfl
  have hDc := hD.sub (ws' := [(x, .inr (8, [.ref xs, .ref xp, .int 0, .int 0, .ref xl, .ref xr])), (xs, .inl (cS, 3, .inr (.inr (.inr (.inr (fun _ => none)))))), (xp, .inl (cP, 8, .inr (.inr (.inr (.inr (fun _ => none)))))), (xl, .inr (4, [.ref xn, .ref xm])), (xn, .inl (cn, 64, .inr (.inl (fun _ => 0)))), (xm, .inl (cm, 64, .inr (.inl (fun _ => 0)))), (xr, .inr (6, [.ref xw, .ref xt])), (xw, .inl (cw, 8, .inr (.inl (fun _ => 0)))), (xt, .inl (ct, 8, .inr (.inl (fun _ => 0))))]) [0, 1, 2, 3, 4, 5, 6, 7, 8] (by decide) rfl
  have hFc := va_free (wc := [(x, .inr (8, [.ref xs, .ref xp, .int 0, .int 0, .ref xl, .ref xr])), (xs, .inl (cS, 3, .inr (.inr (.inr (.inr (fun _ => none)))))), (xp, .inl (cP, 8, .inr (.inr (.inr (.inr (fun _ => none)))))), (xl, .inr (4, [.ref xn, .ref xm])), (xn, .inl (cn, 64, .inr (.inl (fun _ => 0)))), (xm, .inl (cm, 64, .inr (.inl (fun _ => 0)))), (xr, .inr (6, [.ref xw, .ref xt])), (xw, .inl (cw, 8, .inr (.inl (fun _ => 0)))), (xt, .inl (ct, 8, .inr (.inl (fun _ => 0))))]) hD hS hA [0, 1, 2, 3, 4, 5, 6, 7, 8] rfl
  refine vx_calli (vx_runV (As := [.int p1, .int p2, .int p3]) (rest := [.int 0, .ref o]) ⟨hx, hb, hml, hown, hts⟩ (c_X4_source l hlt dC dI x xs xp xl xn xm xr xw xt cS cP cn cm cw ct sa ta s.heap.size p1 p2 p3) (cwV 3 hts gw_source rfl rfl rfl (by decide +kernel) ⟨Nat.le_of_ble_eq_true rfl, Nat.le_of_ble_eq_true rfl⟩) ⟨ax_fbW, va_recv hK hP (ci := 8) (q0 := 0) rfl rfl, ax_prW hPc hKc hDc hS hFc hE⟩ rfl rfl hl.1 rfl (lv_room (Nat.le_of_ble_eq_true rfl)) dL_source_7 ⟨Nat.le_of_ble_eq_true rfl, Nat.le_of_ble_eq_true rfl⟩) hS (fun q _ h9 => hFc q h9) hFc (fun q _ h9 => hFc q h9) (fun E9 ce9 q9 u9 t H locs ht hvm hw9 hB hz1 hk1 hS hce hcv hcl => ?_) (fun r_1 u_3  t H locs ht hvm hw_2 hB hz1 hk1 hS => ?_)
  · subst hB
    obtain ⟨hP, hD⟩ := va_join (wr := [(o, .inl (cO, 1, .inr (.inl (fun _ => 0))))]) (w1 := []) hP hD [0, 1, 2, 3, 4, 5, 6, 7, 8] [9] rfl rfl (by decide) (by decide) hk1 hFc (fun k q h9 => by simp at h9) ⟨fun i j p9 q9 h9 => by simp at h9, fun k q9 h9 => by simp at h9⟩
    have hP : va_P (dC, dI) vwCl [(o, .inl (cO, 1, .inr (.inl (fun _ => 0))))] H := hP
    have hD : va_D A [(o, .inl (cO, 1, .inr (.inl (fun _ => 0))))] := hD
    refine vx_catch (name := "java/lang/IllegalArgumentException") hown [] ⟨0, 12, 15, 13⟩ [⟨0, 12, 19, 15⟩] (htab.trans rfl) (fun z h9 => nomatch h9) (by decide) (by decide) (hts (.classLink RL 13 "java/lang/IllegalArgumentException") (by decide +kernel)) (va_Nw.use rfl hE.c0) hce hcv hcl ?_
    refine lv_astore (lv' := [(5, .ref q9), (0, .ref x), (1, .int p1), (2, .int p2), (3, .int p3), (4, .ref o)]) hx hb dL_source_15 hl (by decide) rfl (fun ls hl => ?_)
    refine lv_iconst (v := 1) hx hb dL_source_17 (by decide) ?_
    refine W.widen (k := 2) (n := 9) (Nat.le_of_ble_eq_true rfl) (Nat.le_of_ble_eq_true rfl) ?_
    have hP9 := hP.sub (ws' := [(o, .inl (cO, 1, .inr (.inl (fun _ => 0))))]) [0] rfl
    have hD9 := hD.sub (ws' := [(o, .inl (cO, 1, .inr (.inl (fun _ => 0))))]) [0] (by decide) rfl
    have hK9 := hK.sub (tys' := [(cO, .long)]) [6] rfl
    exact W.iret (v := 1) hx hb hr (fun t ht hW => ⟨⟨1, (fun _ => 0), rfl, Or.inr ⟨by omega, rfl⟩, by rw [ht]; exact hP9, va_K.moved hW.alike hK9, hD9⟩, hS.F ht⟩) hS.2.2 dL_source_18
  · obtain ⟨hP, hD⟩ := va_join (wr := [(o, .inl (cO, 1, .inr (.inl (fun _ => 0))))]) (w1 := []) hP hD [0, 1, 2, 3, 4, 5, 6, 7, 8] [9] rfl rfl (by decide) (by decide) hk1 hFc (fun k q h9 => by simp at h9) ⟨fun i j p9 q9 h9 => by simp at h9, fun k q9 h9 => by simp at h9⟩
    have hP : va_P (dC, dI) vwCl [(o, .inl (cO, 1, .inr (.inl (fun _ => 0))))] H := hP
    have hD : va_D A [(o, .inl (cO, 1, .inr (.inl (fun _ => 0))))] := hD
    refine ax_i (y := 0) hw_2.2 ?_
    refine lv_i2l (v := 0) hx hb dL_source_10 (by decide) ?_
    refine va_last hx hb hK hP hD hS 0 6 rfl rfl (by unfold vp_in; decide) dL_source_11 (fun H locs hP hD hS => ?_)
    rw [ax_uz] at hP hD
    have hP : va_P (dC, dI) vwCl [(o, .inl (cO, 1, .inr (.inl (fun _ => 0))))] H := hP
    have hD : va_D A [(o, .inl (cO, 1, .inr (.inl (fun _ => 0))))] := hD
    refine lv_goto (tgt := 23) hx hb dL_source_12 (by decide) ?_
    refine lv_iconst (v := 0) hx hb dL_source_23 (by decide) ?_
    refine W.widen (k := 2) (n := 9) (Nat.le_of_ble_eq_true rfl) (Nat.le_of_ble_eq_true rfl) ?_
    have hP9 := hP.sub (ws' := [(o, .inl (cO, 1, .inr (.inl (fun _ => 0))))]) [0] rfl
    have hD9 := hD.sub (ws' := [(o, .inl (cO, 1, .inr (.inl (fun _ => 0))))]) [0] (by decide) rfl
    have hK9 := hK.sub (tys' := [(cO, .long)]) [6] rfl
    exact W.iret (v := 0) hx hb hr (fun t ht hW => ⟨⟨0, (fun _ => 0), rfl, Or.inl ⟨by omega, rfl, by first | rfl | exact (if_pos (by assumption)).symm | exact (if_neg (by assumption)).symm⟩, by rw [ht]; exact hP9, va_K.moved hW.alike hK9, hD9⟩, hS.F ht⟩) hS.2.2 dL_source_24

set_option maxHeartbeats 4000000 in
set_option maxRecDepth 100000 in
theorem c_L_move (l : Launch) (hlt : l.stackTraces = false) (dC : Nat → ClassId) (dI : Nat → Nat → Nat) (x xs xp xl xn xm xr xw xt o : Nat) (cS cP cn cm cw ct cO : ClassId) (sa ta : Nat → Nat) (sz : Nat) (p1 : Int32) (p2 : Int32) (p3 : Int32) (p4 : Int32) : Met l yL_move wl_move ({ frames := 24, cells := 1, slots := 6, locals := 600 }) (va_Pc [.ref x, .int p1, .int p2, .int p3, .int p4, .ref o] (ax_W (dC, dI) vwCl [(x, .inr (8, [.ref xs, .ref xp, .int 0, .int 0, .ref xl, .ref xr])), (xs, .inl (cS, 3, .inr (.inr (.inr (.inr (fun _ => none)))))), (xp, .inl (cP, 8, .inr (.inr (.inr (.inr (fun _ => none)))))), (xl, .inr (4, [.ref xn, .ref xm])), (xn, .inl (cn, 64, .inr (.inl (fun _ => 0)))), (xm, .inl (cm, 64, .inr (.inl (fun _ => 0)))), (xr, .inr (6, [.ref xw, .ref xt])), (xw, .inl (cw, 8, .inr (.inl (fun _ => 0)))), (xt, .inl (ct, 8, .inr (.inl (fun _ => 0)))), (o, .inl (cO, 1, .inr (.inl (fun _ => 0))))] [(cS, .object "Diffractory$Source"), (cP, .object "Diffractory$Part"), (cn, .long), (cm, .long), (cw, .long), (ct, .long), (cO, .long)] sa ta sz)) (va_Qi (fun (r : Int32) (u : Nat → Int64) => r = 1) (fun (u : Nat → Int64) (t : State) => va_P (dC, dI) vwCl [(o, .inl (cO, 1, .inr (.inl u)))] t.heap ∧ va_K (dC, dI) vwCl [(cO, .long)] t ∧ va_D (va_A [(x, .inr (8, [.ref xs, .ref xp, .int 0, .int 0, .ref xl, .ref xr])), (xs, .inl (cS, 3, .inr (.inr (.inr (.inr (fun _ => none)))))), (xp, .inl (cP, 8, .inr (.inr (.inr (.inr (fun _ => none)))))), (xl, .inr (4, [.ref xn, .ref xm])), (xn, .inl (cn, 64, .inr (.inl (fun _ => 0)))), (xm, .inl (cm, 64, .inr (.inl (fun _ => 0)))), (xr, .inr (6, [.ref xw, .ref xt])), (xw, .inl (cw, 8, .inr (.inl (fun _ => 0)))), (xt, .inl (ct, 8, .inr (.inl (fun _ => 0)))), (o, .inl (cO, 1, .inr (.inl (fun _ => 0))))] sz) [(o, .inl (cO, 1, .inr (.inl u)))]) (va_A [(x, .inr (8, [.ref xs, .ref xp, .int 0, .int 0, .ref xl, .ref xr])), (xs, .inl (cS, 3, .inr (.inr (.inr (.inr (fun _ => none)))))), (xp, .inl (cP, 8, .inr (.inr (.inr (.inr (fun _ => none)))))), (xl, .inr (4, [.ref xn, .ref xm])), (xn, .inl (cn, 64, .inr (.inl (fun _ => 0)))), (xm, .inl (cm, 64, .inr (.inl (fun _ => 0)))), (xr, .inr (6, [.ref xw, .ref xt])), (xw, .inl (cw, 8, .inr (.inl (fun _ => 0)))), (xt, .inl (ct, 8, .inr (.inl (fun _ => 0)))), (o, .inl (cO, 1, .inr (.inl (fun _ => 0))))] sz)) 1 6 (va_A [(x, .inr (8, [.ref xs, .ref xp, .int 0, .int 0, .ref xl, .ref xr])), (xs, .inl (cS, 3, .inr (.inr (.inr (.inr (fun _ => none)))))), (xp, .inl (cP, 8, .inr (.inr (.inr (.inr (fun _ => none)))))), (xl, .inr (4, [.ref xn, .ref xm])), (xn, .inl (cn, 64, .inr (.inl (fun _ => 0)))), (xm, .inl (cm, 64, .inr (.inl (fun _ => 0)))), (xr, .inr (6, [.ref xw, .ref xt])), (xw, .inl (cw, 8, .inr (.inl (fun _ => 0)))), (xt, .inl (ct, 8, .inr (.inl (fun _ => 0)))), (o, .inl (cO, 1, .inr (.inl (fun _ => 0))))] sz) := by
  refine ax_MetWH (cc := cL_move) (maxL := 7) (ret := (some .int)) (by decide) rfl ?_
  intro p e s m args below meth c s₁ B hml hv
  obtain ⟨rfl, hsz, hP, hK, hD0, hE⟩ := hv
  have hx := B.exec
  have hb := B.bytes
  have hr := B.returns
  have hts := atoms_spec (ws := wl_move) B.pre
  have hown : s.vm.findClass RL = some m.cls := findClass_of_methodNamed B.named
  have hlocks := B.notSynchronized
  have htab := vx_table (x := yL_move) B (hts _ List.mem_cons_self)
  subst hsz
  have hD := hD0.self (sz := s.heap.size)
  generalize hAe : va_A [(x, .inr (8, [.ref xs, .ref xp, .int 0, .int 0, .ref xl, .ref xr])), (xs, .inl (cS, 3, .inr (.inr (.inr (.inr (fun _ => none)))))), (xp, .inl (cP, 8, .inr (.inr (.inr (.inr (fun _ => none)))))), (xl, .inr (4, [.ref xn, .ref xm])), (xn, .inl (cn, 64, .inr (.inl (fun _ => 0)))), (xm, .inl (cm, 64, .inr (.inl (fun _ => 0)))), (xr, .inr (6, [.ref xw, .ref xt])), (xw, .inl (cw, 8, .inr (.inl (fun _ => 0)))), (xt, .inl (ct, 8, .inr (.inl (fun _ => 0)))), (o, .inl (cO, 1, .inr (.inl (fun _ => 0))))] s.heap.size = A at hD hE ⊢
  have hA : ∀ q : Nat, s.heap.size ≤ q → A q := fun q h => by rw [← hAe]; exact Or.inr h
  have hS : va_S A s.heap s.heap [] := va_S.rf
  have hl := lv_entry ([.ref x, .int p1, .int p2, .int p3, .int p4, .ref o]) (n := 7) (Nat.le_of_ble_eq_true rfl)
  rw [lg_entry_eq]
  generalize (lg_sl ([.ref x, .int p1, .int p2, .int p3, .int p4, .ref o]) ++ List.replicate (7 - (lg_sl ([.ref x, .int p1, .int p2, .int p3, .int p4, .ref o])).length) Slot.unset).toArray = ls at hl ⊢
  have hl : lv_has ls 7 [(0, .ref x), (1, .int p1), (2, .int p2), (3, .int p3), (4, .int p4), (5, .ref o)] := hl
  have hP : va_P (dC, dI) vwCl [(x, .inr (8, [.ref xs, .ref xp, .int 0, .int 0, .ref xl, .ref xr])), (xs, .inl (cS, 3, .inr (.inr (.inr (.inr (fun _ => none)))))), (xp, .inl (cP, 8, .inr (.inr (.inr (.inr (fun _ => none)))))), (xl, .inr (4, [.ref xn, .ref xm])), (xn, .inl (cn, 64, .inr (.inl (fun _ => 0)))), (xm, .inl (cm, 64, .inr (.inl (fun _ => 0)))), (xr, .inr (6, [.ref xw, .ref xt])), (xw, .inl (cw, 8, .inr (.inl (fun _ => 0)))), (xt, .inl (ct, 8, .inr (.inl (fun _ => 0)))), (o, .inl (cO, 1, .inr (.inl (fun _ => 0))))] s.heap := hP
  refine lv_aload hx hb dL_move_0 (lv_at hl 5 rfl) ?_
  refine lv_iconst (v := 0) hx hb dL_move_2 (by decide) ?_
  refine lv_aload_n hx hb dL_move_3 rfl (lv_at hl 0 rfl) ?_
  refine lv_iload_n hx hb dL_move_4 rfl (lv_at hl 1 rfl) ?_
  refine lv_iload_n hx hb dL_move_5 rfl (lv_at hl 2 rfl) ?_
  refine lv_iload_n hx hb dL_move_6 rfl (lv_at hl 3 rfl) ?_
  refine lv_iload hx hb dL_move_7 (lv_at hl 4 rfl) ?_
  have hPc := hP.sub (ws' := [(x, .inr (8, [.ref xs, .ref xp, .int 0, .int 0, .ref xl, .ref xr])), (xs, .inl (cS, 3, .inr (.inr (.inr (.inr (fun _ => none)))))), (xp, .inl (cP, 8, .inr (.inr (.inr (.inr (fun _ => none)))))), (xl, .inr (4, [.ref xn, .ref xm])), (xn, .inl (cn, 64, .inr (.inl (fun _ => 0)))), (xm, .inl (cm, 64, .inr (.inl (fun _ => 0)))), (xr, .inr (6, [.ref xw, .ref xt])), (xw, .inl (cw, 8, .inr (.inl (fun _ => 0)))), (xt, .inl (ct, 8, .inr (.inl (fun _ => 0))))]) [0, 1, 2, 3, 4, 5, 6, 7, 8] rfl
  have hKc := hK.sub (tys' := [(cS, .object "Diffractory$Source"), (cP, .object "Diffractory$Part"), (cn, .long), (cm, .long), (cw, .long), (ct, .long)]) [0, 1, 2, 3, 4, 5] rfl
  refine vx_calli (vx_runV (As := [.int p1, .int p2, .int p3, .int p4]) (rest := [.int 0, .ref o]) ⟨hx, hb, hml, hown, hts⟩ (c_X4_move l hlt dC dI x xs xp xl xn xm xr xw xt cS cP cn cm cw ct sa ta p1 p2 p3 p4) (cwV 4 hts gw_move rfl rfl rfl (by decide +kernel) ⟨Nat.le_of_ble_eq_true rfl, Nat.le_of_ble_eq_true rfl⟩) ⟨ax_fbR, va_recv hK hP (ci := 8) (q0 := 0) rfl rfl, ax_prR hPc hKc hS hE⟩ rfl rfl hl.1 rfl (lv_room (Nat.le_of_ble_eq_true rfl)) dL_move_9 ⟨Nat.le_of_ble_eq_true rfl, Nat.le_of_ble_eq_true rfl⟩) hS (fun _ _ h9 => h9.elim) (fun _ h9 => h9.elim) (fun _ _ h9 => h9.elim) (fun E9 ce9 q9 u9 t H locs ht hvm hw9 hB hz1 hk1 hS hce hcv hcl => ?_) (fun r_1 u_3  t H locs ht hvm hw_2 hB hz1 hk1 hS => ?_)
  · subst hB
    have hP := ax_keep hP (fun _ h9 => h9) hk1
    have hP : va_P (dC, dI) vwCl [(x, .inr (8, [.ref xs, .ref xp, .int 0, .int 0, .ref xl, .ref xr])), (xs, .inl (cS, 3, .inr (.inr (.inr (.inr (fun _ => none)))))), (xp, .inl (cP, 8, .inr (.inr (.inr (.inr (fun _ => none)))))), (xl, .inr (4, [.ref xn, .ref xm])), (xn, .inl (cn, 64, .inr (.inl (fun _ => 0)))), (xm, .inl (cm, 64, .inr (.inl (fun _ => 0)))), (xr, .inr (6, [.ref xw, .ref xt])), (xw, .inl (cw, 8, .inr (.inl (fun _ => 0)))), (xt, .inl (ct, 8, .inr (.inl (fun _ => 0)))), (o, .inl (cO, 1, .inr (.inl (fun _ => 0))))] H := hP
    have hD : va_D A [(x, .inr (8, [.ref xs, .ref xp, .int 0, .int 0, .ref xl, .ref xr])), (xs, .inl (cS, 3, .inr (.inr (.inr (.inr (fun _ => none)))))), (xp, .inl (cP, 8, .inr (.inr (.inr (.inr (fun _ => none)))))), (xl, .inr (4, [.ref xn, .ref xm])), (xn, .inl (cn, 64, .inr (.inl (fun _ => 0)))), (xm, .inl (cm, 64, .inr (.inl (fun _ => 0)))), (xr, .inr (6, [.ref xw, .ref xt])), (xw, .inl (cw, 8, .inr (.inl (fun _ => 0)))), (xt, .inl (ct, 8, .inr (.inl (fun _ => 0)))), (o, .inl (cO, 1, .inr (.inl (fun _ => 0))))] := hD
    refine vx_catch (name := "java/lang/IndexOutOfBoundsException") hown [] ⟨0, 14, 17, 21⟩ [⟨0, 14, 21, 13⟩] (htab.trans rfl) (fun z h9 => nomatch h9) (by decide) (by decide) (hts (.classLink RL 21 "java/lang/IndexOutOfBoundsException") (by decide +kernel)) (va_Nw.use rfl hE.c2) hce hcv hcl ?_
    refine lv_astore (lv' := [(6, .ref q9), (0, .ref x), (1, .int p1), (2, .int p2), (3, .int p3), (4, .int p4), (5, .ref o)]) hx hb dL_move_17 hl (by decide) rfl (fun ls hl => ?_)
    refine lv_iconst (v := 1) hx hb dL_move_19 (by decide) ?_
    refine W.widen (k := 1) (n := 6) (Nat.le_of_ble_eq_true rfl) (Nat.le_of_ble_eq_true rfl) ?_
    have hP9 := hP.sub (ws' := [(o, .inl (cO, 1, .inr (.inl (fun _ => 0))))]) [9] rfl
    have hD9 := hD.sub (ws' := [(o, .inl (cO, 1, .inr (.inl (fun _ => 0))))]) [9] (by decide) rfl
    have hK9 := hK.sub (tys' := [(cO, .long)]) [6] rfl
    exact W.iret (v := 1) hx hb hr (fun t ht hW => ⟨⟨1, (fun _ => 0), rfl, rfl, by rw [ht]; exact hP9, va_K.moved hW.alike hK9, hD9⟩, hS.F ht⟩) hS.2.2 dL_move_20
  · have hP := ax_keep hP (fun _ h9 => h9) hk1
    exact hw_2.elim

set_option maxHeartbeats 4000000 in
set_option maxRecDepth 100000 in
theorem c_L_part (l : Launch) (hlt : l.stackTraces = false) (dC : Nat → ClassId) (dI : Nat → Nat → Nat) (x xs xp xl xn xm xr xw xt o : Nat) (cS cP cn cm cw ct cO : ClassId) (sa ta : Nat → Nat) (sz : Nat) (p1 : Int32) (p2 : Int32) : Met l yL_part wl_part ({ frames := 32, cells := 2, slots := 14, locals := 800 }) (va_Pc [.ref x, .int p1, .int p2, .ref o] (ax_W (dC, dI) vwCl [(x, .inr (8, [.ref xs, .ref xp, .int 0, .int 0, .ref xl, .ref xr])), (xs, .inl (cS, 3, .inr (.inr (.inr (.inr (fun _ => none)))))), (xp, .inl (cP, 8, .inr (.inr (.inr (.inr (fun _ => none)))))), (xl, .inr (4, [.ref xn, .ref xm])), (xn, .inl (cn, 64, .inr (.inl (fun _ => 0)))), (xm, .inl (cm, 64, .inr (.inl (fun _ => 0)))), (xr, .inr (6, [.ref xw, .ref xt])), (xw, .inl (cw, 8, .inr (.inl (fun _ => 0)))), (xt, .inl (ct, 8, .inr (.inl (fun _ => 0)))), (o, .inl (cO, 1, .inr (.inl (fun _ => 0))))] [(cS, .object "Diffractory$Source"), (cP, .object "Diffractory$Part"), (cn, .long), (cm, .long), (cw, .long), (ct, .long), (cO, .long)] sa ta sz)) (va_Qi (fun (r : Int32) (u : Nat → Int64) => (((0 ≤ p1.toInt ∧ p1.toInt ≤ 10) ∧ (ax_lo p1).toInt ≤ p2.toInt ∧ p2.toInt ≤ (ax_hi p1).toInt) ∧ r = 0 ∧ u 0 = 0) ∨ (¬ ((0 ≤ p1.toInt ∧ p1.toInt ≤ 10) ∧ (ax_lo p1).toInt ≤ p2.toInt ∧ p2.toInt ≤ (ax_hi p1).toInt) ∧ r = 1)) (fun (u : Nat → Int64) (t : State) => va_P (dC, dI) vwCl [(o, .inl (cO, 1, .inr (.inl u)))] t.heap ∧ va_K (dC, dI) vwCl [(cO, .long)] t ∧ va_D (va_A [(x, .inr (8, [.ref xs, .ref xp, .int 0, .int 0, .ref xl, .ref xr])), (xs, .inl (cS, 3, .inr (.inr (.inr (.inr (fun _ => none)))))), (xp, .inl (cP, 8, .inr (.inr (.inr (.inr (fun _ => none)))))), (xl, .inr (4, [.ref xn, .ref xm])), (xn, .inl (cn, 64, .inr (.inl (fun _ => 0)))), (xm, .inl (cm, 64, .inr (.inl (fun _ => 0)))), (xr, .inr (6, [.ref xw, .ref xt])), (xw, .inl (cw, 8, .inr (.inl (fun _ => 0)))), (xt, .inl (ct, 8, .inr (.inl (fun _ => 0)))), (o, .inl (cO, 1, .inr (.inl (fun _ => 0))))] sz) [(o, .inl (cO, 1, .inr (.inl u)))]) (va_A [(x, .inr (8, [.ref xs, .ref xp, .int 0, .int 0, .ref xl, .ref xr])), (xs, .inl (cS, 3, .inr (.inr (.inr (.inr (fun _ => none)))))), (xp, .inl (cP, 8, .inr (.inr (.inr (.inr (fun _ => none)))))), (xl, .inr (4, [.ref xn, .ref xm])), (xn, .inl (cn, 64, .inr (.inl (fun _ => 0)))), (xm, .inl (cm, 64, .inr (.inl (fun _ => 0)))), (xr, .inr (6, [.ref xw, .ref xt])), (xw, .inl (cw, 8, .inr (.inl (fun _ => 0)))), (xt, .inl (ct, 8, .inr (.inl (fun _ => 0)))), (o, .inl (cO, 1, .inr (.inl (fun _ => 0))))] sz)) 2 14 (va_A [(x, .inr (8, [.ref xs, .ref xp, .int 0, .int 0, .ref xl, .ref xr])), (xs, .inl (cS, 3, .inr (.inr (.inr (.inr (fun _ => none)))))), (xp, .inl (cP, 8, .inr (.inr (.inr (.inr (fun _ => none)))))), (xl, .inr (4, [.ref xn, .ref xm])), (xn, .inl (cn, 64, .inr (.inl (fun _ => 0)))), (xm, .inl (cm, 64, .inr (.inl (fun _ => 0)))), (xr, .inr (6, [.ref xw, .ref xt])), (xw, .inl (cw, 8, .inr (.inl (fun _ => 0)))), (xt, .inl (ct, 8, .inr (.inl (fun _ => 0)))), (o, .inl (cO, 1, .inr (.inl (fun _ => 0))))] sz) := by
  refine ax_MetWH (cc := cL_part) (maxL := 5) (ret := (some .int)) (by decide) rfl ?_
  intro p e s m args below meth c s₁ B hml hv
  obtain ⟨rfl, hsz, hP, hK, hD0, hE⟩ := hv
  have hx := B.exec
  have hb := B.bytes
  have hr := B.returns
  have hts := atoms_spec (ws := wl_part) B.pre
  have hown : s.vm.findClass RL = some m.cls := findClass_of_methodNamed B.named
  have hlocks := B.notSynchronized
  have htab := vx_table (x := yL_part) B (hts _ List.mem_cons_self)
  subst hsz
  have hD := hD0.self (sz := s.heap.size)
  generalize hAe : va_A [(x, .inr (8, [.ref xs, .ref xp, .int 0, .int 0, .ref xl, .ref xr])), (xs, .inl (cS, 3, .inr (.inr (.inr (.inr (fun _ => none)))))), (xp, .inl (cP, 8, .inr (.inr (.inr (.inr (fun _ => none)))))), (xl, .inr (4, [.ref xn, .ref xm])), (xn, .inl (cn, 64, .inr (.inl (fun _ => 0)))), (xm, .inl (cm, 64, .inr (.inl (fun _ => 0)))), (xr, .inr (6, [.ref xw, .ref xt])), (xw, .inl (cw, 8, .inr (.inl (fun _ => 0)))), (xt, .inl (ct, 8, .inr (.inl (fun _ => 0)))), (o, .inl (cO, 1, .inr (.inl (fun _ => 0))))] s.heap.size = A at hD hE ⊢
  have hA : ∀ q : Nat, s.heap.size ≤ q → A q := fun q h => by rw [← hAe]; exact Or.inr h
  have hS : va_S A s.heap s.heap [] := va_S.rf
  have hl := lv_entry ([.ref x, .int p1, .int p2, .ref o]) (n := 5) (Nat.le_of_ble_eq_true rfl)
  rw [lg_entry_eq]
  generalize (lg_sl ([.ref x, .int p1, .int p2, .ref o]) ++ List.replicate (5 - (lg_sl ([.ref x, .int p1, .int p2, .ref o])).length) Slot.unset).toArray = ls at hl ⊢
  have hl : lv_has ls 5 [(0, .ref x), (1, .int p1), (2, .int p2), (3, .ref o)] := hl
  have hP : va_P (dC, dI) vwCl [(x, .inr (8, [.ref xs, .ref xp, .int 0, .int 0, .ref xl, .ref xr])), (xs, .inl (cS, 3, .inr (.inr (.inr (.inr (fun _ => none)))))), (xp, .inl (cP, 8, .inr (.inr (.inr (.inr (fun _ => none)))))), (xl, .inr (4, [.ref xn, .ref xm])), (xn, .inl (cn, 64, .inr (.inl (fun _ => 0)))), (xm, .inl (cm, 64, .inr (.inl (fun _ => 0)))), (xr, .inr (6, [.ref xw, .ref xt])), (xw, .inl (cw, 8, .inr (.inl (fun _ => 0)))), (xt, .inl (ct, 8, .inr (.inl (fun _ => 0)))), (o, .inl (cO, 1, .inr (.inl (fun _ => 0))))] s.heap := hP
  refine lv_aload_n hx hb dL_part_0 rfl (lv_at hl 3 rfl) ?_
  refine lv_iconst (v := 0) hx hb dL_part_1 (by decide) ?_
  refine lv_aload_n hx hb dL_part_2 rfl (lv_at hl 0 rfl) ?_
  refine lv_iload_n hx hb dL_part_3 rfl (lv_at hl 1 rfl) ?_
  refine lv_iload_n hx hb dL_part_4 rfl (lv_at hl 2 rfl) ?_
  have hPc := hP.sub (ws' := [(x, .inr (8, [.ref xs, .ref xp, .int 0, .int 0, .ref xl, .ref xr])), (xs, .inl (cS, 3, .inr (.inr (.inr (.inr (fun _ => none)))))), (xp, .inl (cP, 8, .inr (.inr (.inr (.inr (fun _ => none)))))), (xl, .inr (4, [.ref xn, .ref xm])), (xn, .inl (cn, 64, .inr (.inl (fun _ => 0)))), (xm, .inl (cm, 64, .inr (.inl (fun _ => 0)))), (xr, .inr (6, [.ref xw, .ref xt])), (xw, .inl (cw, 8, .inr (.inl (fun _ => 0)))), (xt, .inl (ct, 8, .inr (.inl (fun _ => 0))))]) [0, 1, 2, 3, 4, 5, 6, 7, 8] rfl
  have hKc := hK.sub (tys' := [(cS, .object "Diffractory$Source"), (cP, .object "Diffractory$Part"), (cn, .long), (cm, .long), (cw, .long), (ct, .long)]) [0, 1, 2, 3, 4, 5] rfl
  have hDc := hD.sub (ws' := [(x, .inr (8, [.ref xs, .ref xp, .int 0, .int 0, .ref xl, .ref xr])), (xs, .inl (cS, 3, .inr (.inr (.inr (.inr (fun _ => none)))))), (xp, .inl (cP, 8, .inr (.inr (.inr (.inr (fun _ => none)))))), (xl, .inr (4, [.ref xn, .ref xm])), (xn, .inl (cn, 64, .inr (.inl (fun _ => 0)))), (xm, .inl (cm, 64, .inr (.inl (fun _ => 0)))), (xr, .inr (6, [.ref xw, .ref xt])), (xw, .inl (cw, 8, .inr (.inl (fun _ => 0)))), (xt, .inl (ct, 8, .inr (.inl (fun _ => 0))))]) [0, 1, 2, 3, 4, 5, 6, 7, 8] (by decide) rfl
  have hFc := va_free (wc := [(x, .inr (8, [.ref xs, .ref xp, .int 0, .int 0, .ref xl, .ref xr])), (xs, .inl (cS, 3, .inr (.inr (.inr (.inr (fun _ => none)))))), (xp, .inl (cP, 8, .inr (.inr (.inr (.inr (fun _ => none)))))), (xl, .inr (4, [.ref xn, .ref xm])), (xn, .inl (cn, 64, .inr (.inl (fun _ => 0)))), (xm, .inl (cm, 64, .inr (.inl (fun _ => 0)))), (xr, .inr (6, [.ref xw, .ref xt])), (xw, .inl (cw, 8, .inr (.inl (fun _ => 0)))), (xt, .inl (ct, 8, .inr (.inl (fun _ => 0))))]) hD hS hA [0, 1, 2, 3, 4, 5, 6, 7, 8] rfl
  refine vx_calli (vx_runV (As := [.int p1, .int p2]) (rest := [.int 0, .ref o]) ⟨hx, hb, hml, hown, hts⟩ (c_X4_part l hlt dC dI x xs xp xl xn xm xr xw xt cS cP cn cm cw ct sa ta s.heap.size p1 p2) (cwV 2 hts gw_part rfl rfl rfl (by decide +kernel) ⟨Nat.le_of_ble_eq_true rfl, Nat.le_of_ble_eq_true rfl⟩) ⟨ax_fbW, va_recv hK hP (ci := 8) (q0 := 0) rfl rfl, ax_prW hPc hKc hDc hS hFc hE⟩ rfl rfl hl.1 rfl (lv_room (Nat.le_of_ble_eq_true rfl)) dL_part_5 ⟨Nat.le_of_ble_eq_true rfl, Nat.le_of_ble_eq_true rfl⟩) hS (fun q _ h9 => hFc q h9) hFc (fun q _ h9 => hFc q h9) (fun E9 ce9 q9 u9 t H locs ht hvm hw9 hB hz1 hk1 hS hce hcv hcl => ?_) (fun r_1 u_3  t H locs ht hvm hw_2 hB hz1 hk1 hS => ?_)
  · subst hB
    obtain ⟨hP, hD⟩ := va_join (wr := [(o, .inl (cO, 1, .inr (.inl (fun _ => 0))))]) (w1 := []) hP hD [0, 1, 2, 3, 4, 5, 6, 7, 8] [9] rfl rfl (by decide) (by decide) hk1 hFc (fun k q h9 => by simp at h9) ⟨fun i j p9 q9 h9 => by simp at h9, fun k q9 h9 => by simp at h9⟩
    have hP : va_P (dC, dI) vwCl [(o, .inl (cO, 1, .inr (.inl (fun _ => 0))))] H := hP
    have hD : va_D A [(o, .inl (cO, 1, .inr (.inl (fun _ => 0))))] := hD
    refine vx_catch (name := "java/lang/IllegalArgumentException") hown [] ⟨0, 10, 13, 13⟩ [⟨0, 10, 17, 15⟩] (htab.trans rfl) (fun z h9 => nomatch h9) (by decide) (by decide) (hts (.classLink RL 13 "java/lang/IllegalArgumentException") (by decide +kernel)) (va_Nw.use rfl hE.c0) hce hcv hcl ?_
    refine lv_astore (lv' := [(4, .ref q9), (0, .ref x), (1, .int p1), (2, .int p2), (3, .ref o)]) hx hb dL_part_13 hl (by decide) rfl (fun ls hl => ?_)
    refine lv_iconst (v := 1) hx hb dL_part_15 (by decide) ?_
    refine W.widen (k := 2) (n := 14) (Nat.le_of_ble_eq_true rfl) (Nat.le_of_ble_eq_true rfl) ?_
    have hP9 := hP.sub (ws' := [(o, .inl (cO, 1, .inr (.inl (fun _ => 0))))]) [0] rfl
    have hD9 := hD.sub (ws' := [(o, .inl (cO, 1, .inr (.inl (fun _ => 0))))]) [0] (by decide) rfl
    have hK9 := hK.sub (tys' := [(cO, .long)]) [6] rfl
    exact W.iret (v := 1) hx hb hr (fun t ht hW => ⟨⟨1, (fun _ => 0), rfl, Or.inr ⟨by omega, rfl⟩, by rw [ht]; exact hP9, va_K.moved hW.alike hK9, hD9⟩, hS.F ht⟩) hS.2.2 dL_part_16
  · obtain ⟨hP, hD⟩ := va_join (wr := [(o, .inl (cO, 1, .inr (.inl (fun _ => 0))))]) (w1 := []) hP hD [0, 1, 2, 3, 4, 5, 6, 7, 8] [9] rfl rfl (by decide) (by decide) hk1 hFc (fun k q h9 => by simp at h9) ⟨fun i j p9 q9 h9 => by simp at h9, fun k q9 h9 => by simp at h9⟩
    have hP : va_P (dC, dI) vwCl [(o, .inl (cO, 1, .inr (.inl (fun _ => 0))))] H := hP
    have hD : va_D A [(o, .inl (cO, 1, .inr (.inl (fun _ => 0))))] := hD
    refine ax_i (y := 0) hw_2.2 ?_
    refine lv_i2l (v := 0) hx hb dL_part_8 (by decide) ?_
    refine va_last hx hb hK hP hD hS 0 6 rfl rfl (by unfold vp_in; decide) dL_part_9 (fun H locs hP hD hS => ?_)
    rw [ax_uz] at hP hD
    have hP : va_P (dC, dI) vwCl [(o, .inl (cO, 1, .inr (.inl (fun _ => 0))))] H := hP
    have hD : va_D A [(o, .inl (cO, 1, .inr (.inl (fun _ => 0))))] := hD
    refine lv_goto (tgt := 21) hx hb dL_part_10 (by decide) ?_
    refine lv_iconst (v := 0) hx hb dL_part_21 (by decide) ?_
    refine W.widen (k := 2) (n := 14) (Nat.le_of_ble_eq_true rfl) (Nat.le_of_ble_eq_true rfl) ?_
    have hP9 := hP.sub (ws' := [(o, .inl (cO, 1, .inr (.inl (fun _ => 0))))]) [0] rfl
    have hD9 := hD.sub (ws' := [(o, .inl (cO, 1, .inr (.inl (fun _ => 0))))]) [0] (by decide) rfl
    have hK9 := hK.sub (tys' := [(cO, .long)]) [6] rfl
    exact W.iret (v := 0) hx hb hr (fun t ht hW => ⟨⟨0, (fun _ => 0), rfl, Or.inl ⟨by omega, rfl, by first | rfl | exact (if_pos (by assumption)).symm | exact (if_neg (by assumption)).symm⟩, by rw [ht]; exact hP9, va_K.moved hW.alike hK9, hD9⟩, hS.F ht⟩) hS.2.2 dL_part_22

set_option maxHeartbeats 4000000 in
set_option maxRecDepth 100000 in
theorem c_L_set (l : Launch) (hlt : l.stackTraces = false) (dC : Nat → ClassId) (dI : Nat → Nat → Nat) (x xs xp xl xn xm xr xw xt o : Nat) (cS cP cn cm cw ct cO : ClassId) (sa ta : Nat → Nat) (sz : Nat) (p1 : Int32) (p2 : Int32) : Met l yL_set wl_set ({ frames := 24, cells := 1, slots := 6, locals := 600 }) (va_Pc [.ref x, .int p1, .int p2, .ref o] (ax_W (dC, dI) vwCl [(x, .inr (8, [.ref xs, .ref xp, .int 0, .int 0, .ref xl, .ref xr])), (xs, .inl (cS, 3, .inr (.inr (.inr (.inr (fun _ => none)))))), (xp, .inl (cP, 8, .inr (.inr (.inr (.inr (fun _ => none)))))), (xl, .inr (4, [.ref xn, .ref xm])), (xn, .inl (cn, 64, .inr (.inl (fun _ => 0)))), (xm, .inl (cm, 64, .inr (.inl (fun _ => 0)))), (xr, .inr (6, [.ref xw, .ref xt])), (xw, .inl (cw, 8, .inr (.inl (fun _ => 0)))), (xt, .inl (ct, 8, .inr (.inl (fun _ => 0)))), (o, .inl (cO, 1, .inr (.inl (fun _ => 0))))] [(cS, .object "Diffractory$Source"), (cP, .object "Diffractory$Part"), (cn, .long), (cm, .long), (cw, .long), (ct, .long), (cO, .long)] sa ta sz)) (va_Qi (fun (r : Int32) (u : Nat → Int64) => r = 1) (fun (u : Nat → Int64) (t : State) => va_P (dC, dI) vwCl [(o, .inl (cO, 1, .inr (.inl u)))] t.heap ∧ va_K (dC, dI) vwCl [(cO, .long)] t ∧ va_D (va_A [(x, .inr (8, [.ref xs, .ref xp, .int 0, .int 0, .ref xl, .ref xr])), (xs, .inl (cS, 3, .inr (.inr (.inr (.inr (fun _ => none)))))), (xp, .inl (cP, 8, .inr (.inr (.inr (.inr (fun _ => none)))))), (xl, .inr (4, [.ref xn, .ref xm])), (xn, .inl (cn, 64, .inr (.inl (fun _ => 0)))), (xm, .inl (cm, 64, .inr (.inl (fun _ => 0)))), (xr, .inr (6, [.ref xw, .ref xt])), (xw, .inl (cw, 8, .inr (.inl (fun _ => 0)))), (xt, .inl (ct, 8, .inr (.inl (fun _ => 0)))), (o, .inl (cO, 1, .inr (.inl (fun _ => 0))))] sz) [(o, .inl (cO, 1, .inr (.inl u)))]) (va_A [(x, .inr (8, [.ref xs, .ref xp, .int 0, .int 0, .ref xl, .ref xr])), (xs, .inl (cS, 3, .inr (.inr (.inr (.inr (fun _ => none)))))), (xp, .inl (cP, 8, .inr (.inr (.inr (.inr (fun _ => none)))))), (xl, .inr (4, [.ref xn, .ref xm])), (xn, .inl (cn, 64, .inr (.inl (fun _ => 0)))), (xm, .inl (cm, 64, .inr (.inl (fun _ => 0)))), (xr, .inr (6, [.ref xw, .ref xt])), (xw, .inl (cw, 8, .inr (.inl (fun _ => 0)))), (xt, .inl (ct, 8, .inr (.inl (fun _ => 0)))), (o, .inl (cO, 1, .inr (.inl (fun _ => 0))))] sz)) 1 6 (va_A [(x, .inr (8, [.ref xs, .ref xp, .int 0, .int 0, .ref xl, .ref xr])), (xs, .inl (cS, 3, .inr (.inr (.inr (.inr (fun _ => none)))))), (xp, .inl (cP, 8, .inr (.inr (.inr (.inr (fun _ => none)))))), (xl, .inr (4, [.ref xn, .ref xm])), (xn, .inl (cn, 64, .inr (.inl (fun _ => 0)))), (xm, .inl (cm, 64, .inr (.inl (fun _ => 0)))), (xr, .inr (6, [.ref xw, .ref xt])), (xw, .inl (cw, 8, .inr (.inl (fun _ => 0)))), (xt, .inl (ct, 8, .inr (.inl (fun _ => 0)))), (o, .inl (cO, 1, .inr (.inl (fun _ => 0))))] sz) := by
  refine ax_MetWH (cc := cL_set) (maxL := 5) (ret := (some .int)) (by decide) rfl ?_
  intro p e s m args below meth c s₁ B hml hv
  obtain ⟨rfl, hsz, hP, hK, hD0, hE⟩ := hv
  have hx := B.exec
  have hb := B.bytes
  have hr := B.returns
  have hts := atoms_spec (ws := wl_set) B.pre
  have hown : s.vm.findClass RL = some m.cls := findClass_of_methodNamed B.named
  have hlocks := B.notSynchronized
  have htab := vx_table (x := yL_set) B (hts _ List.mem_cons_self)
  subst hsz
  have hD := hD0.self (sz := s.heap.size)
  generalize hAe : va_A [(x, .inr (8, [.ref xs, .ref xp, .int 0, .int 0, .ref xl, .ref xr])), (xs, .inl (cS, 3, .inr (.inr (.inr (.inr (fun _ => none)))))), (xp, .inl (cP, 8, .inr (.inr (.inr (.inr (fun _ => none)))))), (xl, .inr (4, [.ref xn, .ref xm])), (xn, .inl (cn, 64, .inr (.inl (fun _ => 0)))), (xm, .inl (cm, 64, .inr (.inl (fun _ => 0)))), (xr, .inr (6, [.ref xw, .ref xt])), (xw, .inl (cw, 8, .inr (.inl (fun _ => 0)))), (xt, .inl (ct, 8, .inr (.inl (fun _ => 0)))), (o, .inl (cO, 1, .inr (.inl (fun _ => 0))))] s.heap.size = A at hD hE ⊢
  have hA : ∀ q : Nat, s.heap.size ≤ q → A q := fun q h => by rw [← hAe]; exact Or.inr h
  have hS : va_S A s.heap s.heap [] := va_S.rf
  have hl := lv_entry ([.ref x, .int p1, .int p2, .ref o]) (n := 5) (Nat.le_of_ble_eq_true rfl)
  rw [lg_entry_eq]
  generalize (lg_sl ([.ref x, .int p1, .int p2, .ref o]) ++ List.replicate (5 - (lg_sl ([.ref x, .int p1, .int p2, .ref o])).length) Slot.unset).toArray = ls at hl ⊢
  have hl : lv_has ls 5 [(0, .ref x), (1, .int p1), (2, .int p2), (3, .ref o)] := hl
  have hP : va_P (dC, dI) vwCl [(x, .inr (8, [.ref xs, .ref xp, .int 0, .int 0, .ref xl, .ref xr])), (xs, .inl (cS, 3, .inr (.inr (.inr (.inr (fun _ => none)))))), (xp, .inl (cP, 8, .inr (.inr (.inr (.inr (fun _ => none)))))), (xl, .inr (4, [.ref xn, .ref xm])), (xn, .inl (cn, 64, .inr (.inl (fun _ => 0)))), (xm, .inl (cm, 64, .inr (.inl (fun _ => 0)))), (xr, .inr (6, [.ref xw, .ref xt])), (xw, .inl (cw, 8, .inr (.inl (fun _ => 0)))), (xt, .inl (ct, 8, .inr (.inl (fun _ => 0)))), (o, .inl (cO, 1, .inr (.inl (fun _ => 0))))] s.heap := hP
  refine lv_aload_n hx hb dL_set_0 rfl (lv_at hl 3 rfl) ?_
  refine lv_iconst (v := 0) hx hb dL_set_1 (by decide) ?_
  refine lv_aload_n hx hb dL_set_2 rfl (lv_at hl 0 rfl) ?_
  refine lv_iload_n hx hb dL_set_3 rfl (lv_at hl 1 rfl) ?_
  refine lv_iload_n hx hb dL_set_4 rfl (lv_at hl 2 rfl) ?_
  have hPc := hP.sub (ws' := [(x, .inr (8, [.ref xs, .ref xp, .int 0, .int 0, .ref xl, .ref xr])), (xs, .inl (cS, 3, .inr (.inr (.inr (.inr (fun _ => none)))))), (xp, .inl (cP, 8, .inr (.inr (.inr (.inr (fun _ => none)))))), (xl, .inr (4, [.ref xn, .ref xm])), (xn, .inl (cn, 64, .inr (.inl (fun _ => 0)))), (xm, .inl (cm, 64, .inr (.inl (fun _ => 0)))), (xr, .inr (6, [.ref xw, .ref xt])), (xw, .inl (cw, 8, .inr (.inl (fun _ => 0)))), (xt, .inl (ct, 8, .inr (.inl (fun _ => 0))))]) [0, 1, 2, 3, 4, 5, 6, 7, 8] rfl
  have hKc := hK.sub (tys' := [(cS, .object "Diffractory$Source"), (cP, .object "Diffractory$Part"), (cn, .long), (cm, .long), (cw, .long), (ct, .long)]) [0, 1, 2, 3, 4, 5] rfl
  refine vx_calli (vx_runV (As := [.int p1, .int p2]) (rest := [.int 0, .ref o]) ⟨hx, hb, hml, hown, hts⟩ (c_X4_set l hlt dC dI x xs xp xl xn xm xr xw xt cS cP cn cm cw ct sa ta p1 p2) (cwV 2 hts gw_set rfl rfl rfl (by decide +kernel) ⟨Nat.le_of_ble_eq_true rfl, Nat.le_of_ble_eq_true rfl⟩) ⟨ax_fbR, va_recv hK hP (ci := 8) (q0 := 0) rfl rfl, ax_prR hPc hKc hS hE⟩ rfl rfl hl.1 rfl (lv_room (Nat.le_of_ble_eq_true rfl)) dL_set_5 ⟨Nat.le_of_ble_eq_true rfl, Nat.le_of_ble_eq_true rfl⟩) hS (fun _ _ h9 => h9.elim) (fun _ h9 => h9.elim) (fun _ _ h9 => h9.elim) (fun E9 ce9 q9 u9 t H locs ht hvm hw9 hB hz1 hk1 hS hce hcv hcl => ?_) (fun r_1 u_3  t H locs ht hvm hw_2 hB hz1 hk1 hS => ?_)
  · subst hB
    have hP := ax_keep hP (fun _ h9 => h9) hk1
    have hP : va_P (dC, dI) vwCl [(x, .inr (8, [.ref xs, .ref xp, .int 0, .int 0, .ref xl, .ref xr])), (xs, .inl (cS, 3, .inr (.inr (.inr (.inr (fun _ => none)))))), (xp, .inl (cP, 8, .inr (.inr (.inr (.inr (fun _ => none)))))), (xl, .inr (4, [.ref xn, .ref xm])), (xn, .inl (cn, 64, .inr (.inl (fun _ => 0)))), (xm, .inl (cm, 64, .inr (.inl (fun _ => 0)))), (xr, .inr (6, [.ref xw, .ref xt])), (xw, .inl (cw, 8, .inr (.inl (fun _ => 0)))), (xt, .inl (ct, 8, .inr (.inl (fun _ => 0)))), (o, .inl (cO, 1, .inr (.inl (fun _ => 0))))] H := hP
    have hD : va_D A [(x, .inr (8, [.ref xs, .ref xp, .int 0, .int 0, .ref xl, .ref xr])), (xs, .inl (cS, 3, .inr (.inr (.inr (.inr (fun _ => none)))))), (xp, .inl (cP, 8, .inr (.inr (.inr (.inr (fun _ => none)))))), (xl, .inr (4, [.ref xn, .ref xm])), (xn, .inl (cn, 64, .inr (.inl (fun _ => 0)))), (xm, .inl (cm, 64, .inr (.inl (fun _ => 0)))), (xr, .inr (6, [.ref xw, .ref xt])), (xw, .inl (cw, 8, .inr (.inl (fun _ => 0)))), (xt, .inl (ct, 8, .inr (.inl (fun _ => 0)))), (o, .inl (cO, 1, .inr (.inl (fun _ => 0))))] := hD
    refine vx_catch (name := "java/lang/IndexOutOfBoundsException") hown [] ⟨0, 10, 13, 21⟩ [⟨0, 10, 17, 13⟩] (htab.trans rfl) (fun z h9 => nomatch h9) (by decide) (by decide) (hts (.classLink RL 21 "java/lang/IndexOutOfBoundsException") (by decide +kernel)) (va_Nw.use rfl hE.c2) hce hcv hcl ?_
    refine lv_astore (lv' := [(4, .ref q9), (0, .ref x), (1, .int p1), (2, .int p2), (3, .ref o)]) hx hb dL_set_13 hl (by decide) rfl (fun ls hl => ?_)
    refine lv_iconst (v := 1) hx hb dL_set_15 (by decide) ?_
    refine W.widen (k := 1) (n := 6) (Nat.le_of_ble_eq_true rfl) (Nat.le_of_ble_eq_true rfl) ?_
    have hP9 := hP.sub (ws' := [(o, .inl (cO, 1, .inr (.inl (fun _ => 0))))]) [9] rfl
    have hD9 := hD.sub (ws' := [(o, .inl (cO, 1, .inr (.inl (fun _ => 0))))]) [9] (by decide) rfl
    have hK9 := hK.sub (tys' := [(cO, .long)]) [6] rfl
    exact W.iret (v := 1) hx hb hr (fun t ht hW => ⟨⟨1, (fun _ => 0), rfl, rfl, by rw [ht]; exact hP9, va_K.moved hW.alike hK9, hD9⟩, hS.F ht⟩) hS.2.2 dL_set_16
  · have hP := ax_keep hP (fun _ h9 => h9) hk1
    exact hw_2.elim

set_option maxHeartbeats 4000000 in
set_option maxRecDepth 100000 in
theorem c_L_put (l : Launch) (hlt : l.stackTraces = false) (dC : Nat → ClassId) (dI : Nat → Nat → Nat) (x xs xp xl xn xm xr xw xt o : Nat) (cS cP cn cm cw ct cO : ClassId) (sa ta : Nat → Nat) (sz : Nat) (p1 : Int32) (p2 : Int32) : Met l yL_put wl_put ({ frames := 24, cells := 1, slots := 6, locals := 600 }) (va_Pc [.ref x, .int p1, .int p2, .ref o] (ax_W (dC, dI) vwCl [(x, .inr (8, [.ref xs, .ref xp, .int 0, .int 0, .ref xl, .ref xr])), (xs, .inl (cS, 3, .inr (.inr (.inr (.inr (fun _ => none)))))), (xp, .inl (cP, 8, .inr (.inr (.inr (.inr (fun _ => none)))))), (xl, .inr (4, [.ref xn, .ref xm])), (xn, .inl (cn, 64, .inr (.inl (fun _ => 0)))), (xm, .inl (cm, 64, .inr (.inl (fun _ => 0)))), (xr, .inr (6, [.ref xw, .ref xt])), (xw, .inl (cw, 8, .inr (.inl (fun _ => 0)))), (xt, .inl (ct, 8, .inr (.inl (fun _ => 0)))), (o, .inl (cO, 1, .inr (.inl (fun _ => 0))))] [(cS, .object "Diffractory$Source"), (cP, .object "Diffractory$Part"), (cn, .long), (cm, .long), (cw, .long), (ct, .long), (cO, .long)] sa ta sz)) (va_Qi (fun (r : Int32) (u : Nat → Int64) => r = 1) (fun (u : Nat → Int64) (t : State) => va_P (dC, dI) vwCl [(o, .inl (cO, 1, .inr (.inl u)))] t.heap ∧ va_K (dC, dI) vwCl [(cO, .long)] t ∧ va_D (va_A [(x, .inr (8, [.ref xs, .ref xp, .int 0, .int 0, .ref xl, .ref xr])), (xs, .inl (cS, 3, .inr (.inr (.inr (.inr (fun _ => none)))))), (xp, .inl (cP, 8, .inr (.inr (.inr (.inr (fun _ => none)))))), (xl, .inr (4, [.ref xn, .ref xm])), (xn, .inl (cn, 64, .inr (.inl (fun _ => 0)))), (xm, .inl (cm, 64, .inr (.inl (fun _ => 0)))), (xr, .inr (6, [.ref xw, .ref xt])), (xw, .inl (cw, 8, .inr (.inl (fun _ => 0)))), (xt, .inl (ct, 8, .inr (.inl (fun _ => 0)))), (o, .inl (cO, 1, .inr (.inl (fun _ => 0))))] sz) [(o, .inl (cO, 1, .inr (.inl u)))]) (va_A [(x, .inr (8, [.ref xs, .ref xp, .int 0, .int 0, .ref xl, .ref xr])), (xs, .inl (cS, 3, .inr (.inr (.inr (.inr (fun _ => none)))))), (xp, .inl (cP, 8, .inr (.inr (.inr (.inr (fun _ => none)))))), (xl, .inr (4, [.ref xn, .ref xm])), (xn, .inl (cn, 64, .inr (.inl (fun _ => 0)))), (xm, .inl (cm, 64, .inr (.inl (fun _ => 0)))), (xr, .inr (6, [.ref xw, .ref xt])), (xw, .inl (cw, 8, .inr (.inl (fun _ => 0)))), (xt, .inl (ct, 8, .inr (.inl (fun _ => 0)))), (o, .inl (cO, 1, .inr (.inl (fun _ => 0))))] sz)) 1 6 (va_A [(x, .inr (8, [.ref xs, .ref xp, .int 0, .int 0, .ref xl, .ref xr])), (xs, .inl (cS, 3, .inr (.inr (.inr (.inr (fun _ => none)))))), (xp, .inl (cP, 8, .inr (.inr (.inr (.inr (fun _ => none)))))), (xl, .inr (4, [.ref xn, .ref xm])), (xn, .inl (cn, 64, .inr (.inl (fun _ => 0)))), (xm, .inl (cm, 64, .inr (.inl (fun _ => 0)))), (xr, .inr (6, [.ref xw, .ref xt])), (xw, .inl (cw, 8, .inr (.inl (fun _ => 0)))), (xt, .inl (ct, 8, .inr (.inl (fun _ => 0)))), (o, .inl (cO, 1, .inr (.inl (fun _ => 0))))] sz) := by
  refine ax_MetWH (cc := cL_put) (maxL := 5) (ret := (some .int)) (by decide) rfl ?_
  intro p e s m args below meth c s₁ B hml hv
  obtain ⟨rfl, hsz, hP, hK, hD0, hE⟩ := hv
  have hx := B.exec
  have hb := B.bytes
  have hr := B.returns
  have hts := atoms_spec (ws := wl_put) B.pre
  have hown : s.vm.findClass RL = some m.cls := findClass_of_methodNamed B.named
  have hlocks := B.notSynchronized
  have htab := vx_table (x := yL_put) B (hts _ List.mem_cons_self)
  subst hsz
  have hD := hD0.self (sz := s.heap.size)
  generalize hAe : va_A [(x, .inr (8, [.ref xs, .ref xp, .int 0, .int 0, .ref xl, .ref xr])), (xs, .inl (cS, 3, .inr (.inr (.inr (.inr (fun _ => none)))))), (xp, .inl (cP, 8, .inr (.inr (.inr (.inr (fun _ => none)))))), (xl, .inr (4, [.ref xn, .ref xm])), (xn, .inl (cn, 64, .inr (.inl (fun _ => 0)))), (xm, .inl (cm, 64, .inr (.inl (fun _ => 0)))), (xr, .inr (6, [.ref xw, .ref xt])), (xw, .inl (cw, 8, .inr (.inl (fun _ => 0)))), (xt, .inl (ct, 8, .inr (.inl (fun _ => 0)))), (o, .inl (cO, 1, .inr (.inl (fun _ => 0))))] s.heap.size = A at hD hE ⊢
  have hA : ∀ q : Nat, s.heap.size ≤ q → A q := fun q h => by rw [← hAe]; exact Or.inr h
  have hS : va_S A s.heap s.heap [] := va_S.rf
  have hl := lv_entry ([.ref x, .int p1, .int p2, .ref o]) (n := 5) (Nat.le_of_ble_eq_true rfl)
  rw [lg_entry_eq]
  generalize (lg_sl ([.ref x, .int p1, .int p2, .ref o]) ++ List.replicate (5 - (lg_sl ([.ref x, .int p1, .int p2, .ref o])).length) Slot.unset).toArray = ls at hl ⊢
  have hl : lv_has ls 5 [(0, .ref x), (1, .int p1), (2, .int p2), (3, .ref o)] := hl
  have hP : va_P (dC, dI) vwCl [(x, .inr (8, [.ref xs, .ref xp, .int 0, .int 0, .ref xl, .ref xr])), (xs, .inl (cS, 3, .inr (.inr (.inr (.inr (fun _ => none)))))), (xp, .inl (cP, 8, .inr (.inr (.inr (.inr (fun _ => none)))))), (xl, .inr (4, [.ref xn, .ref xm])), (xn, .inl (cn, 64, .inr (.inl (fun _ => 0)))), (xm, .inl (cm, 64, .inr (.inl (fun _ => 0)))), (xr, .inr (6, [.ref xw, .ref xt])), (xw, .inl (cw, 8, .inr (.inl (fun _ => 0)))), (xt, .inl (ct, 8, .inr (.inl (fun _ => 0)))), (o, .inl (cO, 1, .inr (.inl (fun _ => 0))))] s.heap := hP
  refine lv_aload_n hx hb dL_put_0 rfl (lv_at hl 3 rfl) ?_
  refine lv_iconst (v := 0) hx hb dL_put_1 (by decide) ?_
  refine lv_aload_n hx hb dL_put_2 rfl (lv_at hl 0 rfl) ?_
  refine lv_iload_n hx hb dL_put_3 rfl (lv_at hl 1 rfl) ?_
  refine lv_iload_n hx hb dL_put_4 rfl (lv_at hl 2 rfl) ?_
  have hPc := hP.sub (ws' := [(x, .inr (8, [.ref xs, .ref xp, .int 0, .int 0, .ref xl, .ref xr])), (xs, .inl (cS, 3, .inr (.inr (.inr (.inr (fun _ => none)))))), (xp, .inl (cP, 8, .inr (.inr (.inr (.inr (fun _ => none)))))), (xl, .inr (4, [.ref xn, .ref xm])), (xn, .inl (cn, 64, .inr (.inl (fun _ => 0)))), (xm, .inl (cm, 64, .inr (.inl (fun _ => 0)))), (xr, .inr (6, [.ref xw, .ref xt])), (xw, .inl (cw, 8, .inr (.inl (fun _ => 0)))), (xt, .inl (ct, 8, .inr (.inl (fun _ => 0))))]) [0, 1, 2, 3, 4, 5, 6, 7, 8] rfl
  have hKc := hK.sub (tys' := [(cS, .object "Diffractory$Source"), (cP, .object "Diffractory$Part"), (cn, .long), (cm, .long), (cw, .long), (ct, .long)]) [0, 1, 2, 3, 4, 5] rfl
  refine vx_calli (vx_runV (As := [.int p1, .int p2]) (rest := [.int 0, .ref o]) ⟨hx, hb, hml, hown, hts⟩ (c_X4_put l hlt dC dI x xs xp xl xn xm xr xw xt cS cP cn cm cw ct sa ta p1 p2) (cwV 2 hts gw_put rfl rfl rfl (by decide +kernel) ⟨Nat.le_of_ble_eq_true rfl, Nat.le_of_ble_eq_true rfl⟩) ⟨ax_fbR, va_recv hK hP (ci := 8) (q0 := 0) rfl rfl, ax_prR hPc hKc hS hE⟩ rfl rfl hl.1 rfl (lv_room (Nat.le_of_ble_eq_true rfl)) dL_put_5 ⟨Nat.le_of_ble_eq_true rfl, Nat.le_of_ble_eq_true rfl⟩) hS (fun _ _ h9 => h9.elim) (fun _ h9 => h9.elim) (fun _ _ h9 => h9.elim) (fun E9 ce9 q9 u9 t H locs ht hvm hw9 hB hz1 hk1 hS hce hcv hcl => ?_) (fun r_1 u_3  t H locs ht hvm hw_2 hB hz1 hk1 hS => ?_)
  · subst hB
    have hP := ax_keep hP (fun _ h9 => h9) hk1
    have hP : va_P (dC, dI) vwCl [(x, .inr (8, [.ref xs, .ref xp, .int 0, .int 0, .ref xl, .ref xr])), (xs, .inl (cS, 3, .inr (.inr (.inr (.inr (fun _ => none)))))), (xp, .inl (cP, 8, .inr (.inr (.inr (.inr (fun _ => none)))))), (xl, .inr (4, [.ref xn, .ref xm])), (xn, .inl (cn, 64, .inr (.inl (fun _ => 0)))), (xm, .inl (cm, 64, .inr (.inl (fun _ => 0)))), (xr, .inr (6, [.ref xw, .ref xt])), (xw, .inl (cw, 8, .inr (.inl (fun _ => 0)))), (xt, .inl (ct, 8, .inr (.inl (fun _ => 0)))), (o, .inl (cO, 1, .inr (.inl (fun _ => 0))))] H := hP
    have hD : va_D A [(x, .inr (8, [.ref xs, .ref xp, .int 0, .int 0, .ref xl, .ref xr])), (xs, .inl (cS, 3, .inr (.inr (.inr (.inr (fun _ => none)))))), (xp, .inl (cP, 8, .inr (.inr (.inr (.inr (fun _ => none)))))), (xl, .inr (4, [.ref xn, .ref xm])), (xn, .inl (cn, 64, .inr (.inl (fun _ => 0)))), (xm, .inl (cm, 64, .inr (.inl (fun _ => 0)))), (xr, .inr (6, [.ref xw, .ref xt])), (xw, .inl (cw, 8, .inr (.inl (fun _ => 0)))), (xt, .inl (ct, 8, .inr (.inl (fun _ => 0)))), (o, .inl (cO, 1, .inr (.inl (fun _ => 0))))] := hD
    refine vx_catch (name := "java/lang/IndexOutOfBoundsException") hown [] ⟨0, 17, 20, 21⟩ [] (htab.trans rfl) (fun z h9 => nomatch h9) (by decide) (by decide) (hts (.classLink RL 21 "java/lang/IndexOutOfBoundsException") (by decide +kernel)) (va_Nw.use rfl hE.c2) hce hcv hcl ?_
    refine lv_astore (lv' := [(4, .ref q9), (0, .ref x), (1, .int p1), (2, .int p2), (3, .ref o)]) hx hb dL_put_20 hl (by decide) rfl (fun ls hl => ?_)
    refine lv_iconst (v := 1) hx hb dL_put_22 (by decide) ?_
    refine W.widen (k := 1) (n := 6) (Nat.le_of_ble_eq_true rfl) (Nat.le_of_ble_eq_true rfl) ?_
    have hP9 := hP.sub (ws' := [(o, .inl (cO, 1, .inr (.inl (fun _ => 0))))]) [9] rfl
    have hD9 := hD.sub (ws' := [(o, .inl (cO, 1, .inr (.inl (fun _ => 0))))]) [9] (by decide) rfl
    have hK9 := hK.sub (tys' := [(cO, .long)]) [6] rfl
    exact W.iret (v := 1) hx hb hr (fun t ht hW => ⟨⟨1, (fun _ => 0), rfl, rfl, by rw [ht]; exact hP9, va_K.moved hW.alike hK9, hD9⟩, hS.F ht⟩) hS.2.2 dL_put_23
  · have hP := ax_keep hP (fun _ h9 => h9) hk1
    exact hw_2.elim

set_option maxHeartbeats 4000000 in
set_option maxRecDepth 100000 in
theorem c_L_dirt (l : Launch) (hlt : l.stackTraces = false) (dC : Nat → ClassId) (dI : Nat → Nat → Nat) (x xs xp xl xn xm xr xw xt o : Nat) (cS cP cn cm cw ct cO : ClassId) (sa ta : Nat → Nat) (sz : Nat) (p1 : Int32) (p2 : Int32) : Met l yL_dirt wl_dirt ({ frames := 24, cells := 1, slots := 6, locals := 600 }) (va_Pc [.ref x, .int p1, .int p2, .ref o] (ax_W (dC, dI) vwCl [(x, .inr (8, [.ref xs, .ref xp, .int 0, .int 0, .ref xl, .ref xr])), (xs, .inl (cS, 3, .inr (.inr (.inr (.inr (fun _ => none)))))), (xp, .inl (cP, 8, .inr (.inr (.inr (.inr (fun _ => none)))))), (xl, .inr (4, [.ref xn, .ref xm])), (xn, .inl (cn, 64, .inr (.inl (fun _ => 0)))), (xm, .inl (cm, 64, .inr (.inl (fun _ => 0)))), (xr, .inr (6, [.ref xw, .ref xt])), (xw, .inl (cw, 8, .inr (.inl (fun _ => 0)))), (xt, .inl (ct, 8, .inr (.inl (fun _ => 0)))), (o, .inl (cO, 1, .inr (.inl (fun _ => 0))))] [(cS, .object "Diffractory$Source"), (cP, .object "Diffractory$Part"), (cn, .long), (cm, .long), (cw, .long), (ct, .long), (cO, .long)] sa ta sz)) (va_Qi (fun (r : Int32) (u : Nat → Int64) => r = 1) (fun (u : Nat → Int64) (t : State) => va_P (dC, dI) vwCl [(o, .inl (cO, 1, .inr (.inl u)))] t.heap ∧ va_K (dC, dI) vwCl [(cO, .long)] t ∧ va_D (va_A [(x, .inr (8, [.ref xs, .ref xp, .int 0, .int 0, .ref xl, .ref xr])), (xs, .inl (cS, 3, .inr (.inr (.inr (.inr (fun _ => none)))))), (xp, .inl (cP, 8, .inr (.inr (.inr (.inr (fun _ => none)))))), (xl, .inr (4, [.ref xn, .ref xm])), (xn, .inl (cn, 64, .inr (.inl (fun _ => 0)))), (xm, .inl (cm, 64, .inr (.inl (fun _ => 0)))), (xr, .inr (6, [.ref xw, .ref xt])), (xw, .inl (cw, 8, .inr (.inl (fun _ => 0)))), (xt, .inl (ct, 8, .inr (.inl (fun _ => 0)))), (o, .inl (cO, 1, .inr (.inl (fun _ => 0))))] sz) [(o, .inl (cO, 1, .inr (.inl u)))]) (va_A [(x, .inr (8, [.ref xs, .ref xp, .int 0, .int 0, .ref xl, .ref xr])), (xs, .inl (cS, 3, .inr (.inr (.inr (.inr (fun _ => none)))))), (xp, .inl (cP, 8, .inr (.inr (.inr (.inr (fun _ => none)))))), (xl, .inr (4, [.ref xn, .ref xm])), (xn, .inl (cn, 64, .inr (.inl (fun _ => 0)))), (xm, .inl (cm, 64, .inr (.inl (fun _ => 0)))), (xr, .inr (6, [.ref xw, .ref xt])), (xw, .inl (cw, 8, .inr (.inl (fun _ => 0)))), (xt, .inl (ct, 8, .inr (.inl (fun _ => 0)))), (o, .inl (cO, 1, .inr (.inl (fun _ => 0))))] sz)) 1 6 (va_A [(x, .inr (8, [.ref xs, .ref xp, .int 0, .int 0, .ref xl, .ref xr])), (xs, .inl (cS, 3, .inr (.inr (.inr (.inr (fun _ => none)))))), (xp, .inl (cP, 8, .inr (.inr (.inr (.inr (fun _ => none)))))), (xl, .inr (4, [.ref xn, .ref xm])), (xn, .inl (cn, 64, .inr (.inl (fun _ => 0)))), (xm, .inl (cm, 64, .inr (.inl (fun _ => 0)))), (xr, .inr (6, [.ref xw, .ref xt])), (xw, .inl (cw, 8, .inr (.inl (fun _ => 0)))), (xt, .inl (ct, 8, .inr (.inl (fun _ => 0)))), (o, .inl (cO, 1, .inr (.inl (fun _ => 0))))] sz) := by
  refine ax_MetWH (cc := cL_dirt) (maxL := 5) (ret := (some .int)) (by decide) rfl ?_
  intro p e s m args below meth c s₁ B hml hv
  obtain ⟨rfl, hsz, hP, hK, hD0, hE⟩ := hv
  have hx := B.exec
  have hb := B.bytes
  have hr := B.returns
  have hts := atoms_spec (ws := wl_dirt) B.pre
  have hown : s.vm.findClass RL = some m.cls := findClass_of_methodNamed B.named
  have hlocks := B.notSynchronized
  have htab := vx_table (x := yL_dirt) B (hts _ List.mem_cons_self)
  subst hsz
  have hD := hD0.self (sz := s.heap.size)
  generalize hAe : va_A [(x, .inr (8, [.ref xs, .ref xp, .int 0, .int 0, .ref xl, .ref xr])), (xs, .inl (cS, 3, .inr (.inr (.inr (.inr (fun _ => none)))))), (xp, .inl (cP, 8, .inr (.inr (.inr (.inr (fun _ => none)))))), (xl, .inr (4, [.ref xn, .ref xm])), (xn, .inl (cn, 64, .inr (.inl (fun _ => 0)))), (xm, .inl (cm, 64, .inr (.inl (fun _ => 0)))), (xr, .inr (6, [.ref xw, .ref xt])), (xw, .inl (cw, 8, .inr (.inl (fun _ => 0)))), (xt, .inl (ct, 8, .inr (.inl (fun _ => 0)))), (o, .inl (cO, 1, .inr (.inl (fun _ => 0))))] s.heap.size = A at hD hE ⊢
  have hA : ∀ q : Nat, s.heap.size ≤ q → A q := fun q h => by rw [← hAe]; exact Or.inr h
  have hS : va_S A s.heap s.heap [] := va_S.rf
  have hl := lv_entry ([.ref x, .int p1, .int p2, .ref o]) (n := 5) (Nat.le_of_ble_eq_true rfl)
  rw [lg_entry_eq]
  generalize (lg_sl ([.ref x, .int p1, .int p2, .ref o]) ++ List.replicate (5 - (lg_sl ([.ref x, .int p1, .int p2, .ref o])).length) Slot.unset).toArray = ls at hl ⊢
  have hl : lv_has ls 5 [(0, .ref x), (1, .int p1), (2, .int p2), (3, .ref o)] := hl
  have hP : va_P (dC, dI) vwCl [(x, .inr (8, [.ref xs, .ref xp, .int 0, .int 0, .ref xl, .ref xr])), (xs, .inl (cS, 3, .inr (.inr (.inr (.inr (fun _ => none)))))), (xp, .inl (cP, 8, .inr (.inr (.inr (.inr (fun _ => none)))))), (xl, .inr (4, [.ref xn, .ref xm])), (xn, .inl (cn, 64, .inr (.inl (fun _ => 0)))), (xm, .inl (cm, 64, .inr (.inl (fun _ => 0)))), (xr, .inr (6, [.ref xw, .ref xt])), (xw, .inl (cw, 8, .inr (.inl (fun _ => 0)))), (xt, .inl (ct, 8, .inr (.inl (fun _ => 0)))), (o, .inl (cO, 1, .inr (.inl (fun _ => 0))))] s.heap := hP
  refine lv_aload_n hx hb dL_dirt_0 rfl (lv_at hl 3 rfl) ?_
  refine lv_iconst (v := 0) hx hb dL_dirt_1 (by decide) ?_
  refine lv_aload_n hx hb dL_dirt_2 rfl (lv_at hl 0 rfl) ?_
  refine lv_iload_n hx hb dL_dirt_3 rfl (lv_at hl 1 rfl) ?_
  refine lv_iload_n hx hb dL_dirt_4 rfl (lv_at hl 2 rfl) ?_
  have hPc := hP.sub (ws' := [(x, .inr (8, [.ref xs, .ref xp, .int 0, .int 0, .ref xl, .ref xr])), (xs, .inl (cS, 3, .inr (.inr (.inr (.inr (fun _ => none)))))), (xp, .inl (cP, 8, .inr (.inr (.inr (.inr (fun _ => none)))))), (xl, .inr (4, [.ref xn, .ref xm])), (xn, .inl (cn, 64, .inr (.inl (fun _ => 0)))), (xm, .inl (cm, 64, .inr (.inl (fun _ => 0)))), (xr, .inr (6, [.ref xw, .ref xt])), (xw, .inl (cw, 8, .inr (.inl (fun _ => 0)))), (xt, .inl (ct, 8, .inr (.inl (fun _ => 0))))]) [0, 1, 2, 3, 4, 5, 6, 7, 8] rfl
  have hKc := hK.sub (tys' := [(cS, .object "Diffractory$Source"), (cP, .object "Diffractory$Part"), (cn, .long), (cm, .long), (cw, .long), (ct, .long)]) [0, 1, 2, 3, 4, 5] rfl
  refine vx_calli (vx_runV (As := [.int p1, .int p2]) (rest := [.int 0, .ref o]) ⟨hx, hb, hml, hown, hts⟩ (c_X4_dirt l hlt dC dI x xs xp xl xn xm xr xw xt cS cP cn cm cw ct sa ta p1 p2) (cwV 2 hts gw_dirt rfl rfl rfl (by decide +kernel) ⟨Nat.le_of_ble_eq_true rfl, Nat.le_of_ble_eq_true rfl⟩) ⟨ax_fbR, va_recv hK hP (ci := 8) (q0 := 0) rfl rfl, ax_prR hPc hKc hS hE⟩ rfl rfl hl.1 rfl (lv_room (Nat.le_of_ble_eq_true rfl)) dL_dirt_5 ⟨Nat.le_of_ble_eq_true rfl, Nat.le_of_ble_eq_true rfl⟩) hS (fun _ _ h9 => h9.elim) (fun _ h9 => h9.elim) (fun _ _ h9 => h9.elim) (fun E9 ce9 q9 u9 t H locs ht hvm hw9 hB hz1 hk1 hS hce hcv hcl => ?_) (fun r_1 u_3  t H locs ht hvm hw_2 hB hz1 hk1 hS => ?_)
  · subst hB
    have hP := ax_keep hP (fun _ h9 => h9) hk1
    have hP : va_P (dC, dI) vwCl [(x, .inr (8, [.ref xs, .ref xp, .int 0, .int 0, .ref xl, .ref xr])), (xs, .inl (cS, 3, .inr (.inr (.inr (.inr (fun _ => none)))))), (xp, .inl (cP, 8, .inr (.inr (.inr (.inr (fun _ => none)))))), (xl, .inr (4, [.ref xn, .ref xm])), (xn, .inl (cn, 64, .inr (.inl (fun _ => 0)))), (xm, .inl (cm, 64, .inr (.inl (fun _ => 0)))), (xr, .inr (6, [.ref xw, .ref xt])), (xw, .inl (cw, 8, .inr (.inl (fun _ => 0)))), (xt, .inl (ct, 8, .inr (.inl (fun _ => 0)))), (o, .inl (cO, 1, .inr (.inl (fun _ => 0))))] H := hP
    have hD : va_D A [(x, .inr (8, [.ref xs, .ref xp, .int 0, .int 0, .ref xl, .ref xr])), (xs, .inl (cS, 3, .inr (.inr (.inr (.inr (fun _ => none)))))), (xp, .inl (cP, 8, .inr (.inr (.inr (.inr (fun _ => none)))))), (xl, .inr (4, [.ref xn, .ref xm])), (xn, .inl (cn, 64, .inr (.inl (fun _ => 0)))), (xm, .inl (cm, 64, .inr (.inl (fun _ => 0)))), (xr, .inr (6, [.ref xw, .ref xt])), (xw, .inl (cw, 8, .inr (.inl (fun _ => 0)))), (xt, .inl (ct, 8, .inr (.inl (fun _ => 0)))), (o, .inl (cO, 1, .inr (.inl (fun _ => 0))))] := hD
    refine vx_catch (name := "java/lang/IndexOutOfBoundsException") hown [] ⟨0, 10, 13, 21⟩ [⟨0, 10, 17, 13⟩] (htab.trans rfl) (fun z h9 => nomatch h9) (by decide) (by decide) (hts (.classLink RL 21 "java/lang/IndexOutOfBoundsException") (by decide +kernel)) (va_Nw.use rfl hE.c2) hce hcv hcl ?_
    refine lv_astore (lv' := [(4, .ref q9), (0, .ref x), (1, .int p1), (2, .int p2), (3, .ref o)]) hx hb dL_dirt_13 hl (by decide) rfl (fun ls hl => ?_)
    refine lv_iconst (v := 1) hx hb dL_dirt_15 (by decide) ?_
    refine W.widen (k := 1) (n := 6) (Nat.le_of_ble_eq_true rfl) (Nat.le_of_ble_eq_true rfl) ?_
    have hP9 := hP.sub (ws' := [(o, .inl (cO, 1, .inr (.inl (fun _ => 0))))]) [9] rfl
    have hD9 := hD.sub (ws' := [(o, .inl (cO, 1, .inr (.inl (fun _ => 0))))]) [9] (by decide) rfl
    have hK9 := hK.sub (tys' := [(cO, .long)]) [6] rfl
    exact W.iret (v := 1) hx hb hr (fun t ht hW => ⟨⟨1, (fun _ => 0), rfl, rfl, by rw [ht]; exact hP9, va_K.moved hW.alike hK9, hD9⟩, hS.F ht⟩) hS.2.2 dL_dirt_16
  · have hP := ax_keep hP (fun _ h9 => h9) hk1
    exact hw_2.elim

set_option maxHeartbeats 4000000 in
set_option maxRecDepth 100000 in
theorem c_L_expose (l : Launch) (hlt : l.stackTraces = false) (dC : Nat → ClassId) (dI : Nat → Nat → Nat) (x xs xp xl xn xm xr xw xt o : Nat) (cS cP cn cm cw ct cO : ClassId) (sa ta : Nat → Nat) (sz : Nat) (p1 : Int32) (p2 : Int32) : Met l yL_expose wl_expose ({ frames := 24, cells := 1, slots := 6, locals := 600 }) (va_Pc [.ref x, .int p1, .int p2, .ref o] (ax_W (dC, dI) vwCl [(x, .inr (8, [.ref xs, .ref xp, .int 0, .int 0, .ref xl, .ref xr])), (xs, .inl (cS, 3, .inr (.inr (.inr (.inr (fun _ => none)))))), (xp, .inl (cP, 8, .inr (.inr (.inr (.inr (fun _ => none)))))), (xl, .inr (4, [.ref xn, .ref xm])), (xn, .inl (cn, 64, .inr (.inl (fun _ => 0)))), (xm, .inl (cm, 64, .inr (.inl (fun _ => 0)))), (xr, .inr (6, [.ref xw, .ref xt])), (xw, .inl (cw, 8, .inr (.inl (fun _ => 0)))), (xt, .inl (ct, 8, .inr (.inl (fun _ => 0)))), (o, .inl (cO, 1, .inr (.inl (fun _ => 0))))] [(cS, .object "Diffractory$Source"), (cP, .object "Diffractory$Part"), (cn, .long), (cm, .long), (cw, .long), (ct, .long), (cO, .long)] sa ta sz)) (va_Qi (fun (r : Int32) (u : Nat → Int64) => r = 1) (fun (u : Nat → Int64) (t : State) => va_P (dC, dI) vwCl [(o, .inl (cO, 1, .inr (.inl u)))] t.heap ∧ va_K (dC, dI) vwCl [(cO, .long)] t ∧ va_D (va_A [(x, .inr (8, [.ref xs, .ref xp, .int 0, .int 0, .ref xl, .ref xr])), (xs, .inl (cS, 3, .inr (.inr (.inr (.inr (fun _ => none)))))), (xp, .inl (cP, 8, .inr (.inr (.inr (.inr (fun _ => none)))))), (xl, .inr (4, [.ref xn, .ref xm])), (xn, .inl (cn, 64, .inr (.inl (fun _ => 0)))), (xm, .inl (cm, 64, .inr (.inl (fun _ => 0)))), (xr, .inr (6, [.ref xw, .ref xt])), (xw, .inl (cw, 8, .inr (.inl (fun _ => 0)))), (xt, .inl (ct, 8, .inr (.inl (fun _ => 0)))), (o, .inl (cO, 1, .inr (.inl (fun _ => 0))))] sz) [(o, .inl (cO, 1, .inr (.inl u)))]) (va_A [(x, .inr (8, [.ref xs, .ref xp, .int 0, .int 0, .ref xl, .ref xr])), (xs, .inl (cS, 3, .inr (.inr (.inr (.inr (fun _ => none)))))), (xp, .inl (cP, 8, .inr (.inr (.inr (.inr (fun _ => none)))))), (xl, .inr (4, [.ref xn, .ref xm])), (xn, .inl (cn, 64, .inr (.inl (fun _ => 0)))), (xm, .inl (cm, 64, .inr (.inl (fun _ => 0)))), (xr, .inr (6, [.ref xw, .ref xt])), (xw, .inl (cw, 8, .inr (.inl (fun _ => 0)))), (xt, .inl (ct, 8, .inr (.inl (fun _ => 0)))), (o, .inl (cO, 1, .inr (.inl (fun _ => 0))))] sz)) 1 6 (va_A [(x, .inr (8, [.ref xs, .ref xp, .int 0, .int 0, .ref xl, .ref xr])), (xs, .inl (cS, 3, .inr (.inr (.inr (.inr (fun _ => none)))))), (xp, .inl (cP, 8, .inr (.inr (.inr (.inr (fun _ => none)))))), (xl, .inr (4, [.ref xn, .ref xm])), (xn, .inl (cn, 64, .inr (.inl (fun _ => 0)))), (xm, .inl (cm, 64, .inr (.inl (fun _ => 0)))), (xr, .inr (6, [.ref xw, .ref xt])), (xw, .inl (cw, 8, .inr (.inl (fun _ => 0)))), (xt, .inl (ct, 8, .inr (.inl (fun _ => 0)))), (o, .inl (cO, 1, .inr (.inl (fun _ => 0))))] sz) := by
  refine ax_MetWH (cc := cL_expose) (maxL := 5) (ret := (some .int)) (by decide) rfl ?_
  intro p e s m args below meth c s₁ B hml hv
  obtain ⟨rfl, hsz, hP, hK, hD0, hE⟩ := hv
  have hx := B.exec
  have hb := B.bytes
  have hr := B.returns
  have hts := atoms_spec (ws := wl_expose) B.pre
  have hown : s.vm.findClass RL = some m.cls := findClass_of_methodNamed B.named
  have hlocks := B.notSynchronized
  have htab := vx_table (x := yL_expose) B (hts _ List.mem_cons_self)
  subst hsz
  have hD := hD0.self (sz := s.heap.size)
  generalize hAe : va_A [(x, .inr (8, [.ref xs, .ref xp, .int 0, .int 0, .ref xl, .ref xr])), (xs, .inl (cS, 3, .inr (.inr (.inr (.inr (fun _ => none)))))), (xp, .inl (cP, 8, .inr (.inr (.inr (.inr (fun _ => none)))))), (xl, .inr (4, [.ref xn, .ref xm])), (xn, .inl (cn, 64, .inr (.inl (fun _ => 0)))), (xm, .inl (cm, 64, .inr (.inl (fun _ => 0)))), (xr, .inr (6, [.ref xw, .ref xt])), (xw, .inl (cw, 8, .inr (.inl (fun _ => 0)))), (xt, .inl (ct, 8, .inr (.inl (fun _ => 0)))), (o, .inl (cO, 1, .inr (.inl (fun _ => 0))))] s.heap.size = A at hD hE ⊢
  have hA : ∀ q : Nat, s.heap.size ≤ q → A q := fun q h => by rw [← hAe]; exact Or.inr h
  have hS : va_S A s.heap s.heap [] := va_S.rf
  have hl := lv_entry ([.ref x, .int p1, .int p2, .ref o]) (n := 5) (Nat.le_of_ble_eq_true rfl)
  rw [lg_entry_eq]
  generalize (lg_sl ([.ref x, .int p1, .int p2, .ref o]) ++ List.replicate (5 - (lg_sl ([.ref x, .int p1, .int p2, .ref o])).length) Slot.unset).toArray = ls at hl ⊢
  have hl : lv_has ls 5 [(0, .ref x), (1, .int p1), (2, .int p2), (3, .ref o)] := hl
  have hP : va_P (dC, dI) vwCl [(x, .inr (8, [.ref xs, .ref xp, .int 0, .int 0, .ref xl, .ref xr])), (xs, .inl (cS, 3, .inr (.inr (.inr (.inr (fun _ => none)))))), (xp, .inl (cP, 8, .inr (.inr (.inr (.inr (fun _ => none)))))), (xl, .inr (4, [.ref xn, .ref xm])), (xn, .inl (cn, 64, .inr (.inl (fun _ => 0)))), (xm, .inl (cm, 64, .inr (.inl (fun _ => 0)))), (xr, .inr (6, [.ref xw, .ref xt])), (xw, .inl (cw, 8, .inr (.inl (fun _ => 0)))), (xt, .inl (ct, 8, .inr (.inl (fun _ => 0)))), (o, .inl (cO, 1, .inr (.inl (fun _ => 0))))] s.heap := hP
  refine lv_aload_n hx hb dL_expose_0 rfl (lv_at hl 3 rfl) ?_
  refine lv_iconst (v := 0) hx hb dL_expose_1 (by decide) ?_
  refine lv_aload_n hx hb dL_expose_2 rfl (lv_at hl 0 rfl) ?_
  refine lv_iload_n hx hb dL_expose_3 rfl (lv_at hl 1 rfl) ?_
  refine lv_iload_n hx hb dL_expose_4 rfl (lv_at hl 2 rfl) ?_
  have hPc := hP.sub (ws' := [(x, .inr (8, [.ref xs, .ref xp, .int 0, .int 0, .ref xl, .ref xr])), (xs, .inl (cS, 3, .inr (.inr (.inr (.inr (fun _ => none)))))), (xp, .inl (cP, 8, .inr (.inr (.inr (.inr (fun _ => none)))))), (xl, .inr (4, [.ref xn, .ref xm])), (xn, .inl (cn, 64, .inr (.inl (fun _ => 0)))), (xm, .inl (cm, 64, .inr (.inl (fun _ => 0)))), (xr, .inr (6, [.ref xw, .ref xt])), (xw, .inl (cw, 8, .inr (.inl (fun _ => 0)))), (xt, .inl (ct, 8, .inr (.inl (fun _ => 0))))]) [0, 1, 2, 3, 4, 5, 6, 7, 8] rfl
  have hKc := hK.sub (tys' := [(cS, .object "Diffractory$Source"), (cP, .object "Diffractory$Part"), (cn, .long), (cm, .long), (cw, .long), (ct, .long)]) [0, 1, 2, 3, 4, 5] rfl
  refine vx_calli (vx_runV (As := [.int p1, .int p2]) (rest := [.int 0, .ref o]) ⟨hx, hb, hml, hown, hts⟩ (c_X4_expose l hlt dC dI x xs xp xl xn xm xr xw xt cS cP cn cm cw ct sa ta p1 p2) (cwV 2 hts gw_expose rfl rfl rfl (by decide +kernel) ⟨Nat.le_of_ble_eq_true rfl, Nat.le_of_ble_eq_true rfl⟩) ⟨ax_fbR, va_recv hK hP (ci := 8) (q0 := 0) rfl rfl, ax_prR hPc hKc hS hE⟩ rfl rfl hl.1 rfl (lv_room (Nat.le_of_ble_eq_true rfl)) dL_expose_5 ⟨Nat.le_of_ble_eq_true rfl, Nat.le_of_ble_eq_true rfl⟩) hS (fun _ _ h9 => h9.elim) (fun _ h9 => h9.elim) (fun _ _ h9 => h9.elim) (fun E9 ce9 q9 u9 t H locs ht hvm hw9 hB hz1 hk1 hS hce hcv hcl => ?_) (fun r_1 u_3  t H locs ht hvm hw_2 hB hz1 hk1 hS => ?_)
  · subst hB
    have hP := ax_keep hP (fun _ h9 => h9) hk1
    have hP : va_P (dC, dI) vwCl [(x, .inr (8, [.ref xs, .ref xp, .int 0, .int 0, .ref xl, .ref xr])), (xs, .inl (cS, 3, .inr (.inr (.inr (.inr (fun _ => none)))))), (xp, .inl (cP, 8, .inr (.inr (.inr (.inr (fun _ => none)))))), (xl, .inr (4, [.ref xn, .ref xm])), (xn, .inl (cn, 64, .inr (.inl (fun _ => 0)))), (xm, .inl (cm, 64, .inr (.inl (fun _ => 0)))), (xr, .inr (6, [.ref xw, .ref xt])), (xw, .inl (cw, 8, .inr (.inl (fun _ => 0)))), (xt, .inl (ct, 8, .inr (.inl (fun _ => 0)))), (o, .inl (cO, 1, .inr (.inl (fun _ => 0))))] H := hP
    have hD : va_D A [(x, .inr (8, [.ref xs, .ref xp, .int 0, .int 0, .ref xl, .ref xr])), (xs, .inl (cS, 3, .inr (.inr (.inr (.inr (fun _ => none)))))), (xp, .inl (cP, 8, .inr (.inr (.inr (.inr (fun _ => none)))))), (xl, .inr (4, [.ref xn, .ref xm])), (xn, .inl (cn, 64, .inr (.inl (fun _ => 0)))), (xm, .inl (cm, 64, .inr (.inl (fun _ => 0)))), (xr, .inr (6, [.ref xw, .ref xt])), (xw, .inl (cw, 8, .inr (.inl (fun _ => 0)))), (xt, .inl (ct, 8, .inr (.inl (fun _ => 0)))), (o, .inl (cO, 1, .inr (.inl (fun _ => 0))))] := hD
    refine vx_catch (name := "java/lang/IndexOutOfBoundsException") hown [] ⟨0, 10, 13, 21⟩ [⟨0, 10, 17, 13⟩, ⟨0, 10, 21, 15⟩] (htab.trans rfl) (fun z h9 => nomatch h9) (by decide) (by decide) (hts (.classLink RL 21 "java/lang/IndexOutOfBoundsException") (by decide +kernel)) (va_Nw.use rfl hE.c2) hce hcv hcl ?_
    refine lv_astore (lv' := [(4, .ref q9), (0, .ref x), (1, .int p1), (2, .int p2), (3, .ref o)]) hx hb dL_expose_13 hl (by decide) rfl (fun ls hl => ?_)
    refine lv_iconst (v := 1) hx hb dL_expose_15 (by decide) ?_
    refine W.widen (k := 1) (n := 6) (Nat.le_of_ble_eq_true rfl) (Nat.le_of_ble_eq_true rfl) ?_
    have hP9 := hP.sub (ws' := [(o, .inl (cO, 1, .inr (.inl (fun _ => 0))))]) [9] rfl
    have hD9 := hD.sub (ws' := [(o, .inl (cO, 1, .inr (.inl (fun _ => 0))))]) [9] (by decide) rfl
    have hK9 := hK.sub (tys' := [(cO, .long)]) [6] rfl
    exact W.iret (v := 1) hx hb hr (fun t ht hW => ⟨⟨1, (fun _ => 0), rfl, rfl, by rw [ht]; exact hP9, va_K.moved hW.alike hK9, hD9⟩, hS.F ht⟩) hS.2.2 dL_expose_16
  · have hP := ax_keep hP (fun _ h9 => h9) hk1
    exact hw_2.elim

set_option maxHeartbeats 4000000 in
set_option maxRecDepth 100000 in
theorem c_L_amplitude (l : Launch) (hlt : l.stackTraces = false) (dC : Nat → ClassId) (dI : Nat → Nat → Nat) (x xs xp xl xn xm xr xw xt o : Nat) (cS cP cn cm cw ct cO : ClassId) (sa ta : Nat → Nat) (sz : Nat) (p1 : Int32) (p2 : Int32) (p3 : Int32) (p4 : Int32) : Met l yL_amplitude wl_amplitude ({ frames := 24, cells := 2, slots := 12, locals := 600 }) (va_Pc [.ref x, .int p1, .int p2, .int p3, .int p4, .ref o] (ax_W (dC, dI) vwCl [(x, .inr (8, [.ref xs, .ref xp, .int 0, .int 0, .ref xl, .ref xr])), (xs, .inl (cS, 3, .inr (.inr (.inr (.inr (fun _ => none)))))), (xp, .inl (cP, 8, .inr (.inr (.inr (.inr (fun _ => none)))))), (xl, .inr (4, [.ref xn, .ref xm])), (xn, .inl (cn, 64, .inr (.inl (fun _ => 0)))), (xm, .inl (cm, 64, .inr (.inl (fun _ => 0)))), (xr, .inr (6, [.ref xw, .ref xt])), (xw, .inl (cw, 8, .inr (.inl (fun _ => 0)))), (xt, .inl (ct, 8, .inr (.inl (fun _ => 0)))), (o, .inl (cO, 1, .inr (.inl (fun _ => 0))))] [(cS, .object "Diffractory$Source"), (cP, .object "Diffractory$Part"), (cn, .long), (cm, .long), (cw, .long), (ct, .long), (cO, .long)] sa ta sz)) (va_Qi (fun (r : Int32) (u : Nat → Int64) => r = 1) (fun (u : Nat → Int64) (t : State) => va_P (dC, dI) vwCl [(o, .inl (cO, 1, .inr (.inl u)))] t.heap ∧ va_K (dC, dI) vwCl [(cO, .long)] t ∧ va_D (va_A [(x, .inr (8, [.ref xs, .ref xp, .int 0, .int 0, .ref xl, .ref xr])), (xs, .inl (cS, 3, .inr (.inr (.inr (.inr (fun _ => none)))))), (xp, .inl (cP, 8, .inr (.inr (.inr (.inr (fun _ => none)))))), (xl, .inr (4, [.ref xn, .ref xm])), (xn, .inl (cn, 64, .inr (.inl (fun _ => 0)))), (xm, .inl (cm, 64, .inr (.inl (fun _ => 0)))), (xr, .inr (6, [.ref xw, .ref xt])), (xw, .inl (cw, 8, .inr (.inl (fun _ => 0)))), (xt, .inl (ct, 8, .inr (.inl (fun _ => 0)))), (o, .inl (cO, 1, .inr (.inl (fun _ => 0))))] sz) [(o, .inl (cO, 1, .inr (.inl u)))]) (va_A [(x, .inr (8, [.ref xs, .ref xp, .int 0, .int 0, .ref xl, .ref xr])), (xs, .inl (cS, 3, .inr (.inr (.inr (.inr (fun _ => none)))))), (xp, .inl (cP, 8, .inr (.inr (.inr (.inr (fun _ => none)))))), (xl, .inr (4, [.ref xn, .ref xm])), (xn, .inl (cn, 64, .inr (.inl (fun _ => 0)))), (xm, .inl (cm, 64, .inr (.inl (fun _ => 0)))), (xr, .inr (6, [.ref xw, .ref xt])), (xw, .inl (cw, 8, .inr (.inl (fun _ => 0)))), (xt, .inl (ct, 8, .inr (.inl (fun _ => 0)))), (o, .inl (cO, 1, .inr (.inl (fun _ => 0))))] sz)) 2 12 (va_A [(x, .inr (8, [.ref xs, .ref xp, .int 0, .int 0, .ref xl, .ref xr])), (xs, .inl (cS, 3, .inr (.inr (.inr (.inr (fun _ => none)))))), (xp, .inl (cP, 8, .inr (.inr (.inr (.inr (fun _ => none)))))), (xl, .inr (4, [.ref xn, .ref xm])), (xn, .inl (cn, 64, .inr (.inl (fun _ => 0)))), (xm, .inl (cm, 64, .inr (.inl (fun _ => 0)))), (xr, .inr (6, [.ref xw, .ref xt])), (xw, .inl (cw, 8, .inr (.inl (fun _ => 0)))), (xt, .inl (ct, 8, .inr (.inl (fun _ => 0)))), (o, .inl (cO, 1, .inr (.inl (fun _ => 0))))] sz) := by
  refine ax_MetWH (cc := cL_amplitude) (maxL := 7) (ret := (some .int)) (by decide) rfl ?_
  intro p e s m args below meth c s₁ B hml hv
  obtain ⟨rfl, hsz, hP, hK, hD0, hE⟩ := hv
  have hx := B.exec
  have hb := B.bytes
  have hr := B.returns
  have hts := atoms_spec (ws := wl_amplitude) B.pre
  have hown : s.vm.findClass RL = some m.cls := findClass_of_methodNamed B.named
  have hlocks := B.notSynchronized
  have htab := vx_table (x := yL_amplitude) B (hts _ List.mem_cons_self)
  subst hsz
  have hD := hD0.self (sz := s.heap.size)
  generalize hAe : va_A [(x, .inr (8, [.ref xs, .ref xp, .int 0, .int 0, .ref xl, .ref xr])), (xs, .inl (cS, 3, .inr (.inr (.inr (.inr (fun _ => none)))))), (xp, .inl (cP, 8, .inr (.inr (.inr (.inr (fun _ => none)))))), (xl, .inr (4, [.ref xn, .ref xm])), (xn, .inl (cn, 64, .inr (.inl (fun _ => 0)))), (xm, .inl (cm, 64, .inr (.inl (fun _ => 0)))), (xr, .inr (6, [.ref xw, .ref xt])), (xw, .inl (cw, 8, .inr (.inl (fun _ => 0)))), (xt, .inl (ct, 8, .inr (.inl (fun _ => 0)))), (o, .inl (cO, 1, .inr (.inl (fun _ => 0))))] s.heap.size = A at hD hE ⊢
  have hA : ∀ q : Nat, s.heap.size ≤ q → A q := fun q h => by rw [← hAe]; exact Or.inr h
  have hS : va_S A s.heap s.heap [] := va_S.rf
  have hl := lv_entry ([.ref x, .int p1, .int p2, .int p3, .int p4, .ref o]) (n := 7) (Nat.le_of_ble_eq_true rfl)
  rw [lg_entry_eq]
  generalize (lg_sl ([.ref x, .int p1, .int p2, .int p3, .int p4, .ref o]) ++ List.replicate (7 - (lg_sl ([.ref x, .int p1, .int p2, .int p3, .int p4, .ref o])).length) Slot.unset).toArray = ls at hl ⊢
  have hl : lv_has ls 7 [(0, .ref x), (1, .int p1), (2, .int p2), (3, .int p3), (4, .int p4), (5, .ref o)] := hl
  have hP : va_P (dC, dI) vwCl [(x, .inr (8, [.ref xs, .ref xp, .int 0, .int 0, .ref xl, .ref xr])), (xs, .inl (cS, 3, .inr (.inr (.inr (.inr (fun _ => none)))))), (xp, .inl (cP, 8, .inr (.inr (.inr (.inr (fun _ => none)))))), (xl, .inr (4, [.ref xn, .ref xm])), (xn, .inl (cn, 64, .inr (.inl (fun _ => 0)))), (xm, .inl (cm, 64, .inr (.inl (fun _ => 0)))), (xr, .inr (6, [.ref xw, .ref xt])), (xw, .inl (cw, 8, .inr (.inl (fun _ => 0)))), (xt, .inl (ct, 8, .inr (.inl (fun _ => 0)))), (o, .inl (cO, 1, .inr (.inl (fun _ => 0))))] s.heap := hP
  refine lv_aload hx hb dL_amplitude_0 (lv_at hl 5 rfl) ?_
  refine lv_iconst (v := 0) hx hb dL_amplitude_2 (by decide) ?_
  refine lv_aload_n hx hb dL_amplitude_3 rfl (lv_at hl 0 rfl) ?_
  refine lv_iload_n hx hb dL_amplitude_4 rfl (lv_at hl 1 rfl) ?_
  refine lv_iload_n hx hb dL_amplitude_5 rfl (lv_at hl 2 rfl) ?_
  refine lv_iload_n hx hb dL_amplitude_6 rfl (lv_at hl 3 rfl) ?_
  refine lv_iload hx hb dL_amplitude_7 (lv_at hl 4 rfl) ?_
  have hPc := hP.sub (ws' := [(x, .inr (8, [.ref xs, .ref xp, .int 0, .int 0, .ref xl, .ref xr])), (xs, .inl (cS, 3, .inr (.inr (.inr (.inr (fun _ => none)))))), (xp, .inl (cP, 8, .inr (.inr (.inr (.inr (fun _ => none)))))), (xl, .inr (4, [.ref xn, .ref xm])), (xn, .inl (cn, 64, .inr (.inl (fun _ => 0)))), (xm, .inl (cm, 64, .inr (.inl (fun _ => 0)))), (xr, .inr (6, [.ref xw, .ref xt])), (xw, .inl (cw, 8, .inr (.inl (fun _ => 0)))), (xt, .inl (ct, 8, .inr (.inl (fun _ => 0))))]) [0, 1, 2, 3, 4, 5, 6, 7, 8] rfl
  have hKc := hK.sub (tys' := [(cS, .object "Diffractory$Source"), (cP, .object "Diffractory$Part"), (cn, .long), (cm, .long), (cw, .long), (ct, .long)]) [0, 1, 2, 3, 4, 5] rfl
  refine vx_calll (vx_runV (As := [.int p1, .int p2, .int p3, .int p4]) (rest := [.int 0, .ref o]) ⟨hx, hb, hml, hown, hts⟩ (c_X4_amplitude l hlt dC dI x xs xp xl xn xm xr xw xt cS cP cn cm cw ct sa ta p1 p2 p3 p4) (cwV 4 hts gw_amplitude rfl rfl rfl (by decide +kernel) ⟨Nat.le_of_ble_eq_true rfl, Nat.le_of_ble_eq_true rfl⟩) ⟨ax_fbR, va_recv hK hP (ci := 8) (q0 := 0) rfl rfl, ax_prR hPc hKc hS hE⟩ rfl rfl hl.1 rfl (lv_room (Nat.le_of_ble_eq_true rfl)) dL_amplitude_9 ⟨Nat.le_of_ble_eq_true rfl, Nat.le_of_ble_eq_true rfl⟩) hS (fun _ _ h9 => h9.elim) (fun _ h9 => h9.elim) (fun _ _ h9 => h9.elim) (fun E9 ce9 q9 u9 t H locs ht hvm hw9 hB hz1 hk1 hS hce hcv hcl => ?_) (fun r_1 u_3  t H locs ht hvm hw_2 hB hz1 hk1 hS => ?_)
  · subst hB
    have hP := ax_keep hP (fun _ h9 => h9) hk1
    have hP : va_P (dC, dI) vwCl [(x, .inr (8, [.ref xs, .ref xp, .int 0, .int 0, .ref xl, .ref xr])), (xs, .inl (cS, 3, .inr (.inr (.inr (.inr (fun _ => none)))))), (xp, .inl (cP, 8, .inr (.inr (.inr (.inr (fun _ => none)))))), (xl, .inr (4, [.ref xn, .ref xm])), (xn, .inl (cn, 64, .inr (.inl (fun _ => 0)))), (xm, .inl (cm, 64, .inr (.inl (fun _ => 0)))), (xr, .inr (6, [.ref xw, .ref xt])), (xw, .inl (cw, 8, .inr (.inl (fun _ => 0)))), (xt, .inl (ct, 8, .inr (.inl (fun _ => 0)))), (o, .inl (cO, 1, .inr (.inl (fun _ => 0))))] H := hP
    have hD : va_D A [(x, .inr (8, [.ref xs, .ref xp, .int 0, .int 0, .ref xl, .ref xr])), (xs, .inl (cS, 3, .inr (.inr (.inr (.inr (fun _ => none)))))), (xp, .inl (cP, 8, .inr (.inr (.inr (.inr (fun _ => none)))))), (xl, .inr (4, [.ref xn, .ref xm])), (xn, .inl (cn, 64, .inr (.inl (fun _ => 0)))), (xm, .inl (cm, 64, .inr (.inl (fun _ => 0)))), (xr, .inr (6, [.ref xw, .ref xt])), (xw, .inl (cw, 8, .inr (.inl (fun _ => 0)))), (xt, .inl (ct, 8, .inr (.inl (fun _ => 0)))), (o, .inl (cO, 1, .inr (.inl (fun _ => 0))))] := hD
    refine vx_catch (name := "java/lang/IndexOutOfBoundsException") hown [] ⟨0, 13, 16, 21⟩ [⟨0, 13, 20, 13⟩] (htab.trans rfl) (fun z h9 => nomatch h9) (by decide) (by decide) (hts (.classLink RL 21 "java/lang/IndexOutOfBoundsException") (by decide +kernel)) (va_Nw.use rfl hE.c2) hce hcv hcl ?_
    refine lv_astore (lv' := [(6, .ref q9), (0, .ref x), (1, .int p1), (2, .int p2), (3, .int p3), (4, .int p4), (5, .ref o)]) hx hb dL_amplitude_16 hl (by decide) rfl (fun ls hl => ?_)
    refine lv_iconst (v := 1) hx hb dL_amplitude_18 (by decide) ?_
    refine W.widen (k := 2) (n := 12) (Nat.le_of_ble_eq_true rfl) (Nat.le_of_ble_eq_true rfl) ?_
    have hP9 := hP.sub (ws' := [(o, .inl (cO, 1, .inr (.inl (fun _ => 0))))]) [9] rfl
    have hD9 := hD.sub (ws' := [(o, .inl (cO, 1, .inr (.inl (fun _ => 0))))]) [9] (by decide) rfl
    have hK9 := hK.sub (tys' := [(cO, .long)]) [6] rfl
    exact W.iret (v := 1) hx hb hr (fun t ht hW => ⟨⟨1, (fun _ => 0), rfl, rfl, by rw [ht]; exact hP9, va_K.moved hW.alike hK9, hD9⟩, hS.F ht⟩) hS.2.2 dL_amplitude_19
  · have hP := ax_keep hP (fun _ h9 => h9) hk1
    exact hw_2.elim

set_option maxHeartbeats 4000000 in
set_option maxRecDepth 100000 in
theorem c_L_whole (l : Launch) (hlt : l.stackTraces = false) (dC : Nat → ClassId) (dI : Nat → Nat → Nat) (x xs xp xl xn xm xr xw xt o : Nat) (cS cP cn cm cw ct cO : ClassId) (sa ta : Nat → Nat) (sz : Nat) (p1 : Int32) (p2 : Int32) : Met l yL_whole wl_whole ({ frames := 40, cells := 2, slots := 12, locals := 1000 }) (va_Pc [.ref x, .int p1, .int p2, .ref o] (ax_W (dC, dI) vwCl [(x, .inr (8, [.ref xs, .ref xp, .int 0, .int 0, .ref xl, .ref xr])), (xs, .inl (cS, 3, .inr (.inr (.inr (.inr (fun _ => none)))))), (xp, .inl (cP, 8, .inr (.inr (.inr (.inr (fun _ => none)))))), (xl, .inr (4, [.ref xn, .ref xm])), (xn, .inl (cn, 64, .inr (.inl (fun _ => 0)))), (xm, .inl (cm, 64, .inr (.inl (fun _ => 0)))), (xr, .inr (6, [.ref xw, .ref xt])), (xw, .inl (cw, 8, .inr (.inl (fun _ => 0)))), (xt, .inl (ct, 8, .inr (.inl (fun _ => 0)))), (o, .inl (cO, 1, .inr (.inl (fun _ => 0))))] [(cS, .object "Diffractory$Source"), (cP, .object "Diffractory$Part"), (cn, .long), (cm, .long), (cw, .long), (ct, .long), (cO, .long)] sa ta sz)) (va_Qi (fun (r : Int32) (u : Nat → Int64) => (((p1.toInt = -1 ∧ (0 ≤ p2.toInt ∧ p2.toInt ≤ 7))) ∧ r = 0 ∧ u 0 = 0) ∨ (¬ ((p1.toInt = -1 ∧ (0 ≤ p2.toInt ∧ p2.toInt ≤ 7))) ∧ r = 1)) (fun (u : Nat → Int64) (t : State) => va_P (dC, dI) vwCl [(o, .inl (cO, 1, .inr (.inl u)))] t.heap ∧ va_K (dC, dI) vwCl [(cO, .long)] t ∧ va_D (va_A [(x, .inr (8, [.ref xs, .ref xp, .int 0, .int 0, .ref xl, .ref xr])), (xs, .inl (cS, 3, .inr (.inr (.inr (.inr (fun _ => none)))))), (xp, .inl (cP, 8, .inr (.inr (.inr (.inr (fun _ => none)))))), (xl, .inr (4, [.ref xn, .ref xm])), (xn, .inl (cn, 64, .inr (.inl (fun _ => 0)))), (xm, .inl (cm, 64, .inr (.inl (fun _ => 0)))), (xr, .inr (6, [.ref xw, .ref xt])), (xw, .inl (cw, 8, .inr (.inl (fun _ => 0)))), (xt, .inl (ct, 8, .inr (.inl (fun _ => 0)))), (o, .inl (cO, 1, .inr (.inl (fun _ => 0))))] sz) [(o, .inl (cO, 1, .inr (.inl u)))]) (va_A [(x, .inr (8, [.ref xs, .ref xp, .int 0, .int 0, .ref xl, .ref xr])), (xs, .inl (cS, 3, .inr (.inr (.inr (.inr (fun _ => none)))))), (xp, .inl (cP, 8, .inr (.inr (.inr (.inr (fun _ => none)))))), (xl, .inr (4, [.ref xn, .ref xm])), (xn, .inl (cn, 64, .inr (.inl (fun _ => 0)))), (xm, .inl (cm, 64, .inr (.inl (fun _ => 0)))), (xr, .inr (6, [.ref xw, .ref xt])), (xw, .inl (cw, 8, .inr (.inl (fun _ => 0)))), (xt, .inl (ct, 8, .inr (.inl (fun _ => 0)))), (o, .inl (cO, 1, .inr (.inl (fun _ => 0))))] sz)) 2 12 (va_A [(x, .inr (8, [.ref xs, .ref xp, .int 0, .int 0, .ref xl, .ref xr])), (xs, .inl (cS, 3, .inr (.inr (.inr (.inr (fun _ => none)))))), (xp, .inl (cP, 8, .inr (.inr (.inr (.inr (fun _ => none)))))), (xl, .inr (4, [.ref xn, .ref xm])), (xn, .inl (cn, 64, .inr (.inl (fun _ => 0)))), (xm, .inl (cm, 64, .inr (.inl (fun _ => 0)))), (xr, .inr (6, [.ref xw, .ref xt])), (xw, .inl (cw, 8, .inr (.inl (fun _ => 0)))), (xt, .inl (ct, 8, .inr (.inl (fun _ => 0)))), (o, .inl (cO, 1, .inr (.inl (fun _ => 0))))] sz) := by
  refine ax_MetWH (cc := cL_whole) (maxL := 5) (ret := (some .int)) (by decide) rfl ?_
  intro p e s m args below meth c s₁ B hml hv
  obtain ⟨rfl, hsz, hP, hK, hD0, hE⟩ := hv
  have hx := B.exec
  have hb := B.bytes
  have hr := B.returns
  have hts := atoms_spec (ws := wl_whole) B.pre
  have hown : s.vm.findClass RL = some m.cls := findClass_of_methodNamed B.named
  have hlocks := B.notSynchronized
  have htab := vx_table (x := yL_whole) B (hts _ List.mem_cons_self)
  subst hsz
  have hD := hD0.self (sz := s.heap.size)
  generalize hAe : va_A [(x, .inr (8, [.ref xs, .ref xp, .int 0, .int 0, .ref xl, .ref xr])), (xs, .inl (cS, 3, .inr (.inr (.inr (.inr (fun _ => none)))))), (xp, .inl (cP, 8, .inr (.inr (.inr (.inr (fun _ => none)))))), (xl, .inr (4, [.ref xn, .ref xm])), (xn, .inl (cn, 64, .inr (.inl (fun _ => 0)))), (xm, .inl (cm, 64, .inr (.inl (fun _ => 0)))), (xr, .inr (6, [.ref xw, .ref xt])), (xw, .inl (cw, 8, .inr (.inl (fun _ => 0)))), (xt, .inl (ct, 8, .inr (.inl (fun _ => 0)))), (o, .inl (cO, 1, .inr (.inl (fun _ => 0))))] s.heap.size = A at hD hE ⊢
  have hA : ∀ q : Nat, s.heap.size ≤ q → A q := fun q h => by rw [← hAe]; exact Or.inr h
  have hS : va_S A s.heap s.heap [] := va_S.rf
  have hl := lv_entry ([.ref x, .int p1, .int p2, .ref o]) (n := 5) (Nat.le_of_ble_eq_true rfl)
  rw [lg_entry_eq]
  generalize (lg_sl ([.ref x, .int p1, .int p2, .ref o]) ++ List.replicate (5 - (lg_sl ([.ref x, .int p1, .int p2, .ref o])).length) Slot.unset).toArray = ls at hl ⊢
  have hl : lv_has ls 5 [(0, .ref x), (1, .int p1), (2, .int p2), (3, .ref o)] := hl
  have hP : va_P (dC, dI) vwCl [(x, .inr (8, [.ref xs, .ref xp, .int 0, .int 0, .ref xl, .ref xr])), (xs, .inl (cS, 3, .inr (.inr (.inr (.inr (fun _ => none)))))), (xp, .inl (cP, 8, .inr (.inr (.inr (.inr (fun _ => none)))))), (xl, .inr (4, [.ref xn, .ref xm])), (xn, .inl (cn, 64, .inr (.inl (fun _ => 0)))), (xm, .inl (cm, 64, .inr (.inl (fun _ => 0)))), (xr, .inr (6, [.ref xw, .ref xt])), (xw, .inl (cw, 8, .inr (.inl (fun _ => 0)))), (xt, .inl (ct, 8, .inr (.inl (fun _ => 0)))), (o, .inl (cO, 1, .inr (.inl (fun _ => 0))))] s.heap := hP
  refine lv_aload_n hx hb dL_whole_0 rfl (lv_at hl 3 rfl) ?_
  refine lv_iconst (v := 0) hx hb dL_whole_1 (by decide) ?_
  refine lv_aload_n hx hb dL_whole_2 rfl (lv_at hl 0 rfl) ?_
  refine lv_iload_n hx hb dL_whole_3 rfl (lv_at hl 1 rfl) ?_
  refine lv_iload_n hx hb dL_whole_4 rfl (lv_at hl 2 rfl) ?_
  have hPc := hP.sub (ws' := [(x, .inr (8, [.ref xs, .ref xp, .int 0, .int 0, .ref xl, .ref xr])), (xs, .inl (cS, 3, .inr (.inr (.inr (.inr (fun _ => none)))))), (xp, .inl (cP, 8, .inr (.inr (.inr (.inr (fun _ => none)))))), (xl, .inr (4, [.ref xn, .ref xm])), (xn, .inl (cn, 64, .inr (.inl (fun _ => 0)))), (xm, .inl (cm, 64, .inr (.inl (fun _ => 0)))), (xr, .inr (6, [.ref xw, .ref xt])), (xw, .inl (cw, 8, .inr (.inl (fun _ => 0)))), (xt, .inl (ct, 8, .inr (.inl (fun _ => 0))))]) [0, 1, 2, 3, 4, 5, 6, 7, 8] rfl
  have hKc := hK.sub (tys' := [(cS, .object "Diffractory$Source"), (cP, .object "Diffractory$Part"), (cn, .long), (cm, .long), (cw, .long), (ct, .long)]) [0, 1, 2, 3, 4, 5] rfl
  have hDc := hD.sub (ws' := [(x, .inr (8, [.ref xs, .ref xp, .int 0, .int 0, .ref xl, .ref xr])), (xs, .inl (cS, 3, .inr (.inr (.inr (.inr (fun _ => none)))))), (xp, .inl (cP, 8, .inr (.inr (.inr (.inr (fun _ => none)))))), (xl, .inr (4, [.ref xn, .ref xm])), (xn, .inl (cn, 64, .inr (.inl (fun _ => 0)))), (xm, .inl (cm, 64, .inr (.inl (fun _ => 0)))), (xr, .inr (6, [.ref xw, .ref xt])), (xw, .inl (cw, 8, .inr (.inl (fun _ => 0)))), (xt, .inl (ct, 8, .inr (.inl (fun _ => 0))))]) [0, 1, 2, 3, 4, 5, 6, 7, 8] (by decide) rfl
  have hFc := va_free (wc := [(x, .inr (8, [.ref xs, .ref xp, .int 0, .int 0, .ref xl, .ref xr])), (xs, .inl (cS, 3, .inr (.inr (.inr (.inr (fun _ => none)))))), (xp, .inl (cP, 8, .inr (.inr (.inr (.inr (fun _ => none)))))), (xl, .inr (4, [.ref xn, .ref xm])), (xn, .inl (cn, 64, .inr (.inl (fun _ => 0)))), (xm, .inl (cm, 64, .inr (.inl (fun _ => 0)))), (xr, .inr (6, [.ref xw, .ref xt])), (xw, .inl (cw, 8, .inr (.inl (fun _ => 0)))), (xt, .inl (ct, 8, .inr (.inl (fun _ => 0))))]) hD hS hA [0, 1, 2, 3, 4, 5, 6, 7, 8] rfl
  refine vx_calll (vx_runV (As := [.int p1, .int p2]) (rest := [.int 0, .ref o]) ⟨hx, hb, hml, hown, hts⟩ (c_X4_whole l hlt dC dI x xs xp xl xn xm xr xw xt cS cP cn cm cw ct sa ta s.heap.size p1 p2) (cwV 2 hts gw_whole rfl rfl rfl (by decide +kernel) ⟨Nat.le_of_ble_eq_true rfl, Nat.le_of_ble_eq_true rfl⟩) ⟨ax_fbW, va_recv hK hP (ci := 8) (q0 := 0) rfl rfl, ax_prW hPc hKc hDc hS hFc hE⟩ rfl rfl hl.1 rfl (lv_room (Nat.le_of_ble_eq_true rfl)) dL_whole_5 ⟨Nat.le_of_ble_eq_true rfl, Nat.le_of_ble_eq_true rfl⟩) hS (fun q _ h9 => hFc q h9) hFc (fun q _ h9 => hFc q h9) (fun E9 ce9 q9 u9 t H locs ht hvm hw9 hB hz1 hk1 hS hce hcv hcl => ?_) (fun r_1 u_3  t H locs ht hvm hw_2 hB hz1 hk1 hS => ?_)
  · subst hB
    obtain ⟨hP, hD⟩ := va_join (wr := [(o, .inl (cO, 1, .inr (.inl (fun _ => 0))))]) (w1 := []) hP hD [0, 1, 2, 3, 4, 5, 6, 7, 8] [9] rfl rfl (by decide) (by decide) hk1 hFc (fun k q h9 => by simp at h9) ⟨fun i j p9 q9 h9 => by simp at h9, fun k q9 h9 => by simp at h9⟩
    have hP : va_P (dC, dI) vwCl [(o, .inl (cO, 1, .inr (.inl (fun _ => 0))))] H := hP
    have hD : va_D A [(o, .inl (cO, 1, .inr (.inl (fun _ => 0))))] := hD
    refine vx_catch (name := "java/lang/IndexOutOfBoundsException") hown [] ⟨0, 9, 12, 21⟩ [] (htab.trans rfl) (fun z h9 => nomatch h9) (by decide) (by decide) (hts (.classLink RL 21 "java/lang/IndexOutOfBoundsException") (by decide +kernel)) (va_Nw.use rfl hE.c2) hce hcv hcl ?_
    refine lv_astore (lv' := [(4, .ref q9), (0, .ref x), (1, .int p1), (2, .int p2), (3, .ref o)]) hx hb dL_whole_12 hl (by decide) rfl (fun ls hl => ?_)
    refine lv_iconst (v := 1) hx hb dL_whole_14 (by decide) ?_
    refine W.widen (k := 2) (n := 12) (Nat.le_of_ble_eq_true rfl) (Nat.le_of_ble_eq_true rfl) ?_
    have hP9 := hP.sub (ws' := [(o, .inl (cO, 1, .inr (.inl (fun _ => 0))))]) [0] rfl
    have hD9 := hD.sub (ws' := [(o, .inl (cO, 1, .inr (.inl (fun _ => 0))))]) [0] (by decide) rfl
    have hK9 := hK.sub (tys' := [(cO, .long)]) [6] rfl
    exact W.iret (v := 1) hx hb hr (fun t ht hW => ⟨⟨1, (fun _ => 0), rfl, Or.inr ⟨by omega, rfl⟩, by rw [ht]; exact hP9, va_K.moved hW.alike hK9, hD9⟩, hS.F ht⟩) hS.2.2 dL_whole_15
  · obtain ⟨hP, hD⟩ := va_join (wr := [(o, .inl (cO, 1, .inr (.inl (fun _ => 0))))]) (w1 := []) hP hD [0, 1, 2, 3, 4, 5, 6, 7, 8] [9] rfl rfl (by decide) (by decide) hk1 hFc (fun k q h9 => by simp at h9) ⟨fun i j p9 q9 h9 => by simp at h9, fun k q9 h9 => by simp at h9⟩
    have hP : va_P (dC, dI) vwCl [(o, .inl (cO, 1, .inr (.inl (fun _ => 0))))] H := hP
    have hD : va_D A [(o, .inl (cO, 1, .inr (.inl (fun _ => 0))))] := hD
    refine ax_l (y := 0) hw_2.2 ?_
    refine va_last hx hb hK hP hD hS 0 6 rfl rfl (by unfold vp_in; decide) dL_whole_8 (fun H locs hP hD hS => ?_)
    rw [ax_uz] at hP hD
    have hP : va_P (dC, dI) vwCl [(o, .inl (cO, 1, .inr (.inl (fun _ => 0))))] H := hP
    have hD : va_D A [(o, .inl (cO, 1, .inr (.inl (fun _ => 0))))] := hD
    refine lv_goto (tgt := 16) hx hb dL_whole_9 (by decide) ?_
    refine lv_iconst (v := 0) hx hb dL_whole_16 (by decide) ?_
    refine W.widen (k := 2) (n := 12) (Nat.le_of_ble_eq_true rfl) (Nat.le_of_ble_eq_true rfl) ?_
    have hP9 := hP.sub (ws' := [(o, .inl (cO, 1, .inr (.inl (fun _ => 0))))]) [0] rfl
    have hD9 := hD.sub (ws' := [(o, .inl (cO, 1, .inr (.inl (fun _ => 0))))]) [0] (by decide) rfl
    have hK9 := hK.sub (tys' := [(cO, .long)]) [6] rfl
    exact W.iret (v := 0) hx hb hr (fun t ht hW => ⟨⟨0, (fun _ => 0), rfl, Or.inl ⟨by omega, rfl, by first | rfl | exact (if_pos (by assumption)).symm | exact (if_neg (by assumption)).symm⟩, by rw [ht]; exact hP9, va_K.moved hW.alike hK9, hD9⟩, hS.F ht⟩) hS.2.2 dL_whole_17

set_option maxHeartbeats 4000000 in
set_option maxRecDepth 100000 in
theorem c_L_root (l : Launch) (hlt : l.stackTraces = false) (dC : Nat → ClassId) (dI : Nat → Nat → Nat) (x xs xp xl xn xm xr xw xt o : Nat) (cS cP cn cm cw ct cO : ClassId) (sa ta : Nat → Nat) (sz : Nat) (p1 : Int32) (p2 : Int32) : Met l yL_root wl_root ({ frames := 40, cells := 2, slots := 12, locals := 1000 }) (va_Pc [.ref x, .int p1, .int p2, .ref o] (ax_W (dC, dI) vwCl [(x, .inr (8, [.ref xs, .ref xp, .int 0, .int 0, .ref xl, .ref xr])), (xs, .inl (cS, 3, .inr (.inr (.inr (.inr (fun _ => none)))))), (xp, .inl (cP, 8, .inr (.inr (.inr (.inr (fun _ => none)))))), (xl, .inr (4, [.ref xn, .ref xm])), (xn, .inl (cn, 64, .inr (.inl (fun _ => 0)))), (xm, .inl (cm, 64, .inr (.inl (fun _ => 0)))), (xr, .inr (6, [.ref xw, .ref xt])), (xw, .inl (cw, 8, .inr (.inl (fun _ => 0)))), (xt, .inl (ct, 8, .inr (.inl (fun _ => 0)))), (o, .inl (cO, 1, .inr (.inl (fun _ => 0))))] [(cS, .object "Diffractory$Source"), (cP, .object "Diffractory$Part"), (cn, .long), (cm, .long), (cw, .long), (ct, .long), (cO, .long)] sa ta sz)) (va_Qi (fun (r : Int32) (u : Nat → Int64) => (((p1.toInt = -1 ∧ (0 ≤ p2.toInt ∧ p2.toInt ≤ 7))) ∧ r = 0 ∧ u 0 = 0) ∨ (¬ ((p1.toInt = -1 ∧ (0 ≤ p2.toInt ∧ p2.toInt ≤ 7))) ∧ r = 1)) (fun (u : Nat → Int64) (t : State) => va_P (dC, dI) vwCl [(o, .inl (cO, 1, .inr (.inl u)))] t.heap ∧ va_K (dC, dI) vwCl [(cO, .long)] t ∧ va_D (va_A [(x, .inr (8, [.ref xs, .ref xp, .int 0, .int 0, .ref xl, .ref xr])), (xs, .inl (cS, 3, .inr (.inr (.inr (.inr (fun _ => none)))))), (xp, .inl (cP, 8, .inr (.inr (.inr (.inr (fun _ => none)))))), (xl, .inr (4, [.ref xn, .ref xm])), (xn, .inl (cn, 64, .inr (.inl (fun _ => 0)))), (xm, .inl (cm, 64, .inr (.inl (fun _ => 0)))), (xr, .inr (6, [.ref xw, .ref xt])), (xw, .inl (cw, 8, .inr (.inl (fun _ => 0)))), (xt, .inl (ct, 8, .inr (.inl (fun _ => 0)))), (o, .inl (cO, 1, .inr (.inl (fun _ => 0))))] sz) [(o, .inl (cO, 1, .inr (.inl u)))]) (va_A [(x, .inr (8, [.ref xs, .ref xp, .int 0, .int 0, .ref xl, .ref xr])), (xs, .inl (cS, 3, .inr (.inr (.inr (.inr (fun _ => none)))))), (xp, .inl (cP, 8, .inr (.inr (.inr (.inr (fun _ => none)))))), (xl, .inr (4, [.ref xn, .ref xm])), (xn, .inl (cn, 64, .inr (.inl (fun _ => 0)))), (xm, .inl (cm, 64, .inr (.inl (fun _ => 0)))), (xr, .inr (6, [.ref xw, .ref xt])), (xw, .inl (cw, 8, .inr (.inl (fun _ => 0)))), (xt, .inl (ct, 8, .inr (.inl (fun _ => 0)))), (o, .inl (cO, 1, .inr (.inl (fun _ => 0))))] sz)) 2 12 (va_A [(x, .inr (8, [.ref xs, .ref xp, .int 0, .int 0, .ref xl, .ref xr])), (xs, .inl (cS, 3, .inr (.inr (.inr (.inr (fun _ => none)))))), (xp, .inl (cP, 8, .inr (.inr (.inr (.inr (fun _ => none)))))), (xl, .inr (4, [.ref xn, .ref xm])), (xn, .inl (cn, 64, .inr (.inl (fun _ => 0)))), (xm, .inl (cm, 64, .inr (.inl (fun _ => 0)))), (xr, .inr (6, [.ref xw, .ref xt])), (xw, .inl (cw, 8, .inr (.inl (fun _ => 0)))), (xt, .inl (ct, 8, .inr (.inl (fun _ => 0)))), (o, .inl (cO, 1, .inr (.inl (fun _ => 0))))] sz) := by
  refine ax_MetWH (cc := cL_root) (maxL := 5) (ret := (some .int)) (by decide) rfl ?_
  intro p e s m args below meth c s₁ B hml hv
  obtain ⟨rfl, hsz, hP, hK, hD0, hE⟩ := hv
  have hx := B.exec
  have hb := B.bytes
  have hr := B.returns
  have hts := atoms_spec (ws := wl_root) B.pre
  have hown : s.vm.findClass RL = some m.cls := findClass_of_methodNamed B.named
  have hlocks := B.notSynchronized
  have htab := vx_table (x := yL_root) B (hts _ List.mem_cons_self)
  subst hsz
  have hD := hD0.self (sz := s.heap.size)
  generalize hAe : va_A [(x, .inr (8, [.ref xs, .ref xp, .int 0, .int 0, .ref xl, .ref xr])), (xs, .inl (cS, 3, .inr (.inr (.inr (.inr (fun _ => none)))))), (xp, .inl (cP, 8, .inr (.inr (.inr (.inr (fun _ => none)))))), (xl, .inr (4, [.ref xn, .ref xm])), (xn, .inl (cn, 64, .inr (.inl (fun _ => 0)))), (xm, .inl (cm, 64, .inr (.inl (fun _ => 0)))), (xr, .inr (6, [.ref xw, .ref xt])), (xw, .inl (cw, 8, .inr (.inl (fun _ => 0)))), (xt, .inl (ct, 8, .inr (.inl (fun _ => 0)))), (o, .inl (cO, 1, .inr (.inl (fun _ => 0))))] s.heap.size = A at hD hE ⊢
  have hA : ∀ q : Nat, s.heap.size ≤ q → A q := fun q h => by rw [← hAe]; exact Or.inr h
  have hS : va_S A s.heap s.heap [] := va_S.rf
  have hl := lv_entry ([.ref x, .int p1, .int p2, .ref o]) (n := 5) (Nat.le_of_ble_eq_true rfl)
  rw [lg_entry_eq]
  generalize (lg_sl ([.ref x, .int p1, .int p2, .ref o]) ++ List.replicate (5 - (lg_sl ([.ref x, .int p1, .int p2, .ref o])).length) Slot.unset).toArray = ls at hl ⊢
  have hl : lv_has ls 5 [(0, .ref x), (1, .int p1), (2, .int p2), (3, .ref o)] := hl
  have hP : va_P (dC, dI) vwCl [(x, .inr (8, [.ref xs, .ref xp, .int 0, .int 0, .ref xl, .ref xr])), (xs, .inl (cS, 3, .inr (.inr (.inr (.inr (fun _ => none)))))), (xp, .inl (cP, 8, .inr (.inr (.inr (.inr (fun _ => none)))))), (xl, .inr (4, [.ref xn, .ref xm])), (xn, .inl (cn, 64, .inr (.inl (fun _ => 0)))), (xm, .inl (cm, 64, .inr (.inl (fun _ => 0)))), (xr, .inr (6, [.ref xw, .ref xt])), (xw, .inl (cw, 8, .inr (.inl (fun _ => 0)))), (xt, .inl (ct, 8, .inr (.inl (fun _ => 0)))), (o, .inl (cO, 1, .inr (.inl (fun _ => 0))))] s.heap := hP
  refine lv_aload_n hx hb dL_root_0 rfl (lv_at hl 3 rfl) ?_
  refine lv_iconst (v := 0) hx hb dL_root_1 (by decide) ?_
  refine lv_aload_n hx hb dL_root_2 rfl (lv_at hl 0 rfl) ?_
  refine lv_iload_n hx hb dL_root_3 rfl (lv_at hl 1 rfl) ?_
  refine lv_iload_n hx hb dL_root_4 rfl (lv_at hl 2 rfl) ?_
  have hPc := hP.sub (ws' := [(x, .inr (8, [.ref xs, .ref xp, .int 0, .int 0, .ref xl, .ref xr])), (xs, .inl (cS, 3, .inr (.inr (.inr (.inr (fun _ => none)))))), (xp, .inl (cP, 8, .inr (.inr (.inr (.inr (fun _ => none)))))), (xl, .inr (4, [.ref xn, .ref xm])), (xn, .inl (cn, 64, .inr (.inl (fun _ => 0)))), (xm, .inl (cm, 64, .inr (.inl (fun _ => 0)))), (xr, .inr (6, [.ref xw, .ref xt])), (xw, .inl (cw, 8, .inr (.inl (fun _ => 0)))), (xt, .inl (ct, 8, .inr (.inl (fun _ => 0))))]) [0, 1, 2, 3, 4, 5, 6, 7, 8] rfl
  have hKc := hK.sub (tys' := [(cS, .object "Diffractory$Source"), (cP, .object "Diffractory$Part"), (cn, .long), (cm, .long), (cw, .long), (ct, .long)]) [0, 1, 2, 3, 4, 5] rfl
  have hDc := hD.sub (ws' := [(x, .inr (8, [.ref xs, .ref xp, .int 0, .int 0, .ref xl, .ref xr])), (xs, .inl (cS, 3, .inr (.inr (.inr (.inr (fun _ => none)))))), (xp, .inl (cP, 8, .inr (.inr (.inr (.inr (fun _ => none)))))), (xl, .inr (4, [.ref xn, .ref xm])), (xn, .inl (cn, 64, .inr (.inl (fun _ => 0)))), (xm, .inl (cm, 64, .inr (.inl (fun _ => 0)))), (xr, .inr (6, [.ref xw, .ref xt])), (xw, .inl (cw, 8, .inr (.inl (fun _ => 0)))), (xt, .inl (ct, 8, .inr (.inl (fun _ => 0))))]) [0, 1, 2, 3, 4, 5, 6, 7, 8] (by decide) rfl
  have hFc := va_free (wc := [(x, .inr (8, [.ref xs, .ref xp, .int 0, .int 0, .ref xl, .ref xr])), (xs, .inl (cS, 3, .inr (.inr (.inr (.inr (fun _ => none)))))), (xp, .inl (cP, 8, .inr (.inr (.inr (.inr (fun _ => none)))))), (xl, .inr (4, [.ref xn, .ref xm])), (xn, .inl (cn, 64, .inr (.inl (fun _ => 0)))), (xm, .inl (cm, 64, .inr (.inl (fun _ => 0)))), (xr, .inr (6, [.ref xw, .ref xt])), (xw, .inl (cw, 8, .inr (.inl (fun _ => 0)))), (xt, .inl (ct, 8, .inr (.inl (fun _ => 0))))]) hD hS hA [0, 1, 2, 3, 4, 5, 6, 7, 8] rfl
  refine vx_calll (vx_runV (As := [.int p1, .int p2]) (rest := [.int 0, .ref o]) ⟨hx, hb, hml, hown, hts⟩ (c_X4_root l hlt dC dI x xs xp xl xn xm xr xw xt cS cP cn cm cw ct sa ta s.heap.size p1 p2) (cwV 2 hts gw_root rfl rfl rfl (by decide +kernel) ⟨Nat.le_of_ble_eq_true rfl, Nat.le_of_ble_eq_true rfl⟩) ⟨ax_fbW, va_recv hK hP (ci := 8) (q0 := 0) rfl rfl, ax_prW hPc hKc hDc hS hFc hE⟩ rfl rfl hl.1 rfl (lv_room (Nat.le_of_ble_eq_true rfl)) dL_root_5 ⟨Nat.le_of_ble_eq_true rfl, Nat.le_of_ble_eq_true rfl⟩) hS (fun q _ h9 => hFc q h9) hFc (fun q _ h9 => hFc q h9) (fun E9 ce9 q9 u9 t H locs ht hvm hw9 hB hz1 hk1 hS hce hcv hcl => ?_) (fun r_1 u_3  t H locs ht hvm hw_2 hB hz1 hk1 hS => ?_)
  · subst hB
    obtain ⟨hP, hD⟩ := va_join (wr := [(o, .inl (cO, 1, .inr (.inl (fun _ => 0))))]) (w1 := []) hP hD [0, 1, 2, 3, 4, 5, 6, 7, 8] [9] rfl rfl (by decide) (by decide) hk1 hFc (fun k q h9 => by simp at h9) ⟨fun i j p9 q9 h9 => by simp at h9, fun k q9 h9 => by simp at h9⟩
    have hP : va_P (dC, dI) vwCl [(o, .inl (cO, 1, .inr (.inl (fun _ => 0))))] H := hP
    have hD : va_D A [(o, .inl (cO, 1, .inr (.inl (fun _ => 0))))] := hD
    refine vx_catch (name := "java/lang/IndexOutOfBoundsException") hown [] ⟨0, 9, 12, 21⟩ [] (htab.trans rfl) (fun z h9 => nomatch h9) (by decide) (by decide) (hts (.classLink RL 21 "java/lang/IndexOutOfBoundsException") (by decide +kernel)) (va_Nw.use rfl hE.c2) hce hcv hcl ?_
    refine lv_astore (lv' := [(4, .ref q9), (0, .ref x), (1, .int p1), (2, .int p2), (3, .ref o)]) hx hb dL_root_12 hl (by decide) rfl (fun ls hl => ?_)
    refine lv_iconst (v := 1) hx hb dL_root_14 (by decide) ?_
    refine W.widen (k := 2) (n := 12) (Nat.le_of_ble_eq_true rfl) (Nat.le_of_ble_eq_true rfl) ?_
    have hP9 := hP.sub (ws' := [(o, .inl (cO, 1, .inr (.inl (fun _ => 0))))]) [0] rfl
    have hD9 := hD.sub (ws' := [(o, .inl (cO, 1, .inr (.inl (fun _ => 0))))]) [0] (by decide) rfl
    have hK9 := hK.sub (tys' := [(cO, .long)]) [6] rfl
    exact W.iret (v := 1) hx hb hr (fun t ht hW => ⟨⟨1, (fun _ => 0), rfl, Or.inr ⟨by omega, rfl⟩, by rw [ht]; exact hP9, va_K.moved hW.alike hK9, hD9⟩, hS.F ht⟩) hS.2.2 dL_root_15
  · obtain ⟨hP, hD⟩ := va_join (wr := [(o, .inl (cO, 1, .inr (.inl (fun _ => 0))))]) (w1 := []) hP hD [0, 1, 2, 3, 4, 5, 6, 7, 8] [9] rfl rfl (by decide) (by decide) hk1 hFc (fun k q h9 => by simp at h9) ⟨fun i j p9 q9 h9 => by simp at h9, fun k q9 h9 => by simp at h9⟩
    have hP : va_P (dC, dI) vwCl [(o, .inl (cO, 1, .inr (.inl (fun _ => 0))))] H := hP
    have hD : va_D A [(o, .inl (cO, 1, .inr (.inl (fun _ => 0))))] := hD
    refine ax_l (y := 0) hw_2.2 ?_
    refine va_last hx hb hK hP hD hS 0 6 rfl rfl (by unfold vp_in; decide) dL_root_8 (fun H locs hP hD hS => ?_)
    rw [ax_uz] at hP hD
    have hP : va_P (dC, dI) vwCl [(o, .inl (cO, 1, .inr (.inl (fun _ => 0))))] H := hP
    have hD : va_D A [(o, .inl (cO, 1, .inr (.inl (fun _ => 0))))] := hD
    refine lv_goto (tgt := 16) hx hb dL_root_9 (by decide) ?_
    refine lv_iconst (v := 0) hx hb dL_root_16 (by decide) ?_
    refine W.widen (k := 2) (n := 12) (Nat.le_of_ble_eq_true rfl) (Nat.le_of_ble_eq_true rfl) ?_
    have hP9 := hP.sub (ws' := [(o, .inl (cO, 1, .inr (.inl (fun _ => 0))))]) [0] rfl
    have hD9 := hD.sub (ws' := [(o, .inl (cO, 1, .inr (.inl (fun _ => 0))))]) [0] (by decide) rfl
    have hK9 := hK.sub (tys' := [(cO, .long)]) [6] rfl
    exact W.iret (v := 0) hx hb hr (fun t ht hW => ⟨⟨0, (fun _ => 0), rfl, Or.inl ⟨by omega, rfl, by first | rfl | exact (if_pos (by assumption)).symm | exact (if_neg (by assumption)).symm⟩, by rw [ht]; exact hP9, va_K.moved hW.alike hK9, hD9⟩, hS.F ht⟩) hS.2.2 dL_root_17

set_option maxHeartbeats 4000000 in
set_option maxRecDepth 100000 in
theorem c_L_power (l : Launch) (hlt : l.stackTraces = false) (dC : Nat → ClassId) (dI : Nat → Nat → Nat) (x xs xp xl xn xm xr xw xt o : Nat) (cS cP cn cm cw ct cO : ClassId) (sa ta : Nat → Nat) (sz : Nat) (p1 : Int32) (p2 : Int32) : Met l yL_power wl_power ({ frames := 40, cells := 1, slots := 6, locals := 1000 }) (va_Pc [.ref x, .int p1, .int p2, .ref o] (ax_W (dC, dI) vwCl [(x, .inr (8, [.ref xs, .ref xp, .int 0, .int 0, .ref xl, .ref xr])), (xs, .inl (cS, 3, .inr (.inr (.inr (.inr (fun _ => none)))))), (xp, .inl (cP, 8, .inr (.inr (.inr (.inr (fun _ => none)))))), (xl, .inr (4, [.ref xn, .ref xm])), (xn, .inl (cn, 64, .inr (.inl (fun _ => 0)))), (xm, .inl (cm, 64, .inr (.inl (fun _ => 0)))), (xr, .inr (6, [.ref xw, .ref xt])), (xw, .inl (cw, 8, .inr (.inl (fun _ => 0)))), (xt, .inl (ct, 8, .inr (.inl (fun _ => 0)))), (o, .inl (cO, 1, .inr (.inl (fun _ => 0))))] [(cS, .object "Diffractory$Source"), (cP, .object "Diffractory$Part"), (cn, .long), (cm, .long), (cw, .long), (ct, .long), (cO, .long)] sa ta sz)) (va_Qi (fun (r : Int32) (u : Nat → Int64) => ((p1.toInt = -1) ∧ r = 0 ∧ u 0 = 0) ∨ (¬ (p1.toInt = -1) ∧ r = 1)) (fun (u : Nat → Int64) (t : State) => va_P (dC, dI) vwCl [(o, .inl (cO, 1, .inr (.inl u)))] t.heap ∧ va_K (dC, dI) vwCl [(cO, .long)] t ∧ va_D (va_A [(x, .inr (8, [.ref xs, .ref xp, .int 0, .int 0, .ref xl, .ref xr])), (xs, .inl (cS, 3, .inr (.inr (.inr (.inr (fun _ => none)))))), (xp, .inl (cP, 8, .inr (.inr (.inr (.inr (fun _ => none)))))), (xl, .inr (4, [.ref xn, .ref xm])), (xn, .inl (cn, 64, .inr (.inl (fun _ => 0)))), (xm, .inl (cm, 64, .inr (.inl (fun _ => 0)))), (xr, .inr (6, [.ref xw, .ref xt])), (xw, .inl (cw, 8, .inr (.inl (fun _ => 0)))), (xt, .inl (ct, 8, .inr (.inl (fun _ => 0)))), (o, .inl (cO, 1, .inr (.inl (fun _ => 0))))] sz) [(o, .inl (cO, 1, .inr (.inl u)))]) (va_A [(x, .inr (8, [.ref xs, .ref xp, .int 0, .int 0, .ref xl, .ref xr])), (xs, .inl (cS, 3, .inr (.inr (.inr (.inr (fun _ => none)))))), (xp, .inl (cP, 8, .inr (.inr (.inr (.inr (fun _ => none)))))), (xl, .inr (4, [.ref xn, .ref xm])), (xn, .inl (cn, 64, .inr (.inl (fun _ => 0)))), (xm, .inl (cm, 64, .inr (.inl (fun _ => 0)))), (xr, .inr (6, [.ref xw, .ref xt])), (xw, .inl (cw, 8, .inr (.inl (fun _ => 0)))), (xt, .inl (ct, 8, .inr (.inl (fun _ => 0)))), (o, .inl (cO, 1, .inr (.inl (fun _ => 0))))] sz)) 1 6 (va_A [(x, .inr (8, [.ref xs, .ref xp, .int 0, .int 0, .ref xl, .ref xr])), (xs, .inl (cS, 3, .inr (.inr (.inr (.inr (fun _ => none)))))), (xp, .inl (cP, 8, .inr (.inr (.inr (.inr (fun _ => none)))))), (xl, .inr (4, [.ref xn, .ref xm])), (xn, .inl (cn, 64, .inr (.inl (fun _ => 0)))), (xm, .inl (cm, 64, .inr (.inl (fun _ => 0)))), (xr, .inr (6, [.ref xw, .ref xt])), (xw, .inl (cw, 8, .inr (.inl (fun _ => 0)))), (xt, .inl (ct, 8, .inr (.inl (fun _ => 0)))), (o, .inl (cO, 1, .inr (.inl (fun _ => 0))))] sz) := by
  refine ax_MetWH (cc := cL_power) (maxL := 5) (ret := (some .int)) (by decide) rfl ?_
  intro p e s m args below meth c s₁ B hml hv
  obtain ⟨rfl, hsz, hP, hK, hD0, hE⟩ := hv
  have hx := B.exec
  have hb := B.bytes
  have hr := B.returns
  have hts := atoms_spec (ws := wl_power) B.pre
  have hown : s.vm.findClass RL = some m.cls := findClass_of_methodNamed B.named
  have hlocks := B.notSynchronized
  have htab := vx_table (x := yL_power) B (hts _ List.mem_cons_self)
  subst hsz
  have hD := hD0.self (sz := s.heap.size)
  generalize hAe : va_A [(x, .inr (8, [.ref xs, .ref xp, .int 0, .int 0, .ref xl, .ref xr])), (xs, .inl (cS, 3, .inr (.inr (.inr (.inr (fun _ => none)))))), (xp, .inl (cP, 8, .inr (.inr (.inr (.inr (fun _ => none)))))), (xl, .inr (4, [.ref xn, .ref xm])), (xn, .inl (cn, 64, .inr (.inl (fun _ => 0)))), (xm, .inl (cm, 64, .inr (.inl (fun _ => 0)))), (xr, .inr (6, [.ref xw, .ref xt])), (xw, .inl (cw, 8, .inr (.inl (fun _ => 0)))), (xt, .inl (ct, 8, .inr (.inl (fun _ => 0)))), (o, .inl (cO, 1, .inr (.inl (fun _ => 0))))] s.heap.size = A at hD hE ⊢
  have hA : ∀ q : Nat, s.heap.size ≤ q → A q := fun q h => by rw [← hAe]; exact Or.inr h
  have hS : va_S A s.heap s.heap [] := va_S.rf
  have hl := lv_entry ([.ref x, .int p1, .int p2, .ref o]) (n := 5) (Nat.le_of_ble_eq_true rfl)
  rw [lg_entry_eq]
  generalize (lg_sl ([.ref x, .int p1, .int p2, .ref o]) ++ List.replicate (5 - (lg_sl ([.ref x, .int p1, .int p2, .ref o])).length) Slot.unset).toArray = ls at hl ⊢
  have hl : lv_has ls 5 [(0, .ref x), (1, .int p1), (2, .int p2), (3, .ref o)] := hl
  have hP : va_P (dC, dI) vwCl [(x, .inr (8, [.ref xs, .ref xp, .int 0, .int 0, .ref xl, .ref xr])), (xs, .inl (cS, 3, .inr (.inr (.inr (.inr (fun _ => none)))))), (xp, .inl (cP, 8, .inr (.inr (.inr (.inr (fun _ => none)))))), (xl, .inr (4, [.ref xn, .ref xm])), (xn, .inl (cn, 64, .inr (.inl (fun _ => 0)))), (xm, .inl (cm, 64, .inr (.inl (fun _ => 0)))), (xr, .inr (6, [.ref xw, .ref xt])), (xw, .inl (cw, 8, .inr (.inl (fun _ => 0)))), (xt, .inl (ct, 8, .inr (.inl (fun _ => 0)))), (o, .inl (cO, 1, .inr (.inl (fun _ => 0))))] s.heap := hP
  refine lv_aload_n hx hb dL_power_0 rfl (lv_at hl 3 rfl) ?_
  refine lv_iconst (v := 0) hx hb dL_power_1 (by decide) ?_
  refine lv_aload_n hx hb dL_power_2 rfl (lv_at hl 0 rfl) ?_
  refine lv_iload_n hx hb dL_power_3 rfl (lv_at hl 1 rfl) ?_
  refine lv_iload_n hx hb dL_power_4 rfl (lv_at hl 2 rfl) ?_
  have hPc := hP.sub (ws' := [(x, .inr (8, [.ref xs, .ref xp, .int 0, .int 0, .ref xl, .ref xr])), (xs, .inl (cS, 3, .inr (.inr (.inr (.inr (fun _ => none)))))), (xp, .inl (cP, 8, .inr (.inr (.inr (.inr (fun _ => none)))))), (xl, .inr (4, [.ref xn, .ref xm])), (xn, .inl (cn, 64, .inr (.inl (fun _ => 0)))), (xm, .inl (cm, 64, .inr (.inl (fun _ => 0)))), (xr, .inr (6, [.ref xw, .ref xt])), (xw, .inl (cw, 8, .inr (.inl (fun _ => 0)))), (xt, .inl (ct, 8, .inr (.inl (fun _ => 0))))]) [0, 1, 2, 3, 4, 5, 6, 7, 8] rfl
  have hKc := hK.sub (tys' := [(cS, .object "Diffractory$Source"), (cP, .object "Diffractory$Part"), (cn, .long), (cm, .long), (cw, .long), (ct, .long)]) [0, 1, 2, 3, 4, 5] rfl
  have hDc := hD.sub (ws' := [(x, .inr (8, [.ref xs, .ref xp, .int 0, .int 0, .ref xl, .ref xr])), (xs, .inl (cS, 3, .inr (.inr (.inr (.inr (fun _ => none)))))), (xp, .inl (cP, 8, .inr (.inr (.inr (.inr (fun _ => none)))))), (xl, .inr (4, [.ref xn, .ref xm])), (xn, .inl (cn, 64, .inr (.inl (fun _ => 0)))), (xm, .inl (cm, 64, .inr (.inl (fun _ => 0)))), (xr, .inr (6, [.ref xw, .ref xt])), (xw, .inl (cw, 8, .inr (.inl (fun _ => 0)))), (xt, .inl (ct, 8, .inr (.inl (fun _ => 0))))]) [0, 1, 2, 3, 4, 5, 6, 7, 8] (by decide) rfl
  have hFc := va_free (wc := [(x, .inr (8, [.ref xs, .ref xp, .int 0, .int 0, .ref xl, .ref xr])), (xs, .inl (cS, 3, .inr (.inr (.inr (.inr (fun _ => none)))))), (xp, .inl (cP, 8, .inr (.inr (.inr (.inr (fun _ => none)))))), (xl, .inr (4, [.ref xn, .ref xm])), (xn, .inl (cn, 64, .inr (.inl (fun _ => 0)))), (xm, .inl (cm, 64, .inr (.inl (fun _ => 0)))), (xr, .inr (6, [.ref xw, .ref xt])), (xw, .inl (cw, 8, .inr (.inl (fun _ => 0)))), (xt, .inl (ct, 8, .inr (.inl (fun _ => 0))))]) hD hS hA [0, 1, 2, 3, 4, 5, 6, 7, 8] rfl
  refine vx_calll (vx_runV (As := [.int p1, .int p2]) (rest := [.int 0, .ref o]) ⟨hx, hb, hml, hown, hts⟩ (c_X4_power l hlt dC dI x xs xp xl xn xm xr xw xt cS cP cn cm cw ct sa ta s.heap.size p1 p2) (cwV 2 hts gw_power rfl rfl rfl (by decide +kernel) ⟨Nat.le_of_ble_eq_true rfl, Nat.le_of_ble_eq_true rfl⟩) ⟨ax_fbW, va_recv hK hP (ci := 8) (q0 := 0) rfl rfl, ax_prW hPc hKc hDc hS hFc hE⟩ rfl rfl hl.1 rfl (lv_room (Nat.le_of_ble_eq_true rfl)) dL_power_5 ⟨Nat.le_of_ble_eq_true rfl, Nat.le_of_ble_eq_true rfl⟩) hS (fun q _ h9 => hFc q h9) hFc (fun q _ h9 => hFc q h9) (fun E9 ce9 q9 u9 t H locs ht hvm hw9 hB hz1 hk1 hS hce hcv hcl => ?_) (fun r_1 u_3  t H locs ht hvm hw_2 hB hz1 hk1 hS => ?_)
  · subst hB
    obtain ⟨hP, hD⟩ := va_join (wr := [(o, .inl (cO, 1, .inr (.inl (fun _ => 0))))]) (w1 := []) hP hD [0, 1, 2, 3, 4, 5, 6, 7, 8] [9] rfl rfl (by decide) (by decide) hk1 hFc (fun k q h9 => by simp at h9) ⟨fun i j p9 q9 h9 => by simp at h9, fun k q9 h9 => by simp at h9⟩
    have hP : va_P (dC, dI) vwCl [(o, .inl (cO, 1, .inr (.inl (fun _ => 0))))] H := hP
    have hD : va_D A [(o, .inl (cO, 1, .inr (.inl (fun _ => 0))))] := hD
    refine vx_catch (name := "java/lang/IndexOutOfBoundsException") hown [] ⟨0, 9, 12, 21⟩ [] (htab.trans rfl) (fun z h9 => nomatch h9) (by decide) (by decide) (hts (.classLink RL 21 "java/lang/IndexOutOfBoundsException") (by decide +kernel)) (va_Nw.use rfl hE.c2) hce hcv hcl ?_
    refine lv_astore (lv' := [(4, .ref q9), (0, .ref x), (1, .int p1), (2, .int p2), (3, .ref o)]) hx hb dL_power_12 hl (by decide) rfl (fun ls hl => ?_)
    refine lv_iconst (v := 1) hx hb dL_power_14 (by decide) ?_
    refine W.widen (k := 1) (n := 6) (Nat.le_of_ble_eq_true rfl) (Nat.le_of_ble_eq_true rfl) ?_
    have hP9 := hP.sub (ws' := [(o, .inl (cO, 1, .inr (.inl (fun _ => 0))))]) [0] rfl
    have hD9 := hD.sub (ws' := [(o, .inl (cO, 1, .inr (.inl (fun _ => 0))))]) [0] (by decide) rfl
    have hK9 := hK.sub (tys' := [(cO, .long)]) [6] rfl
    exact W.iret (v := 1) hx hb hr (fun t ht hW => ⟨⟨1, (fun _ => 0), rfl, Or.inr ⟨by omega, rfl⟩, by rw [ht]; exact hP9, va_K.moved hW.alike hK9, hD9⟩, hS.F ht⟩) hS.2.2 dL_power_15
  · obtain ⟨hP, hD⟩ := va_join (wr := [(o, .inl (cO, 1, .inr (.inl (fun _ => 0))))]) (w1 := []) hP hD [0, 1, 2, 3, 4, 5, 6, 7, 8] [9] rfl rfl (by decide) (by decide) hk1 hFc (fun k q h9 => by simp at h9) ⟨fun i j p9 q9 h9 => by simp at h9, fun k q9 h9 => by simp at h9⟩
    have hP : va_P (dC, dI) vwCl [(o, .inl (cO, 1, .inr (.inl (fun _ => 0))))] H := hP
    have hD : va_D A [(o, .inl (cO, 1, .inr (.inl (fun _ => 0))))] := hD
    refine ax_l (y := 0) hw_2.2 ?_
    refine va_last hx hb hK hP hD hS 0 6 rfl rfl (by unfold vp_in; decide) dL_power_8 (fun H locs hP hD hS => ?_)
    rw [ax_uz] at hP hD
    have hP : va_P (dC, dI) vwCl [(o, .inl (cO, 1, .inr (.inl (fun _ => 0))))] H := hP
    have hD : va_D A [(o, .inl (cO, 1, .inr (.inl (fun _ => 0))))] := hD
    refine lv_goto (tgt := 16) hx hb dL_power_9 (by decide) ?_
    refine lv_iconst (v := 0) hx hb dL_power_16 (by decide) ?_
    refine W.widen (k := 1) (n := 6) (Nat.le_of_ble_eq_true rfl) (Nat.le_of_ble_eq_true rfl) ?_
    have hP9 := hP.sub (ws' := [(o, .inl (cO, 1, .inr (.inl (fun _ => 0))))]) [0] rfl
    have hD9 := hD.sub (ws' := [(o, .inl (cO, 1, .inr (.inl (fun _ => 0))))]) [0] (by decide) rfl
    have hK9 := hK.sub (tys' := [(cO, .long)]) [6] rfl
    exact W.iret (v := 0) hx hb hr (fun t ht hW => ⟨⟨0, (fun _ => 0), rfl, Or.inl ⟨by omega, rfl, by first | rfl | exact (if_pos (by assumption)).symm | exact (if_neg (by assumption)).symm⟩, by rw [ht]; exact hP9, va_K.moved hW.alike hK9, hD9⟩, hS.F ht⟩) hS.2.2 dL_power_17

set_option maxHeartbeats 4000000 in
set_option maxRecDepth 100000 in
theorem c_L_brightest (l : Launch) (hlt : l.stackTraces = false) (dC : Nat → ClassId) (dI : Nat → Nat → Nat) (x xs xp xl xn xm xr xw xt o : Nat) (cS cP cn cm cw ct cO : ClassId) (sa ta : Nat → Nat) (sz : Nat) (p1 : Int32) : Met l yL_brightest wl_brightest ({ frames := 40, cells := 1, slots := 6, locals := 1000 }) (va_Pc [.ref x, .int p1, .ref o] (ax_W (dC, dI) vwCl [(x, .inr (8, [.ref xs, .ref xp, .int 0, .int 0, .ref xl, .ref xr])), (xs, .inl (cS, 3, .inr (.inr (.inr (.inr (fun _ => none)))))), (xp, .inl (cP, 8, .inr (.inr (.inr (.inr (fun _ => none)))))), (xl, .inr (4, [.ref xn, .ref xm])), (xn, .inl (cn, 64, .inr (.inl (fun _ => 0)))), (xm, .inl (cm, 64, .inr (.inl (fun _ => 0)))), (xr, .inr (6, [.ref xw, .ref xt])), (xw, .inl (cw, 8, .inr (.inl (fun _ => 0)))), (xt, .inl (ct, 8, .inr (.inl (fun _ => 0)))), (o, .inl (cO, 1, .inr (.inl (fun _ => 0))))] [(cS, .object "Diffractory$Source"), (cP, .object "Diffractory$Part"), (cn, .long), (cm, .long), (cw, .long), (ct, .long), (cO, .long)] sa ta sz)) (va_Qi (fun (r : Int32) (u : Nat → Int64) => ((p1.toInt = -1) ∧ r = 0 ∧ u 0 = 0) ∨ (¬ (p1.toInt = -1) ∧ r = 1)) (fun (u : Nat → Int64) (t : State) => va_P (dC, dI) vwCl [(o, .inl (cO, 1, .inr (.inl u)))] t.heap ∧ va_K (dC, dI) vwCl [(cO, .long)] t ∧ va_D (va_A [(x, .inr (8, [.ref xs, .ref xp, .int 0, .int 0, .ref xl, .ref xr])), (xs, .inl (cS, 3, .inr (.inr (.inr (.inr (fun _ => none)))))), (xp, .inl (cP, 8, .inr (.inr (.inr (.inr (fun _ => none)))))), (xl, .inr (4, [.ref xn, .ref xm])), (xn, .inl (cn, 64, .inr (.inl (fun _ => 0)))), (xm, .inl (cm, 64, .inr (.inl (fun _ => 0)))), (xr, .inr (6, [.ref xw, .ref xt])), (xw, .inl (cw, 8, .inr (.inl (fun _ => 0)))), (xt, .inl (ct, 8, .inr (.inl (fun _ => 0)))), (o, .inl (cO, 1, .inr (.inl (fun _ => 0))))] sz) [(o, .inl (cO, 1, .inr (.inl u)))]) (va_A [(x, .inr (8, [.ref xs, .ref xp, .int 0, .int 0, .ref xl, .ref xr])), (xs, .inl (cS, 3, .inr (.inr (.inr (.inr (fun _ => none)))))), (xp, .inl (cP, 8, .inr (.inr (.inr (.inr (fun _ => none)))))), (xl, .inr (4, [.ref xn, .ref xm])), (xn, .inl (cn, 64, .inr (.inl (fun _ => 0)))), (xm, .inl (cm, 64, .inr (.inl (fun _ => 0)))), (xr, .inr (6, [.ref xw, .ref xt])), (xw, .inl (cw, 8, .inr (.inl (fun _ => 0)))), (xt, .inl (ct, 8, .inr (.inl (fun _ => 0)))), (o, .inl (cO, 1, .inr (.inl (fun _ => 0))))] sz)) 1 6 (va_A [(x, .inr (8, [.ref xs, .ref xp, .int 0, .int 0, .ref xl, .ref xr])), (xs, .inl (cS, 3, .inr (.inr (.inr (.inr (fun _ => none)))))), (xp, .inl (cP, 8, .inr (.inr (.inr (.inr (fun _ => none)))))), (xl, .inr (4, [.ref xn, .ref xm])), (xn, .inl (cn, 64, .inr (.inl (fun _ => 0)))), (xm, .inl (cm, 64, .inr (.inl (fun _ => 0)))), (xr, .inr (6, [.ref xw, .ref xt])), (xw, .inl (cw, 8, .inr (.inl (fun _ => 0)))), (xt, .inl (ct, 8, .inr (.inl (fun _ => 0)))), (o, .inl (cO, 1, .inr (.inl (fun _ => 0))))] sz) := by
  refine ax_MetWH (cc := cL_brightest) (maxL := 4) (ret := (some .int)) (by decide) rfl ?_
  intro p e s m args below meth c s₁ B hml hv
  obtain ⟨rfl, hsz, hP, hK, hD0, hE⟩ := hv
  have hx := B.exec
  have hb := B.bytes
  have hr := B.returns
  have hts := atoms_spec (ws := wl_brightest) B.pre
  have hown : s.vm.findClass RL = some m.cls := findClass_of_methodNamed B.named
  have hlocks := B.notSynchronized
  have htab := vx_table (x := yL_brightest) B (hts _ List.mem_cons_self)
  subst hsz
  have hD := hD0.self (sz := s.heap.size)
  generalize hAe : va_A [(x, .inr (8, [.ref xs, .ref xp, .int 0, .int 0, .ref xl, .ref xr])), (xs, .inl (cS, 3, .inr (.inr (.inr (.inr (fun _ => none)))))), (xp, .inl (cP, 8, .inr (.inr (.inr (.inr (fun _ => none)))))), (xl, .inr (4, [.ref xn, .ref xm])), (xn, .inl (cn, 64, .inr (.inl (fun _ => 0)))), (xm, .inl (cm, 64, .inr (.inl (fun _ => 0)))), (xr, .inr (6, [.ref xw, .ref xt])), (xw, .inl (cw, 8, .inr (.inl (fun _ => 0)))), (xt, .inl (ct, 8, .inr (.inl (fun _ => 0)))), (o, .inl (cO, 1, .inr (.inl (fun _ => 0))))] s.heap.size = A at hD hE ⊢
  have hA : ∀ q : Nat, s.heap.size ≤ q → A q := fun q h => by rw [← hAe]; exact Or.inr h
  have hS : va_S A s.heap s.heap [] := va_S.rf
  have hl := lv_entry ([.ref x, .int p1, .ref o]) (n := 4) (Nat.le_of_ble_eq_true rfl)
  rw [lg_entry_eq]
  generalize (lg_sl ([.ref x, .int p1, .ref o]) ++ List.replicate (4 - (lg_sl ([.ref x, .int p1, .ref o])).length) Slot.unset).toArray = ls at hl ⊢
  have hl : lv_has ls 4 [(0, .ref x), (1, .int p1), (2, .ref o)] := hl
  have hP : va_P (dC, dI) vwCl [(x, .inr (8, [.ref xs, .ref xp, .int 0, .int 0, .ref xl, .ref xr])), (xs, .inl (cS, 3, .inr (.inr (.inr (.inr (fun _ => none)))))), (xp, .inl (cP, 8, .inr (.inr (.inr (.inr (fun _ => none)))))), (xl, .inr (4, [.ref xn, .ref xm])), (xn, .inl (cn, 64, .inr (.inl (fun _ => 0)))), (xm, .inl (cm, 64, .inr (.inl (fun _ => 0)))), (xr, .inr (6, [.ref xw, .ref xt])), (xw, .inl (cw, 8, .inr (.inl (fun _ => 0)))), (xt, .inl (ct, 8, .inr (.inl (fun _ => 0)))), (o, .inl (cO, 1, .inr (.inl (fun _ => 0))))] s.heap := hP
  refine lv_aload_n hx hb dL_brightest_0 rfl (lv_at hl 2 rfl) ?_
  refine lv_iconst (v := 0) hx hb dL_brightest_1 (by decide) ?_
  refine lv_aload_n hx hb dL_brightest_2 rfl (lv_at hl 0 rfl) ?_
  refine lv_iload_n hx hb dL_brightest_3 rfl (lv_at hl 1 rfl) ?_
  have hPc := hP.sub (ws' := [(x, .inr (8, [.ref xs, .ref xp, .int 0, .int 0, .ref xl, .ref xr])), (xs, .inl (cS, 3, .inr (.inr (.inr (.inr (fun _ => none)))))), (xp, .inl (cP, 8, .inr (.inr (.inr (.inr (fun _ => none)))))), (xl, .inr (4, [.ref xn, .ref xm])), (xn, .inl (cn, 64, .inr (.inl (fun _ => 0)))), (xm, .inl (cm, 64, .inr (.inl (fun _ => 0)))), (xr, .inr (6, [.ref xw, .ref xt])), (xw, .inl (cw, 8, .inr (.inl (fun _ => 0)))), (xt, .inl (ct, 8, .inr (.inl (fun _ => 0))))]) [0, 1, 2, 3, 4, 5, 6, 7, 8] rfl
  have hKc := hK.sub (tys' := [(cS, .object "Diffractory$Source"), (cP, .object "Diffractory$Part"), (cn, .long), (cm, .long), (cw, .long), (ct, .long)]) [0, 1, 2, 3, 4, 5] rfl
  have hDc := hD.sub (ws' := [(x, .inr (8, [.ref xs, .ref xp, .int 0, .int 0, .ref xl, .ref xr])), (xs, .inl (cS, 3, .inr (.inr (.inr (.inr (fun _ => none)))))), (xp, .inl (cP, 8, .inr (.inr (.inr (.inr (fun _ => none)))))), (xl, .inr (4, [.ref xn, .ref xm])), (xn, .inl (cn, 64, .inr (.inl (fun _ => 0)))), (xm, .inl (cm, 64, .inr (.inl (fun _ => 0)))), (xr, .inr (6, [.ref xw, .ref xt])), (xw, .inl (cw, 8, .inr (.inl (fun _ => 0)))), (xt, .inl (ct, 8, .inr (.inl (fun _ => 0))))]) [0, 1, 2, 3, 4, 5, 6, 7, 8] (by decide) rfl
  have hFc := va_free (wc := [(x, .inr (8, [.ref xs, .ref xp, .int 0, .int 0, .ref xl, .ref xr])), (xs, .inl (cS, 3, .inr (.inr (.inr (.inr (fun _ => none)))))), (xp, .inl (cP, 8, .inr (.inr (.inr (.inr (fun _ => none)))))), (xl, .inr (4, [.ref xn, .ref xm])), (xn, .inl (cn, 64, .inr (.inl (fun _ => 0)))), (xm, .inl (cm, 64, .inr (.inl (fun _ => 0)))), (xr, .inr (6, [.ref xw, .ref xt])), (xw, .inl (cw, 8, .inr (.inl (fun _ => 0)))), (xt, .inl (ct, 8, .inr (.inl (fun _ => 0))))]) hD hS hA [0, 1, 2, 3, 4, 5, 6, 7, 8] rfl
  refine vx_calli (vx_runV (As := [.int p1]) (rest := [.int 0, .ref o]) ⟨hx, hb, hml, hown, hts⟩ (c_X4_brightest l hlt dC dI x xs xp xl xn xm xr xw xt cS cP cn cm cw ct sa ta s.heap.size p1) (cwV 1 hts gw_brightest rfl rfl rfl (by decide +kernel) ⟨Nat.le_of_ble_eq_true rfl, Nat.le_of_ble_eq_true rfl⟩) ⟨ax_fbW, va_recv hK hP (ci := 8) (q0 := 0) rfl rfl, ax_prW hPc hKc hDc hS hFc hE⟩ rfl rfl hl.1 rfl (lv_room (Nat.le_of_ble_eq_true rfl)) dL_brightest_4 ⟨Nat.le_of_ble_eq_true rfl, Nat.le_of_ble_eq_true rfl⟩) hS (fun q _ h9 => hFc q h9) hFc (fun q _ h9 => hFc q h9) (fun E9 ce9 q9 u9 t H locs ht hvm hw9 hB hz1 hk1 hS hce hcv hcl => ?_) (fun r_1 u_3  t H locs ht hvm hw_2 hB hz1 hk1 hS => ?_)
  · subst hB
    obtain ⟨hP, hD⟩ := va_join (wr := [(o, .inl (cO, 1, .inr (.inl (fun _ => 0))))]) (w1 := []) hP hD [0, 1, 2, 3, 4, 5, 6, 7, 8] [9] rfl rfl (by decide) (by decide) hk1 hFc (fun k q h9 => by simp at h9) ⟨fun i j p9 q9 h9 => by simp at h9, fun k q9 h9 => by simp at h9⟩
    have hP : va_P (dC, dI) vwCl [(o, .inl (cO, 1, .inr (.inl (fun _ => 0))))] H := hP
    have hD : va_D A [(o, .inl (cO, 1, .inr (.inl (fun _ => 0))))] := hD
    refine vx_catch (name := "java/lang/IndexOutOfBoundsException") hown [] ⟨0, 9, 12, 21⟩ [] (htab.trans rfl) (fun z h9 => nomatch h9) (by decide) (by decide) (hts (.classLink RL 21 "java/lang/IndexOutOfBoundsException") (by decide +kernel)) (va_Nw.use rfl hE.c2) hce hcv hcl ?_
    refine lv_astore_n (lv' := [(3, .ref q9), (0, .ref x), (1, .int p1), (2, .ref o)]) hx hb dL_brightest_12 rfl hl (by decide) rfl (fun ls hl => ?_)
    refine lv_iconst (v := 1) hx hb dL_brightest_13 (by decide) ?_
    refine W.widen (k := 1) (n := 6) (Nat.le_of_ble_eq_true rfl) (Nat.le_of_ble_eq_true rfl) ?_
    have hP9 := hP.sub (ws' := [(o, .inl (cO, 1, .inr (.inl (fun _ => 0))))]) [0] rfl
    have hD9 := hD.sub (ws' := [(o, .inl (cO, 1, .inr (.inl (fun _ => 0))))]) [0] (by decide) rfl
    have hK9 := hK.sub (tys' := [(cO, .long)]) [6] rfl
    exact W.iret (v := 1) hx hb hr (fun t ht hW => ⟨⟨1, (fun _ => 0), rfl, Or.inr ⟨by omega, rfl⟩, by rw [ht]; exact hP9, va_K.moved hW.alike hK9, hD9⟩, hS.F ht⟩) hS.2.2 dL_brightest_14
  · obtain ⟨hP, hD⟩ := va_join (wr := [(o, .inl (cO, 1, .inr (.inl (fun _ => 0))))]) (w1 := []) hP hD [0, 1, 2, 3, 4, 5, 6, 7, 8] [9] rfl rfl (by decide) (by decide) hk1 hFc (fun k q h9 => by simp at h9) ⟨fun i j p9 q9 h9 => by simp at h9, fun k q9 h9 => by simp at h9⟩
    have hP : va_P (dC, dI) vwCl [(o, .inl (cO, 1, .inr (.inl (fun _ => 0))))] H := hP
    have hD : va_D A [(o, .inl (cO, 1, .inr (.inl (fun _ => 0))))] := hD
    refine ax_i (y := 0) hw_2.2 ?_
    refine lv_i2l (v := 0) hx hb dL_brightest_7 (by decide) ?_
    refine va_last hx hb hK hP hD hS 0 6 rfl rfl (by unfold vp_in; decide) dL_brightest_8 (fun H locs hP hD hS => ?_)
    rw [ax_uz] at hP hD
    have hP : va_P (dC, dI) vwCl [(o, .inl (cO, 1, .inr (.inl (fun _ => 0))))] H := hP
    have hD : va_D A [(o, .inl (cO, 1, .inr (.inl (fun _ => 0))))] := hD
    refine lv_goto (tgt := 15) hx hb dL_brightest_9 (by decide) ?_
    refine lv_iconst (v := 0) hx hb dL_brightest_15 (by decide) ?_
    refine W.widen (k := 1) (n := 6) (Nat.le_of_ble_eq_true rfl) (Nat.le_of_ble_eq_true rfl) ?_
    have hP9 := hP.sub (ws' := [(o, .inl (cO, 1, .inr (.inl (fun _ => 0))))]) [0] rfl
    have hD9 := hD.sub (ws' := [(o, .inl (cO, 1, .inr (.inl (fun _ => 0))))]) [0] (by decide) rfl
    have hK9 := hK.sub (tys' := [(cO, .long)]) [6] rfl
    exact W.iret (v := 0) hx hb hr (fun t ht hW => ⟨⟨0, (fun _ => 0), rfl, Or.inl ⟨by omega, rfl, by first | rfl | exact (if_pos (by assumption)).symm | exact (if_neg (by assumption)).symm⟩, by rw [ht]; exact hP9, va_K.moved hW.alike hK9, hD9⟩, hS.F ht⟩) hS.2.2 dL_brightest_16

set_option maxHeartbeats 4000000 in
set_option maxRecDepth 100000 in
theorem c_L_dark (l : Launch) (hlt : l.stackTraces = false) (dC : Nat → ClassId) (dI : Nat → Nat → Nat) (x xs xp xl xn xm xr xw xt o : Nat) (cS cP cn cm cw ct cO : ClassId) (sa ta : Nat → Nat) (sz : Nat) (p1 : Int32) : Met l yL_dark wl_dark ({ frames := 40, cells := 1, slots := 6, locals := 1000 }) (va_Pc [.ref x, .int p1, .ref o] (ax_W (dC, dI) vwCl [(x, .inr (8, [.ref xs, .ref xp, .int 0, .int 0, .ref xl, .ref xr])), (xs, .inl (cS, 3, .inr (.inr (.inr (.inr (fun _ => none)))))), (xp, .inl (cP, 8, .inr (.inr (.inr (.inr (fun _ => none)))))), (xl, .inr (4, [.ref xn, .ref xm])), (xn, .inl (cn, 64, .inr (.inl (fun _ => 0)))), (xm, .inl (cm, 64, .inr (.inl (fun _ => 0)))), (xr, .inr (6, [.ref xw, .ref xt])), (xw, .inl (cw, 8, .inr (.inl (fun _ => 0)))), (xt, .inl (ct, 8, .inr (.inl (fun _ => 0)))), (o, .inl (cO, 1, .inr (.inl (fun _ => 0))))] [(cS, .object "Diffractory$Source"), (cP, .object "Diffractory$Part"), (cn, .long), (cm, .long), (cw, .long), (ct, .long), (cO, .long)] sa ta sz)) (va_Qi (fun (r : Int32) (u : Nat → Int64) => ((p1.toInt = -1) ∧ r = 0 ∧ u 0 = 255) ∨ (¬ (p1.toInt = -1) ∧ r = 1)) (fun (u : Nat → Int64) (t : State) => va_P (dC, dI) vwCl [(o, .inl (cO, 1, .inr (.inl u)))] t.heap ∧ va_K (dC, dI) vwCl [(cO, .long)] t ∧ va_D (va_A [(x, .inr (8, [.ref xs, .ref xp, .int 0, .int 0, .ref xl, .ref xr])), (xs, .inl (cS, 3, .inr (.inr (.inr (.inr (fun _ => none)))))), (xp, .inl (cP, 8, .inr (.inr (.inr (.inr (fun _ => none)))))), (xl, .inr (4, [.ref xn, .ref xm])), (xn, .inl (cn, 64, .inr (.inl (fun _ => 0)))), (xm, .inl (cm, 64, .inr (.inl (fun _ => 0)))), (xr, .inr (6, [.ref xw, .ref xt])), (xw, .inl (cw, 8, .inr (.inl (fun _ => 0)))), (xt, .inl (ct, 8, .inr (.inl (fun _ => 0)))), (o, .inl (cO, 1, .inr (.inl (fun _ => 0))))] sz) [(o, .inl (cO, 1, .inr (.inl u)))]) (va_A [(x, .inr (8, [.ref xs, .ref xp, .int 0, .int 0, .ref xl, .ref xr])), (xs, .inl (cS, 3, .inr (.inr (.inr (.inr (fun _ => none)))))), (xp, .inl (cP, 8, .inr (.inr (.inr (.inr (fun _ => none)))))), (xl, .inr (4, [.ref xn, .ref xm])), (xn, .inl (cn, 64, .inr (.inl (fun _ => 0)))), (xm, .inl (cm, 64, .inr (.inl (fun _ => 0)))), (xr, .inr (6, [.ref xw, .ref xt])), (xw, .inl (cw, 8, .inr (.inl (fun _ => 0)))), (xt, .inl (ct, 8, .inr (.inl (fun _ => 0)))), (o, .inl (cO, 1, .inr (.inl (fun _ => 0))))] sz)) 1 6 (va_A [(x, .inr (8, [.ref xs, .ref xp, .int 0, .int 0, .ref xl, .ref xr])), (xs, .inl (cS, 3, .inr (.inr (.inr (.inr (fun _ => none)))))), (xp, .inl (cP, 8, .inr (.inr (.inr (.inr (fun _ => none)))))), (xl, .inr (4, [.ref xn, .ref xm])), (xn, .inl (cn, 64, .inr (.inl (fun _ => 0)))), (xm, .inl (cm, 64, .inr (.inl (fun _ => 0)))), (xr, .inr (6, [.ref xw, .ref xt])), (xw, .inl (cw, 8, .inr (.inl (fun _ => 0)))), (xt, .inl (ct, 8, .inr (.inl (fun _ => 0)))), (o, .inl (cO, 1, .inr (.inl (fun _ => 0))))] sz) := by
  refine ax_MetWH (cc := cL_dark) (maxL := 4) (ret := (some .int)) (by decide) rfl ?_
  intro p e s m args below meth c s₁ B hml hv
  obtain ⟨rfl, hsz, hP, hK, hD0, hE⟩ := hv
  have hx := B.exec
  have hb := B.bytes
  have hr := B.returns
  have hts := atoms_spec (ws := wl_dark) B.pre
  have hown : s.vm.findClass RL = some m.cls := findClass_of_methodNamed B.named
  have hlocks := B.notSynchronized
  have htab := vx_table (x := yL_dark) B (hts _ List.mem_cons_self)
  subst hsz
  have hD := hD0.self (sz := s.heap.size)
  generalize hAe : va_A [(x, .inr (8, [.ref xs, .ref xp, .int 0, .int 0, .ref xl, .ref xr])), (xs, .inl (cS, 3, .inr (.inr (.inr (.inr (fun _ => none)))))), (xp, .inl (cP, 8, .inr (.inr (.inr (.inr (fun _ => none)))))), (xl, .inr (4, [.ref xn, .ref xm])), (xn, .inl (cn, 64, .inr (.inl (fun _ => 0)))), (xm, .inl (cm, 64, .inr (.inl (fun _ => 0)))), (xr, .inr (6, [.ref xw, .ref xt])), (xw, .inl (cw, 8, .inr (.inl (fun _ => 0)))), (xt, .inl (ct, 8, .inr (.inl (fun _ => 0)))), (o, .inl (cO, 1, .inr (.inl (fun _ => 0))))] s.heap.size = A at hD hE ⊢
  have hA : ∀ q : Nat, s.heap.size ≤ q → A q := fun q h => by rw [← hAe]; exact Or.inr h
  have hS : va_S A s.heap s.heap [] := va_S.rf
  have hl := lv_entry ([.ref x, .int p1, .ref o]) (n := 4) (Nat.le_of_ble_eq_true rfl)
  rw [lg_entry_eq]
  generalize (lg_sl ([.ref x, .int p1, .ref o]) ++ List.replicate (4 - (lg_sl ([.ref x, .int p1, .ref o])).length) Slot.unset).toArray = ls at hl ⊢
  have hl : lv_has ls 4 [(0, .ref x), (1, .int p1), (2, .ref o)] := hl
  have hP : va_P (dC, dI) vwCl [(x, .inr (8, [.ref xs, .ref xp, .int 0, .int 0, .ref xl, .ref xr])), (xs, .inl (cS, 3, .inr (.inr (.inr (.inr (fun _ => none)))))), (xp, .inl (cP, 8, .inr (.inr (.inr (.inr (fun _ => none)))))), (xl, .inr (4, [.ref xn, .ref xm])), (xn, .inl (cn, 64, .inr (.inl (fun _ => 0)))), (xm, .inl (cm, 64, .inr (.inl (fun _ => 0)))), (xr, .inr (6, [.ref xw, .ref xt])), (xw, .inl (cw, 8, .inr (.inl (fun _ => 0)))), (xt, .inl (ct, 8, .inr (.inl (fun _ => 0)))), (o, .inl (cO, 1, .inr (.inl (fun _ => 0))))] s.heap := hP
  refine lv_aload_n hx hb dL_dark_0 rfl (lv_at hl 2 rfl) ?_
  refine lv_iconst (v := 0) hx hb dL_dark_1 (by decide) ?_
  refine lv_aload_n hx hb dL_dark_2 rfl (lv_at hl 0 rfl) ?_
  refine lv_iload_n hx hb dL_dark_3 rfl (lv_at hl 1 rfl) ?_
  have hPc := hP.sub (ws' := [(x, .inr (8, [.ref xs, .ref xp, .int 0, .int 0, .ref xl, .ref xr])), (xs, .inl (cS, 3, .inr (.inr (.inr (.inr (fun _ => none)))))), (xp, .inl (cP, 8, .inr (.inr (.inr (.inr (fun _ => none)))))), (xl, .inr (4, [.ref xn, .ref xm])), (xn, .inl (cn, 64, .inr (.inl (fun _ => 0)))), (xm, .inl (cm, 64, .inr (.inl (fun _ => 0)))), (xr, .inr (6, [.ref xw, .ref xt])), (xw, .inl (cw, 8, .inr (.inl (fun _ => 0)))), (xt, .inl (ct, 8, .inr (.inl (fun _ => 0))))]) [0, 1, 2, 3, 4, 5, 6, 7, 8] rfl
  have hKc := hK.sub (tys' := [(cS, .object "Diffractory$Source"), (cP, .object "Diffractory$Part"), (cn, .long), (cm, .long), (cw, .long), (ct, .long)]) [0, 1, 2, 3, 4, 5] rfl
  have hDc := hD.sub (ws' := [(x, .inr (8, [.ref xs, .ref xp, .int 0, .int 0, .ref xl, .ref xr])), (xs, .inl (cS, 3, .inr (.inr (.inr (.inr (fun _ => none)))))), (xp, .inl (cP, 8, .inr (.inr (.inr (.inr (fun _ => none)))))), (xl, .inr (4, [.ref xn, .ref xm])), (xn, .inl (cn, 64, .inr (.inl (fun _ => 0)))), (xm, .inl (cm, 64, .inr (.inl (fun _ => 0)))), (xr, .inr (6, [.ref xw, .ref xt])), (xw, .inl (cw, 8, .inr (.inl (fun _ => 0)))), (xt, .inl (ct, 8, .inr (.inl (fun _ => 0))))]) [0, 1, 2, 3, 4, 5, 6, 7, 8] (by decide) rfl
  have hFc := va_free (wc := [(x, .inr (8, [.ref xs, .ref xp, .int 0, .int 0, .ref xl, .ref xr])), (xs, .inl (cS, 3, .inr (.inr (.inr (.inr (fun _ => none)))))), (xp, .inl (cP, 8, .inr (.inr (.inr (.inr (fun _ => none)))))), (xl, .inr (4, [.ref xn, .ref xm])), (xn, .inl (cn, 64, .inr (.inl (fun _ => 0)))), (xm, .inl (cm, 64, .inr (.inl (fun _ => 0)))), (xr, .inr (6, [.ref xw, .ref xt])), (xw, .inl (cw, 8, .inr (.inl (fun _ => 0)))), (xt, .inl (ct, 8, .inr (.inl (fun _ => 0))))]) hD hS hA [0, 1, 2, 3, 4, 5, 6, 7, 8] rfl
  refine vx_calli (vx_runV (As := [.int p1]) (rest := [.int 0, .ref o]) ⟨hx, hb, hml, hown, hts⟩ (c_X4_dark l hlt dC dI x xs xp xl xn xm xr xw xt cS cP cn cm cw ct sa ta s.heap.size p1) (cwV 1 hts gw_dark rfl rfl rfl (by decide +kernel) ⟨Nat.le_of_ble_eq_true rfl, Nat.le_of_ble_eq_true rfl⟩) ⟨ax_fbW, va_recv hK hP (ci := 8) (q0 := 0) rfl rfl, ax_prW hPc hKc hDc hS hFc hE⟩ rfl rfl hl.1 rfl (lv_room (Nat.le_of_ble_eq_true rfl)) dL_dark_4 ⟨Nat.le_of_ble_eq_true rfl, Nat.le_of_ble_eq_true rfl⟩) hS (fun q _ h9 => hFc q h9) hFc (fun q _ h9 => hFc q h9) (fun E9 ce9 q9 u9 t H locs ht hvm hw9 hB hz1 hk1 hS hce hcv hcl => ?_) (fun r_1 u_3  t H locs ht hvm hw_2 hB hz1 hk1 hS => ?_)
  · subst hB
    obtain ⟨hP, hD⟩ := va_join (wr := [(o, .inl (cO, 1, .inr (.inl (fun _ => 0))))]) (w1 := []) hP hD [0, 1, 2, 3, 4, 5, 6, 7, 8] [9] rfl rfl (by decide) (by decide) hk1 hFc (fun k q h9 => by simp at h9) ⟨fun i j p9 q9 h9 => by simp at h9, fun k q9 h9 => by simp at h9⟩
    have hP : va_P (dC, dI) vwCl [(o, .inl (cO, 1, .inr (.inl (fun _ => 0))))] H := hP
    have hD : va_D A [(o, .inl (cO, 1, .inr (.inl (fun _ => 0))))] := hD
    refine vx_catch (name := "java/lang/IndexOutOfBoundsException") hown [] ⟨0, 9, 12, 21⟩ [] (htab.trans rfl) (fun z h9 => nomatch h9) (by decide) (by decide) (hts (.classLink RL 21 "java/lang/IndexOutOfBoundsException") (by decide +kernel)) (va_Nw.use rfl hE.c2) hce hcv hcl ?_
    refine lv_astore_n (lv' := [(3, .ref q9), (0, .ref x), (1, .int p1), (2, .ref o)]) hx hb dL_dark_12 rfl hl (by decide) rfl (fun ls hl => ?_)
    refine lv_iconst (v := 1) hx hb dL_dark_13 (by decide) ?_
    refine W.widen (k := 1) (n := 6) (Nat.le_of_ble_eq_true rfl) (Nat.le_of_ble_eq_true rfl) ?_
    have hP9 := hP.sub (ws' := [(o, .inl (cO, 1, .inr (.inl (fun _ => 0))))]) [0] rfl
    have hD9 := hD.sub (ws' := [(o, .inl (cO, 1, .inr (.inl (fun _ => 0))))]) [0] (by decide) rfl
    have hK9 := hK.sub (tys' := [(cO, .long)]) [6] rfl
    exact W.iret (v := 1) hx hb hr (fun t ht hW => ⟨⟨1, (fun _ => 0), rfl, Or.inr ⟨by omega, rfl⟩, by rw [ht]; exact hP9, va_K.moved hW.alike hK9, hD9⟩, hS.F ht⟩) hS.2.2 dL_dark_14
  · obtain ⟨hP, hD⟩ := va_join (wr := [(o, .inl (cO, 1, .inr (.inl (fun _ => 0))))]) (w1 := []) hP hD [0, 1, 2, 3, 4, 5, 6, 7, 8] [9] rfl rfl (by decide) (by decide) hk1 hFc (fun k q h9 => by simp at h9) ⟨fun i j p9 q9 h9 => by simp at h9, fun k q9 h9 => by simp at h9⟩
    have hP : va_P (dC, dI) vwCl [(o, .inl (cO, 1, .inr (.inl (fun _ => 0))))] H := hP
    have hD : va_D A [(o, .inl (cO, 1, .inr (.inl (fun _ => 0))))] := hD
    refine ax_i (y := 255) hw_2.2 ?_
    refine lv_i2l (v := 255) hx hb dL_dark_7 (by decide) ?_
    refine va_last hx hb hK hP hD hS 0 6 rfl rfl (by unfold vp_in; decide) dL_dark_8 (fun H locs hP hD hS => ?_)
    have hP : va_P (dC, dI) vwCl [(o, .inl (cO, 1, .inr (.inl (vp_updL (fun _ => 0) (0 : Int32).toNatClampNeg 255))))] H := hP
    have hD : va_D A [(o, .inl (cO, 1, .inr (.inl (vp_updL (fun _ => 0) (0 : Int32).toNatClampNeg 255))))] := hD
    refine lv_goto (tgt := 15) hx hb dL_dark_9 (by decide) ?_
    refine lv_iconst (v := 0) hx hb dL_dark_15 (by decide) ?_
    refine W.widen (k := 1) (n := 6) (Nat.le_of_ble_eq_true rfl) (Nat.le_of_ble_eq_true rfl) ?_
    have hP9 := hP.sub (ws' := [(o, .inl (cO, 1, .inr (.inl (vp_updL (fun _ => 0) (0 : Int32).toNatClampNeg 255))))]) [0] rfl
    have hD9 := hD.sub (ws' := [(o, .inl (cO, 1, .inr (.inl (vp_updL (fun _ => 0) (0 : Int32).toNatClampNeg 255))))]) [0] (by decide) rfl
    have hK9 := hK.sub (tys' := [(cO, .long)]) [6] rfl
    exact W.iret (v := 0) hx hb hr (fun t ht hW => ⟨⟨0, (vp_updL (fun _ => 0) (0 : Int32).toNatClampNeg 255), rfl, Or.inl ⟨by omega, rfl, by first | rfl | exact (if_pos (by assumption)).symm | exact (if_neg (by assumption)).symm⟩, by rw [ht]; exact hP9, va_K.moved hW.alike hK9, hD9⟩, hS.F ht⟩) hS.2.2 dL_dark_16

set_option maxHeartbeats 4000000 in
set_option maxRecDepth 100000 in
theorem c_L_period (l : Launch) (hlt : l.stackTraces = false) (dC : Nat → ClassId) (dI : Nat → Nat → Nat) (x xs xp xl xn xm xr xw xt o : Nat) (cS cP cn cm cw ct cO : ClassId) (sa ta : Nat → Nat) (sz : Nat) (p1 : Int32) : Met l yL_period wl_period ({ frames := 40, cells := 1, slots := 6, locals := 1000 }) (va_Pc [.ref x, .int p1, .ref o] (ax_W (dC, dI) vwCl [(x, .inr (8, [.ref xs, .ref xp, .int 0, .int 0, .ref xl, .ref xr])), (xs, .inl (cS, 3, .inr (.inr (.inr (.inr (fun _ => none)))))), (xp, .inl (cP, 8, .inr (.inr (.inr (.inr (fun _ => none)))))), (xl, .inr (4, [.ref xn, .ref xm])), (xn, .inl (cn, 64, .inr (.inl (fun _ => 0)))), (xm, .inl (cm, 64, .inr (.inl (fun _ => 0)))), (xr, .inr (6, [.ref xw, .ref xt])), (xw, .inl (cw, 8, .inr (.inl (fun _ => 0)))), (xt, .inl (ct, 8, .inr (.inl (fun _ => 0)))), (o, .inl (cO, 1, .inr (.inl (fun _ => 0))))] [(cS, .object "Diffractory$Source"), (cP, .object "Diffractory$Part"), (cn, .long), (cm, .long), (cw, .long), (ct, .long), (cO, .long)] sa ta sz)) (va_Qi (fun (r : Int32) (u : Nat → Int64) => ((p1.toInt = -1) ∧ r = 0 ∧ u 0 = 1) ∨ (¬ (p1.toInt = -1) ∧ r = 1)) (fun (u : Nat → Int64) (t : State) => va_P (dC, dI) vwCl [(o, .inl (cO, 1, .inr (.inl u)))] t.heap ∧ va_K (dC, dI) vwCl [(cO, .long)] t ∧ va_D (va_A [(x, .inr (8, [.ref xs, .ref xp, .int 0, .int 0, .ref xl, .ref xr])), (xs, .inl (cS, 3, .inr (.inr (.inr (.inr (fun _ => none)))))), (xp, .inl (cP, 8, .inr (.inr (.inr (.inr (fun _ => none)))))), (xl, .inr (4, [.ref xn, .ref xm])), (xn, .inl (cn, 64, .inr (.inl (fun _ => 0)))), (xm, .inl (cm, 64, .inr (.inl (fun _ => 0)))), (xr, .inr (6, [.ref xw, .ref xt])), (xw, .inl (cw, 8, .inr (.inl (fun _ => 0)))), (xt, .inl (ct, 8, .inr (.inl (fun _ => 0)))), (o, .inl (cO, 1, .inr (.inl (fun _ => 0))))] sz) [(o, .inl (cO, 1, .inr (.inl u)))]) (va_A [(x, .inr (8, [.ref xs, .ref xp, .int 0, .int 0, .ref xl, .ref xr])), (xs, .inl (cS, 3, .inr (.inr (.inr (.inr (fun _ => none)))))), (xp, .inl (cP, 8, .inr (.inr (.inr (.inr (fun _ => none)))))), (xl, .inr (4, [.ref xn, .ref xm])), (xn, .inl (cn, 64, .inr (.inl (fun _ => 0)))), (xm, .inl (cm, 64, .inr (.inl (fun _ => 0)))), (xr, .inr (6, [.ref xw, .ref xt])), (xw, .inl (cw, 8, .inr (.inl (fun _ => 0)))), (xt, .inl (ct, 8, .inr (.inl (fun _ => 0)))), (o, .inl (cO, 1, .inr (.inl (fun _ => 0))))] sz)) 1 6 (va_A [(x, .inr (8, [.ref xs, .ref xp, .int 0, .int 0, .ref xl, .ref xr])), (xs, .inl (cS, 3, .inr (.inr (.inr (.inr (fun _ => none)))))), (xp, .inl (cP, 8, .inr (.inr (.inr (.inr (fun _ => none)))))), (xl, .inr (4, [.ref xn, .ref xm])), (xn, .inl (cn, 64, .inr (.inl (fun _ => 0)))), (xm, .inl (cm, 64, .inr (.inl (fun _ => 0)))), (xr, .inr (6, [.ref xw, .ref xt])), (xw, .inl (cw, 8, .inr (.inl (fun _ => 0)))), (xt, .inl (ct, 8, .inr (.inl (fun _ => 0)))), (o, .inl (cO, 1, .inr (.inl (fun _ => 0))))] sz) := by
  refine ax_MetWH (cc := cL_period) (maxL := 4) (ret := (some .int)) (by decide) rfl ?_
  intro p e s m args below meth c s₁ B hml hv
  obtain ⟨rfl, hsz, hP, hK, hD0, hE⟩ := hv
  have hx := B.exec
  have hb := B.bytes
  have hr := B.returns
  have hts := atoms_spec (ws := wl_period) B.pre
  have hown : s.vm.findClass RL = some m.cls := findClass_of_methodNamed B.named
  have hlocks := B.notSynchronized
  have htab := vx_table (x := yL_period) B (hts _ List.mem_cons_self)
  subst hsz
  have hD := hD0.self (sz := s.heap.size)
  generalize hAe : va_A [(x, .inr (8, [.ref xs, .ref xp, .int 0, .int 0, .ref xl, .ref xr])), (xs, .inl (cS, 3, .inr (.inr (.inr (.inr (fun _ => none)))))), (xp, .inl (cP, 8, .inr (.inr (.inr (.inr (fun _ => none)))))), (xl, .inr (4, [.ref xn, .ref xm])), (xn, .inl (cn, 64, .inr (.inl (fun _ => 0)))), (xm, .inl (cm, 64, .inr (.inl (fun _ => 0)))), (xr, .inr (6, [.ref xw, .ref xt])), (xw, .inl (cw, 8, .inr (.inl (fun _ => 0)))), (xt, .inl (ct, 8, .inr (.inl (fun _ => 0)))), (o, .inl (cO, 1, .inr (.inl (fun _ => 0))))] s.heap.size = A at hD hE ⊢
  have hA : ∀ q : Nat, s.heap.size ≤ q → A q := fun q h => by rw [← hAe]; exact Or.inr h
  have hS : va_S A s.heap s.heap [] := va_S.rf
  have hl := lv_entry ([.ref x, .int p1, .ref o]) (n := 4) (Nat.le_of_ble_eq_true rfl)
  rw [lg_entry_eq]
  generalize (lg_sl ([.ref x, .int p1, .ref o]) ++ List.replicate (4 - (lg_sl ([.ref x, .int p1, .ref o])).length) Slot.unset).toArray = ls at hl ⊢
  have hl : lv_has ls 4 [(0, .ref x), (1, .int p1), (2, .ref o)] := hl
  have hP : va_P (dC, dI) vwCl [(x, .inr (8, [.ref xs, .ref xp, .int 0, .int 0, .ref xl, .ref xr])), (xs, .inl (cS, 3, .inr (.inr (.inr (.inr (fun _ => none)))))), (xp, .inl (cP, 8, .inr (.inr (.inr (.inr (fun _ => none)))))), (xl, .inr (4, [.ref xn, .ref xm])), (xn, .inl (cn, 64, .inr (.inl (fun _ => 0)))), (xm, .inl (cm, 64, .inr (.inl (fun _ => 0)))), (xr, .inr (6, [.ref xw, .ref xt])), (xw, .inl (cw, 8, .inr (.inl (fun _ => 0)))), (xt, .inl (ct, 8, .inr (.inl (fun _ => 0)))), (o, .inl (cO, 1, .inr (.inl (fun _ => 0))))] s.heap := hP
  refine lv_aload_n hx hb dL_period_0 rfl (lv_at hl 2 rfl) ?_
  refine lv_iconst (v := 0) hx hb dL_period_1 (by decide) ?_
  refine lv_aload_n hx hb dL_period_2 rfl (lv_at hl 0 rfl) ?_
  refine lv_iload_n hx hb dL_period_3 rfl (lv_at hl 1 rfl) ?_
  have hPc := hP.sub (ws' := [(x, .inr (8, [.ref xs, .ref xp, .int 0, .int 0, .ref xl, .ref xr])), (xs, .inl (cS, 3, .inr (.inr (.inr (.inr (fun _ => none)))))), (xp, .inl (cP, 8, .inr (.inr (.inr (.inr (fun _ => none)))))), (xl, .inr (4, [.ref xn, .ref xm])), (xn, .inl (cn, 64, .inr (.inl (fun _ => 0)))), (xm, .inl (cm, 64, .inr (.inl (fun _ => 0)))), (xr, .inr (6, [.ref xw, .ref xt])), (xw, .inl (cw, 8, .inr (.inl (fun _ => 0)))), (xt, .inl (ct, 8, .inr (.inl (fun _ => 0))))]) [0, 1, 2, 3, 4, 5, 6, 7, 8] rfl
  have hKc := hK.sub (tys' := [(cS, .object "Diffractory$Source"), (cP, .object "Diffractory$Part"), (cn, .long), (cm, .long), (cw, .long), (ct, .long)]) [0, 1, 2, 3, 4, 5] rfl
  have hDc := hD.sub (ws' := [(x, .inr (8, [.ref xs, .ref xp, .int 0, .int 0, .ref xl, .ref xr])), (xs, .inl (cS, 3, .inr (.inr (.inr (.inr (fun _ => none)))))), (xp, .inl (cP, 8, .inr (.inr (.inr (.inr (fun _ => none)))))), (xl, .inr (4, [.ref xn, .ref xm])), (xn, .inl (cn, 64, .inr (.inl (fun _ => 0)))), (xm, .inl (cm, 64, .inr (.inl (fun _ => 0)))), (xr, .inr (6, [.ref xw, .ref xt])), (xw, .inl (cw, 8, .inr (.inl (fun _ => 0)))), (xt, .inl (ct, 8, .inr (.inl (fun _ => 0))))]) [0, 1, 2, 3, 4, 5, 6, 7, 8] (by decide) rfl
  have hFc := va_free (wc := [(x, .inr (8, [.ref xs, .ref xp, .int 0, .int 0, .ref xl, .ref xr])), (xs, .inl (cS, 3, .inr (.inr (.inr (.inr (fun _ => none)))))), (xp, .inl (cP, 8, .inr (.inr (.inr (.inr (fun _ => none)))))), (xl, .inr (4, [.ref xn, .ref xm])), (xn, .inl (cn, 64, .inr (.inl (fun _ => 0)))), (xm, .inl (cm, 64, .inr (.inl (fun _ => 0)))), (xr, .inr (6, [.ref xw, .ref xt])), (xw, .inl (cw, 8, .inr (.inl (fun _ => 0)))), (xt, .inl (ct, 8, .inr (.inl (fun _ => 0))))]) hD hS hA [0, 1, 2, 3, 4, 5, 6, 7, 8] rfl
  refine vx_calli (vx_runV (As := [.int p1]) (rest := [.int 0, .ref o]) ⟨hx, hb, hml, hown, hts⟩ (c_X4_period l hlt dC dI x xs xp xl xn xm xr xw xt cS cP cn cm cw ct sa ta s.heap.size p1) (cwV 1 hts gw_period rfl rfl rfl (by decide +kernel) ⟨Nat.le_of_ble_eq_true rfl, Nat.le_of_ble_eq_true rfl⟩) ⟨ax_fbW, va_recv hK hP (ci := 8) (q0 := 0) rfl rfl, ax_prW hPc hKc hDc hS hFc hE⟩ rfl rfl hl.1 rfl (lv_room (Nat.le_of_ble_eq_true rfl)) dL_period_4 ⟨Nat.le_of_ble_eq_true rfl, Nat.le_of_ble_eq_true rfl⟩) hS (fun q _ h9 => hFc q h9) hFc (fun q _ h9 => hFc q h9) (fun E9 ce9 q9 u9 t H locs ht hvm hw9 hB hz1 hk1 hS hce hcv hcl => ?_) (fun r_1 u_3  t H locs ht hvm hw_2 hB hz1 hk1 hS => ?_)
  · subst hB
    obtain ⟨hP, hD⟩ := va_join (wr := [(o, .inl (cO, 1, .inr (.inl (fun _ => 0))))]) (w1 := []) hP hD [0, 1, 2, 3, 4, 5, 6, 7, 8] [9] rfl rfl (by decide) (by decide) hk1 hFc (fun k q h9 => by simp at h9) ⟨fun i j p9 q9 h9 => by simp at h9, fun k q9 h9 => by simp at h9⟩
    have hP : va_P (dC, dI) vwCl [(o, .inl (cO, 1, .inr (.inl (fun _ => 0))))] H := hP
    have hD : va_D A [(o, .inl (cO, 1, .inr (.inl (fun _ => 0))))] := hD
    refine vx_catch (name := "java/lang/IndexOutOfBoundsException") hown [] ⟨0, 9, 12, 21⟩ [] (htab.trans rfl) (fun z h9 => nomatch h9) (by decide) (by decide) (hts (.classLink RL 21 "java/lang/IndexOutOfBoundsException") (by decide +kernel)) (va_Nw.use rfl hE.c2) hce hcv hcl ?_
    refine lv_astore_n (lv' := [(3, .ref q9), (0, .ref x), (1, .int p1), (2, .ref o)]) hx hb dL_period_12 rfl hl (by decide) rfl (fun ls hl => ?_)
    refine lv_iconst (v := 1) hx hb dL_period_13 (by decide) ?_
    refine W.widen (k := 1) (n := 6) (Nat.le_of_ble_eq_true rfl) (Nat.le_of_ble_eq_true rfl) ?_
    have hP9 := hP.sub (ws' := [(o, .inl (cO, 1, .inr (.inl (fun _ => 0))))]) [0] rfl
    have hD9 := hD.sub (ws' := [(o, .inl (cO, 1, .inr (.inl (fun _ => 0))))]) [0] (by decide) rfl
    have hK9 := hK.sub (tys' := [(cO, .long)]) [6] rfl
    exact W.iret (v := 1) hx hb hr (fun t ht hW => ⟨⟨1, (fun _ => 0), rfl, Or.inr ⟨by omega, rfl⟩, by rw [ht]; exact hP9, va_K.moved hW.alike hK9, hD9⟩, hS.F ht⟩) hS.2.2 dL_period_14
  · obtain ⟨hP, hD⟩ := va_join (wr := [(o, .inl (cO, 1, .inr (.inl (fun _ => 0))))]) (w1 := []) hP hD [0, 1, 2, 3, 4, 5, 6, 7, 8] [9] rfl rfl (by decide) (by decide) hk1 hFc (fun k q h9 => by simp at h9) ⟨fun i j p9 q9 h9 => by simp at h9, fun k q9 h9 => by simp at h9⟩
    have hP : va_P (dC, dI) vwCl [(o, .inl (cO, 1, .inr (.inl (fun _ => 0))))] H := hP
    have hD : va_D A [(o, .inl (cO, 1, .inr (.inl (fun _ => 0))))] := hD
    refine ax_i (y := 1) hw_2.2 ?_
    refine lv_i2l (v := 1) hx hb dL_period_7 (by decide) ?_
    refine va_last hx hb hK hP hD hS 0 6 rfl rfl (by unfold vp_in; decide) dL_period_8 (fun H locs hP hD hS => ?_)
    have hP : va_P (dC, dI) vwCl [(o, .inl (cO, 1, .inr (.inl (vp_updL (fun _ => 0) (0 : Int32).toNatClampNeg 1))))] H := hP
    have hD : va_D A [(o, .inl (cO, 1, .inr (.inl (vp_updL (fun _ => 0) (0 : Int32).toNatClampNeg 1))))] := hD
    refine lv_goto (tgt := 15) hx hb dL_period_9 (by decide) ?_
    refine lv_iconst (v := 0) hx hb dL_period_15 (by decide) ?_
    refine W.widen (k := 1) (n := 6) (Nat.le_of_ble_eq_true rfl) (Nat.le_of_ble_eq_true rfl) ?_
    have hP9 := hP.sub (ws' := [(o, .inl (cO, 1, .inr (.inl (vp_updL (fun _ => 0) (0 : Int32).toNatClampNeg 1))))]) [0] rfl
    have hD9 := hD.sub (ws' := [(o, .inl (cO, 1, .inr (.inl (vp_updL (fun _ => 0) (0 : Int32).toNatClampNeg 1))))]) [0] (by decide) rfl
    have hK9 := hK.sub (tys' := [(cO, .long)]) [6] rfl
    exact W.iret (v := 0) hx hb hr (fun t ht hW => ⟨⟨0, (vp_updL (fun _ => 0) (0 : Int32).toNatClampNeg 1), rfl, Or.inl ⟨by omega, rfl, by first | rfl | exact (if_pos (by assumption)).symm | exact (if_neg (by assumption)).symm⟩, by rw [ht]; exact hP9, va_K.moved hW.alike hK9, hD9⟩, hS.F ht⟩) hS.2.2 dL_period_16

set_option maxHeartbeats 4000000 in
set_option maxRecDepth 100000 in
theorem c_L_clear (l : Launch) (hlt : l.stackTraces = false) (dC : Nat → ClassId) (dI : Nat → Nat → Nat) (x xs xp xl xn xm xr xw xt o : Nat) (cS cP cn cm cw ct cO : ClassId) (sa ta : Nat → Nat) (sz : Nat) (p1 : Int32) : Met l yL_clear wl_clear ({ frames := 48, cells := 1, slots := 6, locals := 1200 }) (va_Pc [.ref x, .int p1, .ref o] (ax_W (dC, dI) vwCl [(x, .inr (8, [.ref xs, .ref xp, .int 0, .int 0, .ref xl, .ref xr])), (xs, .inl (cS, 3, .inr (.inr (.inr (.inr (fun _ => none)))))), (xp, .inl (cP, 8, .inr (.inr (.inr (.inr (fun _ => none)))))), (xl, .inr (4, [.ref xn, .ref xm])), (xn, .inl (cn, 64, .inr (.inl (fun _ => 0)))), (xm, .inl (cm, 64, .inr (.inl (fun _ => 0)))), (xr, .inr (6, [.ref xw, .ref xt])), (xw, .inl (cw, 8, .inr (.inl (fun _ => 0)))), (xt, .inl (ct, 8, .inr (.inl (fun _ => 0)))), (o, .inl (cO, 1, .inr (.inr (.inr (.inl (fun _ => 0))))))] [(cS, .object "Diffractory$Source"), (cP, .object "Diffractory$Part"), (cn, .long), (cm, .long), (cw, .long), (ct, .long), (cO, .double)] sa ta sz)) (va_Qi (fun (r : Int32) (u : Nat → UInt64) => ((p1.toInt = -1) ∧ r = 0 ∧ u 0 = 0) ∨ (¬ (p1.toInt = -1) ∧ r = 1)) (fun (u : Nat → UInt64) (t : State) => va_P (dC, dI) vwCl [(o, .inl (cO, 1, .inr (.inr (.inr (.inl u)))))] t.heap ∧ va_K (dC, dI) vwCl [(cO, .double)] t ∧ va_D (va_A [(x, .inr (8, [.ref xs, .ref xp, .int 0, .int 0, .ref xl, .ref xr])), (xs, .inl (cS, 3, .inr (.inr (.inr (.inr (fun _ => none)))))), (xp, .inl (cP, 8, .inr (.inr (.inr (.inr (fun _ => none)))))), (xl, .inr (4, [.ref xn, .ref xm])), (xn, .inl (cn, 64, .inr (.inl (fun _ => 0)))), (xm, .inl (cm, 64, .inr (.inl (fun _ => 0)))), (xr, .inr (6, [.ref xw, .ref xt])), (xw, .inl (cw, 8, .inr (.inl (fun _ => 0)))), (xt, .inl (ct, 8, .inr (.inl (fun _ => 0)))), (o, .inl (cO, 1, .inr (.inr (.inr (.inl (fun _ => 0))))))] sz) [(o, .inl (cO, 1, .inr (.inr (.inr (.inl u)))))]) (va_A [(x, .inr (8, [.ref xs, .ref xp, .int 0, .int 0, .ref xl, .ref xr])), (xs, .inl (cS, 3, .inr (.inr (.inr (.inr (fun _ => none)))))), (xp, .inl (cP, 8, .inr (.inr (.inr (.inr (fun _ => none)))))), (xl, .inr (4, [.ref xn, .ref xm])), (xn, .inl (cn, 64, .inr (.inl (fun _ => 0)))), (xm, .inl (cm, 64, .inr (.inl (fun _ => 0)))), (xr, .inr (6, [.ref xw, .ref xt])), (xw, .inl (cw, 8, .inr (.inl (fun _ => 0)))), (xt, .inl (ct, 8, .inr (.inl (fun _ => 0)))), (o, .inl (cO, 1, .inr (.inr (.inr (.inl (fun _ => 0))))))] sz)) 1 6 (va_A [(x, .inr (8, [.ref xs, .ref xp, .int 0, .int 0, .ref xl, .ref xr])), (xs, .inl (cS, 3, .inr (.inr (.inr (.inr (fun _ => none)))))), (xp, .inl (cP, 8, .inr (.inr (.inr (.inr (fun _ => none)))))), (xl, .inr (4, [.ref xn, .ref xm])), (xn, .inl (cn, 64, .inr (.inl (fun _ => 0)))), (xm, .inl (cm, 64, .inr (.inl (fun _ => 0)))), (xr, .inr (6, [.ref xw, .ref xt])), (xw, .inl (cw, 8, .inr (.inl (fun _ => 0)))), (xt, .inl (ct, 8, .inr (.inl (fun _ => 0)))), (o, .inl (cO, 1, .inr (.inr (.inr (.inl (fun _ => 0))))))] sz) := by
  refine ax_MetWH (cc := cL_clear) (maxL := 4) (ret := (some .int)) (by decide) rfl ?_
  intro p e s m args below meth c s₁ B hml hv
  obtain ⟨rfl, hsz, hP, hK, hD0, hE⟩ := hv
  have hx := B.exec
  have hb := B.bytes
  have hr := B.returns
  have hts := atoms_spec (ws := wl_clear) B.pre
  have hown : s.vm.findClass RL = some m.cls := findClass_of_methodNamed B.named
  have hlocks := B.notSynchronized
  have htab := vx_table (x := yL_clear) B (hts _ List.mem_cons_self)
  subst hsz
  have hD := hD0.self (sz := s.heap.size)
  generalize hAe : va_A [(x, .inr (8, [.ref xs, .ref xp, .int 0, .int 0, .ref xl, .ref xr])), (xs, .inl (cS, 3, .inr (.inr (.inr (.inr (fun _ => none)))))), (xp, .inl (cP, 8, .inr (.inr (.inr (.inr (fun _ => none)))))), (xl, .inr (4, [.ref xn, .ref xm])), (xn, .inl (cn, 64, .inr (.inl (fun _ => 0)))), (xm, .inl (cm, 64, .inr (.inl (fun _ => 0)))), (xr, .inr (6, [.ref xw, .ref xt])), (xw, .inl (cw, 8, .inr (.inl (fun _ => 0)))), (xt, .inl (ct, 8, .inr (.inl (fun _ => 0)))), (o, .inl (cO, 1, .inr (.inr (.inr (.inl (fun _ => 0))))))] s.heap.size = A at hD hE ⊢
  have hA : ∀ q : Nat, s.heap.size ≤ q → A q := fun q h => by rw [← hAe]; exact Or.inr h
  have hS : va_S A s.heap s.heap [] := va_S.rf
  have hl := lv_entry ([.ref x, .int p1, .ref o]) (n := 4) (Nat.le_of_ble_eq_true rfl)
  rw [lg_entry_eq]
  generalize (lg_sl ([.ref x, .int p1, .ref o]) ++ List.replicate (4 - (lg_sl ([.ref x, .int p1, .ref o])).length) Slot.unset).toArray = ls at hl ⊢
  have hl : lv_has ls 4 [(0, .ref x), (1, .int p1), (2, .ref o)] := hl
  have hP : va_P (dC, dI) vwCl [(x, .inr (8, [.ref xs, .ref xp, .int 0, .int 0, .ref xl, .ref xr])), (xs, .inl (cS, 3, .inr (.inr (.inr (.inr (fun _ => none)))))), (xp, .inl (cP, 8, .inr (.inr (.inr (.inr (fun _ => none)))))), (xl, .inr (4, [.ref xn, .ref xm])), (xn, .inl (cn, 64, .inr (.inl (fun _ => 0)))), (xm, .inl (cm, 64, .inr (.inl (fun _ => 0)))), (xr, .inr (6, [.ref xw, .ref xt])), (xw, .inl (cw, 8, .inr (.inl (fun _ => 0)))), (xt, .inl (ct, 8, .inr (.inl (fun _ => 0)))), (o, .inl (cO, 1, .inr (.inr (.inr (.inl (fun _ => 0))))))] s.heap := hP
  refine lv_aload_n hx hb dL_clear_0 rfl (lv_at hl 2 rfl) ?_
  refine lv_iconst (v := 0) hx hb dL_clear_1 (by decide) ?_
  refine lv_aload_n hx hb dL_clear_2 rfl (lv_at hl 0 rfl) ?_
  refine lv_iload_n hx hb dL_clear_3 rfl (lv_at hl 1 rfl) ?_
  have hPc := hP.sub (ws' := [(x, .inr (8, [.ref xs, .ref xp, .int 0, .int 0, .ref xl, .ref xr])), (xs, .inl (cS, 3, .inr (.inr (.inr (.inr (fun _ => none)))))), (xp, .inl (cP, 8, .inr (.inr (.inr (.inr (fun _ => none)))))), (xl, .inr (4, [.ref xn, .ref xm])), (xn, .inl (cn, 64, .inr (.inl (fun _ => 0)))), (xm, .inl (cm, 64, .inr (.inl (fun _ => 0)))), (xr, .inr (6, [.ref xw, .ref xt])), (xw, .inl (cw, 8, .inr (.inl (fun _ => 0)))), (xt, .inl (ct, 8, .inr (.inl (fun _ => 0))))]) [0, 1, 2, 3, 4, 5, 6, 7, 8] rfl
  have hKc := hK.sub (tys' := [(cS, .object "Diffractory$Source"), (cP, .object "Diffractory$Part"), (cn, .long), (cm, .long), (cw, .long), (ct, .long)]) [0, 1, 2, 3, 4, 5] rfl
  have hDc := hD.sub (ws' := [(x, .inr (8, [.ref xs, .ref xp, .int 0, .int 0, .ref xl, .ref xr])), (xs, .inl (cS, 3, .inr (.inr (.inr (.inr (fun _ => none)))))), (xp, .inl (cP, 8, .inr (.inr (.inr (.inr (fun _ => none)))))), (xl, .inr (4, [.ref xn, .ref xm])), (xn, .inl (cn, 64, .inr (.inl (fun _ => 0)))), (xm, .inl (cm, 64, .inr (.inl (fun _ => 0)))), (xr, .inr (6, [.ref xw, .ref xt])), (xw, .inl (cw, 8, .inr (.inl (fun _ => 0)))), (xt, .inl (ct, 8, .inr (.inl (fun _ => 0))))]) [0, 1, 2, 3, 4, 5, 6, 7, 8] (by decide) rfl
  have hFc := va_free (wc := [(x, .inr (8, [.ref xs, .ref xp, .int 0, .int 0, .ref xl, .ref xr])), (xs, .inl (cS, 3, .inr (.inr (.inr (.inr (fun _ => none)))))), (xp, .inl (cP, 8, .inr (.inr (.inr (.inr (fun _ => none)))))), (xl, .inr (4, [.ref xn, .ref xm])), (xn, .inl (cn, 64, .inr (.inl (fun _ => 0)))), (xm, .inl (cm, 64, .inr (.inl (fun _ => 0)))), (xr, .inr (6, [.ref xw, .ref xt])), (xw, .inl (cw, 8, .inr (.inl (fun _ => 0)))), (xt, .inl (ct, 8, .inr (.inl (fun _ => 0))))]) hD hS hA [0, 1, 2, 3, 4, 5, 6, 7, 8] rfl
  refine vx_calld (vx_runV (As := [.int p1]) (rest := [.int 0, .ref o]) ⟨hx, hb, hml, hown, hts⟩ (c_X4_clear l hlt dC dI x xs xp xl xn xm xr xw xt cS cP cn cm cw ct sa ta s.heap.size p1) (cwV 1 hts gw_clear rfl rfl rfl (by decide +kernel) ⟨Nat.le_of_ble_eq_true rfl, Nat.le_of_ble_eq_true rfl⟩) ⟨ax_fbW, va_recv hK hP (ci := 8) (q0 := 0) rfl rfl, ax_prW hPc hKc hDc hS hFc hE⟩ rfl rfl hl.1 rfl (lv_room (Nat.le_of_ble_eq_true rfl)) dL_clear_4 ⟨Nat.le_of_ble_eq_true rfl, Nat.le_of_ble_eq_true rfl⟩) hS (fun q _ h9 => hFc q h9) hFc (fun q _ h9 => hFc q h9) (fun E9 ce9 q9 u9 t H locs ht hvm hw9 hB hz1 hk1 hS hce hcv hcl => ?_) (fun r_1 u_3  t H locs ht hvm hw_2 hB hz1 hk1 hS => ?_)
  · subst hB
    obtain ⟨hP, hD⟩ := va_join (wr := [(o, .inl (cO, 1, .inr (.inr (.inr (.inl (fun _ => 0))))))]) (w1 := []) hP hD [0, 1, 2, 3, 4, 5, 6, 7, 8] [9] rfl rfl (by decide) (by decide) hk1 hFc (fun k q h9 => by simp at h9) ⟨fun i j p9 q9 h9 => by simp at h9, fun k q9 h9 => by simp at h9⟩
    have hP : va_P (dC, dI) vwCl [(o, .inl (cO, 1, .inr (.inr (.inr (.inl (fun _ => 0))))))] H := hP
    have hD : va_D A [(o, .inl (cO, 1, .inr (.inr (.inr (.inl (fun _ => 0))))))] := hD
    refine vx_catch (name := "java/lang/IndexOutOfBoundsException") hown [] ⟨0, 8, 11, 21⟩ [] (htab.trans rfl) (fun z h9 => nomatch h9) (by decide) (by decide) (hts (.classLink RL 21 "java/lang/IndexOutOfBoundsException") (by decide +kernel)) (va_Nw.use rfl hE.c2) hce hcv hcl ?_
    refine lv_astore_n (lv' := [(3, .ref q9), (0, .ref x), (1, .int p1), (2, .ref o)]) hx hb dL_clear_11 rfl hl (by decide) rfl (fun ls hl => ?_)
    refine lv_iconst (v := 1) hx hb dL_clear_12 (by decide) ?_
    refine W.widen (k := 1) (n := 6) (Nat.le_of_ble_eq_true rfl) (Nat.le_of_ble_eq_true rfl) ?_
    have hP9 := hP.sub (ws' := [(o, .inl (cO, 1, .inr (.inr (.inr (.inl (fun _ => 0))))))]) [0] rfl
    have hD9 := hD.sub (ws' := [(o, .inl (cO, 1, .inr (.inr (.inr (.inl (fun _ => 0))))))]) [0] (by decide) rfl
    have hK9 := hK.sub (tys' := [(cO, .double)]) [6] rfl
    exact W.iret (v := 1) hx hb hr (fun t ht hW => ⟨⟨1, (fun _ => 0), rfl, Or.inr ⟨by omega, rfl⟩, by rw [ht]; exact hP9, va_K.moved hW.alike hK9, hD9⟩, hS.F ht⟩) hS.2.2 dL_clear_13
  · obtain ⟨hP, hD⟩ := va_join (wr := [(o, .inl (cO, 1, .inr (.inr (.inr (.inl (fun _ => 0))))))]) (w1 := []) hP hD [0, 1, 2, 3, 4, 5, 6, 7, 8] [9] rfl rfl (by decide) (by decide) hk1 hFc (fun k q h9 => by simp at h9) ⟨fun i j p9 q9 h9 => by simp at h9, fun k q9 h9 => by simp at h9⟩
    have hP : va_P (dC, dI) vwCl [(o, .inl (cO, 1, .inr (.inr (.inr (.inl (fun _ => 0))))))] H := hP
    have hD : va_D A [(o, .inl (cO, 1, .inr (.inr (.inr (.inl (fun _ => 0))))))] := hD
    refine ax_d (y := 0) hw_2.2 ?_
    refine va_dast hx hb hK hP hD hS 0 6 rfl rfl (by unfold vp_in; decide) dL_clear_7 (fun H locs hP hD hS => ?_)
    have hP : va_P (dC, dI) vwCl [(o, .inl (cO, 1, .inr (.inr (.inr (.inl (vf_upd (fun _ => 0) (0 : Int32).toNatClampNeg 0))))))] H := hP
    have hD : va_D A [(o, .inl (cO, 1, .inr (.inr (.inr (.inl (vf_upd (fun _ => 0) (0 : Int32).toNatClampNeg 0))))))] := hD
    refine lv_goto (tgt := 14) hx hb dL_clear_8 (by decide) ?_
    refine lv_iconst (v := 0) hx hb dL_clear_14 (by decide) ?_
    refine W.widen (k := 1) (n := 6) (Nat.le_of_ble_eq_true rfl) (Nat.le_of_ble_eq_true rfl) ?_
    have hP9 := hP.sub (ws' := [(o, .inl (cO, 1, .inr (.inr (.inr (.inl (vf_upd (fun _ => 0) (0 : Int32).toNatClampNeg 0))))))]) [0] rfl
    have hD9 := hD.sub (ws' := [(o, .inl (cO, 1, .inr (.inr (.inr (.inl (vf_upd (fun _ => 0) (0 : Int32).toNatClampNeg 0))))))]) [0] (by decide) rfl
    have hK9 := hK.sub (tys' := [(cO, .double)]) [6] rfl
    exact W.iret (v := 0) hx hb hr (fun t ht hW => ⟨⟨0, (vf_upd (fun _ => 0) (0 : Int32).toNatClampNeg 0), rfl, Or.inl ⟨by omega, rfl, by first | rfl | exact (if_pos (by assumption)).symm | exact (if_neg (by assumption)).symm⟩, by rw [ht]; exact hP9, va_K.moved hW.alike hK9, hD9⟩, hS.F ht⟩) hS.2.2 dL_clear_15

set_option maxHeartbeats 4000000 in
set_option maxRecDepth 100000 in
theorem c_L_tenths (l : Launch) (hlt : l.stackTraces = false) (dC : Nat → ClassId) (dI : Nat → Nat → Nat) (x xs xp xl xn xm xr xw xt o : Nat) (cS cP cn cm cw ct cO : ClassId) (sa ta : Nat → Nat) (sz : Nat) (p1 : Int32) (p2 : Int32) : Met l yL_tenths wl_tenths ({ frames := 48, cells := 2, slots := 12, locals := 1200 }) (va_Pc [.ref x, .int p1, .int p2, .ref o] (ax_W (dC, dI) vwCl [(x, .inr (8, [.ref xs, .ref xp, .int 0, .int 0, .ref xl, .ref xr])), (xs, .inl (cS, 3, .inr (.inr (.inr (.inr (fun _ => none)))))), (xp, .inl (cP, 8, .inr (.inr (.inr (.inr (fun _ => none)))))), (xl, .inr (4, [.ref xn, .ref xm])), (xn, .inl (cn, 64, .inr (.inl (fun _ => 0)))), (xm, .inl (cm, 64, .inr (.inl (fun _ => 0)))), (xr, .inr (6, [.ref xw, .ref xt])), (xw, .inl (cw, 8, .inr (.inl (fun _ => 0)))), (xt, .inl (ct, 8, .inr (.inl (fun _ => 0)))), (o, .inl (cO, 1, .inr (.inr (.inr (.inl (fun _ => 0))))))] [(cS, .object "Diffractory$Source"), (cP, .object "Diffractory$Part"), (cn, .long), (cm, .long), (cw, .long), (ct, .long), (cO, .double)] sa ta sz)) (va_Qi (fun (r : Int32) (u : Nat → UInt64) => (((p1.toInt = -1 ∧ (0 ≤ p2.toInt ∧ p2.toInt ≤ 7))) ∧ r = 0 ∧ u 0 = 0) ∨ (¬ ((p1.toInt = -1 ∧ (0 ≤ p2.toInt ∧ p2.toInt ≤ 7))) ∧ r = 1)) (fun (u : Nat → UInt64) (t : State) => va_P (dC, dI) vwCl [(o, .inl (cO, 1, .inr (.inr (.inr (.inl u)))))] t.heap ∧ va_K (dC, dI) vwCl [(cO, .double)] t ∧ va_D (va_A [(x, .inr (8, [.ref xs, .ref xp, .int 0, .int 0, .ref xl, .ref xr])), (xs, .inl (cS, 3, .inr (.inr (.inr (.inr (fun _ => none)))))), (xp, .inl (cP, 8, .inr (.inr (.inr (.inr (fun _ => none)))))), (xl, .inr (4, [.ref xn, .ref xm])), (xn, .inl (cn, 64, .inr (.inl (fun _ => 0)))), (xm, .inl (cm, 64, .inr (.inl (fun _ => 0)))), (xr, .inr (6, [.ref xw, .ref xt])), (xw, .inl (cw, 8, .inr (.inl (fun _ => 0)))), (xt, .inl (ct, 8, .inr (.inl (fun _ => 0)))), (o, .inl (cO, 1, .inr (.inr (.inr (.inl (fun _ => 0))))))] sz) [(o, .inl (cO, 1, .inr (.inr (.inr (.inl u)))))]) (va_A [(x, .inr (8, [.ref xs, .ref xp, .int 0, .int 0, .ref xl, .ref xr])), (xs, .inl (cS, 3, .inr (.inr (.inr (.inr (fun _ => none)))))), (xp, .inl (cP, 8, .inr (.inr (.inr (.inr (fun _ => none)))))), (xl, .inr (4, [.ref xn, .ref xm])), (xn, .inl (cn, 64, .inr (.inl (fun _ => 0)))), (xm, .inl (cm, 64, .inr (.inl (fun _ => 0)))), (xr, .inr (6, [.ref xw, .ref xt])), (xw, .inl (cw, 8, .inr (.inl (fun _ => 0)))), (xt, .inl (ct, 8, .inr (.inl (fun _ => 0)))), (o, .inl (cO, 1, .inr (.inr (.inr (.inl (fun _ => 0))))))] sz)) 2 12 (va_A [(x, .inr (8, [.ref xs, .ref xp, .int 0, .int 0, .ref xl, .ref xr])), (xs, .inl (cS, 3, .inr (.inr (.inr (.inr (fun _ => none)))))), (xp, .inl (cP, 8, .inr (.inr (.inr (.inr (fun _ => none)))))), (xl, .inr (4, [.ref xn, .ref xm])), (xn, .inl (cn, 64, .inr (.inl (fun _ => 0)))), (xm, .inl (cm, 64, .inr (.inl (fun _ => 0)))), (xr, .inr (6, [.ref xw, .ref xt])), (xw, .inl (cw, 8, .inr (.inl (fun _ => 0)))), (xt, .inl (ct, 8, .inr (.inl (fun _ => 0)))), (o, .inl (cO, 1, .inr (.inr (.inr (.inl (fun _ => 0))))))] sz) := by
  refine ax_MetWH (cc := cL_tenths) (maxL := 5) (ret := (some .int)) (by decide) rfl ?_
  intro p e s m args below meth c s₁ B hml hv
  obtain ⟨rfl, hsz, hP, hK, hD0, hE⟩ := hv
  have hx := B.exec
  have hb := B.bytes
  have hr := B.returns
  have hts := atoms_spec (ws := wl_tenths) B.pre
  have hown : s.vm.findClass RL = some m.cls := findClass_of_methodNamed B.named
  have hlocks := B.notSynchronized
  have htab := vx_table (x := yL_tenths) B (hts _ List.mem_cons_self)
  subst hsz
  have hD := hD0.self (sz := s.heap.size)
  generalize hAe : va_A [(x, .inr (8, [.ref xs, .ref xp, .int 0, .int 0, .ref xl, .ref xr])), (xs, .inl (cS, 3, .inr (.inr (.inr (.inr (fun _ => none)))))), (xp, .inl (cP, 8, .inr (.inr (.inr (.inr (fun _ => none)))))), (xl, .inr (4, [.ref xn, .ref xm])), (xn, .inl (cn, 64, .inr (.inl (fun _ => 0)))), (xm, .inl (cm, 64, .inr (.inl (fun _ => 0)))), (xr, .inr (6, [.ref xw, .ref xt])), (xw, .inl (cw, 8, .inr (.inl (fun _ => 0)))), (xt, .inl (ct, 8, .inr (.inl (fun _ => 0)))), (o, .inl (cO, 1, .inr (.inr (.inr (.inl (fun _ => 0))))))] s.heap.size = A at hD hE ⊢
  have hA : ∀ q : Nat, s.heap.size ≤ q → A q := fun q h => by rw [← hAe]; exact Or.inr h
  have hS : va_S A s.heap s.heap [] := va_S.rf
  have hl := lv_entry ([.ref x, .int p1, .int p2, .ref o]) (n := 5) (Nat.le_of_ble_eq_true rfl)
  rw [lg_entry_eq]
  generalize (lg_sl ([.ref x, .int p1, .int p2, .ref o]) ++ List.replicate (5 - (lg_sl ([.ref x, .int p1, .int p2, .ref o])).length) Slot.unset).toArray = ls at hl ⊢
  have hl : lv_has ls 5 [(0, .ref x), (1, .int p1), (2, .int p2), (3, .ref o)] := hl
  have hP : va_P (dC, dI) vwCl [(x, .inr (8, [.ref xs, .ref xp, .int 0, .int 0, .ref xl, .ref xr])), (xs, .inl (cS, 3, .inr (.inr (.inr (.inr (fun _ => none)))))), (xp, .inl (cP, 8, .inr (.inr (.inr (.inr (fun _ => none)))))), (xl, .inr (4, [.ref xn, .ref xm])), (xn, .inl (cn, 64, .inr (.inl (fun _ => 0)))), (xm, .inl (cm, 64, .inr (.inl (fun _ => 0)))), (xr, .inr (6, [.ref xw, .ref xt])), (xw, .inl (cw, 8, .inr (.inl (fun _ => 0)))), (xt, .inl (ct, 8, .inr (.inl (fun _ => 0)))), (o, .inl (cO, 1, .inr (.inr (.inr (.inl (fun _ => 0))))))] s.heap := hP
  refine lv_aload_n hx hb dL_tenths_0 rfl (lv_at hl 3 rfl) ?_
  refine lv_iconst (v := 0) hx hb dL_tenths_1 (by decide) ?_
  refine lv_aload_n hx hb dL_tenths_2 rfl (lv_at hl 0 rfl) ?_
  refine lv_iload_n hx hb dL_tenths_3 rfl (lv_at hl 1 rfl) ?_
  refine lv_iload_n hx hb dL_tenths_4 rfl (lv_at hl 2 rfl) ?_
  have hPc := hP.sub (ws' := [(x, .inr (8, [.ref xs, .ref xp, .int 0, .int 0, .ref xl, .ref xr])), (xs, .inl (cS, 3, .inr (.inr (.inr (.inr (fun _ => none)))))), (xp, .inl (cP, 8, .inr (.inr (.inr (.inr (fun _ => none)))))), (xl, .inr (4, [.ref xn, .ref xm])), (xn, .inl (cn, 64, .inr (.inl (fun _ => 0)))), (xm, .inl (cm, 64, .inr (.inl (fun _ => 0)))), (xr, .inr (6, [.ref xw, .ref xt])), (xw, .inl (cw, 8, .inr (.inl (fun _ => 0)))), (xt, .inl (ct, 8, .inr (.inl (fun _ => 0))))]) [0, 1, 2, 3, 4, 5, 6, 7, 8] rfl
  have hKc := hK.sub (tys' := [(cS, .object "Diffractory$Source"), (cP, .object "Diffractory$Part"), (cn, .long), (cm, .long), (cw, .long), (ct, .long)]) [0, 1, 2, 3, 4, 5] rfl
  have hDc := hD.sub (ws' := [(x, .inr (8, [.ref xs, .ref xp, .int 0, .int 0, .ref xl, .ref xr])), (xs, .inl (cS, 3, .inr (.inr (.inr (.inr (fun _ => none)))))), (xp, .inl (cP, 8, .inr (.inr (.inr (.inr (fun _ => none)))))), (xl, .inr (4, [.ref xn, .ref xm])), (xn, .inl (cn, 64, .inr (.inl (fun _ => 0)))), (xm, .inl (cm, 64, .inr (.inl (fun _ => 0)))), (xr, .inr (6, [.ref xw, .ref xt])), (xw, .inl (cw, 8, .inr (.inl (fun _ => 0)))), (xt, .inl (ct, 8, .inr (.inl (fun _ => 0))))]) [0, 1, 2, 3, 4, 5, 6, 7, 8] (by decide) rfl
  have hFc := va_free (wc := [(x, .inr (8, [.ref xs, .ref xp, .int 0, .int 0, .ref xl, .ref xr])), (xs, .inl (cS, 3, .inr (.inr (.inr (.inr (fun _ => none)))))), (xp, .inl (cP, 8, .inr (.inr (.inr (.inr (fun _ => none)))))), (xl, .inr (4, [.ref xn, .ref xm])), (xn, .inl (cn, 64, .inr (.inl (fun _ => 0)))), (xm, .inl (cm, 64, .inr (.inl (fun _ => 0)))), (xr, .inr (6, [.ref xw, .ref xt])), (xw, .inl (cw, 8, .inr (.inl (fun _ => 0)))), (xt, .inl (ct, 8, .inr (.inl (fun _ => 0))))]) hD hS hA [0, 1, 2, 3, 4, 5, 6, 7, 8] rfl
  refine vx_calld (vx_runV (As := [.int p1, .int p2]) (rest := [.int 0, .ref o]) ⟨hx, hb, hml, hown, hts⟩ (c_X4_tenths l hlt dC dI x xs xp xl xn xm xr xw xt cS cP cn cm cw ct sa ta s.heap.size p1 p2) (cwV 2 hts gw_tenths rfl rfl rfl (by decide +kernel) ⟨Nat.le_of_ble_eq_true rfl, Nat.le_of_ble_eq_true rfl⟩) ⟨ax_fbW, va_recv hK hP (ci := 8) (q0 := 0) rfl rfl, ax_prW hPc hKc hDc hS hFc hE⟩ rfl rfl hl.1 rfl (lv_room (Nat.le_of_ble_eq_true rfl)) dL_tenths_5 ⟨Nat.le_of_ble_eq_true rfl, Nat.le_of_ble_eq_true rfl⟩) hS (fun q _ h9 => hFc q h9) hFc (fun q _ h9 => hFc q h9) (fun E9 ce9 q9 u9 t H locs ht hvm hw9 hB hz1 hk1 hS hce hcv hcl => ?_) (fun r_1 u_3  t H locs ht hvm hw_2 hB hz1 hk1 hS => ?_)
  · subst hB
    obtain ⟨hP, hD⟩ := va_join (wr := [(o, .inl (cO, 1, .inr (.inr (.inr (.inl (fun _ => 0))))))]) (w1 := []) hP hD [0, 1, 2, 3, 4, 5, 6, 7, 8] [9] rfl rfl (by decide) (by decide) hk1 hFc (fun k q h9 => by simp at h9) ⟨fun i j p9 q9 h9 => by simp at h9, fun k q9 h9 => by simp at h9⟩
    have hP : va_P (dC, dI) vwCl [(o, .inl (cO, 1, .inr (.inr (.inr (.inl (fun _ => 0))))))] H := hP
    have hD : va_D A [(o, .inl (cO, 1, .inr (.inr (.inr (.inl (fun _ => 0))))))] := hD
    refine vx_catch (name := "java/lang/IndexOutOfBoundsException") hown [] ⟨0, 9, 12, 21⟩ [] (htab.trans rfl) (fun z h9 => nomatch h9) (by decide) (by decide) (hts (.classLink RL 21 "java/lang/IndexOutOfBoundsException") (by decide +kernel)) (va_Nw.use rfl hE.c2) hce hcv hcl ?_
    refine lv_astore (lv' := [(4, .ref q9), (0, .ref x), (1, .int p1), (2, .int p2), (3, .ref o)]) hx hb dL_tenths_12 hl (by decide) rfl (fun ls hl => ?_)
    refine lv_iconst (v := 1) hx hb dL_tenths_14 (by decide) ?_
    refine W.widen (k := 2) (n := 12) (Nat.le_of_ble_eq_true rfl) (Nat.le_of_ble_eq_true rfl) ?_
    have hP9 := hP.sub (ws' := [(o, .inl (cO, 1, .inr (.inr (.inr (.inl (fun _ => 0))))))]) [0] rfl
    have hD9 := hD.sub (ws' := [(o, .inl (cO, 1, .inr (.inr (.inr (.inl (fun _ => 0))))))]) [0] (by decide) rfl
    have hK9 := hK.sub (tys' := [(cO, .double)]) [6] rfl
    exact W.iret (v := 1) hx hb hr (fun t ht hW => ⟨⟨1, (fun _ => 0), rfl, Or.inr ⟨by omega, rfl⟩, by rw [ht]; exact hP9, va_K.moved hW.alike hK9, hD9⟩, hS.F ht⟩) hS.2.2 dL_tenths_15
  · obtain ⟨hP, hD⟩ := va_join (wr := [(o, .inl (cO, 1, .inr (.inr (.inr (.inl (fun _ => 0))))))]) (w1 := []) hP hD [0, 1, 2, 3, 4, 5, 6, 7, 8] [9] rfl rfl (by decide) (by decide) hk1 hFc (fun k q h9 => by simp at h9) ⟨fun i j p9 q9 h9 => by simp at h9, fun k q9 h9 => by simp at h9⟩
    have hP : va_P (dC, dI) vwCl [(o, .inl (cO, 1, .inr (.inr (.inr (.inl (fun _ => 0))))))] H := hP
    have hD : va_D A [(o, .inl (cO, 1, .inr (.inr (.inr (.inl (fun _ => 0))))))] := hD
    refine ax_d (y := 0) hw_2.2 ?_
    refine va_dast hx hb hK hP hD hS 0 6 rfl rfl (by unfold vp_in; decide) dL_tenths_8 (fun H locs hP hD hS => ?_)
    have hP : va_P (dC, dI) vwCl [(o, .inl (cO, 1, .inr (.inr (.inr (.inl (vf_upd (fun _ => 0) (0 : Int32).toNatClampNeg 0))))))] H := hP
    have hD : va_D A [(o, .inl (cO, 1, .inr (.inr (.inr (.inl (vf_upd (fun _ => 0) (0 : Int32).toNatClampNeg 0))))))] := hD
    refine lv_goto (tgt := 16) hx hb dL_tenths_9 (by decide) ?_
    refine lv_iconst (v := 0) hx hb dL_tenths_16 (by decide) ?_
    refine W.widen (k := 2) (n := 12) (Nat.le_of_ble_eq_true rfl) (Nat.le_of_ble_eq_true rfl) ?_
    have hP9 := hP.sub (ws' := [(o, .inl (cO, 1, .inr (.inr (.inr (.inl (vf_upd (fun _ => 0) (0 : Int32).toNatClampNeg 0))))))]) [0] rfl
    have hD9 := hD.sub (ws' := [(o, .inl (cO, 1, .inr (.inr (.inr (.inl (vf_upd (fun _ => 0) (0 : Int32).toNatClampNeg 0))))))]) [0] (by decide) rfl
    have hK9 := hK.sub (tys' := [(cO, .double)]) [6] rfl
    exact W.iret (v := 0) hx hb hr (fun t ht hW => ⟨⟨0, (vf_upd (fun _ => 0) (0 : Int32).toNatClampNeg 0), rfl, Or.inl ⟨by omega, rfl, by first | rfl | exact (if_pos (by assumption)).symm | exact (if_neg (by assumption)).symm⟩, by rw [ht]; exact hP9, va_K.moved hW.alike hK9, hD9⟩, hS.F ht⟩) hS.2.2 dL_tenths_17

set_option maxHeartbeats 4000000 in
set_option maxRecDepth 100000 in
theorem c_L_loses (l : Launch) (hlt : l.stackTraces = false) (dC : Nat → ClassId) (dI : Nat → Nat → Nat) (x xs xp xl xn xm xr xw xt o : Nat) (cS cP cn cm cw ct cO : ClassId) (sa ta : Nat → Nat) (sz : Nat) (p1 : Int32) : Met l yL_loses wl_loses ({ frames := 24, cells := 1, slots := 6, locals := 600 }) (va_Pc [.ref x, .int p1, .ref o] (ax_W (dC, dI) vwCl [(x, .inr (8, [.ref xs, .ref xp, .int 0, .int 0, .ref xl, .ref xr])), (xs, .inl (cS, 3, .inr (.inr (.inr (.inr (fun _ => none)))))), (xp, .inl (cP, 8, .inr (.inr (.inr (.inr (fun _ => none)))))), (xl, .inr (4, [.ref xn, .ref xm])), (xn, .inl (cn, 64, .inr (.inl (fun _ => 0)))), (xm, .inl (cm, 64, .inr (.inl (fun _ => 0)))), (xr, .inr (6, [.ref xw, .ref xt])), (xw, .inl (cw, 8, .inr (.inl (fun _ => 0)))), (xt, .inl (ct, 8, .inr (.inl (fun _ => 0)))), (o, .inl (cO, 1, .inr (.inl (fun _ => 0))))] [(cS, .object "Diffractory$Source"), (cP, .object "Diffractory$Part"), (cn, .long), (cm, .long), (cw, .long), (ct, .long), (cO, .long)] sa ta sz)) (va_Qi (fun (r : Int32) (u : Nat → Int64) => r = 1) (fun (u : Nat → Int64) (t : State) => va_P (dC, dI) vwCl [(o, .inl (cO, 1, .inr (.inl u)))] t.heap ∧ va_K (dC, dI) vwCl [(cO, .long)] t ∧ va_D (va_A [(x, .inr (8, [.ref xs, .ref xp, .int 0, .int 0, .ref xl, .ref xr])), (xs, .inl (cS, 3, .inr (.inr (.inr (.inr (fun _ => none)))))), (xp, .inl (cP, 8, .inr (.inr (.inr (.inr (fun _ => none)))))), (xl, .inr (4, [.ref xn, .ref xm])), (xn, .inl (cn, 64, .inr (.inl (fun _ => 0)))), (xm, .inl (cm, 64, .inr (.inl (fun _ => 0)))), (xr, .inr (6, [.ref xw, .ref xt])), (xw, .inl (cw, 8, .inr (.inl (fun _ => 0)))), (xt, .inl (ct, 8, .inr (.inl (fun _ => 0)))), (o, .inl (cO, 1, .inr (.inl (fun _ => 0))))] sz) [(o, .inl (cO, 1, .inr (.inl u)))]) (va_A [(x, .inr (8, [.ref xs, .ref xp, .int 0, .int 0, .ref xl, .ref xr])), (xs, .inl (cS, 3, .inr (.inr (.inr (.inr (fun _ => none)))))), (xp, .inl (cP, 8, .inr (.inr (.inr (.inr (fun _ => none)))))), (xl, .inr (4, [.ref xn, .ref xm])), (xn, .inl (cn, 64, .inr (.inl (fun _ => 0)))), (xm, .inl (cm, 64, .inr (.inl (fun _ => 0)))), (xr, .inr (6, [.ref xw, .ref xt])), (xw, .inl (cw, 8, .inr (.inl (fun _ => 0)))), (xt, .inl (ct, 8, .inr (.inl (fun _ => 0)))), (o, .inl (cO, 1, .inr (.inl (fun _ => 0))))] sz)) 1 6 (va_A [(x, .inr (8, [.ref xs, .ref xp, .int 0, .int 0, .ref xl, .ref xr])), (xs, .inl (cS, 3, .inr (.inr (.inr (.inr (fun _ => none)))))), (xp, .inl (cP, 8, .inr (.inr (.inr (.inr (fun _ => none)))))), (xl, .inr (4, [.ref xn, .ref xm])), (xn, .inl (cn, 64, .inr (.inl (fun _ => 0)))), (xm, .inl (cm, 64, .inr (.inl (fun _ => 0)))), (xr, .inr (6, [.ref xw, .ref xt])), (xw, .inl (cw, 8, .inr (.inl (fun _ => 0)))), (xt, .inl (ct, 8, .inr (.inl (fun _ => 0)))), (o, .inl (cO, 1, .inr (.inl (fun _ => 0))))] sz) := by
  refine ax_MetWH (cc := cL_loses) (maxL := 4) (ret := (some .int)) (by decide) rfl ?_
  intro p e s m args below meth c s₁ B hml hv
  obtain ⟨rfl, hsz, hP, hK, hD0, hE⟩ := hv
  have hx := B.exec
  have hb := B.bytes
  have hr := B.returns
  have hts := atoms_spec (ws := wl_loses) B.pre
  have hown : s.vm.findClass RL = some m.cls := findClass_of_methodNamed B.named
  have hlocks := B.notSynchronized
  have htab := vx_table (x := yL_loses) B (hts _ List.mem_cons_self)
  subst hsz
  have hD := hD0.self (sz := s.heap.size)
  generalize hAe : va_A [(x, .inr (8, [.ref xs, .ref xp, .int 0, .int 0, .ref xl, .ref xr])), (xs, .inl (cS, 3, .inr (.inr (.inr (.inr (fun _ => none)))))), (xp, .inl (cP, 8, .inr (.inr (.inr (.inr (fun _ => none)))))), (xl, .inr (4, [.ref xn, .ref xm])), (xn, .inl (cn, 64, .inr (.inl (fun _ => 0)))), (xm, .inl (cm, 64, .inr (.inl (fun _ => 0)))), (xr, .inr (6, [.ref xw, .ref xt])), (xw, .inl (cw, 8, .inr (.inl (fun _ => 0)))), (xt, .inl (ct, 8, .inr (.inl (fun _ => 0)))), (o, .inl (cO, 1, .inr (.inl (fun _ => 0))))] s.heap.size = A at hD hE ⊢
  have hA : ∀ q : Nat, s.heap.size ≤ q → A q := fun q h => by rw [← hAe]; exact Or.inr h
  have hS : va_S A s.heap s.heap [] := va_S.rf
  have hl := lv_entry ([.ref x, .int p1, .ref o]) (n := 4) (Nat.le_of_ble_eq_true rfl)
  rw [lg_entry_eq]
  generalize (lg_sl ([.ref x, .int p1, .ref o]) ++ List.replicate (4 - (lg_sl ([.ref x, .int p1, .ref o])).length) Slot.unset).toArray = ls at hl ⊢
  have hl : lv_has ls 4 [(0, .ref x), (1, .int p1), (2, .ref o)] := hl
  have hP : va_P (dC, dI) vwCl [(x, .inr (8, [.ref xs, .ref xp, .int 0, .int 0, .ref xl, .ref xr])), (xs, .inl (cS, 3, .inr (.inr (.inr (.inr (fun _ => none)))))), (xp, .inl (cP, 8, .inr (.inr (.inr (.inr (fun _ => none)))))), (xl, .inr (4, [.ref xn, .ref xm])), (xn, .inl (cn, 64, .inr (.inl (fun _ => 0)))), (xm, .inl (cm, 64, .inr (.inl (fun _ => 0)))), (xr, .inr (6, [.ref xw, .ref xt])), (xw, .inl (cw, 8, .inr (.inl (fun _ => 0)))), (xt, .inl (ct, 8, .inr (.inl (fun _ => 0)))), (o, .inl (cO, 1, .inr (.inl (fun _ => 0))))] s.heap := hP
  refine lv_aload_n hx hb dL_loses_0 rfl (lv_at hl 2 rfl) ?_
  refine lv_iconst (v := 0) hx hb dL_loses_1 (by decide) ?_
  refine lv_aload_n hx hb dL_loses_2 rfl (lv_at hl 0 rfl) ?_
  refine lv_iload_n hx hb dL_loses_3 rfl (lv_at hl 1 rfl) ?_
  have hPc := hP.sub (ws' := [(x, .inr (8, [.ref xs, .ref xp, .int 0, .int 0, .ref xl, .ref xr])), (xs, .inl (cS, 3, .inr (.inr (.inr (.inr (fun _ => none)))))), (xp, .inl (cP, 8, .inr (.inr (.inr (.inr (fun _ => none)))))), (xl, .inr (4, [.ref xn, .ref xm])), (xn, .inl (cn, 64, .inr (.inl (fun _ => 0)))), (xm, .inl (cm, 64, .inr (.inl (fun _ => 0)))), (xr, .inr (6, [.ref xw, .ref xt])), (xw, .inl (cw, 8, .inr (.inl (fun _ => 0)))), (xt, .inl (ct, 8, .inr (.inl (fun _ => 0))))]) [0, 1, 2, 3, 4, 5, 6, 7, 8] rfl
  have hKc := hK.sub (tys' := [(cS, .object "Diffractory$Source"), (cP, .object "Diffractory$Part"), (cn, .long), (cm, .long), (cw, .long), (ct, .long)]) [0, 1, 2, 3, 4, 5] rfl
  refine vx_calll (vx_runV (As := [.int p1]) (rest := [.int 0, .ref o]) ⟨hx, hb, hml, hown, hts⟩ (c_X4_loses l hlt dC dI x xs xp xl xn xm xr xw xt cS cP cn cm cw ct sa ta p1) (cwV 1 hts gw_loses rfl rfl rfl (by decide +kernel) ⟨Nat.le_of_ble_eq_true rfl, Nat.le_of_ble_eq_true rfl⟩) ⟨ax_fbR, va_recv hK hP (ci := 8) (q0 := 0) rfl rfl, ax_prR hPc hKc hS hE⟩ rfl rfl hl.1 rfl (lv_room (Nat.le_of_ble_eq_true rfl)) dL_loses_4 ⟨Nat.le_of_ble_eq_true rfl, Nat.le_of_ble_eq_true rfl⟩) hS (fun _ _ h9 => h9.elim) (fun _ h9 => h9.elim) (fun _ _ h9 => h9.elim) (fun E9 ce9 q9 u9 t H locs ht hvm hw9 hB hz1 hk1 hS hce hcv hcl => ?_) (fun r_1 u_3  t H locs ht hvm hw_2 hB hz1 hk1 hS => ?_)
  · subst hB
    have hP := ax_keep hP (fun _ h9 => h9) hk1
    have hP : va_P (dC, dI) vwCl [(x, .inr (8, [.ref xs, .ref xp, .int 0, .int 0, .ref xl, .ref xr])), (xs, .inl (cS, 3, .inr (.inr (.inr (.inr (fun _ => none)))))), (xp, .inl (cP, 8, .inr (.inr (.inr (.inr (fun _ => none)))))), (xl, .inr (4, [.ref xn, .ref xm])), (xn, .inl (cn, 64, .inr (.inl (fun _ => 0)))), (xm, .inl (cm, 64, .inr (.inl (fun _ => 0)))), (xr, .inr (6, [.ref xw, .ref xt])), (xw, .inl (cw, 8, .inr (.inl (fun _ => 0)))), (xt, .inl (ct, 8, .inr (.inl (fun _ => 0)))), (o, .inl (cO, 1, .inr (.inl (fun _ => 0))))] H := hP
    have hD : va_D A [(x, .inr (8, [.ref xs, .ref xp, .int 0, .int 0, .ref xl, .ref xr])), (xs, .inl (cS, 3, .inr (.inr (.inr (.inr (fun _ => none)))))), (xp, .inl (cP, 8, .inr (.inr (.inr (.inr (fun _ => none)))))), (xl, .inr (4, [.ref xn, .ref xm])), (xn, .inl (cn, 64, .inr (.inl (fun _ => 0)))), (xm, .inl (cm, 64, .inr (.inl (fun _ => 0)))), (xr, .inr (6, [.ref xw, .ref xt])), (xw, .inl (cw, 8, .inr (.inl (fun _ => 0)))), (xt, .inl (ct, 8, .inr (.inl (fun _ => 0)))), (o, .inl (cO, 1, .inr (.inl (fun _ => 0))))] := hD
    refine vx_catch (name := "java/lang/IndexOutOfBoundsException") hown [] ⟨0, 8, 11, 21⟩ [] (htab.trans rfl) (fun z h9 => nomatch h9) (by decide) (by decide) (hts (.classLink RL 21 "java/lang/IndexOutOfBoundsException") (by decide +kernel)) (va_Nw.use rfl hE.c2) hce hcv hcl ?_
    refine lv_astore_n (lv' := [(3, .ref q9), (0, .ref x), (1, .int p1), (2, .ref o)]) hx hb dL_loses_11 rfl hl (by decide) rfl (fun ls hl => ?_)
    refine lv_iconst (v := 1) hx hb dL_loses_12 (by decide) ?_
    refine W.widen (k := 1) (n := 6) (Nat.le_of_ble_eq_true rfl) (Nat.le_of_ble_eq_true rfl) ?_
    have hP9 := hP.sub (ws' := [(o, .inl (cO, 1, .inr (.inl (fun _ => 0))))]) [9] rfl
    have hD9 := hD.sub (ws' := [(o, .inl (cO, 1, .inr (.inl (fun _ => 0))))]) [9] (by decide) rfl
    have hK9 := hK.sub (tys' := [(cO, .long)]) [6] rfl
    exact W.iret (v := 1) hx hb hr (fun t ht hW => ⟨⟨1, (fun _ => 0), rfl, rfl, by rw [ht]; exact hP9, va_K.moved hW.alike hK9, hD9⟩, hS.F ht⟩) hS.2.2 dL_loses_13
  · have hP := ax_keep hP (fun _ h9 => h9) hk1
    exact hw_2.elim

set_option maxHeartbeats 4000000 in
set_option maxRecDepth 100000 in
theorem c_L_ofPart (l : Launch) (hlt : l.stackTraces = false) (dC : Nat → ClassId) (dI : Nat → Nat → Nat) (x xs xp xl xn xm xr xw xt o : Nat) (cS cP cn cm cw ct cO : ClassId) (sa ta : Nat → Nat) (sz : Nat) (p1 : Int32) (p2 : Int32) : Met l yL_ofPart wl_ofPart ({ frames := 24, cells := 1, slots := 6, locals := 600 }) (va_Pc [.ref x, .int p1, .int p2, .ref o] (ax_W (dC, dI) vwCl [(x, .inr (8, [.ref xs, .ref xp, .int 0, .int 0, .ref xl, .ref xr])), (xs, .inl (cS, 3, .inr (.inr (.inr (.inr (fun _ => none)))))), (xp, .inl (cP, 8, .inr (.inr (.inr (.inr (fun _ => none)))))), (xl, .inr (4, [.ref xn, .ref xm])), (xn, .inl (cn, 64, .inr (.inl (fun _ => 0)))), (xm, .inl (cm, 64, .inr (.inl (fun _ => 0)))), (xr, .inr (6, [.ref xw, .ref xt])), (xw, .inl (cw, 8, .inr (.inl (fun _ => 0)))), (xt, .inl (ct, 8, .inr (.inl (fun _ => 0)))), (o, .inl (cO, 1, .inr (.inl (fun _ => 0))))] [(cS, .object "Diffractory$Source"), (cP, .object "Diffractory$Part"), (cn, .long), (cm, .long), (cw, .long), (ct, .long), (cO, .long)] sa ta sz)) (va_Qi (fun (r : Int32) (u : Nat → Int64) => r = 1) (fun (u : Nat → Int64) (t : State) => va_P (dC, dI) vwCl [(o, .inl (cO, 1, .inr (.inl u)))] t.heap ∧ va_K (dC, dI) vwCl [(cO, .long)] t ∧ va_D (va_A [(x, .inr (8, [.ref xs, .ref xp, .int 0, .int 0, .ref xl, .ref xr])), (xs, .inl (cS, 3, .inr (.inr (.inr (.inr (fun _ => none)))))), (xp, .inl (cP, 8, .inr (.inr (.inr (.inr (fun _ => none)))))), (xl, .inr (4, [.ref xn, .ref xm])), (xn, .inl (cn, 64, .inr (.inl (fun _ => 0)))), (xm, .inl (cm, 64, .inr (.inl (fun _ => 0)))), (xr, .inr (6, [.ref xw, .ref xt])), (xw, .inl (cw, 8, .inr (.inl (fun _ => 0)))), (xt, .inl (ct, 8, .inr (.inl (fun _ => 0)))), (o, .inl (cO, 1, .inr (.inl (fun _ => 0))))] sz) [(o, .inl (cO, 1, .inr (.inl u)))]) (va_A [(x, .inr (8, [.ref xs, .ref xp, .int 0, .int 0, .ref xl, .ref xr])), (xs, .inl (cS, 3, .inr (.inr (.inr (.inr (fun _ => none)))))), (xp, .inl (cP, 8, .inr (.inr (.inr (.inr (fun _ => none)))))), (xl, .inr (4, [.ref xn, .ref xm])), (xn, .inl (cn, 64, .inr (.inl (fun _ => 0)))), (xm, .inl (cm, 64, .inr (.inl (fun _ => 0)))), (xr, .inr (6, [.ref xw, .ref xt])), (xw, .inl (cw, 8, .inr (.inl (fun _ => 0)))), (xt, .inl (ct, 8, .inr (.inl (fun _ => 0)))), (o, .inl (cO, 1, .inr (.inl (fun _ => 0))))] sz)) 1 6 (va_A [(x, .inr (8, [.ref xs, .ref xp, .int 0, .int 0, .ref xl, .ref xr])), (xs, .inl (cS, 3, .inr (.inr (.inr (.inr (fun _ => none)))))), (xp, .inl (cP, 8, .inr (.inr (.inr (.inr (fun _ => none)))))), (xl, .inr (4, [.ref xn, .ref xm])), (xn, .inl (cn, 64, .inr (.inl (fun _ => 0)))), (xm, .inl (cm, 64, .inr (.inl (fun _ => 0)))), (xr, .inr (6, [.ref xw, .ref xt])), (xw, .inl (cw, 8, .inr (.inl (fun _ => 0)))), (xt, .inl (ct, 8, .inr (.inl (fun _ => 0)))), (o, .inl (cO, 1, .inr (.inl (fun _ => 0))))] sz) := by
  refine ax_MetWH (cc := cL_ofPart) (maxL := 5) (ret := (some .int)) (by decide) rfl ?_
  intro p e s m args below meth c s₁ B hml hv
  obtain ⟨rfl, hsz, hP, hK, hD0, hE⟩ := hv
  have hx := B.exec
  have hb := B.bytes
  have hr := B.returns
  have hts := atoms_spec (ws := wl_ofPart) B.pre
  have hown : s.vm.findClass RL = some m.cls := findClass_of_methodNamed B.named
  have hlocks := B.notSynchronized
  have htab := vx_table (x := yL_ofPart) B (hts _ List.mem_cons_self)
  subst hsz
  have hD := hD0.self (sz := s.heap.size)
  generalize hAe : va_A [(x, .inr (8, [.ref xs, .ref xp, .int 0, .int 0, .ref xl, .ref xr])), (xs, .inl (cS, 3, .inr (.inr (.inr (.inr (fun _ => none)))))), (xp, .inl (cP, 8, .inr (.inr (.inr (.inr (fun _ => none)))))), (xl, .inr (4, [.ref xn, .ref xm])), (xn, .inl (cn, 64, .inr (.inl (fun _ => 0)))), (xm, .inl (cm, 64, .inr (.inl (fun _ => 0)))), (xr, .inr (6, [.ref xw, .ref xt])), (xw, .inl (cw, 8, .inr (.inl (fun _ => 0)))), (xt, .inl (ct, 8, .inr (.inl (fun _ => 0)))), (o, .inl (cO, 1, .inr (.inl (fun _ => 0))))] s.heap.size = A at hD hE ⊢
  have hA : ∀ q : Nat, s.heap.size ≤ q → A q := fun q h => by rw [← hAe]; exact Or.inr h
  have hS : va_S A s.heap s.heap [] := va_S.rf
  have hl := lv_entry ([.ref x, .int p1, .int p2, .ref o]) (n := 5) (Nat.le_of_ble_eq_true rfl)
  rw [lg_entry_eq]
  generalize (lg_sl ([.ref x, .int p1, .int p2, .ref o]) ++ List.replicate (5 - (lg_sl ([.ref x, .int p1, .int p2, .ref o])).length) Slot.unset).toArray = ls at hl ⊢
  have hl : lv_has ls 5 [(0, .ref x), (1, .int p1), (2, .int p2), (3, .ref o)] := hl
  have hP : va_P (dC, dI) vwCl [(x, .inr (8, [.ref xs, .ref xp, .int 0, .int 0, .ref xl, .ref xr])), (xs, .inl (cS, 3, .inr (.inr (.inr (.inr (fun _ => none)))))), (xp, .inl (cP, 8, .inr (.inr (.inr (.inr (fun _ => none)))))), (xl, .inr (4, [.ref xn, .ref xm])), (xn, .inl (cn, 64, .inr (.inl (fun _ => 0)))), (xm, .inl (cm, 64, .inr (.inl (fun _ => 0)))), (xr, .inr (6, [.ref xw, .ref xt])), (xw, .inl (cw, 8, .inr (.inl (fun _ => 0)))), (xt, .inl (ct, 8, .inr (.inl (fun _ => 0)))), (o, .inl (cO, 1, .inr (.inl (fun _ => 0))))] s.heap := hP
  refine lv_aload_n hx hb dL_ofPart_0 rfl (lv_at hl 3 rfl) ?_
  refine lv_iconst (v := 0) hx hb dL_ofPart_1 (by decide) ?_
  refine lv_aload_n hx hb dL_ofPart_2 rfl (lv_at hl 0 rfl) ?_
  refine lv_iload_n hx hb dL_ofPart_3 rfl (lv_at hl 1 rfl) ?_
  refine lv_iload_n hx hb dL_ofPart_4 rfl (lv_at hl 2 rfl) ?_
  have hPc := hP.sub (ws' := [(x, .inr (8, [.ref xs, .ref xp, .int 0, .int 0, .ref xl, .ref xr])), (xs, .inl (cS, 3, .inr (.inr (.inr (.inr (fun _ => none)))))), (xp, .inl (cP, 8, .inr (.inr (.inr (.inr (fun _ => none)))))), (xl, .inr (4, [.ref xn, .ref xm])), (xn, .inl (cn, 64, .inr (.inl (fun _ => 0)))), (xm, .inl (cm, 64, .inr (.inl (fun _ => 0)))), (xr, .inr (6, [.ref xw, .ref xt])), (xw, .inl (cw, 8, .inr (.inl (fun _ => 0)))), (xt, .inl (ct, 8, .inr (.inl (fun _ => 0))))]) [0, 1, 2, 3, 4, 5, 6, 7, 8] rfl
  have hKc := hK.sub (tys' := [(cS, .object "Diffractory$Source"), (cP, .object "Diffractory$Part"), (cn, .long), (cm, .long), (cw, .long), (ct, .long)]) [0, 1, 2, 3, 4, 5] rfl
  refine vx_calli (vx_runV (As := [.int p1, .int p2]) (rest := [.int 0, .ref o]) ⟨hx, hb, hml, hown, hts⟩ (c_X4_ofPart l hlt dC dI x xs xp xl xn xm xr xw xt cS cP cn cm cw ct sa ta p1 p2) (cwV 2 hts gw_ofPart rfl rfl rfl (by decide +kernel) ⟨Nat.le_of_ble_eq_true rfl, Nat.le_of_ble_eq_true rfl⟩) ⟨ax_fbR, va_recv hK hP (ci := 8) (q0 := 0) rfl rfl, ax_prR hPc hKc hS hE⟩ rfl rfl hl.1 rfl (lv_room (Nat.le_of_ble_eq_true rfl)) dL_ofPart_5 ⟨Nat.le_of_ble_eq_true rfl, Nat.le_of_ble_eq_true rfl⟩) hS (fun _ _ h9 => h9.elim) (fun _ h9 => h9.elim) (fun _ _ h9 => h9.elim) (fun E9 ce9 q9 u9 t H locs ht hvm hw9 hB hz1 hk1 hS hce hcv hcl => ?_) (fun r_1 u_3  t H locs ht hvm hw_2 hB hz1 hk1 hS => ?_)
  · subst hB
    have hP := ax_keep hP (fun _ h9 => h9) hk1
    have hP : va_P (dC, dI) vwCl [(x, .inr (8, [.ref xs, .ref xp, .int 0, .int 0, .ref xl, .ref xr])), (xs, .inl (cS, 3, .inr (.inr (.inr (.inr (fun _ => none)))))), (xp, .inl (cP, 8, .inr (.inr (.inr (.inr (fun _ => none)))))), (xl, .inr (4, [.ref xn, .ref xm])), (xn, .inl (cn, 64, .inr (.inl (fun _ => 0)))), (xm, .inl (cm, 64, .inr (.inl (fun _ => 0)))), (xr, .inr (6, [.ref xw, .ref xt])), (xw, .inl (cw, 8, .inr (.inl (fun _ => 0)))), (xt, .inl (ct, 8, .inr (.inl (fun _ => 0)))), (o, .inl (cO, 1, .inr (.inl (fun _ => 0))))] H := hP
    have hD : va_D A [(x, .inr (8, [.ref xs, .ref xp, .int 0, .int 0, .ref xl, .ref xr])), (xs, .inl (cS, 3, .inr (.inr (.inr (.inr (fun _ => none)))))), (xp, .inl (cP, 8, .inr (.inr (.inr (.inr (fun _ => none)))))), (xl, .inr (4, [.ref xn, .ref xm])), (xn, .inl (cn, 64, .inr (.inl (fun _ => 0)))), (xm, .inl (cm, 64, .inr (.inl (fun _ => 0)))), (xr, .inr (6, [.ref xw, .ref xt])), (xw, .inl (cw, 8, .inr (.inl (fun _ => 0)))), (xt, .inl (ct, 8, .inr (.inl (fun _ => 0)))), (o, .inl (cO, 1, .inr (.inl (fun _ => 0))))] := hD
    refine vx_catch (name := "java/lang/IndexOutOfBoundsException") hown [] ⟨0, 10, 13, 21⟩ [⟨0, 10, 17, 13⟩] (htab.trans rfl) (fun z h9 => nomatch h9) (by decide) (by decide) (hts (.classLink RL 21 "java/lang/IndexOutOfBoundsException") (by decide +kernel)) (va_Nw.use rfl hE.c2) hce hcv hcl ?_
    refine lv_astore (lv' := [(4, .ref q9), (0, .ref x), (1, .int p1), (2, .int p2), (3, .ref o)]) hx hb dL_ofPart_13 hl (by decide) rfl (fun ls hl => ?_)
    refine lv_iconst (v := 1) hx hb dL_ofPart_15 (by decide) ?_
    refine W.widen (k := 1) (n := 6) (Nat.le_of_ble_eq_true rfl) (Nat.le_of_ble_eq_true rfl) ?_
    have hP9 := hP.sub (ws' := [(o, .inl (cO, 1, .inr (.inl (fun _ => 0))))]) [9] rfl
    have hD9 := hD.sub (ws' := [(o, .inl (cO, 1, .inr (.inl (fun _ => 0))))]) [9] (by decide) rfl
    have hK9 := hK.sub (tys' := [(cO, .long)]) [6] rfl
    exact W.iret (v := 1) hx hb hr (fun t ht hW => ⟨⟨1, (fun _ => 0), rfl, rfl, by rw [ht]; exact hP9, va_K.moved hW.alike hK9, hD9⟩, hS.F ht⟩) hS.2.2 dL_ofPart_16
  · have hP := ax_keep hP (fun _ h9 => h9) hk1
    exact hw_2.elim

set_option maxHeartbeats 4000000 in
set_option maxRecDepth 100000 in
theorem c_L_exposure (l : Launch) (hlt : l.stackTraces = false) (dC : Nat → ClassId) (dI : Nat → Nat → Nat) (x xs xp xl xn xm xr xw xt o : Nat) (cS cP cn cm cw ct cO : ClassId) (sa ta : Nat → Nat) (sz : Nat) (p1 : Int32) (p2 : Int32) : Met l yL_exposure wl_exposure ({ frames := 24, cells := 1, slots := 6, locals := 600 }) (va_Pc [.ref x, .int p1, .int p2, .ref o] (ax_W (dC, dI) vwCl [(x, .inr (8, [.ref xs, .ref xp, .int 0, .int 0, .ref xl, .ref xr])), (xs, .inl (cS, 3, .inr (.inr (.inr (.inr (fun _ => none)))))), (xp, .inl (cP, 8, .inr (.inr (.inr (.inr (fun _ => none)))))), (xl, .inr (4, [.ref xn, .ref xm])), (xn, .inl (cn, 64, .inr (.inl (fun _ => 0)))), (xm, .inl (cm, 64, .inr (.inl (fun _ => 0)))), (xr, .inr (6, [.ref xw, .ref xt])), (xw, .inl (cw, 8, .inr (.inl (fun _ => 0)))), (xt, .inl (ct, 8, .inr (.inl (fun _ => 0)))), (o, .inl (cO, 1, .inr (.inl (fun _ => 0))))] [(cS, .object "Diffractory$Source"), (cP, .object "Diffractory$Part"), (cn, .long), (cm, .long), (cw, .long), (ct, .long), (cO, .long)] sa ta sz)) (va_Qi (fun (r : Int32) (u : Nat → Int64) => r = 1) (fun (u : Nat → Int64) (t : State) => va_P (dC, dI) vwCl [(o, .inl (cO, 1, .inr (.inl u)))] t.heap ∧ va_K (dC, dI) vwCl [(cO, .long)] t ∧ va_D (va_A [(x, .inr (8, [.ref xs, .ref xp, .int 0, .int 0, .ref xl, .ref xr])), (xs, .inl (cS, 3, .inr (.inr (.inr (.inr (fun _ => none)))))), (xp, .inl (cP, 8, .inr (.inr (.inr (.inr (fun _ => none)))))), (xl, .inr (4, [.ref xn, .ref xm])), (xn, .inl (cn, 64, .inr (.inl (fun _ => 0)))), (xm, .inl (cm, 64, .inr (.inl (fun _ => 0)))), (xr, .inr (6, [.ref xw, .ref xt])), (xw, .inl (cw, 8, .inr (.inl (fun _ => 0)))), (xt, .inl (ct, 8, .inr (.inl (fun _ => 0)))), (o, .inl (cO, 1, .inr (.inl (fun _ => 0))))] sz) [(o, .inl (cO, 1, .inr (.inl u)))]) (va_A [(x, .inr (8, [.ref xs, .ref xp, .int 0, .int 0, .ref xl, .ref xr])), (xs, .inl (cS, 3, .inr (.inr (.inr (.inr (fun _ => none)))))), (xp, .inl (cP, 8, .inr (.inr (.inr (.inr (fun _ => none)))))), (xl, .inr (4, [.ref xn, .ref xm])), (xn, .inl (cn, 64, .inr (.inl (fun _ => 0)))), (xm, .inl (cm, 64, .inr (.inl (fun _ => 0)))), (xr, .inr (6, [.ref xw, .ref xt])), (xw, .inl (cw, 8, .inr (.inl (fun _ => 0)))), (xt, .inl (ct, 8, .inr (.inl (fun _ => 0)))), (o, .inl (cO, 1, .inr (.inl (fun _ => 0))))] sz)) 1 6 (va_A [(x, .inr (8, [.ref xs, .ref xp, .int 0, .int 0, .ref xl, .ref xr])), (xs, .inl (cS, 3, .inr (.inr (.inr (.inr (fun _ => none)))))), (xp, .inl (cP, 8, .inr (.inr (.inr (.inr (fun _ => none)))))), (xl, .inr (4, [.ref xn, .ref xm])), (xn, .inl (cn, 64, .inr (.inl (fun _ => 0)))), (xm, .inl (cm, 64, .inr (.inl (fun _ => 0)))), (xr, .inr (6, [.ref xw, .ref xt])), (xw, .inl (cw, 8, .inr (.inl (fun _ => 0)))), (xt, .inl (ct, 8, .inr (.inl (fun _ => 0)))), (o, .inl (cO, 1, .inr (.inl (fun _ => 0))))] sz) := by
  refine ax_MetWH (cc := cL_exposure) (maxL := 5) (ret := (some .int)) (by decide) rfl ?_
  intro p e s m args below meth c s₁ B hml hv
  obtain ⟨rfl, hsz, hP, hK, hD0, hE⟩ := hv
  have hx := B.exec
  have hb := B.bytes
  have hr := B.returns
  have hts := atoms_spec (ws := wl_exposure) B.pre
  have hown : s.vm.findClass RL = some m.cls := findClass_of_methodNamed B.named
  have hlocks := B.notSynchronized
  have htab := vx_table (x := yL_exposure) B (hts _ List.mem_cons_self)
  subst hsz
  have hD := hD0.self (sz := s.heap.size)
  generalize hAe : va_A [(x, .inr (8, [.ref xs, .ref xp, .int 0, .int 0, .ref xl, .ref xr])), (xs, .inl (cS, 3, .inr (.inr (.inr (.inr (fun _ => none)))))), (xp, .inl (cP, 8, .inr (.inr (.inr (.inr (fun _ => none)))))), (xl, .inr (4, [.ref xn, .ref xm])), (xn, .inl (cn, 64, .inr (.inl (fun _ => 0)))), (xm, .inl (cm, 64, .inr (.inl (fun _ => 0)))), (xr, .inr (6, [.ref xw, .ref xt])), (xw, .inl (cw, 8, .inr (.inl (fun _ => 0)))), (xt, .inl (ct, 8, .inr (.inl (fun _ => 0)))), (o, .inl (cO, 1, .inr (.inl (fun _ => 0))))] s.heap.size = A at hD hE ⊢
  have hA : ∀ q : Nat, s.heap.size ≤ q → A q := fun q h => by rw [← hAe]; exact Or.inr h
  have hS : va_S A s.heap s.heap [] := va_S.rf
  have hl := lv_entry ([.ref x, .int p1, .int p2, .ref o]) (n := 5) (Nat.le_of_ble_eq_true rfl)
  rw [lg_entry_eq]
  generalize (lg_sl ([.ref x, .int p1, .int p2, .ref o]) ++ List.replicate (5 - (lg_sl ([.ref x, .int p1, .int p2, .ref o])).length) Slot.unset).toArray = ls at hl ⊢
  have hl : lv_has ls 5 [(0, .ref x), (1, .int p1), (2, .int p2), (3, .ref o)] := hl
  have hP : va_P (dC, dI) vwCl [(x, .inr (8, [.ref xs, .ref xp, .int 0, .int 0, .ref xl, .ref xr])), (xs, .inl (cS, 3, .inr (.inr (.inr (.inr (fun _ => none)))))), (xp, .inl (cP, 8, .inr (.inr (.inr (.inr (fun _ => none)))))), (xl, .inr (4, [.ref xn, .ref xm])), (xn, .inl (cn, 64, .inr (.inl (fun _ => 0)))), (xm, .inl (cm, 64, .inr (.inl (fun _ => 0)))), (xr, .inr (6, [.ref xw, .ref xt])), (xw, .inl (cw, 8, .inr (.inl (fun _ => 0)))), (xt, .inl (ct, 8, .inr (.inl (fun _ => 0)))), (o, .inl (cO, 1, .inr (.inl (fun _ => 0))))] s.heap := hP
  refine lv_aload_n hx hb dL_exposure_0 rfl (lv_at hl 3 rfl) ?_
  refine lv_iconst (v := 0) hx hb dL_exposure_1 (by decide) ?_
  refine lv_aload_n hx hb dL_exposure_2 rfl (lv_at hl 0 rfl) ?_
  refine lv_iload_n hx hb dL_exposure_3 rfl (lv_at hl 1 rfl) ?_
  refine lv_iload_n hx hb dL_exposure_4 rfl (lv_at hl 2 rfl) ?_
  have hPc := hP.sub (ws' := [(x, .inr (8, [.ref xs, .ref xp, .int 0, .int 0, .ref xl, .ref xr])), (xs, .inl (cS, 3, .inr (.inr (.inr (.inr (fun _ => none)))))), (xp, .inl (cP, 8, .inr (.inr (.inr (.inr (fun _ => none)))))), (xl, .inr (4, [.ref xn, .ref xm])), (xn, .inl (cn, 64, .inr (.inl (fun _ => 0)))), (xm, .inl (cm, 64, .inr (.inl (fun _ => 0)))), (xr, .inr (6, [.ref xw, .ref xt])), (xw, .inl (cw, 8, .inr (.inl (fun _ => 0)))), (xt, .inl (ct, 8, .inr (.inl (fun _ => 0))))]) [0, 1, 2, 3, 4, 5, 6, 7, 8] rfl
  have hKc := hK.sub (tys' := [(cS, .object "Diffractory$Source"), (cP, .object "Diffractory$Part"), (cn, .long), (cm, .long), (cw, .long), (ct, .long)]) [0, 1, 2, 3, 4, 5] rfl
  refine vx_calli (vx_runV (As := [.int p1, .int p2]) (rest := [.int 0, .ref o]) ⟨hx, hb, hml, hown, hts⟩ (c_X4_exposure l hlt dC dI x xs xp xl xn xm xr xw xt cS cP cn cm cw ct sa ta p1 p2) (cwV 2 hts gw_exposure rfl rfl rfl (by decide +kernel) ⟨Nat.le_of_ble_eq_true rfl, Nat.le_of_ble_eq_true rfl⟩) ⟨ax_fbR, va_recv hK hP (ci := 8) (q0 := 0) rfl rfl, ax_prR hPc hKc hS hE⟩ rfl rfl hl.1 rfl (lv_room (Nat.le_of_ble_eq_true rfl)) dL_exposure_5 ⟨Nat.le_of_ble_eq_true rfl, Nat.le_of_ble_eq_true rfl⟩) hS (fun _ _ h9 => h9.elim) (fun _ h9 => h9.elim) (fun _ _ h9 => h9.elim) (fun E9 ce9 q9 u9 t H locs ht hvm hw9 hB hz1 hk1 hS hce hcv hcl => ?_) (fun r_1 u_3  t H locs ht hvm hw_2 hB hz1 hk1 hS => ?_)
  · subst hB
    have hP := ax_keep hP (fun _ h9 => h9) hk1
    have hP : va_P (dC, dI) vwCl [(x, .inr (8, [.ref xs, .ref xp, .int 0, .int 0, .ref xl, .ref xr])), (xs, .inl (cS, 3, .inr (.inr (.inr (.inr (fun _ => none)))))), (xp, .inl (cP, 8, .inr (.inr (.inr (.inr (fun _ => none)))))), (xl, .inr (4, [.ref xn, .ref xm])), (xn, .inl (cn, 64, .inr (.inl (fun _ => 0)))), (xm, .inl (cm, 64, .inr (.inl (fun _ => 0)))), (xr, .inr (6, [.ref xw, .ref xt])), (xw, .inl (cw, 8, .inr (.inl (fun _ => 0)))), (xt, .inl (ct, 8, .inr (.inl (fun _ => 0)))), (o, .inl (cO, 1, .inr (.inl (fun _ => 0))))] H := hP
    have hD : va_D A [(x, .inr (8, [.ref xs, .ref xp, .int 0, .int 0, .ref xl, .ref xr])), (xs, .inl (cS, 3, .inr (.inr (.inr (.inr (fun _ => none)))))), (xp, .inl (cP, 8, .inr (.inr (.inr (.inr (fun _ => none)))))), (xl, .inr (4, [.ref xn, .ref xm])), (xn, .inl (cn, 64, .inr (.inl (fun _ => 0)))), (xm, .inl (cm, 64, .inr (.inl (fun _ => 0)))), (xr, .inr (6, [.ref xw, .ref xt])), (xw, .inl (cw, 8, .inr (.inl (fun _ => 0)))), (xt, .inl (ct, 8, .inr (.inl (fun _ => 0)))), (o, .inl (cO, 1, .inr (.inl (fun _ => 0))))] := hD
    refine vx_catch (name := "java/lang/IndexOutOfBoundsException") hown [] ⟨0, 10, 13, 21⟩ [] (htab.trans rfl) (fun z h9 => nomatch h9) (by decide) (by decide) (hts (.classLink RL 21 "java/lang/IndexOutOfBoundsException") (by decide +kernel)) (va_Nw.use rfl hE.c2) hce hcv hcl ?_
    refine lv_astore (lv' := [(4, .ref q9), (0, .ref x), (1, .int p1), (2, .int p2), (3, .ref o)]) hx hb dL_exposure_13 hl (by decide) rfl (fun ls hl => ?_)
    refine lv_iconst (v := 1) hx hb dL_exposure_15 (by decide) ?_
    refine W.widen (k := 1) (n := 6) (Nat.le_of_ble_eq_true rfl) (Nat.le_of_ble_eq_true rfl) ?_
    have hP9 := hP.sub (ws' := [(o, .inl (cO, 1, .inr (.inl (fun _ => 0))))]) [9] rfl
    have hD9 := hD.sub (ws' := [(o, .inl (cO, 1, .inr (.inl (fun _ => 0))))]) [9] (by decide) rfl
    have hK9 := hK.sub (tys' := [(cO, .long)]) [6] rfl
    exact W.iret (v := 1) hx hb hr (fun t ht hW => ⟨⟨1, (fun _ => 0), rfl, rfl, by rw [ht]; exact hP9, va_K.moved hW.alike hK9, hD9⟩, hS.F ht⟩) hS.2.2 dL_exposure_16
  · have hP := ax_keep hP (fun _ h9 => h9) hk1
    exact hw_2.elim

set_option maxHeartbeats 4000000 in
set_option maxRecDepth 100000 in
theorem c_L_ofSource (l : Launch) (hlt : l.stackTraces = false) (dC : Nat → ClassId) (dI : Nat → Nat → Nat) (x xs xp xl xn xm xr xw xt o : Nat) (cS cP cn cm cw ct cO : ClassId) (sa ta : Nat → Nat) (sz : Nat) (p1 : Int32) (p2 : Int32) : Met l yL_ofSource wl_ofSource ({ frames := 24, cells := 1, slots := 6, locals := 600 }) (va_Pc [.ref x, .int p1, .int p2, .ref o] (ax_W (dC, dI) vwCl [(x, .inr (8, [.ref xs, .ref xp, .int 0, .int 0, .ref xl, .ref xr])), (xs, .inl (cS, 3, .inr (.inr (.inr (.inr (fun _ => none)))))), (xp, .inl (cP, 8, .inr (.inr (.inr (.inr (fun _ => none)))))), (xl, .inr (4, [.ref xn, .ref xm])), (xn, .inl (cn, 64, .inr (.inl (fun _ => 0)))), (xm, .inl (cm, 64, .inr (.inl (fun _ => 0)))), (xr, .inr (6, [.ref xw, .ref xt])), (xw, .inl (cw, 8, .inr (.inl (fun _ => 0)))), (xt, .inl (ct, 8, .inr (.inl (fun _ => 0)))), (o, .inl (cO, 1, .inr (.inl (fun _ => 0))))] [(cS, .object "Diffractory$Source"), (cP, .object "Diffractory$Part"), (cn, .long), (cm, .long), (cw, .long), (ct, .long), (cO, .long)] sa ta sz)) (va_Qi (fun (r : Int32) (u : Nat → Int64) => r = 1) (fun (u : Nat → Int64) (t : State) => va_P (dC, dI) vwCl [(o, .inl (cO, 1, .inr (.inl u)))] t.heap ∧ va_K (dC, dI) vwCl [(cO, .long)] t ∧ va_D (va_A [(x, .inr (8, [.ref xs, .ref xp, .int 0, .int 0, .ref xl, .ref xr])), (xs, .inl (cS, 3, .inr (.inr (.inr (.inr (fun _ => none)))))), (xp, .inl (cP, 8, .inr (.inr (.inr (.inr (fun _ => none)))))), (xl, .inr (4, [.ref xn, .ref xm])), (xn, .inl (cn, 64, .inr (.inl (fun _ => 0)))), (xm, .inl (cm, 64, .inr (.inl (fun _ => 0)))), (xr, .inr (6, [.ref xw, .ref xt])), (xw, .inl (cw, 8, .inr (.inl (fun _ => 0)))), (xt, .inl (ct, 8, .inr (.inl (fun _ => 0)))), (o, .inl (cO, 1, .inr (.inl (fun _ => 0))))] sz) [(o, .inl (cO, 1, .inr (.inl u)))]) (va_A [(x, .inr (8, [.ref xs, .ref xp, .int 0, .int 0, .ref xl, .ref xr])), (xs, .inl (cS, 3, .inr (.inr (.inr (.inr (fun _ => none)))))), (xp, .inl (cP, 8, .inr (.inr (.inr (.inr (fun _ => none)))))), (xl, .inr (4, [.ref xn, .ref xm])), (xn, .inl (cn, 64, .inr (.inl (fun _ => 0)))), (xm, .inl (cm, 64, .inr (.inl (fun _ => 0)))), (xr, .inr (6, [.ref xw, .ref xt])), (xw, .inl (cw, 8, .inr (.inl (fun _ => 0)))), (xt, .inl (ct, 8, .inr (.inl (fun _ => 0)))), (o, .inl (cO, 1, .inr (.inl (fun _ => 0))))] sz)) 1 6 (va_A [(x, .inr (8, [.ref xs, .ref xp, .int 0, .int 0, .ref xl, .ref xr])), (xs, .inl (cS, 3, .inr (.inr (.inr (.inr (fun _ => none)))))), (xp, .inl (cP, 8, .inr (.inr (.inr (.inr (fun _ => none)))))), (xl, .inr (4, [.ref xn, .ref xm])), (xn, .inl (cn, 64, .inr (.inl (fun _ => 0)))), (xm, .inl (cm, 64, .inr (.inl (fun _ => 0)))), (xr, .inr (6, [.ref xw, .ref xt])), (xw, .inl (cw, 8, .inr (.inl (fun _ => 0)))), (xt, .inl (ct, 8, .inr (.inl (fun _ => 0)))), (o, .inl (cO, 1, .inr (.inl (fun _ => 0))))] sz) := by
  refine ax_MetWH (cc := cL_ofSource) (maxL := 5) (ret := (some .int)) (by decide) rfl ?_
  intro p e s m args below meth c s₁ B hml hv
  obtain ⟨rfl, hsz, hP, hK, hD0, hE⟩ := hv
  have hx := B.exec
  have hb := B.bytes
  have hr := B.returns
  have hts := atoms_spec (ws := wl_ofSource) B.pre
  have hown : s.vm.findClass RL = some m.cls := findClass_of_methodNamed B.named
  have hlocks := B.notSynchronized
  have htab := vx_table (x := yL_ofSource) B (hts _ List.mem_cons_self)
  subst hsz
  have hD := hD0.self (sz := s.heap.size)
  generalize hAe : va_A [(x, .inr (8, [.ref xs, .ref xp, .int 0, .int 0, .ref xl, .ref xr])), (xs, .inl (cS, 3, .inr (.inr (.inr (.inr (fun _ => none)))))), (xp, .inl (cP, 8, .inr (.inr (.inr (.inr (fun _ => none)))))), (xl, .inr (4, [.ref xn, .ref xm])), (xn, .inl (cn, 64, .inr (.inl (fun _ => 0)))), (xm, .inl (cm, 64, .inr (.inl (fun _ => 0)))), (xr, .inr (6, [.ref xw, .ref xt])), (xw, .inl (cw, 8, .inr (.inl (fun _ => 0)))), (xt, .inl (ct, 8, .inr (.inl (fun _ => 0)))), (o, .inl (cO, 1, .inr (.inl (fun _ => 0))))] s.heap.size = A at hD hE ⊢
  have hA : ∀ q : Nat, s.heap.size ≤ q → A q := fun q h => by rw [← hAe]; exact Or.inr h
  have hS : va_S A s.heap s.heap [] := va_S.rf
  have hl := lv_entry ([.ref x, .int p1, .int p2, .ref o]) (n := 5) (Nat.le_of_ble_eq_true rfl)
  rw [lg_entry_eq]
  generalize (lg_sl ([.ref x, .int p1, .int p2, .ref o]) ++ List.replicate (5 - (lg_sl ([.ref x, .int p1, .int p2, .ref o])).length) Slot.unset).toArray = ls at hl ⊢
  have hl : lv_has ls 5 [(0, .ref x), (1, .int p1), (2, .int p2), (3, .ref o)] := hl
  have hP : va_P (dC, dI) vwCl [(x, .inr (8, [.ref xs, .ref xp, .int 0, .int 0, .ref xl, .ref xr])), (xs, .inl (cS, 3, .inr (.inr (.inr (.inr (fun _ => none)))))), (xp, .inl (cP, 8, .inr (.inr (.inr (.inr (fun _ => none)))))), (xl, .inr (4, [.ref xn, .ref xm])), (xn, .inl (cn, 64, .inr (.inl (fun _ => 0)))), (xm, .inl (cm, 64, .inr (.inl (fun _ => 0)))), (xr, .inr (6, [.ref xw, .ref xt])), (xw, .inl (cw, 8, .inr (.inl (fun _ => 0)))), (xt, .inl (ct, 8, .inr (.inl (fun _ => 0)))), (o, .inl (cO, 1, .inr (.inl (fun _ => 0))))] s.heap := hP
  refine lv_aload_n hx hb dL_ofSource_0 rfl (lv_at hl 3 rfl) ?_
  refine lv_iconst (v := 0) hx hb dL_ofSource_1 (by decide) ?_
  refine lv_aload_n hx hb dL_ofSource_2 rfl (lv_at hl 0 rfl) ?_
  refine lv_iload_n hx hb dL_ofSource_3 rfl (lv_at hl 1 rfl) ?_
  refine lv_iload_n hx hb dL_ofSource_4 rfl (lv_at hl 2 rfl) ?_
  have hPc := hP.sub (ws' := [(x, .inr (8, [.ref xs, .ref xp, .int 0, .int 0, .ref xl, .ref xr])), (xs, .inl (cS, 3, .inr (.inr (.inr (.inr (fun _ => none)))))), (xp, .inl (cP, 8, .inr (.inr (.inr (.inr (fun _ => none)))))), (xl, .inr (4, [.ref xn, .ref xm])), (xn, .inl (cn, 64, .inr (.inl (fun _ => 0)))), (xm, .inl (cm, 64, .inr (.inl (fun _ => 0)))), (xr, .inr (6, [.ref xw, .ref xt])), (xw, .inl (cw, 8, .inr (.inl (fun _ => 0)))), (xt, .inl (ct, 8, .inr (.inl (fun _ => 0))))]) [0, 1, 2, 3, 4, 5, 6, 7, 8] rfl
  have hKc := hK.sub (tys' := [(cS, .object "Diffractory$Source"), (cP, .object "Diffractory$Part"), (cn, .long), (cm, .long), (cw, .long), (ct, .long)]) [0, 1, 2, 3, 4, 5] rfl
  refine vx_calli (vx_runV (As := [.int p1, .int p2]) (rest := [.int 0, .ref o]) ⟨hx, hb, hml, hown, hts⟩ (c_X4_ofSource l hlt dC dI x xs xp xl xn xm xr xw xt cS cP cn cm cw ct sa ta p1 p2) (cwV 2 hts gw_ofSource rfl rfl rfl (by decide +kernel) ⟨Nat.le_of_ble_eq_true rfl, Nat.le_of_ble_eq_true rfl⟩) ⟨ax_fbR, va_recv hK hP (ci := 8) (q0 := 0) rfl rfl, ax_prR hPc hKc hS hE⟩ rfl rfl hl.1 rfl (lv_room (Nat.le_of_ble_eq_true rfl)) dL_ofSource_5 ⟨Nat.le_of_ble_eq_true rfl, Nat.le_of_ble_eq_true rfl⟩) hS (fun _ _ h9 => h9.elim) (fun _ h9 => h9.elim) (fun _ _ h9 => h9.elim) (fun E9 ce9 q9 u9 t H locs ht hvm hw9 hB hz1 hk1 hS hce hcv hcl => ?_) (fun r_1 u_3  t H locs ht hvm hw_2 hB hz1 hk1 hS => ?_)
  · subst hB
    have hP := ax_keep hP (fun _ h9 => h9) hk1
    have hP : va_P (dC, dI) vwCl [(x, .inr (8, [.ref xs, .ref xp, .int 0, .int 0, .ref xl, .ref xr])), (xs, .inl (cS, 3, .inr (.inr (.inr (.inr (fun _ => none)))))), (xp, .inl (cP, 8, .inr (.inr (.inr (.inr (fun _ => none)))))), (xl, .inr (4, [.ref xn, .ref xm])), (xn, .inl (cn, 64, .inr (.inl (fun _ => 0)))), (xm, .inl (cm, 64, .inr (.inl (fun _ => 0)))), (xr, .inr (6, [.ref xw, .ref xt])), (xw, .inl (cw, 8, .inr (.inl (fun _ => 0)))), (xt, .inl (ct, 8, .inr (.inl (fun _ => 0)))), (o, .inl (cO, 1, .inr (.inl (fun _ => 0))))] H := hP
    have hD : va_D A [(x, .inr (8, [.ref xs, .ref xp, .int 0, .int 0, .ref xl, .ref xr])), (xs, .inl (cS, 3, .inr (.inr (.inr (.inr (fun _ => none)))))), (xp, .inl (cP, 8, .inr (.inr (.inr (.inr (fun _ => none)))))), (xl, .inr (4, [.ref xn, .ref xm])), (xn, .inl (cn, 64, .inr (.inl (fun _ => 0)))), (xm, .inl (cm, 64, .inr (.inl (fun _ => 0)))), (xr, .inr (6, [.ref xw, .ref xt])), (xw, .inl (cw, 8, .inr (.inl (fun _ => 0)))), (xt, .inl (ct, 8, .inr (.inl (fun _ => 0)))), (o, .inl (cO, 1, .inr (.inl (fun _ => 0))))] := hD
    refine vx_catch (name := "java/lang/IndexOutOfBoundsException") hown [] ⟨0, 10, 13, 21⟩ [⟨0, 10, 17, 13⟩] (htab.trans rfl) (fun z h9 => nomatch h9) (by decide) (by decide) (hts (.classLink RL 21 "java/lang/IndexOutOfBoundsException") (by decide +kernel)) (va_Nw.use rfl hE.c2) hce hcv hcl ?_
    refine lv_astore (lv' := [(4, .ref q9), (0, .ref x), (1, .int p1), (2, .int p2), (3, .ref o)]) hx hb dL_ofSource_13 hl (by decide) rfl (fun ls hl => ?_)
    refine lv_iconst (v := 1) hx hb dL_ofSource_15 (by decide) ?_
    refine W.widen (k := 1) (n := 6) (Nat.le_of_ble_eq_true rfl) (Nat.le_of_ble_eq_true rfl) ?_
    have hP9 := hP.sub (ws' := [(o, .inl (cO, 1, .inr (.inl (fun _ => 0))))]) [9] rfl
    have hD9 := hD.sub (ws' := [(o, .inl (cO, 1, .inr (.inl (fun _ => 0))))]) [9] (by decide) rfl
    have hK9 := hK.sub (tys' := [(cO, .long)]) [6] rfl
    exact W.iret (v := 1) hx hb hr (fun t ht hW => ⟨⟨1, (fun _ => 0), rfl, rfl, by rw [ht]; exact hP9, va_K.moved hW.alike hK9, hD9⟩, hS.F ht⟩) hS.2.2 dL_ofSource_16
  · have hP := ax_keep hP (fun _ h9 => h9) hk1
    exact hw_2.elim

set_option maxHeartbeats 4000000 in
set_option maxRecDepth 100000 in
theorem c_L_many (l : Launch) (hlt : l.stackTraces = false) (dC : Nat → ClassId) (dI : Nat → Nat → Nat) (x xs xp xl xn xm xr xw xt o : Nat) (cS cP cn cm cw ct cO : ClassId) (sa ta : Nat → Nat) (sz : Nat) (p1 : Int32) : Met l yL_many wl_many ({ frames := 24, cells := 1, slots := 6, locals := 600 }) (va_Pc [.ref x, .int p1, .ref o] (ax_W (dC, dI) vwCl [(x, .inr (8, [.ref xs, .ref xp, .int 0, .int 0, .ref xl, .ref xr])), (xs, .inl (cS, 3, .inr (.inr (.inr (.inr (fun _ => none)))))), (xp, .inl (cP, 8, .inr (.inr (.inr (.inr (fun _ => none)))))), (xl, .inr (4, [.ref xn, .ref xm])), (xn, .inl (cn, 64, .inr (.inl (fun _ => 0)))), (xm, .inl (cm, 64, .inr (.inl (fun _ => 0)))), (xr, .inr (6, [.ref xw, .ref xt])), (xw, .inl (cw, 8, .inr (.inl (fun _ => 0)))), (xt, .inl (ct, 8, .inr (.inl (fun _ => 0)))), (o, .inl (cO, 1, .inr (.inl (fun _ => 0))))] [(cS, .object "Diffractory$Source"), (cP, .object "Diffractory$Part"), (cn, .long), (cm, .long), (cw, .long), (ct, .long), (cO, .long)] sa ta sz)) (va_Qi (fun (r : Int32) (u : Nat → Int64) => (((0 ≤ p1.toInt ∧ p1.toInt ≤ 4)) ∧ r = 0 ∧ u 0 = if p1.toInt = 3 then -1 else 0) ∨ (¬ ((0 ≤ p1.toInt ∧ p1.toInt ≤ 4)) ∧ r = 1)) (fun (u : Nat → Int64) (t : State) => va_P (dC, dI) vwCl [(o, .inl (cO, 1, .inr (.inl u)))] t.heap ∧ va_K (dC, dI) vwCl [(cO, .long)] t ∧ va_D (va_A [(x, .inr (8, [.ref xs, .ref xp, .int 0, .int 0, .ref xl, .ref xr])), (xs, .inl (cS, 3, .inr (.inr (.inr (.inr (fun _ => none)))))), (xp, .inl (cP, 8, .inr (.inr (.inr (.inr (fun _ => none)))))), (xl, .inr (4, [.ref xn, .ref xm])), (xn, .inl (cn, 64, .inr (.inl (fun _ => 0)))), (xm, .inl (cm, 64, .inr (.inl (fun _ => 0)))), (xr, .inr (6, [.ref xw, .ref xt])), (xw, .inl (cw, 8, .inr (.inl (fun _ => 0)))), (xt, .inl (ct, 8, .inr (.inl (fun _ => 0)))), (o, .inl (cO, 1, .inr (.inl (fun _ => 0))))] sz) [(o, .inl (cO, 1, .inr (.inl u)))]) (va_A [(x, .inr (8, [.ref xs, .ref xp, .int 0, .int 0, .ref xl, .ref xr])), (xs, .inl (cS, 3, .inr (.inr (.inr (.inr (fun _ => none)))))), (xp, .inl (cP, 8, .inr (.inr (.inr (.inr (fun _ => none)))))), (xl, .inr (4, [.ref xn, .ref xm])), (xn, .inl (cn, 64, .inr (.inl (fun _ => 0)))), (xm, .inl (cm, 64, .inr (.inl (fun _ => 0)))), (xr, .inr (6, [.ref xw, .ref xt])), (xw, .inl (cw, 8, .inr (.inl (fun _ => 0)))), (xt, .inl (ct, 8, .inr (.inl (fun _ => 0)))), (o, .inl (cO, 1, .inr (.inl (fun _ => 0))))] sz)) 1 6 (va_A [(x, .inr (8, [.ref xs, .ref xp, .int 0, .int 0, .ref xl, .ref xr])), (xs, .inl (cS, 3, .inr (.inr (.inr (.inr (fun _ => none)))))), (xp, .inl (cP, 8, .inr (.inr (.inr (.inr (fun _ => none)))))), (xl, .inr (4, [.ref xn, .ref xm])), (xn, .inl (cn, 64, .inr (.inl (fun _ => 0)))), (xm, .inl (cm, 64, .inr (.inl (fun _ => 0)))), (xr, .inr (6, [.ref xw, .ref xt])), (xw, .inl (cw, 8, .inr (.inl (fun _ => 0)))), (xt, .inl (ct, 8, .inr (.inl (fun _ => 0)))), (o, .inl (cO, 1, .inr (.inl (fun _ => 0))))] sz) := by
  refine ax_MetWH (cc := cL_many) (maxL := 4) (ret := (some .int)) (by decide) rfl ?_
  intro p e s m args below meth c s₁ B hml hv
  obtain ⟨rfl, hsz, hP, hK, hD0, hE⟩ := hv
  have hx := B.exec
  have hb := B.bytes
  have hr := B.returns
  have hts := atoms_spec (ws := wl_many) B.pre
  have hown : s.vm.findClass RL = some m.cls := findClass_of_methodNamed B.named
  have hlocks := B.notSynchronized
  have htab := vx_table (x := yL_many) B (hts _ List.mem_cons_self)
  subst hsz
  have hD := hD0.self (sz := s.heap.size)
  generalize hAe : va_A [(x, .inr (8, [.ref xs, .ref xp, .int 0, .int 0, .ref xl, .ref xr])), (xs, .inl (cS, 3, .inr (.inr (.inr (.inr (fun _ => none)))))), (xp, .inl (cP, 8, .inr (.inr (.inr (.inr (fun _ => none)))))), (xl, .inr (4, [.ref xn, .ref xm])), (xn, .inl (cn, 64, .inr (.inl (fun _ => 0)))), (xm, .inl (cm, 64, .inr (.inl (fun _ => 0)))), (xr, .inr (6, [.ref xw, .ref xt])), (xw, .inl (cw, 8, .inr (.inl (fun _ => 0)))), (xt, .inl (ct, 8, .inr (.inl (fun _ => 0)))), (o, .inl (cO, 1, .inr (.inl (fun _ => 0))))] s.heap.size = A at hD hE ⊢
  have hA : ∀ q : Nat, s.heap.size ≤ q → A q := fun q h => by rw [← hAe]; exact Or.inr h
  have hS : va_S A s.heap s.heap [] := va_S.rf
  have hl := lv_entry ([.ref x, .int p1, .ref o]) (n := 4) (Nat.le_of_ble_eq_true rfl)
  rw [lg_entry_eq]
  generalize (lg_sl ([.ref x, .int p1, .ref o]) ++ List.replicate (4 - (lg_sl ([.ref x, .int p1, .ref o])).length) Slot.unset).toArray = ls at hl ⊢
  have hl : lv_has ls 4 [(0, .ref x), (1, .int p1), (2, .ref o)] := hl
  have hP : va_P (dC, dI) vwCl [(x, .inr (8, [.ref xs, .ref xp, .int 0, .int 0, .ref xl, .ref xr])), (xs, .inl (cS, 3, .inr (.inr (.inr (.inr (fun _ => none)))))), (xp, .inl (cP, 8, .inr (.inr (.inr (.inr (fun _ => none)))))), (xl, .inr (4, [.ref xn, .ref xm])), (xn, .inl (cn, 64, .inr (.inl (fun _ => 0)))), (xm, .inl (cm, 64, .inr (.inl (fun _ => 0)))), (xr, .inr (6, [.ref xw, .ref xt])), (xw, .inl (cw, 8, .inr (.inl (fun _ => 0)))), (xt, .inl (ct, 8, .inr (.inl (fun _ => 0)))), (o, .inl (cO, 1, .inr (.inl (fun _ => 0))))] s.heap := hP
  refine lv_aload_n hx hb dL_many_0 rfl (lv_at hl 2 rfl) ?_
  refine lv_iconst (v := 0) hx hb dL_many_1 (by decide) ?_
  refine lv_aload_n hx hb dL_many_2 rfl (lv_at hl 0 rfl) ?_
  refine lv_iload_n hx hb dL_many_3 rfl (lv_at hl 1 rfl) ?_
  have hPc := hP.sub (ws' := [(x, .inr (8, [.ref xs, .ref xp, .int 0, .int 0, .ref xl, .ref xr])), (xs, .inl (cS, 3, .inr (.inr (.inr (.inr (fun _ => none)))))), (xp, .inl (cP, 8, .inr (.inr (.inr (.inr (fun _ => none)))))), (xl, .inr (4, [.ref xn, .ref xm])), (xn, .inl (cn, 64, .inr (.inl (fun _ => 0)))), (xm, .inl (cm, 64, .inr (.inl (fun _ => 0)))), (xr, .inr (6, [.ref xw, .ref xt])), (xw, .inl (cw, 8, .inr (.inl (fun _ => 0)))), (xt, .inl (ct, 8, .inr (.inl (fun _ => 0))))]) [0, 1, 2, 3, 4, 5, 6, 7, 8] rfl
  have hKc := hK.sub (tys' := [(cS, .object "Diffractory$Source"), (cP, .object "Diffractory$Part"), (cn, .long), (cm, .long), (cw, .long), (ct, .long)]) [0, 1, 2, 3, 4, 5] rfl
  refine vx_calli (vx_runV (As := [.int p1]) (rest := [.int 0, .ref o]) ⟨hx, hb, hml, hown, hts⟩ (c_X4_many l hlt dC dI x xs xp xl xn xm xr xw xt cS cP cn cm cw ct sa ta p1) (cwV 1 hts gw_many rfl rfl rfl (by decide +kernel) ⟨Nat.le_of_ble_eq_true rfl, Nat.le_of_ble_eq_true rfl⟩) ⟨ax_fbR, va_recv hK hP (ci := 8) (q0 := 0) rfl rfl, ax_prR hPc hKc hS hE⟩ rfl rfl hl.1 rfl (lv_room (Nat.le_of_ble_eq_true rfl)) dL_many_4 ⟨Nat.le_of_ble_eq_true rfl, Nat.le_of_ble_eq_true rfl⟩) hS (fun _ _ h9 => h9.elim) (fun _ h9 => h9.elim) (fun _ _ h9 => h9.elim) (fun E9 ce9 q9 u9 t H locs ht hvm hw9 hB hz1 hk1 hS hce hcv hcl => ?_) (fun r_1 u_3  t H locs ht hvm hw_2 hB hz1 hk1 hS => ?_)
  · subst hB
    have hP := ax_keep hP (fun _ h9 => h9) hk1
    have hP : va_P (dC, dI) vwCl [(x, .inr (8, [.ref xs, .ref xp, .int 0, .int 0, .ref xl, .ref xr])), (xs, .inl (cS, 3, .inr (.inr (.inr (.inr (fun _ => none)))))), (xp, .inl (cP, 8, .inr (.inr (.inr (.inr (fun _ => none)))))), (xl, .inr (4, [.ref xn, .ref xm])), (xn, .inl (cn, 64, .inr (.inl (fun _ => 0)))), (xm, .inl (cm, 64, .inr (.inl (fun _ => 0)))), (xr, .inr (6, [.ref xw, .ref xt])), (xw, .inl (cw, 8, .inr (.inl (fun _ => 0)))), (xt, .inl (ct, 8, .inr (.inl (fun _ => 0)))), (o, .inl (cO, 1, .inr (.inl (fun _ => 0))))] H := hP
    have hD : va_D A [(x, .inr (8, [.ref xs, .ref xp, .int 0, .int 0, .ref xl, .ref xr])), (xs, .inl (cS, 3, .inr (.inr (.inr (.inr (fun _ => none)))))), (xp, .inl (cP, 8, .inr (.inr (.inr (.inr (fun _ => none)))))), (xl, .inr (4, [.ref xn, .ref xm])), (xn, .inl (cn, 64, .inr (.inl (fun _ => 0)))), (xm, .inl (cm, 64, .inr (.inl (fun _ => 0)))), (xr, .inr (6, [.ref xw, .ref xt])), (xw, .inl (cw, 8, .inr (.inl (fun _ => 0)))), (xt, .inl (ct, 8, .inr (.inl (fun _ => 0)))), (o, .inl (cO, 1, .inr (.inl (fun _ => 0))))] := hD
    refine vx_catch (name := "java/lang/IllegalArgumentException") hown [] ⟨0, 9, 12, 13⟩ [] (htab.trans rfl) (fun z h9 => nomatch h9) (by decide) (by decide) (hts (.classLink RL 13 "java/lang/IllegalArgumentException") (by decide +kernel)) (va_Nw.use rfl hE.c0) hce hcv hcl ?_
    refine lv_astore_n (lv' := [(3, .ref q9), (0, .ref x), (1, .int p1), (2, .ref o)]) hx hb dL_many_12 rfl hl (by decide) rfl (fun ls hl => ?_)
    refine lv_iconst (v := 1) hx hb dL_many_13 (by decide) ?_
    refine W.widen (k := 1) (n := 6) (Nat.le_of_ble_eq_true rfl) (Nat.le_of_ble_eq_true rfl) ?_
    have hP9 := hP.sub (ws' := [(o, .inl (cO, 1, .inr (.inl (fun _ => 0))))]) [9] rfl
    have hD9 := hD.sub (ws' := [(o, .inl (cO, 1, .inr (.inl (fun _ => 0))))]) [9] (by decide) rfl
    have hK9 := hK.sub (tys' := [(cO, .long)]) [6] rfl
    exact W.iret (v := 1) hx hb hr (fun t ht hW => ⟨⟨1, (fun _ => 0), rfl, Or.inr ⟨by omega, rfl⟩, by rw [ht]; exact hP9, va_K.moved hW.alike hK9, hD9⟩, hS.F ht⟩) hS.2.2 dL_many_14
  · have hP := ax_keep hP (fun _ h9 => h9) hk1
    by_cases h3 : p1.toInt = 3
    · have h9 := hw_2.2
      rw [if_pos h3] at h9
      refine ax_i (y := (-1)) h9 ?_
      refine lv_i2l (v := (-1)) hx hb dL_many_7 (by decide) ?_
      refine va_last hx hb hK hP hD hS 9 6 rfl rfl (by unfold vp_in; decide) dL_many_8 (fun H locs hP hD hS => ?_)
      have hP : va_P (dC, dI) vwCl [(x, .inr (8, [.ref xs, .ref xp, .int 0, .int 0, .ref xl, .ref xr])), (xs, .inl (cS, 3, .inr (.inr (.inr (.inr (fun _ => none)))))), (xp, .inl (cP, 8, .inr (.inr (.inr (.inr (fun _ => none)))))), (xl, .inr (4, [.ref xn, .ref xm])), (xn, .inl (cn, 64, .inr (.inl (fun _ => 0)))), (xm, .inl (cm, 64, .inr (.inl (fun _ => 0)))), (xr, .inr (6, [.ref xw, .ref xt])), (xw, .inl (cw, 8, .inr (.inl (fun _ => 0)))), (xt, .inl (ct, 8, .inr (.inl (fun _ => 0)))), (o, .inl (cO, 1, .inr (.inl (vp_updL (fun _ => 0) (0 : Int32).toNatClampNeg (-1)))))] H := hP
      have hD : va_D A [(x, .inr (8, [.ref xs, .ref xp, .int 0, .int 0, .ref xl, .ref xr])), (xs, .inl (cS, 3, .inr (.inr (.inr (.inr (fun _ => none)))))), (xp, .inl (cP, 8, .inr (.inr (.inr (.inr (fun _ => none)))))), (xl, .inr (4, [.ref xn, .ref xm])), (xn, .inl (cn, 64, .inr (.inl (fun _ => 0)))), (xm, .inl (cm, 64, .inr (.inl (fun _ => 0)))), (xr, .inr (6, [.ref xw, .ref xt])), (xw, .inl (cw, 8, .inr (.inl (fun _ => 0)))), (xt, .inl (ct, 8, .inr (.inl (fun _ => 0)))), (o, .inl (cO, 1, .inr (.inl (vp_updL (fun _ => 0) (0 : Int32).toNatClampNeg (-1)))))] := hD
      refine lv_goto (tgt := 15) hx hb dL_many_9 (by decide) ?_
      refine lv_iconst (v := 0) hx hb dL_many_15 (by decide) ?_
      refine W.widen (k := 1) (n := 6) (Nat.le_of_ble_eq_true rfl) (Nat.le_of_ble_eq_true rfl) ?_
      have hP9 := hP.sub (ws' := [(o, .inl (cO, 1, .inr (.inl (vp_updL (fun _ => 0) (0 : Int32).toNatClampNeg (-1)))))]) [9] rfl
      have hD9 := hD.sub (ws' := [(o, .inl (cO, 1, .inr (.inl (vp_updL (fun _ => 0) (0 : Int32).toNatClampNeg (-1)))))]) [9] (by decide) rfl
      have hK9 := hK.sub (tys' := [(cO, .long)]) [6] rfl
      exact W.iret (v := 0) hx hb hr (fun t ht hW => ⟨⟨0, (vp_updL (fun _ => 0) (0 : Int32).toNatClampNeg (-1)), rfl, Or.inl ⟨by omega, rfl, by first | rfl | exact (if_pos (by assumption)).symm | exact (if_neg (by assumption)).symm⟩, by rw [ht]; exact hP9, va_K.moved hW.alike hK9, hD9⟩, hS.F ht⟩) hS.2.2 dL_many_16
    · have h9 := hw_2.2
      rw [if_neg h3] at h9
      refine ax_i (y := 0) h9 ?_
      refine lv_i2l (v := 0) hx hb dL_many_7 (by decide) ?_
      refine va_last hx hb hK hP hD hS 9 6 rfl rfl (by unfold vp_in; decide) dL_many_8 (fun H locs hP hD hS => ?_)
      rw [ax_uz] at hP hD
      have hP : va_P (dC, dI) vwCl [(x, .inr (8, [.ref xs, .ref xp, .int 0, .int 0, .ref xl, .ref xr])), (xs, .inl (cS, 3, .inr (.inr (.inr (.inr (fun _ => none)))))), (xp, .inl (cP, 8, .inr (.inr (.inr (.inr (fun _ => none)))))), (xl, .inr (4, [.ref xn, .ref xm])), (xn, .inl (cn, 64, .inr (.inl (fun _ => 0)))), (xm, .inl (cm, 64, .inr (.inl (fun _ => 0)))), (xr, .inr (6, [.ref xw, .ref xt])), (xw, .inl (cw, 8, .inr (.inl (fun _ => 0)))), (xt, .inl (ct, 8, .inr (.inl (fun _ => 0)))), (o, .inl (cO, 1, .inr (.inl (fun _ => 0))))] H := hP
      have hD : va_D A [(x, .inr (8, [.ref xs, .ref xp, .int 0, .int 0, .ref xl, .ref xr])), (xs, .inl (cS, 3, .inr (.inr (.inr (.inr (fun _ => none)))))), (xp, .inl (cP, 8, .inr (.inr (.inr (.inr (fun _ => none)))))), (xl, .inr (4, [.ref xn, .ref xm])), (xn, .inl (cn, 64, .inr (.inl (fun _ => 0)))), (xm, .inl (cm, 64, .inr (.inl (fun _ => 0)))), (xr, .inr (6, [.ref xw, .ref xt])), (xw, .inl (cw, 8, .inr (.inl (fun _ => 0)))), (xt, .inl (ct, 8, .inr (.inl (fun _ => 0)))), (o, .inl (cO, 1, .inr (.inl (fun _ => 0))))] := hD
      refine lv_goto (tgt := 15) hx hb dL_many_9 (by decide) ?_
      refine lv_iconst (v := 0) hx hb dL_many_15 (by decide) ?_
      refine W.widen (k := 1) (n := 6) (Nat.le_of_ble_eq_true rfl) (Nat.le_of_ble_eq_true rfl) ?_
      have hP9 := hP.sub (ws' := [(o, .inl (cO, 1, .inr (.inl (fun _ => 0))))]) [9] rfl
      have hD9 := hD.sub (ws' := [(o, .inl (cO, 1, .inr (.inl (fun _ => 0))))]) [9] (by decide) rfl
      have hK9 := hK.sub (tys' := [(cO, .long)]) [6] rfl
      exact W.iret (v := 0) hx hb hr (fun t ht hW => ⟨⟨0, (fun _ => 0), rfl, Or.inl ⟨by omega, rfl, by first | rfl | exact (if_pos (by assumption)).symm | exact (if_neg (by assumption)).symm⟩, by rw [ht]; exact hP9, va_K.moved hW.alike hK9, hD9⟩, hS.F ht⟩) hS.2.2 dL_many_16

set_option maxHeartbeats 4000000 in
set_option maxRecDepth 100000 in
theorem c_L_without (l : Launch) (hlt : l.stackTraces = false) (dC : Nat → ClassId) (dI : Nat → Nat → Nat) (x xs xp xl xn xm xr xw xt o : Nat) (cS cP cn cm cw ct cO : ClassId) (sa ta : Nat → Nat) (sz : Nat) (p1 : Int32) (p2 : Int32) : Met l yL_without wl_without ({ frames := 24, cells := 1, slots := 6, locals := 600 }) (va_Pc [.ref x, .int p1, .int p2, .ref o] (ax_W (dC, dI) vwCl [(x, .inr (8, [.ref xs, .ref xp, .int 0, .int 0, .ref xl, .ref xr])), (xs, .inl (cS, 3, .inr (.inr (.inr (.inr (fun _ => none)))))), (xp, .inl (cP, 8, .inr (.inr (.inr (.inr (fun _ => none)))))), (xl, .inr (4, [.ref xn, .ref xm])), (xn, .inl (cn, 64, .inr (.inl (fun _ => 0)))), (xm, .inl (cm, 64, .inr (.inl (fun _ => 0)))), (xr, .inr (6, [.ref xw, .ref xt])), (xw, .inl (cw, 8, .inr (.inl (fun _ => 0)))), (xt, .inl (ct, 8, .inr (.inl (fun _ => 0)))), (o, .inl (cO, 1, .inr (.inl (fun _ => 0))))] [(cS, .object "Diffractory$Source"), (cP, .object "Diffractory$Part"), (cn, .long), (cm, .long), (cw, .long), (ct, .long), (cO, .long)] sa ta sz)) (va_Qi (fun (r : Int32) (u : Nat → Int64) => r = 1) (fun (u : Nat → Int64) (t : State) => va_P (dC, dI) vwCl [(o, .inl (cO, 1, .inr (.inl u)))] t.heap ∧ va_K (dC, dI) vwCl [(cO, .long)] t ∧ va_D (va_A [(x, .inr (8, [.ref xs, .ref xp, .int 0, .int 0, .ref xl, .ref xr])), (xs, .inl (cS, 3, .inr (.inr (.inr (.inr (fun _ => none)))))), (xp, .inl (cP, 8, .inr (.inr (.inr (.inr (fun _ => none)))))), (xl, .inr (4, [.ref xn, .ref xm])), (xn, .inl (cn, 64, .inr (.inl (fun _ => 0)))), (xm, .inl (cm, 64, .inr (.inl (fun _ => 0)))), (xr, .inr (6, [.ref xw, .ref xt])), (xw, .inl (cw, 8, .inr (.inl (fun _ => 0)))), (xt, .inl (ct, 8, .inr (.inl (fun _ => 0)))), (o, .inl (cO, 1, .inr (.inl (fun _ => 0))))] sz) [(o, .inl (cO, 1, .inr (.inl u)))]) (va_A [(x, .inr (8, [.ref xs, .ref xp, .int 0, .int 0, .ref xl, .ref xr])), (xs, .inl (cS, 3, .inr (.inr (.inr (.inr (fun _ => none)))))), (xp, .inl (cP, 8, .inr (.inr (.inr (.inr (fun _ => none)))))), (xl, .inr (4, [.ref xn, .ref xm])), (xn, .inl (cn, 64, .inr (.inl (fun _ => 0)))), (xm, .inl (cm, 64, .inr (.inl (fun _ => 0)))), (xr, .inr (6, [.ref xw, .ref xt])), (xw, .inl (cw, 8, .inr (.inl (fun _ => 0)))), (xt, .inl (ct, 8, .inr (.inl (fun _ => 0)))), (o, .inl (cO, 1, .inr (.inl (fun _ => 0))))] sz)) 1 6 (va_A [(x, .inr (8, [.ref xs, .ref xp, .int 0, .int 0, .ref xl, .ref xr])), (xs, .inl (cS, 3, .inr (.inr (.inr (.inr (fun _ => none)))))), (xp, .inl (cP, 8, .inr (.inr (.inr (.inr (fun _ => none)))))), (xl, .inr (4, [.ref xn, .ref xm])), (xn, .inl (cn, 64, .inr (.inl (fun _ => 0)))), (xm, .inl (cm, 64, .inr (.inl (fun _ => 0)))), (xr, .inr (6, [.ref xw, .ref xt])), (xw, .inl (cw, 8, .inr (.inl (fun _ => 0)))), (xt, .inl (ct, 8, .inr (.inl (fun _ => 0)))), (o, .inl (cO, 1, .inr (.inl (fun _ => 0))))] sz) := by
  refine ax_MetWH (cc := cL_without) (maxL := 5) (ret := (some .int)) (by decide) rfl ?_
  intro p e s m args below meth c s₁ B hml hv
  obtain ⟨rfl, hsz, hP, hK, hD0, hE⟩ := hv
  have hx := B.exec
  have hb := B.bytes
  have hr := B.returns
  have hts := atoms_spec (ws := wl_without) B.pre
  have hown : s.vm.findClass RL = some m.cls := findClass_of_methodNamed B.named
  have hlocks := B.notSynchronized
  have htab := vx_table (x := yL_without) B (hts _ List.mem_cons_self)
  subst hsz
  have hD := hD0.self (sz := s.heap.size)
  generalize hAe : va_A [(x, .inr (8, [.ref xs, .ref xp, .int 0, .int 0, .ref xl, .ref xr])), (xs, .inl (cS, 3, .inr (.inr (.inr (.inr (fun _ => none)))))), (xp, .inl (cP, 8, .inr (.inr (.inr (.inr (fun _ => none)))))), (xl, .inr (4, [.ref xn, .ref xm])), (xn, .inl (cn, 64, .inr (.inl (fun _ => 0)))), (xm, .inl (cm, 64, .inr (.inl (fun _ => 0)))), (xr, .inr (6, [.ref xw, .ref xt])), (xw, .inl (cw, 8, .inr (.inl (fun _ => 0)))), (xt, .inl (ct, 8, .inr (.inl (fun _ => 0)))), (o, .inl (cO, 1, .inr (.inl (fun _ => 0))))] s.heap.size = A at hD hE ⊢
  have hA : ∀ q : Nat, s.heap.size ≤ q → A q := fun q h => by rw [← hAe]; exact Or.inr h
  have hS : va_S A s.heap s.heap [] := va_S.rf
  have hl := lv_entry ([.ref x, .int p1, .int p2, .ref o]) (n := 5) (Nat.le_of_ble_eq_true rfl)
  rw [lg_entry_eq]
  generalize (lg_sl ([.ref x, .int p1, .int p2, .ref o]) ++ List.replicate (5 - (lg_sl ([.ref x, .int p1, .int p2, .ref o])).length) Slot.unset).toArray = ls at hl ⊢
  have hl : lv_has ls 5 [(0, .ref x), (1, .int p1), (2, .int p2), (3, .ref o)] := hl
  have hP : va_P (dC, dI) vwCl [(x, .inr (8, [.ref xs, .ref xp, .int 0, .int 0, .ref xl, .ref xr])), (xs, .inl (cS, 3, .inr (.inr (.inr (.inr (fun _ => none)))))), (xp, .inl (cP, 8, .inr (.inr (.inr (.inr (fun _ => none)))))), (xl, .inr (4, [.ref xn, .ref xm])), (xn, .inl (cn, 64, .inr (.inl (fun _ => 0)))), (xm, .inl (cm, 64, .inr (.inl (fun _ => 0)))), (xr, .inr (6, [.ref xw, .ref xt])), (xw, .inl (cw, 8, .inr (.inl (fun _ => 0)))), (xt, .inl (ct, 8, .inr (.inl (fun _ => 0)))), (o, .inl (cO, 1, .inr (.inl (fun _ => 0))))] s.heap := hP
  refine lv_aload_n hx hb dL_without_0 rfl (lv_at hl 3 rfl) ?_
  refine lv_iconst (v := 0) hx hb dL_without_1 (by decide) ?_
  refine lv_aload_n hx hb dL_without_2 rfl (lv_at hl 0 rfl) ?_
  refine lv_iload_n hx hb dL_without_3 rfl (lv_at hl 1 rfl) ?_
  refine lv_iload_n hx hb dL_without_4 rfl (lv_at hl 2 rfl) ?_
  have hPc := hP.sub (ws' := [(x, .inr (8, [.ref xs, .ref xp, .int 0, .int 0, .ref xl, .ref xr])), (xs, .inl (cS, 3, .inr (.inr (.inr (.inr (fun _ => none)))))), (xp, .inl (cP, 8, .inr (.inr (.inr (.inr (fun _ => none)))))), (xl, .inr (4, [.ref xn, .ref xm])), (xn, .inl (cn, 64, .inr (.inl (fun _ => 0)))), (xm, .inl (cm, 64, .inr (.inl (fun _ => 0)))), (xr, .inr (6, [.ref xw, .ref xt])), (xw, .inl (cw, 8, .inr (.inl (fun _ => 0)))), (xt, .inl (ct, 8, .inr (.inl (fun _ => 0))))]) [0, 1, 2, 3, 4, 5, 6, 7, 8] rfl
  have hKc := hK.sub (tys' := [(cS, .object "Diffractory$Source"), (cP, .object "Diffractory$Part"), (cn, .long), (cm, .long), (cw, .long), (ct, .long)]) [0, 1, 2, 3, 4, 5] rfl
  refine vx_calll (vx_runV (As := [.int p1, .int p2]) (rest := [.int 0, .ref o]) ⟨hx, hb, hml, hown, hts⟩ (c_X4_without l hlt dC dI x xs xp xl xn xm xr xw xt cS cP cn cm cw ct sa ta p1 p2) (cwV 2 hts gw_without rfl rfl rfl (by decide +kernel) ⟨Nat.le_of_ble_eq_true rfl, Nat.le_of_ble_eq_true rfl⟩) ⟨ax_fbR, va_recv hK hP (ci := 8) (q0 := 0) rfl rfl, ax_prR hPc hKc hS hE⟩ rfl rfl hl.1 rfl (lv_room (Nat.le_of_ble_eq_true rfl)) dL_without_5 ⟨Nat.le_of_ble_eq_true rfl, Nat.le_of_ble_eq_true rfl⟩) hS (fun _ _ h9 => h9.elim) (fun _ h9 => h9.elim) (fun _ _ h9 => h9.elim) (fun E9 ce9 q9 u9 t H locs ht hvm hw9 hB hz1 hk1 hS hce hcv hcl => ?_) (fun r_1 u_3  t H locs ht hvm hw_2 hB hz1 hk1 hS => ?_)
  · subst hB
    have hP := ax_keep hP (fun _ h9 => h9) hk1
    have hP : va_P (dC, dI) vwCl [(x, .inr (8, [.ref xs, .ref xp, .int 0, .int 0, .ref xl, .ref xr])), (xs, .inl (cS, 3, .inr (.inr (.inr (.inr (fun _ => none)))))), (xp, .inl (cP, 8, .inr (.inr (.inr (.inr (fun _ => none)))))), (xl, .inr (4, [.ref xn, .ref xm])), (xn, .inl (cn, 64, .inr (.inl (fun _ => 0)))), (xm, .inl (cm, 64, .inr (.inl (fun _ => 0)))), (xr, .inr (6, [.ref xw, .ref xt])), (xw, .inl (cw, 8, .inr (.inl (fun _ => 0)))), (xt, .inl (ct, 8, .inr (.inl (fun _ => 0)))), (o, .inl (cO, 1, .inr (.inl (fun _ => 0))))] H := hP
    have hD : va_D A [(x, .inr (8, [.ref xs, .ref xp, .int 0, .int 0, .ref xl, .ref xr])), (xs, .inl (cS, 3, .inr (.inr (.inr (.inr (fun _ => none)))))), (xp, .inl (cP, 8, .inr (.inr (.inr (.inr (fun _ => none)))))), (xl, .inr (4, [.ref xn, .ref xm])), (xn, .inl (cn, 64, .inr (.inl (fun _ => 0)))), (xm, .inl (cm, 64, .inr (.inl (fun _ => 0)))), (xr, .inr (6, [.ref xw, .ref xt])), (xw, .inl (cw, 8, .inr (.inl (fun _ => 0)))), (xt, .inl (ct, 8, .inr (.inl (fun _ => 0)))), (o, .inl (cO, 1, .inr (.inl (fun _ => 0))))] := hD
    refine vx_catch (name := "java/lang/IndexOutOfBoundsException") hown [] ⟨0, 9, 12, 21⟩ [] (htab.trans rfl) (fun z h9 => nomatch h9) (by decide) (by decide) (hts (.classLink RL 21 "java/lang/IndexOutOfBoundsException") (by decide +kernel)) (va_Nw.use rfl hE.c2) hce hcv hcl ?_
    refine lv_astore (lv' := [(4, .ref q9), (0, .ref x), (1, .int p1), (2, .int p2), (3, .ref o)]) hx hb dL_without_12 hl (by decide) rfl (fun ls hl => ?_)
    refine lv_iconst (v := 1) hx hb dL_without_14 (by decide) ?_
    refine W.widen (k := 1) (n := 6) (Nat.le_of_ble_eq_true rfl) (Nat.le_of_ble_eq_true rfl) ?_
    have hP9 := hP.sub (ws' := [(o, .inl (cO, 1, .inr (.inl (fun _ => 0))))]) [9] rfl
    have hD9 := hD.sub (ws' := [(o, .inl (cO, 1, .inr (.inl (fun _ => 0))))]) [9] (by decide) rfl
    have hK9 := hK.sub (tys' := [(cO, .long)]) [6] rfl
    exact W.iret (v := 1) hx hb hr (fun t ht hW => ⟨⟨1, (fun _ => 0), rfl, rfl, by rw [ht]; exact hP9, va_K.moved hW.alike hK9, hD9⟩, hS.F ht⟩) hS.2.2 dL_without_15
  · have hP := ax_keep hP (fun _ h9 => h9) hk1
    exact hw_2.elim

set_option maxHeartbeats 4000000 in
set_option maxRecDepth 100000 in
theorem c_L_best (l : Launch) (hlt : l.stackTraces = false) (dC : Nat → ClassId) (dI : Nat → Nat → Nat) (x xs xp xl xn xm xr xw xt o : Nat) (cS cP cn cm cw ct cO : ClassId) (sa ta : Nat → Nat) (sz : Nat) (p1 : Int32) (p2 : Int32) : Met l yL_best wl_best ({ frames := 24, cells := 1, slots := 6, locals := 600 }) (va_Pc [.ref x, .int p1, .int p2, .ref o] (ax_W (dC, dI) vwCl [(x, .inr (8, [.ref xs, .ref xp, .int 0, .int 0, .ref xl, .ref xr])), (xs, .inl (cS, 3, .inr (.inr (.inr (.inr (fun _ => none)))))), (xp, .inl (cP, 8, .inr (.inr (.inr (.inr (fun _ => none)))))), (xl, .inr (4, [.ref xn, .ref xm])), (xn, .inl (cn, 64, .inr (.inl (fun _ => 0)))), (xm, .inl (cm, 64, .inr (.inl (fun _ => 0)))), (xr, .inr (6, [.ref xw, .ref xt])), (xw, .inl (cw, 8, .inr (.inl (fun _ => 0)))), (xt, .inl (ct, 8, .inr (.inl (fun _ => 0)))), (o, .inl (cO, 1, .inr (.inl (fun _ => 0))))] [(cS, .object "Diffractory$Source"), (cP, .object "Diffractory$Part"), (cn, .long), (cm, .long), (cw, .long), (ct, .long), (cO, .long)] sa ta sz)) (va_Qi (fun (r : Int32) (u : Nat → Int64) => r = 1) (fun (u : Nat → Int64) (t : State) => va_P (dC, dI) vwCl [(o, .inl (cO, 1, .inr (.inl u)))] t.heap ∧ va_K (dC, dI) vwCl [(cO, .long)] t ∧ va_D (va_A [(x, .inr (8, [.ref xs, .ref xp, .int 0, .int 0, .ref xl, .ref xr])), (xs, .inl (cS, 3, .inr (.inr (.inr (.inr (fun _ => none)))))), (xp, .inl (cP, 8, .inr (.inr (.inr (.inr (fun _ => none)))))), (xl, .inr (4, [.ref xn, .ref xm])), (xn, .inl (cn, 64, .inr (.inl (fun _ => 0)))), (xm, .inl (cm, 64, .inr (.inl (fun _ => 0)))), (xr, .inr (6, [.ref xw, .ref xt])), (xw, .inl (cw, 8, .inr (.inl (fun _ => 0)))), (xt, .inl (ct, 8, .inr (.inl (fun _ => 0)))), (o, .inl (cO, 1, .inr (.inl (fun _ => 0))))] sz) [(o, .inl (cO, 1, .inr (.inl u)))]) (va_A [(x, .inr (8, [.ref xs, .ref xp, .int 0, .int 0, .ref xl, .ref xr])), (xs, .inl (cS, 3, .inr (.inr (.inr (.inr (fun _ => none)))))), (xp, .inl (cP, 8, .inr (.inr (.inr (.inr (fun _ => none)))))), (xl, .inr (4, [.ref xn, .ref xm])), (xn, .inl (cn, 64, .inr (.inl (fun _ => 0)))), (xm, .inl (cm, 64, .inr (.inl (fun _ => 0)))), (xr, .inr (6, [.ref xw, .ref xt])), (xw, .inl (cw, 8, .inr (.inl (fun _ => 0)))), (xt, .inl (ct, 8, .inr (.inl (fun _ => 0)))), (o, .inl (cO, 1, .inr (.inl (fun _ => 0))))] sz)) 1 6 (va_A [(x, .inr (8, [.ref xs, .ref xp, .int 0, .int 0, .ref xl, .ref xr])), (xs, .inl (cS, 3, .inr (.inr (.inr (.inr (fun _ => none)))))), (xp, .inl (cP, 8, .inr (.inr (.inr (.inr (fun _ => none)))))), (xl, .inr (4, [.ref xn, .ref xm])), (xn, .inl (cn, 64, .inr (.inl (fun _ => 0)))), (xm, .inl (cm, 64, .inr (.inl (fun _ => 0)))), (xr, .inr (6, [.ref xw, .ref xt])), (xw, .inl (cw, 8, .inr (.inl (fun _ => 0)))), (xt, .inl (ct, 8, .inr (.inl (fun _ => 0)))), (o, .inl (cO, 1, .inr (.inl (fun _ => 0))))] sz) := by
  refine ax_MetWH (cc := cL_best) (maxL := 5) (ret := (some .int)) (by decide) rfl ?_
  intro p e s m args below meth c s₁ B hml hv
  obtain ⟨rfl, hsz, hP, hK, hD0, hE⟩ := hv
  have hx := B.exec
  have hb := B.bytes
  have hr := B.returns
  have hts := atoms_spec (ws := wl_best) B.pre
  have hown : s.vm.findClass RL = some m.cls := findClass_of_methodNamed B.named
  have hlocks := B.notSynchronized
  have htab := vx_table (x := yL_best) B (hts _ List.mem_cons_self)
  subst hsz
  have hD := hD0.self (sz := s.heap.size)
  generalize hAe : va_A [(x, .inr (8, [.ref xs, .ref xp, .int 0, .int 0, .ref xl, .ref xr])), (xs, .inl (cS, 3, .inr (.inr (.inr (.inr (fun _ => none)))))), (xp, .inl (cP, 8, .inr (.inr (.inr (.inr (fun _ => none)))))), (xl, .inr (4, [.ref xn, .ref xm])), (xn, .inl (cn, 64, .inr (.inl (fun _ => 0)))), (xm, .inl (cm, 64, .inr (.inl (fun _ => 0)))), (xr, .inr (6, [.ref xw, .ref xt])), (xw, .inl (cw, 8, .inr (.inl (fun _ => 0)))), (xt, .inl (ct, 8, .inr (.inl (fun _ => 0)))), (o, .inl (cO, 1, .inr (.inl (fun _ => 0))))] s.heap.size = A at hD hE ⊢
  have hA : ∀ q : Nat, s.heap.size ≤ q → A q := fun q h => by rw [← hAe]; exact Or.inr h
  have hS : va_S A s.heap s.heap [] := va_S.rf
  have hl := lv_entry ([.ref x, .int p1, .int p2, .ref o]) (n := 5) (Nat.le_of_ble_eq_true rfl)
  rw [lg_entry_eq]
  generalize (lg_sl ([.ref x, .int p1, .int p2, .ref o]) ++ List.replicate (5 - (lg_sl ([.ref x, .int p1, .int p2, .ref o])).length) Slot.unset).toArray = ls at hl ⊢
  have hl : lv_has ls 5 [(0, .ref x), (1, .int p1), (2, .int p2), (3, .ref o)] := hl
  have hP : va_P (dC, dI) vwCl [(x, .inr (8, [.ref xs, .ref xp, .int 0, .int 0, .ref xl, .ref xr])), (xs, .inl (cS, 3, .inr (.inr (.inr (.inr (fun _ => none)))))), (xp, .inl (cP, 8, .inr (.inr (.inr (.inr (fun _ => none)))))), (xl, .inr (4, [.ref xn, .ref xm])), (xn, .inl (cn, 64, .inr (.inl (fun _ => 0)))), (xm, .inl (cm, 64, .inr (.inl (fun _ => 0)))), (xr, .inr (6, [.ref xw, .ref xt])), (xw, .inl (cw, 8, .inr (.inl (fun _ => 0)))), (xt, .inl (ct, 8, .inr (.inl (fun _ => 0)))), (o, .inl (cO, 1, .inr (.inl (fun _ => 0))))] s.heap := hP
  refine lv_aload_n hx hb dL_best_0 rfl (lv_at hl 3 rfl) ?_
  refine lv_iconst (v := 0) hx hb dL_best_1 (by decide) ?_
  refine lv_aload_n hx hb dL_best_2 rfl (lv_at hl 0 rfl) ?_
  refine lv_iload_n hx hb dL_best_3 rfl (lv_at hl 1 rfl) ?_
  refine lv_iload_n hx hb dL_best_4 rfl (lv_at hl 2 rfl) ?_
  have hPc := hP.sub (ws' := [(x, .inr (8, [.ref xs, .ref xp, .int 0, .int 0, .ref xl, .ref xr])), (xs, .inl (cS, 3, .inr (.inr (.inr (.inr (fun _ => none)))))), (xp, .inl (cP, 8, .inr (.inr (.inr (.inr (fun _ => none)))))), (xl, .inr (4, [.ref xn, .ref xm])), (xn, .inl (cn, 64, .inr (.inl (fun _ => 0)))), (xm, .inl (cm, 64, .inr (.inl (fun _ => 0)))), (xr, .inr (6, [.ref xw, .ref xt])), (xw, .inl (cw, 8, .inr (.inl (fun _ => 0)))), (xt, .inl (ct, 8, .inr (.inl (fun _ => 0))))]) [0, 1, 2, 3, 4, 5, 6, 7, 8] rfl
  have hKc := hK.sub (tys' := [(cS, .object "Diffractory$Source"), (cP, .object "Diffractory$Part"), (cn, .long), (cm, .long), (cw, .long), (ct, .long)]) [0, 1, 2, 3, 4, 5] rfl
  refine vx_calli (vx_runV (As := [.int p1, .int p2]) (rest := [.int 0, .ref o]) ⟨hx, hb, hml, hown, hts⟩ (c_X4_best l hlt dC dI x xs xp xl xn xm xr xw xt cS cP cn cm cw ct sa ta p1 p2) (cwV 2 hts gw_best rfl rfl rfl (by decide +kernel) ⟨Nat.le_of_ble_eq_true rfl, Nat.le_of_ble_eq_true rfl⟩) ⟨ax_fbR, va_recv hK hP (ci := 8) (q0 := 0) rfl rfl, ax_prR hPc hKc hS hE⟩ rfl rfl hl.1 rfl (lv_room (Nat.le_of_ble_eq_true rfl)) dL_best_5 ⟨Nat.le_of_ble_eq_true rfl, Nat.le_of_ble_eq_true rfl⟩) hS (fun _ _ h9 => h9.elim) (fun _ h9 => h9.elim) (fun _ _ h9 => h9.elim) (fun E9 ce9 q9 u9 t H locs ht hvm hw9 hB hz1 hk1 hS hce hcv hcl => ?_) (fun r_1 u_3  t H locs ht hvm hw_2 hB hz1 hk1 hS => ?_)
  · subst hB
    have hP := ax_keep hP (fun _ h9 => h9) hk1
    have hP : va_P (dC, dI) vwCl [(x, .inr (8, [.ref xs, .ref xp, .int 0, .int 0, .ref xl, .ref xr])), (xs, .inl (cS, 3, .inr (.inr (.inr (.inr (fun _ => none)))))), (xp, .inl (cP, 8, .inr (.inr (.inr (.inr (fun _ => none)))))), (xl, .inr (4, [.ref xn, .ref xm])), (xn, .inl (cn, 64, .inr (.inl (fun _ => 0)))), (xm, .inl (cm, 64, .inr (.inl (fun _ => 0)))), (xr, .inr (6, [.ref xw, .ref xt])), (xw, .inl (cw, 8, .inr (.inl (fun _ => 0)))), (xt, .inl (ct, 8, .inr (.inl (fun _ => 0)))), (o, .inl (cO, 1, .inr (.inl (fun _ => 0))))] H := hP
    have hD : va_D A [(x, .inr (8, [.ref xs, .ref xp, .int 0, .int 0, .ref xl, .ref xr])), (xs, .inl (cS, 3, .inr (.inr (.inr (.inr (fun _ => none)))))), (xp, .inl (cP, 8, .inr (.inr (.inr (.inr (fun _ => none)))))), (xl, .inr (4, [.ref xn, .ref xm])), (xn, .inl (cn, 64, .inr (.inl (fun _ => 0)))), (xm, .inl (cm, 64, .inr (.inl (fun _ => 0)))), (xr, .inr (6, [.ref xw, .ref xt])), (xw, .inl (cw, 8, .inr (.inl (fun _ => 0)))), (xt, .inl (ct, 8, .inr (.inl (fun _ => 0)))), (o, .inl (cO, 1, .inr (.inl (fun _ => 0))))] := hD
    refine vx_catch (name := "java/lang/IndexOutOfBoundsException") hown [] ⟨0, 10, 13, 21⟩ [] (htab.trans rfl) (fun z h9 => nomatch h9) (by decide) (by decide) (hts (.classLink RL 21 "java/lang/IndexOutOfBoundsException") (by decide +kernel)) (va_Nw.use rfl hE.c2) hce hcv hcl ?_
    refine lv_astore (lv' := [(4, .ref q9), (0, .ref x), (1, .int p1), (2, .int p2), (3, .ref o)]) hx hb dL_best_13 hl (by decide) rfl (fun ls hl => ?_)
    refine lv_iconst (v := 1) hx hb dL_best_15 (by decide) ?_
    refine W.widen (k := 1) (n := 6) (Nat.le_of_ble_eq_true rfl) (Nat.le_of_ble_eq_true rfl) ?_
    have hP9 := hP.sub (ws' := [(o, .inl (cO, 1, .inr (.inl (fun _ => 0))))]) [9] rfl
    have hD9 := hD.sub (ws' := [(o, .inl (cO, 1, .inr (.inl (fun _ => 0))))]) [9] (by decide) rfl
    have hK9 := hK.sub (tys' := [(cO, .long)]) [6] rfl
    exact W.iret (v := 1) hx hb hr (fun t ht hW => ⟨⟨1, (fun _ => 0), rfl, rfl, by rw [ht]; exact hP9, va_K.moved hW.alike hK9, hD9⟩, hS.F ht⟩) hS.2.2 dL_best_16
  · have hP := ax_keep hP (fun _ h9 => h9) hk1
    exact hw_2.elim

set_option maxHeartbeats 4000000 in
set_option maxRecDepth 100000 in
theorem c_L_alone (l : Launch) (hlt : l.stackTraces = false) (dC : Nat → ClassId) (dI : Nat → Nat → Nat) (x xs xp xl xn xm xr xw xt o : Nat) (cS cP cn cm cw ct cO : ClassId) (sa ta : Nat → Nat) (sz : Nat) (p1 : Int32) : Met l yL_alone wl_alone ({ frames := 24, cells := 1, slots := 6, locals := 600 }) (va_Pc [.ref x, .int p1, .ref o] (ax_W (dC, dI) vwCl [(x, .inr (8, [.ref xs, .ref xp, .int 0, .int 0, .ref xl, .ref xr])), (xs, .inl (cS, 3, .inr (.inr (.inr (.inr (fun _ => none)))))), (xp, .inl (cP, 8, .inr (.inr (.inr (.inr (fun _ => none)))))), (xl, .inr (4, [.ref xn, .ref xm])), (xn, .inl (cn, 64, .inr (.inl (fun _ => 0)))), (xm, .inl (cm, 64, .inr (.inl (fun _ => 0)))), (xr, .inr (6, [.ref xw, .ref xt])), (xw, .inl (cw, 8, .inr (.inl (fun _ => 0)))), (xt, .inl (ct, 8, .inr (.inl (fun _ => 0)))), (o, .inl (cO, 1, .inr (.inl (fun _ => 0))))] [(cS, .object "Diffractory$Source"), (cP, .object "Diffractory$Part"), (cn, .long), (cm, .long), (cw, .long), (ct, .long), (cO, .long)] sa ta sz)) (va_Qi (fun (r : Int32) (u : Nat → Int64) => r = 1) (fun (u : Nat → Int64) (t : State) => va_P (dC, dI) vwCl [(o, .inl (cO, 1, .inr (.inl u)))] t.heap ∧ va_K (dC, dI) vwCl [(cO, .long)] t ∧ va_D (va_A [(x, .inr (8, [.ref xs, .ref xp, .int 0, .int 0, .ref xl, .ref xr])), (xs, .inl (cS, 3, .inr (.inr (.inr (.inr (fun _ => none)))))), (xp, .inl (cP, 8, .inr (.inr (.inr (.inr (fun _ => none)))))), (xl, .inr (4, [.ref xn, .ref xm])), (xn, .inl (cn, 64, .inr (.inl (fun _ => 0)))), (xm, .inl (cm, 64, .inr (.inl (fun _ => 0)))), (xr, .inr (6, [.ref xw, .ref xt])), (xw, .inl (cw, 8, .inr (.inl (fun _ => 0)))), (xt, .inl (ct, 8, .inr (.inl (fun _ => 0)))), (o, .inl (cO, 1, .inr (.inl (fun _ => 0))))] sz) [(o, .inl (cO, 1, .inr (.inl u)))]) (va_A [(x, .inr (8, [.ref xs, .ref xp, .int 0, .int 0, .ref xl, .ref xr])), (xs, .inl (cS, 3, .inr (.inr (.inr (.inr (fun _ => none)))))), (xp, .inl (cP, 8, .inr (.inr (.inr (.inr (fun _ => none)))))), (xl, .inr (4, [.ref xn, .ref xm])), (xn, .inl (cn, 64, .inr (.inl (fun _ => 0)))), (xm, .inl (cm, 64, .inr (.inl (fun _ => 0)))), (xr, .inr (6, [.ref xw, .ref xt])), (xw, .inl (cw, 8, .inr (.inl (fun _ => 0)))), (xt, .inl (ct, 8, .inr (.inl (fun _ => 0)))), (o, .inl (cO, 1, .inr (.inl (fun _ => 0))))] sz)) 1 6 (va_A [(x, .inr (8, [.ref xs, .ref xp, .int 0, .int 0, .ref xl, .ref xr])), (xs, .inl (cS, 3, .inr (.inr (.inr (.inr (fun _ => none)))))), (xp, .inl (cP, 8, .inr (.inr (.inr (.inr (fun _ => none)))))), (xl, .inr (4, [.ref xn, .ref xm])), (xn, .inl (cn, 64, .inr (.inl (fun _ => 0)))), (xm, .inl (cm, 64, .inr (.inl (fun _ => 0)))), (xr, .inr (6, [.ref xw, .ref xt])), (xw, .inl (cw, 8, .inr (.inl (fun _ => 0)))), (xt, .inl (ct, 8, .inr (.inl (fun _ => 0)))), (o, .inl (cO, 1, .inr (.inl (fun _ => 0))))] sz) := by
  refine ax_MetWH (cc := cL_alone) (maxL := 4) (ret := (some .int)) (by decide) rfl ?_
  intro p e s m args below meth c s₁ B hml hv
  obtain ⟨rfl, hsz, hP, hK, hD0, hE⟩ := hv
  have hx := B.exec
  have hb := B.bytes
  have hr := B.returns
  have hts := atoms_spec (ws := wl_alone) B.pre
  have hown : s.vm.findClass RL = some m.cls := findClass_of_methodNamed B.named
  have hlocks := B.notSynchronized
  have htab := vx_table (x := yL_alone) B (hts _ List.mem_cons_self)
  subst hsz
  have hD := hD0.self (sz := s.heap.size)
  generalize hAe : va_A [(x, .inr (8, [.ref xs, .ref xp, .int 0, .int 0, .ref xl, .ref xr])), (xs, .inl (cS, 3, .inr (.inr (.inr (.inr (fun _ => none)))))), (xp, .inl (cP, 8, .inr (.inr (.inr (.inr (fun _ => none)))))), (xl, .inr (4, [.ref xn, .ref xm])), (xn, .inl (cn, 64, .inr (.inl (fun _ => 0)))), (xm, .inl (cm, 64, .inr (.inl (fun _ => 0)))), (xr, .inr (6, [.ref xw, .ref xt])), (xw, .inl (cw, 8, .inr (.inl (fun _ => 0)))), (xt, .inl (ct, 8, .inr (.inl (fun _ => 0)))), (o, .inl (cO, 1, .inr (.inl (fun _ => 0))))] s.heap.size = A at hD hE ⊢
  have hA : ∀ q : Nat, s.heap.size ≤ q → A q := fun q h => by rw [← hAe]; exact Or.inr h
  have hS : va_S A s.heap s.heap [] := va_S.rf
  have hl := lv_entry ([.ref x, .int p1, .ref o]) (n := 4) (Nat.le_of_ble_eq_true rfl)
  rw [lg_entry_eq]
  generalize (lg_sl ([.ref x, .int p1, .ref o]) ++ List.replicate (4 - (lg_sl ([.ref x, .int p1, .ref o])).length) Slot.unset).toArray = ls at hl ⊢
  have hl : lv_has ls 4 [(0, .ref x), (1, .int p1), (2, .ref o)] := hl
  have hP : va_P (dC, dI) vwCl [(x, .inr (8, [.ref xs, .ref xp, .int 0, .int 0, .ref xl, .ref xr])), (xs, .inl (cS, 3, .inr (.inr (.inr (.inr (fun _ => none)))))), (xp, .inl (cP, 8, .inr (.inr (.inr (.inr (fun _ => none)))))), (xl, .inr (4, [.ref xn, .ref xm])), (xn, .inl (cn, 64, .inr (.inl (fun _ => 0)))), (xm, .inl (cm, 64, .inr (.inl (fun _ => 0)))), (xr, .inr (6, [.ref xw, .ref xt])), (xw, .inl (cw, 8, .inr (.inl (fun _ => 0)))), (xt, .inl (ct, 8, .inr (.inl (fun _ => 0)))), (o, .inl (cO, 1, .inr (.inl (fun _ => 0))))] s.heap := hP
  refine lv_aload_n hx hb dL_alone_0 rfl (lv_at hl 2 rfl) ?_
  refine lv_iconst (v := 0) hx hb dL_alone_1 (by decide) ?_
  refine lv_aload_n hx hb dL_alone_2 rfl (lv_at hl 0 rfl) ?_
  refine lv_iload_n hx hb dL_alone_3 rfl (lv_at hl 1 rfl) ?_
  have hPc := hP.sub (ws' := [(x, .inr (8, [.ref xs, .ref xp, .int 0, .int 0, .ref xl, .ref xr])), (xs, .inl (cS, 3, .inr (.inr (.inr (.inr (fun _ => none)))))), (xp, .inl (cP, 8, .inr (.inr (.inr (.inr (fun _ => none)))))), (xl, .inr (4, [.ref xn, .ref xm])), (xn, .inl (cn, 64, .inr (.inl (fun _ => 0)))), (xm, .inl (cm, 64, .inr (.inl (fun _ => 0)))), (xr, .inr (6, [.ref xw, .ref xt])), (xw, .inl (cw, 8, .inr (.inl (fun _ => 0)))), (xt, .inl (ct, 8, .inr (.inl (fun _ => 0))))]) [0, 1, 2, 3, 4, 5, 6, 7, 8] rfl
  have hKc := hK.sub (tys' := [(cS, .object "Diffractory$Source"), (cP, .object "Diffractory$Part"), (cn, .long), (cm, .long), (cw, .long), (ct, .long)]) [0, 1, 2, 3, 4, 5] rfl
  refine vx_calli (vx_runV (As := [.int p1]) (rest := [.int 0, .ref o]) ⟨hx, hb, hml, hown, hts⟩ (c_X4_alone l hlt dC dI x xs xp xl xn xm xr xw xt cS cP cn cm cw ct sa ta p1) (cwV 1 hts gw_alone rfl rfl rfl (by decide +kernel) ⟨Nat.le_of_ble_eq_true rfl, Nat.le_of_ble_eq_true rfl⟩) ⟨ax_fbR, va_recv hK hP (ci := 8) (q0 := 0) rfl rfl, ax_prR hPc hKc hS hE⟩ rfl rfl hl.1 rfl (lv_room (Nat.le_of_ble_eq_true rfl)) dL_alone_4 ⟨Nat.le_of_ble_eq_true rfl, Nat.le_of_ble_eq_true rfl⟩) hS (fun _ _ h9 => h9.elim) (fun _ h9 => h9.elim) (fun _ _ h9 => h9.elim) (fun E9 ce9 q9 u9 t H locs ht hvm hw9 hB hz1 hk1 hS hce hcv hcl => ?_) (fun r_1 u_3  t H locs ht hvm hw_2 hB hz1 hk1 hS => ?_)
  · subst hB
    have hP := ax_keep hP (fun _ h9 => h9) hk1
    have hP : va_P (dC, dI) vwCl [(x, .inr (8, [.ref xs, .ref xp, .int 0, .int 0, .ref xl, .ref xr])), (xs, .inl (cS, 3, .inr (.inr (.inr (.inr (fun _ => none)))))), (xp, .inl (cP, 8, .inr (.inr (.inr (.inr (fun _ => none)))))), (xl, .inr (4, [.ref xn, .ref xm])), (xn, .inl (cn, 64, .inr (.inl (fun _ => 0)))), (xm, .inl (cm, 64, .inr (.inl (fun _ => 0)))), (xr, .inr (6, [.ref xw, .ref xt])), (xw, .inl (cw, 8, .inr (.inl (fun _ => 0)))), (xt, .inl (ct, 8, .inr (.inl (fun _ => 0)))), (o, .inl (cO, 1, .inr (.inl (fun _ => 0))))] H := hP
    have hD : va_D A [(x, .inr (8, [.ref xs, .ref xp, .int 0, .int 0, .ref xl, .ref xr])), (xs, .inl (cS, 3, .inr (.inr (.inr (.inr (fun _ => none)))))), (xp, .inl (cP, 8, .inr (.inr (.inr (.inr (fun _ => none)))))), (xl, .inr (4, [.ref xn, .ref xm])), (xn, .inl (cn, 64, .inr (.inl (fun _ => 0)))), (xm, .inl (cm, 64, .inr (.inl (fun _ => 0)))), (xr, .inr (6, [.ref xw, .ref xt])), (xw, .inl (cw, 8, .inr (.inl (fun _ => 0)))), (xt, .inl (ct, 8, .inr (.inl (fun _ => 0)))), (o, .inl (cO, 1, .inr (.inl (fun _ => 0))))] := hD
    refine vx_catch (name := "java/lang/IndexOutOfBoundsException") hown [] ⟨0, 9, 12, 21⟩ [] (htab.trans rfl) (fun z h9 => nomatch h9) (by decide) (by decide) (hts (.classLink RL 21 "java/lang/IndexOutOfBoundsException") (by decide +kernel)) (va_Nw.use rfl hE.c2) hce hcv hcl ?_
    refine lv_astore_n (lv' := [(3, .ref q9), (0, .ref x), (1, .int p1), (2, .ref o)]) hx hb dL_alone_12 rfl hl (by decide) rfl (fun ls hl => ?_)
    refine lv_iconst (v := 1) hx hb dL_alone_13 (by decide) ?_
    refine W.widen (k := 1) (n := 6) (Nat.le_of_ble_eq_true rfl) (Nat.le_of_ble_eq_true rfl) ?_
    have hP9 := hP.sub (ws' := [(o, .inl (cO, 1, .inr (.inl (fun _ => 0))))]) [9] rfl
    have hD9 := hD.sub (ws' := [(o, .inl (cO, 1, .inr (.inl (fun _ => 0))))]) [9] (by decide) rfl
    have hK9 := hK.sub (tys' := [(cO, .long)]) [6] rfl
    exact W.iret (v := 1) hx hb hr (fun t ht hW => ⟨⟨1, (fun _ => 0), rfl, rfl, by rw [ht]; exact hP9, va_K.moved hW.alike hK9, hD9⟩, hS.F ht⟩) hS.2.2 dL_alone_14
  · have hP := ax_keep hP (fun _ h9 => h9) hk1
    exact hw_2.elim
