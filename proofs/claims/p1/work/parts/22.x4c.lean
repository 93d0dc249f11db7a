set_option maxHeartbeats 4000000 in
set_option maxRecDepth 100000 in
theorem c_X4_move (l : Launch) (hlt : l.stackTraces = false) (dC : Nat → ClassId) (dI : Nat → Nat → Nat) (x xs xp xl xn xm xr xw xt : Nat) (cS cP cn cm cw ct : ClassId) (sa ta : Nat → Nat) (p0 : Int32) (p1 : Int32) (p2 : Int32) (p3 : Int32) : vx_Met l yX4_move wsX4_move ({ frames := 16, cells := 1, slots := 6, locals := 400 }) (va_Pc [.ref x, .int p0, .int p1, .int p2, .int p3] (ax_R (dC, dI) vwCl [(x, .inr (8, [.ref xs, .ref xp, .int 0, .int 0, .ref xl, .ref xr])), (xs, .inl (cS, 3, .inr (.inr (.inr (.inr (fun _ => none)))))), (xp, .inl (cP, 8, .inr (.inr (.inr (.inr (fun _ => none)))))), (xl, .inr (4, [.ref xn, .ref xm])), (xn, .inl (cn, 64, .inr (.inl (fun _ => 0)))), (xm, .inl (cm, 64, .inr (.inl (fun _ => 0)))), (xr, .inr (6, [.ref xw, .ref xt])), (xw, .inl (cw, 8, .inr (.inl (fun _ => 0)))), (xt, .inl (ct, 8, .inr (.inl (fun _ => 0))))] [(cS, .object "Diffractory$Source"), (cP, .object "Diffractory$Part"), (cn, .long), (cm, .long), (cw, .long), (ct, .long)] sa ta)) (va_Qi (fun (r : Int32) (u : Unit) => False) (fun _ _ => True) ax_no) (vx_X (fun _ : Unit => True) (fun E _ _ => E = "java/lang/IndexOutOfBoundsException") ax_no) 1 6 ax_no := by
  refine vx_ofW (cc := cX4_move) (maxL := 7) (ret := (some .int)) (by decide) rfl ?_
  intro p e s m args below meth c s₁ B hml hnt hv
  obtain ⟨rfl, hP, hK, hE⟩ := hv
  have hx := B.exec
  have hb := B.bytes
  have hr := B.returns
  have hts := atoms_spec (ws := wsX4_move) B.pre
  have hown : s.vm.findClass RX4 = some m.cls := findClass_of_methodNamed B.named
  have hlocks := B.notSynchronized
  have hS : va_S ax_no s.heap s.heap [] := va_S.rf
  have hl := lv_entry ([.ref x, .int p0, .int p1, .int p2, .int p3]) (n := 7) (Nat.le_of_ble_eq_true rfl)
  rw [lg_entry_eq]
  generalize (lg_sl ([.ref x, .int p0, .int p1, .int p2, .int p3]) ++ List.replicate (7 - (lg_sl ([.ref x, .int p0, .int p1, .int p2, .int p3])).length) Slot.unset).toArray = ls at hl ⊢
  have hl : lv_has ls 7 [(0, .ref x), (1, .int p0), (2, .int p1), (3, .int p2), (4, .int p3)] := hl
  have hP : va_P (dC, dI) vwCl [(x, .inr (8, [.ref xs, .ref xp, .int 0, .int 0, .ref xl, .ref xr])), (xs, .inl (cS, 3, .inr (.inr (.inr (.inr (fun _ => none)))))), (xp, .inl (cP, 8, .inr (.inr (.inr (.inr (fun _ => none)))))), (xl, .inr (4, [.ref xn, .ref xm])), (xn, .inl (cn, 64, .inr (.inl (fun _ => 0)))), (xm, .inl (cm, 64, .inr (.inl (fun _ => 0)))), (xr, .inr (6, [.ref xw, .ref xt])), (xw, .inl (cw, 8, .inr (.inl (fun _ => 0)))), (xt, .inl (ct, 8, .inr (.inl (fun _ => 0))))] s.heap := hP
  refine lv_aload_n hx hb dX4_move_0 rfl (lv_at hl 0 rfl) ?_
  refine lv_iload_n hx hb dX4_move_1 rfl (lv_at hl 1 rfl) ?_
  have hPc := hP.sub (ws' := [(x, .inr (8, [.ref xs, .ref xp, .int 0, .int 0, .ref xl, .ref xr])), (xs, .inl (cS, 3, .inr (.inr (.inr (.inr (fun _ => none)))))), (xp, .inl (cP, 8, .inr (.inr (.inr (.inr (fun _ => none)))))), (xl, .inr (4, [.ref xn, .ref xm])), (xn, .inl (cn, 64, .inr (.inl (fun _ => 0)))), (xm, .inl (cm, 64, .inr (.inl (fun _ => 0)))), (xr, .inr (6, [.ref xw, .ref xt])), (xw, .inl (cw, 8, .inr (.inl (fun _ => 0)))), (xt, .inl (ct, 8, .inr (.inl (fun _ => 0))))]) [0, 1, 2, 3, 4, 5, 6, 7, 8] rfl
  have hKc := hK.sub (tys' := [(cS, .object "Diffractory$Source"), (cP, .object "Diffractory$Part"), (cn, .long), (cm, .long), (cw, .long), (ct, .long)]) [0, 1, 2, 3, 4, 5] rfl
  refine va_callq (va_runV (As := [.int p0]) (rest := []) ⟨hx, hb, hml, hown, hts⟩ (c_X4_sourceAt l dC dI x xs xp xl xn xm xr xw xt cS cP cn cm cw ct sa ta p0) (cwV 1 hts gX4_move_X4_sourceAt rfl rfl rfl (by decide +kernel) ⟨Nat.le_of_ble_eq_true rfl, Nat.le_of_ble_eq_true rfl⟩) ⟨ax_fbR, va_recv hK hP (ci := 8) (q0 := 0) rfl rfl, ax_prR hPc hKc hS hE⟩ rfl rfl hl.1 rfl (lv_room (Nat.le_of_ble_eq_true rfl)) dX4_move_2 ⟨Nat.le_of_ble_eq_true rfl, Nat.le_of_ble_eq_true rfl⟩) hS (fun _ _ h9 => h9.elim) (fun _ h9 => h9.elim) (fun r_1 u_3  t H locs ht hvm hw_2 hB hz1 hk1 hS => ?_)
  have hP := ax_keep hP (fun _ h9 => h9) hk1
  subst hw_2
  refine W.eq (g2 := F0 m 5 ls [.null]) rfl ?_
  refine lv_astoreN (lv' := [(5, .null), (0, .ref x), (1, .int p0), (2, .int p1), (3, .int p2), (4, .int p3)]) hx hb dX4_move_5 hl (by decide) rfl (fun ls hl => ?_)
  refine lv_aloadN hx hb dX4_move_7 (lv_at hl 0 rfl) ?_
  refine lv_ifnonnullN hx hb dX4_move_9 ?_
  exact vx_throwS hx hb hlt (own := RX4) (cls := "java/lang/IndexOutOfBoundsException") (names := ["java/lang/RuntimeException", "java/lang/Exception"]) hown (by decide +kernel) (by decide +kernel) (hts (.classLink RX4 59 "java/lang/IndexOutOfBoundsException") (by decide +kernel)) (hts (.initialized "java/lang/IndexOutOfBoundsException") (by decide +kernel)) hE.s61 (ax_hat63 hE (fun w h9 => hts w (by first | exact List.mem_cons_of_mem _ (List.mem_append_right _ h9) | exact List.mem_cons_of_mem _ (List.mem_append_left _ (List.mem_append_right _ h9)) | exact List.mem_cons_of_mem _ (List.mem_append_left _ (List.mem_append_left _ (List.mem_append_right _ h9))) | exact List.mem_cons_of_mem _ (List.mem_append_left _ (List.mem_append_left _ (List.mem_append_left _ (List.mem_append_right _ h9)))) | exact List.mem_cons_of_mem _ (List.mem_append_left _ (List.mem_append_left _ (List.mem_append_left _ (List.mem_append_left _ (List.mem_append_right _ h9)))))))) ax_gd63 hE.zU hE.zN hS (hl.1.trans hml.symm) dX4_move_12 dX4_move_15 dX4_move_16 dX4_move_18 dX4_move_21 (fun x h9 => (hnt x h9).elim) (Nat.le_of_ble_eq_true rfl) (Nat.le_of_ble_eq_true rfl) (Nat.le_of_ble_eq_true rfl) (Nat.le_of_ble_eq_true rfl) hlocks (fun t hal hz1 hk1 => ⟨(), by first | trivial | omega, rfl, ax_vaF hS hz1 hk1⟩) hS.2.2 (Nat.le_of_ble_eq_true rfl) (Nat.le_of_ble_eq_true rfl)

set_option maxHeartbeats 4000000 in
set_option maxRecDepth 100000 in
theorem c_X4_set (l : Launch) (hlt : l.stackTraces = false) (dC : Nat → ClassId) (dI : Nat → Nat → Nat) (x xs xp xl xn xm xr xw xt : Nat) (cS cP cn cm cw ct : ClassId) (sa ta : Nat → Nat) (p0 : Int32) (p1 : Int32) : vx_Met l yX4_set wsX4_set ({ frames := 16, cells := 1, slots := 6, locals := 400 }) (va_Pc [.ref x, .int p0, .int p1] (ax_R (dC, dI) vwCl [(x, .inr (8, [.ref xs, .ref xp, .int 0, .int 0, .ref xl, .ref xr])), (xs, .inl (cS, 3, .inr (.inr (.inr (.inr (fun _ => none)))))), (xp, .inl (cP, 8, .inr (.inr (.inr (.inr (fun _ => none)))))), (xl, .inr (4, [.ref xn, .ref xm])), (xn, .inl (cn, 64, .inr (.inl (fun _ => 0)))), (xm, .inl (cm, 64, .inr (.inl (fun _ => 0)))), (xr, .inr (6, [.ref xw, .ref xt])), (xw, .inl (cw, 8, .inr (.inl (fun _ => 0)))), (xt, .inl (ct, 8, .inr (.inl (fun _ => 0))))] [(cS, .object "Diffractory$Source"), (cP, .object "Diffractory$Part"), (cn, .long), (cm, .long), (cw, .long), (ct, .long)] sa ta)) (va_Qi (fun (r : Int32) (u : Unit) => False) (fun _ _ => True) ax_no) (vx_X (fun _ : Unit => True) (fun E _ _ => E = "java/lang/IndexOutOfBoundsException") ax_no) 1 6 ax_no := by
  refine vx_ofW (cc := cX4_set) (maxL := 5) (ret := (some .int)) (by decide) rfl ?_
  intro p e s m args below meth c s₁ B hml hnt hv
  obtain ⟨rfl, hP, hK, hE⟩ := hv
  have hx := B.exec
  have hb := B.bytes
  have hr := B.returns
  have hts := atoms_spec (ws := wsX4_set) B.pre
  have hown : s.vm.findClass RX4 = some m.cls := findClass_of_methodNamed B.named
  have hlocks := B.notSynchronized
  have hS : va_S ax_no s.heap s.heap [] := va_S.rf
  have hl := lv_entry ([.ref x, .int p0, .int p1]) (n := 5) (Nat.le_of_ble_eq_true rfl)
  rw [lg_entry_eq]
  generalize (lg_sl ([.ref x, .int p0, .int p1]) ++ List.replicate (5 - (lg_sl ([.ref x, .int p0, .int p1])).length) Slot.unset).toArray = ls at hl ⊢
  have hl : lv_has ls 5 [(0, .ref x), (1, .int p0), (2, .int p1)] := hl
  have hP : va_P (dC, dI) vwCl [(x, .inr (8, [.ref xs, .ref xp, .int 0, .int 0, .ref xl, .ref xr])), (xs, .inl (cS, 3, .inr (.inr (.inr (.inr (fun _ => none)))))), (xp, .inl (cP, 8, .inr (.inr (.inr (.inr (fun _ => none)))))), (xl, .inr (4, [.ref xn, .ref xm])), (xn, .inl (cn, 64, .inr (.inl (fun _ => 0)))), (xm, .inl (cm, 64, .inr (.inl (fun _ => 0)))), (xr, .inr (6, [.ref xw, .ref xt])), (xw, .inl (cw, 8, .inr (.inl (fun _ => 0)))), (xt, .inl (ct, 8, .inr (.inl (fun _ => 0))))] s.heap := hP
  refine lv_aload_n hx hb dX4_set_0 rfl (lv_at hl 0 rfl) ?_
  refine lv_iload_n hx hb dX4_set_1 rfl (lv_at hl 1 rfl) ?_
  have hPc := hP.sub (ws' := [(x, .inr (8, [.ref xs, .ref xp, .int 0, .int 0, .ref xl, .ref xr])), (xs, .inl (cS, 3, .inr (.inr (.inr (.inr (fun _ => none)))))), (xp, .inl (cP, 8, .inr (.inr (.inr (.inr (fun _ => none)))))), (xl, .inr (4, [.ref xn, .ref xm])), (xn, .inl (cn, 64, .inr (.inl (fun _ => 0)))), (xm, .inl (cm, 64, .inr (.inl (fun _ => 0)))), (xr, .inr (6, [.ref xw, .ref xt])), (xw, .inl (cw, 8, .inr (.inl (fun _ => 0)))), (xt, .inl (ct, 8, .inr (.inl (fun _ => 0))))]) [0, 1, 2, 3, 4, 5, 6, 7, 8] rfl
  have hKc := hK.sub (tys' := [(cS, .object "Diffractory$Source"), (cP, .object "Diffractory$Part"), (cn, .long), (cm, .long), (cw, .long), (ct, .long)]) [0, 1, 2, 3, 4, 5] rfl
  refine va_callq (va_runV (As := [.int p0]) (rest := []) ⟨hx, hb, hml, hown, hts⟩ (c_X4_partAt l dC dI x xs xp xl xn xm xr xw xt cS cP cn cm cw ct sa ta p0) (cwV 1 hts gX4_set_X4_partAt rfl rfl rfl (by decide +kernel) ⟨Nat.le_of_ble_eq_true rfl, Nat.le_of_ble_eq_true rfl⟩) ⟨ax_fbR, va_recv hK hP (ci := 8) (q0 := 0) rfl rfl, ax_prR hPc hKc hS hE⟩ rfl rfl hl.1 rfl (lv_room (Nat.le_of_ble_eq_true rfl)) dX4_set_2 ⟨Nat.le_of_ble_eq_true rfl, Nat.le_of_ble_eq_true rfl⟩) hS (fun _ _ h9 => h9.elim) (fun _ h9 => h9.elim) (fun r_1 u_3  t H locs ht hvm hw_2 hB hz1 hk1 hS => ?_)
  have hP := ax_keep hP (fun _ h9 => h9) hk1
  subst hw_2
  refine W.eq (g2 := F0 m 5 ls [.null]) rfl ?_
  refine lv_astore_nN (lv' := [(3, .null), (0, .ref x), (1, .int p0), (2, .int p1)]) hx hb dX4_set_5 rfl hl (by decide) rfl (fun ls hl => ?_)
  refine lv_aload_nN hx hb dX4_set_6 rfl (lv_at hl 0 rfl) ?_
  refine lv_ifnonnullN hx hb dX4_set_7 ?_
  exact vx_throwS hx hb hlt (own := RX4) (cls := "java/lang/IndexOutOfBoundsException") (names := ["java/lang/RuntimeException", "java/lang/Exception"]) hown (by decide +kernel) (by decide +kernel) (hts (.classLink RX4 59 "java/lang/IndexOutOfBoundsException") (by decide +kernel)) (hts (.initialized "java/lang/IndexOutOfBoundsException") (by decide +kernel)) hE.s91 (ax_hat63 hE (fun w h9 => hts w (by first | exact List.mem_cons_of_mem _ (List.mem_append_right _ h9) | exact List.mem_cons_of_mem _ (List.mem_append_left _ (List.mem_append_right _ h9)) | exact List.mem_cons_of_mem _ (List.mem_append_left _ (List.mem_append_left _ (List.mem_append_right _ h9))) | exact List.mem_cons_of_mem _ (List.mem_append_left _ (List.mem_append_left _ (List.mem_append_left _ (List.mem_append_right _ h9)))) | exact List.mem_cons_of_mem _ (List.mem_append_left _ (List.mem_append_left _ (List.mem_append_left _ (List.mem_append_left _ (List.mem_append_right _ h9)))))))) ax_gd63 hE.zU hE.zN hS (hl.1.trans hml.symm) dX4_set_10 dX4_set_13 dX4_set_14 dX4_set_16 dX4_set_19 (fun x h9 => (hnt x h9).elim) (Nat.le_of_ble_eq_true rfl) (Nat.le_of_ble_eq_true rfl) (Nat.le_of_ble_eq_true rfl) (Nat.le_of_ble_eq_true rfl) hlocks (fun t hal hz1 hk1 => ⟨(), by first | trivial | omega, rfl, ax_vaF hS hz1 hk1⟩) hS.2.2 (Nat.le_of_ble_eq_true rfl) (Nat.le_of_ble_eq_true rfl)

set_option maxHeartbeats 4000000 in
set_option maxRecDepth 100000 in
theorem c_X4_put (l : Launch) (hlt : l.stackTraces = false) (dC : Nat → ClassId) (dI : Nat → Nat → Nat) (x xs xp xl xn xm xr xw xt : Nat) (cS cP cn cm cw ct : ClassId) (sa ta : Nat → Nat) (p0 : Int32) (p1 : Int32) : vx_Met l yX4_put wsX4_put ({ frames := 16, cells := 1, slots := 6, locals := 400 }) (va_Pc [.ref x, .int p0, .int p1] (ax_R (dC, dI) vwCl [(x, .inr (8, [.ref xs, .ref xp, .int 0, .int 0, .ref xl, .ref xr])), (xs, .inl (cS, 3, .inr (.inr (.inr (.inr (fun _ => none)))))), (xp, .inl (cP, 8, .inr (.inr (.inr (.inr (fun _ => none)))))), (xl, .inr (4, [.ref xn, .ref xm])), (xn, .inl (cn, 64, .inr (.inl (fun _ => 0)))), (xm, .inl (cm, 64, .inr (.inl (fun _ => 0)))), (xr, .inr (6, [.ref xw, .ref xt])), (xw, .inl (cw, 8, .inr (.inl (fun _ => 0)))), (xt, .inl (ct, 8, .inr (.inl (fun _ => 0))))] [(cS, .object "Diffractory$Source"), (cP, .object "Diffractory$Part"), (cn, .long), (cm, .long), (cw, .long), (ct, .long)] sa ta)) (va_Qi (fun (r : Int32) (u : Unit) => False) (fun _ _ => True) ax_no) (vx_X (fun _ : Unit => True) (fun E _ _ => E = "java/lang/IndexOutOfBoundsException") ax_no) 1 6 ax_no := by
  refine vx_ofW (cc := cX4_put) (maxL := 5) (ret := (some .boolean)) (by decide) rfl ?_
  intro p e s m args below meth c s₁ B hml hnt hv
  obtain ⟨rfl, hP, hK, hE⟩ := hv
  have hx := B.exec
  have hb := B.bytes
  have hr := B.returns
  have hts := atoms_spec (ws := wsX4_put) B.pre
  have hown : s.vm.findClass RX4 = some m.cls := findClass_of_methodNamed B.named
  have hlocks := B.notSynchronized
  have hS : va_S ax_no s.heap s.heap [] := va_S.rf
  have hl := lv_entry ([.ref x, .int p0, .int p1]) (n := 5) (Nat.le_of_ble_eq_true rfl)
  rw [lg_entry_eq]
  generalize (lg_sl ([.ref x, .int p0, .int p1]) ++ List.replicate (5 - (lg_sl ([.ref x, .int p0, .int p1])).length) Slot.unset).toArray = ls at hl ⊢
  have hl : lv_has ls 5 [(0, .ref x), (1, .int p0), (2, .int p1)] := hl
  have hP : va_P (dC, dI) vwCl [(x, .inr (8, [.ref xs, .ref xp, .int 0, .int 0, .ref xl, .ref xr])), (xs, .inl (cS, 3, .inr (.inr (.inr (.inr (fun _ => none)))))), (xp, .inl (cP, 8, .inr (.inr (.inr (.inr (fun _ => none)))))), (xl, .inr (4, [.ref xn, .ref xm])), (xn, .inl (cn, 64, .inr (.inl (fun _ => 0)))), (xm, .inl (cm, 64, .inr (.inl (fun _ => 0)))), (xr, .inr (6, [.ref xw, .ref xt])), (xw, .inl (cw, 8, .inr (.inl (fun _ => 0)))), (xt, .inl (ct, 8, .inr (.inl (fun _ => 0))))] s.heap := hP
  refine lv_aload_n hx hb dX4_put_0 rfl (lv_at hl 0 rfl) ?_
  refine lv_iload_n hx hb dX4_put_1 rfl (lv_at hl 1 rfl) ?_
  have hPc := hP.sub (ws' := [(x, .inr (8, [.ref xs, .ref xp, .int 0, .int 0, .ref xl, .ref xr])), (xs, .inl (cS, 3, .inr (.inr (.inr (.inr (fun _ => none)))))), (xp, .inl (cP, 8, .inr (.inr (.inr (.inr (fun _ => none)))))), (xl, .inr (4, [.ref xn, .ref xm])), (xn, .inl (cn, 64, .inr (.inl (fun _ => 0)))), (xm, .inl (cm, 64, .inr (.inl (fun _ => 0)))), (xr, .inr (6, [.ref xw, .ref xt])), (xw, .inl (cw, 8, .inr (.inl (fun _ => 0)))), (xt, .inl (ct, 8, .inr (.inl (fun _ => 0))))]) [0, 1, 2, 3, 4, 5, 6, 7, 8] rfl
  have hKc := hK.sub (tys' := [(cS, .object "Diffractory$Source"), (cP, .object "Diffractory$Part"), (cn, .long), (cm, .long), (cw, .long), (ct, .long)]) [0, 1, 2, 3, 4, 5] rfl
  refine va_callq (va_runV (As := [.int p0]) (rest := []) ⟨hx, hb, hml, hown, hts⟩ (c_X4_partAt l dC dI x xs xp xl xn xm xr xw xt cS cP cn cm cw ct sa ta p0) (cwV 1 hts gX4_put_X4_partAt rfl rfl rfl (by decide +kernel) ⟨Nat.le_of_ble_eq_true rfl, Nat.le_of_ble_eq_true rfl⟩) ⟨ax_fbR, va_recv hK hP (ci := 8) (q0 := 0) rfl rfl, ax_prR hPc hKc hS hE⟩ rfl rfl hl.1 rfl (lv_room (Nat.le_of_ble_eq_true rfl)) dX4_put_2 ⟨Nat.le_of_ble_eq_true rfl, Nat.le_of_ble_eq_true rfl⟩) hS (fun _ _ h9 => h9.elim) (fun _ h9 => h9.elim) (fun r_1 u_3  t H locs ht hvm hw_2 hB hz1 hk1 hS => ?_)
  have hP := ax_keep hP (fun _ h9 => h9) hk1
  subst hw_2
  refine W.eq (g2 := F0 m 5 ls [.null]) rfl ?_
  refine lv_astore_nN (lv' := [(3, .null), (0, .ref x), (1, .int p0), (2, .int p1)]) hx hb dX4_put_5 rfl hl (by decide) rfl (fun ls hl => ?_)
  refine lv_aload_nN hx hb dX4_put_6 rfl (lv_at hl 0 rfl) ?_
  refine lv_ifnonnullN hx hb dX4_put_7 ?_
  exact vx_throwS hx hb hlt (own := RX4) (cls := "java/lang/IndexOutOfBoundsException") (names := ["java/lang/RuntimeException", "java/lang/Exception"]) hown (by decide +kernel) (by decide +kernel) (hts (.classLink RX4 59 "java/lang/IndexOutOfBoundsException") (by decide +kernel)) (hts (.initialized "java/lang/IndexOutOfBoundsException") (by decide +kernel)) hE.s91 (ax_hat63 hE (fun w h9 => hts w (by first | exact List.mem_cons_of_mem _ (List.mem_append_right _ h9) | exact List.mem_cons_of_mem _ (List.mem_append_left _ (List.mem_append_right _ h9)) | exact List.mem_cons_of_mem _ (List.mem_append_left _ (List.mem_append_left _ (List.mem_append_right _ h9))) | exact List.mem_cons_of_mem _ (List.mem_append_left _ (List.mem_append_left _ (List.mem_append_left _ (List.mem_append_right _ h9)))) | exact List.mem_cons_of_mem _ (List.mem_append_left _ (List.mem_append_left _ (List.mem_append_left _ (List.mem_append_left _ (List.mem_append_right _ h9)))))))) ax_gd63 hE.zU hE.zN hS (hl.1.trans hml.symm) dX4_put_10 dX4_put_13 dX4_put_14 dX4_put_16 dX4_put_19 (fun x h9 => (hnt x h9).elim) (Nat.le_of_ble_eq_true rfl) (Nat.le_of_ble_eq_true rfl) (Nat.le_of_ble_eq_true rfl) (Nat.le_of_ble_eq_true rfl) hlocks (fun t hal hz1 hk1 => ⟨(), by first | trivial | omega, rfl, ax_vaF hS hz1 hk1⟩) hS.2.2 (Nat.le_of_ble_eq_true rfl) (Nat.le_of_ble_eq_true rfl)

set_option maxHeartbeats 4000000 in
set_option maxRecDepth 100000 in
theorem c_X4_dirt (l : Launch) (hlt : l.stackTraces = false) (dC : Nat → ClassId) (dI : Nat → Nat → Nat) (x xs xp xl xn xm xr xw xt : Nat) (cS cP cn cm cw ct : ClassId) (sa ta : Nat → Nat) (p0 : Int32) (p1 : Int32) : vx_Met l yX4_dirt wsX4_dirt ({ frames := 16, cells := 1, slots := 6, locals := 400 }) (va_Pc [.ref x, .int p0, .int p1] (ax_R (dC, dI) vwCl [(x, .inr (8, [.ref xs, .ref xp, .int 0, .int 0, .ref xl, .ref xr])), (xs, .inl (cS, 3, .inr (.inr (.inr (.inr (fun _ => none)))))), (xp, .inl (cP, 8, .inr (.inr (.inr (.inr (fun _ => none)))))), (xl, .inr (4, [.ref xn, .ref xm])), (xn, .inl (cn, 64, .inr (.inl (fun _ => 0)))), (xm, .inl (cm, 64, .inr (.inl (fun _ => 0)))), (xr, .inr (6, [.ref xw, .ref xt])), (xw, .inl (cw, 8, .inr (.inl (fun _ => 0)))), (xt, .inl (ct, 8, .inr (.inl (fun _ => 0))))] [(cS, .object "Diffractory$Source"), (cP, .object "Diffractory$Part"), (cn, .long), (cm, .long), (cw, .long), (ct, .long)] sa ta)) (va_Qi (fun (r : Int32) (u : Unit) => False) (fun _ _ => True) ax_no) (vx_X (fun _ : Unit => True) (fun E _ _ => E = "java/lang/IndexOutOfBoundsException") ax_no) 1 6 ax_no := by
  refine vx_ofW (cc := cX4_dirt) (maxL := 5) (ret := (some .int)) (by decide) rfl ?_
  intro p e s m args below meth c s₁ B hml hnt hv
  obtain ⟨rfl, hP, hK, hE⟩ := hv
  have hx := B.exec
  have hb := B.bytes
  have hr := B.returns
  have hts := atoms_spec (ws := wsX4_dirt) B.pre
  have hown : s.vm.findClass RX4 = some m.cls := findClass_of_methodNamed B.named
  have hlocks := B.notSynchronized
  have hS : va_S ax_no s.heap s.heap [] := va_S.rf
  have hl := lv_entry ([.ref x, .int p0, .int p1]) (n := 5) (Nat.le_of_ble_eq_true rfl)
  rw [lg_entry_eq]
  generalize (lg_sl ([.ref x, .int p0, .int p1]) ++ List.replicate (5 - (lg_sl ([.ref x, .int p0, .int p1])).length) Slot.unset).toArray = ls at hl ⊢
  have hl : lv_has ls 5 [(0, .ref x), (1, .int p0), (2, .int p1)] := hl
  have hP : va_P (dC, dI) vwCl [(x, .inr (8, [.ref xs, .ref xp, .int 0, .int 0, .ref xl, .ref xr])), (xs, .inl (cS, 3, .inr (.inr (.inr (.inr (fun _ => none)))))), (xp, .inl (cP, 8, .inr (.inr (.inr (.inr (fun _ => none)))))), (xl, .inr (4, [.ref xn, .ref xm])), (xn, .inl (cn, 64, .inr (.inl (fun _ => 0)))), (xm, .inl (cm, 64, .inr (.inl (fun _ => 0)))), (xr, .inr (6, [.ref xw, .ref xt])), (xw, .inl (cw, 8, .inr (.inl (fun _ => 0)))), (xt, .inl (ct, 8, .inr (.inl (fun _ => 0))))] s.heap := hP
  refine lv_aload_n hx hb dX4_dirt_0 rfl (lv_at hl 0 rfl) ?_
  refine lv_iload_n hx hb dX4_dirt_1 rfl (lv_at hl 1 rfl) ?_
  have hPc := hP.sub (ws' := [(x, .inr (8, [.ref xs, .ref xp, .int 0, .int 0, .ref xl, .ref xr])), (xs, .inl (cS, 3, .inr (.inr (.inr (.inr (fun _ => none)))))), (xp, .inl (cP, 8, .inr (.inr (.inr (.inr (fun _ => none)))))), (xl, .inr (4, [.ref xn, .ref xm])), (xn, .inl (cn, 64, .inr (.inl (fun _ => 0)))), (xm, .inl (cm, 64, .inr (.inl (fun _ => 0)))), (xr, .inr (6, [.ref xw, .ref xt])), (xw, .inl (cw, 8, .inr (.inl (fun _ => 0)))), (xt, .inl (ct, 8, .inr (.inl (fun _ => 0))))]) [0, 1, 2, 3, 4, 5, 6, 7, 8] rfl
  have hKc := hK.sub (tys' := [(cS, .object "Diffractory$Source"), (cP, .object "Diffractory$Part"), (cn, .long), (cm, .long), (cw, .long), (ct, .long)]) [0, 1, 2, 3, 4, 5] rfl
  refine va_callq (va_runV (As := [.int p0]) (rest := []) ⟨hx, hb, hml, hown, hts⟩ (c_X4_partAt l dC dI x xs xp xl xn xm xr xw xt cS cP cn cm cw ct sa ta p0) (cwV 1 hts gX4_dirt_X4_partAt rfl rfl rfl (by decide +kernel) ⟨Nat.le_of_ble_eq_true rfl, Nat.le_of_ble_eq_true rfl⟩) ⟨ax_fbR, va_recv hK hP (ci := 8) (q0 := 0) rfl rfl, ax_prR hPc hKc hS hE⟩ rfl rfl hl.1 rfl (lv_room (Nat.le_of_ble_eq_true rfl)) dX4_dirt_2 ⟨Nat.le_of_ble_eq_true rfl, Nat.le_of_ble_eq_true rfl⟩) hS (fun _ _ h9 => h9.elim) (fun _ h9 => h9.elim) (fun r_1 u_3  t H locs ht hvm hw_2 hB hz1 hk1 hS => ?_)
  have hP := ax_keep hP (fun _ h9 => h9) hk1
  subst hw_2
  refine W.eq (g2 := F0 m 5 ls [.null]) rfl ?_
  refine lv_astore_nN (lv' := [(3, .null), (0, .ref x), (1, .int p0), (2, .int p1)]) hx hb dX4_dirt_5 rfl hl (by decide) rfl (fun ls hl => ?_)
  refine lv_aload_nN hx hb dX4_dirt_6 rfl (lv_at hl 0 rfl) ?_
  refine lv_ifnonnullN hx hb dX4_dirt_7 ?_
  exact vx_throwS hx hb hlt (own := RX4) (cls := "java/lang/IndexOutOfBoundsException") (names := ["java/lang/RuntimeException", "java/lang/Exception"]) hown (by decide +kernel) (by decide +kernel) (hts (.classLink RX4 59 "java/lang/IndexOutOfBoundsException") (by decide +kernel)) (hts (.initialized "java/lang/IndexOutOfBoundsException") (by decide +kernel)) hE.s91 (ax_hat63 hE (fun w h9 => hts w (by first | exact List.mem_cons_of_mem _ (List.mem_append_right _ h9) | exact List.mem_cons_of_mem _ (List.mem_append_left _ (List.mem_append_right _ h9)) | exact List.mem_cons_of_mem _ (List.mem_append_left _ (List.mem_append_left _ (List.mem_append_right _ h9))) | exact List.mem_cons_of_mem _ (List.mem_append_left _ (List.mem_append_left _ (List.mem_append_left _ (List.mem_append_right _ h9)))) | exact List.mem_cons_of_mem _ (List.mem_append_left _ (List.mem_append_left _ (List.mem_append_left _ (List.mem_append_left _ (List.mem_append_right _ h9)))))))) ax_gd63 hE.zU hE.zN hS (hl.1.trans hml.symm) dX4_dirt_10 dX4_dirt_13 dX4_dirt_14 dX4_dirt_16 dX4_dirt_19 (fun x h9 => (hnt x h9).elim) (Nat.le_of_ble_eq_true rfl) (Nat.le_of_ble_eq_true rfl) (Nat.le_of_ble_eq_true rfl) (Nat.le_of_ble_eq_true rfl) hlocks (fun t hal hz1 hk1 => ⟨(), by first | trivial | omega, rfl, ax_vaF hS hz1 hk1⟩) hS.2.2 (Nat.le_of_ble_eq_true rfl) (Nat.le_of_ble_eq_true rfl)

set_option maxHeartbeats 4000000 in
set_option maxRecDepth 100000 in
theorem c_X4_expose (l : Launch) (hlt : l.stackTraces = false) (dC : Nat → ClassId) (dI : Nat → Nat → Nat) (x xs xp xl xn xm xr xw xt : Nat) (cS cP cn cm cw ct : ClassId) (sa ta : Nat → Nat) (p0 : Int32) (p1 : Int32) : vx_Met l yX4_expose wsX4_expose ({ frames := 16, cells := 1, slots := 6, locals := 400 }) (va_Pc [.ref x, .int p0, .int p1] (ax_R (dC, dI) vwCl [(x, .inr (8, [.ref xs, .ref xp, .int 0, .int 0, .ref xl, .ref xr])), (xs, .inl (cS, 3, .inr (.inr (.inr (.inr (fun _ => none)))))), (xp, .inl (cP, 8, .inr (.inr (.inr (.inr (fun _ => none)))))), (xl, .inr (4, [.ref xn, .ref xm])), (xn, .inl (cn, 64, .inr (.inl (fun _ => 0)))), (xm, .inl (cm, 64, .inr (.inl (fun _ => 0)))), (xr, .inr (6, [.ref xw, .ref xt])), (xw, .inl (cw, 8, .inr (.inl (fun _ => 0)))), (xt, .inl (ct, 8, .inr (.inl (fun _ => 0))))] [(cS, .object "Diffractory$Source"), (cP, .object "Diffractory$Part"), (cn, .long), (cm, .long), (cw, .long), (ct, .long)] sa ta)) (va_Qi (fun (r : Int32) (u : Unit) => False) (fun _ _ => True) ax_no) (vx_X (fun _ : Unit => True) (fun E _ _ => E = "java/lang/IndexOutOfBoundsException") ax_no) 1 6 ax_no := by
  refine vx_ofW (cc := cX4_expose) (maxL := 4) (ret := (some .int)) (by decide) rfl ?_
  intro p e s m args below meth c s₁ B hml hnt hv
  obtain ⟨rfl, hP, hK, hE⟩ := hv
  have hx := B.exec
  have hb := B.bytes
  have hr := B.returns
  have hts := atoms_spec (ws := wsX4_expose) B.pre
  have hown : s.vm.findClass RX4 = some m.cls := findClass_of_methodNamed B.named
  have hlocks := B.notSynchronized
  have hS : va_S ax_no s.heap s.heap [] := va_S.rf
  have hl := lv_entry ([.ref x, .int p0, .int p1]) (n := 4) (Nat.le_of_ble_eq_true rfl)
  rw [lg_entry_eq]
  generalize (lg_sl ([.ref x, .int p0, .int p1]) ++ List.replicate (4 - (lg_sl ([.ref x, .int p0, .int p1])).length) Slot.unset).toArray = ls at hl ⊢
  have hl : lv_has ls 4 [(0, .ref x), (1, .int p0), (2, .int p1)] := hl
  have hP : va_P (dC, dI) vwCl [(x, .inr (8, [.ref xs, .ref xp, .int 0, .int 0, .ref xl, .ref xr])), (xs, .inl (cS, 3, .inr (.inr (.inr (.inr (fun _ => none)))))), (xp, .inl (cP, 8, .inr (.inr (.inr (.inr (fun _ => none)))))), (xl, .inr (4, [.ref xn, .ref xm])), (xn, .inl (cn, 64, .inr (.inl (fun _ => 0)))), (xm, .inl (cm, 64, .inr (.inl (fun _ => 0)))), (xr, .inr (6, [.ref xw, .ref xt])), (xw, .inl (cw, 8, .inr (.inl (fun _ => 0)))), (xt, .inl (ct, 8, .inr (.inl (fun _ => 0))))] s.heap := hP
  refine lv_aload_n hx hb dX4_expose_0 rfl (lv_at hl 0 rfl) ?_
  refine lv_iload_n hx hb dX4_expose_1 rfl (lv_at hl 1 rfl) ?_
  have hPc := hP.sub (ws' := [(x, .inr (8, [.ref xs, .ref xp, .int 0, .int 0, .ref xl, .ref xr])), (xs, .inl (cS, 3, .inr (.inr (.inr (.inr (fun _ => none)))))), (xp, .inl (cP, 8, .inr (.inr (.inr (.inr (fun _ => none)))))), (xl, .inr (4, [.ref xn, .ref xm])), (xn, .inl (cn, 64, .inr (.inl (fun _ => 0)))), (xm, .inl (cm, 64, .inr (.inl (fun _ => 0)))), (xr, .inr (6, [.ref xw, .ref xt])), (xw, .inl (cw, 8, .inr (.inl (fun _ => 0)))), (xt, .inl (ct, 8, .inr (.inl (fun _ => 0))))]) [0, 1, 2, 3, 4, 5, 6, 7, 8] rfl
  have hKc := hK.sub (tys' := [(cS, .object "Diffractory$Source"), (cP, .object "Diffractory$Part"), (cn, .long), (cm, .long), (cw, .long), (ct, .long)]) [0, 1, 2, 3, 4, 5] rfl
  refine va_callq (va_runV (As := [.int p0]) (rest := []) ⟨hx, hb, hml, hown, hts⟩ (c_X4_partAt l dC dI x xs xp xl xn xm xr xw xt cS cP cn cm cw ct sa ta p0) (cwV 1 hts gX4_expose_X4_partAt rfl rfl rfl (by decide +kernel) ⟨Nat.le_of_ble_eq_true rfl, Nat.le_of_ble_eq_true rfl⟩) ⟨ax_fbR, va_recv hK hP (ci := 8) (q0 := 0) rfl rfl, ax_prR hPc hKc hS hE⟩ rfl rfl hl.1 rfl (lv_room (Nat.le_of_ble_eq_true rfl)) dX4_expose_2 ⟨Nat.le_of_ble_eq_true rfl, Nat.le_of_ble_eq_true rfl⟩) hS (fun _ _ h9 => h9.elim) (fun _ h9 => h9.elim) (fun r_1 u_3  t H locs ht hvm hw_2 hB hz1 hk1 hS => ?_)
  have hP := ax_keep hP (fun _ h9 => h9) hk1
  subst hw_2
  refine W.eq (g2 := F0 m 5 ls [.null]) rfl ?_
  refine lv_astore_nN (lv' := [(3, .null), (0, .ref x), (1, .int p0), (2, .int p1)]) hx hb dX4_expose_5 rfl hl (by decide) rfl (fun ls hl => ?_)
  refine lv_aload_nN hx hb dX4_expose_6 rfl (lv_at hl 0 rfl) ?_
  refine lv_ifnonnullN hx hb dX4_expose_7 ?_
  exact vx_throwS hx hb hlt (own := RX4) (cls := "java/lang/IndexOutOfBoundsException") (names := ["java/lang/RuntimeException", "java/lang/Exception"]) hown (by decide +kernel) (by decide +kernel) (hts (.classLink RX4 59 "java/lang/IndexOutOfBoundsException") (by decide +kernel)) (hts (.initialized "java/lang/IndexOutOfBoundsException") (by decide +kernel)) hE.s91 (ax_hat63 hE (fun w h9 => hts w (by first | exact List.mem_cons_of_mem _ (List.mem_append_right _ h9) | exact List.mem_cons_of_mem _ (List.mem_append_left _ (List.mem_append_right _ h9)) | exact List.mem_cons_of_mem _ (List.mem_append_left _ (List.mem_append_left _ (List.mem_append_right _ h9))) | exact List.mem_cons_of_mem _ (List.mem_append_left _ (List.mem_append_left _ (List.mem_append_left _ (List.mem_append_right _ h9)))) | exact List.mem_cons_of_mem _ (List.mem_append_left _ (List.mem_append_left _ (List.mem_append_left _ (List.mem_append_left _ (List.mem_append_right _ h9)))))))) ax_gd63 hE.zU hE.zN hS (hl.1.trans hml.symm) dX4_expose_10 dX4_expose_13 dX4_expose_14 dX4_expose_16 dX4_expose_19 (fun x h9 => (hnt x h9).elim) (Nat.le_of_ble_eq_true rfl) (Nat.le_of_ble_eq_true rfl) (Nat.le_of_ble_eq_true rfl) (Nat.le_of_ble_eq_true rfl) hlocks (fun t hal hz1 hk1 => ⟨(), by first | trivial | omega, rfl, ax_vaF hS hz1 hk1⟩) hS.2.2 (Nat.le_of_ble_eq_true rfl) (Nat.le_of_ble_eq_true rfl)

set_option maxHeartbeats 4000000 in
set_option maxRecDepth 100000 in
theorem c_X4_loses (l : Launch) (hlt : l.stackTraces = false) (dC : Nat → ClassId) (dI : Nat → Nat → Nat) (x xs xp xl xn xm xr xw xt : Nat) (cS cP cn cm cw ct : ClassId) (sa ta : Nat → Nat) (p0 : Int32) : vx_Met l yX4_loses wsX4_loses ({ frames := 16, cells := 1, slots := 6, locals := 400 }) (va_Pc [.ref x, .int p0] (ax_R (dC, dI) vwCl [(x, .inr (8, [.ref xs, .ref xp, .int 0, .int 0, .ref xl, .ref xr])), (xs, .inl (cS, 3, .inr (.inr (.inr (.inr (fun _ => none)))))), (xp, .inl (cP, 8, .inr (.inr (.inr (.inr (fun _ => none)))))), (xl, .inr (4, [.ref xn, .ref xm])), (xn, .inl (cn, 64, .inr (.inl (fun _ => 0)))), (xm, .inl (cm, 64, .inr (.inl (fun _ => 0)))), (xr, .inr (6, [.ref xw, .ref xt])), (xw, .inl (cw, 8, .inr (.inl (fun _ => 0)))), (xt, .inl (ct, 8, .inr (.inl (fun _ => 0))))] [(cS, .object "Diffractory$Source"), (cP, .object "Diffractory$Part"), (cn, .long), (cm, .long), (cw, .long), (ct, .long)] sa ta)) (va_Ql (fun (r : Int64) (u : Unit) => False) (fun _ _ => True) ax_no) (vx_X (fun _ : Unit => True) (fun E _ _ => E = "java/lang/IndexOutOfBoundsException") ax_no) 1 6 ax_no := by
  refine vx_ofW (cc := cX4_loses) (maxL := 5) (ret := (some .long)) (by decide) rfl ?_
  intro p e s m args below meth c s₁ B hml hnt hv
  obtain ⟨rfl, hP, hK, hE⟩ := hv
  have hx := B.exec
  have hb := B.bytes
  have hr := B.returns
  have hts := atoms_spec (ws := wsX4_loses) B.pre
  have hown : s.vm.findClass RX4 = some m.cls := findClass_of_methodNamed B.named
  have hlocks := B.notSynchronized
  have hS : va_S ax_no s.heap s.heap [] := va_S.rf
  have hl := lv_entry ([.ref x, .int p0]) (n := 5) (Nat.le_of_ble_eq_true rfl)
  rw [lg_entry_eq]
  generalize (lg_sl ([.ref x, .int p0]) ++ List.replicate (5 - (lg_sl ([.ref x, .int p0])).length) Slot.unset).toArray = ls at hl ⊢
  have hl : lv_has ls 5 [(0, .ref x), (1, .int p0)] := hl
  have hP : va_P (dC, dI) vwCl [(x, .inr (8, [.ref xs, .ref xp, .int 0, .int 0, .ref xl, .ref xr])), (xs, .inl (cS, 3, .inr (.inr (.inr (.inr (fun _ => none)))))), (xp, .inl (cP, 8, .inr (.inr (.inr (.inr (fun _ => none)))))), (xl, .inr (4, [.ref xn, .ref xm])), (xn, .inl (cn, 64, .inr (.inl (fun _ => 0)))), (xm, .inl (cm, 64, .inr (.inl (fun _ => 0)))), (xr, .inr (6, [.ref xw, .ref xt])), (xw, .inl (cw, 8, .inr (.inl (fun _ => 0)))), (xt, .inl (ct, 8, .inr (.inl (fun _ => 0))))] s.heap := hP
  refine lv_aload_n hx hb dX4_loses_0 rfl (lv_at hl 0 rfl) ?_
  refine lv_iload_n hx hb dX4_loses_1 rfl (lv_at hl 1 rfl) ?_
  have hPc := hP.sub (ws' := [(x, .inr (8, [.ref xs, .ref xp, .int 0, .int 0, .ref xl, .ref xr])), (xs, .inl (cS, 3, .inr (.inr (.inr (.inr (fun _ => none)))))), (xp, .inl (cP, 8, .inr (.inr (.inr (.inr (fun _ => none)))))), (xl, .inr (4, [.ref xn, .ref xm])), (xn, .inl (cn, 64, .inr (.inl (fun _ => 0)))), (xm, .inl (cm, 64, .inr (.inl (fun _ => 0)))), (xr, .inr (6, [.ref xw, .ref xt])), (xw, .inl (cw, 8, .inr (.inl (fun _ => 0)))), (xt, .inl (ct, 8, .inr (.inl (fun _ => 0))))]) [0, 1, 2, 3, 4, 5, 6, 7, 8] rfl
  have hKc := hK.sub (tys' := [(cS, .object "Diffractory$Source"), (cP, .object "Diffractory$Part"), (cn, .long), (cm, .long), (cw, .long), (ct, .long)]) [0, 1, 2, 3, 4, 5] rfl
  refine va_callq (va_runV (As := [.int p0]) (rest := []) ⟨hx, hb, hml, hown, hts⟩ (c_X4_partAt l dC dI x xs xp xl xn xm xr xw xt cS cP cn cm cw ct sa ta p0) (cwV 1 hts gX4_loses_X4_partAt rfl rfl rfl (by decide +kernel) ⟨Nat.le_of_ble_eq_true rfl, Nat.le_of_ble_eq_true rfl⟩) ⟨ax_fbR, va_recv hK hP (ci := 8) (q0 := 0) rfl rfl, ax_prR hPc hKc hS hE⟩ rfl rfl hl.1 rfl (lv_room (Nat.le_of_ble_eq_true rfl)) dX4_loses_2 ⟨Nat.le_of_ble_eq_true rfl, Nat.le_of_ble_eq_true rfl⟩) hS (fun _ _ h9 => h9.elim) (fun _ h9 => h9.elim) (fun r_1 u_3  t H locs ht hvm hw_2 hB hz1 hk1 hS => ?_)
  have hP := ax_keep hP (fun _ h9 => h9) hk1
  subst hw_2
  refine W.eq (g2 := F0 m 5 ls [.null]) rfl ?_
  refine lv_astore_nN (lv' := [(2, .null), (0, .ref x), (1, .int p0)]) hx hb dX4_loses_5 rfl hl (by decide) rfl (fun ls hl => ?_)
  refine lv_aload_nN hx hb dX4_loses_6 rfl (lv_at hl 0 rfl) ?_
  refine lv_ifnonnullN hx hb dX4_loses_7 ?_
  exact vx_throwS hx hb hlt (own := RX4) (cls := "java/lang/IndexOutOfBoundsException") (names := ["java/lang/RuntimeException", "java/lang/Exception"]) hown (by decide +kernel) (by decide +kernel) (hts (.classLink RX4 59 "java/lang/IndexOutOfBoundsException") (by decide +kernel)) (hts (.initialized "java/lang/IndexOutOfBoundsException") (by decide +kernel)) hE.s91 (ax_hat63 hE (fun w h9 => hts w (by first | exact List.mem_cons_of_mem _ (List.mem_append_right _ h9) | exact List.mem_cons_of_mem _ (List.mem_append_left _ (List.mem_append_right _ h9)) | exact List.mem_cons_of_mem _ (List.mem_append_left _ (List.mem_append_left _ (List.mem_append_right _ h9))) | exact List.mem_cons_of_mem _ (List.mem_append_left _ (List.mem_append_left _ (List.mem_append_left _ (List.mem_append_right _ h9)))) | exact List.mem_cons_of_mem _ (List.mem_append_left _ (List.mem_append_left _ (List.mem_append_left _ (List.mem_append_left _ (List.mem_append_right _ h9)))))))) ax_gd63 hE.zU hE.zN hS (hl.1.trans hml.symm) dX4_loses_10 dX4_loses_13 dX4_loses_14 dX4_loses_16 dX4_loses_19 (fun x h9 => (hnt x h9).elim) (Nat.le_of_ble_eq_true rfl) (Nat.le_of_ble_eq_true rfl) (Nat.le_of_ble_eq_true rfl) (Nat.le_of_ble_eq_true rfl) hlocks (fun t hal hz1 hk1 => ⟨(), by first | trivial | omega, rfl, ax_vaF hS hz1 hk1⟩) hS.2.2 (Nat.le_of_ble_eq_true rfl) (Nat.le_of_ble_eq_true rfl)

set_option maxHeartbeats 4000000 in
set_option maxRecDepth 100000 in
theorem c_X4_ofPart (l : Launch) (hlt : l.stackTraces = false) (dC : Nat → ClassId) (dI : Nat → Nat → Nat) (x xs xp xl xn xm xr xw xt : Nat) (cS cP cn cm cw ct : ClassId) (sa ta : Nat → Nat) (p0 : Int32) (p1 : Int32) : vx_Met l yX4_ofPart wsX4_ofPart ({ frames := 16, cells := 1, slots := 6, locals := 400 }) (va_Pc [.ref x, .int p0, .int p1] (ax_R (dC, dI) vwCl [(x, .inr (8, [.ref xs, .ref xp, .int 0, .int 0, .ref xl, .ref xr])), (xs, .inl (cS, 3, .inr (.inr (.inr (.inr (fun _ => none)))))), (xp, .inl (cP, 8, .inr (.inr (.inr (.inr (fun _ => none)))))), (xl, .inr (4, [.ref xn, .ref xm])), (xn, .inl (cn, 64, .inr (.inl (fun _ => 0)))), (xm, .inl (cm, 64, .inr (.inl (fun _ => 0)))), (xr, .inr (6, [.ref xw, .ref xt])), (xw, .inl (cw, 8, .inr (.inl (fun _ => 0)))), (xt, .inl (ct, 8, .inr (.inl (fun _ => 0))))] [(cS, .object "Diffractory$Source"), (cP, .object "Diffractory$Part"), (cn, .long), (cm, .long), (cw, .long), (ct, .long)] sa ta)) (va_Qi (fun (r : Int32) (u : Unit) => False) (fun _ _ => True) ax_no) (vx_X (fun _ : Unit => True) (fun E _ _ => E = "java/lang/IndexOutOfBoundsException") ax_no) 1 6 ax_no := by
  refine vx_ofW (cc := cX4_ofPart) (maxL := 4) (ret := (some .int)) (by decide) rfl ?_
  intro p e s m args below meth c s₁ B hml hnt hv
  obtain ⟨rfl, hP, hK, hE⟩ := hv
  have hx := B.exec
  have hb := B.bytes
  have hr := B.returns
  have hts := atoms_spec (ws := wsX4_ofPart) B.pre
  have hown : s.vm.findClass RX4 = some m.cls := findClass_of_methodNamed B.named
  have hlocks := B.notSynchronized
  have hS : va_S ax_no s.heap s.heap [] := va_S.rf
  have hl := lv_entry ([.ref x, .int p0, .int p1]) (n := 4) (Nat.le_of_ble_eq_true rfl)
  rw [lg_entry_eq]
  generalize (lg_sl ([.ref x, .int p0, .int p1]) ++ List.replicate (4 - (lg_sl ([.ref x, .int p0, .int p1])).length) Slot.unset).toArray = ls at hl ⊢
  have hl : lv_has ls 4 [(0, .ref x), (1, .int p0), (2, .int p1)] := hl
  have hP : va_P (dC, dI) vwCl [(x, .inr (8, [.ref xs, .ref xp, .int 0, .int 0, .ref xl, .ref xr])), (xs, .inl (cS, 3, .inr (.inr (.inr (.inr (fun _ => none)))))), (xp, .inl (cP, 8, .inr (.inr (.inr (.inr (fun _ => none)))))), (xl, .inr (4, [.ref xn, .ref xm])), (xn, .inl (cn, 64, .inr (.inl (fun _ => 0)))), (xm, .inl (cm, 64, .inr (.inl (fun _ => 0)))), (xr, .inr (6, [.ref xw, .ref xt])), (xw, .inl (cw, 8, .inr (.inl (fun _ => 0)))), (xt, .inl (ct, 8, .inr (.inl (fun _ => 0))))] s.heap := hP
  refine lv_aload_n hx hb dX4_ofPart_0 rfl (lv_at hl 0 rfl) ?_
  refine lv_iload_n hx hb dX4_ofPart_1 rfl (lv_at hl 1 rfl) ?_
  have hPc := hP.sub (ws' := [(x, .inr (8, [.ref xs, .ref xp, .int 0, .int 0, .ref xl, .ref xr])), (xs, .inl (cS, 3, .inr (.inr (.inr (.inr (fun _ => none)))))), (xp, .inl (cP, 8, .inr (.inr (.inr (.inr (fun _ => none)))))), (xl, .inr (4, [.ref xn, .ref xm])), (xn, .inl (cn, 64, .inr (.inl (fun _ => 0)))), (xm, .inl (cm, 64, .inr (.inl (fun _ => 0)))), (xr, .inr (6, [.ref xw, .ref xt])), (xw, .inl (cw, 8, .inr (.inl (fun _ => 0)))), (xt, .inl (ct, 8, .inr (.inl (fun _ => 0))))]) [0, 1, 2, 3, 4, 5, 6, 7, 8] rfl
  have hKc := hK.sub (tys' := [(cS, .object "Diffractory$Source"), (cP, .object "Diffractory$Part"), (cn, .long), (cm, .long), (cw, .long), (ct, .long)]) [0, 1, 2, 3, 4, 5] rfl
  refine va_callq (va_runV (As := [.int p0]) (rest := []) ⟨hx, hb, hml, hown, hts⟩ (c_X4_partAt l dC dI x xs xp xl xn xm xr xw xt cS cP cn cm cw ct sa ta p0) (cwV 1 hts gX4_ofPart_X4_partAt rfl rfl rfl (by decide +kernel) ⟨Nat.le_of_ble_eq_true rfl, Nat.le_of_ble_eq_true rfl⟩) ⟨ax_fbR, va_recv hK hP (ci := 8) (q0 := 0) rfl rfl, ax_prR hPc hKc hS hE⟩ rfl rfl hl.1 rfl (lv_room (Nat.le_of_ble_eq_true rfl)) dX4_ofPart_2 ⟨Nat.le_of_ble_eq_true rfl, Nat.le_of_ble_eq_true rfl⟩) hS (fun _ _ h9 => h9.elim) (fun _ h9 => h9.elim) (fun r_1 u_3  t H locs ht hvm hw_2 hB hz1 hk1 hS => ?_)
  have hP := ax_keep hP (fun _ h9 => h9) hk1
  subst hw_2
  refine W.eq (g2 := F0 m 5 ls [.null]) rfl ?_
  refine lv_astore_nN (lv' := [(3, .null), (0, .ref x), (1, .int p0), (2, .int p1)]) hx hb dX4_ofPart_5 rfl hl (by decide) rfl (fun ls hl => ?_)
  refine lv_aload_nN hx hb dX4_ofPart_6 rfl (lv_at hl 0 rfl) ?_
  refine lv_ifnonnullN hx hb dX4_ofPart_7 ?_
  exact vx_throwS hx hb hlt (own := RX4) (cls := "java/lang/IndexOutOfBoundsException") (names := ["java/lang/RuntimeException", "java/lang/Exception"]) hown (by decide +kernel) (by decide +kernel) (hts (.classLink RX4 59 "java/lang/IndexOutOfBoundsException") (by decide +kernel)) (hts (.initialized "java/lang/IndexOutOfBoundsException") (by decide +kernel)) hE.s91 (ax_hat63 hE (fun w h9 => hts w (by first | exact List.mem_cons_of_mem _ (List.mem_append_right _ h9) | exact List.mem_cons_of_mem _ (List.mem_append_left _ (List.mem_append_right _ h9)) | exact List.mem_cons_of_mem _ (List.mem_append_left _ (List.mem_append_left _ (List.mem_append_right _ h9))) | exact List.mem_cons_of_mem _ (List.mem_append_left _ (List.mem_append_left _ (List.mem_append_left _ (List.mem_append_right _ h9)))) | exact List.mem_cons_of_mem _ (List.mem_append_left _ (List.mem_append_left _ (List.mem_append_left _ (List.mem_append_left _ (List.mem_append_right _ h9)))))))) ax_gd63 hE.zU hE.zN hS (hl.1.trans hml.symm) dX4_ofPart_10 dX4_ofPart_13 dX4_ofPart_14 dX4_ofPart_16 dX4_ofPart_19 (fun x h9 => (hnt x h9).elim) (Nat.le_of_ble_eq_true rfl) (Nat.le_of_ble_eq_true rfl) (Nat.le_of_ble_eq_true rfl) (Nat.le_of_ble_eq_true rfl) hlocks (fun t hal hz1 hk1 => ⟨(), by first | trivial | omega, rfl, ax_vaF hS hz1 hk1⟩) hS.2.2 (Nat.le_of_ble_eq_true rfl) (Nat.le_of_ble_eq_true rfl)

set_option maxHeartbeats 4000000 in
set_option maxRecDepth 100000 in
theorem c_X4_exposure (l : Launch) (hlt : l.stackTraces = false) (dC : Nat → ClassId) (dI : Nat → Nat → Nat) (x xs xp xl xn xm xr xw xt : Nat) (cS cP cn cm cw ct : ClassId) (sa ta : Nat → Nat) (p0 : Int32) (p1 : Int32) : vx_Met l yX4_exposure wsX4_exposure ({ frames := 16, cells := 1, slots := 6, locals := 400 }) (va_Pc [.ref x, .int p0, .int p1] (ax_R (dC, dI) vwCl [(x, .inr (8, [.ref xs, .ref xp, .int 0, .int 0, .ref xl, .ref xr])), (xs, .inl (cS, 3, .inr (.inr (.inr (.inr (fun _ => none)))))), (xp, .inl (cP, 8, .inr (.inr (.inr (.inr (fun _ => none)))))), (xl, .inr (4, [.ref xn, .ref xm])), (xn, .inl (cn, 64, .inr (.inl (fun _ => 0)))), (xm, .inl (cm, 64, .inr (.inl (fun _ => 0)))), (xr, .inr (6, [.ref xw, .ref xt])), (xw, .inl (cw, 8, .inr (.inl (fun _ => 0)))), (xt, .inl (ct, 8, .inr (.inl (fun _ => 0))))] [(cS, .object "Diffractory$Source"), (cP, .object "Diffractory$Part"), (cn, .long), (cm, .long), (cw, .long), (ct, .long)] sa ta)) (va_Qi (fun (r : Int32) (u : Unit) => False) (fun _ _ => True) ax_no) (vx_X (fun _ : Unit => True) (fun E _ _ => E = "java/lang/IndexOutOfBoundsException") ax_no) 1 6 ax_no := by
  refine vx_ofW (cc := cX4_exposure) (maxL := 4) (ret := (some .int)) (by decide) rfl ?_
  intro p e s m args below meth c s₁ B hml hnt hv
  obtain ⟨rfl, hP, hK, hE⟩ := hv
  have hx := B.exec
  have hb := B.bytes
  have hr := B.returns
  have hts := atoms_spec (ws := wsX4_exposure) B.pre
  have hown : s.vm.findClass RX4 = some m.cls := findClass_of_methodNamed B.named
  have hlocks := B.notSynchronized
  have hS : va_S ax_no s.heap s.heap [] := va_S.rf
  have hl := lv_entry ([.ref x, .int p0, .int p1]) (n := 4) (Nat.le_of_ble_eq_true rfl)
  rw [lg_entry_eq]
  generalize (lg_sl ([.ref x, .int p0, .int p1]) ++ List.replicate (4 - (lg_sl ([.ref x, .int p0, .int p1])).length) Slot.unset).toArray = ls at hl ⊢
  have hl : lv_has ls 4 [(0, .ref x), (1, .int p0), (2, .int p1)] := hl
  have hP : va_P (dC, dI) vwCl [(x, .inr (8, [.ref xs, .ref xp, .int 0, .int 0, .ref xl, .ref xr])), (xs, .inl (cS, 3, .inr (.inr (.inr (.inr (fun _ => none)))))), (xp, .inl (cP, 8, .inr (.inr (.inr (.inr (fun _ => none)))))), (xl, .inr (4, [.ref xn, .ref xm])), (xn, .inl (cn, 64, .inr (.inl (fun _ => 0)))), (xm, .inl (cm, 64, .inr (.inl (fun _ => 0)))), (xr, .inr (6, [.ref xw, .ref xt])), (xw, .inl (cw, 8, .inr (.inl (fun _ => 0)))), (xt, .inl (ct, 8, .inr (.inl (fun _ => 0))))] s.heap := hP
  refine lv_aload_n hx hb dX4_exposure_0 rfl (lv_at hl 0 rfl) ?_
  refine lv_iload_n hx hb dX4_exposure_1 rfl (lv_at hl 1 rfl) ?_
  have hPc := hP.sub (ws' := [(x, .inr (8, [.ref xs, .ref xp, .int 0, .int 0, .ref xl, .ref xr])), (xs, .inl (cS, 3, .inr (.inr (.inr (.inr (fun _ => none)))))), (xp, .inl (cP, 8, .inr (.inr (.inr (.inr (fun _ => none)))))), (xl, .inr (4, [.ref xn, .ref xm])), (xn, .inl (cn, 64, .inr (.inl (fun _ => 0)))), (xm, .inl (cm, 64, .inr (.inl (fun _ => 0)))), (xr, .inr (6, [.ref xw, .ref xt])), (xw, .inl (cw, 8, .inr (.inl (fun _ => 0)))), (xt, .inl (ct, 8, .inr (.inl (fun _ => 0))))]) [0, 1, 2, 3, 4, 5, 6, 7, 8] rfl
  have hKc := hK.sub (tys' := [(cS, .object "Diffractory$Source"), (cP, .object "Diffractory$Part"), (cn, .long), (cm, .long), (cw, .long), (ct, .long)]) [0, 1, 2, 3, 4, 5] rfl
  refine va_callq (va_runV (As := [.int p0]) (rest := []) ⟨hx, hb, hml, hown, hts⟩ (c_X4_partAt l dC dI x xs xp xl xn xm xr xw xt cS cP cn cm cw ct sa ta p0) (cwV 1 hts gX4_exposure_X4_partAt rfl rfl rfl (by decide +kernel) ⟨Nat.le_of_ble_eq_true rfl, Nat.le_of_ble_eq_true rfl⟩) ⟨ax_fbR, va_recv hK hP (ci := 8) (q0 := 0) rfl rfl, ax_prR hPc hKc hS hE⟩ rfl rfl hl.1 rfl (lv_room (Nat.le_of_ble_eq_true rfl)) dX4_exposure_2 ⟨Nat.le_of_ble_eq_true rfl, Nat.le_of_ble_eq_true rfl⟩) hS (fun _ _ h9 => h9.elim) (fun _ h9 => h9.elim) (fun r_1 u_3  t H locs ht hvm hw_2 hB hz1 hk1 hS => ?_)
  have hP := ax_keep hP (fun _ h9 => h9) hk1
  subst hw_2
  refine W.eq (g2 := F0 m 5 ls [.null]) rfl ?_
  refine lv_astore_nN (lv' := [(3, .null), (0, .ref x), (1, .int p0), (2, .int p1)]) hx hb dX4_exposure_5 rfl hl (by decide) rfl (fun ls hl => ?_)
  refine lv_aload_nN hx hb dX4_exposure_6 rfl (lv_at hl 0 rfl) ?_
  refine lv_ifnonnullN hx hb dX4_exposure_7 ?_
  exact vx_throwS hx hb hlt (own := RX4) (cls := "java/lang/IndexOutOfBoundsException") (names := ["java/lang/RuntimeException", "java/lang/Exception"]) hown (by decide +kernel) (by decide +kernel) (hts (.classLink RX4 59 "java/lang/IndexOutOfBoundsException") (by decide +kernel)) (hts (.initialized "java/lang/IndexOutOfBoundsException") (by decide +kernel)) hE.s91 (ax_hat63 hE (fun w h9 => hts w (by first | exact List.mem_cons_of_mem _ (List.mem_append_right _ h9) | exact List.mem_cons_of_mem _ (List.mem_append_left _ (List.mem_append_right _ h9)) | exact List.mem_cons_of_mem _ (List.mem_append_left _ (List.mem_append_left _ (List.mem_append_right _ h9))) | exact List.mem_cons_of_mem _ (List.mem_append_left _ (List.mem_append_left _ (List.mem_append_left _ (List.mem_append_right _ h9)))) | exact List.mem_cons_of_mem _ (List.mem_append_left _ (List.mem_append_left _ (List.mem_append_left _ (List.mem_append_left _ (List.mem_append_right _ h9)))))))) ax_gd63 hE.zU hE.zN hS (hl.1.trans hml.symm) dX4_exposure_10 dX4_exposure_13 dX4_exposure_14 dX4_exposure_16 dX4_exposure_19 (fun x h9 => (hnt x h9).elim) (Nat.le_of_ble_eq_true rfl) (Nat.le_of_ble_eq_true rfl) (Nat.le_of_ble_eq_true rfl) (Nat.le_of_ble_eq_true rfl) hlocks (fun t hal hz1 hk1 => ⟨(), by first | trivial | omega, rfl, ax_vaF hS hz1 hk1⟩) hS.2.2 (Nat.le_of_ble_eq_true rfl) (Nat.le_of_ble_eq_true rfl)

set_option maxHeartbeats 4000000 in
set_option maxRecDepth 100000 in
theorem c_X4_ofSource (l : Launch) (hlt : l.stackTraces = false) (dC : Nat → ClassId) (dI : Nat → Nat → Nat) (x xs xp xl xn xm xr xw xt : Nat) (cS cP cn cm cw ct : ClassId) (sa ta : Nat → Nat) (p0 : Int32) (p1 : Int32) : vx_Met l yX4_ofSource wsX4_ofSource ({ frames := 16, cells := 1, slots := 6, locals := 400 }) (va_Pc [.ref x, .int p0, .int p1] (ax_R (dC, dI) vwCl [(x, .inr (8, [.ref xs, .ref xp, .int 0, .int 0, .ref xl, .ref xr])), (xs, .inl (cS, 3, .inr (.inr (.inr (.inr (fun _ => none)))))), (xp, .inl (cP, 8, .inr (.inr (.inr (.inr (fun _ => none)))))), (xl, .inr (4, [.ref xn, .ref xm])), (xn, .inl (cn, 64, .inr (.inl (fun _ => 0)))), (xm, .inl (cm, 64, .inr (.inl (fun _ => 0)))), (xr, .inr (6, [.ref xw, .ref xt])), (xw, .inl (cw, 8, .inr (.inl (fun _ => 0)))), (xt, .inl (ct, 8, .inr (.inl (fun _ => 0))))] [(cS, .object "Diffractory$Source"), (cP, .object "Diffractory$Part"), (cn, .long), (cm, .long), (cw, .long), (ct, .long)] sa ta)) (va_Qi (fun (r : Int32) (u : Unit) => False) (fun _ _ => True) ax_no) (vx_X (fun _ : Unit => True) (fun E _ _ => E = "java/lang/IndexOutOfBoundsException") ax_no) 1 6 ax_no := by
  refine vx_ofW (cc := cX4_ofSource) (maxL := 4) (ret := (some .int)) (by decide) rfl ?_
  intro p e s m args below meth c s₁ B hml hnt hv
  obtain ⟨rfl, hP, hK, hE⟩ := hv
  have hx := B.exec
  have hb := B.bytes
  have hr := B.returns
  have hts := atoms_spec (ws := wsX4_ofSource) B.pre
  have hown : s.vm.findClass RX4 = some m.cls := findClass_of_methodNamed B.named
  have hlocks := B.notSynchronized
  have hS : va_S ax_no s.heap s.heap [] := va_S.rf
  have hl := lv_entry ([.ref x, .int p0, .int p1]) (n := 4) (Nat.le_of_ble_eq_true rfl)
  rw [lg_entry_eq]
  generalize (lg_sl ([.ref x, .int p0, .int p1]) ++ List.replicate (4 - (lg_sl ([.ref x, .int p0, .int p1])).length) Slot.unset).toArray = ls at hl ⊢
  have hl : lv_has ls 4 [(0, .ref x), (1, .int p0), (2, .int p1)] := hl
  have hP : va_P (dC, dI) vwCl [(x, .inr (8, [.ref xs, .ref xp, .int 0, .int 0, .ref xl, .ref xr])), (xs, .inl (cS, 3, .inr (.inr (.inr (.inr (fun _ => none)))))), (xp, .inl (cP, 8, .inr (.inr (.inr (.inr (fun _ => none)))))), (xl, .inr (4, [.ref xn, .ref xm])), (xn, .inl (cn, 64, .inr (.inl (fun _ => 0)))), (xm, .inl (cm, 64, .inr (.inl (fun _ => 0)))), (xr, .inr (6, [.ref xw, .ref xt])), (xw, .inl (cw, 8, .inr (.inl (fun _ => 0)))), (xt, .inl (ct, 8, .inr (.inl (fun _ => 0))))] s.heap := hP
  refine lv_aload_n hx hb dX4_ofSource_0 rfl (lv_at hl 0 rfl) ?_
  refine lv_iload_n hx hb dX4_ofSource_1 rfl (lv_at hl 1 rfl) ?_
  have hPc := hP.sub (ws' := [(x, .inr (8, [.ref xs, .ref xp, .int 0, .int 0, .ref xl, .ref xr])), (xs, .inl (cS, 3, .inr (.inr (.inr (.inr (fun _ => none)))))), (xp, .inl (cP, 8, .inr (.inr (.inr (.inr (fun _ => none)))))), (xl, .inr (4, [.ref xn, .ref xm])), (xn, .inl (cn, 64, .inr (.inl (fun _ => 0)))), (xm, .inl (cm, 64, .inr (.inl (fun _ => 0)))), (xr, .inr (6, [.ref xw, .ref xt])), (xw, .inl (cw, 8, .inr (.inl (fun _ => 0)))), (xt, .inl (ct, 8, .inr (.inl (fun _ => 0))))]) [0, 1, 2, 3, 4, 5, 6, 7, 8] rfl
  have hKc := hK.sub (tys' := [(cS, .object "Diffractory$Source"), (cP, .object "Diffractory$Part"), (cn, .long), (cm, .long), (cw, .long), (ct, .long)]) [0, 1, 2, 3, 4, 5] rfl
  refine va_callq (va_runV (As := [.int p0]) (rest := []) ⟨hx, hb, hml, hown, hts⟩ (c_X4_sourceAt l dC dI x xs xp xl xn xm xr xw xt cS cP cn cm cw ct sa ta p0) (cwV 1 hts gX4_ofSource_X4_sourceAt rfl rfl rfl (by decide +kernel) ⟨Nat.le_of_ble_eq_true rfl, Nat.le_of_ble_eq_true rfl⟩) ⟨ax_fbR, va_recv hK hP (ci := 8) (q0 := 0) rfl rfl, ax_prR hPc hKc hS hE⟩ rfl rfl hl.1 rfl (lv_room (Nat.le_of_ble_eq_true rfl)) dX4_ofSource_2 ⟨Nat.le_of_ble_eq_true rfl, Nat.le_of_ble_eq_true rfl⟩) hS (fun _ _ h9 => h9.elim) (fun _ h9 => h9.elim) (fun r_1 u_3  t H locs ht hvm hw_2 hB hz1 hk1 hS => ?_)
  have hP := ax_keep hP (fun _ h9 => h9) hk1
  subst hw_2
  refine W.eq (g2 := F0 m 5 ls [.null]) rfl ?_
  refine lv_astore_nN (lv' := [(3, .null), (0, .ref x), (1, .int p0), (2, .int p1)]) hx hb dX4_ofSource_5 rfl hl (by decide) rfl (fun ls hl => ?_)
  refine lv_aload_nN hx hb dX4_ofSource_6 rfl (lv_at hl 0 rfl) ?_
  refine lv_ifnonnullN hx hb dX4_ofSource_7 ?_
  exact vx_throwS hx hb hlt (own := RX4) (cls := "java/lang/IndexOutOfBoundsException") (names := ["java/lang/RuntimeException", "java/lang/Exception"]) hown (by decide +kernel) (by decide +kernel) (hts (.classLink RX4 59 "java/lang/IndexOutOfBoundsException") (by decide +kernel)) (hts (.initialized "java/lang/IndexOutOfBoundsException") (by decide +kernel)) hE.s61 (ax_hat63 hE (fun w h9 => hts w (by first | exact List.mem_cons_of_mem _ (List.mem_append_right _ h9) | exact List.mem_cons_of_mem _ (List.mem_append_left _ (List.mem_append_right _ h9)) | exact List.mem_cons_of_mem _ (List.mem_append_left _ (List.mem_append_left _ (List.mem_append_right _ h9))) | exact List.mem_cons_of_mem _ (List.mem_append_left _ (List.mem_append_left _ (List.mem_append_left _ (List.mem_append_right _ h9)))) | exact List.mem_cons_of_mem _ (List.mem_append_left _ (List.mem_append_left _ (List.mem_append_left _ (List.mem_append_left _ (List.mem_append_right _ h9)))))))) ax_gd63 hE.zU hE.zN hS (hl.1.trans hml.symm) dX4_ofSource_10 dX4_ofSource_13 dX4_ofSource_14 dX4_ofSource_16 dX4_ofSource_19 (fun x h9 => (hnt x h9).elim) (Nat.le_of_ble_eq_true rfl) (Nat.le_of_ble_eq_true rfl) (Nat.le_of_ble_eq_true rfl) (Nat.le_of_ble_eq_true rfl) hlocks (fun t hal hz1 hk1 => ⟨(), by first | trivial | omega, rfl, ax_vaF hS hz1 hk1⟩) hS.2.2 (Nat.le_of_ble_eq_true rfl) (Nat.le_of_ble_eq_true rfl)

set_option maxHeartbeats 4000000 in
set_option maxRecDepth 100000 in
theorem c_X4_without (l : Launch) (hlt : l.stackTraces = false) (dC : Nat → ClassId) (dI : Nat → Nat → Nat) (x xs xp xl xn xm xr xw xt : Nat) (cS cP cn cm cw ct : ClassId) (sa ta : Nat → Nat) (p0 : Int32) (p1 : Int32) : vx_Met l yX4_without wsX4_without ({ frames := 16, cells := 1, slots := 6, locals := 400 }) (va_Pc [.ref x, .int p0, .int p1] (ax_R (dC, dI) vwCl [(x, .inr (8, [.ref xs, .ref xp, .int 0, .int 0, .ref xl, .ref xr])), (xs, .inl (cS, 3, .inr (.inr (.inr (.inr (fun _ => none)))))), (xp, .inl (cP, 8, .inr (.inr (.inr (.inr (fun _ => none)))))), (xl, .inr (4, [.ref xn, .ref xm])), (xn, .inl (cn, 64, .inr (.inl (fun _ => 0)))), (xm, .inl (cm, 64, .inr (.inl (fun _ => 0)))), (xr, .inr (6, [.ref xw, .ref xt])), (xw, .inl (cw, 8, .inr (.inl (fun _ => 0)))), (xt, .inl (ct, 8, .inr (.inl (fun _ => 0))))] [(cS, .object "Diffractory$Source"), (cP, .object "Diffractory$Part"), (cn, .long), (cm, .long), (cw, .long), (ct, .long)] sa ta)) (va_Ql (fun (r : Int64) (u : Unit) => False) (fun _ _ => True) ax_no) (vx_X (fun _ : Unit => True) (fun E _ _ => E = "java/lang/IndexOutOfBoundsException") ax_no) 1 6 ax_no := by
  refine vx_ofW (cc := cX4_without) (maxL := 5) (ret := (some .long)) (by decide) rfl ?_
  intro p e s m args below meth c s₁ B hml hnt hv
  obtain ⟨rfl, hP, hK, hE⟩ := hv
  have hx := B.exec
  have hb := B.bytes
  have hr := B.returns
  have hts := atoms_spec (ws := wsX4_without) B.pre
  have hown : s.vm.findClass RX4 = some m.cls := findClass_of_methodNamed B.named
  have hlocks := B.notSynchronized
  have hS : va_S ax_no s.heap s.heap [] := va_S.rf
  have hl := lv_entry ([.ref x, .int p0, .int p1]) (n := 5) (Nat.le_of_ble_eq_true rfl)
  rw [lg_entry_eq]
  generalize (lg_sl ([.ref x, .int p0, .int p1]) ++ List.replicate (5 - (lg_sl ([.ref x, .int p0, .int p1])).length) Slot.unset).toArray = ls at hl ⊢
  have hl : lv_has ls 5 [(0, .ref x), (1, .int p0), (2, .int p1)] := hl
  have hP : va_P (dC, dI) vwCl [(x, .inr (8, [.ref xs, .ref xp, .int 0, .int 0, .ref xl, .ref xr])), (xs, .inl (cS, 3, .inr (.inr (.inr (.inr (fun _ => none)))))), (xp, .inl (cP, 8, .inr (.inr (.inr (.inr (fun _ => none)))))), (xl, .inr (4, [.ref xn, .ref xm])), (xn, .inl (cn, 64, .inr (.inl (fun _ => 0)))), (xm, .inl (cm, 64, .inr (.inl (fun _ => 0)))), (xr, .inr (6, [.ref xw, .ref xt])), (xw, .inl (cw, 8, .inr (.inl (fun _ => 0)))), (xt, .inl (ct, 8, .inr (.inl (fun _ => 0))))] s.heap := hP
  refine lv_aload_n hx hb dX4_without_0 rfl (lv_at hl 0 rfl) ?_
  refine lv_iload_n hx hb dX4_without_1 rfl (lv_at hl 1 rfl) ?_
  have hPc := hP.sub (ws' := [(x, .inr (8, [.ref xs, .ref xp, .int 0, .int 0, .ref xl, .ref xr])), (xs, .inl (cS, 3, .inr (.inr (.inr (.inr (fun _ => none)))))), (xp, .inl (cP, 8, .inr (.inr (.inr (.inr (fun _ => none)))))), (xl, .inr (4, [.ref xn, .ref xm])), (xn, .inl (cn, 64, .inr (.inl (fun _ => 0)))), (xm, .inl (cm, 64, .inr (.inl (fun _ => 0)))), (xr, .inr (6, [.ref xw, .ref xt])), (xw, .inl (cw, 8, .inr (.inl (fun _ => 0)))), (xt, .inl (ct, 8, .inr (.inl (fun _ => 0))))]) [0, 1, 2, 3, 4, 5, 6, 7, 8] rfl
  have hKc := hK.sub (tys' := [(cS, .object "Diffractory$Source"), (cP, .object "Diffractory$Part"), (cn, .long), (cm, .long), (cw, .long), (ct, .long)]) [0, 1, 2, 3, 4, 5] rfl
  refine va_callq (va_runV (As := [.int p0]) (rest := []) ⟨hx, hb, hml, hown, hts⟩ (c_X4_partAt l dC dI x xs xp xl xn xm xr xw xt cS cP cn cm cw ct sa ta p0) (cwV 1 hts gX4_without_X4_partAt rfl rfl rfl (by decide +kernel) ⟨Nat.le_of_ble_eq_true rfl, Nat.le_of_ble_eq_true rfl⟩) ⟨ax_fbR, va_recv hK hP (ci := 8) (q0 := 0) rfl rfl, ax_prR hPc hKc hS hE⟩ rfl rfl hl.1 rfl (lv_room (Nat.le_of_ble_eq_true rfl)) dX4_without_2 ⟨Nat.le_of_ble_eq_true rfl, Nat.le_of_ble_eq_true rfl⟩) hS (fun _ _ h9 => h9.elim) (fun _ h9 => h9.elim) (fun r_1 u_3  t H locs ht hvm hw_2 hB hz1 hk1 hS => ?_)
  have hP := ax_keep hP (fun _ h9 => h9) hk1
  subst hw_2
  refine W.eq (g2 := F0 m 5 ls [.null]) rfl ?_
  refine lv_astore_nN (lv' := [(3, .null), (0, .ref x), (1, .int p0), (2, .int p1)]) hx hb dX4_without_5 rfl hl (by decide) rfl (fun ls hl => ?_)
  refine lv_aload_nN hx hb dX4_without_6 rfl (lv_at hl 0 rfl) ?_
  refine lv_ifnonnullN hx hb dX4_without_7 ?_
  exact vx_throwS hx hb hlt (own := RX4) (cls := "java/lang/IndexOutOfBoundsException") (names := ["java/lang/RuntimeException", "java/lang/Exception"]) hown (by decide +kernel) (by decide +kernel) (hts (.classLink RX4 59 "java/lang/IndexOutOfBoundsException") (by decide +kernel)) (hts (.initialized "java/lang/IndexOutOfBoundsException") (by decide +kernel)) hE.s91 (ax_hat63 hE (fun w h9 => hts w (by first | exact List.mem_cons_of_mem _ (List.mem_append_right _ h9) | exact List.mem_cons_of_mem _ (List.mem_append_left _ (List.mem_append_right _ h9)) | exact List.mem_cons_of_mem _ (List.mem_append_left _ (List.mem_append_left _ (List.mem_append_right _ h9))) | exact List.mem_cons_of_mem _ (List.mem_append_left _ (List.mem_append_left _ (List.mem_append_left _ (List.mem_append_right _ h9)))) | exact List.mem_cons_of_mem _ (List.mem_append_left _ (List.mem_append_left _ (List.mem_append_left _ (List.mem_append_left _ (List.mem_append_right _ h9)))))))) ax_gd63 hE.zU hE.zN hS (hl.1.trans hml.symm) dX4_without_10 dX4_without_13 dX4_without_14 dX4_without_16 dX4_without_19 (fun x h9 => (hnt x h9).elim) (Nat.le_of_ble_eq_true rfl) (Nat.le_of_ble_eq_true rfl) (Nat.le_of_ble_eq_true rfl) (Nat.le_of_ble_eq_true rfl) hlocks (fun t hal hz1 hk1 => ⟨(), by first | trivial | omega, rfl, ax_vaF hS hz1 hk1⟩) hS.2.2 (Nat.le_of_ble_eq_true rfl) (Nat.le_of_ble_eq_true rfl)

set_option maxHeartbeats 4000000 in
set_option maxRecDepth 100000 in
theorem c_X4_best (l : Launch) (hlt : l.stackTraces = false) (dC : Nat → ClassId) (dI : Nat → Nat → Nat) (x xs xp xl xn xm xr xw xt : Nat) (cS cP cn cm cw ct : ClassId) (sa ta : Nat → Nat) (p0 : Int32) (p1 : Int32) : vx_Met l yX4_best wsX4_best ({ frames := 16, cells := 1, slots := 6, locals := 400 }) (va_Pc [.ref x, .int p0, .int p1] (ax_R (dC, dI) vwCl [(x, .inr (8, [.ref xs, .ref xp, .int 0, .int 0, .ref xl, .ref xr])), (xs, .inl (cS, 3, .inr (.inr (.inr (.inr (fun _ => none)))))), (xp, .inl (cP, 8, .inr (.inr (.inr (.inr (fun _ => none)))))), (xl, .inr (4, [.ref xn, .ref xm])), (xn, .inl (cn, 64, .inr (.inl (fun _ => 0)))), (xm, .inl (cm, 64, .inr (.inl (fun _ => 0)))), (xr, .inr (6, [.ref xw, .ref xt])), (xw, .inl (cw, 8, .inr (.inl (fun _ => 0)))), (xt, .inl (ct, 8, .inr (.inl (fun _ => 0))))] [(cS, .object "Diffractory$Source"), (cP, .object "Diffractory$Part"), (cn, .long), (cm, .long), (cw, .long), (ct, .long)] sa ta)) (va_Qi (fun (r : Int32) (u : Unit) => False) (fun _ _ => True) ax_no) (vx_X (fun _ : Unit => True) (fun E _ _ => E = "java/lang/IndexOutOfBoundsException") ax_no) 1 6 ax_no := by
  refine vx_ofW (cc := cX4_best) (maxL := 12) (ret := (some .int)) (by decide) rfl ?_
  intro p e s m args below meth c s₁ B hml hnt hv
  obtain ⟨rfl, hP, hK, hE⟩ := hv
  have hx := B.exec
  have hb := B.bytes
  have hr := B.returns
  have hts := atoms_spec (ws := wsX4_best) B.pre
  have hown : s.vm.findClass RX4 = some m.cls := findClass_of_methodNamed B.named
  have hlocks := B.notSynchronized
  have hS : va_S ax_no s.heap s.heap [] := va_S.rf
  have hl := lv_entry ([.ref x, .int p0, .int p1]) (n := 12) (Nat.le_of_ble_eq_true rfl)
  rw [lg_entry_eq]
  generalize (lg_sl ([.ref x, .int p0, .int p1]) ++ List.replicate (12 - (lg_sl ([.ref x, .int p0, .int p1])).length) Slot.unset).toArray = ls at hl ⊢
  have hl : lv_has ls 12 [(0, .ref x), (1, .int p0), (2, .int p1)] := hl
  have hP : va_P (dC, dI) vwCl [(x, .inr (8, [.ref xs, .ref xp, .int 0, .int 0, .ref xl, .ref xr])), (xs, .inl (cS, 3, .inr (.inr (.inr (.inr (fun _ => none)))))), (xp, .inl (cP, 8, .inr (.inr (.inr (.inr (fun _ => none)))))), (xl, .inr (4, [.ref xn, .ref xm])), (xn, .inl (cn, 64, .inr (.inl (fun _ => 0)))), (xm, .inl (cm, 64, .inr (.inl (fun _ => 0)))), (xr, .inr (6, [.ref xw, .ref xt])), (xw, .inl (cw, 8, .inr (.inl (fun _ => 0)))), (xt, .inl (ct, 8, .inr (.inl (fun _ => 0))))] s.heap := hP
  refine lv_aload_n hx hb dX4_best_0 rfl (lv_at hl 0 rfl) ?_
  refine lv_iload_n hx hb dX4_best_1 rfl (lv_at hl 1 rfl) ?_
  have hPc := hP.sub (ws' := [(x, .inr (8, [.ref xs, .ref xp, .int 0, .int 0, .ref xl, .ref xr])), (xs, .inl (cS, 3, .inr (.inr (.inr (.inr (fun _ => none)))))), (xp, .inl (cP, 8, .inr (.inr (.inr (.inr (fun _ => none)))))), (xl, .inr (4, [.ref xn, .ref xm])), (xn, .inl (cn, 64, .inr (.inl (fun _ => 0)))), (xm, .inl (cm, 64, .inr (.inl (fun _ => 0)))), (xr, .inr (6, [.ref xw, .ref xt])), (xw, .inl (cw, 8, .inr (.inl (fun _ => 0)))), (xt, .inl (ct, 8, .inr (.inl (fun _ => 0))))]) [0, 1, 2, 3, 4, 5, 6, 7, 8] rfl
  have hKc := hK.sub (tys' := [(cS, .object "Diffractory$Source"), (cP, .object "Diffractory$Part"), (cn, .long), (cm, .long), (cw, .long), (ct, .long)]) [0, 1, 2, 3, 4, 5] rfl
  refine va_callq (va_runV (As := [.int p0]) (rest := []) ⟨hx, hb, hml, hown, hts⟩ (c_X4_partAt l dC dI x xs xp xl xn xm xr xw xt cS cP cn cm cw ct sa ta p0) (cwV 1 hts gX4_best_X4_partAt rfl rfl rfl (by decide +kernel) ⟨Nat.le_of_ble_eq_true rfl, Nat.le_of_ble_eq_true rfl⟩) ⟨ax_fbR, va_recv hK hP (ci := 8) (q0 := 0) rfl rfl, ax_prR hPc hKc hS hE⟩ rfl rfl hl.1 rfl (lv_room (Nat.le_of_ble_eq_true rfl)) dX4_best_2 ⟨Nat.le_of_ble_eq_true rfl, Nat.le_of_ble_eq_true rfl⟩) hS (fun _ _ h9 => h9.elim) (fun _ h9 => h9.elim) (fun r_1 u_3  t H locs ht hvm hw_2 hB hz1 hk1 hS => ?_)
  have hP := ax_keep hP (fun _ h9 => h9) hk1
  subst hw_2
  refine W.eq (g2 := F0 m 5 ls [.null]) rfl ?_
  refine lv_astore_nN (lv' := [(3, .null), (0, .ref x), (1, .int p0), (2, .int p1)]) hx hb dX4_best_5 rfl hl (by decide) rfl (fun ls hl => ?_)
  refine lv_aload_nN hx hb dX4_best_6 rfl (lv_at hl 0 rfl) ?_
  refine lv_ifnonnullN hx hb dX4_best_7 ?_
  exact vx_throwS hx hb hlt (own := RX4) (cls := "java/lang/IndexOutOfBoundsException") (names := ["java/lang/RuntimeException", "java/lang/Exception"]) hown (by decide +kernel) (by decide +kernel) (hts (.classLink RX4 59 "java/lang/IndexOutOfBoundsException") (by decide +kernel)) (hts (.initialized "java/lang/IndexOutOfBoundsException") (by decide +kernel)) hE.s91 (ax_hat63 hE (fun w h9 => hts w (by first | exact List.mem_cons_of_mem _ (List.mem_append_right _ h9) | exact List.mem_cons_of_mem _ (List.mem_append_left _ (List.mem_append_right _ h9)) | exact List.mem_cons_of_mem _ (List.mem_append_left _ (List.mem_append_left _ (List.mem_append_right _ h9))) | exact List.mem_cons_of_mem _ (List.mem_append_left _ (List.mem_append_left _ (List.mem_append_left _ (List.mem_append_right _ h9)))) | exact List.mem_cons_of_mem _ (List.mem_append_left _ (List.mem_append_left _ (List.mem_append_left _ (List.mem_append_left _ (List.mem_append_right _ h9)))))))) ax_gd63 hE.zU hE.zN hS (hl.1.trans hml.symm) dX4_best_10 dX4_best_13 dX4_best_14 dX4_best_16 dX4_best_19 (fun x h9 => (hnt x h9).elim) (Nat.le_of_ble_eq_true rfl) (Nat.le_of_ble_eq_true rfl) (Nat.le_of_ble_eq_true rfl) (Nat.le_of_ble_eq_true rfl) hlocks (fun t hal hz1 hk1 => ⟨(), by first | trivial | omega, rfl, ax_vaF hS hz1 hk1⟩) hS.2.2 (Nat.le_of_ble_eq_true rfl) (Nat.le_of_ble_eq_true rfl)

set_option maxHeartbeats 4000000 in
set_option maxRecDepth 100000 in
theorem c_X4_alone (l : Launch) (hlt : l.stackTraces = false) (dC : Nat → ClassId) (dI : Nat → Nat → Nat) (x xs xp xl xn xm xr xw xt : Nat) (cS cP cn cm cw ct : ClassId) (sa ta : Nat → Nat) (p0 : Int32) : vx_Met l yX4_alone wsX4_alone ({ frames := 16, cells := 1, slots := 6, locals := 400 }) (va_Pc [.ref x, .int p0] (ax_R (dC, dI) vwCl [(x, .inr (8, [.ref xs, .ref xp, .int 0, .int 0, .ref xl, .ref xr])), (xs, .inl (cS, 3, .inr (.inr (.inr (.inr (fun _ => none)))))), (xp, .inl (cP, 8, .inr (.inr (.inr (.inr (fun _ => none)))))), (xl, .inr (4, [.ref xn, .ref xm])), (xn, .inl (cn, 64, .inr (.inl (fun _ => 0)))), (xm, .inl (cm, 64, .inr (.inl (fun _ => 0)))), (xr, .inr (6, [.ref xw, .ref xt])), (xw, .inl (cw, 8, .inr (.inl (fun _ => 0)))), (xt, .inl (ct, 8, .inr (.inl (fun _ => 0))))] [(cS, .object "Diffractory$Source"), (cP, .object "Diffractory$Part"), (cn, .long), (cm, .long), (cw, .long), (ct, .long)] sa ta)) (va_Qi (fun (r : Int32) (u : Unit) => False) (fun _ _ => True) ax_no) (vx_X (fun _ : Unit => True) (fun E _ _ => E = "java/lang/IndexOutOfBoundsException") ax_no) 1 6 ax_no := by
  refine vx_ofW (cc := cX4_alone) (maxL := 3) (ret := (some .int)) (by decide) rfl ?_
  intro p e s m args below meth c s₁ B hml hnt hv
  obtain ⟨rfl, hP, hK, hE⟩ := hv
  have hx := B.exec
  have hb := B.bytes
  have hr := B.returns
  have hts := atoms_spec (ws := wsX4_alone) B.pre
  have hown : s.vm.findClass RX4 = some m.cls := findClass_of_methodNamed B.named
  have hlocks := B.notSynchronized
  have hS : va_S ax_no s.heap s.heap [] := va_S.rf
  have hl := lv_entry ([.ref x, .int p0]) (n := 3) (Nat.le_of_ble_eq_true rfl)
  rw [lg_entry_eq]
  generalize (lg_sl ([.ref x, .int p0]) ++ List.replicate (3 - (lg_sl ([.ref x, .int p0])).length) Slot.unset).toArray = ls at hl ⊢
  have hl : lv_has ls 3 [(0, .ref x), (1, .int p0)] := hl
  have hP : va_P (dC, dI) vwCl [(x, .inr (8, [.ref xs, .ref xp, .int 0, .int 0, .ref xl, .ref xr])), (xs, .inl (cS, 3, .inr (.inr (.inr (.inr (fun _ => none)))))), (xp, .inl (cP, 8, .inr (.inr (.inr (.inr (fun _ => none)))))), (xl, .inr (4, [.ref xn, .ref xm])), (xn, .inl (cn, 64, .inr (.inl (fun _ => 0)))), (xm, .inl (cm, 64, .inr (.inl (fun _ => 0)))), (xr, .inr (6, [.ref xw, .ref xt])), (xw, .inl (cw, 8, .inr (.inl (fun _ => 0)))), (xt, .inl (ct, 8, .inr (.inl (fun _ => 0))))] s.heap := hP
  refine lv_aload_n hx hb dX4_alone_0 rfl (lv_at hl 0 rfl) ?_
  refine lv_iload_n hx hb dX4_alone_1 rfl (lv_at hl 1 rfl) ?_
  have hPc := hP.sub (ws' := [(x, .inr (8, [.ref xs, .ref xp, .int 0, .int 0, .ref xl, .ref xr])), (xs, .inl (cS, 3, .inr (.inr (.inr (.inr (fun _ => none)))))), (xp, .inl (cP, 8, .inr (.inr (.inr (.inr (fun _ => none)))))), (xl, .inr (4, [.ref xn, .ref xm])), (xn, .inl (cn, 64, .inr (.inl (fun _ => 0)))), (xm, .inl (cm, 64, .inr (.inl (fun _ => 0)))), (xr, .inr (6, [.ref xw, .ref xt])), (xw, .inl (cw, 8, .inr (.inl (fun _ => 0)))), (xt, .inl (ct, 8, .inr (.inl (fun _ => 0))))]) [0, 1, 2, 3, 4, 5, 6, 7, 8] rfl
  have hKc := hK.sub (tys' := [(cS, .object "Diffractory$Source"), (cP, .object "Diffractory$Part"), (cn, .long), (cm, .long), (cw, .long), (ct, .long)]) [0, 1, 2, 3, 4, 5] rfl
  refine va_callq (va_runV (As := [.int p0]) (rest := []) ⟨hx, hb, hml, hown, hts⟩ (c_X4_sourceAt l dC dI x xs xp xl xn xm xr xw xt cS cP cn cm cw ct sa ta p0) (cwV 1 hts gX4_alone_X4_sourceAt rfl rfl rfl (by decide +kernel) ⟨Nat.le_of_ble_eq_true rfl, Nat.le_of_ble_eq_true rfl⟩) ⟨ax_fbR, va_recv hK hP (ci := 8) (q0 := 0) rfl rfl, ax_prR hPc hKc hS hE⟩ rfl rfl hl.1 rfl (lv_room (Nat.le_of_ble_eq_true rfl)) dX4_alone_2 ⟨Nat.le_of_ble_eq_true rfl, Nat.le_of_ble_eq_true rfl⟩) hS (fun _ _ h9 => h9.elim) (fun _ h9 => h9.elim) (fun r_1 u_3  t H locs ht hvm hw_2 hB hz1 hk1 hS => ?_)
  have hP := ax_keep hP (fun _ h9 => h9) hk1
  subst hw_2
  refine W.eq (g2 := F0 m 5 ls [.null]) rfl ?_
  refine lv_astore_nN (lv' := [(2, .null), (0, .ref x), (1, .int p0)]) hx hb dX4_alone_5 rfl hl (by decide) rfl (fun ls hl => ?_)
  refine lv_aload_nN hx hb dX4_alone_6 rfl (lv_at hl 0 rfl) ?_
  refine lv_ifnonnullN hx hb dX4_alone_7 ?_
  exact vx_throwS hx hb hlt (own := RX4) (cls := "java/lang/IndexOutOfBoundsException") (names := ["java/lang/RuntimeException", "java/lang/Exception"]) hown (by decide +kernel) (by decide +kernel) (hts (.classLink RX4 59 "java/lang/IndexOutOfBoundsException") (by decide +kernel)) (hts (.initialized "java/lang/IndexOutOfBoundsException") (by decide +kernel)) hE.s61 (ax_hat63 hE (fun w h9 => hts w (by first | exact List.mem_cons_of_mem _ (List.mem_append_right _ h9) | exact List.mem_cons_of_mem _ (List.mem_append_left _ (List.mem_append_right _ h9)) | exact List.mem_cons_of_mem _ (List.mem_append_left _ (List.mem_append_left _ (List.mem_append_right _ h9))) | exact List.mem_cons_of_mem _ (List.mem_append_left _ (List.mem_append_left _ (List.mem_append_left _ (List.mem_append_right _ h9)))) | exact List.mem_cons_of_mem _ (List.mem_append_left _ (List.mem_append_left _ (List.mem_append_left _ (List.mem_append_left _ (List.mem_append_right _ h9)))))))) ax_gd63 hE.zU hE.zN hS (hl.1.trans hml.symm) dX4_alone_10 dX4_alone_13 dX4_alone_14 dX4_alone_16 dX4_alone_19 (fun x h9 => (hnt x h9).elim) (Nat.le_of_ble_eq_true rfl) (Nat.le_of_ble_eq_true rfl) (Nat.le_of_ble_eq_true rfl) (Nat.le_of_ble_eq_true rfl) hlocks (fun t hal hz1 hk1 => ⟨(), by first | trivial | omega, rfl, ax_vaF hS hz1 hk1⟩) hS.2.2 (Nat.le_of_ble_eq_true rfl) (Nat.le_of_ble_eq_true rfl)

set_option maxHeartbeats 4000000 in
set_option maxRecDepth 100000 in
theorem c_X4_amplitude (l : Launch) (hlt : l.stackTraces = false) (dC : Nat → ClassId) (dI : Nat → Nat → Nat) (x xs xp xl xn xm xr xw xt : Nat) (cS cP cn cm cw ct : ClassId) (sa ta : Nat → Nat) (p0 : Int32) (p1 : Int32) (p2 : Int32) (p3 : Int32) : vx_Met l yX4_amplitude wsX4_amplitude ({ frames := 16, cells := 2, slots := 12, locals := 400 }) (va_Pc [.ref x, .int p0, .int p1, .int p2, .int p3] (ax_R (dC, dI) vwCl [(x, .inr (8, [.ref xs, .ref xp, .int 0, .int 0, .ref xl, .ref xr])), (xs, .inl (cS, 3, .inr (.inr (.inr (.inr (fun _ => none)))))), (xp, .inl (cP, 8, .inr (.inr (.inr (.inr (fun _ => none)))))), (xl, .inr (4, [.ref xn, .ref xm])), (xn, .inl (cn, 64, .inr (.inl (fun _ => 0)))), (xm, .inl (cm, 64, .inr (.inl (fun _ => 0)))), (xr, .inr (6, [.ref xw, .ref xt])), (xw, .inl (cw, 8, .inr (.inl (fun _ => 0)))), (xt, .inl (ct, 8, .inr (.inl (fun _ => 0))))] [(cS, .object "Diffractory$Source"), (cP, .object "Diffractory$Part"), (cn, .long), (cm, .long), (cw, .long), (ct, .long)] sa ta)) (va_Ql (fun (r : Int64) (u : Unit) => False) (fun _ _ => True) ax_no) (vx_X (fun _ : Unit => True) (fun E _ _ => E = "java/lang/IndexOutOfBoundsException") ax_no) 2 12 ax_no := by
  refine vx_ofW (cc := cX4_amplitude) (maxL := 6) (ret := (some .long)) (by decide) rfl ?_
  intro p e s m args below meth c s₁ B hml hnt hv
  obtain ⟨rfl, hP, hK, hE⟩ := hv
  have hx := B.exec
  have hb := B.bytes
  have hr := B.returns
  have hts := atoms_spec (ws := wsX4_amplitude) B.pre
  have hown : s.vm.findClass RX4 = some m.cls := findClass_of_methodNamed B.named
  have hlocks := B.notSynchronized
  have hS : va_S ax_no s.heap s.heap [] := va_S.rf
  have hl := lv_entry ([.ref x, .int p0, .int p1, .int p2, .int p3]) (n := 6) (Nat.le_of_ble_eq_true rfl)
  rw [lg_entry_eq]
  generalize (lg_sl ([.ref x, .int p0, .int p1, .int p2, .int p3]) ++ List.replicate (6 - (lg_sl ([.ref x, .int p0, .int p1, .int p2, .int p3])).length) Slot.unset).toArray = ls at hl ⊢
  have hl : lv_has ls 6 [(0, .ref x), (1, .int p0), (2, .int p1), (3, .int p2), (4, .int p3)] := hl
  have hP : va_P (dC, dI) vwCl [(x, .inr (8, [.ref xs, .ref xp, .int 0, .int 0, .ref xl, .ref xr])), (xs, .inl (cS, 3, .inr (.inr (.inr (.inr (fun _ => none)))))), (xp, .inl (cP, 8, .inr (.inr (.inr (.inr (fun _ => none)))))), (xl, .inr (4, [.ref xn, .ref xm])), (xn, .inl (cn, 64, .inr (.inl (fun _ => 0)))), (xm, .inl (cm, 64, .inr (.inl (fun _ => 0)))), (xr, .inr (6, [.ref xw, .ref xt])), (xw, .inl (cw, 8, .inr (.inl (fun _ => 0)))), (xt, .inl (ct, 8, .inr (.inl (fun _ => 0))))] s.heap := hP
  refine lv_aload_n hx hb dX4_amplitude_0 rfl (lv_at hl 0 rfl) ?_
  refine lv_iload_n hx hb dX4_amplitude_1 rfl (lv_at hl 1 rfl) ?_
  have hPc := hP.sub (ws' := [(x, .inr (8, [.ref xs, .ref xp, .int 0, .int 0, .ref xl, .ref xr])), (xs, .inl (cS, 3, .inr (.inr (.inr (.inr (fun _ => none)))))), (xp, .inl (cP, 8, .inr (.inr (.inr (.inr (fun _ => none)))))), (xl, .inr (4, [.ref xn, .ref xm])), (xn, .inl (cn, 64, .inr (.inl (fun _ => 0)))), (xm, .inl (cm, 64, .inr (.inl (fun _ => 0)))), (xr, .inr (6, [.ref xw, .ref xt])), (xw, .inl (cw, 8, .inr (.inl (fun _ => 0)))), (xt, .inl (ct, 8, .inr (.inl (fun _ => 0))))]) [0, 1, 2, 3, 4, 5, 6, 7, 8] rfl
  have hKc := hK.sub (tys' := [(cS, .object "Diffractory$Source"), (cP, .object "Diffractory$Part"), (cn, .long), (cm, .long), (cw, .long), (ct, .long)]) [0, 1, 2, 3, 4, 5] rfl
  refine vx_callv (vx_runV (As := [.int p0]) (rest := []) ⟨hx, hb, hml, hown, hts⟩ (c_X4_checkBehind l hlt dC dI x xs xp xl xn xm xr xw xt cS cP cn cm cw ct sa ta p0) (cwV 1 hts gX4_amplitude_X4_checkBehind rfl rfl rfl (by decide +kernel) ⟨Nat.le_of_ble_eq_true rfl, Nat.le_of_ble_eq_true rfl⟩) ⟨ax_fbR, va_recv hK hP (ci := 8) (q0 := 0) rfl rfl, ax_prR hPc hKc hS hE⟩ rfl rfl hl.1 rfl (lv_room (Nat.le_of_ble_eq_true rfl)) dX4_amplitude_2 ⟨Nat.le_of_ble_eq_true rfl, Nat.le_of_ble_eq_true rfl⟩) hS (fun _ _ h9 => h9.elim) (fun _ h9 => h9.elim) (fun _ _ h9 => h9.elim) (fun E9 ce9 q9 u9 t H locs ht hvm hw9 hB hz1 hk1 hS hce hcv hcl => ?_) (fun u_3  t H locs ht hvm hw_2 hB hz1 hk1 hS => ?_)
  · exact vx_widen (k := 2) (n := 12) (Nat.le_of_ble_eq_true rfl) (Nat.le_of_ble_eq_true rfl) (vx_out (fun x h9 => (hnt x h9).elim) hlocks hce hcv hcl (fun t9 ht9 hal9 => ⟨(), by first | trivial | omega, hB, hS.F ht9⟩) hS.2.2 (Nat.le_refl _) (Nat.le_refl _))
  · have hP := ax_keep hP (fun _ h9 => h9) hk1
    refine lv_aload_n hx hb dX4_amplitude_5 rfl (lv_at hl 0 rfl) ?_
    refine lv_iload_n hx hb dX4_amplitude_6 rfl (lv_at hl 2 rfl) ?_
    have hPc := hP.sub (ws' := [(x, .inr (8, [.ref xs, .ref xp, .int 0, .int 0, .ref xl, .ref xr])), (xs, .inl (cS, 3, .inr (.inr (.inr (.inr (fun _ => none)))))), (xp, .inl (cP, 8, .inr (.inr (.inr (.inr (fun _ => none)))))), (xl, .inr (4, [.ref xn, .ref xm])), (xn, .inl (cn, 64, .inr (.inl (fun _ => 0)))), (xm, .inl (cm, 64, .inr (.inl (fun _ => 0)))), (xr, .inr (6, [.ref xw, .ref xt])), (xw, .inl (cw, 8, .inr (.inl (fun _ => 0)))), (xt, .inl (ct, 8, .inr (.inl (fun _ => 0))))]) [0, 1, 2, 3, 4, 5, 6, 7, 8] rfl
    have hKc := hK.sub (tys' := [(cS, .object "Diffractory$Source"), (cP, .object "Diffractory$Part"), (cn, .long), (cm, .long), (cw, .long), (ct, .long)]) [0, 1, 2, 3, 4, 5] rfl
    refine va_callq (va_runV (As := [.int p1]) (rest := []) ⟨hx, hb, hml, hown, hts⟩ (c_X4_sourceAt l dC dI x xs xp xl xn xm xr xw xt cS cP cn cm cw ct sa ta p1) (cwV 1 hts gX4_amplitude_X4_sourceAt rfl rfl rfl (by decide +kernel) ⟨Nat.le_of_ble_eq_true rfl, Nat.le_of_ble_eq_true rfl⟩) ⟨ax_fbR, va_recv hK hP (ci := 8) (q0 := 0) rfl rfl, ax_prR hPc hKc hS hE⟩ rfl rfl hl.1 rfl (lv_room (Nat.le_of_ble_eq_true rfl)) dX4_amplitude_7 ⟨Nat.le_of_ble_eq_true rfl, Nat.le_of_ble_eq_true rfl⟩) hS (fun _ _ h9 => h9.elim) (fun _ h9 => h9.elim) (fun r_4 u_6  t H locs ht hvm hw_5 hB hz1 hk1 hS => ?_)
    have hP := ax_keep hP (fun _ h9 => h9) hk1
    subst hw_5
    refine W.eq (g2 := F0 m 10 ls [.null]) rfl ?_
    refine lv_astoreN (lv' := [(5, .null), (0, .ref x), (1, .int p0), (2, .int p1), (3, .int p2), (4, .int p3)]) hx hb dX4_amplitude_10 hl (by decide) rfl (fun ls hl => ?_)
    refine lv_aloadN hx hb dX4_amplitude_12 (lv_at hl 0 rfl) ?_
    refine lv_ifnullN (tgt := 24) hx hb dX4_amplitude_14 (by decide) ?_
    exact vx_throwS hx hb hlt (own := RX4) (cls := "java/lang/IndexOutOfBoundsException") (names := ["java/lang/RuntimeException", "java/lang/Exception"]) hown (by decide +kernel) (by decide +kernel) (hts (.classLink RX4 59 "java/lang/IndexOutOfBoundsException") (by decide +kernel)) (hts (.initialized "java/lang/IndexOutOfBoundsException") (by decide +kernel)) hE.s133 (ax_hat63 hE (fun w h9 => hts w (by first | exact List.mem_cons_of_mem _ (List.mem_append_right _ h9) | exact List.mem_cons_of_mem _ (List.mem_append_left _ (List.mem_append_right _ h9)) | exact List.mem_cons_of_mem _ (List.mem_append_left _ (List.mem_append_left _ (List.mem_append_right _ h9))) | exact List.mem_cons_of_mem _ (List.mem_append_left _ (List.mem_append_left _ (List.mem_append_left _ (List.mem_append_right _ h9)))) | exact List.mem_cons_of_mem _ (List.mem_append_left _ (List.mem_append_left _ (List.mem_append_left _ (List.mem_append_left _ (List.mem_append_right _ h9)))))))) ax_gd63 hE.zU hE.zN hS (hl.1.trans hml.symm) dX4_amplitude_24 dX4_amplitude_27 dX4_amplitude_28 dX4_amplitude_30 dX4_amplitude_33 (fun x h9 => (hnt x h9).elim) (Nat.le_of_ble_eq_true rfl) (Nat.le_of_ble_eq_true rfl) (Nat.le_of_ble_eq_true rfl) (Nat.le_of_ble_eq_true rfl) hlocks (fun t hal hz1 hk1 => ⟨(), by first | trivial | omega, rfl, ax_vaF hS hz1 hk1⟩) hS.2.2 (Nat.le_of_ble_eq_true rfl) (Nat.le_of_ble_eq_true rfl)
