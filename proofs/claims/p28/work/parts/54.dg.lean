set_option maxHeartbeats 4000000 in
set_option maxRecDepth 100000 in
theorem c_X4_digest (l : Launch) (dC : Nat → ClassId) (dI : Nat → Nat → Nat) (x xs xp xl xn xm xr xw xt : Nat) (cS cP cL cI : ClassId) (ta : Nat → Nat) (sz : Nat) (u : Nat → Int64) (w : Nat → Int64) (t : Nat → Int64) (L : List Nat) (f : Nat → va_E) (sA : Nat → Option Nat) (pA : Nat → Option Nat) (sd : Nat → Nat) (pd : Nat → Nat) (ed : Nat → Nat) (S : Nat → ST) (P : Nat → PT) (ns : Nat) (np : Nat) (hbn : bn cI L f sA pA sd pd ed S P ns np) : Met l yX4_digest wsX4_digest ({ frames := 7, cells := 0, slots := 0, locals := 169 }) (va_Pc [.ref x] (ax_W (dC, dI) vwCl ([(x, .inr (4, [.ref xs, .ref xp, .int (nI ns), .int (nI np), .ref xl, .ref xr])), (xs, .inl (cS, 3, .inr (.inr (.inr (.inr sA))))), (xp, .inl (cP, 8, .inr (.inr (.inr (.inr pA))))), (xl, .inr (0, [.ref xn, .ref xm])), (xn, .inl (cL, 64, .inr (.inl u))), (xm, .inl (cL, 64, .inr (.inl (fun _ => 0)))), (xr, .inr (2, [.ref xw, .ref xt])), (xw, .inl (cL, 8, .inr (.inl w))), (xt, .inl (cL, 8, .inr (.inl t)))] ++ va_pl L f) [(cS, .object "Diffractory$Source"), (cP, .object "Diffractory$Part"), (cL, .long), (cI, .int)] ta sz)) (va_Ql (fun (r : Int64) (u9 : Nat × Nat × (Nat → Int64) × (Nat → Int64) × (Nat → Int64)) => r = (dgA S P ns np)) (fun (u9 : Nat × Nat × (Nat → Int64) × (Nat → Int64) × (Nat → Int64)) (t9 : State) => va_P (dC, dI) vwCl ([(x, .inr (4, [.ref xs, .ref xp, .int (nI ns), .int (nI np), .ref xl, .ref xr])), (xs, .inl (cS, 3, .inr (.inr (.inr (.inr sA))))), (xp, .inl (cP, 8, .inr (.inr (.inr (.inr pA))))), (xl, .inr (0, [.ref u9.1, .ref u9.2.1])), (u9.1, .inl (cL, 64, .inr (.inl u9.2.2.1))), (u9.2.1, .inl (cL, 64, .inr (.inl (fun _ => 0)))), (xr, .inr (2, [.ref xw, .ref xt])), (xw, .inl (cL, 8, .inr (.inl u9.2.2.2.1))), (xt, .inl (cL, 8, .inr (.inl u9.2.2.2.2)))] ++ va_pl L f) t9.heap ∧ va_K (dC, dI) vwCl [(cS, .object "Diffractory$Source"), (cP, .object "Diffractory$Part"), (cL, .long), (cI, .int)] t9 ∧ va_D (va_A ([(x, .inr (4, [.ref xs, .ref xp, .int (nI ns), .int (nI np), .ref xl, .ref xr])), (xs, .inl (cS, 3, .inr (.inr (.inr (.inr sA))))), (xp, .inl (cP, 8, .inr (.inr (.inr (.inr pA))))), (xl, .inr (0, [.ref xn, .ref xm])), (xn, .inl (cL, 64, .inr (.inl u))), (xm, .inl (cL, 64, .inr (.inl (fun _ => 0)))), (xr, .inr (2, [.ref xw, .ref xt])), (xw, .inl (cL, 8, .inr (.inl w))), (xt, .inl (cL, 8, .inr (.inl t)))] ++ va_pl L f) sz) ([(x, .inr (4, [.ref xs, .ref xp, .int (nI ns), .int (nI np), .ref xl, .ref xr])), (xs, .inl (cS, 3, .inr (.inr (.inr (.inr sA))))), (xp, .inl (cP, 8, .inr (.inr (.inr (.inr pA))))), (xl, .inr (0, [.ref u9.1, .ref u9.2.1])), (u9.1, .inl (cL, 64, .inr (.inl u9.2.2.1))), (u9.2.1, .inl (cL, 64, .inr (.inl (fun _ => 0)))), (xr, .inr (2, [.ref xw, .ref xt])), (xw, .inl (cL, 8, .inr (.inl u9.2.2.2.1))), (xt, .inl (cL, 8, .inr (.inl u9.2.2.2.2)))] ++ va_pl L f)) (va_A ([(x, .inr (4, [.ref xs, .ref xp, .int (nI ns), .int (nI np), .ref xl, .ref xr])), (xs, .inl (cS, 3, .inr (.inr (.inr (.inr sA))))), (xp, .inl (cP, 8, .inr (.inr (.inr (.inr pA))))), (xl, .inr (0, [.ref xn, .ref xm])), (xn, .inl (cL, 64, .inr (.inl u))), (xm, .inl (cL, 64, .inr (.inl (fun _ => 0)))), (xr, .inr (2, [.ref xw, .ref xt])), (xw, .inl (cL, 8, .inr (.inl w))), (xt, .inl (cL, 8, .inr (.inl t)))] ++ va_pl L f) sz)) 0 0 (va_A ([(x, .inr (4, [.ref xs, .ref xp, .int (nI ns), .int (nI np), .ref xl, .ref xr])), (xs, .inl (cS, 3, .inr (.inr (.inr (.inr sA))))), (xp, .inl (cP, 8, .inr (.inr (.inr (.inr pA))))), (xl, .inr (0, [.ref xn, .ref xm])), (xn, .inl (cL, 64, .inr (.inl u))), (xm, .inl (cL, 64, .inr (.inl (fun _ => 0)))), (xr, .inr (2, [.ref xw, .ref xt])), (xw, .inl (cL, 8, .inr (.inl w))), (xt, .inl (cL, 8, .inr (.inl t)))] ++ va_pl L f) sz) := by
  refine Met.ofW (cc := cX4_digest) (maxL := 5) (ret := (some .long)) (by decide) rfl ?_
  intro p e s m args below meth c s₁ B hml hv
  obtain ⟨rfl, hsz, hP, hK, hD0, hE⟩ := hv
  have hx := B.exec
  have hb := B.bytes
  have hr := B.returns
  have hts := atoms_spec (ws := wsX4_digest) B.pre
  have hown : s.vm.findClass RX4 = some m.cls := findClass_of_methodNamed B.named
  have hlocks := B.notSynchronized
  subst hsz
  have hD := hD0.self (sz := s.heap.size)
  generalize hAe : va_A ([(x, .inr (4, [.ref xs, .ref xp, .int (nI ns), .int (nI np), .ref xl, .ref xr])), (xs, .inl (cS, 3, .inr (.inr (.inr (.inr sA))))), (xp, .inl (cP, 8, .inr (.inr (.inr (.inr pA))))), (xl, .inr (0, [.ref xn, .ref xm])), (xn, .inl (cL, 64, .inr (.inl u))), (xm, .inl (cL, 64, .inr (.inl (fun _ => 0)))), (xr, .inr (2, [.ref xw, .ref xt])), (xw, .inl (cL, 8, .inr (.inl w))), (xt, .inl (cL, 8, .inr (.inl t)))] ++ va_pl L f) s.heap.size = A at hD hE ⊢
  have hA : ∀ q : Nat, s.heap.size ≤ q → A q := fun q h => by rw [← hAe]; exact Or.inr h
  have hS : va_S A s.heap s.heap [] := va_S.rf
  have hl := lv_entry ([.ref x]) (n := 5) (Nat.le_of_ble_eq_true rfl)
  rw [lg_entry_eq]
  generalize (lg_sl ([.ref x]) ++ List.replicate (5 - (lg_sl ([.ref x])).length) Slot.unset).toArray = ls at hl ⊢
  have hl : lv_has ls 5 [(0, .ref x)] := hl
  have hP : va_P (dC, dI) vwCl ([(x, .inr (4, [.ref xs, .ref xp, .int (nI ns), .int (nI np), .ref xl, .ref xr])), (xs, .inl (cS, 3, .inr (.inr (.inr (.inr sA))))), (xp, .inl (cP, 8, .inr (.inr (.inr (.inr pA))))), (xl, .inr (0, [.ref xn, .ref xm])), (xn, .inl (cL, 64, .inr (.inl u))), (xm, .inl (cL, 64, .inr (.inl (fun _ => 0)))), (xr, .inr (2, [.ref xw, .ref xt])), (xw, .inl (cL, 8, .inr (.inl w))), (xt, .inl (cL, 8, .inr (.inl t)))] ++ va_pl L f) s.heap := hP
  obtain ⟨hns3, hnp8, hbS, hbP, hiS, hiP, hiE⟩ := id hbn
  refine lv_ldc2 (v := 9507) hx hb hown (hts (.constantLong RX4 225 9507) (by decide +kernel)) dX4_digest_0 ?_
  refine lv_lstore_n (lv' := [(1, .long 9507), (0, .ref x)]) hx hb dX4_digest_3 rfl hl (by decide) rfl (fun ls hl => ?_)
  refine lv_iconst (v := 0) hx hb dX4_digest_4 (by decide) ?_
  refine lv_istore_n (lv' := [(3, .int 0), (1, .long 9507), (0, .ref x)]) hx hb dX4_digest_5 rfl hl (by decide) rfl (fun ls hl => ?_)
  refine lv_iload_n hx hb dX4_digest_6 rfl (lv_at hl 0 rfl) ?_
  refine lv_iconst (v := 4) hx hb dX4_digest_7 (by decide) ?_
  refine lv_icmp_gt (tgt := 30) hx hb dX4_digest_8 (by decide) (fun h9 => absurd h9 (by decide)) (fun _ => ?_)
  refine lv_lload_n hx hb dX4_digest_11 rfl (lv_at hl 1 rfl) ?_
  refine lv_ldc2 (v := 31) hx hb hown (hts (.constantLong RX4 227 31) (by decide +kernel)) dX4_digest_12 ?_
  refine lv_lmul hx hb dX4_digest_15 ?_
  refine lv_aload_n hx hb dX4_digest_16 rfl (lv_at hl 2 rfl) ?_
  refine lv_iload_n hx hb dX4_digest_17 rfl (lv_at hl 0 rfl) ?_
  have hPc : va_P (dC, dI) vwCl ([(x, .inr (4, [.ref xs, .ref xp, .int (nI ns), .int (nI np), .ref xl, .ref xr])), (xs, .inl (cS, 3, .inr (.inr (.inr (.inr sA))))), (xp, .inl (cP, 8, .inr (.inr (.inr (.inr pA))))), (xl, .inr (0, [.ref xn, .ref xm])), (xn, .inl (cL, 64, .inr (.inl u))), (xm, .inl (cL, 64, .inr (.inl (fun _ => 0)))), (xr, .inr (2, [.ref xw, .ref xt])), (xw, .inl (cL, 8, .inr (.inl w))), (xt, .inl (cL, 8, .inr (.inl t)))] ++ va_pl L f) s.heap := hP.part [0, 1, 2, 3, 4, 5, 6, 7, 8] rfl
  have hKc := hK.sub (tys' := [(cS, .object "Diffractory$Source"), (cP, .object "Diffractory$Part"), (cL, .long), (cI, .int)]) [0, 1, 2, 3] rfl
  refine va_calli (va_runV (As := [.int 0]) (rest := [.long (9507 * 31)]) ⟨hx, hb, hml, hown, hts⟩ (c_X4_many_0 l dC dI x xs xp xl xn xm xr xw xt cS cP cL cI ta u w t L f sA pA sd pd ed S P ns np hbn) (cwV 1 hts gX4_digest_X4_many rfl rfl rfl (by decide +kernel) ⟨Nat.le_of_ble_eq_true rfl, Nat.le_of_ble_eq_true rfl⟩) ⟨ax_fbR, va_recv hK hP (ci := 4) (q0 := 0) rfl rfl, ax_prR hPc hKc hS hE⟩ rfl rfl hl.1 rfl (lv_room (Nat.le_of_ble_eq_true rfl)) dX4_digest_18 ⟨Nat.le_of_ble_eq_true rfl, Nat.le_of_ble_eq_true rfl⟩) hS (fun _ _ h9 => h9.elim) (fun _ h9 => h9.elim) (fun r_1 u_3 t8 H locs ht hvm hw_2 hB hz1 hk1 hS => ?_)
  have hP := ax_keep hP (fun _ h9 => h9) hk1
  have hw_2 : r_1 = (nI ns) := hw_2
  refine ax_i (y := (nI ns)) hw_2 ?_
  refine lv_i2l (v := (nI ns).toInt64) hx hb dX4_digest_21 rfl ?_
  refine lv_ladd hx hb dX4_digest_22 ?_
  refine lv_lstore_n (lv' := [(1, .long ((9507 * 31) + ((nI ns).toInt64))), (3, .int 0), (0, .ref x)]) hx hb dX4_digest_23 rfl hl (by decide) rfl (fun ls hl => ?_)
  refine lv_iinc (v := 1) (lv' := [(3, .int 1), (1, .long ((9507 * 31) + ((nI ns).toInt64))), (0, .ref x)]) hx hb dX4_digest_24 hl (k := 1) rfl (by decide) (by decide) rfl (fun ls hl => ?_)
  refine lv_goto (tgt := 6) hx hb dX4_digest_27 (by decide) ?_
  refine lv_iload_n hx hb dX4_digest_6 rfl (lv_at hl 0 rfl) ?_
  refine lv_iconst (v := 4) hx hb dX4_digest_7 (by decide) ?_
  refine lv_icmp_gt (tgt := 30) hx hb dX4_digest_8 (by decide) (fun h9 => absurd h9 (by decide)) (fun _ => ?_)
  refine lv_lload_n hx hb dX4_digest_11 rfl (lv_at hl 1 rfl) ?_
  refine lv_ldc2 (v := 31) hx hb hown (hts (.constantLong RX4 227 31) (by decide +kernel)) dX4_digest_12 ?_
  refine lv_lmul hx hb dX4_digest_15 ?_
  refine lv_aload_n hx hb dX4_digest_16 rfl (lv_at hl 2 rfl) ?_
  refine lv_iload_n hx hb dX4_digest_17 rfl (lv_at hl 0 rfl) ?_
  have hPc : va_P (dC, dI) vwCl ([(x, .inr (4, [.ref xs, .ref xp, .int (nI ns), .int (nI np), .ref xl, .ref xr])), (xs, .inl (cS, 3, .inr (.inr (.inr (.inr sA))))), (xp, .inl (cP, 8, .inr (.inr (.inr (.inr pA))))), (xl, .inr (0, [.ref xn, .ref xm])), (xn, .inl (cL, 64, .inr (.inl u))), (xm, .inl (cL, 64, .inr (.inl (fun _ => 0)))), (xr, .inr (2, [.ref xw, .ref xt])), (xw, .inl (cL, 8, .inr (.inl w))), (xt, .inl (cL, 8, .inr (.inl t)))] ++ va_pl L f) H := hP.part [0, 1, 2, 3, 4, 5, 6, 7, 8] rfl
  have hKc := hK.sub (tys' := [(cS, .object "Diffractory$Source"), (cP, .object "Diffractory$Part"), (cL, .long), (cI, .int)]) [0, 1, 2, 3] rfl
  refine va_calli (va_runV (As := [.int 1]) (rest := [.long (((9507 * 31) + ((nI ns).toInt64)) * 31)]) ⟨hx, hb, hml, hown, hts⟩ (c_X4_many_1 l dC dI x xs xp xl xn xm xr xw xt cS cP cL cI ta u w t L f sA pA sd pd ed S P ns np hbn) (cwV 1 hts gX4_digest_X4_many rfl rfl rfl (by decide +kernel) ⟨Nat.le_of_ble_eq_true rfl, Nat.le_of_ble_eq_true rfl⟩) ⟨ax_fbR, va_recv hK hP (ci := 4) (q0 := 0) rfl rfl, ax_prR hPc hKc hS hE⟩ rfl rfl hl.1 rfl (lv_room (Nat.le_of_ble_eq_true rfl)) dX4_digest_18 ⟨Nat.le_of_ble_eq_true rfl, Nat.le_of_ble_eq_true rfl⟩) hS (fun _ _ h9 => h9.elim) (fun _ h9 => h9.elim) (fun r_4 u_6 t8 H locs ht hvm hw_5 hB hz1 hk1 hS => ?_)
  have hP := ax_keep hP (fun _ h9 => h9) hk1
  have hw_5 : r_4 = (nI np) := hw_5
  refine ax_i (y := (nI np)) hw_5 ?_
  refine lv_i2l (v := (nI np).toInt64) hx hb dX4_digest_21 rfl ?_
  refine lv_ladd hx hb dX4_digest_22 ?_
  refine lv_lstore_n (lv' := [(1, .long ((((9507 * 31) + ((nI ns).toInt64)) * 31) + ((nI np).toInt64))), (3, .int 1), (0, .ref x)]) hx hb dX4_digest_23 rfl hl (by decide) rfl (fun ls hl => ?_)
  refine lv_iinc (v := 2) (lv' := [(3, .int 2), (1, .long ((((9507 * 31) + ((nI ns).toInt64)) * 31) + ((nI np).toInt64))), (0, .ref x)]) hx hb dX4_digest_24 hl (k := 1) rfl (by decide) (by decide) rfl (fun ls hl => ?_)
  refine lv_goto (tgt := 6) hx hb dX4_digest_27 (by decide) ?_
  refine lv_iload_n hx hb dX4_digest_6 rfl (lv_at hl 0 rfl) ?_
  refine lv_iconst (v := 4) hx hb dX4_digest_7 (by decide) ?_
  refine lv_icmp_gt (tgt := 30) hx hb dX4_digest_8 (by decide) (fun h9 => absurd h9 (by decide)) (fun _ => ?_)
  refine lv_lload_n hx hb dX4_digest_11 rfl (lv_at hl 1 rfl) ?_
  refine lv_ldc2 (v := 31) hx hb hown (hts (.constantLong RX4 227 31) (by decide +kernel)) dX4_digest_12 ?_
  refine lv_lmul hx hb dX4_digest_15 ?_
  refine lv_aload_n hx hb dX4_digest_16 rfl (lv_at hl 2 rfl) ?_
  refine lv_iload_n hx hb dX4_digest_17 rfl (lv_at hl 0 rfl) ?_
  have hPc : va_P (dC, dI) vwCl ([(x, .inr (4, [.ref xs, .ref xp, .int (nI ns), .int (nI np), .ref xl, .ref xr])), (xs, .inl (cS, 3, .inr (.inr (.inr (.inr sA))))), (xp, .inl (cP, 8, .inr (.inr (.inr (.inr pA))))), (xl, .inr (0, [.ref xn, .ref xm])), (xn, .inl (cL, 64, .inr (.inl u))), (xm, .inl (cL, 64, .inr (.inl (fun _ => 0)))), (xr, .inr (2, [.ref xw, .ref xt])), (xw, .inl (cL, 8, .inr (.inl w))), (xt, .inl (cL, 8, .inr (.inl t)))] ++ va_pl L f) H := hP.part [0, 1, 2, 3, 4, 5, 6, 7, 8] rfl
  have hKc := hK.sub (tys' := [(cS, .object "Diffractory$Source"), (cP, .object "Diffractory$Part"), (cL, .long), (cI, .int)]) [0, 1, 2, 3] rfl
  refine va_calli (va_runV (As := [.int 2]) (rest := [.long (((((9507 * 31) + ((nI ns).toInt64)) * 31) + ((nI np).toInt64)) * 31)]) ⟨hx, hb, hml, hown, hts⟩ (c_X4_many_2 l dC dI x xs xp xl xn xm xr xw xt cS cP cL cI ta u w t L f sA pA sd pd ed S P ns np hbn) (cwV 1 hts gX4_digest_X4_many rfl rfl rfl (by decide +kernel) ⟨Nat.le_of_ble_eq_true rfl, Nat.le_of_ble_eq_true rfl⟩) ⟨ax_fbR, va_recv hK hP (ci := 4) (q0 := 0) rfl rfl, ax_prR hPc hKc hS hE⟩ rfl rfl hl.1 rfl (lv_room (Nat.le_of_ble_eq_true rfl)) dX4_digest_18 ⟨Nat.le_of_ble_eq_true rfl, Nat.le_of_ble_eq_true rfl⟩) hS (fun _ _ h9 => h9.elim) (fun _ h9 => h9.elim) (fun r_7 u_9 t8 H locs ht hvm hw_8 hB hz1 hk1 hS => ?_)
  have hP := ax_keep hP (fun _ h9 => h9) hk1
  have hw_8 : r_7 = (nI (cinR P np)) := hw_8
  refine ax_i (y := (nI (cinR P np))) hw_8 ?_
  refine lv_i2l (v := (nI (cinR P np)).toInt64) hx hb dX4_digest_21 rfl ?_
  refine lv_ladd hx hb dX4_digest_22 ?_
  refine lv_lstore_n (lv' := [(1, .long ((((((9507 * 31) + ((nI ns).toInt64)) * 31) + ((nI np).toInt64)) * 31) + ((nI (cinR P np)).toInt64))), (3, .int 2), (0, .ref x)]) hx hb dX4_digest_23 rfl hl (by decide) rfl (fun ls hl => ?_)
  refine lv_iinc (v := 3) (lv' := [(3, .int 3), (1, .long ((((((9507 * 31) + ((nI ns).toInt64)) * 31) + ((nI np).toInt64)) * 31) + ((nI (cinR P np)).toInt64))), (0, .ref x)]) hx hb dX4_digest_24 hl (k := 1) rfl (by decide) (by decide) rfl (fun ls hl => ?_)
  refine lv_goto (tgt := 6) hx hb dX4_digest_27 (by decide) ?_
  refine lv_iload_n hx hb dX4_digest_6 rfl (lv_at hl 0 rfl) ?_
  refine lv_iconst (v := 4) hx hb dX4_digest_7 (by decide) ?_
  refine lv_icmp_gt (tgt := 30) hx hb dX4_digest_8 (by decide) (fun h9 => absurd h9 (by decide)) (fun _ => ?_)
  refine lv_lload_n hx hb dX4_digest_11 rfl (lv_at hl 1 rfl) ?_
  refine lv_ldc2 (v := 31) hx hb hown (hts (.constantLong RX4 227 31) (by decide +kernel)) dX4_digest_12 ?_
  refine lv_lmul hx hb dX4_digest_15 ?_
  refine lv_aload_n hx hb dX4_digest_16 rfl (lv_at hl 2 rfl) ?_
  refine lv_iload_n hx hb dX4_digest_17 rfl (lv_at hl 0 rfl) ?_
  have hPc : va_P (dC, dI) vwCl ([(x, .inr (4, [.ref xs, .ref xp, .int (nI ns), .int (nI np), .ref xl, .ref xr])), (xs, .inl (cS, 3, .inr (.inr (.inr (.inr sA))))), (xp, .inl (cP, 8, .inr (.inr (.inr (.inr pA))))), (xl, .inr (0, [.ref xn, .ref xm])), (xn, .inl (cL, 64, .inr (.inl u))), (xm, .inl (cL, 64, .inr (.inl (fun _ => 0)))), (xr, .inr (2, [.ref xw, .ref xt])), (xw, .inl (cL, 8, .inr (.inl w))), (xt, .inl (cL, 8, .inr (.inl t)))] ++ va_pl L f) H := hP.part [0, 1, 2, 3, 4, 5, 6, 7, 8] rfl
  have hKc := hK.sub (tys' := [(cS, .object "Diffractory$Source"), (cP, .object "Diffractory$Part"), (cL, .long), (cI, .int)]) [0, 1, 2, 3] rfl
  refine va_calli (va_runV (As := [.int 3]) (rest := [.long (((((((9507 * 31) + ((nI ns).toInt64)) * 31) + ((nI np).toInt64)) * 31) + ((nI (cinR P np)).toInt64)) * 31)]) ⟨hx, hb, hml, hown, hts⟩ (c_X4_many_3 l dC dI x xs xp xl xn xm xr xw xt cS cP cL cI ta u w t L f sA pA sd pd ed S P ns np hbn) (cwV 1 hts gX4_digest_X4_many rfl rfl rfl (by decide +kernel) ⟨Nat.le_of_ble_eq_true rfl, Nat.le_of_ble_eq_true rfl⟩) ⟨ax_fbR, va_recv hK hP (ci := 4) (q0 := 0) rfl rfl, ax_prR hPc hKc hS hE⟩ rfl rfl hl.1 rfl (lv_room (Nat.le_of_ble_eq_true rfl)) dX4_digest_18 ⟨Nat.le_of_ble_eq_true rfl, Nat.le_of_ble_eq_true rfl⟩) hS (fun _ _ h9 => h9.elim) (fun _ h9 => h9.elim) (fun r_10 u_12 t8 H locs ht hvm hw_11 hB hz1 hk1 hS => ?_)
  have hP := ax_keep hP (fun _ h9 => h9) hk1
  have hw_11 : r_10 = (fcR P 0 np) := hw_11
  refine ax_i (y := (fcR P 0 np)) hw_11 ?_
  refine lv_i2l (v := (fcR P 0 np).toInt64) hx hb dX4_digest_21 rfl ?_
  refine lv_ladd hx hb dX4_digest_22 ?_
  refine lv_lstore_n (lv' := [(1, .long ((((((((9507 * 31) + ((nI ns).toInt64)) * 31) + ((nI np).toInt64)) * 31) + ((nI (cinR P np)).toInt64)) * 31) + ((fcR P 0 np).toInt64))), (3, .int 3), (0, .ref x)]) hx hb dX4_digest_23 rfl hl (by decide) rfl (fun ls hl => ?_)
  refine lv_iinc (v := 4) (lv' := [(3, .int 4), (1, .long ((((((((9507 * 31) + ((nI ns).toInt64)) * 31) + ((nI np).toInt64)) * 31) + ((nI (cinR P np)).toInt64)) * 31) + ((fcR P 0 np).toInt64))), (0, .ref x)]) hx hb dX4_digest_24 hl (k := 1) rfl (by decide) (by decide) rfl (fun ls hl => ?_)
  refine lv_goto (tgt := 6) hx hb dX4_digest_27 (by decide) ?_
  refine lv_iload_n hx hb dX4_digest_6 rfl (lv_at hl 0 rfl) ?_
  refine lv_iconst (v := 4) hx hb dX4_digest_7 (by decide) ?_
  refine lv_icmp_gt (tgt := 30) hx hb dX4_digest_8 (by decide) (fun h9 => absurd h9 (by decide)) (fun _ => ?_)
  refine lv_lload_n hx hb dX4_digest_11 rfl (lv_at hl 1 rfl) ?_
  refine lv_ldc2 (v := 31) hx hb hown (hts (.constantLong RX4 227 31) (by decide +kernel)) dX4_digest_12 ?_
  refine lv_lmul hx hb dX4_digest_15 ?_
  refine lv_aload_n hx hb dX4_digest_16 rfl (lv_at hl 2 rfl) ?_
  refine lv_iload_n hx hb dX4_digest_17 rfl (lv_at hl 0 rfl) ?_
  have hPc : va_P (dC, dI) vwCl ([(x, .inr (4, [.ref xs, .ref xp, .int (nI ns), .int (nI np), .ref xl, .ref xr])), (xs, .inl (cS, 3, .inr (.inr (.inr (.inr sA))))), (xp, .inl (cP, 8, .inr (.inr (.inr (.inr pA))))), (xl, .inr (0, [.ref xn, .ref xm])), (xn, .inl (cL, 64, .inr (.inl u))), (xm, .inl (cL, 64, .inr (.inl (fun _ => 0)))), (xr, .inr (2, [.ref xw, .ref xt])), (xw, .inl (cL, 8, .inr (.inl w))), (xt, .inl (cL, 8, .inr (.inl t)))] ++ va_pl L f) H := hP.part [0, 1, 2, 3, 4, 5, 6, 7, 8] rfl
  have hKc := hK.sub (tys' := [(cS, .object "Diffractory$Source"), (cP, .object "Diffractory$Part"), (cL, .long), (cI, .int)]) [0, 1, 2, 3] rfl
  refine va_calli (va_runV (As := [.int 4]) (rest := [.long (((((((((9507 * 31) + ((nI ns).toInt64)) * 31) + ((nI np).toInt64)) * 31) + ((nI (cinR P np)).toInt64)) * 31) + ((fcR P 0 np).toInt64)) * 31)]) ⟨hx, hb, hml, hown, hts⟩ (c_X4_many_4 l dC dI x xs xp xl xn xm xr xw xt cS cP cL cI ta u w t L f sA pA sd pd ed S P ns np hbn) (cwV 1 hts gX4_digest_X4_many rfl rfl rfl (by decide +kernel) ⟨Nat.le_of_ble_eq_true rfl, Nat.le_of_ble_eq_true rfl⟩) ⟨ax_fbR, va_recv hK hP (ci := 4) (q0 := 0) rfl rfl, ax_prR hPc hKc hS hE⟩ rfl rfl hl.1 rfl (lv_room (Nat.le_of_ble_eq_true rfl)) dX4_digest_18 ⟨Nat.le_of_ble_eq_true rfl, Nat.le_of_ble_eq_true rfl⟩) hS (fun _ _ h9 => h9.elim) (fun _ h9 => h9.elim) (fun r_13 u_15 t8 H locs ht hvm hw_14 hB hz1 hk1 hS => ?_)
  have hP := ax_keep hP (fun _ h9 => h9) hk1
  have hw_14 : r_13 = (nI (cexR P np)) := hw_14
  refine ax_i (y := (nI (cexR P np))) hw_14 ?_
  refine lv_i2l (v := (nI (cexR P np)).toInt64) hx hb dX4_digest_21 rfl ?_
  refine lv_ladd hx hb dX4_digest_22 ?_
  refine lv_lstore_n (lv' := [(1, .long ((((((((((9507 * 31) + ((nI ns).toInt64)) * 31) + ((nI np).toInt64)) * 31) + ((nI (cinR P np)).toInt64)) * 31) + ((fcR P 0 np).toInt64)) * 31) + ((nI (cexR P np)).toInt64))), (3, .int 4), (0, .ref x)]) hx hb dX4_digest_23 rfl hl (by decide) rfl (fun ls hl => ?_)
  refine lv_iinc (v := 5) (lv' := [(3, .int 5), (1, .long ((((((((((9507 * 31) + ((nI ns).toInt64)) * 31) + ((nI np).toInt64)) * 31) + ((nI (cinR P np)).toInt64)) * 31) + ((fcR P 0 np).toInt64)) * 31) + ((nI (cexR P np)).toInt64))), (0, .ref x)]) hx hb dX4_digest_24 hl (k := 1) rfl (by decide) (by decide) rfl (fun ls hl => ?_)
  refine lv_goto (tgt := 6) hx hb dX4_digest_27 (by decide) ?_
  refine lv_iload_n hx hb dX4_digest_6 rfl (lv_at hl 0 rfl) ?_
  refine lv_iconst (v := 4) hx hb dX4_digest_7 (by decide) ?_
  refine lv_icmp_gt (tgt := 30) hx hb dX4_digest_8 (by decide) (fun _ => ?_) (fun h9 => absurd (by decide) h9)
  refine lv_iconst (v := 0) hx hb dX4_digest_30 (by decide) ?_
  refine lv_istore_n (lv' := [(3, .int 0), (1, .long ((((((((((9507 * 31) + ((nI ns).toInt64)) * 31) + ((nI np).toInt64)) * 31) + ((nI (cinR P np)).toInt64)) * 31) + ((fcR P 0 np).toInt64)) * 31) + ((nI (cexR P np)).toInt64))), (0, .ref x)]) hx hb dX4_digest_31 rfl hl (by decide) rfl (fun ls hl => ?_)
  refine ax_loop (σ := Nat × Int64 × Nat × Nat × (Nat → Int64) × (Nat → Int64) × (Nat → Int64)) (fun z9 H locs ls => (z9.1 ≤ ns) ∧ (z9.2.1 = dgS S P np (dgM S P ns np) z9.1) ∧ lv_has ls 5 [(3, .int (nI z9.1)), (1, .long z9.2.1), (0, .ref x)] ∧ va_P (dC, dI) vwCl ([(x, .inr (4, [.ref xs, .ref xp, .int (nI ns), .int (nI np), .ref xl, .ref xr])), (xs, .inl (cS, 3, .inr (.inr (.inr (.inr sA))))), (xp, .inl (cP, 8, .inr (.inr (.inr (.inr pA))))), (xl, .inr (0, [.ref z9.2.2.1, .ref z9.2.2.2.1])), (z9.2.2.1, .inl (cL, 64, .inr (.inl z9.2.2.2.2.1))), (z9.2.2.2.1, .inl (cL, 64, .inr (.inl (fun _ => 0)))), (xr, .inr (2, [.ref xw, .ref xt])), (xw, .inl (cL, 8, .inr (.inl z9.2.2.2.2.2.1))), (xt, .inl (cL, 8, .inr (.inl z9.2.2.2.2.2.2)))] ++ va_pl L f) H ∧ va_D A ([(x, .inr (4, [.ref xs, .ref xp, .int (nI ns), .int (nI np), .ref xl, .ref xr])), (xs, .inl (cS, 3, .inr (.inr (.inr (.inr sA))))), (xp, .inl (cP, 8, .inr (.inr (.inr (.inr pA))))), (xl, .inr (0, [.ref z9.2.2.1, .ref z9.2.2.2.1])), (z9.2.2.1, .inl (cL, 64, .inr (.inl z9.2.2.2.2.1))), (z9.2.2.2.1, .inl (cL, 64, .inr (.inl (fun _ => 0)))), (xr, .inr (2, [.ref xw, .ref xt])), (xw, .inl (cL, 8, .inr (.inl z9.2.2.2.2.2.1))), (xt, .inl (cL, 8, .inr (.inl z9.2.2.2.2.2.2)))] ++ va_pl L f) ∧ va_S A s.heap H locs) (fun z9 => ns - z9.1) (fun z9 H locs ls hI ih => ?_) (0, ((((((((((9507 * 31) + ((nI ns).toInt64)) * 31) + ((nI np).toInt64)) * 31) + ((nI (cinR P np)).toInt64)) * 31) + ((fcR P 0 np).toInt64)) * 31) + ((nI (cexR P np)).toInt64)), xn, xm, u, w, t) ⟨by omega, rfl, hl, hP, hD, hS⟩
  obtain ⟨i, dd, n1, m1, u1, w1, t1⟩ := z9
  obtain ⟨hin, hdd, hl, hP, hD, hS⟩ := hI
  have hin : i ≤ ns := hin
  have hdd : dd = dgS S P np (dgM S P ns np) i := hdd
  have hl : lv_has ls 5 [(3, .int (nI i)), (1, .long dd), (0, .ref x)] := hl
  have hP : va_P (dC, dI) vwCl ([(x, .inr (4, [.ref xs, .ref xp, .int (nI ns), .int (nI np), .ref xl, .ref xr])), (xs, .inl (cS, 3, .inr (.inr (.inr (.inr sA))))), (xp, .inl (cP, 8, .inr (.inr (.inr (.inr pA))))), (xl, .inr (0, [.ref n1, .ref m1])), (n1, .inl (cL, 64, .inr (.inl u1))), (m1, .inl (cL, 64, .inr (.inl (fun _ => 0)))), (xr, .inr (2, [.ref xw, .ref xt])), (xw, .inl (cL, 8, .inr (.inl w1))), (xt, .inl (cL, 8, .inr (.inl t1)))] ++ va_pl L f) H := hP
  have hD : va_D A ([(x, .inr (4, [.ref xs, .ref xp, .int (nI ns), .int (nI np), .ref xl, .ref xr])), (xs, .inl (cS, 3, .inr (.inr (.inr (.inr sA))))), (xp, .inl (cP, 8, .inr (.inr (.inr (.inr pA))))), (xl, .inr (0, [.ref n1, .ref m1])), (n1, .inl (cL, 64, .inr (.inl u1))), (m1, .inl (cL, 64, .inr (.inl (fun _ => 0)))), (xr, .inr (2, [.ref xw, .ref xt])), (xw, .inl (cL, 8, .inr (.inl w1))), (xt, .inl (cL, 8, .inr (.inl t1)))] ++ va_pl L f) := hD
  have ih_16 := ih; clear ih
  refine lv_iload_n hx hb dX4_digest_32 rfl (lv_at hl 0 rfl) ?_
  refine lv_aload_n hx hb dX4_digest_33 rfl (lv_at hl 2 rfl) ?_
  refine va_get (D := (dC, dI)) (ci := 4) (v := .int (nI ns)) (C := RX4) (T := TX4) (N := 6) hx hb hts (by decide +kernel) hown hK hP 0 rfl rfl 2 (by decide) (hts (.fieldLink RX4 35 "Diffractory" "sourceCount" "I") (by decide +kernel)) (fun _ h9 => h9) rfl dX4_digest_34 ?_
  refine lv_icmp_ge (tgt := 89) hx hb dX4_digest_37 (by decide) (fun c_17 => ?_) (fun c_17 => ?_)
  · have c_17 : ¬ i < ns := ax_fgeTN (by omega) (by omega) c_17
    refine lv_iconst (v := (-1)) hx hb dX4_digest_89 (by decide) ?_
    refine lv_istore_n (lv' := [(3, .int (-1)), (1, .long dd), (0, .ref x)]) hx hb dX4_digest_90 rfl hl (by decide) rfl (fun ls hl => ?_)
    refine ax_loop (σ := Nat × Int32 × Int64 × Nat × Nat × (Nat → Int64) × (Nat → Int64) × (Nat → Int64)) (fun z9 H locs ls => (z9.1 ≤ np + 1) ∧ (z9.2.1.toInt = (z9.1 : Int) - 1) ∧ (z9.2.2.1 = dgW S P ns (dgS S P np (dgM S P ns np) ns) z9.1) ∧ lv_has ls 5 [(3, .int z9.2.1), (1, .long z9.2.2.1), (0, .ref x)] ∧ va_P (dC, dI) vwCl ([(x, .inr (4, [.ref xs, .ref xp, .int (nI ns), .int (nI np), .ref xl, .ref xr])), (xs, .inl (cS, 3, .inr (.inr (.inr (.inr sA))))), (xp, .inl (cP, 8, .inr (.inr (.inr (.inr pA))))), (xl, .inr (0, [.ref z9.2.2.2.1, .ref z9.2.2.2.2.1])), (z9.2.2.2.1, .inl (cL, 64, .inr (.inl z9.2.2.2.2.2.1))), (z9.2.2.2.2.1, .inl (cL, 64, .inr (.inl (fun _ => 0)))), (xr, .inr (2, [.ref xw, .ref xt])), (xw, .inl (cL, 8, .inr (.inl z9.2.2.2.2.2.2.1))), (xt, .inl (cL, 8, .inr (.inl z9.2.2.2.2.2.2.2)))] ++ va_pl L f) H ∧ va_D A ([(x, .inr (4, [.ref xs, .ref xp, .int (nI ns), .int (nI np), .ref xl, .ref xr])), (xs, .inl (cS, 3, .inr (.inr (.inr (.inr sA))))), (xp, .inl (cP, 8, .inr (.inr (.inr (.inr pA))))), (xl, .inr (0, [.ref z9.2.2.2.1, .ref z9.2.2.2.2.1])), (z9.2.2.2.1, .inl (cL, 64, .inr (.inl z9.2.2.2.2.2.1))), (z9.2.2.2.2.1, .inl (cL, 64, .inr (.inl (fun _ => 0)))), (xr, .inr (2, [.ref xw, .ref xt])), (xw, .inl (cL, 8, .inr (.inl z9.2.2.2.2.2.2.1))), (xt, .inl (cL, 8, .inr (.inl z9.2.2.2.2.2.2.2)))] ++ va_pl L f) ∧ va_S A s.heap H locs) (fun z9 => np + 1 - z9.1) (fun z9 H locs ls hI ih => ?_) (0, (-1), dd, n1, m1, u1, w1, t1) ⟨by omega, by show (-1 : Int32).toInt = ((0 : Nat) : Int) - 1; decide, by rw [hdd, show i = ns by omega]; rfl, hl, hP, hD, hS⟩
    obtain ⟨b, pi, dd, n1, m1, u1, w1, t1⟩ := z9
    obtain ⟨hbn2, hpi, hdd, hl, hP, hD, hS⟩ := hI
    have hbn2 : b ≤ np + 1 := hbn2
    have hpi : pi.toInt = (b : Int) - 1 := hpi
    have hdd : dd = dgW S P ns (dgS S P np (dgM S P ns np) ns) b := hdd
    have hl : lv_has ls 5 [(3, .int pi), (1, .long dd), (0, .ref x)] := hl
    have hP : va_P (dC, dI) vwCl ([(x, .inr (4, [.ref xs, .ref xp, .int (nI ns), .int (nI np), .ref xl, .ref xr])), (xs, .inl (cS, 3, .inr (.inr (.inr (.inr sA))))), (xp, .inl (cP, 8, .inr (.inr (.inr (.inr pA))))), (xl, .inr (0, [.ref n1, .ref m1])), (n1, .inl (cL, 64, .inr (.inl u1))), (m1, .inl (cL, 64, .inr (.inl (fun _ => 0)))), (xr, .inr (2, [.ref xw, .ref xt])), (xw, .inl (cL, 8, .inr (.inl w1))), (xt, .inl (cL, 8, .inr (.inl t1)))] ++ va_pl L f) H := hP
    have hD : va_D A ([(x, .inr (4, [.ref xs, .ref xp, .int (nI ns), .int (nI np), .ref xl, .ref xr])), (xs, .inl (cS, 3, .inr (.inr (.inr (.inr sA))))), (xp, .inl (cP, 8, .inr (.inr (.inr (.inr pA))))), (xl, .inr (0, [.ref n1, .ref m1])), (n1, .inl (cL, 64, .inr (.inl u1))), (m1, .inl (cL, 64, .inr (.inl (fun _ => 0)))), (xr, .inr (2, [.ref xw, .ref xt])), (xw, .inl (cL, 8, .inr (.inl w1))), (xt, .inl (cL, 8, .inr (.inl t1)))] ++ va_pl L f) := hD
    have ih_18 := ih; clear ih
    refine lv_iload_n hx hb dX4_digest_91 rfl (lv_at hl 0 rfl) ?_
    refine lv_aload_n hx hb dX4_digest_92 rfl (lv_at hl 2 rfl) ?_
    refine va_get (D := (dC, dI)) (ci := 4) (v := .int (nI np)) (C := RX4) (T := TX4) (N := 6) hx hb hts (by decide +kernel) hown hK hP 0 rfl rfl 3 (by decide) (hts (.fieldLink RX4 39 "Diffractory" "partCount" "I") (by decide +kernel)) (fun _ h9 => h9) rfl dX4_digest_93 ?_
    refine lv_icmp_ge (tgt := 119) hx hb dX4_digest_96 (by decide) (fun c_19 => ?_) (fun c_19 => ?_)
    · have c_19 := ax_fgeT c_19
      rw [nI_toInt (show np < 2 ^ 31 by omega)] at c_19
      have c_19 : ¬ pi.toInt < ((np : Nat) : Int) := c_19
      refine lv_iconst (v := 0) hx hb dX4_digest_119 (by decide) ?_
      refine lv_istore_n (lv' := [(3, .int 0), (1, .long dd), (0, .ref x)]) hx hb dX4_digest_120 rfl hl (by decide) rfl (fun ls hl => ?_)
      refine ax_loop (σ := Nat × Int64 × Nat × Nat × (Nat → Int64) × (Nat → Int64) × (Nat → Int64)) (fun z9 H locs ls => (z9.1 ≤ np) ∧ (z9.2.1 = dgP S P ns np (dgW S P ns (dgS S P np (dgM S P ns np) ns) (np + 1)) z9.1) ∧ lv_has ls 5 [(3, .int (nI z9.1)), (1, .long z9.2.1), (0, .ref x)] ∧ va_P (dC, dI) vwCl ([(x, .inr (4, [.ref xs, .ref xp, .int (nI ns), .int (nI np), .ref xl, .ref xr])), (xs, .inl (cS, 3, .inr (.inr (.inr (.inr sA))))), (xp, .inl (cP, 8, .inr (.inr (.inr (.inr pA))))), (xl, .inr (0, [.ref z9.2.2.1, .ref z9.2.2.2.1])), (z9.2.2.1, .inl (cL, 64, .inr (.inl z9.2.2.2.2.1))), (z9.2.2.2.1, .inl (cL, 64, .inr (.inl (fun _ => 0)))), (xr, .inr (2, [.ref xw, .ref xt])), (xw, .inl (cL, 8, .inr (.inl z9.2.2.2.2.2.1))), (xt, .inl (cL, 8, .inr (.inl z9.2.2.2.2.2.2)))] ++ va_pl L f) H ∧ va_D A ([(x, .inr (4, [.ref xs, .ref xp, .int (nI ns), .int (nI np), .ref xl, .ref xr])), (xs, .inl (cS, 3, .inr (.inr (.inr (.inr sA))))), (xp, .inl (cP, 8, .inr (.inr (.inr (.inr pA))))), (xl, .inr (0, [.ref z9.2.2.1, .ref z9.2.2.2.1])), (z9.2.2.1, .inl (cL, 64, .inr (.inl z9.2.2.2.2.1))), (z9.2.2.2.1, .inl (cL, 64, .inr (.inl (fun _ => 0)))), (xr, .inr (2, [.ref xw, .ref xt])), (xw, .inl (cL, 8, .inr (.inl z9.2.2.2.2.2.1))), (xt, .inl (cL, 8, .inr (.inl z9.2.2.2.2.2.2)))] ++ va_pl L f) ∧ va_S A s.heap H locs) (fun z9 => np - z9.1) (fun z9 H locs ls hI ih => ?_) (0, dd, n1, m1, u1, w1, t1) ⟨by omega, by rw [hdd, show b = np + 1 by omega]; rfl, hl, hP, hD, hS⟩
      obtain ⟨i, dd, n1, m1, u1, w1, t1⟩ := z9
      obtain ⟨hin, hdd, hl, hP, hD, hS⟩ := hI
      have hin : i ≤ np := hin
      have hdd : dd = dgP S P ns np (dgW S P ns (dgS S P np (dgM S P ns np) ns) (np + 1)) i := hdd
      have hl : lv_has ls 5 [(3, .int (nI i)), (1, .long dd), (0, .ref x)] := hl
      have hP : va_P (dC, dI) vwCl ([(x, .inr (4, [.ref xs, .ref xp, .int (nI ns), .int (nI np), .ref xl, .ref xr])), (xs, .inl (cS, 3, .inr (.inr (.inr (.inr sA))))), (xp, .inl (cP, 8, .inr (.inr (.inr (.inr pA))))), (xl, .inr (0, [.ref n1, .ref m1])), (n1, .inl (cL, 64, .inr (.inl u1))), (m1, .inl (cL, 64, .inr (.inl (fun _ => 0)))), (xr, .inr (2, [.ref xw, .ref xt])), (xw, .inl (cL, 8, .inr (.inl w1))), (xt, .inl (cL, 8, .inr (.inl t1)))] ++ va_pl L f) H := hP
      have hD : va_D A ([(x, .inr (4, [.ref xs, .ref xp, .int (nI ns), .int (nI np), .ref xl, .ref xr])), (xs, .inl (cS, 3, .inr (.inr (.inr (.inr sA))))), (xp, .inl (cP, 8, .inr (.inr (.inr (.inr pA))))), (xl, .inr (0, [.ref n1, .ref m1])), (n1, .inl (cL, 64, .inr (.inl u1))), (m1, .inl (cL, 64, .inr (.inl (fun _ => 0)))), (xr, .inr (2, [.ref xw, .ref xt])), (xw, .inl (cL, 8, .inr (.inl w1))), (xt, .inl (cL, 8, .inr (.inl t1)))] ++ va_pl L f) := hD
      have ih_20 := ih; clear ih
      refine lv_iload_n hx hb dX4_digest_121 rfl (lv_at hl 0 rfl) ?_
      refine lv_aload_n hx hb dX4_digest_122 rfl (lv_at hl 2 rfl) ?_
      refine va_get (D := (dC, dI)) (ci := 4) (v := .int (nI np)) (C := RX4) (T := TX4) (N := 6) hx hb hts (by decide +kernel) hown hK hP 0 rfl rfl 3 (by decide) (hts (.fieldLink RX4 39 "Diffractory" "partCount" "I") (by decide +kernel)) (fun _ h9 => h9) rfl dX4_digest_123 ?_
      refine lv_icmp_ge (tgt := 204) hx hb dX4_digest_126 (by decide) (fun c_21 => ?_) (fun c_21 => ?_)
      · have c_21 : ¬ i < np := ax_fgeTN (by omega) (by omega) c_21
        refine lv_lload_n hx hb dX4_digest_204 rfl (lv_at hl 1 rfl) ?_
        refine W.widen (k := 0) (n := 0) (Nat.le_of_ble_eq_true rfl) (Nat.le_of_ble_eq_true rfl) ?_
        have hP9 : va_P (dC, dI) vwCl ([(x, .inr (4, [.ref xs, .ref xp, .int (nI ns), .int (nI np), .ref xl, .ref xr])), (xs, .inl (cS, 3, .inr (.inr (.inr (.inr sA))))), (xp, .inl (cP, 8, .inr (.inr (.inr (.inr pA))))), (xl, .inr (0, [.ref n1, .ref m1])), (n1, .inl (cL, 64, .inr (.inl u1))), (m1, .inl (cL, 64, .inr (.inl (fun _ => 0)))), (xr, .inr (2, [.ref xw, .ref xt])), (xw, .inl (cL, 8, .inr (.inl w1))), (xt, .inl (cL, 8, .inr (.inl t1)))] ++ va_pl L f) H := hP.part [0, 1, 2, 3, 4, 5, 6, 7, 8] rfl
        have hD9 : va_D A ([(x, .inr (4, [.ref xs, .ref xp, .int (nI ns), .int (nI np), .ref xl, .ref xr])), (xs, .inl (cS, 3, .inr (.inr (.inr (.inr sA))))), (xp, .inl (cP, 8, .inr (.inr (.inr (.inr pA))))), (xl, .inr (0, [.ref n1, .ref m1])), (n1, .inl (cL, 64, .inr (.inl u1))), (m1, .inl (cL, 64, .inr (.inl (fun _ => 0)))), (xr, .inr (2, [.ref xw, .ref xt])), (xw, .inl (cL, 8, .inr (.inl w1))), (xt, .inl (cL, 8, .inr (.inl t1)))] ++ va_pl L f) := hD.part [0, 1, 2, 3, 4, 5, 6, 7, 8] (by decide) rfl
        have hK9 := hK.sub (tys' := [(cS, .object "Diffractory$Source"), (cP, .object "Diffractory$Part"), (cL, .long), (cI, .int)]) [0, 1, 2, 3] rfl
        exact W.lret (v := dd) hx hb hr (fun t8 ht hW => ⟨⟨dd, (n1, m1, u1, w1, t1), rfl, by rw [hdd, show i = np by omega]; rfl, by rw [ht]; exact hP9, va_K.moved hW.alike hK9, hD9⟩, hS.F ht⟩) hS.2.2 dX4_digest_205
      · have c_21 : i < np := ax_fgeFN (by omega) (by omega) c_21
        refine lv_iconst (v := 0) hx hb dX4_digest_129 (by decide) ?_
        refine lv_istore (lv' := [(4, .int 0), (3, .int (nI i)), (1, .long dd), (0, .ref x)]) hx hb dX4_digest_130 hl (by decide) rfl (fun ls hl => ?_)
        refine lv_iload hx hb dX4_digest_132 (lv_at hl 0 rfl) ?_
        refine lv_iconst (v := 5) hx hb dX4_digest_134 (by decide) ?_
        refine lv_icmp_gt (tgt := 159) hx hb dX4_digest_135 (by decide) (fun h9 => absurd h9 (by decide)) (fun _ => ?_)
        refine lv_lload_n hx hb dX4_digest_138 rfl (lv_at hl 2 rfl) ?_
        refine lv_ldc2 (v := 31) hx hb hown (hts (.constantLong RX4 227 31) (by decide +kernel)) dX4_digest_139 ?_
        refine lv_lmul hx hb dX4_digest_142 ?_
        refine lv_aload_n hx hb dX4_digest_143 rfl (lv_at hl 3 rfl) ?_
        refine lv_iload_n hx hb dX4_digest_144 rfl (lv_at hl 1 rfl) ?_
        refine lv_iload hx hb dX4_digest_145 (lv_at hl 0 rfl) ?_
        have hPc : va_P (dC, dI) vwCl ([(x, .inr (4, [.ref xs, .ref xp, .int (nI ns), .int (nI np), .ref xl, .ref xr])), (xs, .inl (cS, 3, .inr (.inr (.inr (.inr sA))))), (xp, .inl (cP, 8, .inr (.inr (.inr (.inr pA))))), (xl, .inr (0, [.ref n1, .ref m1])), (n1, .inl (cL, 64, .inr (.inl u1))), (m1, .inl (cL, 64, .inr (.inl (fun _ => 0)))), (xr, .inr (2, [.ref xw, .ref xt])), (xw, .inl (cL, 8, .inr (.inl w1))), (xt, .inl (cL, 8, .inr (.inl t1)))] ++ va_pl L f) H := hP.part [0, 1, 2, 3, 4, 5, 6, 7, 8] rfl
        have hKc := hK.sub (tys' := [(cS, .object "Diffractory$Source"), (cP, .object "Diffractory$Part"), (cL, .long), (cI, .int)]) [0, 1, 2, 3] rfl
        refine va_calli (va_runV (As := [.int (nI i), .int 0]) (rest := [.long (dd * 31)]) ⟨hx, hb, hml, hown, hts⟩ (c_X4_ofPart_0 l dC dI x xs xp xl n1 m1 xr xw xt cS cP cL cI ta u1 w1 t1 L f sA pA sd pd ed S P ns np i hbn (by omega)) (cwV 2 hts gX4_digest_X4_ofPart rfl rfl rfl (by decide +kernel) ⟨Nat.le_of_ble_eq_true rfl, Nat.le_of_ble_eq_true rfl⟩) ⟨ax_fbR, va_recv hK hP (ci := 4) (q0 := 0) rfl rfl, ax_prR hPc hKc hS hE⟩ rfl rfl hl.1 rfl (lv_room (Nat.le_of_ble_eq_true rfl)) dX4_digest_147 ⟨Nat.le_of_ble_eq_true rfl, Nat.le_of_ble_eq_true rfl⟩) hS (fun _ _ h9 => h9.elim) (fun _ h9 => h9.elim) (fun r_22 u_24 t8 H locs ht hvm hw_23 hB hz1 hk1 hS => ?_)
        have hP := ax_keep hP (fun _ h9 => h9) hk1
        have hw_23 : r_22 = (nI ((P i).1)) := hw_23
        refine ax_i (y := (nI ((P i).1))) hw_23 ?_
        refine lv_i2l (v := (nI ((P i).1)).toInt64) hx hb dX4_digest_150 rfl ?_
        refine lv_ladd hx hb dX4_digest_151 ?_
        refine lv_lstore_n (lv' := [(1, .long ((dd * 31) + ((nI ((P i).1)).toInt64))), (4, .int 0), (3, .int (nI i)), (0, .ref x)]) hx hb dX4_digest_152 rfl hl (by decide) rfl (fun ls hl => ?_)
        refine lv_iinc (v := 1) (lv' := [(4, .int 1), (1, .long ((dd * 31) + ((nI ((P i).1)).toInt64))), (3, .int (nI i)), (0, .ref x)]) hx hb dX4_digest_153 hl (k := 1) rfl (by decide) (by decide) rfl (fun ls hl => ?_)
        refine lv_goto (tgt := 132) hx hb dX4_digest_156 (by decide) ?_
        refine lv_iload hx hb dX4_digest_132 (lv_at hl 0 rfl) ?_
        refine lv_iconst (v := 5) hx hb dX4_digest_134 (by decide) ?_
        refine lv_icmp_gt (tgt := 159) hx hb dX4_digest_135 (by decide) (fun h9 => absurd h9 (by decide)) (fun _ => ?_)
        refine lv_lload_n hx hb dX4_digest_138 rfl (lv_at hl 1 rfl) ?_
        refine lv_ldc2 (v := 31) hx hb hown (hts (.constantLong RX4 227 31) (by decide +kernel)) dX4_digest_139 ?_
        refine lv_lmul hx hb dX4_digest_142 ?_
        refine lv_aload_n hx hb dX4_digest_143 rfl (lv_at hl 3 rfl) ?_
        refine lv_iload_n hx hb dX4_digest_144 rfl (lv_at hl 2 rfl) ?_
        refine lv_iload hx hb dX4_digest_145 (lv_at hl 0 rfl) ?_
        have hPc : va_P (dC, dI) vwCl ([(x, .inr (4, [.ref xs, .ref xp, .int (nI ns), .int (nI np), .ref xl, .ref xr])), (xs, .inl (cS, 3, .inr (.inr (.inr (.inr sA))))), (xp, .inl (cP, 8, .inr (.inr (.inr (.inr pA))))), (xl, .inr (0, [.ref n1, .ref m1])), (n1, .inl (cL, 64, .inr (.inl u1))), (m1, .inl (cL, 64, .inr (.inl (fun _ => 0)))), (xr, .inr (2, [.ref xw, .ref xt])), (xw, .inl (cL, 8, .inr (.inl w1))), (xt, .inl (cL, 8, .inr (.inl t1)))] ++ va_pl L f) H := hP.part [0, 1, 2, 3, 4, 5, 6, 7, 8] rfl
        have hKc := hK.sub (tys' := [(cS, .object "Diffractory$Source"), (cP, .object "Diffractory$Part"), (cL, .long), (cI, .int)]) [0, 1, 2, 3] rfl
        refine va_calli (va_runV (As := [.int (nI i), .int 1]) (rest := [.long (((dd * 31) + ((nI ((P i).1)).toInt64)) * 31)]) ⟨hx, hb, hml, hown, hts⟩ (c_X4_ofPart_1 l dC dI x xs xp xl n1 m1 xr xw xt cS cP cL cI ta u1 w1 t1 L f sA pA sd pd ed S P ns np i hbn (by omega)) (cwV 2 hts gX4_digest_X4_ofPart rfl rfl rfl (by decide +kernel) ⟨Nat.le_of_ble_eq_true rfl, Nat.le_of_ble_eq_true rfl⟩) ⟨ax_fbR, va_recv hK hP (ci := 4) (q0 := 0) rfl rfl, ax_prR hPc hKc hS hE⟩ rfl rfl hl.1 rfl (lv_room (Nat.le_of_ble_eq_true rfl)) dX4_digest_147 ⟨Nat.le_of_ble_eq_true rfl, Nat.le_of_ble_eq_true rfl⟩) hS (fun _ _ h9 => h9.elim) (fun _ h9 => h9.elim) (fun r_25 u_27 t8 H locs ht hvm hw_26 hB hz1 hk1 hS => ?_)
        have hP := ax_keep hP (fun _ h9 => h9) hk1
        have hw_26 : r_25 = (nI ((P i).2.1)) := hw_26
        refine ax_i (y := (nI ((P i).2.1))) hw_26 ?_
        refine lv_i2l (v := (nI ((P i).2.1)).toInt64) hx hb dX4_digest_150 rfl ?_
        refine lv_ladd hx hb dX4_digest_151 ?_
        refine lv_lstore_n (lv' := [(1, .long ((((dd * 31) + ((nI ((P i).1)).toInt64)) * 31) + ((nI ((P i).2.1)).toInt64))), (4, .int 1), (3, .int (nI i)), (0, .ref x)]) hx hb dX4_digest_152 rfl hl (by decide) rfl (fun ls hl => ?_)
        refine lv_iinc (v := 2) (lv' := [(4, .int 2), (1, .long ((((dd * 31) + ((nI ((P i).1)).toInt64)) * 31) + ((nI ((P i).2.1)).toInt64))), (3, .int (nI i)), (0, .ref x)]) hx hb dX4_digest_153 hl (k := 1) rfl (by decide) (by decide) rfl (fun ls hl => ?_)
        refine lv_goto (tgt := 132) hx hb dX4_digest_156 (by decide) ?_
        refine lv_iload hx hb dX4_digest_132 (lv_at hl 0 rfl) ?_
        refine lv_iconst (v := 5) hx hb dX4_digest_134 (by decide) ?_
        refine lv_icmp_gt (tgt := 159) hx hb dX4_digest_135 (by decide) (fun h9 => absurd h9 (by decide)) (fun _ => ?_)
        refine lv_lload_n hx hb dX4_digest_138 rfl (lv_at hl 1 rfl) ?_
        refine lv_ldc2 (v := 31) hx hb hown (hts (.constantLong RX4 227 31) (by decide +kernel)) dX4_digest_139 ?_
        refine lv_lmul hx hb dX4_digest_142 ?_
        refine lv_aload_n hx hb dX4_digest_143 rfl (lv_at hl 3 rfl) ?_
        refine lv_iload_n hx hb dX4_digest_144 rfl (lv_at hl 2 rfl) ?_
        refine lv_iload hx hb dX4_digest_145 (lv_at hl 0 rfl) ?_
        have hPc : va_P (dC, dI) vwCl ([(x, .inr (4, [.ref xs, .ref xp, .int (nI ns), .int (nI np), .ref xl, .ref xr])), (xs, .inl (cS, 3, .inr (.inr (.inr (.inr sA))))), (xp, .inl (cP, 8, .inr (.inr (.inr (.inr pA))))), (xl, .inr (0, [.ref n1, .ref m1])), (n1, .inl (cL, 64, .inr (.inl u1))), (m1, .inl (cL, 64, .inr (.inl (fun _ => 0)))), (xr, .inr (2, [.ref xw, .ref xt])), (xw, .inl (cL, 8, .inr (.inl w1))), (xt, .inl (cL, 8, .inr (.inl t1)))] ++ va_pl L f) H := hP.part [0, 1, 2, 3, 4, 5, 6, 7, 8] rfl
        have hKc := hK.sub (tys' := [(cS, .object "Diffractory$Source"), (cP, .object "Diffractory$Part"), (cL, .long), (cI, .int)]) [0, 1, 2, 3] rfl
        refine va_calli (va_runV (As := [.int (nI i), .int 2]) (rest := [.long (((((dd * 31) + ((nI ((P i).1)).toInt64)) * 31) + ((nI ((P i).2.1)).toInt64)) * 31)]) ⟨hx, hb, hml, hown, hts⟩ (c_X4_ofPart_2 l dC dI x xs xp xl n1 m1 xr xw xt cS cP cL cI ta u1 w1 t1 L f sA pA sd pd ed S P ns np i hbn (by omega)) (cwV 2 hts gX4_digest_X4_ofPart rfl rfl rfl (by decide +kernel) ⟨Nat.le_of_ble_eq_true rfl, Nat.le_of_ble_eq_true rfl⟩) ⟨ax_fbR, va_recv hK hP (ci := 4) (q0 := 0) rfl rfl, ax_prR hPc hKc hS hE⟩ rfl rfl hl.1 rfl (lv_room (Nat.le_of_ble_eq_true rfl)) dX4_digest_147 ⟨Nat.le_of_ble_eq_true rfl, Nat.le_of_ble_eq_true rfl⟩) hS (fun _ _ h9 => h9.elim) (fun _ h9 => h9.elim) (fun r_28 u_30 t8 H locs ht hvm hw_29 hB hz1 hk1 hS => ?_)
        have hP := ax_keep hP (fun _ h9 => h9) hk1
        have hw_29 : r_28 = (nI ((P i).2.2.1)) := hw_29
        refine ax_i (y := (nI ((P i).2.2.1))) hw_29 ?_
        refine lv_i2l (v := (nI ((P i).2.2.1)).toInt64) hx hb dX4_digest_150 rfl ?_
        refine lv_ladd hx hb dX4_digest_151 ?_
        refine lv_lstore_n (lv' := [(1, .long ((((((dd * 31) + ((nI ((P i).1)).toInt64)) * 31) + ((nI ((P i).2.1)).toInt64)) * 31) + ((nI ((P i).2.2.1)).toInt64))), (4, .int 2), (3, .int (nI i)), (0, .ref x)]) hx hb dX4_digest_152 rfl hl (by decide) rfl (fun ls hl => ?_)
        refine lv_iinc (v := 3) (lv' := [(4, .int 3), (1, .long ((((((dd * 31) + ((nI ((P i).1)).toInt64)) * 31) + ((nI ((P i).2.1)).toInt64)) * 31) + ((nI ((P i).2.2.1)).toInt64))), (3, .int (nI i)), (0, .ref x)]) hx hb dX4_digest_153 hl (k := 1) rfl (by decide) (by decide) rfl (fun ls hl => ?_)
        refine lv_goto (tgt := 132) hx hb dX4_digest_156 (by decide) ?_
        refine lv_iload hx hb dX4_digest_132 (lv_at hl 0 rfl) ?_
        refine lv_iconst (v := 5) hx hb dX4_digest_134 (by decide) ?_
        refine lv_icmp_gt (tgt := 159) hx hb dX4_digest_135 (by decide) (fun h9 => absurd h9 (by decide)) (fun _ => ?_)
        refine lv_lload_n hx hb dX4_digest_138 rfl (lv_at hl 1 rfl) ?_
        refine lv_ldc2 (v := 31) hx hb hown (hts (.constantLong RX4 227 31) (by decide +kernel)) dX4_digest_139 ?_
        refine lv_lmul hx hb dX4_digest_142 ?_
        refine lv_aload_n hx hb dX4_digest_143 rfl (lv_at hl 3 rfl) ?_
        refine lv_iload_n hx hb dX4_digest_144 rfl (lv_at hl 2 rfl) ?_
        refine lv_iload hx hb dX4_digest_145 (lv_at hl 0 rfl) ?_
        have hPc : va_P (dC, dI) vwCl ([(x, .inr (4, [.ref xs, .ref xp, .int (nI ns), .int (nI np), .ref xl, .ref xr])), (xs, .inl (cS, 3, .inr (.inr (.inr (.inr sA))))), (xp, .inl (cP, 8, .inr (.inr (.inr (.inr pA))))), (xl, .inr (0, [.ref n1, .ref m1])), (n1, .inl (cL, 64, .inr (.inl u1))), (m1, .inl (cL, 64, .inr (.inl (fun _ => 0)))), (xr, .inr (2, [.ref xw, .ref xt])), (xw, .inl (cL, 8, .inr (.inl w1))), (xt, .inl (cL, 8, .inr (.inl t1)))] ++ va_pl L f) H := hP.part [0, 1, 2, 3, 4, 5, 6, 7, 8] rfl
        have hKc := hK.sub (tys' := [(cS, .object "Diffractory$Source"), (cP, .object "Diffractory$Part"), (cL, .long), (cI, .int)]) [0, 1, 2, 3] rfl
        refine va_calli (va_runV (As := [.int (nI i), .int 3]) (rest := [.long (((((((dd * 31) + ((nI ((P i).1)).toInt64)) * 31) + ((nI ((P i).2.1)).toInt64)) * 31) + ((nI ((P i).2.2.1)).toInt64)) * 31)]) ⟨hx, hb, hml, hown, hts⟩ (c_X4_ofPart_3 l dC dI x xs xp xl n1 m1 xr xw xt cS cP cL cI ta u1 w1 t1 L f sA pA sd pd ed S P ns np i hbn (by omega)) (cwV 2 hts gX4_digest_X4_ofPart rfl rfl rfl (by decide +kernel) ⟨Nat.le_of_ble_eq_true rfl, Nat.le_of_ble_eq_true rfl⟩) ⟨ax_fbR, va_recv hK hP (ci := 4) (q0 := 0) rfl rfl, ax_prR hPc hKc hS hE⟩ rfl rfl hl.1 rfl (lv_room (Nat.le_of_ble_eq_true rfl)) dX4_digest_147 ⟨Nat.le_of_ble_eq_true rfl, Nat.le_of_ble_eq_true rfl⟩) hS (fun _ _ h9 => h9.elim) (fun _ h9 => h9.elim) (fun r_31 u_33 t8 H locs ht hvm hw_32 hB hz1 hk1 hS => ?_)
        have hP := ax_keep hP (fun _ h9 => h9) hk1
        have hw_32 : r_31 = (nI ((P i).2.2.2.1)) := hw_32
        refine ax_i (y := (nI ((P i).2.2.2.1))) hw_32 ?_
        refine lv_i2l (v := (nI ((P i).2.2.2.1)).toInt64) hx hb dX4_digest_150 rfl ?_
        refine lv_ladd hx hb dX4_digest_151 ?_
        refine lv_lstore_n (lv' := [(1, .long ((((((((dd * 31) + ((nI ((P i).1)).toInt64)) * 31) + ((nI ((P i).2.1)).toInt64)) * 31) + ((nI ((P i).2.2.1)).toInt64)) * 31) + ((nI ((P i).2.2.2.1)).toInt64))), (4, .int 3), (3, .int (nI i)), (0, .ref x)]) hx hb dX4_digest_152 rfl hl (by decide) rfl (fun ls hl => ?_)
        refine lv_iinc (v := 4) (lv' := [(4, .int 4), (1, .long ((((((((dd * 31) + ((nI ((P i).1)).toInt64)) * 31) + ((nI ((P i).2.1)).toInt64)) * 31) + ((nI ((P i).2.2.1)).toInt64)) * 31) + ((nI ((P i).2.2.2.1)).toInt64))), (3, .int (nI i)), (0, .ref x)]) hx hb dX4_digest_153 hl (k := 1) rfl (by decide) (by decide) rfl (fun ls hl => ?_)
        refine lv_goto (tgt := 132) hx hb dX4_digest_156 (by decide) ?_
        refine lv_iload hx hb dX4_digest_132 (lv_at hl 0 rfl) ?_
        refine lv_iconst (v := 5) hx hb dX4_digest_134 (by decide) ?_
        refine lv_icmp_gt (tgt := 159) hx hb dX4_digest_135 (by decide) (fun h9 => absurd h9 (by decide)) (fun _ => ?_)
        refine lv_lload_n hx hb dX4_digest_138 rfl (lv_at hl 1 rfl) ?_
        refine lv_ldc2 (v := 31) hx hb hown (hts (.constantLong RX4 227 31) (by decide +kernel)) dX4_digest_139 ?_
        refine lv_lmul hx hb dX4_digest_142 ?_
        refine lv_aload_n hx hb dX4_digest_143 rfl (lv_at hl 3 rfl) ?_
        refine lv_iload_n hx hb dX4_digest_144 rfl (lv_at hl 2 rfl) ?_
        refine lv_iload hx hb dX4_digest_145 (lv_at hl 0 rfl) ?_
        have hPc : va_P (dC, dI) vwCl ([(x, .inr (4, [.ref xs, .ref xp, .int (nI ns), .int (nI np), .ref xl, .ref xr])), (xs, .inl (cS, 3, .inr (.inr (.inr (.inr sA))))), (xp, .inl (cP, 8, .inr (.inr (.inr (.inr pA))))), (xl, .inr (0, [.ref n1, .ref m1])), (n1, .inl (cL, 64, .inr (.inl u1))), (m1, .inl (cL, 64, .inr (.inl (fun _ => 0)))), (xr, .inr (2, [.ref xw, .ref xt])), (xw, .inl (cL, 8, .inr (.inl w1))), (xt, .inl (cL, 8, .inr (.inl t1)))] ++ va_pl L f) H := hP.part [0, 1, 2, 3, 4, 5, 6, 7, 8] rfl
        have hKc := hK.sub (tys' := [(cS, .object "Diffractory$Source"), (cP, .object "Diffractory$Part"), (cL, .long), (cI, .int)]) [0, 1, 2, 3] rfl
        refine va_calli (va_runV (As := [.int (nI i), .int 4]) (rest := [.long (((((((((dd * 31) + ((nI ((P i).1)).toInt64)) * 31) + ((nI ((P i).2.1)).toInt64)) * 31) + ((nI ((P i).2.2.1)).toInt64)) * 31) + ((nI ((P i).2.2.2.1)).toInt64)) * 31)]) ⟨hx, hb, hml, hown, hts⟩ (c_X4_ofPart_4 l dC dI x xs xp xl n1 m1 xr xw xt cS cP cL cI ta u1 w1 t1 L f sA pA sd pd ed S P ns np i hbn (by omega)) (cwV 2 hts gX4_digest_X4_ofPart rfl rfl rfl (by decide +kernel) ⟨Nat.le_of_ble_eq_true rfl, Nat.le_of_ble_eq_true rfl⟩) ⟨ax_fbR, va_recv hK hP (ci := 4) (q0 := 0) rfl rfl, ax_prR hPc hKc hS hE⟩ rfl rfl hl.1 rfl (lv_room (Nat.le_of_ble_eq_true rfl)) dX4_digest_147 ⟨Nat.le_of_ble_eq_true rfl, Nat.le_of_ble_eq_true rfl⟩) hS (fun _ _ h9 => h9.elim) (fun _ h9 => h9.elim) (fun r_34 u_36 t8 H locs ht hvm hw_35 hB hz1 hk1 hS => ?_)
        have hP := ax_keep hP (fun _ h9 => h9) hk1
        have hw_35 : r_34 = (nI (smX (P i).2.2.2.2.2 8)) := hw_35
        refine ax_i (y := (nI (smX (P i).2.2.2.2.2 8))) hw_35 ?_
        refine lv_i2l (v := (nI (smX (P i).2.2.2.2.2 8)).toInt64) hx hb dX4_digest_150 rfl ?_
        refine lv_ladd hx hb dX4_digest_151 ?_
        refine lv_lstore_n (lv' := [(1, .long ((((((((((dd * 31) + ((nI ((P i).1)).toInt64)) * 31) + ((nI ((P i).2.1)).toInt64)) * 31) + ((nI ((P i).2.2.1)).toInt64)) * 31) + ((nI ((P i).2.2.2.1)).toInt64)) * 31) + ((nI (smX (P i).2.2.2.2.2 8)).toInt64))), (4, .int 4), (3, .int (nI i)), (0, .ref x)]) hx hb dX4_digest_152 rfl hl (by decide) rfl (fun ls hl => ?_)
        refine lv_iinc (v := 5) (lv' := [(4, .int 5), (1, .long ((((((((((dd * 31) + ((nI ((P i).1)).toInt64)) * 31) + ((nI ((P i).2.1)).toInt64)) * 31) + ((nI ((P i).2.2.1)).toInt64)) * 31) + ((nI ((P i).2.2.2.1)).toInt64)) * 31) + ((nI (smX (P i).2.2.2.2.2 8)).toInt64))), (3, .int (nI i)), (0, .ref x)]) hx hb dX4_digest_153 hl (k := 1) rfl (by decide) (by decide) rfl (fun ls hl => ?_)
        refine lv_goto (tgt := 132) hx hb dX4_digest_156 (by decide) ?_
        refine lv_iload hx hb dX4_digest_132 (lv_at hl 0 rfl) ?_
        refine lv_iconst (v := 5) hx hb dX4_digest_134 (by decide) ?_
        refine lv_icmp_gt (tgt := 159) hx hb dX4_digest_135 (by decide) (fun h9 => absurd h9 (by decide)) (fun _ => ?_)
        refine lv_lload_n hx hb dX4_digest_138 rfl (lv_at hl 1 rfl) ?_
        refine lv_ldc2 (v := 31) hx hb hown (hts (.constantLong RX4 227 31) (by decide +kernel)) dX4_digest_139 ?_
        refine lv_lmul hx hb dX4_digest_142 ?_
        refine lv_aload_n hx hb dX4_digest_143 rfl (lv_at hl 3 rfl) ?_
        refine lv_iload_n hx hb dX4_digest_144 rfl (lv_at hl 2 rfl) ?_
        refine lv_iload hx hb dX4_digest_145 (lv_at hl 0 rfl) ?_
        have hPc : va_P (dC, dI) vwCl ([(x, .inr (4, [.ref xs, .ref xp, .int (nI ns), .int (nI np), .ref xl, .ref xr])), (xs, .inl (cS, 3, .inr (.inr (.inr (.inr sA))))), (xp, .inl (cP, 8, .inr (.inr (.inr (.inr pA))))), (xl, .inr (0, [.ref n1, .ref m1])), (n1, .inl (cL, 64, .inr (.inl u1))), (m1, .inl (cL, 64, .inr (.inl (fun _ => 0)))), (xr, .inr (2, [.ref xw, .ref xt])), (xw, .inl (cL, 8, .inr (.inl w1))), (xt, .inl (cL, 8, .inr (.inl t1)))] ++ va_pl L f) H := hP.part [0, 1, 2, 3, 4, 5, 6, 7, 8] rfl
        have hKc := hK.sub (tys' := [(cS, .object "Diffractory$Source"), (cP, .object "Diffractory$Part"), (cL, .long), (cI, .int)]) [0, 1, 2, 3] rfl
        refine va_calli (va_runV (As := [.int (nI i), .int 5]) (rest := [.long (((((((((((dd * 31) + ((nI ((P i).1)).toInt64)) * 31) + ((nI ((P i).2.1)).toInt64)) * 31) + ((nI ((P i).2.2.1)).toInt64)) * 31) + ((nI ((P i).2.2.2.1)).toInt64)) * 31) + ((nI (smX (P i).2.2.2.2.2 8)).toInt64)) * 31)]) ⟨hx, hb, hml, hown, hts⟩ (c_X4_ofPart_5 l dC dI x xs xp xl n1 m1 xr xw xt cS cP cL cI ta u1 w1 t1 L f sA pA sd pd ed S P ns np i hbn (by omega)) (cwV 2 hts gX4_digest_X4_ofPart rfl rfl rfl (by decide +kernel) ⟨Nat.le_of_ble_eq_true rfl, Nat.le_of_ble_eq_true rfl⟩) ⟨ax_fbR, va_recv hK hP (ci := 4) (q0 := 0) rfl rfl, ax_prR hPc hKc hS hE⟩ rfl rfl hl.1 rfl (lv_room (Nat.le_of_ble_eq_true rfl)) dX4_digest_147 ⟨Nat.le_of_ble_eq_true rfl, Nat.le_of_ble_eq_true rfl⟩) hS (fun _ _ h9 => h9.elim) (fun _ h9 => h9.elim) (fun r_37 u_39 t8 H locs ht hvm hw_38 hB hz1 hk1 hS => ?_)
        have hP := ax_keep hP (fun _ h9 => h9) hk1
        have hw_38 : r_37 = (nI ((P i).2.2.2.2.1)) := hw_38
        refine ax_i (y := (nI ((P i).2.2.2.2.1))) hw_38 ?_
        refine lv_i2l (v := (nI ((P i).2.2.2.2.1)).toInt64) hx hb dX4_digest_150 rfl ?_
        refine lv_ladd hx hb dX4_digest_151 ?_
        refine lv_lstore_n (lv' := [(1, .long ((((((((((((dd * 31) + ((nI ((P i).1)).toInt64)) * 31) + ((nI ((P i).2.1)).toInt64)) * 31) + ((nI ((P i).2.2.1)).toInt64)) * 31) + ((nI ((P i).2.2.2.1)).toInt64)) * 31) + ((nI (smX (P i).2.2.2.2.2 8)).toInt64)) * 31) + ((nI ((P i).2.2.2.2.1)).toInt64))), (4, .int 5), (3, .int (nI i)), (0, .ref x)]) hx hb dX4_digest_152 rfl hl (by decide) rfl (fun ls hl => ?_)
        refine lv_iinc (v := 6) (lv' := [(4, .int 6), (1, .long ((((((((((((dd * 31) + ((nI ((P i).1)).toInt64)) * 31) + ((nI ((P i).2.1)).toInt64)) * 31) + ((nI ((P i).2.2.1)).toInt64)) * 31) + ((nI ((P i).2.2.2.1)).toInt64)) * 31) + ((nI (smX (P i).2.2.2.2.2 8)).toInt64)) * 31) + ((nI ((P i).2.2.2.2.1)).toInt64))), (3, .int (nI i)), (0, .ref x)]) hx hb dX4_digest_153 hl (k := 1) rfl (by decide) (by decide) rfl (fun ls hl => ?_)
        refine lv_goto (tgt := 132) hx hb dX4_digest_156 (by decide) ?_
        refine lv_iload hx hb dX4_digest_132 (lv_at hl 0 rfl) ?_
        refine lv_iconst (v := 5) hx hb dX4_digest_134 (by decide) ?_
        refine lv_icmp_gt (tgt := 159) hx hb dX4_digest_135 (by decide) (fun _ => ?_) (fun h9 => absurd (by decide) h9)
        refine lv_lload_n hx hb dX4_digest_159 rfl (lv_at hl 1 rfl) ?_
        refine lv_ldc2 (v := 31) hx hb hown (hts (.constantLong RX4 227 31) (by decide +kernel)) dX4_digest_160 ?_
        refine lv_lmul hx hb dX4_digest_163 ?_
        refine lv_aload_n hx hb dX4_digest_164 rfl (lv_at hl 3 rfl) ?_
        refine lv_iload_n hx hb dX4_digest_165 rfl (lv_at hl 2 rfl) ?_
        have hPc : va_P (dC, dI) vwCl ([(x, .inr (4, [.ref xs, .ref xp, .int (nI ns), .int (nI np), .ref xl, .ref xr])), (xs, .inl (cS, 3, .inr (.inr (.inr (.inr sA))))), (xp, .inl (cP, 8, .inr (.inr (.inr (.inr pA))))), (xl, .inr (0, [.ref n1, .ref m1])), (n1, .inl (cL, 64, .inr (.inl u1))), (m1, .inl (cL, 64, .inr (.inl (fun _ => 0)))), (xr, .inr (2, [.ref xw, .ref xt])), (xw, .inl (cL, 8, .inr (.inl w1))), (xt, .inl (cL, 8, .inr (.inl t1)))] ++ va_pl L f) H := hP.part [0, 1, 2, 3, 4, 5, 6, 7, 8] rfl
        have hKc := hK.sub (tys' := [(cS, .object "Diffractory$Source"), (cP, .object "Diffractory$Part"), (cL, .long), (cI, .int)]) [0, 1, 2, 3] rfl
        have hDc : va_D A ([(x, .inr (4, [.ref xs, .ref xp, .int (nI ns), .int (nI np), .ref xl, .ref xr])), (xs, .inl (cS, 3, .inr (.inr (.inr (.inr sA))))), (xp, .inl (cP, 8, .inr (.inr (.inr (.inr pA))))), (xl, .inr (0, [.ref n1, .ref m1])), (n1, .inl (cL, 64, .inr (.inl u1))), (m1, .inl (cL, 64, .inr (.inl (fun _ => 0)))), (xr, .inr (2, [.ref xw, .ref xt])), (xw, .inl (cL, 8, .inr (.inl w1))), (xt, .inl (cL, 8, .inr (.inl t1)))] ++ va_pl L f) := hD.part [0, 1, 2, 3, 4, 5, 6, 7, 8] (by decide) rfl
        have hFc : ∀ q, va_A ([(x, .inr (4, [.ref xs, .ref xp, .int (nI ns), .int (nI np), .ref xl, .ref xr])), (xs, .inl (cS, 3, .inr (.inr (.inr (.inr sA))))), (xp, .inl (cP, 8, .inr (.inr (.inr (.inr pA))))), (xl, .inr (0, [.ref n1, .ref m1])), (n1, .inl (cL, 64, .inr (.inl u1))), (m1, .inl (cL, 64, .inr (.inl (fun _ => 0)))), (xr, .inr (2, [.ref xw, .ref xt])), (xw, .inl (cL, 8, .inr (.inl w1))), (xt, .inl (cL, 8, .inr (.inl t1)))] ++ va_pl L f) H.size q → A q := va_freeP hD hS hA [0, 1, 2, 3, 4, 5, 6, 7, 8] rfl
        refine va_calll (va_runV (As := [.int (nI i)]) (rest := [.long (((((((((((((dd * 31) + ((nI ((P i).1)).toInt64)) * 31) + ((nI ((P i).2.1)).toInt64)) * 31) + ((nI ((P i).2.2.1)).toInt64)) * 31) + ((nI ((P i).2.2.2.1)).toInt64)) * 31) + ((nI (smX (P i).2.2.2.2.2 8)).toInt64)) * 31) + ((nI ((P i).2.2.2.2.1)).toInt64)) * 31)]) ⟨hx, hb, hml, hown, hts⟩ (c_X4_loses l dC dI x xs xp xl n1 m1 xr xw xt cS cP cL cI ta H.size u1 w1 t1 L f sA pA sd pd ed S P ns np i hbn (by omega)) (cwV 1 hts gX4_digest_X4_loses rfl rfl rfl (by decide +kernel) ⟨Nat.le_of_ble_eq_true rfl, Nat.le_of_ble_eq_true rfl⟩) ⟨ax_fbW, va_recv hK hP (ci := 4) (q0 := 0) rfl rfl, ax_prW hPc hKc hDc hS hFc hE⟩ rfl rfl hl.1 rfl (lv_room (Nat.le_of_ble_eq_true rfl)) dX4_digest_166 ⟨Nat.le_of_ble_eq_true rfl, Nat.le_of_ble_eq_true rfl⟩) hS (fun q _ h9 => hFc q h9) hFc (fun r_40 u_42 t8 H locs ht hvm hw_41 hB hz1 hk1 hS => ?_)
        obtain ⟨n1_43, m1_44, u1_45, w1_46, t1_47⟩ := u_42
        obtain ⟨hP1, hK1, hD1⟩ := hB
        rw [ht] at hP1
        have hK1 := va_K.moved hvm.symm hK1
        obtain ⟨hP, hD⟩ := va_joinP (X := [(x, .inr (4, [.ref xs, .ref xp, .int (nI ns), .int (nI np), .ref xl, .ref xr])), (xs, .inl (cS, 3, .inr (.inr (.inr (.inr sA))))), (xp, .inl (cP, 8, .inr (.inr (.inr (.inr pA))))), (xl, .inr (0, [.ref n1, .ref m1])), (n1, .inl (cL, 64, .inr (.inl u1))), (m1, .inl (cL, 64, .inr (.inl (fun _ => 0)))), (xr, .inr (2, [.ref xw, .ref xt])), (xw, .inl (cL, 8, .inr (.inl w1))), (xt, .inl (cL, 8, .inr (.inl t1)))]) (cx := [(x, .inr (4, [.ref xs, .ref xp, .int (nI ns), .int (nI np), .ref xl, .ref xr])), (xs, .inl (cS, 3, .inr (.inr (.inr (.inr sA))))), (xp, .inl (cP, 8, .inr (.inr (.inr (.inr pA))))), (xl, .inr (0, [.ref n1, .ref m1])), (n1, .inl (cL, 64, .inr (.inl u1))), (m1, .inl (cL, 64, .inr (.inl (fun _ => 0)))), (xr, .inr (2, [.ref xw, .ref xt])), (xw, .inl (cL, 8, .inr (.inl w1))), (xt, .inl (cL, 8, .inr (.inl t1)))]) (wr := []) (rx := [(x, .inr (4, [.ref xs, .ref xp, .int (nI ns), .int (nI np), .ref xl, .ref xr])), (xs, .inl (cS, 3, .inr (.inr (.inr (.inr sA))))), (xp, .inl (cP, 8, .inr (.inr (.inr (.inr pA))))), (xl, .inr (0, [.ref n1_43, .ref m1_44])), (n1_43, .inl (cL, 64, .inr (.inl u1_45))), (m1_44, .inl (cL, 64, .inr (.inl (fun _ => 0)))), (xr, .inr (2, [.ref xw, .ref xt])), (xw, .inl (cL, 8, .inr (.inl w1_46))), (xt, .inl (cL, 8, .inr (.inl t1_47)))]) (pl := va_pl L f) (pl1 := va_pl L f) hP hD [0, 1, 2, 3, 4, 5, 6, 7, 8] [] rfl rfl (by decide) (by decide) hk1 hFc hP1 hD1
        have hP : va_P (dC, dI) vwCl ([(x, .inr (4, [.ref xs, .ref xp, .int (nI ns), .int (nI np), .ref xl, .ref xr])), (xs, .inl (cS, 3, .inr (.inr (.inr (.inr sA))))), (xp, .inl (cP, 8, .inr (.inr (.inr (.inr pA))))), (xl, .inr (0, [.ref n1_43, .ref m1_44])), (n1_43, .inl (cL, 64, .inr (.inl u1_45))), (m1_44, .inl (cL, 64, .inr (.inl (fun _ => 0)))), (xr, .inr (2, [.ref xw, .ref xt])), (xw, .inl (cL, 8, .inr (.inl w1_46))), (xt, .inl (cL, 8, .inr (.inl t1_47)))] ++ va_pl L f) H := hP
        have hD : va_D A ([(x, .inr (4, [.ref xs, .ref xp, .int (nI ns), .int (nI np), .ref xl, .ref xr])), (xs, .inl (cS, 3, .inr (.inr (.inr (.inr sA))))), (xp, .inl (cP, 8, .inr (.inr (.inr (.inr pA))))), (xl, .inr (0, [.ref n1_43, .ref m1_44])), (n1_43, .inl (cL, 64, .inr (.inl u1_45))), (m1_44, .inl (cL, 64, .inr (.inl (fun _ => 0)))), (xr, .inr (2, [.ref xw, .ref xt])), (xw, .inl (cL, 8, .inr (.inl w1_46))), (xt, .inl (cL, 8, .inr (.inl t1_47)))] ++ va_pl L f) := hD
        have hw_41 : r_40 = (lsF S P i ns) := hw_41
        refine ax_l (y := (lsF S P i ns)) hw_41 ?_
        refine lv_ladd hx hb dX4_digest_169 ?_
        refine lv_lstore_n (lv' := [(1, .long ((((((((((((((dd * 31) + ((nI ((P i).1)).toInt64)) * 31) + ((nI ((P i).2.1)).toInt64)) * 31) + ((nI ((P i).2.2.1)).toInt64)) * 31) + ((nI ((P i).2.2.2.1)).toInt64)) * 31) + ((nI (smX (P i).2.2.2.2.2 8)).toInt64)) * 31) + ((nI ((P i).2.2.2.2.1)).toInt64)) * 31) + (lsF S P i ns))), (4, .int 6), (3, .int (nI i)), (0, .ref x)]) hx hb dX4_digest_170 rfl hl (by decide) rfl (fun ls hl => ?_)
        refine lv_lload_n hx hb dX4_digest_171 rfl (lv_at hl 0 rfl) ?_
        refine lv_ldc2 (v := 31) hx hb hown (hts (.constantLong RX4 227 31) (by decide +kernel)) dX4_digest_172 ?_
        refine lv_lmul hx hb dX4_digest_175 ?_
        refine lv_aload_n hx hb dX4_digest_176 rfl (lv_at hl 3 rfl) ?_
        refine lv_iload_n hx hb dX4_digest_177 rfl (lv_at hl 2 rfl) ?_
        refine lv_iconst (v := 3) hx hb dX4_digest_178 (by decide) ?_
        have hPc : va_P (dC, dI) vwCl ([(x, .inr (4, [.ref xs, .ref xp, .int (nI ns), .int (nI np), .ref xl, .ref xr])), (xs, .inl (cS, 3, .inr (.inr (.inr (.inr sA))))), (xp, .inl (cP, 8, .inr (.inr (.inr (.inr pA))))), (xl, .inr (0, [.ref n1_43, .ref m1_44])), (n1_43, .inl (cL, 64, .inr (.inl u1_45))), (m1_44, .inl (cL, 64, .inr (.inl (fun _ => 0)))), (xr, .inr (2, [.ref xw, .ref xt])), (xw, .inl (cL, 8, .inr (.inl w1_46))), (xt, .inl (cL, 8, .inr (.inl t1_47)))] ++ va_pl L f) H := hP.part [0, 1, 2, 3, 4, 5, 6, 7, 8] rfl
        have hKc := hK.sub (tys' := [(cS, .object "Diffractory$Source"), (cP, .object "Diffractory$Part"), (cL, .long), (cI, .int)]) [0, 1, 2, 3] rfl
        have hDc : va_D A ([(x, .inr (4, [.ref xs, .ref xp, .int (nI ns), .int (nI np), .ref xl, .ref xr])), (xs, .inl (cS, 3, .inr (.inr (.inr (.inr sA))))), (xp, .inl (cP, 8, .inr (.inr (.inr (.inr pA))))), (xl, .inr (0, [.ref n1_43, .ref m1_44])), (n1_43, .inl (cL, 64, .inr (.inl u1_45))), (m1_44, .inl (cL, 64, .inr (.inl (fun _ => 0)))), (xr, .inr (2, [.ref xw, .ref xt])), (xw, .inl (cL, 8, .inr (.inl w1_46))), (xt, .inl (cL, 8, .inr (.inl t1_47)))] ++ va_pl L f) := hD.part [0, 1, 2, 3, 4, 5, 6, 7, 8] (by decide) rfl
        have hFc : ∀ q, va_A ([(x, .inr (4, [.ref xs, .ref xp, .int (nI ns), .int (nI np), .ref xl, .ref xr])), (xs, .inl (cS, 3, .inr (.inr (.inr (.inr sA))))), (xp, .inl (cP, 8, .inr (.inr (.inr (.inr pA))))), (xl, .inr (0, [.ref n1_43, .ref m1_44])), (n1_43, .inl (cL, 64, .inr (.inl u1_45))), (m1_44, .inl (cL, 64, .inr (.inl (fun _ => 0)))), (xr, .inr (2, [.ref xw, .ref xt])), (xw, .inl (cL, 8, .inr (.inl w1_46))), (xt, .inl (cL, 8, .inr (.inl t1_47)))] ++ va_pl L f) H.size q → A q := va_freeP hD hS hA [0, 1, 2, 3, 4, 5, 6, 7, 8] rfl
        refine va_calll (va_runV (As := [.int (nI i), .int 3]) (rest := [.long (((((((((((((((dd * 31) + ((nI ((P i).1)).toInt64)) * 31) + ((nI ((P i).2.1)).toInt64)) * 31) + ((nI ((P i).2.2.1)).toInt64)) * 31) + ((nI ((P i).2.2.2.1)).toInt64)) * 31) + ((nI (smX (P i).2.2.2.2.2 8)).toInt64)) * 31) + ((nI ((P i).2.2.2.2.1)).toInt64)) * 31) + (lsF S P i ns)) * 31)]) ⟨hx, hb, hml, hown, hts⟩ (c_X4_without l dC dI x xs xp xl n1_43 m1_44 xr xw xt cS cP cL cI ta H.size u1_45 w1_46 t1_47 L f sA pA sd pd ed S P ns np i 3 hbn (by omega) (by omega)) (cwV 2 hts gX4_digest_X4_without rfl rfl rfl (by decide +kernel) ⟨Nat.le_of_ble_eq_true rfl, Nat.le_of_ble_eq_true rfl⟩) ⟨ax_fbW, va_recv hK hP (ci := 4) (q0 := 0) rfl rfl, ax_prW hPc hKc hDc hS hFc hE⟩ rfl rfl hl.1 rfl (lv_room (Nat.le_of_ble_eq_true rfl)) dX4_digest_179 ⟨Nat.le_of_ble_eq_true rfl, Nat.le_of_ble_eq_true rfl⟩) hS (fun q _ h9 => hFc q h9) hFc (fun r_49 u_51 t8 H locs ht hvm hw_50 hB hz1 hk1 hS => ?_)
        obtain ⟨n1_52, m1_53, u1_54, w1_55, t1_56⟩ := u_51
        obtain ⟨hP1, hK1, hD1⟩ := hB
        rw [ht] at hP1
        have hK1 := va_K.moved hvm.symm hK1
        obtain ⟨hP, hD⟩ := va_joinP (X := [(x, .inr (4, [.ref xs, .ref xp, .int (nI ns), .int (nI np), .ref xl, .ref xr])), (xs, .inl (cS, 3, .inr (.inr (.inr (.inr sA))))), (xp, .inl (cP, 8, .inr (.inr (.inr (.inr pA))))), (xl, .inr (0, [.ref n1_43, .ref m1_44])), (n1_43, .inl (cL, 64, .inr (.inl u1_45))), (m1_44, .inl (cL, 64, .inr (.inl (fun _ => 0)))), (xr, .inr (2, [.ref xw, .ref xt])), (xw, .inl (cL, 8, .inr (.inl w1_46))), (xt, .inl (cL, 8, .inr (.inl t1_47)))]) (cx := [(x, .inr (4, [.ref xs, .ref xp, .int (nI ns), .int (nI np), .ref xl, .ref xr])), (xs, .inl (cS, 3, .inr (.inr (.inr (.inr sA))))), (xp, .inl (cP, 8, .inr (.inr (.inr (.inr pA))))), (xl, .inr (0, [.ref n1_43, .ref m1_44])), (n1_43, .inl (cL, 64, .inr (.inl u1_45))), (m1_44, .inl (cL, 64, .inr (.inl (fun _ => 0)))), (xr, .inr (2, [.ref xw, .ref xt])), (xw, .inl (cL, 8, .inr (.inl w1_46))), (xt, .inl (cL, 8, .inr (.inl t1_47)))]) (wr := []) (rx := [(x, .inr (4, [.ref xs, .ref xp, .int (nI ns), .int (nI np), .ref xl, .ref xr])), (xs, .inl (cS, 3, .inr (.inr (.inr (.inr sA))))), (xp, .inl (cP, 8, .inr (.inr (.inr (.inr pA))))), (xl, .inr (0, [.ref n1_52, .ref m1_53])), (n1_52, .inl (cL, 64, .inr (.inl u1_54))), (m1_53, .inl (cL, 64, .inr (.inl (fun _ => 0)))), (xr, .inr (2, [.ref xw, .ref xt])), (xw, .inl (cL, 8, .inr (.inl w1_55))), (xt, .inl (cL, 8, .inr (.inl t1_56)))]) (pl := va_pl L f) (pl1 := va_pl L f) hP hD [0, 1, 2, 3, 4, 5, 6, 7, 8] [] rfl rfl (by decide) (by decide) hk1 hFc hP1 hD1
        have hP : va_P (dC, dI) vwCl ([(x, .inr (4, [.ref xs, .ref xp, .int (nI ns), .int (nI np), .ref xl, .ref xr])), (xs, .inl (cS, 3, .inr (.inr (.inr (.inr sA))))), (xp, .inl (cP, 8, .inr (.inr (.inr (.inr pA))))), (xl, .inr (0, [.ref n1_52, .ref m1_53])), (n1_52, .inl (cL, 64, .inr (.inl u1_54))), (m1_53, .inl (cL, 64, .inr (.inl (fun _ => 0)))), (xr, .inr (2, [.ref xw, .ref xt])), (xw, .inl (cL, 8, .inr (.inl w1_55))), (xt, .inl (cL, 8, .inr (.inl t1_56)))] ++ va_pl L f) H := hP
        have hD : va_D A ([(x, .inr (4, [.ref xs, .ref xp, .int (nI ns), .int (nI np), .ref xl, .ref xr])), (xs, .inl (cS, 3, .inr (.inr (.inr (.inr sA))))), (xp, .inl (cP, 8, .inr (.inr (.inr (.inr pA))))), (xl, .inr (0, [.ref n1_52, .ref m1_53])), (n1_52, .inl (cL, 64, .inr (.inl u1_54))), (m1_53, .inl (cL, 64, .inr (.inl (fun _ => 0)))), (xr, .inr (2, [.ref xw, .ref xt])), (xw, .inl (cL, 8, .inr (.inl w1_55))), (xt, .inl (cL, 8, .inr (.inl t1_56)))] ++ va_pl L f) := hD
        have hw_50 : r_49 = (wN S (va_up P i (tog (P i))) np ns 3) := hw_50
        refine ax_l (y := (wN S (va_up P i (tog (P i))) np ns 3)) hw_50 ?_
        refine lv_ladd hx hb dX4_digest_182 ?_
        refine lv_lstore_n (lv' := [(1, .long ((((((((((((((((dd * 31) + ((nI ((P i).1)).toInt64)) * 31) + ((nI ((P i).2.1)).toInt64)) * 31) + ((nI ((P i).2.2.1)).toInt64)) * 31) + ((nI ((P i).2.2.2.1)).toInt64)) * 31) + ((nI (smX (P i).2.2.2.2.2 8)).toInt64)) * 31) + ((nI ((P i).2.2.2.2.1)).toInt64)) * 31) + (lsF S P i ns)) * 31) + (wN S (va_up P i (tog (P i))) np ns 3))), (4, .int 6), (3, .int (nI i)), (0, .ref x)]) hx hb dX4_digest_183 rfl hl (by decide) rfl (fun ls hl => ?_)
        refine lv_lload_n hx hb dX4_digest_184 rfl (lv_at hl 0 rfl) ?_
        refine lv_ldc2 (v := 31) hx hb hown (hts (.constantLong RX4 227 31) (by decide +kernel)) dX4_digest_185 ?_
        refine lv_lmul hx hb dX4_digest_188 ?_
        refine lv_aload_n hx hb dX4_digest_189 rfl (lv_at hl 3 rfl) ?_
        refine lv_iload_n hx hb dX4_digest_190 rfl (lv_at hl 2 rfl) ?_
        refine lv_iconst (v := 3) hx hb dX4_digest_191 (by decide) ?_
        have hPc : va_P (dC, dI) vwCl ([(x, .inr (4, [.ref xs, .ref xp, .int (nI ns), .int (nI np), .ref xl, .ref xr])), (xs, .inl (cS, 3, .inr (.inr (.inr (.inr sA))))), (xp, .inl (cP, 8, .inr (.inr (.inr (.inr pA))))), (xl, .inr (0, [.ref n1_52, .ref m1_53])), (n1_52, .inl (cL, 64, .inr (.inl u1_54))), (m1_53, .inl (cL, 64, .inr (.inl (fun _ => 0)))), (xr, .inr (2, [.ref xw, .ref xt])), (xw, .inl (cL, 8, .inr (.inl w1_55))), (xt, .inl (cL, 8, .inr (.inl t1_56)))] ++ va_pl L f) H := hP.part [0, 1, 2, 3, 4, 5, 6, 7, 8] rfl
        have hKc := hK.sub (tys' := [(cS, .object "Diffractory$Source"), (cP, .object "Diffractory$Part"), (cL, .long), (cI, .int)]) [0, 1, 2, 3] rfl
        have hDc : va_D A ([(x, .inr (4, [.ref xs, .ref xp, .int (nI ns), .int (nI np), .ref xl, .ref xr])), (xs, .inl (cS, 3, .inr (.inr (.inr (.inr sA))))), (xp, .inl (cP, 8, .inr (.inr (.inr (.inr pA))))), (xl, .inr (0, [.ref n1_52, .ref m1_53])), (n1_52, .inl (cL, 64, .inr (.inl u1_54))), (m1_53, .inl (cL, 64, .inr (.inl (fun _ => 0)))), (xr, .inr (2, [.ref xw, .ref xt])), (xw, .inl (cL, 8, .inr (.inl w1_55))), (xt, .inl (cL, 8, .inr (.inl t1_56)))] ++ va_pl L f) := hD.part [0, 1, 2, 3, 4, 5, 6, 7, 8] (by decide) rfl
        have hFc : ∀ q, va_A ([(x, .inr (4, [.ref xs, .ref xp, .int (nI ns), .int (nI np), .ref xl, .ref xr])), (xs, .inl (cS, 3, .inr (.inr (.inr (.inr sA))))), (xp, .inl (cP, 8, .inr (.inr (.inr (.inr pA))))), (xl, .inr (0, [.ref n1_52, .ref m1_53])), (n1_52, .inl (cL, 64, .inr (.inl u1_54))), (m1_53, .inl (cL, 64, .inr (.inl (fun _ => 0)))), (xr, .inr (2, [.ref xw, .ref xt])), (xw, .inl (cL, 8, .inr (.inl w1_55))), (xt, .inl (cL, 8, .inr (.inl t1_56)))] ++ va_pl L f) H.size q → A q := va_freeP hD hS hA [0, 1, 2, 3, 4, 5, 6, 7, 8] rfl
        refine va_calli (va_runV (As := [.int (nI i), .int 3]) (rest := [.long (((((((((((((((((dd * 31) + ((nI ((P i).1)).toInt64)) * 31) + ((nI ((P i).2.1)).toInt64)) * 31) + ((nI ((P i).2.2.1)).toInt64)) * 31) + ((nI ((P i).2.2.2.1)).toInt64)) * 31) + ((nI (smX (P i).2.2.2.2.2 8)).toInt64)) * 31) + ((nI ((P i).2.2.2.2.1)).toInt64)) * 31) + (lsF S P i ns)) * 31) + (wN S (va_up P i (tog (P i))) np ns 3)) * 31)]) ⟨hx, hb, hml, hown, hts⟩ (c_X4_best l dC dI x xs xp xl n1_52 m1_53 xr xw xt cS cP cL cI ta H.size u1_54 w1_55 t1_56 L f sA pA sd pd ed S P ns np i 3 hbn (by omega) (by omega)) (cwV 2 hts gX4_digest_X4_best rfl rfl rfl (by decide +kernel) ⟨Nat.le_of_ble_eq_true rfl, Nat.le_of_ble_eq_true rfl⟩) ⟨ax_fbW, va_recv hK hP (ci := 4) (q0 := 0) rfl rfl, ax_prW hPc hKc hDc hS hFc hE⟩ rfl rfl hl.1 rfl (lv_room (Nat.le_of_ble_eq_true rfl)) dX4_digest_192 ⟨Nat.le_of_ble_eq_true rfl, Nat.le_of_ble_eq_true rfl⟩) hS (fun q _ h9 => hFc q h9) hFc (fun r_58 u_60 t8 H locs ht hvm hw_59 hB hz1 hk1 hS => ?_)
        obtain ⟨n1_61, m1_62, u1_63, w1_64, t1_65⟩ := u_60
        obtain ⟨hP1, hK1, hD1⟩ := hB
        rw [ht] at hP1
        have hK1 := va_K.moved hvm.symm hK1
        obtain ⟨hP, hD⟩ := va_joinP (X := [(x, .inr (4, [.ref xs, .ref xp, .int (nI ns), .int (nI np), .ref xl, .ref xr])), (xs, .inl (cS, 3, .inr (.inr (.inr (.inr sA))))), (xp, .inl (cP, 8, .inr (.inr (.inr (.inr pA))))), (xl, .inr (0, [.ref n1_52, .ref m1_53])), (n1_52, .inl (cL, 64, .inr (.inl u1_54))), (m1_53, .inl (cL, 64, .inr (.inl (fun _ => 0)))), (xr, .inr (2, [.ref xw, .ref xt])), (xw, .inl (cL, 8, .inr (.inl w1_55))), (xt, .inl (cL, 8, .inr (.inl t1_56)))]) (cx := [(x, .inr (4, [.ref xs, .ref xp, .int (nI ns), .int (nI np), .ref xl, .ref xr])), (xs, .inl (cS, 3, .inr (.inr (.inr (.inr sA))))), (xp, .inl (cP, 8, .inr (.inr (.inr (.inr pA))))), (xl, .inr (0, [.ref n1_52, .ref m1_53])), (n1_52, .inl (cL, 64, .inr (.inl u1_54))), (m1_53, .inl (cL, 64, .inr (.inl (fun _ => 0)))), (xr, .inr (2, [.ref xw, .ref xt])), (xw, .inl (cL, 8, .inr (.inl w1_55))), (xt, .inl (cL, 8, .inr (.inl t1_56)))]) (wr := []) (rx := [(x, .inr (4, [.ref xs, .ref xp, .int (nI ns), .int (nI np), .ref xl, .ref xr])), (xs, .inl (cS, 3, .inr (.inr (.inr (.inr sA))))), (xp, .inl (cP, 8, .inr (.inr (.inr (.inr pA))))), (xl, .inr (0, [.ref n1_61, .ref m1_62])), (n1_61, .inl (cL, 64, .inr (.inl u1_63))), (m1_62, .inl (cL, 64, .inr (.inl (fun _ => 0)))), (xr, .inr (2, [.ref xw, .ref xt])), (xw, .inl (cL, 8, .inr (.inl w1_64))), (xt, .inl (cL, 8, .inr (.inl t1_65)))]) (pl := va_pl L f) (pl1 := va_pl L f) hP hD [0, 1, 2, 3, 4, 5, 6, 7, 8] [] rfl rfl (by decide) (by decide) hk1 hFc hP1 hD1
        have hP : va_P (dC, dI) vwCl ([(x, .inr (4, [.ref xs, .ref xp, .int (nI ns), .int (nI np), .ref xl, .ref xr])), (xs, .inl (cS, 3, .inr (.inr (.inr (.inr sA))))), (xp, .inl (cP, 8, .inr (.inr (.inr (.inr pA))))), (xl, .inr (0, [.ref n1_61, .ref m1_62])), (n1_61, .inl (cL, 64, .inr (.inl u1_63))), (m1_62, .inl (cL, 64, .inr (.inl (fun _ => 0)))), (xr, .inr (2, [.ref xw, .ref xt])), (xw, .inl (cL, 8, .inr (.inl w1_64))), (xt, .inl (cL, 8, .inr (.inl t1_65)))] ++ va_pl L f) H := hP
        have hD : va_D A ([(x, .inr (4, [.ref xs, .ref xp, .int (nI ns), .int (nI np), .ref xl, .ref xr])), (xs, .inl (cS, 3, .inr (.inr (.inr (.inr sA))))), (xp, .inl (cP, 8, .inr (.inr (.inr (.inr pA))))), (xl, .inr (0, [.ref n1_61, .ref m1_62])), (n1_61, .inl (cL, 64, .inr (.inl u1_63))), (m1_62, .inl (cL, 64, .inr (.inl (fun _ => 0)))), (xr, .inr (2, [.ref xw, .ref xt])), (xw, .inl (cL, 8, .inr (.inl w1_64))), (xt, .inl (cL, 8, .inr (.inl t1_65)))] ++ va_pl L f) := hD
        have hw_59 : r_58 = (bst S P ns np i 3) := hw_59
        refine ax_i (y := (bst S P ns np i 3)) hw_59 ?_
        refine lv_i2l (v := (bst S P ns np i 3).toInt64) hx hb dX4_digest_195 rfl ?_
        refine lv_ladd hx hb dX4_digest_196 ?_
        refine lv_lstore_n (lv' := [(1, .long ((((((((((((((((((dd * 31) + ((nI ((P i).1)).toInt64)) * 31) + ((nI ((P i).2.1)).toInt64)) * 31) + ((nI ((P i).2.2.1)).toInt64)) * 31) + ((nI ((P i).2.2.2.1)).toInt64)) * 31) + ((nI (smX (P i).2.2.2.2.2 8)).toInt64)) * 31) + ((nI ((P i).2.2.2.2.1)).toInt64)) * 31) + (lsF S P i ns)) * 31) + (wN S (va_up P i (tog (P i))) np ns 3)) * 31) + ((bst S P ns np i 3).toInt64))), (4, .int 6), (3, .int (nI i)), (0, .ref x)]) hx hb dX4_digest_197 rfl hl (by decide) rfl (fun ls hl => ?_)
        refine lv_iinc (v := (nI (i + 1))) (lv' := [(3, .int (nI (i + 1))), (1, .long ((((((((((((((((((dd * 31) + ((nI ((P i).1)).toInt64)) * 31) + ((nI ((P i).2.1)).toInt64)) * 31) + ((nI ((P i).2.2.1)).toInt64)) * 31) + ((nI ((P i).2.2.2.1)).toInt64)) * 31) + ((nI (smX (P i).2.2.2.2.2 8)).toInt64)) * 31) + ((nI ((P i).2.2.2.2.1)).toInt64)) * 31) + (lsF S P i ns)) * 31) + (wN S (va_up P i (tog (P i))) np ns 3)) * 31) + ((bst S P ns np i 3).toInt64))), (4, .int 6), (0, .ref x)]) hx hb dX4_digest_198 hl (k := 2) rfl (nI_succ _).symm (by decide) rfl (fun ls hl => ?_)
        refine lv_goto (tgt := 121) hx hb dX4_digest_201 (by decide) ?_
        have hl : lv_has ls 5 [(3, .int (nI (i + 1))), (1, .long ((((((((((((((((((dd * 31) + ((nI ((P i).1)).toInt64)) * 31) + ((nI ((P i).2.1)).toInt64)) * 31) + ((nI ((P i).2.2.1)).toInt64)) * 31) + ((nI ((P i).2.2.2.1)).toInt64)) * 31) + ((nI (smX (P i).2.2.2.2.2 8)).toInt64)) * 31) + ((nI ((P i).2.2.2.2.1)).toInt64)) * 31) + (lsF S P i ns)) * 31) + (wN S (va_up P i (tog (P i))) np ns 3)) * 31) + ((bst S P ns np i 3).toInt64))), (0, .ref x)] := lv_sub hl [0, 1, 3] rfl
        exact ih_20 (i + 1, ((((((((((((((((((dd * 31) + ((nI ((P i).1)).toInt64)) * 31) + ((nI ((P i).2.1)).toInt64)) * 31) + ((nI ((P i).2.2.1)).toInt64)) * 31) + ((nI ((P i).2.2.2.1)).toInt64)) * 31) + ((nI (smX (P i).2.2.2.2.2 8)).toInt64)) * 31) + ((nI ((P i).2.2.2.2.1)).toInt64)) * 31) + (lsF S P i ns)) * 31) + (wN S (va_up P i (tog (P i))) np ns 3)) * 31) + ((bst S P ns np i 3).toInt64)), n1_61, m1_62, u1_63, w1_64, t1_65) H locs ls ⟨by omega, by rw [hdd]; rfl, hl, hP, hD, hS⟩ (show np - (i + 1) < np - i by omega)
    · have c_19 := ax_fgeF c_19
      rw [nI_toInt (show np < 2 ^ 31 by omega)] at c_19
      have c_19 : pi.toInt < ((np : Nat) : Int) := c_19
      refine lv_aload_n hx hb dX4_digest_99 rfl (lv_at hl 2 rfl) ?_
      refine lv_iload_n hx hb dX4_digest_100 rfl (lv_at hl 0 rfl) ?_
      have hPc : va_P (dC, dI) vwCl ([(x, .inr (4, [.ref xs, .ref xp, .int (nI ns), .int (nI np), .ref xl, .ref xr])), (xs, .inl (cS, 3, .inr (.inr (.inr (.inr sA))))), (xp, .inl (cP, 8, .inr (.inr (.inr (.inr pA))))), (xl, .inr (0, [.ref n1, .ref m1])), (n1, .inl (cL, 64, .inr (.inl u1))), (m1, .inl (cL, 64, .inr (.inl (fun _ => 0)))), (xr, .inr (2, [.ref xw, .ref xt])), (xw, .inl (cL, 8, .inr (.inl w1))), (xt, .inl (cL, 8, .inr (.inl t1)))] ++ va_pl L f) H := hP.part [0, 1, 2, 3, 4, 5, 6, 7, 8] rfl
      have hKc := hK.sub (tys' := [(cS, .object "Diffractory$Source"), (cP, .object "Diffractory$Part"), (cL, .long), (cI, .int)]) [0, 1, 2, 3] rfl
      have hDc : va_D A ([(x, .inr (4, [.ref xs, .ref xp, .int (nI ns), .int (nI np), .ref xl, .ref xr])), (xs, .inl (cS, 3, .inr (.inr (.inr (.inr sA))))), (xp, .inl (cP, 8, .inr (.inr (.inr (.inr pA))))), (xl, .inr (0, [.ref n1, .ref m1])), (n1, .inl (cL, 64, .inr (.inl u1))), (m1, .inl (cL, 64, .inr (.inl (fun _ => 0)))), (xr, .inr (2, [.ref xw, .ref xt])), (xw, .inl (cL, 8, .inr (.inl w1))), (xt, .inl (cL, 8, .inr (.inl t1)))] ++ va_pl L f) := hD.part [0, 1, 2, 3, 4, 5, 6, 7, 8] (by decide) rfl
      have hFc : ∀ q, va_A ([(x, .inr (4, [.ref xs, .ref xp, .int (nI ns), .int (nI np), .ref xl, .ref xr])), (xs, .inl (cS, 3, .inr (.inr (.inr (.inr sA))))), (xp, .inl (cP, 8, .inr (.inr (.inr (.inr pA))))), (xl, .inr (0, [.ref n1, .ref m1])), (n1, .inl (cL, 64, .inr (.inl u1))), (m1, .inl (cL, 64, .inr (.inl (fun _ => 0)))), (xr, .inr (2, [.ref xw, .ref xt])), (xw, .inl (cL, 8, .inr (.inl w1))), (xt, .inl (cL, 8, .inr (.inl t1)))] ++ va_pl L f) H.size q → A q := va_freeP hD hS hA [0, 1, 2, 3, 4, 5, 6, 7, 8] rfl
      refine va_callv (va_runV (As := [.int pi]) (rest := []) ⟨hx, hb, hml, hown, hts⟩ (c_X4_shineAll l dC dI x xs xp xl n1 m1 xr xw xt cS cP cL cI ta H.size u1 w1 t1 L f sA pA sd pd ed S P ns np pi b hbn hpi (by omega)) (cwV 1 hts gX4_digest_X4_shineAll rfl rfl rfl (by decide +kernel) ⟨Nat.le_of_ble_eq_true rfl, Nat.le_of_ble_eq_true rfl⟩) ⟨ax_fbW, va_recv hK hP (ci := 4) (q0 := 0) rfl rfl, ax_prW hPc hKc hDc hS hFc hE⟩ rfl rfl hl.1 rfl (lv_room (Nat.le_of_ble_eq_true rfl)) dX4_digest_101 ⟨Nat.le_of_ble_eq_true rfl, Nat.le_of_ble_eq_true rfl⟩) hS (fun q _ h9 => hFc q h9) hFc (fun u_69 t8 H locs ht hvm hw_68 hB hz1 hk1 hS => ?_)
      obtain ⟨n1_70, m1_71, u1_72⟩ := u_69
      obtain ⟨hP1, hK1, hD1⟩ := hB
      rw [ht] at hP1
      have hK1 := va_K.moved hvm.symm hK1
      obtain ⟨hP, hD⟩ := va_joinP (X := [(x, .inr (4, [.ref xs, .ref xp, .int (nI ns), .int (nI np), .ref xl, .ref xr])), (xs, .inl (cS, 3, .inr (.inr (.inr (.inr sA))))), (xp, .inl (cP, 8, .inr (.inr (.inr (.inr pA))))), (xl, .inr (0, [.ref n1, .ref m1])), (n1, .inl (cL, 64, .inr (.inl u1))), (m1, .inl (cL, 64, .inr (.inl (fun _ => 0)))), (xr, .inr (2, [.ref xw, .ref xt])), (xw, .inl (cL, 8, .inr (.inl w1))), (xt, .inl (cL, 8, .inr (.inl t1)))]) (cx := [(x, .inr (4, [.ref xs, .ref xp, .int (nI ns), .int (nI np), .ref xl, .ref xr])), (xs, .inl (cS, 3, .inr (.inr (.inr (.inr sA))))), (xp, .inl (cP, 8, .inr (.inr (.inr (.inr pA))))), (xl, .inr (0, [.ref n1, .ref m1])), (n1, .inl (cL, 64, .inr (.inl u1))), (m1, .inl (cL, 64, .inr (.inl (fun _ => 0)))), (xr, .inr (2, [.ref xw, .ref xt])), (xw, .inl (cL, 8, .inr (.inl w1))), (xt, .inl (cL, 8, .inr (.inl t1)))]) (wr := []) (rx := [(x, .inr (4, [.ref xs, .ref xp, .int (nI ns), .int (nI np), .ref xl, .ref xr])), (xs, .inl (cS, 3, .inr (.inr (.inr (.inr sA))))), (xp, .inl (cP, 8, .inr (.inr (.inr (.inr pA))))), (xl, .inr (0, [.ref n1_70, .ref m1_71])), (n1_70, .inl (cL, 64, .inr (.inl u1_72))), (m1_71, .inl (cL, 64, .inr (.inl (fun _ => 0)))), (xr, .inr (2, [.ref xw, .ref xt])), (xw, .inl (cL, 8, .inr (.inl (wN S P b ns)))), (xt, .inl (cL, 8, .inr (.inl (tN S P b ns))))]) (pl := va_pl L f) (pl1 := va_pl L f) hP hD [0, 1, 2, 3, 4, 5, 6, 7, 8] [] rfl rfl (by decide) (by decide) hk1 hFc hP1 hD1
      have hP : va_P (dC, dI) vwCl ([(x, .inr (4, [.ref xs, .ref xp, .int (nI ns), .int (nI np), .ref xl, .ref xr])), (xs, .inl (cS, 3, .inr (.inr (.inr (.inr sA))))), (xp, .inl (cP, 8, .inr (.inr (.inr (.inr pA))))), (xl, .inr (0, [.ref n1_70, .ref m1_71])), (n1_70, .inl (cL, 64, .inr (.inl u1_72))), (m1_71, .inl (cL, 64, .inr (.inl (fun _ => 0)))), (xr, .inr (2, [.ref xw, .ref xt])), (xw, .inl (cL, 8, .inr (.inl (wN S P b ns)))), (xt, .inl (cL, 8, .inr (.inl (tN S P b ns))))] ++ va_pl L f) H := hP
      have hD : va_D A ([(x, .inr (4, [.ref xs, .ref xp, .int (nI ns), .int (nI np), .ref xl, .ref xr])), (xs, .inl (cS, 3, .inr (.inr (.inr (.inr sA))))), (xp, .inl (cP, 8, .inr (.inr (.inr (.inr pA))))), (xl, .inr (0, [.ref n1_70, .ref m1_71])), (n1_70, .inl (cL, 64, .inr (.inl u1_72))), (m1_71, .inl (cL, 64, .inr (.inl (fun _ => 0)))), (xr, .inr (2, [.ref xw, .ref xt])), (xw, .inl (cL, 8, .inr (.inl (wN S P b ns)))), (xt, .inl (cL, 8, .inr (.inl (tN S P b ns))))] ++ va_pl L f) := hD
      refine lv_aload_n hx hb dX4_digest_104 rfl (lv_at hl 2 rfl) ?_
      refine va_get (D := (dC, dI)) (ci := 4) (v := .ref xr) (C := RX4) (T := TX4) (N := 6) hx hb hts (by decide +kernel) hown hK hP 0 rfl rfl 5 (by decide) (hts (.fieldLink RX4 31 "Diffractory" "row" "LDiffractory$Row;") (by decide +kernel)) (fun _ h9 => h9) rfl dX4_digest_105 ?_
      refine lv_lload_n hx hb dX4_digest_108 rfl (lv_at hl 1 rfl) ?_
      have hPc := hP.sub (ws' := [(xr, .inr (2, [.ref xw, .ref xt])), (xw, .inl (cL, 8, .inr (.inl (wN S P b ns)))), (xt, .inl (cL, 8, .inr (.inl (tN S P b ns))))]) [6, 7, 8] rfl
      have hKc := hK.sub (tys' := [(cL, .long)]) [2] rfl
      refine va_calll (va_runV (As := [.long dd]) (rest := []) ⟨hx, hb, hml, hown, hts⟩ (c_X2_addToDigest l dC dI xr xw xt cL ta (wN S P b ns) (tN S P b ns) dd) (cwV 1 hts gX4_digest_X2_addToDigest rfl rfl rfl (by decide +kernel) ⟨Nat.le_of_ble_eq_true rfl, Nat.le_of_ble_eq_true rfl⟩) ⟨ax_fbR, va_recv hK hP (ci := 2) (q0 := 6) rfl rfl, ax_prR hPc hKc hS hE⟩ rfl rfl hl.1 rfl (lv_room (Nat.le_of_ble_eq_true rfl)) dX4_digest_109 ⟨Nat.le_of_ble_eq_true rfl, Nat.le_of_ble_eq_true rfl⟩) hS (fun _ _ h9 => h9.elim) (fun _ h9 => h9.elim) (fun r_74 u_76 t8 H locs ht hvm hw_75 hB hz1 hk1 hS => ?_)
      have hP := ax_keep hP (fun _ h9 => h9) hk1
      have hw_75 : r_74 = (adg (wN S P b ns) (tN S P b ns) dd) := hw_75
      refine ax_l (y := (adg (wN S P b ns) (tN S P b ns) dd)) hw_75 ?_
      refine lv_lstore_n (lv' := [(1, .long (adg (wN S P b ns) (tN S P b ns) dd)), (3, .int pi), (0, .ref x)]) hx hb dX4_digest_112 rfl hl (by decide) rfl (fun ls hl => ?_)
      refine lv_iinc (v := (pi + 1)) (lv' := [(3, .int (pi + 1)), (1, .long (adg (wN S P b ns) (tN S P b ns) dd)), (0, .ref x)]) hx hb dX4_digest_113 hl (k := 1) rfl rfl (by decide) rfl (fun ls hl => ?_)
      refine lv_goto (tgt := 91) hx hb dX4_digest_116 (by decide) ?_
      exact ih_18 (b + 1, (pi + 1), (adg (wN S P b ns) (tN S P b ns) dd), n1_70, m1_71, u1_72, (wN S P b ns), (tN S P b ns)) H locs ls ⟨by omega, ax_incT hpi (by omega), by rw [hdd]; rfl, hl, hP, hD, hS⟩ (show np + 1 - (b + 1) < np + 1 - b by omega)
  · have c_17 : i < ns := ax_fgeFN (by omega) (by omega) c_17
    refine lv_iconst (v := 0) hx hb dX4_digest_40 (by decide) ?_
    refine lv_istore (lv' := [(4, .int 0), (3, .int (nI i)), (1, .long dd), (0, .ref x)]) hx hb dX4_digest_41 hl (by decide) rfl (fun ls hl => ?_)
    refine lv_iload hx hb dX4_digest_43 (lv_at hl 0 rfl) ?_
    refine lv_iconst (v := 2) hx hb dX4_digest_45 (by decide) ?_
    refine lv_icmp_gt (tgt := 70) hx hb dX4_digest_46 (by decide) (fun h9 => absurd h9 (by decide)) (fun _ => ?_)
    refine lv_lload_n hx hb dX4_digest_49 rfl (lv_at hl 2 rfl) ?_
    refine lv_ldc2 (v := 31) hx hb hown (hts (.constantLong RX4 227 31) (by decide +kernel)) dX4_digest_50 ?_
    refine lv_lmul hx hb dX4_digest_53 ?_
    refine lv_aload_n hx hb dX4_digest_54 rfl (lv_at hl 3 rfl) ?_
    refine lv_iload_n hx hb dX4_digest_55 rfl (lv_at hl 1 rfl) ?_
    refine lv_iload hx hb dX4_digest_56 (lv_at hl 0 rfl) ?_
    have hPc : va_P (dC, dI) vwCl ([(x, .inr (4, [.ref xs, .ref xp, .int (nI ns), .int (nI np), .ref xl, .ref xr])), (xs, .inl (cS, 3, .inr (.inr (.inr (.inr sA))))), (xp, .inl (cP, 8, .inr (.inr (.inr (.inr pA))))), (xl, .inr (0, [.ref n1, .ref m1])), (n1, .inl (cL, 64, .inr (.inl u1))), (m1, .inl (cL, 64, .inr (.inl (fun _ => 0)))), (xr, .inr (2, [.ref xw, .ref xt])), (xw, .inl (cL, 8, .inr (.inl w1))), (xt, .inl (cL, 8, .inr (.inl t1)))] ++ va_pl L f) H := hP.part [0, 1, 2, 3, 4, 5, 6, 7, 8] rfl
    have hKc := hK.sub (tys' := [(cS, .object "Diffractory$Source"), (cP, .object "Diffractory$Part"), (cL, .long), (cI, .int)]) [0, 1, 2, 3] rfl
    refine va_calli (va_runV (As := [.int (nI i), .int 0]) (rest := [.long (dd * 31)]) ⟨hx, hb, hml, hown, hts⟩ (c_X4_ofSource_0 l dC dI x xs xp xl n1 m1 xr xw xt cS cP cL cI ta u1 w1 t1 L f sA pA sd pd ed S P ns np i hbn (by omega)) (cwV 2 hts gX4_digest_X4_ofSource rfl rfl rfl (by decide +kernel) ⟨Nat.le_of_ble_eq_true rfl, Nat.le_of_ble_eq_true rfl⟩) ⟨ax_fbR, va_recv hK hP (ci := 4) (q0 := 0) rfl rfl, ax_prR hPc hKc hS hE⟩ rfl rfl hl.1 rfl (lv_room (Nat.le_of_ble_eq_true rfl)) dX4_digest_58 ⟨Nat.le_of_ble_eq_true rfl, Nat.le_of_ble_eq_true rfl⟩) hS (fun _ _ h9 => h9.elim) (fun _ h9 => h9.elim) (fun r_77 u_79 t8 H locs ht hvm hw_78 hB hz1 hk1 hS => ?_)
    have hP := ax_keep hP (fun _ h9 => h9) hk1
    have hw_78 : r_77 = (nI ((S i).1)) := hw_78
    refine ax_i (y := (nI ((S i).1))) hw_78 ?_
    refine lv_i2l (v := (nI ((S i).1)).toInt64) hx hb dX4_digest_61 rfl ?_
    refine lv_ladd hx hb dX4_digest_62 ?_
    refine lv_lstore_n (lv' := [(1, .long ((dd * 31) + ((nI ((S i).1)).toInt64))), (4, .int 0), (3, .int (nI i)), (0, .ref x)]) hx hb dX4_digest_63 rfl hl (by decide) rfl (fun ls hl => ?_)
    refine lv_iinc (v := 1) (lv' := [(4, .int 1), (1, .long ((dd * 31) + ((nI ((S i).1)).toInt64))), (3, .int (nI i)), (0, .ref x)]) hx hb dX4_digest_64 hl (k := 1) rfl (by decide) (by decide) rfl (fun ls hl => ?_)
    refine lv_goto (tgt := 43) hx hb dX4_digest_67 (by decide) ?_
    refine lv_iload hx hb dX4_digest_43 (lv_at hl 0 rfl) ?_
    refine lv_iconst (v := 2) hx hb dX4_digest_45 (by decide) ?_
    refine lv_icmp_gt (tgt := 70) hx hb dX4_digest_46 (by decide) (fun h9 => absurd h9 (by decide)) (fun _ => ?_)
    refine lv_lload_n hx hb dX4_digest_49 rfl (lv_at hl 1 rfl) ?_
    refine lv_ldc2 (v := 31) hx hb hown (hts (.constantLong RX4 227 31) (by decide +kernel)) dX4_digest_50 ?_
    refine lv_lmul hx hb dX4_digest_53 ?_
    refine lv_aload_n hx hb dX4_digest_54 rfl (lv_at hl 3 rfl) ?_
    refine lv_iload_n hx hb dX4_digest_55 rfl (lv_at hl 2 rfl) ?_
    refine lv_iload hx hb dX4_digest_56 (lv_at hl 0 rfl) ?_
    have hPc : va_P (dC, dI) vwCl ([(x, .inr (4, [.ref xs, .ref xp, .int (nI ns), .int (nI np), .ref xl, .ref xr])), (xs, .inl (cS, 3, .inr (.inr (.inr (.inr sA))))), (xp, .inl (cP, 8, .inr (.inr (.inr (.inr pA))))), (xl, .inr (0, [.ref n1, .ref m1])), (n1, .inl (cL, 64, .inr (.inl u1))), (m1, .inl (cL, 64, .inr (.inl (fun _ => 0)))), (xr, .inr (2, [.ref xw, .ref xt])), (xw, .inl (cL, 8, .inr (.inl w1))), (xt, .inl (cL, 8, .inr (.inl t1)))] ++ va_pl L f) H := hP.part [0, 1, 2, 3, 4, 5, 6, 7, 8] rfl
    have hKc := hK.sub (tys' := [(cS, .object "Diffractory$Source"), (cP, .object "Diffractory$Part"), (cL, .long), (cI, .int)]) [0, 1, 2, 3] rfl
    refine va_calli (va_runV (As := [.int (nI i), .int 1]) (rest := [.long (((dd * 31) + ((nI ((S i).1)).toInt64)) * 31)]) ⟨hx, hb, hml, hown, hts⟩ (c_X4_ofSource_1 l dC dI x xs xp xl n1 m1 xr xw xt cS cP cL cI ta u1 w1 t1 L f sA pA sd pd ed S P ns np i hbn (by omega)) (cwV 2 hts gX4_digest_X4_ofSource rfl rfl rfl (by decide +kernel) ⟨Nat.le_of_ble_eq_true rfl, Nat.le_of_ble_eq_true rfl⟩) ⟨ax_fbR, va_recv hK hP (ci := 4) (q0 := 0) rfl rfl, ax_prR hPc hKc hS hE⟩ rfl rfl hl.1 rfl (lv_room (Nat.le_of_ble_eq_true rfl)) dX4_digest_58 ⟨Nat.le_of_ble_eq_true rfl, Nat.le_of_ble_eq_true rfl⟩) hS (fun _ _ h9 => h9.elim) (fun _ h9 => h9.elim) (fun r_80 u_82 t8 H locs ht hvm hw_81 hB hz1 hk1 hS => ?_)
    have hP := ax_keep hP (fun _ h9 => h9) hk1
    have hw_81 : r_80 = (nI ((S i).2.1)) := hw_81
    refine ax_i (y := (nI ((S i).2.1))) hw_81 ?_
    refine lv_i2l (v := (nI ((S i).2.1)).toInt64) hx hb dX4_digest_61 rfl ?_
    refine lv_ladd hx hb dX4_digest_62 ?_
    refine lv_lstore_n (lv' := [(1, .long ((((dd * 31) + ((nI ((S i).1)).toInt64)) * 31) + ((nI ((S i).2.1)).toInt64))), (4, .int 1), (3, .int (nI i)), (0, .ref x)]) hx hb dX4_digest_63 rfl hl (by decide) rfl (fun ls hl => ?_)
    refine lv_iinc (v := 2) (lv' := [(4, .int 2), (1, .long ((((dd * 31) + ((nI ((S i).1)).toInt64)) * 31) + ((nI ((S i).2.1)).toInt64))), (3, .int (nI i)), (0, .ref x)]) hx hb dX4_digest_64 hl (k := 1) rfl (by decide) (by decide) rfl (fun ls hl => ?_)
    refine lv_goto (tgt := 43) hx hb dX4_digest_67 (by decide) ?_
    refine lv_iload hx hb dX4_digest_43 (lv_at hl 0 rfl) ?_
    refine lv_iconst (v := 2) hx hb dX4_digest_45 (by decide) ?_
    refine lv_icmp_gt (tgt := 70) hx hb dX4_digest_46 (by decide) (fun h9 => absurd h9 (by decide)) (fun _ => ?_)
    refine lv_lload_n hx hb dX4_digest_49 rfl (lv_at hl 1 rfl) ?_
    refine lv_ldc2 (v := 31) hx hb hown (hts (.constantLong RX4 227 31) (by decide +kernel)) dX4_digest_50 ?_
    refine lv_lmul hx hb dX4_digest_53 ?_
    refine lv_aload_n hx hb dX4_digest_54 rfl (lv_at hl 3 rfl) ?_
    refine lv_iload_n hx hb dX4_digest_55 rfl (lv_at hl 2 rfl) ?_
    refine lv_iload hx hb dX4_digest_56 (lv_at hl 0 rfl) ?_
    have hPc : va_P (dC, dI) vwCl ([(x, .inr (4, [.ref xs, .ref xp, .int (nI ns), .int (nI np), .ref xl, .ref xr])), (xs, .inl (cS, 3, .inr (.inr (.inr (.inr sA))))), (xp, .inl (cP, 8, .inr (.inr (.inr (.inr pA))))), (xl, .inr (0, [.ref n1, .ref m1])), (n1, .inl (cL, 64, .inr (.inl u1))), (m1, .inl (cL, 64, .inr (.inl (fun _ => 0)))), (xr, .inr (2, [.ref xw, .ref xt])), (xw, .inl (cL, 8, .inr (.inl w1))), (xt, .inl (cL, 8, .inr (.inl t1)))] ++ va_pl L f) H := hP.part [0, 1, 2, 3, 4, 5, 6, 7, 8] rfl
    have hKc := hK.sub (tys' := [(cS, .object "Diffractory$Source"), (cP, .object "Diffractory$Part"), (cL, .long), (cI, .int)]) [0, 1, 2, 3] rfl
    refine va_calli (va_runV (As := [.int (nI i), .int 2]) (rest := [.long (((((dd * 31) + ((nI ((S i).1)).toInt64)) * 31) + ((nI ((S i).2.1)).toInt64)) * 31)]) ⟨hx, hb, hml, hown, hts⟩ (c_X4_ofSource_2 l dC dI x xs xp xl n1 m1 xr xw xt cS cP cL cI ta u1 w1 t1 L f sA pA sd pd ed S P ns np i hbn (by omega)) (cwV 2 hts gX4_digest_X4_ofSource rfl rfl rfl (by decide +kernel) ⟨Nat.le_of_ble_eq_true rfl, Nat.le_of_ble_eq_true rfl⟩) ⟨ax_fbR, va_recv hK hP (ci := 4) (q0 := 0) rfl rfl, ax_prR hPc hKc hS hE⟩ rfl rfl hl.1 rfl (lv_room (Nat.le_of_ble_eq_true rfl)) dX4_digest_58 ⟨Nat.le_of_ble_eq_true rfl, Nat.le_of_ble_eq_true rfl⟩) hS (fun _ _ h9 => h9.elim) (fun _ h9 => h9.elim) (fun r_83 u_85 t8 H locs ht hvm hw_84 hB hz1 hk1 hS => ?_)
    have hP := ax_keep hP (fun _ h9 => h9) hk1
    have hw_84 : r_83 = (nI ((S i).2.2)) := hw_84
    refine ax_i (y := (nI ((S i).2.2))) hw_84 ?_
    refine lv_i2l (v := (nI ((S i).2.2)).toInt64) hx hb dX4_digest_61 rfl ?_
    refine lv_ladd hx hb dX4_digest_62 ?_
    refine lv_lstore_n (lv' := [(1, .long ((((((dd * 31) + ((nI ((S i).1)).toInt64)) * 31) + ((nI ((S i).2.1)).toInt64)) * 31) + ((nI ((S i).2.2)).toInt64))), (4, .int 2), (3, .int (nI i)), (0, .ref x)]) hx hb dX4_digest_63 rfl hl (by decide) rfl (fun ls hl => ?_)
    refine lv_iinc (v := 3) (lv' := [(4, .int 3), (1, .long ((((((dd * 31) + ((nI ((S i).1)).toInt64)) * 31) + ((nI ((S i).2.1)).toInt64)) * 31) + ((nI ((S i).2.2)).toInt64))), (3, .int (nI i)), (0, .ref x)]) hx hb dX4_digest_64 hl (k := 1) rfl (by decide) (by decide) rfl (fun ls hl => ?_)
    refine lv_goto (tgt := 43) hx hb dX4_digest_67 (by decide) ?_
    refine lv_iload hx hb dX4_digest_43 (lv_at hl 0 rfl) ?_
    refine lv_iconst (v := 2) hx hb dX4_digest_45 (by decide) ?_
    refine lv_icmp_gt (tgt := 70) hx hb dX4_digest_46 (by decide) (fun _ => ?_) (fun h9 => absurd (by decide) h9)
    refine lv_lload_n hx hb dX4_digest_70 rfl (lv_at hl 1 rfl) ?_
    refine lv_ldc2 (v := 31) hx hb hown (hts (.constantLong RX4 227 31) (by decide +kernel)) dX4_digest_71 ?_
    refine lv_lmul hx hb dX4_digest_74 ?_
    refine lv_aload_n hx hb dX4_digest_75 rfl (lv_at hl 3 rfl) ?_
    refine lv_iload_n hx hb dX4_digest_76 rfl (lv_at hl 2 rfl) ?_
    have hPc : va_P (dC, dI) vwCl ([(x, .inr (4, [.ref xs, .ref xp, .int (nI ns), .int (nI np), .ref xl, .ref xr])), (xs, .inl (cS, 3, .inr (.inr (.inr (.inr sA))))), (xp, .inl (cP, 8, .inr (.inr (.inr (.inr pA))))), (xl, .inr (0, [.ref n1, .ref m1])), (n1, .inl (cL, 64, .inr (.inl u1))), (m1, .inl (cL, 64, .inr (.inl (fun _ => 0)))), (xr, .inr (2, [.ref xw, .ref xt])), (xw, .inl (cL, 8, .inr (.inl w1))), (xt, .inl (cL, 8, .inr (.inl t1)))] ++ va_pl L f) H := hP.part [0, 1, 2, 3, 4, 5, 6, 7, 8] rfl
    have hKc := hK.sub (tys' := [(cS, .object "Diffractory$Source"), (cP, .object "Diffractory$Part"), (cL, .long), (cI, .int)]) [0, 1, 2, 3] rfl
    have hDc : va_D A ([(x, .inr (4, [.ref xs, .ref xp, .int (nI ns), .int (nI np), .ref xl, .ref xr])), (xs, .inl (cS, 3, .inr (.inr (.inr (.inr sA))))), (xp, .inl (cP, 8, .inr (.inr (.inr (.inr pA))))), (xl, .inr (0, [.ref n1, .ref m1])), (n1, .inl (cL, 64, .inr (.inl u1))), (m1, .inl (cL, 64, .inr (.inl (fun _ => 0)))), (xr, .inr (2, [.ref xw, .ref xt])), (xw, .inl (cL, 8, .inr (.inl w1))), (xt, .inl (cL, 8, .inr (.inl t1)))] ++ va_pl L f) := hD.part [0, 1, 2, 3, 4, 5, 6, 7, 8] (by decide) rfl
    have hFc : ∀ q, va_A ([(x, .inr (4, [.ref xs, .ref xp, .int (nI ns), .int (nI np), .ref xl, .ref xr])), (xs, .inl (cS, 3, .inr (.inr (.inr (.inr sA))))), (xp, .inl (cP, 8, .inr (.inr (.inr (.inr pA))))), (xl, .inr (0, [.ref n1, .ref m1])), (n1, .inl (cL, 64, .inr (.inl u1))), (m1, .inl (cL, 64, .inr (.inl (fun _ => 0)))), (xr, .inr (2, [.ref xw, .ref xt])), (xw, .inl (cL, 8, .inr (.inl w1))), (xt, .inl (cL, 8, .inr (.inl t1)))] ++ va_pl L f) H.size q → A q := va_freeP hD hS hA [0, 1, 2, 3, 4, 5, 6, 7, 8] rfl
    refine va_calli (va_runV (As := [.int (nI i)]) (rest := [.long (((((((dd * 31) + ((nI ((S i).1)).toInt64)) * 31) + ((nI ((S i).2.1)).toInt64)) * 31) + ((nI ((S i).2.2)).toInt64)) * 31)]) ⟨hx, hb, hml, hown, hts⟩ (c_X4_alone l dC dI x xs xp xl n1 m1 xr xw xt cS cP cL cI ta H.size u1 w1 t1 L f sA pA sd pd ed S P ns np i hbn (by omega)) (cwV 1 hts gX4_digest_X4_alone rfl rfl rfl (by decide +kernel) ⟨Nat.le_of_ble_eq_true rfl, Nat.le_of_ble_eq_true rfl⟩) ⟨ax_fbW, va_recv hK hP (ci := 4) (q0 := 0) rfl rfl, ax_prW hPc hKc hDc hS hFc hE⟩ rfl rfl hl.1 rfl (lv_room (Nat.le_of_ble_eq_true rfl)) dX4_digest_77 ⟨Nat.le_of_ble_eq_true rfl, Nat.le_of_ble_eq_true rfl⟩) hS (fun q _ h9 => hFc q h9) hFc (fun r_86 u_88 t8 H locs ht hvm hw_87 hB hz1 hk1 hS => ?_)
    obtain ⟨n1_89, m1_90, u1_91, w1_92, t1_93⟩ := u_88
    obtain ⟨hP1, hK1, hD1⟩ := hB
    rw [ht] at hP1
    have hK1 := va_K.moved hvm.symm hK1
    obtain ⟨hP, hD⟩ := va_joinP (X := [(x, .inr (4, [.ref xs, .ref xp, .int (nI ns), .int (nI np), .ref xl, .ref xr])), (xs, .inl (cS, 3, .inr (.inr (.inr (.inr sA))))), (xp, .inl (cP, 8, .inr (.inr (.inr (.inr pA))))), (xl, .inr (0, [.ref n1, .ref m1])), (n1, .inl (cL, 64, .inr (.inl u1))), (m1, .inl (cL, 64, .inr (.inl (fun _ => 0)))), (xr, .inr (2, [.ref xw, .ref xt])), (xw, .inl (cL, 8, .inr (.inl w1))), (xt, .inl (cL, 8, .inr (.inl t1)))]) (cx := [(x, .inr (4, [.ref xs, .ref xp, .int (nI ns), .int (nI np), .ref xl, .ref xr])), (xs, .inl (cS, 3, .inr (.inr (.inr (.inr sA))))), (xp, .inl (cP, 8, .inr (.inr (.inr (.inr pA))))), (xl, .inr (0, [.ref n1, .ref m1])), (n1, .inl (cL, 64, .inr (.inl u1))), (m1, .inl (cL, 64, .inr (.inl (fun _ => 0)))), (xr, .inr (2, [.ref xw, .ref xt])), (xw, .inl (cL, 8, .inr (.inl w1))), (xt, .inl (cL, 8, .inr (.inl t1)))]) (wr := []) (rx := [(x, .inr (4, [.ref xs, .ref xp, .int (nI ns), .int (nI np), .ref xl, .ref xr])), (xs, .inl (cS, 3, .inr (.inr (.inr (.inr sA))))), (xp, .inl (cP, 8, .inr (.inr (.inr (.inr pA))))), (xl, .inr (0, [.ref n1_89, .ref m1_90])), (n1_89, .inl (cL, 64, .inr (.inl u1_91))), (m1_90, .inl (cL, 64, .inr (.inl (fun _ => 0)))), (xr, .inr (2, [.ref xw, .ref xt])), (xw, .inl (cL, 8, .inr (.inl w1_92))), (xt, .inl (cL, 8, .inr (.inl t1_93)))]) (pl := va_pl L f) (pl1 := va_pl L f) hP hD [0, 1, 2, 3, 4, 5, 6, 7, 8] [] rfl rfl (by decide) (by decide) hk1 hFc hP1 hD1
    have hP : va_P (dC, dI) vwCl ([(x, .inr (4, [.ref xs, .ref xp, .int (nI ns), .int (nI np), .ref xl, .ref xr])), (xs, .inl (cS, 3, .inr (.inr (.inr (.inr sA))))), (xp, .inl (cP, 8, .inr (.inr (.inr (.inr pA))))), (xl, .inr (0, [.ref n1_89, .ref m1_90])), (n1_89, .inl (cL, 64, .inr (.inl u1_91))), (m1_90, .inl (cL, 64, .inr (.inl (fun _ => 0)))), (xr, .inr (2, [.ref xw, .ref xt])), (xw, .inl (cL, 8, .inr (.inl w1_92))), (xt, .inl (cL, 8, .inr (.inl t1_93)))] ++ va_pl L f) H := hP
    have hD : va_D A ([(x, .inr (4, [.ref xs, .ref xp, .int (nI ns), .int (nI np), .ref xl, .ref xr])), (xs, .inl (cS, 3, .inr (.inr (.inr (.inr sA))))), (xp, .inl (cP, 8, .inr (.inr (.inr (.inr pA))))), (xl, .inr (0, [.ref n1_89, .ref m1_90])), (n1_89, .inl (cL, 64, .inr (.inl u1_91))), (m1_90, .inl (cL, 64, .inr (.inl (fun _ => 0)))), (xr, .inr (2, [.ref xw, .ref xt])), (xw, .inl (cL, 8, .inr (.inl w1_92))), (xt, .inl (cL, 8, .inr (.inl t1_93)))] ++ va_pl L f) := hD
    have hw_87 : r_86 = (nI (aln S P np i)) := hw_87
    refine ax_i (y := (nI (aln S P np i))) hw_87 ?_
    refine lv_i2l (v := (nI (aln S P np i)).toInt64) hx hb dX4_digest_80 rfl ?_
    refine lv_ladd hx hb dX4_digest_81 ?_
    refine lv_lstore_n (lv' := [(1, .long ((((((((dd * 31) + ((nI ((S i).1)).toInt64)) * 31) + ((nI ((S i).2.1)).toInt64)) * 31) + ((nI ((S i).2.2)).toInt64)) * 31) + ((nI (aln S P np i)).toInt64))), (4, .int 3), (3, .int (nI i)), (0, .ref x)]) hx hb dX4_digest_82 rfl hl (by decide) rfl (fun ls hl => ?_)
    refine lv_iinc (v := (nI (i + 1))) (lv' := [(3, .int (nI (i + 1))), (1, .long ((((((((dd * 31) + ((nI ((S i).1)).toInt64)) * 31) + ((nI ((S i).2.1)).toInt64)) * 31) + ((nI ((S i).2.2)).toInt64)) * 31) + ((nI (aln S P np i)).toInt64))), (4, .int 3), (0, .ref x)]) hx hb dX4_digest_83 hl (k := 2) rfl (nI_succ _).symm (by decide) rfl (fun ls hl => ?_)
    refine lv_goto (tgt := 32) hx hb dX4_digest_86 (by decide) ?_
    have hl : lv_has ls 5 [(3, .int (nI (i + 1))), (1, .long ((((((((dd * 31) + ((nI ((S i).1)).toInt64)) * 31) + ((nI ((S i).2.1)).toInt64)) * 31) + ((nI ((S i).2.2)).toInt64)) * 31) + ((nI (aln S P np i)).toInt64))), (0, .ref x)] := lv_sub hl [0, 1, 3] rfl
    exact ih_16 (i + 1, ((((((((dd * 31) + ((nI ((S i).1)).toInt64)) * 31) + ((nI ((S i).2.1)).toInt64)) * 31) + ((nI ((S i).2.2)).toInt64)) * 31) + ((nI (aln S P np i)).toInt64)), n1_89, m1_90, u1_91, w1_92, t1_93) H locs ls ⟨by omega, by rw [hdd]; rfl, hl, hP, hD, hS⟩ (show ns - (i + 1) < ns - i by omega)
