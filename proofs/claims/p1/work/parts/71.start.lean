set_option maxHeartbeats 4000000 in
set_option maxRecDepth 100000 in
theorem law_all5 {p : Program} {e : Env} {s : State} {m : MethodId} {below : List Frame} {meth : Method} {c : Code} (l : Launch) (hlt : l.stackTraces = false) {b : Nat} {xs : Nat → Int32} (C0 : lw_At p s m meth c b 5 xs) : W p l e room_1 s m #[Value.ref b] below meth c s.heap [] 0 0 (lw_Z below #[Value.ref b] s) (entryFrame m ([Value.ref b] : List Value).toArray 9) := by
  obtain ⟨hx, hb, hr, hml, hown, hts, hX, hbl, hlocks, hgv⟩ := id C0
  obtain ⟨A, hAd⟩ : ∃ A : Nat → Prop, A = fun q => s.heap.size ≤ q := ⟨_, rfl⟩
  have hA : ∀ q : Nat, s.heap.size ≤ q → A q := fun q h => by rw [hAd]; exact h
  have hbA : ¬ A b := by rw [hAd]; exact Nat.not_le.mpr hbl
  obtain ⟨c0, i0, hKn0⟩ := u_known (C := RJ0) (T := TJ0) (N := 4) (n := 4) hts in_J0 (hts (.instantiable RJ0 4) (by decide +kernel))
  obtain ⟨c1, i1, hKn1⟩ := u_known (C := RJ4) (T := TJ4) (N := 4) (n := 4) hts in_J4 (hts (.instantiable RJ4 4) (by decide +kernel))
  obtain ⟨c2, i2, hKn2⟩ := u_known (C := RJx00060) (T := TJx00060) (N := 6) (n := 6) hts in_Jx00060 (hts (.instantiable RJx00060 6) (by decide +kernel))
  obtain ⟨c3, i3, hKn3⟩ := u_known (C := RJx4a65c) (T := TJx4a65c) (N := 3) (n := 3) hts in_Jx4a65c (hts (.instantiable RJx4a65c 3) (by decide +kernel))
  obtain ⟨c4, i4, hKn4⟩ := u_known (C := RX0) (T := TX0) (N := 2) (n := 2) hts in_X0 (hts (.instantiable RX0 2) (by decide +kernel))
  obtain ⟨c5, i5, hKn5⟩ := u_known (C := RX1) (T := TX1) (N := 6) (n := 6) hts in_X1 (hts (.instantiable RX1 6) (by decide +kernel))
  obtain ⟨c6, i6, hKn6⟩ := u_known (C := RX2) (T := TX2) (N := 2) (n := 2) hts in_X2 (hts (.instantiable RX2 2) (by decide +kernel))
  obtain ⟨c7, i7, hKn7⟩ := u_known (C := RX3) (T := TX3) (N := 3) (n := 3) hts in_X3 (hts (.instantiable RX3 3) (by decide +kernel))
  obtain ⟨c8, i8, hKn8⟩ := u_known (C := RX4) (T := TX4) (N := 6) (n := 6) hts in_X4 (hts (.instantiable RX4 6) (by decide +kernel))
  obtain ⟨c9, i9, hKn9⟩ := u_known (C := RX5) (T := TX5) (N := 6) (n := 6) hts in_X5 (hts (.instantiable RX5 6) (by decide +kernel))
  obtain ⟨c10, i10, hKn10⟩ := u_known (C := RX6) (T := TX6) (N := 3) (n := 3) hts in_X6 (hts (.instantiable RX6 3) (by decide +kernel))
  obtain ⟨c11, i11, hKn11⟩ := u_known (C := RX7) (T := TX7) (N := 4) (n := 4) hts in_X7 (hts (.instantiable RX7 4) (by decide +kernel))
  obtain ⟨dC, dI, hKc⟩ : ∃ (dC : Nat → ClassId) (dI : Nat → Nat → Nat), ∀ (k : Nat) (q : vw_C), vwCl[k]? = some q → u_Kn s q.1 q.2.1 q.2.2 (dC k) (dI k) := by
    refine ⟨fun k => match k with | 0 => c0 | 1 => c1 | 2 => c2 | 3 => c3 | 4 => c4 | 5 => c5 | 6 => c6 | 7 => c7 | 8 => c8 | 9 => c9 | 10 => c10 | _ => c11, fun k => match k with | 0 => i0 | 1 => i1 | 2 => i2 | 3 => i3 | 4 => i4 | 5 => i5 | 6 => i6 | 7 => i7 | 8 => i8 | 9 => i9 | 10 => i10 | _ => i11, ?_⟩
    intro k q hq
    match k, hq with
    | 0, hq => cases hq; exact hKn0
    | 1, hq => cases hq; exact hKn1
    | 2, hq => cases hq; exact hKn2
    | 3, hq => cases hq; exact hKn3
    | 4, hq => cases hq; exact hKn4
    | 5, hq => cases hq; exact hKn5
    | 6, hq => cases hq; exact hKn6
    | 7, hq => cases hq; exact hKn7
    | 8, hq => cases hq; exact hKn8
    | 9, hq => cases hq; exact hKn9
    | 10, hq => cases hq; exact hKn10
    | 11, hq => cases hq; exact hKn11
    | k + 12, hq => simp [vwCl] at hq
  have hS : va_S A s.heap s.heap [] := va_S.rf
  have hK : va_K (dC, dI) vwCl [] s := ⟨hKc, fun k q h => by simp at h⟩
  have hP : va_P (dC, dI) vwCl [] s.heap := fun k q h => by simp at h
  have hD : va_D A [] := ⟨fun i j p q h => by simp at h, fun k q h => by simp at h⟩
  obtain ⟨sa, ta, hE⟩ := ax_S_start (A := A) hts hgv (fun a h => by rw [hAd]; exact Nat.not_le.mpr h)
  have hl := lv_entry ([.ref b]) (n := 9) (Nat.le_of_ble_eq_true rfl)
  rw [lg_entry_eq]
  generalize (lg_sl ([.ref b]) ++ List.replicate (9 - (lg_sl ([.ref b])).length) Slot.unset).toArray = ls at hl ⊢
  have hl : lv_has ls 9 [(0, .ref b)] := hl
  refine va_new (ci := 8) (fs := [.null, .null, .int 0, .int 0, .null, .null]) (C := RX4) (T := TX4) (N := 6) hx hb hts (by decide +kernel) tyX4 tyX4_ok hown (hts (.classLink RL 8 RX4) (by decide +kernel)) (hts (.instantiable RX4 6) (by decide +kernel)) (hts (.initialized RX4) (by decide +kernel)) hK hP hD hS hA rfl (fun j hj => by rcases (show j = 0 ∨ j = 1 ∨ j = 2 ∨ j = 3 ∨ j = 4 ∨ j = 5 by omega) with rfl | rfl | rfl | rfl | rfl | rfl <;> rfl) (Nat.le_of_ble_eq_true rfl) (Nat.le_of_ble_eq_true rfl) dL_law_0 (fun q_1 H hP hD hS => ?_)
  have hP : va_P (dC, dI) vwCl [(q_1, .inr (8, [.null, .null, .int 0, .int 0, .null, .null]))] H := hP
  have hD : va_D A [(q_1, .inr (8, [.null, .null, .int 0, .int 0, .null, .null]))] := hD
  refine lv_dup hx hb dL_law_3 rfl ?_
  have hPc := hP.sub (ws' := [(q_1, .inr (8, [.null, .null, .int 0, .int 0, .null, .null]))]) [0] rfl
  have hKc := hK.sub (tys' := []) [] rfl
  have hDc := hD.sub (ws' := [(q_1, .inr (8, [.null, .null, .int 0, .int 0, .null, .null]))]) [0] (by decide) rfl
  have hFc := va_free (wc := [(q_1, .inr (8, [.null, .null, .int 0, .int 0, .null, .null]))]) hD hS hA [0] rfl
  refine va_callv (va_runI (As := []) (rest := [.ref q_1]) ⟨hx, hb, hml, hown, hts⟩ (c_X4_init l dC dI q_1 sa ta H.size) (cwI 0 hts gl_X4_init rfl rfl rfl (hts (.initialized RX4) (by decide +kernel)) (hts (.methodLink RL 98 yX4_init) (by decide +kernel)) (hts (.instanceMethod yX4_init) (by decide +kernel)) rfl (by decide +kernel) ⟨Nat.le_of_ble_eq_true rfl, Nat.le_of_ble_eq_true rfl⟩) ⟨ax_fbW, ax_prW hPc hKc hDc hS hFc hE⟩ rfl rfl hl.1 rfl (lv_room (Nat.le_of_ble_eq_true rfl)) dL_law_4 ⟨Nat.le_of_ble_eq_true rfl, Nat.le_of_ble_eq_true rfl⟩) hS (fun q _ h9 => hFc q h9) hFc (fun u_4  t H locs ht hvm hw_3 hB hz1 hk1 hS => ?_)
  obtain ⟨xs_5, xp_6, xl_7, xn_8, xm_9, xr_10, xw_11, xt_12, cS_13, cP_14, cn_15, cm_16, cw_17, ct_18⟩ := u_4
  obtain ⟨hP1, hK1, hD1⟩ := hB
  rw [ht] at hP1
  have hK1 := va_K.moved hvm.symm hK1
  obtain ⟨hP, hD⟩ := va_join (wr := []) (w1 := [(q_1, .inr (8, [.ref xs_5, .ref xp_6, .int 0, .int 0, .ref xl_7, .ref xr_10])), (xs_5, .inl (cS_13, 3, .inr (.inr (.inr (.inr (fun _ => none)))))), (xp_6, .inl (cP_14, 8, .inr (.inr (.inr (.inr (fun _ => none)))))), (xl_7, .inr (4, [.ref xn_8, .ref xm_9])), (xn_8, .inl (cn_15, 64, .inr (.inl (fun _ => 0)))), (xm_9, .inl (cm_16, 64, .inr (.inl (fun _ => 0)))), (xr_10, .inr (6, [.ref xw_11, .ref xt_12])), (xw_11, .inl (cw_17, 8, .inr (.inl (fun _ => 0)))), (xt_12, .inl (ct_18, 8, .inr (.inl (fun _ => 0))))]) hP hD [0] [] rfl rfl (by decide) (by decide) hk1 hFc hP1 hD1
  have hK := hK.app hK1
  have hK := hK.sub (tys' := [(cS_13, .object "Diffractory$Source"), (cP_14, .object "Diffractory$Part"), (cn_15, .long), (cm_16, .long), (cw_17, .long), (ct_18, .long)]) [0, 1, 2, 3, 4, 5] rfl
  have hP : va_P (dC, dI) vwCl [(q_1, .inr (8, [.ref xs_5, .ref xp_6, .int 0, .int 0, .ref xl_7, .ref xr_10])), (xs_5, .inl (cS_13, 3, .inr (.inr (.inr (.inr (fun _ => none)))))), (xp_6, .inl (cP_14, 8, .inr (.inr (.inr (.inr (fun _ => none)))))), (xl_7, .inr (4, [.ref xn_8, .ref xm_9])), (xn_8, .inl (cn_15, 64, .inr (.inl (fun _ => 0)))), (xm_9, .inl (cm_16, 64, .inr (.inl (fun _ => 0)))), (xr_10, .inr (6, [.ref xw_11, .ref xt_12])), (xw_11, .inl (cw_17, 8, .inr (.inl (fun _ => 0)))), (xt_12, .inl (ct_18, 8, .inr (.inl (fun _ => 0))))] H := hP
  have hD : va_D A [(q_1, .inr (8, [.ref xs_5, .ref xp_6, .int 0, .int 0, .ref xl_7, .ref xr_10])), (xs_5, .inl (cS_13, 3, .inr (.inr (.inr (.inr (fun _ => none)))))), (xp_6, .inl (cP_14, 8, .inr (.inr (.inr (.inr (fun _ => none)))))), (xl_7, .inr (4, [.ref xn_8, .ref xm_9])), (xn_8, .inl (cn_15, 64, .inr (.inl (fun _ => 0)))), (xm_9, .inl (cm_16, 64, .inr (.inl (fun _ => 0)))), (xr_10, .inr (6, [.ref xw_11, .ref xt_12])), (xw_11, .inl (cw_17, 8, .inr (.inl (fun _ => 0)))), (xt_12, .inl (ct_18, 8, .inr (.inl (fun _ => 0))))] := hD
  refine lv_astore_n (lv' := [(1, .ref q_1), (0, .ref b)]) hx hb dL_law_7 rfl hl (by decide) rfl (fun ls hl => ?_)
  refine va_new (ci := 11) (fs := [.int 0, .null, .null, .int 0]) (C := RX7) (T := TX7) (N := 4) hx hb hts (by decide +kernel) tyX7 tyX7_ok hown (hts (.classLink RL 99 RX7) (by decide +kernel)) (hts (.instantiable RX7 4) (by decide +kernel)) (hts (.initialized RX7) (by decide +kernel)) hK hP hD hS hA rfl (fun j hj => by rcases (show j = 0 ∨ j = 1 ∨ j = 2 ∨ j = 3 by omega) with rfl | rfl | rfl | rfl <;> rfl) (Nat.le_of_ble_eq_true rfl) (Nat.le_of_ble_eq_true rfl) dL_law_8 (fun q_19 H hP hD hS => ?_)
  have hP : va_P (dC, dI) vwCl [(q_1, .inr (8, [.ref xs_5, .ref xp_6, .int 0, .int 0, .ref xl_7, .ref xr_10])), (xs_5, .inl (cS_13, 3, .inr (.inr (.inr (.inr (fun _ => none)))))), (xp_6, .inl (cP_14, 8, .inr (.inr (.inr (.inr (fun _ => none)))))), (xl_7, .inr (4, [.ref xn_8, .ref xm_9])), (xn_8, .inl (cn_15, 64, .inr (.inl (fun _ => 0)))), (xm_9, .inl (cm_16, 64, .inr (.inl (fun _ => 0)))), (xr_10, .inr (6, [.ref xw_11, .ref xt_12])), (xw_11, .inl (cw_17, 8, .inr (.inl (fun _ => 0)))), (xt_12, .inl (ct_18, 8, .inr (.inl (fun _ => 0)))), (q_19, .inr (11, [.int 0, .null, .null, .int 0]))] H := hP
  have hD : va_D A [(q_1, .inr (8, [.ref xs_5, .ref xp_6, .int 0, .int 0, .ref xl_7, .ref xr_10])), (xs_5, .inl (cS_13, 3, .inr (.inr (.inr (.inr (fun _ => none)))))), (xp_6, .inl (cP_14, 8, .inr (.inr (.inr (.inr (fun _ => none)))))), (xl_7, .inr (4, [.ref xn_8, .ref xm_9])), (xn_8, .inl (cn_15, 64, .inr (.inl (fun _ => 0)))), (xm_9, .inl (cm_16, 64, .inr (.inl (fun _ => 0)))), (xr_10, .inr (6, [.ref xw_11, .ref xt_12])), (xw_11, .inl (cw_17, 8, .inr (.inl (fun _ => 0)))), (xt_12, .inl (ct_18, 8, .inr (.inl (fun _ => 0)))), (q_19, .inr (11, [.int 0, .null, .null, .int 0]))] := hD
  refine lv_dup hx hb dL_law_11 rfl ?_
  have hPc := hP.sub (ws' := [(q_19, .inr (11, [.int 0, .null, .null, .int 0]))]) [9] rfl
  have hKc := hK.sub (tys' := []) [] rfl
  have hDc := hD.sub (ws' := [(q_19, .inr (11, [.int 0, .null, .null, .int 0]))]) [9] (by decide) rfl
  have hFc := va_free (wc := [(q_19, .inr (11, [.int 0, .null, .null, .int 0]))]) hD hS hA [9] rfl
  refine va_callv (va_runI (As := []) (rest := [.ref q_19]) ⟨hx, hb, hml, hown, hts⟩ (c_X7_init l dC dI q_19 sa ta H.size) (cwI 0 hts gl_X7_init rfl rfl rfl (hts (.initialized RX7) (by decide +kernel)) (hts (.methodLink RL 101 yX7_init) (by decide +kernel)) (hts (.instanceMethod yX7_init) (by decide +kernel)) rfl (by decide +kernel) ⟨Nat.le_of_ble_eq_true rfl, Nat.le_of_ble_eq_true rfl⟩) ⟨ax_fbW, ax_prW hPc hKc hDc hS hFc hE⟩ rfl rfl hl.1 rfl (lv_room (Nat.le_of_ble_eq_true rfl)) dL_law_12 ⟨Nat.le_of_ble_eq_true rfl, Nat.le_of_ble_eq_true rfl⟩) hS (fun q _ h9 => hFc q h9) hFc (fun u_22  t H locs ht hvm hw_21 hB hz1 hk1 hS => ?_)
  obtain ⟨ys_23, yp_24⟩ := u_22
  obtain ⟨hP1, hK1, hD1⟩ := hB
  rw [ht] at hP1
  have hK1 := va_K.moved hvm.symm hK1
  obtain ⟨hP, hD⟩ := va_join (wr := [(q_1, .inr (8, [.ref xs_5, .ref xp_6, .int 0, .int 0, .ref xl_7, .ref xr_10])), (xs_5, .inl (cS_13, 3, .inr (.inr (.inr (.inr (fun _ => none)))))), (xp_6, .inl (cP_14, 8, .inr (.inr (.inr (.inr (fun _ => none)))))), (xl_7, .inr (4, [.ref xn_8, .ref xm_9])), (xn_8, .inl (cn_15, 64, .inr (.inl (fun _ => 0)))), (xm_9, .inl (cm_16, 64, .inr (.inl (fun _ => 0)))), (xr_10, .inr (6, [.ref xw_11, .ref xt_12])), (xw_11, .inl (cw_17, 8, .inr (.inl (fun _ => 0)))), (xt_12, .inl (ct_18, 8, .inr (.inl (fun _ => 0))))]) (w1 := [(q_19, .inr (11, [.int 0, .ref ys_23, .ref yp_24, .int 0])), (ys_23, .inr (3, [.int 0, .ref (ta 4), .int 0])), (yp_24, .inr (3, [.int 0, .ref (ta 4), .int 0]))]) hP hD [9] [0, 1, 2, 3, 4, 5, 6, 7, 8] rfl rfl (by decide) (by decide) hk1 hFc hP1 hD1
  have hP : va_P (dC, dI) vwCl [(q_1, .inr (8, [.ref xs_5, .ref xp_6, .int 0, .int 0, .ref xl_7, .ref xr_10])), (xs_5, .inl (cS_13, 3, .inr (.inr (.inr (.inr (fun _ => none)))))), (xp_6, .inl (cP_14, 8, .inr (.inr (.inr (.inr (fun _ => none)))))), (xl_7, .inr (4, [.ref xn_8, .ref xm_9])), (xn_8, .inl (cn_15, 64, .inr (.inl (fun _ => 0)))), (xm_9, .inl (cm_16, 64, .inr (.inl (fun _ => 0)))), (xr_10, .inr (6, [.ref xw_11, .ref xt_12])), (xw_11, .inl (cw_17, 8, .inr (.inl (fun _ => 0)))), (xt_12, .inl (ct_18, 8, .inr (.inl (fun _ => 0)))), (q_19, .inr (11, [.int 0, .ref ys_23, .ref yp_24, .int 0])), (ys_23, .inr (3, [.int 0, .ref (ta 4), .int 0])), (yp_24, .inr (3, [.int 0, .ref (ta 4), .int 0]))] H := hP
  have hD : va_D A [(q_1, .inr (8, [.ref xs_5, .ref xp_6, .int 0, .int 0, .ref xl_7, .ref xr_10])), (xs_5, .inl (cS_13, 3, .inr (.inr (.inr (.inr (fun _ => none)))))), (xp_6, .inl (cP_14, 8, .inr (.inr (.inr (.inr (fun _ => none)))))), (xl_7, .inr (4, [.ref xn_8, .ref xm_9])), (xn_8, .inl (cn_15, 64, .inr (.inl (fun _ => 0)))), (xm_9, .inl (cm_16, 64, .inr (.inl (fun _ => 0)))), (xr_10, .inr (6, [.ref xw_11, .ref xt_12])), (xw_11, .inl (cw_17, 8, .inr (.inl (fun _ => 0)))), (xt_12, .inl (ct_18, 8, .inr (.inl (fun _ => 0)))), (q_19, .inr (11, [.int 0, .ref ys_23, .ref yp_24, .int 0])), (ys_23, .inr (3, [.int 0, .ref (ta 4), .int 0])), (yp_24, .inr (3, [.int 0, .ref (ta 4), .int 0]))] := hD
  refine lv_astore_n (lv' := [(2, .ref q_19), (1, .ref q_1), (0, .ref b)]) hx hb dL_law_15 rfl hl (by decide) rfl (fun ls hl => ?_)
  refine lv_iconst (v := 1) hx hb dL_law_16 (by decide) ?_
  refine va_newa (atype := .long) (ty := .long) (N' := 1) (a0 := (1, .inr (.inl (fun _ => 0)))) hx hb (hts (.arrayClass .long) (by decide +kernel)) rfl hK hP hD hS hA (fun _ => rfl) (by decide) (by decide) (by decide) (Nat.le_of_ble_eq_true rfl) (Nat.le_of_ble_eq_true rfl) dL_law_17 (fun q_25 cA_26 H hK hP hD hS => ?_)
  have hP : va_P (dC, dI) vwCl [(q_1, .inr (8, [.ref xs_5, .ref xp_6, .int 0, .int 0, .ref xl_7, .ref xr_10])), (xs_5, .inl (cS_13, 3, .inr (.inr (.inr (.inr (fun _ => none)))))), (xp_6, .inl (cP_14, 8, .inr (.inr (.inr (.inr (fun _ => none)))))), (xl_7, .inr (4, [.ref xn_8, .ref xm_9])), (xn_8, .inl (cn_15, 64, .inr (.inl (fun _ => 0)))), (xm_9, .inl (cm_16, 64, .inr (.inl (fun _ => 0)))), (xr_10, .inr (6, [.ref xw_11, .ref xt_12])), (xw_11, .inl (cw_17, 8, .inr (.inl (fun _ => 0)))), (xt_12, .inl (ct_18, 8, .inr (.inl (fun _ => 0)))), (q_19, .inr (11, [.int 0, .ref ys_23, .ref yp_24, .int 0])), (ys_23, .inr (3, [.int 0, .ref (ta 4), .int 0])), (yp_24, .inr (3, [.int 0, .ref (ta 4), .int 0])), (q_25, .inl (cA_26, 1, .inr (.inl (fun _ => 0))))] H := hP
  have hD : va_D A [(q_1, .inr (8, [.ref xs_5, .ref xp_6, .int 0, .int 0, .ref xl_7, .ref xr_10])), (xs_5, .inl (cS_13, 3, .inr (.inr (.inr (.inr (fun _ => none)))))), (xp_6, .inl (cP_14, 8, .inr (.inr (.inr (.inr (fun _ => none)))))), (xl_7, .inr (4, [.ref xn_8, .ref xm_9])), (xn_8, .inl (cn_15, 64, .inr (.inl (fun _ => 0)))), (xm_9, .inl (cm_16, 64, .inr (.inl (fun _ => 0)))), (xr_10, .inr (6, [.ref xw_11, .ref xt_12])), (xw_11, .inl (cw_17, 8, .inr (.inl (fun _ => 0)))), (xt_12, .inl (ct_18, 8, .inr (.inl (fun _ => 0)))), (q_19, .inr (11, [.int 0, .ref ys_23, .ref yp_24, .int 0])), (ys_23, .inr (3, [.int 0, .ref (ta 4), .int 0])), (yp_24, .inr (3, [.int 0, .ref (ta 4), .int 0])), (q_25, .inl (cA_26, 1, .inr (.inl (fun _ => 0))))] := hD
  have hK : va_K (dC, dI) vwCl [(cS_13, .object "Diffractory$Source"), (cP_14, .object "Diffractory$Part"), (cn_15, .long), (cm_16, .long), (cw_17, .long), (ct_18, .long), (cA_26, .long)] s := hK
  refine lv_astore_n (lv' := [(3, .ref q_25), (2, .ref q_19), (1, .ref q_1), (0, .ref b)]) hx hb dL_law_19 rfl hl (by decide) rfl (fun ls hl => ?_)
  refine lv_iconst (v := 1) hx hb dL_law_20 (by decide) ?_
  refine va_newa (atype := .double) (ty := .double) (N' := 1) (a0 := (1, .inr (.inr (.inr (.inl (fun _ => 0)))))) hx hb (hts (.arrayClass .double) (by decide +kernel)) rfl hK hP hD hS hA (fun _ => rfl) (by decide) (by decide) (by decide) (Nat.le_of_ble_eq_true rfl) (Nat.le_of_ble_eq_true rfl) dL_law_21 (fun q_27 cA_28 H hK hP hD hS => ?_)
  have hP : va_P (dC, dI) vwCl [(q_1, .inr (8, [.ref xs_5, .ref xp_6, .int 0, .int 0, .ref xl_7, .ref xr_10])), (xs_5, .inl (cS_13, 3, .inr (.inr (.inr (.inr (fun _ => none)))))), (xp_6, .inl (cP_14, 8, .inr (.inr (.inr (.inr (fun _ => none)))))), (xl_7, .inr (4, [.ref xn_8, .ref xm_9])), (xn_8, .inl (cn_15, 64, .inr (.inl (fun _ => 0)))), (xm_9, .inl (cm_16, 64, .inr (.inl (fun _ => 0)))), (xr_10, .inr (6, [.ref xw_11, .ref xt_12])), (xw_11, .inl (cw_17, 8, .inr (.inl (fun _ => 0)))), (xt_12, .inl (ct_18, 8, .inr (.inl (fun _ => 0)))), (q_19, .inr (11, [.int 0, .ref ys_23, .ref yp_24, .int 0])), (ys_23, .inr (3, [.int 0, .ref (ta 4), .int 0])), (yp_24, .inr (3, [.int 0, .ref (ta 4), .int 0])), (q_25, .inl (cA_26, 1, .inr (.inl (fun _ => 0)))), (q_27, .inl (cA_28, 1, .inr (.inr (.inr (.inl (fun _ => 0))))))] H := hP
  have hD : va_D A [(q_1, .inr (8, [.ref xs_5, .ref xp_6, .int 0, .int 0, .ref xl_7, .ref xr_10])), (xs_5, .inl (cS_13, 3, .inr (.inr (.inr (.inr (fun _ => none)))))), (xp_6, .inl (cP_14, 8, .inr (.inr (.inr (.inr (fun _ => none)))))), (xl_7, .inr (4, [.ref xn_8, .ref xm_9])), (xn_8, .inl (cn_15, 64, .inr (.inl (fun _ => 0)))), (xm_9, .inl (cm_16, 64, .inr (.inl (fun _ => 0)))), (xr_10, .inr (6, [.ref xw_11, .ref xt_12])), (xw_11, .inl (cw_17, 8, .inr (.inl (fun _ => 0)))), (xt_12, .inl (ct_18, 8, .inr (.inl (fun _ => 0)))), (q_19, .inr (11, [.int 0, .ref ys_23, .ref yp_24, .int 0])), (ys_23, .inr (3, [.int 0, .ref (ta 4), .int 0])), (yp_24, .inr (3, [.int 0, .ref (ta 4), .int 0])), (q_25, .inl (cA_26, 1, .inr (.inl (fun _ => 0)))), (q_27, .inl (cA_28, 1, .inr (.inr (.inr (.inl (fun _ => 0))))))] := hD
  have hK : va_K (dC, dI) vwCl [(cS_13, .object "Diffractory$Source"), (cP_14, .object "Diffractory$Part"), (cn_15, .long), (cm_16, .long), (cw_17, .long), (ct_18, .long), (cA_26, .long), (cA_28, .double)] s := hK
  refine lv_astore (lv' := [(4, .ref q_27), (3, .ref q_25), (2, .ref q_19), (1, .ref q_1), (0, .ref b)]) hx hb dL_law_23 hl (by decide) rfl (fun ls hl => ?_)
  refine lv_iconst (v := 0) hx hb dL_law_25 (by decide) ?_
  refine lv_istore (lv' := [(5, .int 0), (4, .ref q_27), (3, .ref q_25), (2, .ref q_19), (1, .ref q_1), (0, .ref b)]) hx hb dL_law_26 hl (by decide) rfl (fun ls hl => ?_)
  refine lv_iload hx hb dL_law_28 (lv_at hl 0 rfl) ?_
  refine lv_aload_n hx hb dL_law_30 rfl (lv_at hl 5 rfl) ?_
  refine va_slen hx hb hX hbl hbA hS dL_law_31 ?_
  refine ax_i (y := 5) rfl ?_
  refine lv_iconst (v := 5) hx hb dL_law_32 (by decide) ?_
  refine lv_isub hx hb dL_law_33 ?_
  refine ax_i (y := 0) (by decide) ?_
  refine lv_icmp_gt (tgt := 1863) hx hb dL_law_34 (by decide) (fun h9 => absurd h9 (by decide)) (fun _ => ?_)
  refine lv_aload_n hx hb dL_law_37 rfl (lv_at hl 5 rfl) ?_
  refine lv_iload hx hb dL_law_38 (lv_at hl 0 rfl) ?_
  refine va_sld hx hb hX hbl hbA hS (by unfold vp_in; decide) dL_law_40 ?_
  refine ax_i (y := xs 0) rfl ?_
  refine lv_bipush (v := 31) hx hb dL_law_41 (by decide) ?_
  refine lv_iand hx hb dL_law_43 ?_
  obtain ⟨j9, hj9, ej9⟩ := pk_andE (xs 0) (m := 31) 5 rfl
  refine ax_i ej9 ?_
  by_cases hj : 24 < j9
  · refine lv_tableOut (tgt := 1857) hx hb dL_law_44 (Or.inr (by rw [nI_toInt (by omega)]; omega)) (by decide) ?_
    refine lv_iinc (v := 5) (lv' := [(5, .int 5), (4, .ref q_27), (3, .ref q_25), (2, .ref q_19), (1, .ref q_1), (0, .ref b)]) hx hb dL_law_1857 hl (k := 0) rfl (by decide) (by decide) rfl (fun ls hl => ?_)
    refine lv_goto (tgt := 28) hx hb dL_law_1860 (by decide) ?_
    refine lv_iload hx hb dL_law_28 (lv_at hl 0 rfl) ?_
    refine lv_aload_n hx hb dL_law_30 rfl (lv_at hl 5 rfl) ?_
    refine va_slen hx hb hX hbl hbA hS dL_law_31 ?_
    refine ax_i (y := 5) rfl ?_
    refine lv_iconst (v := 5) hx hb dL_law_32 (by decide) ?_
    refine lv_isub hx hb dL_law_33 ?_
    refine ax_i (y := 0) (by decide) ?_
    refine lv_icmp_gt (tgt := 1863) hx hb dL_law_34 (by decide) (fun _ => ?_) (fun h9 => absurd (by decide) h9)
    refine lv_iconst (v := 1) hx hb dL_law_1863 (by decide) ?_
    refine va_forget (fun q hq => by have h9 := hS.2.2 q hq; rw [hAd] at h9; exact h9) ?_
    refine W.widen (k := 600002) (n := 7302232) (Nat.le_of_ble_eq_true rfl) (Nat.le_of_ble_eq_true rfl) ?_
    refine W.base ?_
    exact lw_ret (Drawn.sameBut.refl s.drawn lw_cs) hx hb hr hlocks dL_law_1864
  · rcases (show j9 = 0 ∨ j9 = 1 ∨ j9 = 2 ∨ j9 = 3 ∨ j9 = 4 ∨ j9 = 5 ∨ j9 = 6 ∨ j9 = 7 ∨ j9 = 8 ∨ j9 = 9 ∨ j9 = 10 ∨ j9 = 11 ∨ j9 = 12 ∨ j9 = 13 ∨ j9 = 14 ∨ j9 = 15 ∨ j9 = 16 ∨ j9 = 17 ∨ j9 = 18 ∨ j9 = 19 ∨ j9 = 20 ∨ j9 = 21 ∨ j9 = 22 ∨ j9 = 23 ∨ j9 = 24 by omega) with rfl | rfl | rfl | rfl | rfl | rfl | rfl | rfl | rfl | rfl | rfl | rfl | rfl | rfl | rfl | rfl | rfl | rfl | rfl | rfl | rfl | rfl | rfl | rfl | rfl
    · refine lv_tableIn (tgt := 160) hx hb dL_law_44 (by decide) (by decide) rfl (by decide) ?_
      exact law_c0 l hlt C0 hAd hE hK hP hD hS hl
    · refine lv_tableIn (tgt := 240) hx hb dL_law_44 (by decide) (by decide) rfl (by decide) ?_
      exact law_c1 l hlt C0 hAd hE hK hP hD hS hl
    · refine lv_tableIn (tgt := 332) hx hb dL_law_44 (by decide) (by decide) rfl (by decide) ?_
      exact law_c2 l hlt C0 hAd hE hK hP hD hS hl
    · refine lv_tableIn (tgt := 400) hx hb dL_law_44 (by decide) (by decide) rfl (by decide) ?_
      exact law_c3 l hlt C0 hAd hE hK hP hD hS hl
    · refine lv_tableIn (tgt := 468) hx hb dL_law_44 (by decide) (by decide) rfl (by decide) ?_
      exact law_c4 l hlt C0 hAd hE hK hP hD hS hl
    · refine lv_tableIn (tgt := 559) hx hb dL_law_44 (by decide) (by decide) rfl (by decide) ?_
      exact law_c5 l hlt C0 hAd hE hK hP hD hS hl
    · refine lv_tableIn (tgt := 627) hx hb dL_law_44 (by decide) (by decide) rfl (by decide) ?_
      exact law_c6 l hlt C0 hAd hE hK hP hD hS hl
    · refine lv_tableIn (tgt := 695) hx hb dL_law_44 (by decide) (by decide) rfl (by decide) ?_
      exact law_c7 l hlt C0 hAd hE hK hP hD hS hl
    · refine lv_tableIn (tgt := 786) hx hb dL_law_44 (by decide) (by decide) rfl (by decide) ?_
      exact law_c8 l hlt C0 hAd hE hK hP hD hS hl
    · refine lv_tableIn (tgt := 853) hx hb dL_law_44 (by decide) (by decide) rfl (by decide) ?_
      exact law_c9 l hlt C0 hAd hE hK hP hD hS hl
    · refine lv_tableIn (tgt := 920) hx hb dL_law_44 (by decide) (by decide) rfl (by decide) ?_
      exact law_c10 l hlt C0 hAd hE hK hP hD hS hl
    · refine lv_tableIn (tgt := 1003) hx hb dL_law_44 (by decide) (by decide) rfl (by decide) ?_
      exact law_c11 l hlt C0 hAd hE hK hP hD hS hl
    · refine lv_tableIn (tgt := 1059) hx hb dL_law_44 (by decide) (by decide) rfl (by decide) ?_
      exact law_c12 l hlt C0 hAd hE hK hP hD hS hl
    · refine lv_tableIn (tgt := 1115) hx hb dL_law_44 (by decide) (by decide) rfl (by decide) ?_
      exact law_c13 l hlt C0 hAd hE hK hP hD hS hl
    · refine lv_tableIn (tgt := 1171) hx hb dL_law_44 (by decide) (by decide) rfl (by decide) ?_
      exact law_c14 l hlt C0 hAd hE hK hP hD hS hl
    · refine lv_tableIn (tgt := 1248) hx hb dL_law_44 (by decide) (by decide) rfl (by decide) ?_
      exact law_c15 l hlt C0 hAd hE hK hP hD hS hl
    · refine lv_tableIn (tgt := 1337) hx hb dL_law_44 (by decide) (by decide) rfl (by decide) ?_
      exact law_c16 l hlt C0 hAd hE hK hP hD hS hl
    · refine lv_tableIn (tgt := 1392) hx hb dL_law_44 (by decide) (by decide) rfl (by decide) ?_
      exact law_c17 l hlt C0 hAd hE hK hP hD hS hl
    · refine lv_tableIn (tgt := 1460) hx hb dL_law_44 (by decide) (by decide) rfl (by decide) ?_
      exact law_c18 l hlt C0 hAd hE hK hP hD hS hl
    · refine lv_tableIn (tgt := 1528) hx hb dL_law_44 (by decide) (by decide) rfl (by decide) ?_
      exact law_c19 l hlt C0 hAd hE hK hP hD hS hl
    · refine lv_tableIn (tgt := 1596) hx hb dL_law_44 (by decide) (by decide) rfl (by decide) ?_
      exact law_c20 l hlt C0 hAd hE hK hP hD hS hl
    · refine lv_tableIn (tgt := 1652) hx hb dL_law_44 (by decide) (by decide) rfl (by decide) ?_
      exact law_c21 l hlt C0 hAd hE hK hP hD hS hl
    · refine lv_tableIn (tgt := 1719) hx hb dL_law_44 (by decide) (by decide) rfl (by decide) ?_
      exact law_c22 l hlt C0 hAd hE hK hP hD hS hl
    · refine lv_tableIn (tgt := 1787) hx hb dL_law_44 (by decide) (by decide) rfl (by decide) ?_
      exact law_c23 l hlt C0 hAd hE hK hP hD hS hl
    · refine lv_tableIn (tgt := 1843) hx hb dL_law_44 (by decide) (by decide) rfl (by decide) ?_
      exact law_c24 l hlt C0 hAd hE hK hP hD hS hl

set_option maxHeartbeats 4000000 in
set_option maxRecDepth 100000 in
theorem law_all0 {p : Program} {e : Env} {s : State} {m : MethodId} {below : List Frame} {meth : Method} {c : Code} (l : Launch) (hlt : l.stackTraces = false) {b : Nat} {xs : Nat → Int32} (C0 : lw_At p s m meth c b 0 xs) : W p l e room_1 s m #[Value.ref b] below meth c s.heap [] 0 0 (lw_Z below #[Value.ref b] s) (entryFrame m ([Value.ref b] : List Value).toArray 9) := by
  obtain ⟨hx, hb, hr, hml, hown, hts, hX, hbl, hlocks, hgv⟩ := id C0
  obtain ⟨A, hAd⟩ : ∃ A : Nat → Prop, A = fun q => s.heap.size ≤ q := ⟨_, rfl⟩
  have hA : ∀ q : Nat, s.heap.size ≤ q → A q := fun q h => by rw [hAd]; exact h
  have hbA : ¬ A b := by rw [hAd]; exact Nat.not_le.mpr hbl
  obtain ⟨c0, i0, hKn0⟩ := u_known (C := RJ0) (T := TJ0) (N := 4) (n := 4) hts in_J0 (hts (.instantiable RJ0 4) (by decide +kernel))
  obtain ⟨c1, i1, hKn1⟩ := u_known (C := RJ4) (T := TJ4) (N := 4) (n := 4) hts in_J4 (hts (.instantiable RJ4 4) (by decide +kernel))
  obtain ⟨c2, i2, hKn2⟩ := u_known (C := RJx00060) (T := TJx00060) (N := 6) (n := 6) hts in_Jx00060 (hts (.instantiable RJx00060 6) (by decide +kernel))
  obtain ⟨c3, i3, hKn3⟩ := u_known (C := RJx4a65c) (T := TJx4a65c) (N := 3) (n := 3) hts in_Jx4a65c (hts (.instantiable RJx4a65c 3) (by decide +kernel))
  obtain ⟨c4, i4, hKn4⟩ := u_known (C := RX0) (T := TX0) (N := 2) (n := 2) hts in_X0 (hts (.instantiable RX0 2) (by decide +kernel))
  obtain ⟨c5, i5, hKn5⟩ := u_known (C := RX1) (T := TX1) (N := 6) (n := 6) hts in_X1 (hts (.instantiable RX1 6) (by decide +kernel))
  obtain ⟨c6, i6, hKn6⟩ := u_known (C := RX2) (T := TX2) (N := 2) (n := 2) hts in_X2 (hts (.instantiable RX2 2) (by decide +kernel))
  obtain ⟨c7, i7, hKn7⟩ := u_known (C := RX3) (T := TX3) (N := 3) (n := 3) hts in_X3 (hts (.instantiable RX3 3) (by decide +kernel))
  obtain ⟨c8, i8, hKn8⟩ := u_known (C := RX4) (T := TX4) (N := 6) (n := 6) hts in_X4 (hts (.instantiable RX4 6) (by decide +kernel))
  obtain ⟨c9, i9, hKn9⟩ := u_known (C := RX5) (T := TX5) (N := 6) (n := 6) hts in_X5 (hts (.instantiable RX5 6) (by decide +kernel))
  obtain ⟨c10, i10, hKn10⟩ := u_known (C := RX6) (T := TX6) (N := 3) (n := 3) hts in_X6 (hts (.instantiable RX6 3) (by decide +kernel))
  obtain ⟨c11, i11, hKn11⟩ := u_known (C := RX7) (T := TX7) (N := 4) (n := 4) hts in_X7 (hts (.instantiable RX7 4) (by decide +kernel))
  obtain ⟨dC, dI, hKc⟩ : ∃ (dC : Nat → ClassId) (dI : Nat → Nat → Nat), ∀ (k : Nat) (q : vw_C), vwCl[k]? = some q → u_Kn s q.1 q.2.1 q.2.2 (dC k) (dI k) := by
    refine ⟨fun k => match k with | 0 => c0 | 1 => c1 | 2 => c2 | 3 => c3 | 4 => c4 | 5 => c5 | 6 => c6 | 7 => c7 | 8 => c8 | 9 => c9 | 10 => c10 | _ => c11, fun k => match k with | 0 => i0 | 1 => i1 | 2 => i2 | 3 => i3 | 4 => i4 | 5 => i5 | 6 => i6 | 7 => i7 | 8 => i8 | 9 => i9 | 10 => i10 | _ => i11, ?_⟩
    intro k q hq
    match k, hq with
    | 0, hq => cases hq; exact hKn0
    | 1, hq => cases hq; exact hKn1
    | 2, hq => cases hq; exact hKn2
    | 3, hq => cases hq; exact hKn3
    | 4, hq => cases hq; exact hKn4
    | 5, hq => cases hq; exact hKn5
    | 6, hq => cases hq; exact hKn6
    | 7, hq => cases hq; exact hKn7
    | 8, hq => cases hq; exact hKn8
    | 9, hq => cases hq; exact hKn9
    | 10, hq => cases hq; exact hKn10
    | 11, hq => cases hq; exact hKn11
    | k + 12, hq => simp [vwCl] at hq
  have hS : va_S A s.heap s.heap [] := va_S.rf
  have hK : va_K (dC, dI) vwCl [] s := ⟨hKc, fun k q h => by simp at h⟩
  have hP : va_P (dC, dI) vwCl [] s.heap := fun k q h => by simp at h
  have hD : va_D A [] := ⟨fun i j p q h => by simp at h, fun k q h => by simp at h⟩
  obtain ⟨sa, ta, hE⟩ := ax_S_start (A := A) hts hgv (fun a h => by rw [hAd]; exact Nat.not_le.mpr h)
  have hl := lv_entry ([.ref b]) (n := 9) (Nat.le_of_ble_eq_true rfl)
  rw [lg_entry_eq]
  generalize (lg_sl ([.ref b]) ++ List.replicate (9 - (lg_sl ([.ref b])).length) Slot.unset).toArray = ls at hl ⊢
  have hl : lv_has ls 9 [(0, .ref b)] := hl
  refine va_new (ci := 8) (fs := [.null, .null, .int 0, .int 0, .null, .null]) (C := RX4) (T := TX4) (N := 6) hx hb hts (by decide +kernel) tyX4 tyX4_ok hown (hts (.classLink RL 8 RX4) (by decide +kernel)) (hts (.instantiable RX4 6) (by decide +kernel)) (hts (.initialized RX4) (by decide +kernel)) hK hP hD hS hA rfl (fun j hj => by rcases (show j = 0 ∨ j = 1 ∨ j = 2 ∨ j = 3 ∨ j = 4 ∨ j = 5 by omega) with rfl | rfl | rfl | rfl | rfl | rfl <;> rfl) (Nat.le_of_ble_eq_true rfl) (Nat.le_of_ble_eq_true rfl) dL_law_0 (fun q_1 H hP hD hS => ?_)
  have hP : va_P (dC, dI) vwCl [(q_1, .inr (8, [.null, .null, .int 0, .int 0, .null, .null]))] H := hP
  have hD : va_D A [(q_1, .inr (8, [.null, .null, .int 0, .int 0, .null, .null]))] := hD
  refine lv_dup hx hb dL_law_3 rfl ?_
  have hPc := hP.sub (ws' := [(q_1, .inr (8, [.null, .null, .int 0, .int 0, .null, .null]))]) [0] rfl
  have hKc := hK.sub (tys' := []) [] rfl
  have hDc := hD.sub (ws' := [(q_1, .inr (8, [.null, .null, .int 0, .int 0, .null, .null]))]) [0] (by decide) rfl
  have hFc := va_free (wc := [(q_1, .inr (8, [.null, .null, .int 0, .int 0, .null, .null]))]) hD hS hA [0] rfl
  refine va_callv (va_runI (As := []) (rest := [.ref q_1]) ⟨hx, hb, hml, hown, hts⟩ (c_X4_init l dC dI q_1 sa ta H.size) (cwI 0 hts gl_X4_init rfl rfl rfl (hts (.initialized RX4) (by decide +kernel)) (hts (.methodLink RL 98 yX4_init) (by decide +kernel)) (hts (.instanceMethod yX4_init) (by decide +kernel)) rfl (by decide +kernel) ⟨Nat.le_of_ble_eq_true rfl, Nat.le_of_ble_eq_true rfl⟩) ⟨ax_fbW, ax_prW hPc hKc hDc hS hFc hE⟩ rfl rfl hl.1 rfl (lv_room (Nat.le_of_ble_eq_true rfl)) dL_law_4 ⟨Nat.le_of_ble_eq_true rfl, Nat.le_of_ble_eq_true rfl⟩) hS (fun q _ h9 => hFc q h9) hFc (fun u_4  t H locs ht hvm hw_3 hB hz1 hk1 hS => ?_)
  obtain ⟨xs_5, xp_6, xl_7, xn_8, xm_9, xr_10, xw_11, xt_12, cS_13, cP_14, cn_15, cm_16, cw_17, ct_18⟩ := u_4
  obtain ⟨hP1, hK1, hD1⟩ := hB
  rw [ht] at hP1
  have hK1 := va_K.moved hvm.symm hK1
  obtain ⟨hP, hD⟩ := va_join (wr := []) (w1 := [(q_1, .inr (8, [.ref xs_5, .ref xp_6, .int 0, .int 0, .ref xl_7, .ref xr_10])), (xs_5, .inl (cS_13, 3, .inr (.inr (.inr (.inr (fun _ => none)))))), (xp_6, .inl (cP_14, 8, .inr (.inr (.inr (.inr (fun _ => none)))))), (xl_7, .inr (4, [.ref xn_8, .ref xm_9])), (xn_8, .inl (cn_15, 64, .inr (.inl (fun _ => 0)))), (xm_9, .inl (cm_16, 64, .inr (.inl (fun _ => 0)))), (xr_10, .inr (6, [.ref xw_11, .ref xt_12])), (xw_11, .inl (cw_17, 8, .inr (.inl (fun _ => 0)))), (xt_12, .inl (ct_18, 8, .inr (.inl (fun _ => 0))))]) hP hD [0] [] rfl rfl (by decide) (by decide) hk1 hFc hP1 hD1
  have hK := hK.app hK1
  have hK := hK.sub (tys' := [(cS_13, .object "Diffractory$Source"), (cP_14, .object "Diffractory$Part"), (cn_15, .long), (cm_16, .long), (cw_17, .long), (ct_18, .long)]) [0, 1, 2, 3, 4, 5] rfl
  have hP : va_P (dC, dI) vwCl [(q_1, .inr (8, [.ref xs_5, .ref xp_6, .int 0, .int 0, .ref xl_7, .ref xr_10])), (xs_5, .inl (cS_13, 3, .inr (.inr (.inr (.inr (fun _ => none)))))), (xp_6, .inl (cP_14, 8, .inr (.inr (.inr (.inr (fun _ => none)))))), (xl_7, .inr (4, [.ref xn_8, .ref xm_9])), (xn_8, .inl (cn_15, 64, .inr (.inl (fun _ => 0)))), (xm_9, .inl (cm_16, 64, .inr (.inl (fun _ => 0)))), (xr_10, .inr (6, [.ref xw_11, .ref xt_12])), (xw_11, .inl (cw_17, 8, .inr (.inl (fun _ => 0)))), (xt_12, .inl (ct_18, 8, .inr (.inl (fun _ => 0))))] H := hP
  have hD : va_D A [(q_1, .inr (8, [.ref xs_5, .ref xp_6, .int 0, .int 0, .ref xl_7, .ref xr_10])), (xs_5, .inl (cS_13, 3, .inr (.inr (.inr (.inr (fun _ => none)))))), (xp_6, .inl (cP_14, 8, .inr (.inr (.inr (.inr (fun _ => none)))))), (xl_7, .inr (4, [.ref xn_8, .ref xm_9])), (xn_8, .inl (cn_15, 64, .inr (.inl (fun _ => 0)))), (xm_9, .inl (cm_16, 64, .inr (.inl (fun _ => 0)))), (xr_10, .inr (6, [.ref xw_11, .ref xt_12])), (xw_11, .inl (cw_17, 8, .inr (.inl (fun _ => 0)))), (xt_12, .inl (ct_18, 8, .inr (.inl (fun _ => 0))))] := hD
  refine lv_astore_n (lv' := [(1, .ref q_1), (0, .ref b)]) hx hb dL_law_7 rfl hl (by decide) rfl (fun ls hl => ?_)
  refine va_new (ci := 11) (fs := [.int 0, .null, .null, .int 0]) (C := RX7) (T := TX7) (N := 4) hx hb hts (by decide +kernel) tyX7 tyX7_ok hown (hts (.classLink RL 99 RX7) (by decide +kernel)) (hts (.instantiable RX7 4) (by decide +kernel)) (hts (.initialized RX7) (by decide +kernel)) hK hP hD hS hA rfl (fun j hj => by rcases (show j = 0 ∨ j = 1 ∨ j = 2 ∨ j = 3 by omega) with rfl | rfl | rfl | rfl <;> rfl) (Nat.le_of_ble_eq_true rfl) (Nat.le_of_ble_eq_true rfl) dL_law_8 (fun q_19 H hP hD hS => ?_)
  have hP : va_P (dC, dI) vwCl [(q_1, .inr (8, [.ref xs_5, .ref xp_6, .int 0, .int 0, .ref xl_7, .ref xr_10])), (xs_5, .inl (cS_13, 3, .inr (.inr (.inr (.inr (fun _ => none)))))), (xp_6, .inl (cP_14, 8, .inr (.inr (.inr (.inr (fun _ => none)))))), (xl_7, .inr (4, [.ref xn_8, .ref xm_9])), (xn_8, .inl (cn_15, 64, .inr (.inl (fun _ => 0)))), (xm_9, .inl (cm_16, 64, .inr (.inl (fun _ => 0)))), (xr_10, .inr (6, [.ref xw_11, .ref xt_12])), (xw_11, .inl (cw_17, 8, .inr (.inl (fun _ => 0)))), (xt_12, .inl (ct_18, 8, .inr (.inl (fun _ => 0)))), (q_19, .inr (11, [.int 0, .null, .null, .int 0]))] H := hP
  have hD : va_D A [(q_1, .inr (8, [.ref xs_5, .ref xp_6, .int 0, .int 0, .ref xl_7, .ref xr_10])), (xs_5, .inl (cS_13, 3, .inr (.inr (.inr (.inr (fun _ => none)))))), (xp_6, .inl (cP_14, 8, .inr (.inr (.inr (.inr (fun _ => none)))))), (xl_7, .inr (4, [.ref xn_8, .ref xm_9])), (xn_8, .inl (cn_15, 64, .inr (.inl (fun _ => 0)))), (xm_9, .inl (cm_16, 64, .inr (.inl (fun _ => 0)))), (xr_10, .inr (6, [.ref xw_11, .ref xt_12])), (xw_11, .inl (cw_17, 8, .inr (.inl (fun _ => 0)))), (xt_12, .inl (ct_18, 8, .inr (.inl (fun _ => 0)))), (q_19, .inr (11, [.int 0, .null, .null, .int 0]))] := hD
  refine lv_dup hx hb dL_law_11 rfl ?_
  have hPc := hP.sub (ws' := [(q_19, .inr (11, [.int 0, .null, .null, .int 0]))]) [9] rfl
  have hKc := hK.sub (tys' := []) [] rfl
  have hDc := hD.sub (ws' := [(q_19, .inr (11, [.int 0, .null, .null, .int 0]))]) [9] (by decide) rfl
  have hFc := va_free (wc := [(q_19, .inr (11, [.int 0, .null, .null, .int 0]))]) hD hS hA [9] rfl
  refine va_callv (va_runI (As := []) (rest := [.ref q_19]) ⟨hx, hb, hml, hown, hts⟩ (c_X7_init l dC dI q_19 sa ta H.size) (cwI 0 hts gl_X7_init rfl rfl rfl (hts (.initialized RX7) (by decide +kernel)) (hts (.methodLink RL 101 yX7_init) (by decide +kernel)) (hts (.instanceMethod yX7_init) (by decide +kernel)) rfl (by decide +kernel) ⟨Nat.le_of_ble_eq_true rfl, Nat.le_of_ble_eq_true rfl⟩) ⟨ax_fbW, ax_prW hPc hKc hDc hS hFc hE⟩ rfl rfl hl.1 rfl (lv_room (Nat.le_of_ble_eq_true rfl)) dL_law_12 ⟨Nat.le_of_ble_eq_true rfl, Nat.le_of_ble_eq_true rfl⟩) hS (fun q _ h9 => hFc q h9) hFc (fun u_22  t H locs ht hvm hw_21 hB hz1 hk1 hS => ?_)
  obtain ⟨ys_23, yp_24⟩ := u_22
  obtain ⟨hP1, hK1, hD1⟩ := hB
  rw [ht] at hP1
  have hK1 := va_K.moved hvm.symm hK1
  obtain ⟨hP, hD⟩ := va_join (wr := [(q_1, .inr (8, [.ref xs_5, .ref xp_6, .int 0, .int 0, .ref xl_7, .ref xr_10])), (xs_5, .inl (cS_13, 3, .inr (.inr (.inr (.inr (fun _ => none)))))), (xp_6, .inl (cP_14, 8, .inr (.inr (.inr (.inr (fun _ => none)))))), (xl_7, .inr (4, [.ref xn_8, .ref xm_9])), (xn_8, .inl (cn_15, 64, .inr (.inl (fun _ => 0)))), (xm_9, .inl (cm_16, 64, .inr (.inl (fun _ => 0)))), (xr_10, .inr (6, [.ref xw_11, .ref xt_12])), (xw_11, .inl (cw_17, 8, .inr (.inl (fun _ => 0)))), (xt_12, .inl (ct_18, 8, .inr (.inl (fun _ => 0))))]) (w1 := [(q_19, .inr (11, [.int 0, .ref ys_23, .ref yp_24, .int 0])), (ys_23, .inr (3, [.int 0, .ref (ta 4), .int 0])), (yp_24, .inr (3, [.int 0, .ref (ta 4), .int 0]))]) hP hD [9] [0, 1, 2, 3, 4, 5, 6, 7, 8] rfl rfl (by decide) (by decide) hk1 hFc hP1 hD1
  have hP : va_P (dC, dI) vwCl [(q_1, .inr (8, [.ref xs_5, .ref xp_6, .int 0, .int 0, .ref xl_7, .ref xr_10])), (xs_5, .inl (cS_13, 3, .inr (.inr (.inr (.inr (fun _ => none)))))), (xp_6, .inl (cP_14, 8, .inr (.inr (.inr (.inr (fun _ => none)))))), (xl_7, .inr (4, [.ref xn_8, .ref xm_9])), (xn_8, .inl (cn_15, 64, .inr (.inl (fun _ => 0)))), (xm_9, .inl (cm_16, 64, .inr (.inl (fun _ => 0)))), (xr_10, .inr (6, [.ref xw_11, .ref xt_12])), (xw_11, .inl (cw_17, 8, .inr (.inl (fun _ => 0)))), (xt_12, .inl (ct_18, 8, .inr (.inl (fun _ => 0)))), (q_19, .inr (11, [.int 0, .ref ys_23, .ref yp_24, .int 0])), (ys_23, .inr (3, [.int 0, .ref (ta 4), .int 0])), (yp_24, .inr (3, [.int 0, .ref (ta 4), .int 0]))] H := hP
  have hD : va_D A [(q_1, .inr (8, [.ref xs_5, .ref xp_6, .int 0, .int 0, .ref xl_7, .ref xr_10])), (xs_5, .inl (cS_13, 3, .inr (.inr (.inr (.inr (fun _ => none)))))), (xp_6, .inl (cP_14, 8, .inr (.inr (.inr (.inr (fun _ => none)))))), (xl_7, .inr (4, [.ref xn_8, .ref xm_9])), (xn_8, .inl (cn_15, 64, .inr (.inl (fun _ => 0)))), (xm_9, .inl (cm_16, 64, .inr (.inl (fun _ => 0)))), (xr_10, .inr (6, [.ref xw_11, .ref xt_12])), (xw_11, .inl (cw_17, 8, .inr (.inl (fun _ => 0)))), (xt_12, .inl (ct_18, 8, .inr (.inl (fun _ => 0)))), (q_19, .inr (11, [.int 0, .ref ys_23, .ref yp_24, .int 0])), (ys_23, .inr (3, [.int 0, .ref (ta 4), .int 0])), (yp_24, .inr (3, [.int 0, .ref (ta 4), .int 0]))] := hD
  refine lv_astore_n (lv' := [(2, .ref q_19), (1, .ref q_1), (0, .ref b)]) hx hb dL_law_15 rfl hl (by decide) rfl (fun ls hl => ?_)
  refine lv_iconst (v := 1) hx hb dL_law_16 (by decide) ?_
  refine va_newa (atype := .long) (ty := .long) (N' := 1) (a0 := (1, .inr (.inl (fun _ => 0)))) hx hb (hts (.arrayClass .long) (by decide +kernel)) rfl hK hP hD hS hA (fun _ => rfl) (by decide) (by decide) (by decide) (Nat.le_of_ble_eq_true rfl) (Nat.le_of_ble_eq_true rfl) dL_law_17 (fun q_25 cA_26 H hK hP hD hS => ?_)
  have hP : va_P (dC, dI) vwCl [(q_1, .inr (8, [.ref xs_5, .ref xp_6, .int 0, .int 0, .ref xl_7, .ref xr_10])), (xs_5, .inl (cS_13, 3, .inr (.inr (.inr (.inr (fun _ => none)))))), (xp_6, .inl (cP_14, 8, .inr (.inr (.inr (.inr (fun _ => none)))))), (xl_7, .inr (4, [.ref xn_8, .ref xm_9])), (xn_8, .inl (cn_15, 64, .inr (.inl (fun _ => 0)))), (xm_9, .inl (cm_16, 64, .inr (.inl (fun _ => 0)))), (xr_10, .inr (6, [.ref xw_11, .ref xt_12])), (xw_11, .inl (cw_17, 8, .inr (.inl (fun _ => 0)))), (xt_12, .inl (ct_18, 8, .inr (.inl (fun _ => 0)))), (q_19, .inr (11, [.int 0, .ref ys_23, .ref yp_24, .int 0])), (ys_23, .inr (3, [.int 0, .ref (ta 4), .int 0])), (yp_24, .inr (3, [.int 0, .ref (ta 4), .int 0])), (q_25, .inl (cA_26, 1, .inr (.inl (fun _ => 0))))] H := hP
  have hD : va_D A [(q_1, .inr (8, [.ref xs_5, .ref xp_6, .int 0, .int 0, .ref xl_7, .ref xr_10])), (xs_5, .inl (cS_13, 3, .inr (.inr (.inr (.inr (fun _ => none)))))), (xp_6, .inl (cP_14, 8, .inr (.inr (.inr (.inr (fun _ => none)))))), (xl_7, .inr (4, [.ref xn_8, .ref xm_9])), (xn_8, .inl (cn_15, 64, .inr (.inl (fun _ => 0)))), (xm_9, .inl (cm_16, 64, .inr (.inl (fun _ => 0)))), (xr_10, .inr (6, [.ref xw_11, .ref xt_12])), (xw_11, .inl (cw_17, 8, .inr (.inl (fun _ => 0)))), (xt_12, .inl (ct_18, 8, .inr (.inl (fun _ => 0)))), (q_19, .inr (11, [.int 0, .ref ys_23, .ref yp_24, .int 0])), (ys_23, .inr (3, [.int 0, .ref (ta 4), .int 0])), (yp_24, .inr (3, [.int 0, .ref (ta 4), .int 0])), (q_25, .inl (cA_26, 1, .inr (.inl (fun _ => 0))))] := hD
  have hK : va_K (dC, dI) vwCl [(cS_13, .object "Diffractory$Source"), (cP_14, .object "Diffractory$Part"), (cn_15, .long), (cm_16, .long), (cw_17, .long), (ct_18, .long), (cA_26, .long)] s := hK
  refine lv_astore_n (lv' := [(3, .ref q_25), (2, .ref q_19), (1, .ref q_1), (0, .ref b)]) hx hb dL_law_19 rfl hl (by decide) rfl (fun ls hl => ?_)
  refine lv_iconst (v := 1) hx hb dL_law_20 (by decide) ?_
  refine va_newa (atype := .double) (ty := .double) (N' := 1) (a0 := (1, .inr (.inr (.inr (.inl (fun _ => 0)))))) hx hb (hts (.arrayClass .double) (by decide +kernel)) rfl hK hP hD hS hA (fun _ => rfl) (by decide) (by decide) (by decide) (Nat.le_of_ble_eq_true rfl) (Nat.le_of_ble_eq_true rfl) dL_law_21 (fun q_27 cA_28 H hK hP hD hS => ?_)
  have hP : va_P (dC, dI) vwCl [(q_1, .inr (8, [.ref xs_5, .ref xp_6, .int 0, .int 0, .ref xl_7, .ref xr_10])), (xs_5, .inl (cS_13, 3, .inr (.inr (.inr (.inr (fun _ => none)))))), (xp_6, .inl (cP_14, 8, .inr (.inr (.inr (.inr (fun _ => none)))))), (xl_7, .inr (4, [.ref xn_8, .ref xm_9])), (xn_8, .inl (cn_15, 64, .inr (.inl (fun _ => 0)))), (xm_9, .inl (cm_16, 64, .inr (.inl (fun _ => 0)))), (xr_10, .inr (6, [.ref xw_11, .ref xt_12])), (xw_11, .inl (cw_17, 8, .inr (.inl (fun _ => 0)))), (xt_12, .inl (ct_18, 8, .inr (.inl (fun _ => 0)))), (q_19, .inr (11, [.int 0, .ref ys_23, .ref yp_24, .int 0])), (ys_23, .inr (3, [.int 0, .ref (ta 4), .int 0])), (yp_24, .inr (3, [.int 0, .ref (ta 4), .int 0])), (q_25, .inl (cA_26, 1, .inr (.inl (fun _ => 0)))), (q_27, .inl (cA_28, 1, .inr (.inr (.inr (.inl (fun _ => 0))))))] H := hP
  have hD : va_D A [(q_1, .inr (8, [.ref xs_5, .ref xp_6, .int 0, .int 0, .ref xl_7, .ref xr_10])), (xs_5, .inl (cS_13, 3, .inr (.inr (.inr (.inr (fun _ => none)))))), (xp_6, .inl (cP_14, 8, .inr (.inr (.inr (.inr (fun _ => none)))))), (xl_7, .inr (4, [.ref xn_8, .ref xm_9])), (xn_8, .inl (cn_15, 64, .inr (.inl (fun _ => 0)))), (xm_9, .inl (cm_16, 64, .inr (.inl (fun _ => 0)))), (xr_10, .inr (6, [.ref xw_11, .ref xt_12])), (xw_11, .inl (cw_17, 8, .inr (.inl (fun _ => 0)))), (xt_12, .inl (ct_18, 8, .inr (.inl (fun _ => 0)))), (q_19, .inr (11, [.int 0, .ref ys_23, .ref yp_24, .int 0])), (ys_23, .inr (3, [.int 0, .ref (ta 4), .int 0])), (yp_24, .inr (3, [.int 0, .ref (ta 4), .int 0])), (q_25, .inl (cA_26, 1, .inr (.inl (fun _ => 0)))), (q_27, .inl (cA_28, 1, .inr (.inr (.inr (.inl (fun _ => 0))))))] := hD
  have hK : va_K (dC, dI) vwCl [(cS_13, .object "Diffractory$Source"), (cP_14, .object "Diffractory$Part"), (cn_15, .long), (cm_16, .long), (cw_17, .long), (ct_18, .long), (cA_26, .long), (cA_28, .double)] s := hK
  refine lv_astore (lv' := [(4, .ref q_27), (3, .ref q_25), (2, .ref q_19), (1, .ref q_1), (0, .ref b)]) hx hb dL_law_23 hl (by decide) rfl (fun ls hl => ?_)
  refine lv_iconst (v := 0) hx hb dL_law_25 (by decide) ?_
  refine lv_istore (lv' := [(5, .int 0), (4, .ref q_27), (3, .ref q_25), (2, .ref q_19), (1, .ref q_1), (0, .ref b)]) hx hb dL_law_26 hl (by decide) rfl (fun ls hl => ?_)
  refine lv_iload hx hb dL_law_28 (lv_at hl 0 rfl) ?_
  refine lv_aload_n hx hb dL_law_30 rfl (lv_at hl 5 rfl) ?_
  refine va_slen hx hb hX hbl hbA hS dL_law_31 ?_
  refine ax_i (y := 0) rfl ?_
  refine lv_iconst (v := 5) hx hb dL_law_32 (by decide) ?_
  refine lv_isub hx hb dL_law_33 ?_
  refine ax_i (y := (-5)) (by decide) ?_
  refine lv_icmp_gt (tgt := 1863) hx hb dL_law_34 (by decide) (fun _ => ?_) (fun h9 => absurd (by decide) h9)
  refine lv_iconst (v := 1) hx hb dL_law_1863 (by decide) ?_
  refine va_forget (fun q hq => by have h9 := hS.2.2 q hq; rw [hAd] at h9; exact h9) ?_
  refine W.widen (k := 600002) (n := 7302232) (Nat.le_of_ble_eq_true rfl) (Nat.le_of_ble_eq_true rfl) ?_
  refine W.base ?_
  exact lw_ret (Drawn.sameBut.refl s.drawn lw_cs) hx hb hr hlocks dL_law_1864

set_option maxHeartbeats 4000000 in
set_option maxRecDepth 100000 in
theorem law_all1 {p : Program} {e : Env} {s : State} {m : MethodId} {below : List Frame} {meth : Method} {c : Code} (l : Launch) (hlt : l.stackTraces = false) {b : Nat} {xs : Nat → Int32} (C0 : lw_At p s m meth c b 1 xs) : W p l e room_1 s m #[Value.ref b] below meth c s.heap [] 0 0 (lw_Z below #[Value.ref b] s) (entryFrame m ([Value.ref b] : List Value).toArray 9) := by
  obtain ⟨hx, hb, hr, hml, hown, hts, hX, hbl, hlocks, hgv⟩ := id C0
  obtain ⟨A, hAd⟩ : ∃ A : Nat → Prop, A = fun q => s.heap.size ≤ q := ⟨_, rfl⟩
  have hA : ∀ q : Nat, s.heap.size ≤ q → A q := fun q h => by rw [hAd]; exact h
  have hbA : ¬ A b := by rw [hAd]; exact Nat.not_le.mpr hbl
  obtain ⟨c0, i0, hKn0⟩ := u_known (C := RJ0) (T := TJ0) (N := 4) (n := 4) hts in_J0 (hts (.instantiable RJ0 4) (by decide +kernel))
  obtain ⟨c1, i1, hKn1⟩ := u_known (C := RJ4) (T := TJ4) (N := 4) (n := 4) hts in_J4 (hts (.instantiable RJ4 4) (by decide +kernel))
  obtain ⟨c2, i2, hKn2⟩ := u_known (C := RJx00060) (T := TJx00060) (N := 6) (n := 6) hts in_Jx00060 (hts (.instantiable RJx00060 6) (by decide +kernel))
  obtain ⟨c3, i3, hKn3⟩ := u_known (C := RJx4a65c) (T := TJx4a65c) (N := 3) (n := 3) hts in_Jx4a65c (hts (.instantiable RJx4a65c 3) (by decide +kernel))
  obtain ⟨c4, i4, hKn4⟩ := u_known (C := RX0) (T := TX0) (N := 2) (n := 2) hts in_X0 (hts (.instantiable RX0 2) (by decide +kernel))
  obtain ⟨c5, i5, hKn5⟩ := u_known (C := RX1) (T := TX1) (N := 6) (n := 6) hts in_X1 (hts (.instantiable RX1 6) (by decide +kernel))
  obtain ⟨c6, i6, hKn6⟩ := u_known (C := RX2) (T := TX2) (N := 2) (n := 2) hts in_X2 (hts (.instantiable RX2 2) (by decide +kernel))
  obtain ⟨c7, i7, hKn7⟩ := u_known (C := RX3) (T := TX3) (N := 3) (n := 3) hts in_X3 (hts (.instantiable RX3 3) (by decide +kernel))
  obtain ⟨c8, i8, hKn8⟩ := u_known (C := RX4) (T := TX4) (N := 6) (n := 6) hts in_X4 (hts (.instantiable RX4 6) (by decide +kernel))
  obtain ⟨c9, i9, hKn9⟩ := u_known (C := RX5) (T := TX5) (N := 6) (n := 6) hts in_X5 (hts (.instantiable RX5 6) (by decide +kernel))
  obtain ⟨c10, i10, hKn10⟩ := u_known (C := RX6) (T := TX6) (N := 3) (n := 3) hts in_X6 (hts (.instantiable RX6 3) (by decide +kernel))
  obtain ⟨c11, i11, hKn11⟩ := u_known (C := RX7) (T := TX7) (N := 4) (n := 4) hts in_X7 (hts (.instantiable RX7 4) (by decide +kernel))
  obtain ⟨dC, dI, hKc⟩ : ∃ (dC : Nat → ClassId) (dI : Nat → Nat → Nat), ∀ (k : Nat) (q : vw_C), vwCl[k]? = some q → u_Kn s q.1 q.2.1 q.2.2 (dC k) (dI k) := by
    refine ⟨fun k => match k with | 0 => c0 | 1 => c1 | 2 => c2 | 3 => c3 | 4 => c4 | 5 => c5 | 6 => c6 | 7 => c7 | 8 => c8 | 9 => c9 | 10 => c10 | _ => c11, fun k => match k with | 0 => i0 | 1 => i1 | 2 => i2 | 3 => i3 | 4 => i4 | 5 => i5 | 6 => i6 | 7 => i7 | 8 => i8 | 9 => i9 | 10 => i10 | _ => i11, ?_⟩
    intro k q hq
    match k, hq with
    | 0, hq => cases hq; exact hKn0
    | 1, hq => cases hq; exact hKn1
    | 2, hq => cases hq; exact hKn2
    | 3, hq => cases hq; exact hKn3
    | 4, hq => cases hq; exact hKn4
    | 5, hq => cases hq; exact hKn5
    | 6, hq => cases hq; exact hKn6
    | 7, hq => cases hq; exact hKn7
    | 8, hq => cases hq; exact hKn8
    | 9, hq => cases hq; exact hKn9
    | 10, hq => cases hq; exact hKn10
    | 11, hq => cases hq; exact hKn11
    | k + 12, hq => simp [vwCl] at hq
  have hS : va_S A s.heap s.heap [] := va_S.rf
  have hK : va_K (dC, dI) vwCl [] s := ⟨hKc, fun k q h => by simp at h⟩
  have hP : va_P (dC, dI) vwCl [] s.heap := fun k q h => by simp at h
  have hD : va_D A [] := ⟨fun i j p q h => by simp at h, fun k q h => by simp at h⟩
  obtain ⟨sa, ta, hE⟩ := ax_S_start (A := A) hts hgv (fun a h => by rw [hAd]; exact Nat.not_le.mpr h)
  have hl := lv_entry ([.ref b]) (n := 9) (Nat.le_of_ble_eq_true rfl)
  rw [lg_entry_eq]
  generalize (lg_sl ([.ref b]) ++ List.replicate (9 - (lg_sl ([.ref b])).length) Slot.unset).toArray = ls at hl ⊢
  have hl : lv_has ls 9 [(0, .ref b)] := hl
  refine va_new (ci := 8) (fs := [.null, .null, .int 0, .int 0, .null, .null]) (C := RX4) (T := TX4) (N := 6) hx hb hts (by decide +kernel) tyX4 tyX4_ok hown (hts (.classLink RL 8 RX4) (by decide +kernel)) (hts (.instantiable RX4 6) (by decide +kernel)) (hts (.initialized RX4) (by decide +kernel)) hK hP hD hS hA rfl (fun j hj => by rcases (show j = 0 ∨ j = 1 ∨ j = 2 ∨ j = 3 ∨ j = 4 ∨ j = 5 by omega) with rfl | rfl | rfl | rfl | rfl | rfl <;> rfl) (Nat.le_of_ble_eq_true rfl) (Nat.le_of_ble_eq_true rfl) dL_law_0 (fun q_1 H hP hD hS => ?_)
  have hP : va_P (dC, dI) vwCl [(q_1, .inr (8, [.null, .null, .int 0, .int 0, .null, .null]))] H := hP
  have hD : va_D A [(q_1, .inr (8, [.null, .null, .int 0, .int 0, .null, .null]))] := hD
  refine lv_dup hx hb dL_law_3 rfl ?_
  have hPc := hP.sub (ws' := [(q_1, .inr (8, [.null, .null, .int 0, .int 0, .null, .null]))]) [0] rfl
  have hKc := hK.sub (tys' := []) [] rfl
  have hDc := hD.sub (ws' := [(q_1, .inr (8, [.null, .null, .int 0, .int 0, .null, .null]))]) [0] (by decide) rfl
  have hFc := va_free (wc := [(q_1, .inr (8, [.null, .null, .int 0, .int 0, .null, .null]))]) hD hS hA [0] rfl
  refine va_callv (va_runI (As := []) (rest := [.ref q_1]) ⟨hx, hb, hml, hown, hts⟩ (c_X4_init l dC dI q_1 sa ta H.size) (cwI 0 hts gl_X4_init rfl rfl rfl (hts (.initialized RX4) (by decide +kernel)) (hts (.methodLink RL 98 yX4_init) (by decide +kernel)) (hts (.instanceMethod yX4_init) (by decide +kernel)) rfl (by decide +kernel) ⟨Nat.le_of_ble_eq_true rfl, Nat.le_of_ble_eq_true rfl⟩) ⟨ax_fbW, ax_prW hPc hKc hDc hS hFc hE⟩ rfl rfl hl.1 rfl (lv_room (Nat.le_of_ble_eq_true rfl)) dL_law_4 ⟨Nat.le_of_ble_eq_true rfl, Nat.le_of_ble_eq_true rfl⟩) hS (fun q _ h9 => hFc q h9) hFc (fun u_4  t H locs ht hvm hw_3 hB hz1 hk1 hS => ?_)
  obtain ⟨xs_5, xp_6, xl_7, xn_8, xm_9, xr_10, xw_11, xt_12, cS_13, cP_14, cn_15, cm_16, cw_17, ct_18⟩ := u_4
  obtain ⟨hP1, hK1, hD1⟩ := hB
  rw [ht] at hP1
  have hK1 := va_K.moved hvm.symm hK1
  obtain ⟨hP, hD⟩ := va_join (wr := []) (w1 := [(q_1, .inr (8, [.ref xs_5, .ref xp_6, .int 0, .int 0, .ref xl_7, .ref xr_10])), (xs_5, .inl (cS_13, 3, .inr (.inr (.inr (.inr (fun _ => none)))))), (xp_6, .inl (cP_14, 8, .inr (.inr (.inr (.inr (fun _ => none)))))), (xl_7, .inr (4, [.ref xn_8, .ref xm_9])), (xn_8, .inl (cn_15, 64, .inr (.inl (fun _ => 0)))), (xm_9, .inl (cm_16, 64, .inr (.inl (fun _ => 0)))), (xr_10, .inr (6, [.ref xw_11, .ref xt_12])), (xw_11, .inl (cw_17, 8, .inr (.inl (fun _ => 0)))), (xt_12, .inl (ct_18, 8, .inr (.inl (fun _ => 0))))]) hP hD [0] [] rfl rfl (by decide) (by decide) hk1 hFc hP1 hD1
  have hK := hK.app hK1
  have hK := hK.sub (tys' := [(cS_13, .object "Diffractory$Source"), (cP_14, .object "Diffractory$Part"), (cn_15, .long), (cm_16, .long), (cw_17, .long), (ct_18, .long)]) [0, 1, 2, 3, 4, 5] rfl
  have hP : va_P (dC, dI) vwCl [(q_1, .inr (8, [.ref xs_5, .ref xp_6, .int 0, .int 0, .ref xl_7, .ref xr_10])), (xs_5, .inl (cS_13, 3, .inr (.inr (.inr (.inr (fun _ => none)))))), (xp_6, .inl (cP_14, 8, .inr (.inr (.inr (.inr (fun _ => none)))))), (xl_7, .inr (4, [.ref xn_8, .ref xm_9])), (xn_8, .inl (cn_15, 64, .inr (.inl (fun _ => 0)))), (xm_9, .inl (cm_16, 64, .inr (.inl (fun _ => 0)))), (xr_10, .inr (6, [.ref xw_11, .ref xt_12])), (xw_11, .inl (cw_17, 8, .inr (.inl (fun _ => 0)))), (xt_12, .inl (ct_18, 8, .inr (.inl (fun _ => 0))))] H := hP
  have hD : va_D A [(q_1, .inr (8, [.ref xs_5, .ref xp_6, .int 0, .int 0, .ref xl_7, .ref xr_10])), (xs_5, .inl (cS_13, 3, .inr (.inr (.inr (.inr (fun _ => none)))))), (xp_6, .inl (cP_14, 8, .inr (.inr (.inr (.inr (fun _ => none)))))), (xl_7, .inr (4, [.ref xn_8, .ref xm_9])), (xn_8, .inl (cn_15, 64, .inr (.inl (fun _ => 0)))), (xm_9, .inl (cm_16, 64, .inr (.inl (fun _ => 0)))), (xr_10, .inr (6, [.ref xw_11, .ref xt_12])), (xw_11, .inl (cw_17, 8, .inr (.inl (fun _ => 0)))), (xt_12, .inl (ct_18, 8, .inr (.inl (fun _ => 0))))] := hD
  refine lv_astore_n (lv' := [(1, .ref q_1), (0, .ref b)]) hx hb dL_law_7 rfl hl (by decide) rfl (fun ls hl => ?_)
  refine va_new (ci := 11) (fs := [.int 0, .null, .null, .int 0]) (C := RX7) (T := TX7) (N := 4) hx hb hts (by decide +kernel) tyX7 tyX7_ok hown (hts (.classLink RL 99 RX7) (by decide +kernel)) (hts (.instantiable RX7 4) (by decide +kernel)) (hts (.initialized RX7) (by decide +kernel)) hK hP hD hS hA rfl (fun j hj => by rcases (show j = 0 ∨ j = 1 ∨ j = 2 ∨ j = 3 by omega) with rfl | rfl | rfl | rfl <;> rfl) (Nat.le_of_ble_eq_true rfl) (Nat.le_of_ble_eq_true rfl) dL_law_8 (fun q_19 H hP hD hS => ?_)
  have hP : va_P (dC, dI) vwCl [(q_1, .inr (8, [.ref xs_5, .ref xp_6, .int 0, .int 0, .ref xl_7, .ref xr_10])), (xs_5, .inl (cS_13, 3, .inr (.inr (.inr (.inr (fun _ => none)))))), (xp_6, .inl (cP_14, 8, .inr (.inr (.inr (.inr (fun _ => none)))))), (xl_7, .inr (4, [.ref xn_8, .ref xm_9])), (xn_8, .inl (cn_15, 64, .inr (.inl (fun _ => 0)))), (xm_9, .inl (cm_16, 64, .inr (.inl (fun _ => 0)))), (xr_10, .inr (6, [.ref xw_11, .ref xt_12])), (xw_11, .inl (cw_17, 8, .inr (.inl (fun _ => 0)))), (xt_12, .inl (ct_18, 8, .inr (.inl (fun _ => 0)))), (q_19, .inr (11, [.int 0, .null, .null, .int 0]))] H := hP
  have hD : va_D A [(q_1, .inr (8, [.ref xs_5, .ref xp_6, .int 0, .int 0, .ref xl_7, .ref xr_10])), (xs_5, .inl (cS_13, 3, .inr (.inr (.inr (.inr (fun _ => none)))))), (xp_6, .inl (cP_14, 8, .inr (.inr (.inr (.inr (fun _ => none)))))), (xl_7, .inr (4, [.ref xn_8, .ref xm_9])), (xn_8, .inl (cn_15, 64, .inr (.inl (fun _ => 0)))), (xm_9, .inl (cm_16, 64, .inr (.inl (fun _ => 0)))), (xr_10, .inr (6, [.ref xw_11, .ref xt_12])), (xw_11, .inl (cw_17, 8, .inr (.inl (fun _ => 0)))), (xt_12, .inl (ct_18, 8, .inr (.inl (fun _ => 0)))), (q_19, .inr (11, [.int 0, .null, .null, .int 0]))] := hD
  refine lv_dup hx hb dL_law_11 rfl ?_
  have hPc := hP.sub (ws' := [(q_19, .inr (11, [.int 0, .null, .null, .int 0]))]) [9] rfl
  have hKc := hK.sub (tys' := []) [] rfl
  have hDc := hD.sub (ws' := [(q_19, .inr (11, [.int 0, .null, .null, .int 0]))]) [9] (by decide) rfl
  have hFc := va_free (wc := [(q_19, .inr (11, [.int 0, .null, .null, .int 0]))]) hD hS hA [9] rfl
  refine va_callv (va_runI (As := []) (rest := [.ref q_19]) ⟨hx, hb, hml, hown, hts⟩ (c_X7_init l dC dI q_19 sa ta H.size) (cwI 0 hts gl_X7_init rfl rfl rfl (hts (.initialized RX7) (by decide +kernel)) (hts (.methodLink RL 101 yX7_init) (by decide +kernel)) (hts (.instanceMethod yX7_init) (by decide +kernel)) rfl (by decide +kernel) ⟨Nat.le_of_ble_eq_true rfl, Nat.le_of_ble_eq_true rfl⟩) ⟨ax_fbW, ax_prW hPc hKc hDc hS hFc hE⟩ rfl rfl hl.1 rfl (lv_room (Nat.le_of_ble_eq_true rfl)) dL_law_12 ⟨Nat.le_of_ble_eq_true rfl, Nat.le_of_ble_eq_true rfl⟩) hS (fun q _ h9 => hFc q h9) hFc (fun u_22  t H locs ht hvm hw_21 hB hz1 hk1 hS => ?_)
  obtain ⟨ys_23, yp_24⟩ := u_22
  obtain ⟨hP1, hK1, hD1⟩ := hB
  rw [ht] at hP1
  have hK1 := va_K.moved hvm.symm hK1
  obtain ⟨hP, hD⟩ := va_join (wr := [(q_1, .inr (8, [.ref xs_5, .ref xp_6, .int 0, .int 0, .ref xl_7, .ref xr_10])), (xs_5, .inl (cS_13, 3, .inr (.inr (.inr (.inr (fun _ => none)))))), (xp_6, .inl (cP_14, 8, .inr (.inr (.inr (.inr (fun _ => none)))))), (xl_7, .inr (4, [.ref xn_8, .ref xm_9])), (xn_8, .inl (cn_15, 64, .inr (.inl (fun _ => 0)))), (xm_9, .inl (cm_16, 64, .inr (.inl (fun _ => 0)))), (xr_10, .inr (6, [.ref xw_11, .ref xt_12])), (xw_11, .inl (cw_17, 8, .inr (.inl (fun _ => 0)))), (xt_12, .inl (ct_18, 8, .inr (.inl (fun _ => 0))))]) (w1 := [(q_19, .inr (11, [.int 0, .ref ys_23, .ref yp_24, .int 0])), (ys_23, .inr (3, [.int 0, .ref (ta 4), .int 0])), (yp_24, .inr (3, [.int 0, .ref (ta 4), .int 0]))]) hP hD [9] [0, 1, 2, 3, 4, 5, 6, 7, 8] rfl rfl (by decide) (by decide) hk1 hFc hP1 hD1
  have hP : va_P (dC, dI) vwCl [(q_1, .inr (8, [.ref xs_5, .ref xp_6, .int 0, .int 0, .ref xl_7, .ref xr_10])), (xs_5, .inl (cS_13, 3, .inr (.inr (.inr (.inr (fun _ => none)))))), (xp_6, .inl (cP_14, 8, .inr (.inr (.inr (.inr (fun _ => none)))))), (xl_7, .inr (4, [.ref xn_8, .ref xm_9])), (xn_8, .inl (cn_15, 64, .inr (.inl (fun _ => 0)))), (xm_9, .inl (cm_16, 64, .inr (.inl (fun _ => 0)))), (xr_10, .inr (6, [.ref xw_11, .ref xt_12])), (xw_11, .inl (cw_17, 8, .inr (.inl (fun _ => 0)))), (xt_12, .inl (ct_18, 8, .inr (.inl (fun _ => 0)))), (q_19, .inr (11, [.int 0, .ref ys_23, .ref yp_24, .int 0])), (ys_23, .inr (3, [.int 0, .ref (ta 4), .int 0])), (yp_24, .inr (3, [.int 0, .ref (ta 4), .int 0]))] H := hP
  have hD : va_D A [(q_1, .inr (8, [.ref xs_5, .ref xp_6, .int 0, .int 0, .ref xl_7, .ref xr_10])), (xs_5, .inl (cS_13, 3, .inr (.inr (.inr (.inr (fun _ => none)))))), (xp_6, .inl (cP_14, 8, .inr (.inr (.inr (.inr (fun _ => none)))))), (xl_7, .inr (4, [.ref xn_8, .ref xm_9])), (xn_8, .inl (cn_15, 64, .inr (.inl (fun _ => 0)))), (xm_9, .inl (cm_16, 64, .inr (.inl (fun _ => 0)))), (xr_10, .inr (6, [.ref xw_11, .ref xt_12])), (xw_11, .inl (cw_17, 8, .inr (.inl (fun _ => 0)))), (xt_12, .inl (ct_18, 8, .inr (.inl (fun _ => 0)))), (q_19, .inr (11, [.int 0, .ref ys_23, .ref yp_24, .int 0])), (ys_23, .inr (3, [.int 0, .ref (ta 4), .int 0])), (yp_24, .inr (3, [.int 0, .ref (ta 4), .int 0]))] := hD
  refine lv_astore_n (lv' := [(2, .ref q_19), (1, .ref q_1), (0, .ref b)]) hx hb dL_law_15 rfl hl (by decide) rfl (fun ls hl => ?_)
  refine lv_iconst (v := 1) hx hb dL_law_16 (by decide) ?_
  refine va_newa (atype := .long) (ty := .long) (N' := 1) (a0 := (1, .inr (.inl (fun _ => 0)))) hx hb (hts (.arrayClass .long) (by decide +kernel)) rfl hK hP hD hS hA (fun _ => rfl) (by decide) (by decide) (by decide) (Nat.le_of_ble_eq_true rfl) (Nat.le_of_ble_eq_true rfl) dL_law_17 (fun q_25 cA_26 H hK hP hD hS => ?_)
  have hP : va_P (dC, dI) vwCl [(q_1, .inr (8, [.ref xs_5, .ref xp_6, .int 0, .int 0, .ref xl_7, .ref xr_10])), (xs_5, .inl (cS_13, 3, .inr (.inr (.inr (.inr (fun _ => none)))))), (xp_6, .inl (cP_14, 8, .inr (.inr (.inr (.inr (fun _ => none)))))), (xl_7, .inr (4, [.ref xn_8, .ref xm_9])), (xn_8, .inl (cn_15, 64, .inr (.inl (fun _ => 0)))), (xm_9, .inl (cm_16, 64, .inr (.inl (fun _ => 0)))), (xr_10, .inr (6, [.ref xw_11, .ref xt_12])), (xw_11, .inl (cw_17, 8, .inr (.inl (fun _ => 0)))), (xt_12, .inl (ct_18, 8, .inr (.inl (fun _ => 0)))), (q_19, .inr (11, [.int 0, .ref ys_23, .ref yp_24, .int 0])), (ys_23, .inr (3, [.int 0, .ref (ta 4), .int 0])), (yp_24, .inr (3, [.int 0, .ref (ta 4), .int 0])), (q_25, .inl (cA_26, 1, .inr (.inl (fun _ => 0))))] H := hP
  have hD : va_D A [(q_1, .inr (8, [.ref xs_5, .ref xp_6, .int 0, .int 0, .ref xl_7, .ref xr_10])), (xs_5, .inl (cS_13, 3, .inr (.inr (.inr (.inr (fun _ => none)))))), (xp_6, .inl (cP_14, 8, .inr (.inr (.inr (.inr (fun _ => none)))))), (xl_7, .inr (4, [.ref xn_8, .ref xm_9])), (xn_8, .inl (cn_15, 64, .inr (.inl (fun _ => 0)))), (xm_9, .inl (cm_16, 64, .inr (.inl (fun _ => 0)))), (xr_10, .inr (6, [.ref xw_11, .ref xt_12])), (xw_11, .inl (cw_17, 8, .inr (.inl (fun _ => 0)))), (xt_12, .inl (ct_18, 8, .inr (.inl (fun _ => 0)))), (q_19, .inr (11, [.int 0, .ref ys_23, .ref yp_24, .int 0])), (ys_23, .inr (3, [.int 0, .ref (ta 4), .int 0])), (yp_24, .inr (3, [.int 0, .ref (ta 4), .int 0])), (q_25, .inl (cA_26, 1, .inr (.inl (fun _ => 0))))] := hD
  have hK : va_K (dC, dI) vwCl [(cS_13, .object "Diffractory$Source"), (cP_14, .object "Diffractory$Part"), (cn_15, .long), (cm_16, .long), (cw_17, .long), (ct_18, .long), (cA_26, .long)] s := hK
  refine lv_astore_n (lv' := [(3, .ref q_25), (2, .ref q_19), (1, .ref q_1), (0, .ref b)]) hx hb dL_law_19 rfl hl (by decide) rfl (fun ls hl => ?_)
  refine lv_iconst (v := 1) hx hb dL_law_20 (by decide) ?_
  refine va_newa (atype := .double) (ty := .double) (N' := 1) (a0 := (1, .inr (.inr (.inr (.inl (fun _ => 0)))))) hx hb (hts (.arrayClass .double) (by decide +kernel)) rfl hK hP hD hS hA (fun _ => rfl) (by decide) (by decide) (by decide) (Nat.le_of_ble_eq_true rfl) (Nat.le_of_ble_eq_true rfl) dL_law_21 (fun q_27 cA_28 H hK hP hD hS => ?_)
  have hP : va_P (dC, dI) vwCl [(q_1, .inr (8, [.ref xs_5, .ref xp_6, .int 0, .int 0, .ref xl_7, .ref xr_10])), (xs_5, .inl (cS_13, 3, .inr (.inr (.inr (.inr (fun _ => none)))))), (xp_6, .inl (cP_14, 8, .inr (.inr (.inr (.inr (fun _ => none)))))), (xl_7, .inr (4, [.ref xn_8, .ref xm_9])), (xn_8, .inl (cn_15, 64, .inr (.inl (fun _ => 0)))), (xm_9, .inl (cm_16, 64, .inr (.inl (fun _ => 0)))), (xr_10, .inr (6, [.ref xw_11, .ref xt_12])), (xw_11, .inl (cw_17, 8, .inr (.inl (fun _ => 0)))), (xt_12, .inl (ct_18, 8, .inr (.inl (fun _ => 0)))), (q_19, .inr (11, [.int 0, .ref ys_23, .ref yp_24, .int 0])), (ys_23, .inr (3, [.int 0, .ref (ta 4), .int 0])), (yp_24, .inr (3, [.int 0, .ref (ta 4), .int 0])), (q_25, .inl (cA_26, 1, .inr (.inl (fun _ => 0)))), (q_27, .inl (cA_28, 1, .inr (.inr (.inr (.inl (fun _ => 0))))))] H := hP
  have hD : va_D A [(q_1, .inr (8, [.ref xs_5, .ref xp_6, .int 0, .int 0, .ref xl_7, .ref xr_10])), (xs_5, .inl (cS_13, 3, .inr (.inr (.inr (.inr (fun _ => none)))))), (xp_6, .inl (cP_14, 8, .inr (.inr (.inr (.inr (fun _ => none)))))), (xl_7, .inr (4, [.ref xn_8, .ref xm_9])), (xn_8, .inl (cn_15, 64, .inr (.inl (fun _ => 0)))), (xm_9, .inl (cm_16, 64, .inr (.inl (fun _ => 0)))), (xr_10, .inr (6, [.ref xw_11, .ref xt_12])), (xw_11, .inl (cw_17, 8, .inr (.inl (fun _ => 0)))), (xt_12, .inl (ct_18, 8, .inr (.inl (fun _ => 0)))), (q_19, .inr (11, [.int 0, .ref ys_23, .ref yp_24, .int 0])), (ys_23, .inr (3, [.int 0, .ref (ta 4), .int 0])), (yp_24, .inr (3, [.int 0, .ref (ta 4), .int 0])), (q_25, .inl (cA_26, 1, .inr (.inl (fun _ => 0)))), (q_27, .inl (cA_28, 1, .inr (.inr (.inr (.inl (fun _ => 0))))))] := hD
  have hK : va_K (dC, dI) vwCl [(cS_13, .object "Diffractory$Source"), (cP_14, .object "Diffractory$Part"), (cn_15, .long), (cm_16, .long), (cw_17, .long), (ct_18, .long), (cA_26, .long), (cA_28, .double)] s := hK
  refine lv_astore (lv' := [(4, .ref q_27), (3, .ref q_25), (2, .ref q_19), (1, .ref q_1), (0, .ref b)]) hx hb dL_law_23 hl (by decide) rfl (fun ls hl => ?_)
  refine lv_iconst (v := 0) hx hb dL_law_25 (by decide) ?_
  refine lv_istore (lv' := [(5, .int 0), (4, .ref q_27), (3, .ref q_25), (2, .ref q_19), (1, .ref q_1), (0, .ref b)]) hx hb dL_law_26 hl (by decide) rfl (fun ls hl => ?_)
  refine lv_iload hx hb dL_law_28 (lv_at hl 0 rfl) ?_
  refine lv_aload_n hx hb dL_law_30 rfl (lv_at hl 5 rfl) ?_
  refine va_slen hx hb hX hbl hbA hS dL_law_31 ?_
  refine ax_i (y := 1) rfl ?_
  refine lv_iconst (v := 5) hx hb dL_law_32 (by decide) ?_
  refine lv_isub hx hb dL_law_33 ?_
  refine ax_i (y := (-4)) (by decide) ?_
  refine lv_icmp_gt (tgt := 1863) hx hb dL_law_34 (by decide) (fun _ => ?_) (fun h9 => absurd (by decide) h9)
  refine lv_iconst (v := 1) hx hb dL_law_1863 (by decide) ?_
  refine va_forget (fun q hq => by have h9 := hS.2.2 q hq; rw [hAd] at h9; exact h9) ?_
  refine W.widen (k := 600002) (n := 7302232) (Nat.le_of_ble_eq_true rfl) (Nat.le_of_ble_eq_true rfl) ?_
  refine W.base ?_
  exact lw_ret (Drawn.sameBut.refl s.drawn lw_cs) hx hb hr hlocks dL_law_1864

set_option maxHeartbeats 4000000 in
set_option maxRecDepth 100000 in
theorem law_all2 {p : Program} {e : Env} {s : State} {m : MethodId} {below : List Frame} {meth : Method} {c : Code} (l : Launch) (hlt : l.stackTraces = false) {b : Nat} {xs : Nat → Int32} (C0 : lw_At p s m meth c b 2 xs) : W p l e room_1 s m #[Value.ref b] below meth c s.heap [] 0 0 (lw_Z below #[Value.ref b] s) (entryFrame m ([Value.ref b] : List Value).toArray 9) := by
  obtain ⟨hx, hb, hr, hml, hown, hts, hX, hbl, hlocks, hgv⟩ := id C0
  obtain ⟨A, hAd⟩ : ∃ A : Nat → Prop, A = fun q => s.heap.size ≤ q := ⟨_, rfl⟩
  have hA : ∀ q : Nat, s.heap.size ≤ q → A q := fun q h => by rw [hAd]; exact h
  have hbA : ¬ A b := by rw [hAd]; exact Nat.not_le.mpr hbl
  obtain ⟨c0, i0, hKn0⟩ := u_known (C := RJ0) (T := TJ0) (N := 4) (n := 4) hts in_J0 (hts (.instantiable RJ0 4) (by decide +kernel))
  obtain ⟨c1, i1, hKn1⟩ := u_known (C := RJ4) (T := TJ4) (N := 4) (n := 4) hts in_J4 (hts (.instantiable RJ4 4) (by decide +kernel))
  obtain ⟨c2, i2, hKn2⟩ := u_known (C := RJx00060) (T := TJx00060) (N := 6) (n := 6) hts in_Jx00060 (hts (.instantiable RJx00060 6) (by decide +kernel))
  obtain ⟨c3, i3, hKn3⟩ := u_known (C := RJx4a65c) (T := TJx4a65c) (N := 3) (n := 3) hts in_Jx4a65c (hts (.instantiable RJx4a65c 3) (by decide +kernel))
  obtain ⟨c4, i4, hKn4⟩ := u_known (C := RX0) (T := TX0) (N := 2) (n := 2) hts in_X0 (hts (.instantiable RX0 2) (by decide +kernel))
  obtain ⟨c5, i5, hKn5⟩ := u_known (C := RX1) (T := TX1) (N := 6) (n := 6) hts in_X1 (hts (.instantiable RX1 6) (by decide +kernel))
  obtain ⟨c6, i6, hKn6⟩ := u_known (C := RX2) (T := TX2) (N := 2) (n := 2) hts in_X2 (hts (.instantiable RX2 2) (by decide +kernel))
  obtain ⟨c7, i7, hKn7⟩ := u_known (C := RX3) (T := TX3) (N := 3) (n := 3) hts in_X3 (hts (.instantiable RX3 3) (by decide +kernel))
  obtain ⟨c8, i8, hKn8⟩ := u_known (C := RX4) (T := TX4) (N := 6) (n := 6) hts in_X4 (hts (.instantiable RX4 6) (by decide +kernel))
  obtain ⟨c9, i9, hKn9⟩ := u_known (C := RX5) (T := TX5) (N := 6) (n := 6) hts in_X5 (hts (.instantiable RX5 6) (by decide +kernel))
  obtain ⟨c10, i10, hKn10⟩ := u_known (C := RX6) (T := TX6) (N := 3) (n := 3) hts in_X6 (hts (.instantiable RX6 3) (by decide +kernel))
  obtain ⟨c11, i11, hKn11⟩ := u_known (C := RX7) (T := TX7) (N := 4) (n := 4) hts in_X7 (hts (.instantiable RX7 4) (by decide +kernel))
  obtain ⟨dC, dI, hKc⟩ : ∃ (dC : Nat → ClassId) (dI : Nat → Nat → Nat), ∀ (k : Nat) (q : vw_C), vwCl[k]? = some q → u_Kn s q.1 q.2.1 q.2.2 (dC k) (dI k) := by
    refine ⟨fun k => match k with | 0 => c0 | 1 => c1 | 2 => c2 | 3 => c3 | 4 => c4 | 5 => c5 | 6 => c6 | 7 => c7 | 8 => c8 | 9 => c9 | 10 => c10 | _ => c11, fun k => match k with | 0 => i0 | 1 => i1 | 2 => i2 | 3 => i3 | 4 => i4 | 5 => i5 | 6 => i6 | 7 => i7 | 8 => i8 | 9 => i9 | 10 => i10 | _ => i11, ?_⟩
    intro k q hq
    match k, hq with
    | 0, hq => cases hq; exact hKn0
    | 1, hq => cases hq; exact hKn1
    | 2, hq => cases hq; exact hKn2
    | 3, hq => cases hq; exact hKn3
    | 4, hq => cases hq; exact hKn4
    | 5, hq => cases hq; exact hKn5
    | 6, hq => cases hq; exact hKn6
    | 7, hq => cases hq; exact hKn7
    | 8, hq => cases hq; exact hKn8
    | 9, hq => cases hq; exact hKn9
    | 10, hq => cases hq; exact hKn10
    | 11, hq => cases hq; exact hKn11
    | k + 12, hq => simp [vwCl] at hq
  have hS : va_S A s.heap s.heap [] := va_S.rf
  have hK : va_K (dC, dI) vwCl [] s := ⟨hKc, fun k q h => by simp at h⟩
  have hP : va_P (dC, dI) vwCl [] s.heap := fun k q h => by simp at h
  have hD : va_D A [] := ⟨fun i j p q h => by simp at h, fun k q h => by simp at h⟩
  obtain ⟨sa, ta, hE⟩ := ax_S_start (A := A) hts hgv (fun a h => by rw [hAd]; exact Nat.not_le.mpr h)
  have hl := lv_entry ([.ref b]) (n := 9) (Nat.le_of_ble_eq_true rfl)
  rw [lg_entry_eq]
  generalize (lg_sl ([.ref b]) ++ List.replicate (9 - (lg_sl ([.ref b])).length) Slot.unset).toArray = ls at hl ⊢
  have hl : lv_has ls 9 [(0, .ref b)] := hl
  refine va_new (ci := 8) (fs := [.null, .null, .int 0, .int 0, .null, .null]) (C := RX4) (T := TX4) (N := 6) hx hb hts (by decide +kernel) tyX4 tyX4_ok hown (hts (.classLink RL 8 RX4) (by decide +kernel)) (hts (.instantiable RX4 6) (by decide +kernel)) (hts (.initialized RX4) (by decide +kernel)) hK hP hD hS hA rfl (fun j hj => by rcases (show j = 0 ∨ j = 1 ∨ j = 2 ∨ j = 3 ∨ j = 4 ∨ j = 5 by omega) with rfl | rfl | rfl | rfl | rfl | rfl <;> rfl) (Nat.le_of_ble_eq_true rfl) (Nat.le_of_ble_eq_true rfl) dL_law_0 (fun q_1 H hP hD hS => ?_)
  have hP : va_P (dC, dI) vwCl [(q_1, .inr (8, [.null, .null, .int 0, .int 0, .null, .null]))] H := hP
  have hD : va_D A [(q_1, .inr (8, [.null, .null, .int 0, .int 0, .null, .null]))] := hD
  refine lv_dup hx hb dL_law_3 rfl ?_
  have hPc := hP.sub (ws' := [(q_1, .inr (8, [.null, .null, .int 0, .int 0, .null, .null]))]) [0] rfl
  have hKc := hK.sub (tys' := []) [] rfl
  have hDc := hD.sub (ws' := [(q_1, .inr (8, [.null, .null, .int 0, .int 0, .null, .null]))]) [0] (by decide) rfl
  have hFc := va_free (wc := [(q_1, .inr (8, [.null, .null, .int 0, .int 0, .null, .null]))]) hD hS hA [0] rfl
  refine va_callv (va_runI (As := []) (rest := [.ref q_1]) ⟨hx, hb, hml, hown, hts⟩ (c_X4_init l dC dI q_1 sa ta H.size) (cwI 0 hts gl_X4_init rfl rfl rfl (hts (.initialized RX4) (by decide +kernel)) (hts (.methodLink RL 98 yX4_init) (by decide +kernel)) (hts (.instanceMethod yX4_init) (by decide +kernel)) rfl (by decide +kernel) ⟨Nat.le_of_ble_eq_true rfl, Nat.le_of_ble_eq_true rfl⟩) ⟨ax_fbW, ax_prW hPc hKc hDc hS hFc hE⟩ rfl rfl hl.1 rfl (lv_room (Nat.le_of_ble_eq_true rfl)) dL_law_4 ⟨Nat.le_of_ble_eq_true rfl, Nat.le_of_ble_eq_true rfl⟩) hS (fun q _ h9 => hFc q h9) hFc (fun u_4  t H locs ht hvm hw_3 hB hz1 hk1 hS => ?_)
  obtain ⟨xs_5, xp_6, xl_7, xn_8, xm_9, xr_10, xw_11, xt_12, cS_13, cP_14, cn_15, cm_16, cw_17, ct_18⟩ := u_4
  obtain ⟨hP1, hK1, hD1⟩ := hB
  rw [ht] at hP1
  have hK1 := va_K.moved hvm.symm hK1
  obtain ⟨hP, hD⟩ := va_join (wr := []) (w1 := [(q_1, .inr (8, [.ref xs_5, .ref xp_6, .int 0, .int 0, .ref xl_7, .ref xr_10])), (xs_5, .inl (cS_13, 3, .inr (.inr (.inr (.inr (fun _ => none)))))), (xp_6, .inl (cP_14, 8, .inr (.inr (.inr (.inr (fun _ => none)))))), (xl_7, .inr (4, [.ref xn_8, .ref xm_9])), (xn_8, .inl (cn_15, 64, .inr (.inl (fun _ => 0)))), (xm_9, .inl (cm_16, 64, .inr (.inl (fun _ => 0)))), (xr_10, .inr (6, [.ref xw_11, .ref xt_12])), (xw_11, .inl (cw_17, 8, .inr (.inl (fun _ => 0)))), (xt_12, .inl (ct_18, 8, .inr (.inl (fun _ => 0))))]) hP hD [0] [] rfl rfl (by decide) (by decide) hk1 hFc hP1 hD1
  have hK := hK.app hK1
  have hK := hK.sub (tys' := [(cS_13, .object "Diffractory$Source"), (cP_14, .object "Diffractory$Part"), (cn_15, .long), (cm_16, .long), (cw_17, .long), (ct_18, .long)]) [0, 1, 2, 3, 4, 5] rfl
  have hP : va_P (dC, dI) vwCl [(q_1, .inr (8, [.ref xs_5, .ref xp_6, .int 0, .int 0, .ref xl_7, .ref xr_10])), (xs_5, .inl (cS_13, 3, .inr (.inr (.inr (.inr (fun _ => none)))))), (xp_6, .inl (cP_14, 8, .inr (.inr (.inr (.inr (fun _ => none)))))), (xl_7, .inr (4, [.ref xn_8, .ref xm_9])), (xn_8, .inl (cn_15, 64, .inr (.inl (fun _ => 0)))), (xm_9, .inl (cm_16, 64, .inr (.inl (fun _ => 0)))), (xr_10, .inr (6, [.ref xw_11, .ref xt_12])), (xw_11, .inl (cw_17, 8, .inr (.inl (fun _ => 0)))), (xt_12, .inl (ct_18, 8, .inr (.inl (fun _ => 0))))] H := hP
  have hD : va_D A [(q_1, .inr (8, [.ref xs_5, .ref xp_6, .int 0, .int 0, .ref xl_7, .ref xr_10])), (xs_5, .inl (cS_13, 3, .inr (.inr (.inr (.inr (fun _ => none)))))), (xp_6, .inl (cP_14, 8, .inr (.inr (.inr (.inr (fun _ => none)))))), (xl_7, .inr (4, [.ref xn_8, .ref xm_9])), (xn_8, .inl (cn_15, 64, .inr (.inl (fun _ => 0)))), (xm_9, .inl (cm_16, 64, .inr (.inl (fun _ => 0)))), (xr_10, .inr (6, [.ref xw_11, .ref xt_12])), (xw_11, .inl (cw_17, 8, .inr (.inl (fun _ => 0)))), (xt_12, .inl (ct_18, 8, .inr (.inl (fun _ => 0))))] := hD
  refine lv_astore_n (lv' := [(1, .ref q_1), (0, .ref b)]) hx hb dL_law_7 rfl hl (by decide) rfl (fun ls hl => ?_)
  refine va_new (ci := 11) (fs := [.int 0, .null, .null, .int 0]) (C := RX7) (T := TX7) (N := 4) hx hb hts (by decide +kernel) tyX7 tyX7_ok hown (hts (.classLink RL 99 RX7) (by decide +kernel)) (hts (.instantiable RX7 4) (by decide +kernel)) (hts (.initialized RX7) (by decide +kernel)) hK hP hD hS hA rfl (fun j hj => by rcases (show j = 0 ∨ j = 1 ∨ j = 2 ∨ j = 3 by omega) with rfl | rfl | rfl | rfl <;> rfl) (Nat.le_of_ble_eq_true rfl) (Nat.le_of_ble_eq_true rfl) dL_law_8 (fun q_19 H hP hD hS => ?_)
  have hP : va_P (dC, dI) vwCl [(q_1, .inr (8, [.ref xs_5, .ref xp_6, .int 0, .int 0, .ref xl_7, .ref xr_10])), (xs_5, .inl (cS_13, 3, .inr (.inr (.inr (.inr (fun _ => none)))))), (xp_6, .inl (cP_14, 8, .inr (.inr (.inr (.inr (fun _ => none)))))), (xl_7, .inr (4, [.ref xn_8, .ref xm_9])), (xn_8, .inl (cn_15, 64, .inr (.inl (fun _ => 0)))), (xm_9, .inl (cm_16, 64, .inr (.inl (fun _ => 0)))), (xr_10, .inr (6, [.ref xw_11, .ref xt_12])), (xw_11, .inl (cw_17, 8, .inr (.inl (fun _ => 0)))), (xt_12, .inl (ct_18, 8, .inr (.inl (fun _ => 0)))), (q_19, .inr (11, [.int 0, .null, .null, .int 0]))] H := hP
  have hD : va_D A [(q_1, .inr (8, [.ref xs_5, .ref xp_6, .int 0, .int 0, .ref xl_7, .ref xr_10])), (xs_5, .inl (cS_13, 3, .inr (.inr (.inr (.inr (fun _ => none)))))), (xp_6, .inl (cP_14, 8, .inr (.inr (.inr (.inr (fun _ => none)))))), (xl_7, .inr (4, [.ref xn_8, .ref xm_9])), (xn_8, .inl (cn_15, 64, .inr (.inl (fun _ => 0)))), (xm_9, .inl (cm_16, 64, .inr (.inl (fun _ => 0)))), (xr_10, .inr (6, [.ref xw_11, .ref xt_12])), (xw_11, .inl (cw_17, 8, .inr (.inl (fun _ => 0)))), (xt_12, .inl (ct_18, 8, .inr (.inl (fun _ => 0)))), (q_19, .inr (11, [.int 0, .null, .null, .int 0]))] := hD
  refine lv_dup hx hb dL_law_11 rfl ?_
  have hPc := hP.sub (ws' := [(q_19, .inr (11, [.int 0, .null, .null, .int 0]))]) [9] rfl
  have hKc := hK.sub (tys' := []) [] rfl
  have hDc := hD.sub (ws' := [(q_19, .inr (11, [.int 0, .null, .null, .int 0]))]) [9] (by decide) rfl
  have hFc := va_free (wc := [(q_19, .inr (11, [.int 0, .null, .null, .int 0]))]) hD hS hA [9] rfl
  refine va_callv (va_runI (As := []) (rest := [.ref q_19]) ⟨hx, hb, hml, hown, hts⟩ (c_X7_init l dC dI q_19 sa ta H.size) (cwI 0 hts gl_X7_init rfl rfl rfl (hts (.initialized RX7) (by decide +kernel)) (hts (.methodLink RL 101 yX7_init) (by decide +kernel)) (hts (.instanceMethod yX7_init) (by decide +kernel)) rfl (by decide +kernel) ⟨Nat.le_of_ble_eq_true rfl, Nat.le_of_ble_eq_true rfl⟩) ⟨ax_fbW, ax_prW hPc hKc hDc hS hFc hE⟩ rfl rfl hl.1 rfl (lv_room (Nat.le_of_ble_eq_true rfl)) dL_law_12 ⟨Nat.le_of_ble_eq_true rfl, Nat.le_of_ble_eq_true rfl⟩) hS (fun q _ h9 => hFc q h9) hFc (fun u_22  t H locs ht hvm hw_21 hB hz1 hk1 hS => ?_)
  obtain ⟨ys_23, yp_24⟩ := u_22
  obtain ⟨hP1, hK1, hD1⟩ := hB
  rw [ht] at hP1
  have hK1 := va_K.moved hvm.symm hK1
  obtain ⟨hP, hD⟩ := va_join (wr := [(q_1, .inr (8, [.ref xs_5, .ref xp_6, .int 0, .int 0, .ref xl_7, .ref xr_10])), (xs_5, .inl (cS_13, 3, .inr (.inr (.inr (.inr (fun _ => none)))))), (xp_6, .inl (cP_14, 8, .inr (.inr (.inr (.inr (fun _ => none)))))), (xl_7, .inr (4, [.ref xn_8, .ref xm_9])), (xn_8, .inl (cn_15, 64, .inr (.inl (fun _ => 0)))), (xm_9, .inl (cm_16, 64, .inr (.inl (fun _ => 0)))), (xr_10, .inr (6, [.ref xw_11, .ref xt_12])), (xw_11, .inl (cw_17, 8, .inr (.inl (fun _ => 0)))), (xt_12, .inl (ct_18, 8, .inr (.inl (fun _ => 0))))]) (w1 := [(q_19, .inr (11, [.int 0, .ref ys_23, .ref yp_24, .int 0])), (ys_23, .inr (3, [.int 0, .ref (ta 4), .int 0])), (yp_24, .inr (3, [.int 0, .ref (ta 4), .int 0]))]) hP hD [9] [0, 1, 2, 3, 4, 5, 6, 7, 8] rfl rfl (by decide) (by decide) hk1 hFc hP1 hD1
  have hP : va_P (dC, dI) vwCl [(q_1, .inr (8, [.ref xs_5, .ref xp_6, .int 0, .int 0, .ref xl_7, .ref xr_10])), (xs_5, .inl (cS_13, 3, .inr (.inr (.inr (.inr (fun _ => none)))))), (xp_6, .inl (cP_14, 8, .inr (.inr (.inr (.inr (fun _ => none)))))), (xl_7, .inr (4, [.ref xn_8, .ref xm_9])), (xn_8, .inl (cn_15, 64, .inr (.inl (fun _ => 0)))), (xm_9, .inl (cm_16, 64, .inr (.inl (fun _ => 0)))), (xr_10, .inr (6, [.ref xw_11, .ref xt_12])), (xw_11, .inl (cw_17, 8, .inr (.inl (fun _ => 0)))), (xt_12, .inl (ct_18, 8, .inr (.inl (fun _ => 0)))), (q_19, .inr (11, [.int 0, .ref ys_23, .ref yp_24, .int 0])), (ys_23, .inr (3, [.int 0, .ref (ta 4), .int 0])), (yp_24, .inr (3, [.int 0, .ref (ta 4), .int 0]))] H := hP
  have hD : va_D A [(q_1, .inr (8, [.ref xs_5, .ref xp_6, .int 0, .int 0, .ref xl_7, .ref xr_10])), (xs_5, .inl (cS_13, 3, .inr (.inr (.inr (.inr (fun _ => none)))))), (xp_6, .inl (cP_14, 8, .inr (.inr (.inr (.inr (fun _ => none)))))), (xl_7, .inr (4, [.ref xn_8, .ref xm_9])), (xn_8, .inl (cn_15, 64, .inr (.inl (fun _ => 0)))), (xm_9, .inl (cm_16, 64, .inr (.inl (fun _ => 0)))), (xr_10, .inr (6, [.ref xw_11, .ref xt_12])), (xw_11, .inl (cw_17, 8, .inr (.inl (fun _ => 0)))), (xt_12, .inl (ct_18, 8, .inr (.inl (fun _ => 0)))), (q_19, .inr (11, [.int 0, .ref ys_23, .ref yp_24, .int 0])), (ys_23, .inr (3, [.int 0, .ref (ta 4), .int 0])), (yp_24, .inr (3, [.int 0, .ref (ta 4), .int 0]))] := hD
  refine lv_astore_n (lv' := [(2, .ref q_19), (1, .ref q_1), (0, .ref b)]) hx hb dL_law_15 rfl hl (by decide) rfl (fun ls hl => ?_)
  refine lv_iconst (v := 1) hx hb dL_law_16 (by decide) ?_
  refine va_newa (atype := .long) (ty := .long) (N' := 1) (a0 := (1, .inr (.inl (fun _ => 0)))) hx hb (hts (.arrayClass .long) (by decide +kernel)) rfl hK hP hD hS hA (fun _ => rfl) (by decide) (by decide) (by decide) (Nat.le_of_ble_eq_true rfl) (Nat.le_of_ble_eq_true rfl) dL_law_17 (fun q_25 cA_26 H hK hP hD hS => ?_)
  have hP : va_P (dC, dI) vwCl [(q_1, .inr (8, [.ref xs_5, .ref xp_6, .int 0, .int 0, .ref xl_7, .ref xr_10])), (xs_5, .inl (cS_13, 3, .inr (.inr (.inr (.inr (fun _ => none)))))), (xp_6, .inl (cP_14, 8, .inr (.inr (.inr (.inr (fun _ => none)))))), (xl_7, .inr (4, [.ref xn_8, .ref xm_9])), (xn_8, .inl (cn_15, 64, .inr (.inl (fun _ => 0)))), (xm_9, .inl (cm_16, 64, .inr (.inl (fun _ => 0)))), (xr_10, .inr (6, [.ref xw_11, .ref xt_12])), (xw_11, .inl (cw_17, 8, .inr (.inl (fun _ => 0)))), (xt_12, .inl (ct_18, 8, .inr (.inl (fun _ => 0)))), (q_19, .inr (11, [.int 0, .ref ys_23, .ref yp_24, .int 0])), (ys_23, .inr (3, [.int 0, .ref (ta 4), .int 0])), (yp_24, .inr (3, [.int 0, .ref (ta 4), .int 0])), (q_25, .inl (cA_26, 1, .inr (.inl (fun _ => 0))))] H := hP
  have hD : va_D A [(q_1, .inr (8, [.ref xs_5, .ref xp_6, .int 0, .int 0, .ref xl_7, .ref xr_10])), (xs_5, .inl (cS_13, 3, .inr (.inr (.inr (.inr (fun _ => none)))))), (xp_6, .inl (cP_14, 8, .inr (.inr (.inr (.inr (fun _ => none)))))), (xl_7, .inr (4, [.ref xn_8, .ref xm_9])), (xn_8, .inl (cn_15, 64, .inr (.inl (fun _ => 0)))), (xm_9, .inl (cm_16, 64, .inr (.inl (fun _ => 0)))), (xr_10, .inr (6, [.ref xw_11, .ref xt_12])), (xw_11, .inl (cw_17, 8, .inr (.inl (fun _ => 0)))), (xt_12, .inl (ct_18, 8, .inr (.inl (fun _ => 0)))), (q_19, .inr (11, [.int 0, .ref ys_23, .ref yp_24, .int 0])), (ys_23, .inr (3, [.int 0, .ref (ta 4), .int 0])), (yp_24, .inr (3, [.int 0, .ref (ta 4), .int 0])), (q_25, .inl (cA_26, 1, .inr (.inl (fun _ => 0))))] := hD
  have hK : va_K (dC, dI) vwCl [(cS_13, .object "Diffractory$Source"), (cP_14, .object "Diffractory$Part"), (cn_15, .long), (cm_16, .long), (cw_17, .long), (ct_18, .long), (cA_26, .long)] s := hK
  refine lv_astore_n (lv' := [(3, .ref q_25), (2, .ref q_19), (1, .ref q_1), (0, .ref b)]) hx hb dL_law_19 rfl hl (by decide) rfl (fun ls hl => ?_)
  refine lv_iconst (v := 1) hx hb dL_law_20 (by decide) ?_
  refine va_newa (atype := .double) (ty := .double) (N' := 1) (a0 := (1, .inr (.inr (.inr (.inl (fun _ => 0)))))) hx hb (hts (.arrayClass .double) (by decide +kernel)) rfl hK hP hD hS hA (fun _ => rfl) (by decide) (by decide) (by decide) (Nat.le_of_ble_eq_true rfl) (Nat.le_of_ble_eq_true rfl) dL_law_21 (fun q_27 cA_28 H hK hP hD hS => ?_)
  have hP : va_P (dC, dI) vwCl [(q_1, .inr (8, [.ref xs_5, .ref xp_6, .int 0, .int 0, .ref xl_7, .ref xr_10])), (xs_5, .inl (cS_13, 3, .inr (.inr (.inr (.inr (fun _ => none)))))), (xp_6, .inl (cP_14, 8, .inr (.inr (.inr (.inr (fun _ => none)))))), (xl_7, .inr (4, [.ref xn_8, .ref xm_9])), (xn_8, .inl (cn_15, 64, .inr (.inl (fun _ => 0)))), (xm_9, .inl (cm_16, 64, .inr (.inl (fun _ => 0)))), (xr_10, .inr (6, [.ref xw_11, .ref xt_12])), (xw_11, .inl (cw_17, 8, .inr (.inl (fun _ => 0)))), (xt_12, .inl (ct_18, 8, .inr (.inl (fun _ => 0)))), (q_19, .inr (11, [.int 0, .ref ys_23, .ref yp_24, .int 0])), (ys_23, .inr (3, [.int 0, .ref (ta 4), .int 0])), (yp_24, .inr (3, [.int 0, .ref (ta 4), .int 0])), (q_25, .inl (cA_26, 1, .inr (.inl (fun _ => 0)))), (q_27, .inl (cA_28, 1, .inr (.inr (.inr (.inl (fun _ => 0))))))] H := hP
  have hD : va_D A [(q_1, .inr (8, [.ref xs_5, .ref xp_6, .int 0, .int 0, .ref xl_7, .ref xr_10])), (xs_5, .inl (cS_13, 3, .inr (.inr (.inr (.inr (fun _ => none)))))), (xp_6, .inl (cP_14, 8, .inr (.inr (.inr (.inr (fun _ => none)))))), (xl_7, .inr (4, [.ref xn_8, .ref xm_9])), (xn_8, .inl (cn_15, 64, .inr (.inl (fun _ => 0)))), (xm_9, .inl (cm_16, 64, .inr (.inl (fun _ => 0)))), (xr_10, .inr (6, [.ref xw_11, .ref xt_12])), (xw_11, .inl (cw_17, 8, .inr (.inl (fun _ => 0)))), (xt_12, .inl (ct_18, 8, .inr (.inl (fun _ => 0)))), (q_19, .inr (11, [.int 0, .ref ys_23, .ref yp_24, .int 0])), (ys_23, .inr (3, [.int 0, .ref (ta 4), .int 0])), (yp_24, .inr (3, [.int 0, .ref (ta 4), .int 0])), (q_25, .inl (cA_26, 1, .inr (.inl (fun _ => 0)))), (q_27, .inl (cA_28, 1, .inr (.inr (.inr (.inl (fun _ => 0))))))] := hD
  have hK : va_K (dC, dI) vwCl [(cS_13, .object "Diffractory$Source"), (cP_14, .object "Diffractory$Part"), (cn_15, .long), (cm_16, .long), (cw_17, .long), (ct_18, .long), (cA_26, .long), (cA_28, .double)] s := hK
  refine lv_astore (lv' := [(4, .ref q_27), (3, .ref q_25), (2, .ref q_19), (1, .ref q_1), (0, .ref b)]) hx hb dL_law_23 hl (by decide) rfl (fun ls hl => ?_)
  refine lv_iconst (v := 0) hx hb dL_law_25 (by decide) ?_
  refine lv_istore (lv' := [(5, .int 0), (4, .ref q_27), (3, .ref q_25), (2, .ref q_19), (1, .ref q_1), (0, .ref b)]) hx hb dL_law_26 hl (by decide) rfl (fun ls hl => ?_)
  refine lv_iload hx hb dL_law_28 (lv_at hl 0 rfl) ?_
  refine lv_aload_n hx hb dL_law_30 rfl (lv_at hl 5 rfl) ?_
  refine va_slen hx hb hX hbl hbA hS dL_law_31 ?_
  refine ax_i (y := 2) rfl ?_
  refine lv_iconst (v := 5) hx hb dL_law_32 (by decide) ?_
  refine lv_isub hx hb dL_law_33 ?_
  refine ax_i (y := (-3)) (by decide) ?_
  refine lv_icmp_gt (tgt := 1863) hx hb dL_law_34 (by decide) (fun _ => ?_) (fun h9 => absurd (by decide) h9)
  refine lv_iconst (v := 1) hx hb dL_law_1863 (by decide) ?_
  refine va_forget (fun q hq => by have h9 := hS.2.2 q hq; rw [hAd] at h9; exact h9) ?_
  refine W.widen (k := 600002) (n := 7302232) (Nat.le_of_ble_eq_true rfl) (Nat.le_of_ble_eq_true rfl) ?_
  refine W.base ?_
  exact lw_ret (Drawn.sameBut.refl s.drawn lw_cs) hx hb hr hlocks dL_law_1864

set_option maxHeartbeats 4000000 in
set_option maxRecDepth 100000 in
theorem law_all3 {p : Program} {e : Env} {s : State} {m : MethodId} {below : List Frame} {meth : Method} {c : Code} (l : Launch) (hlt : l.stackTraces = false) {b : Nat} {xs : Nat → Int32} (C0 : lw_At p s m meth c b 3 xs) : W p l e room_1 s m #[Value.ref b] below meth c s.heap [] 0 0 (lw_Z below #[Value.ref b] s) (entryFrame m ([Value.ref b] : List Value).toArray 9) := by
  obtain ⟨hx, hb, hr, hml, hown, hts, hX, hbl, hlocks, hgv⟩ := id C0
  obtain ⟨A, hAd⟩ : ∃ A : Nat → Prop, A = fun q => s.heap.size ≤ q := ⟨_, rfl⟩
  have hA : ∀ q : Nat, s.heap.size ≤ q → A q := fun q h => by rw [hAd]; exact h
  have hbA : ¬ A b := by rw [hAd]; exact Nat.not_le.mpr hbl
  obtain ⟨c0, i0, hKn0⟩ := u_known (C := RJ0) (T := TJ0) (N := 4) (n := 4) hts in_J0 (hts (.instantiable RJ0 4) (by decide +kernel))
  obtain ⟨c1, i1, hKn1⟩ := u_known (C := RJ4) (T := TJ4) (N := 4) (n := 4) hts in_J4 (hts (.instantiable RJ4 4) (by decide +kernel))
  obtain ⟨c2, i2, hKn2⟩ := u_known (C := RJx00060) (T := TJx00060) (N := 6) (n := 6) hts in_Jx00060 (hts (.instantiable RJx00060 6) (by decide +kernel))
  obtain ⟨c3, i3, hKn3⟩ := u_known (C := RJx4a65c) (T := TJx4a65c) (N := 3) (n := 3) hts in_Jx4a65c (hts (.instantiable RJx4a65c 3) (by decide +kernel))
  obtain ⟨c4, i4, hKn4⟩ := u_known (C := RX0) (T := TX0) (N := 2) (n := 2) hts in_X0 (hts (.instantiable RX0 2) (by decide +kernel))
  obtain ⟨c5, i5, hKn5⟩ := u_known (C := RX1) (T := TX1) (N := 6) (n := 6) hts in_X1 (hts (.instantiable RX1 6) (by decide +kernel))
  obtain ⟨c6, i6, hKn6⟩ := u_known (C := RX2) (T := TX2) (N := 2) (n := 2) hts in_X2 (hts (.instantiable RX2 2) (by decide +kernel))
  obtain ⟨c7, i7, hKn7⟩ := u_known (C := RX3) (T := TX3) (N := 3) (n := 3) hts in_X3 (hts (.instantiable RX3 3) (by decide +kernel))
  obtain ⟨c8, i8, hKn8⟩ := u_known (C := RX4) (T := TX4) (N := 6) (n := 6) hts in_X4 (hts (.instantiable RX4 6) (by decide +kernel))
  obtain ⟨c9, i9, hKn9⟩ := u_known (C := RX5) (T := TX5) (N := 6) (n := 6) hts in_X5 (hts (.instantiable RX5 6) (by decide +kernel))
  obtain ⟨c10, i10, hKn10⟩ := u_known (C := RX6) (T := TX6) (N := 3) (n := 3) hts in_X6 (hts (.instantiable RX6 3) (by decide +kernel))
  obtain ⟨c11, i11, hKn11⟩ := u_known (C := RX7) (T := TX7) (N := 4) (n := 4) hts in_X7 (hts (.instantiable RX7 4) (by decide +kernel))
  obtain ⟨dC, dI, hKc⟩ : ∃ (dC : Nat → ClassId) (dI : Nat → Nat → Nat), ∀ (k : Nat) (q : vw_C), vwCl[k]? = some q → u_Kn s q.1 q.2.1 q.2.2 (dC k) (dI k) := by
    refine ⟨fun k => match k with | 0 => c0 | 1 => c1 | 2 => c2 | 3 => c3 | 4 => c4 | 5 => c5 | 6 => c6 | 7 => c7 | 8 => c8 | 9 => c9 | 10 => c10 | _ => c11, fun k => match k with | 0 => i0 | 1 => i1 | 2 => i2 | 3 => i3 | 4 => i4 | 5 => i5 | 6 => i6 | 7 => i7 | 8 => i8 | 9 => i9 | 10 => i10 | _ => i11, ?_⟩
    intro k q hq
    match k, hq with
    | 0, hq => cases hq; exact hKn0
    | 1, hq => cases hq; exact hKn1
    | 2, hq => cases hq; exact hKn2
    | 3, hq => cases hq; exact hKn3
    | 4, hq => cases hq; exact hKn4
    | 5, hq => cases hq; exact hKn5
    | 6, hq => cases hq; exact hKn6
    | 7, hq => cases hq; exact hKn7
    | 8, hq => cases hq; exact hKn8
    | 9, hq => cases hq; exact hKn9
    | 10, hq => cases hq; exact hKn10
    | 11, hq => cases hq; exact hKn11
    | k + 12, hq => simp [vwCl] at hq
  have hS : va_S A s.heap s.heap [] := va_S.rf
  have hK : va_K (dC, dI) vwCl [] s := ⟨hKc, fun k q h => by simp at h⟩
  have hP : va_P (dC, dI) vwCl [] s.heap := fun k q h => by simp at h
  have hD : va_D A [] := ⟨fun i j p q h => by simp at h, fun k q h => by simp at h⟩
  obtain ⟨sa, ta, hE⟩ := ax_S_start (A := A) hts hgv (fun a h => by rw [hAd]; exact Nat.not_le.mpr h)
  have hl := lv_entry ([.ref b]) (n := 9) (Nat.le_of_ble_eq_true rfl)
  rw [lg_entry_eq]
  generalize (lg_sl ([.ref b]) ++ List.replicate (9 - (lg_sl ([.ref b])).length) Slot.unset).toArray = ls at hl ⊢
  have hl : lv_has ls 9 [(0, .ref b)] := hl
  refine va_new (ci := 8) (fs := [.null, .null, .int 0, .int 0, .null, .null]) (C := RX4) (T := TX4) (N := 6) hx hb hts (by decide +kernel) tyX4 tyX4_ok hown (hts (.classLink RL 8 RX4) (by decide +kernel)) (hts (.instantiable RX4 6) (by decide +kernel)) (hts (.initialized RX4) (by decide +kernel)) hK hP hD hS hA rfl (fun j hj => by rcases (show j = 0 ∨ j = 1 ∨ j = 2 ∨ j = 3 ∨ j = 4 ∨ j = 5 by omega) with rfl | rfl | rfl | rfl | rfl | rfl <;> rfl) (Nat.le_of_ble_eq_true rfl) (Nat.le_of_ble_eq_true rfl) dL_law_0 (fun q_1 H hP hD hS => ?_)
  have hP : va_P (dC, dI) vwCl [(q_1, .inr (8, [.null, .null, .int 0, .int 0, .null, .null]))] H := hP
  have hD : va_D A [(q_1, .inr (8, [.null, .null, .int 0, .int 0, .null, .null]))] := hD
  refine lv_dup hx hb dL_law_3 rfl ?_
  have hPc := hP.sub (ws' := [(q_1, .inr (8, [.null, .null, .int 0, .int 0, .null, .null]))]) [0] rfl
  have hKc := hK.sub (tys' := []) [] rfl
  have hDc := hD.sub (ws' := [(q_1, .inr (8, [.null, .null, .int 0, .int 0, .null, .null]))]) [0] (by decide) rfl
  have hFc := va_free (wc := [(q_1, .inr (8, [.null, .null, .int 0, .int 0, .null, .null]))]) hD hS hA [0] rfl
  refine va_callv (va_runI (As := []) (rest := [.ref q_1]) ⟨hx, hb, hml, hown, hts⟩ (c_X4_init l dC dI q_1 sa ta H.size) (cwI 0 hts gl_X4_init rfl rfl rfl (hts (.initialized RX4) (by decide +kernel)) (hts (.methodLink RL 98 yX4_init) (by decide +kernel)) (hts (.instanceMethod yX4_init) (by decide +kernel)) rfl (by decide +kernel) ⟨Nat.le_of_ble_eq_true rfl, Nat.le_of_ble_eq_true rfl⟩) ⟨ax_fbW, ax_prW hPc hKc hDc hS hFc hE⟩ rfl rfl hl.1 rfl (lv_room (Nat.le_of_ble_eq_true rfl)) dL_law_4 ⟨Nat.le_of_ble_eq_true rfl, Nat.le_of_ble_eq_true rfl⟩) hS (fun q _ h9 => hFc q h9) hFc (fun u_4  t H locs ht hvm hw_3 hB hz1 hk1 hS => ?_)
  obtain ⟨xs_5, xp_6, xl_7, xn_8, xm_9, xr_10, xw_11, xt_12, cS_13, cP_14, cn_15, cm_16, cw_17, ct_18⟩ := u_4
  obtain ⟨hP1, hK1, hD1⟩ := hB
  rw [ht] at hP1
  have hK1 := va_K.moved hvm.symm hK1
  obtain ⟨hP, hD⟩ := va_join (wr := []) (w1 := [(q_1, .inr (8, [.ref xs_5, .ref xp_6, .int 0, .int 0, .ref xl_7, .ref xr_10])), (xs_5, .inl (cS_13, 3, .inr (.inr (.inr (.inr (fun _ => none)))))), (xp_6, .inl (cP_14, 8, .inr (.inr (.inr (.inr (fun _ => none)))))), (xl_7, .inr (4, [.ref xn_8, .ref xm_9])), (xn_8, .inl (cn_15, 64, .inr (.inl (fun _ => 0)))), (xm_9, .inl (cm_16, 64, .inr (.inl (fun _ => 0)))), (xr_10, .inr (6, [.ref xw_11, .ref xt_12])), (xw_11, .inl (cw_17, 8, .inr (.inl (fun _ => 0)))), (xt_12, .inl (ct_18, 8, .inr (.inl (fun _ => 0))))]) hP hD [0] [] rfl rfl (by decide) (by decide) hk1 hFc hP1 hD1
  have hK := hK.app hK1
  have hK := hK.sub (tys' := [(cS_13, .object "Diffractory$Source"), (cP_14, .object "Diffractory$Part"), (cn_15, .long), (cm_16, .long), (cw_17, .long), (ct_18, .long)]) [0, 1, 2, 3, 4, 5] rfl
  have hP : va_P (dC, dI) vwCl [(q_1, .inr (8, [.ref xs_5, .ref xp_6, .int 0, .int 0, .ref xl_7, .ref xr_10])), (xs_5, .inl (cS_13, 3, .inr (.inr (.inr (.inr (fun _ => none)))))), (xp_6, .inl (cP_14, 8, .inr (.inr (.inr (.inr (fun _ => none)))))), (xl_7, .inr (4, [.ref xn_8, .ref xm_9])), (xn_8, .inl (cn_15, 64, .inr (.inl (fun _ => 0)))), (xm_9, .inl (cm_16, 64, .inr (.inl (fun _ => 0)))), (xr_10, .inr (6, [.ref xw_11, .ref xt_12])), (xw_11, .inl (cw_17, 8, .inr (.inl (fun _ => 0)))), (xt_12, .inl (ct_18, 8, .inr (.inl (fun _ => 0))))] H := hP
  have hD : va_D A [(q_1, .inr (8, [.ref xs_5, .ref xp_6, .int 0, .int 0, .ref xl_7, .ref xr_10])), (xs_5, .inl (cS_13, 3, .inr (.inr (.inr (.inr (fun _ => none)))))), (xp_6, .inl (cP_14, 8, .inr (.inr (.inr (.inr (fun _ => none)))))), (xl_7, .inr (4, [.ref xn_8, .ref xm_9])), (xn_8, .inl (cn_15, 64, .inr (.inl (fun _ => 0)))), (xm_9, .inl (cm_16, 64, .inr (.inl (fun _ => 0)))), (xr_10, .inr (6, [.ref xw_11, .ref xt_12])), (xw_11, .inl (cw_17, 8, .inr (.inl (fun _ => 0)))), (xt_12, .inl (ct_18, 8, .inr (.inl (fun _ => 0))))] := hD
  refine lv_astore_n (lv' := [(1, .ref q_1), (0, .ref b)]) hx hb dL_law_7 rfl hl (by decide) rfl (fun ls hl => ?_)
  refine va_new (ci := 11) (fs := [.int 0, .null, .null, .int 0]) (C := RX7) (T := TX7) (N := 4) hx hb hts (by decide +kernel) tyX7 tyX7_ok hown (hts (.classLink RL 99 RX7) (by decide +kernel)) (hts (.instantiable RX7 4) (by decide +kernel)) (hts (.initialized RX7) (by decide +kernel)) hK hP hD hS hA rfl (fun j hj => by rcases (show j = 0 ∨ j = 1 ∨ j = 2 ∨ j = 3 by omega) with rfl | rfl | rfl | rfl <;> rfl) (Nat.le_of_ble_eq_true rfl) (Nat.le_of_ble_eq_true rfl) dL_law_8 (fun q_19 H hP hD hS => ?_)
  have hP : va_P (dC, dI) vwCl [(q_1, .inr (8, [.ref xs_5, .ref xp_6, .int 0, .int 0, .ref xl_7, .ref xr_10])), (xs_5, .inl (cS_13, 3, .inr (.inr (.inr (.inr (fun _ => none)))))), (xp_6, .inl (cP_14, 8, .inr (.inr (.inr (.inr (fun _ => none)))))), (xl_7, .inr (4, [.ref xn_8, .ref xm_9])), (xn_8, .inl (cn_15, 64, .inr (.inl (fun _ => 0)))), (xm_9, .inl (cm_16, 64, .inr (.inl (fun _ => 0)))), (xr_10, .inr (6, [.ref xw_11, .ref xt_12])), (xw_11, .inl (cw_17, 8, .inr (.inl (fun _ => 0)))), (xt_12, .inl (ct_18, 8, .inr (.inl (fun _ => 0)))), (q_19, .inr (11, [.int 0, .null, .null, .int 0]))] H := hP
  have hD : va_D A [(q_1, .inr (8, [.ref xs_5, .ref xp_6, .int 0, .int 0, .ref xl_7, .ref xr_10])), (xs_5, .inl (cS_13, 3, .inr (.inr (.inr (.inr (fun _ => none)))))), (xp_6, .inl (cP_14, 8, .inr (.inr (.inr (.inr (fun _ => none)))))), (xl_7, .inr (4, [.ref xn_8, .ref xm_9])), (xn_8, .inl (cn_15, 64, .inr (.inl (fun _ => 0)))), (xm_9, .inl (cm_16, 64, .inr (.inl (fun _ => 0)))), (xr_10, .inr (6, [.ref xw_11, .ref xt_12])), (xw_11, .inl (cw_17, 8, .inr (.inl (fun _ => 0)))), (xt_12, .inl (ct_18, 8, .inr (.inl (fun _ => 0)))), (q_19, .inr (11, [.int 0, .null, .null, .int 0]))] := hD
  refine lv_dup hx hb dL_law_11 rfl ?_
  have hPc := hP.sub (ws' := [(q_19, .inr (11, [.int 0, .null, .null, .int 0]))]) [9] rfl
  have hKc := hK.sub (tys' := []) [] rfl
  have hDc := hD.sub (ws' := [(q_19, .inr (11, [.int 0, .null, .null, .int 0]))]) [9] (by decide) rfl
  have hFc := va_free (wc := [(q_19, .inr (11, [.int 0, .null, .null, .int 0]))]) hD hS hA [9] rfl
  refine va_callv (va_runI (As := []) (rest := [.ref q_19]) ⟨hx, hb, hml, hown, hts⟩ (c_X7_init l dC dI q_19 sa ta H.size) (cwI 0 hts gl_X7_init rfl rfl rfl (hts (.initialized RX7) (by decide +kernel)) (hts (.methodLink RL 101 yX7_init) (by decide +kernel)) (hts (.instanceMethod yX7_init) (by decide +kernel)) rfl (by decide +kernel) ⟨Nat.le_of_ble_eq_true rfl, Nat.le_of_ble_eq_true rfl⟩) ⟨ax_fbW, ax_prW hPc hKc hDc hS hFc hE⟩ rfl rfl hl.1 rfl (lv_room (Nat.le_of_ble_eq_true rfl)) dL_law_12 ⟨Nat.le_of_ble_eq_true rfl, Nat.le_of_ble_eq_true rfl⟩) hS (fun q _ h9 => hFc q h9) hFc (fun u_22  t H locs ht hvm hw_21 hB hz1 hk1 hS => ?_)
  obtain ⟨ys_23, yp_24⟩ := u_22
  obtain ⟨hP1, hK1, hD1⟩ := hB
  rw [ht] at hP1
  have hK1 := va_K.moved hvm.symm hK1
  obtain ⟨hP, hD⟩ := va_join (wr := [(q_1, .inr (8, [.ref xs_5, .ref xp_6, .int 0, .int 0, .ref xl_7, .ref xr_10])), (xs_5, .inl (cS_13, 3, .inr (.inr (.inr (.inr (fun _ => none)))))), (xp_6, .inl (cP_14, 8, .inr (.inr (.inr (.inr (fun _ => none)))))), (xl_7, .inr (4, [.ref xn_8, .ref xm_9])), (xn_8, .inl (cn_15, 64, .inr (.inl (fun _ => 0)))), (xm_9, .inl (cm_16, 64, .inr (.inl (fun _ => 0)))), (xr_10, .inr (6, [.ref xw_11, .ref xt_12])), (xw_11, .inl (cw_17, 8, .inr (.inl (fun _ => 0)))), (xt_12, .inl (ct_18, 8, .inr (.inl (fun _ => 0))))]) (w1 := [(q_19, .inr (11, [.int 0, .ref ys_23, .ref yp_24, .int 0])), (ys_23, .inr (3, [.int 0, .ref (ta 4), .int 0])), (yp_24, .inr (3, [.int 0, .ref (ta 4), .int 0]))]) hP hD [9] [0, 1, 2, 3, 4, 5, 6, 7, 8] rfl rfl (by decide) (by decide) hk1 hFc hP1 hD1
  have hP : va_P (dC, dI) vwCl [(q_1, .inr (8, [.ref xs_5, .ref xp_6, .int 0, .int 0, .ref xl_7, .ref xr_10])), (xs_5, .inl (cS_13, 3, .inr (.inr (.inr (.inr (fun _ => none)))))), (xp_6, .inl (cP_14, 8, .inr (.inr (.inr (.inr (fun _ => none)))))), (xl_7, .inr (4, [.ref xn_8, .ref xm_9])), (xn_8, .inl (cn_15, 64, .inr (.inl (fun _ => 0)))), (xm_9, .inl (cm_16, 64, .inr (.inl (fun _ => 0)))), (xr_10, .inr (6, [.ref xw_11, .ref xt_12])), (xw_11, .inl (cw_17, 8, .inr (.inl (fun _ => 0)))), (xt_12, .inl (ct_18, 8, .inr (.inl (fun _ => 0)))), (q_19, .inr (11, [.int 0, .ref ys_23, .ref yp_24, .int 0])), (ys_23, .inr (3, [.int 0, .ref (ta 4), .int 0])), (yp_24, .inr (3, [.int 0, .ref (ta 4), .int 0]))] H := hP
  have hD : va_D A [(q_1, .inr (8, [.ref xs_5, .ref xp_6, .int 0, .int 0, .ref xl_7, .ref xr_10])), (xs_5, .inl (cS_13, 3, .inr (.inr (.inr (.inr (fun _ => none)))))), (xp_6, .inl (cP_14, 8, .inr (.inr (.inr (.inr (fun _ => none)))))), (xl_7, .inr (4, [.ref xn_8, .ref xm_9])), (xn_8, .inl (cn_15, 64, .inr (.inl (fun _ => 0)))), (xm_9, .inl (cm_16, 64, .inr (.inl (fun _ => 0)))), (xr_10, .inr (6, [.ref xw_11, .ref xt_12])), (xw_11, .inl (cw_17, 8, .inr (.inl (fun _ => 0)))), (xt_12, .inl (ct_18, 8, .inr (.inl (fun _ => 0)))), (q_19, .inr (11, [.int 0, .ref ys_23, .ref yp_24, .int 0])), (ys_23, .inr (3, [.int 0, .ref (ta 4), .int 0])), (yp_24, .inr (3, [.int 0, .ref (ta 4), .int 0]))] := hD
  refine lv_astore_n (lv' := [(2, .ref q_19), (1, .ref q_1), (0, .ref b)]) hx hb dL_law_15 rfl hl (by decide) rfl (fun ls hl => ?_)
  refine lv_iconst (v := 1) hx hb dL_law_16 (by decide) ?_
  refine va_newa (atype := .long) (ty := .long) (N' := 1) (a0 := (1, .inr (.inl (fun _ => 0)))) hx hb (hts (.arrayClass .long) (by decide +kernel)) rfl hK hP hD hS hA (fun _ => rfl) (by decide) (by decide) (by decide) (Nat.le_of_ble_eq_true rfl) (Nat.le_of_ble_eq_true rfl) dL_law_17 (fun q_25 cA_26 H hK hP hD hS => ?_)
  have hP : va_P (dC, dI) vwCl [(q_1, .inr (8, [.ref xs_5, .ref xp_6, .int 0, .int 0, .ref xl_7, .ref xr_10])), (xs_5, .inl (cS_13, 3, .inr (.inr (.inr (.inr (fun _ => none)))))), (xp_6, .inl (cP_14, 8, .inr (.inr (.inr (.inr (fun _ => none)))))), (xl_7, .inr (4, [.ref xn_8, .ref xm_9])), (xn_8, .inl (cn_15, 64, .inr (.inl (fun _ => 0)))), (xm_9, .inl (cm_16, 64, .inr (.inl (fun _ => 0)))), (xr_10, .inr (6, [.ref xw_11, .ref xt_12])), (xw_11, .inl (cw_17, 8, .inr (.inl (fun _ => 0)))), (xt_12, .inl (ct_18, 8, .inr (.inl (fun _ => 0)))), (q_19, .inr (11, [.int 0, .ref ys_23, .ref yp_24, .int 0])), (ys_23, .inr (3, [.int 0, .ref (ta 4), .int 0])), (yp_24, .inr (3, [.int 0, .ref (ta 4), .int 0])), (q_25, .inl (cA_26, 1, .inr (.inl (fun _ => 0))))] H := hP
  have hD : va_D A [(q_1, .inr (8, [.ref xs_5, .ref xp_6, .int 0, .int 0, .ref xl_7, .ref xr_10])), (xs_5, .inl (cS_13, 3, .inr (.inr (.inr (.inr (fun _ => none)))))), (xp_6, .inl (cP_14, 8, .inr (.inr (.inr (.inr (fun _ => none)))))), (xl_7, .inr (4, [.ref xn_8, .ref xm_9])), (xn_8, .inl (cn_15, 64, .inr (.inl (fun _ => 0)))), (xm_9, .inl (cm_16, 64, .inr (.inl (fun _ => 0)))), (xr_10, .inr (6, [.ref xw_11, .ref xt_12])), (xw_11, .inl (cw_17, 8, .inr (.inl (fun _ => 0)))), (xt_12, .inl (ct_18, 8, .inr (.inl (fun _ => 0)))), (q_19, .inr (11, [.int 0, .ref ys_23, .ref yp_24, .int 0])), (ys_23, .inr (3, [.int 0, .ref (ta 4), .int 0])), (yp_24, .inr (3, [.int 0, .ref (ta 4), .int 0])), (q_25, .inl (cA_26, 1, .inr (.inl (fun _ => 0))))] := hD
  have hK : va_K (dC, dI) vwCl [(cS_13, .object "Diffractory$Source"), (cP_14, .object "Diffractory$Part"), (cn_15, .long), (cm_16, .long), (cw_17, .long), (ct_18, .long), (cA_26, .long)] s := hK
  refine lv_astore_n (lv' := [(3, .ref q_25), (2, .ref q_19), (1, .ref q_1), (0, .ref b)]) hx hb dL_law_19 rfl hl (by decide) rfl (fun ls hl => ?_)
  refine lv_iconst (v := 1) hx hb dL_law_20 (by decide) ?_
  refine va_newa (atype := .double) (ty := .double) (N' := 1) (a0 := (1, .inr (.inr (.inr (.inl (fun _ => 0)))))) hx hb (hts (.arrayClass .double) (by decide +kernel)) rfl hK hP hD hS hA (fun _ => rfl) (by decide) (by decide) (by decide) (Nat.le_of_ble_eq_true rfl) (Nat.le_of_ble_eq_true rfl) dL_law_21 (fun q_27 cA_28 H hK hP hD hS => ?_)
  have hP : va_P (dC, dI) vwCl [(q_1, .inr (8, [.ref xs_5, .ref xp_6, .int 0, .int 0, .ref xl_7, .ref xr_10])), (xs_5, .inl (cS_13, 3, .inr (.inr (.inr (.inr (fun _ => none)))))), (xp_6, .inl (cP_14, 8, .inr (.inr (.inr (.inr (fun _ => none)))))), (xl_7, .inr (4, [.ref xn_8, .ref xm_9])), (xn_8, .inl (cn_15, 64, .inr (.inl (fun _ => 0)))), (xm_9, .inl (cm_16, 64, .inr (.inl (fun _ => 0)))), (xr_10, .inr (6, [.ref xw_11, .ref xt_12])), (xw_11, .inl (cw_17, 8, .inr (.inl (fun _ => 0)))), (xt_12, .inl (ct_18, 8, .inr (.inl (fun _ => 0)))), (q_19, .inr (11, [.int 0, .ref ys_23, .ref yp_24, .int 0])), (ys_23, .inr (3, [.int 0, .ref (ta 4), .int 0])), (yp_24, .inr (3, [.int 0, .ref (ta 4), .int 0])), (q_25, .inl (cA_26, 1, .inr (.inl (fun _ => 0)))), (q_27, .inl (cA_28, 1, .inr (.inr (.inr (.inl (fun _ => 0))))))] H := hP
  have hD : va_D A [(q_1, .inr (8, [.ref xs_5, .ref xp_6, .int 0, .int 0, .ref xl_7, .ref xr_10])), (xs_5, .inl (cS_13, 3, .inr (.inr (.inr (.inr (fun _ => none)))))), (xp_6, .inl (cP_14, 8, .inr (.inr (.inr (.inr (fun _ => none)))))), (xl_7, .inr (4, [.ref xn_8, .ref xm_9])), (xn_8, .inl (cn_15, 64, .inr (.inl (fun _ => 0)))), (xm_9, .inl (cm_16, 64, .inr (.inl (fun _ => 0)))), (xr_10, .inr (6, [.ref xw_11, .ref xt_12])), (xw_11, .inl (cw_17, 8, .inr (.inl (fun _ => 0)))), (xt_12, .inl (ct_18, 8, .inr (.inl (fun _ => 0)))), (q_19, .inr (11, [.int 0, .ref ys_23, .ref yp_24, .int 0])), (ys_23, .inr (3, [.int 0, .ref (ta 4), .int 0])), (yp_24, .inr (3, [.int 0, .ref (ta 4), .int 0])), (q_25, .inl (cA_26, 1, .inr (.inl (fun _ => 0)))), (q_27, .inl (cA_28, 1, .inr (.inr (.inr (.inl (fun _ => 0))))))] := hD
  have hK : va_K (dC, dI) vwCl [(cS_13, .object "Diffractory$Source"), (cP_14, .object "Diffractory$Part"), (cn_15, .long), (cm_16, .long), (cw_17, .long), (ct_18, .long), (cA_26, .long), (cA_28, .double)] s := hK
  refine lv_astore (lv' := [(4, .ref q_27), (3, .ref q_25), (2, .ref q_19), (1, .ref q_1), (0, .ref b)]) hx hb dL_law_23 hl (by decide) rfl (fun ls hl => ?_)
  refine lv_iconst (v := 0) hx hb dL_law_25 (by decide) ?_
  refine lv_istore (lv' := [(5, .int 0), (4, .ref q_27), (3, .ref q_25), (2, .ref q_19), (1, .ref q_1), (0, .ref b)]) hx hb dL_law_26 hl (by decide) rfl (fun ls hl => ?_)
  refine lv_iload hx hb dL_law_28 (lv_at hl 0 rfl) ?_
  refine lv_aload_n hx hb dL_law_30 rfl (lv_at hl 5 rfl) ?_
  refine va_slen hx hb hX hbl hbA hS dL_law_31 ?_
  refine ax_i (y := 3) rfl ?_
  refine lv_iconst (v := 5) hx hb dL_law_32 (by decide) ?_
  refine lv_isub hx hb dL_law_33 ?_
  refine ax_i (y := (-2)) (by decide) ?_
  refine lv_icmp_gt (tgt := 1863) hx hb dL_law_34 (by decide) (fun _ => ?_) (fun h9 => absurd (by decide) h9)
  refine lv_iconst (v := 1) hx hb dL_law_1863 (by decide) ?_
  refine va_forget (fun q hq => by have h9 := hS.2.2 q hq; rw [hAd] at h9; exact h9) ?_
  refine W.widen (k := 600002) (n := 7302232) (Nat.le_of_ble_eq_true rfl) (Nat.le_of_ble_eq_true rfl) ?_
  refine W.base ?_
  exact lw_ret (Drawn.sameBut.refl s.drawn lw_cs) hx hb hr hlocks dL_law_1864

set_option maxHeartbeats 4000000 in
set_option maxRecDepth 100000 in
theorem law_all4 {p : Program} {e : Env} {s : State} {m : MethodId} {below : List Frame} {meth : Method} {c : Code} (l : Launch) (hlt : l.stackTraces = false) {b : Nat} {xs : Nat → Int32} (C0 : lw_At p s m meth c b 4 xs) : W p l e room_1 s m #[Value.ref b] below meth c s.heap [] 0 0 (lw_Z below #[Value.ref b] s) (entryFrame m ([Value.ref b] : List Value).toArray 9) := by
  obtain ⟨hx, hb, hr, hml, hown, hts, hX, hbl, hlocks, hgv⟩ := id C0
  obtain ⟨A, hAd⟩ : ∃ A : Nat → Prop, A = fun q => s.heap.size ≤ q := ⟨_, rfl⟩
  have hA : ∀ q : Nat, s.heap.size ≤ q → A q := fun q h => by rw [hAd]; exact h
  have hbA : ¬ A b := by rw [hAd]; exact Nat.not_le.mpr hbl
  obtain ⟨c0, i0, hKn0⟩ := u_known (C := RJ0) (T := TJ0) (N := 4) (n := 4) hts in_J0 (hts (.instantiable RJ0 4) (by decide +kernel))
  obtain ⟨c1, i1, hKn1⟩ := u_known (C := RJ4) (T := TJ4) (N := 4) (n := 4) hts in_J4 (hts (.instantiable RJ4 4) (by decide +kernel))
  obtain ⟨c2, i2, hKn2⟩ := u_known (C := RJx00060) (T := TJx00060) (N := 6) (n := 6) hts in_Jx00060 (hts (.instantiable RJx00060 6) (by decide +kernel))
  obtain ⟨c3, i3, hKn3⟩ := u_known (C := RJx4a65c) (T := TJx4a65c) (N := 3) (n := 3) hts in_Jx4a65c (hts (.instantiable RJx4a65c 3) (by decide +kernel))
  obtain ⟨c4, i4, hKn4⟩ := u_known (C := RX0) (T := TX0) (N := 2) (n := 2) hts in_X0 (hts (.instantiable RX0 2) (by decide +kernel))
  obtain ⟨c5, i5, hKn5⟩ := u_known (C := RX1) (T := TX1) (N := 6) (n := 6) hts in_X1 (hts (.instantiable RX1 6) (by decide +kernel))
  obtain ⟨c6, i6, hKn6⟩ := u_known (C := RX2) (T := TX2) (N := 2) (n := 2) hts in_X2 (hts (.instantiable RX2 2) (by decide +kernel))
  obtain ⟨c7, i7, hKn7⟩ := u_known (C := RX3) (T := TX3) (N := 3) (n := 3) hts in_X3 (hts (.instantiable RX3 3) (by decide +kernel))
  obtain ⟨c8, i8, hKn8⟩ := u_known (C := RX4) (T := TX4) (N := 6) (n := 6) hts in_X4 (hts (.instantiable RX4 6) (by decide +kernel))
  obtain ⟨c9, i9, hKn9⟩ := u_known (C := RX5) (T := TX5) (N := 6) (n := 6) hts in_X5 (hts (.instantiable RX5 6) (by decide +kernel))
  obtain ⟨c10, i10, hKn10⟩ := u_known (C := RX6) (T := TX6) (N := 3) (n := 3) hts in_X6 (hts (.instantiable RX6 3) (by decide +kernel))
  obtain ⟨c11, i11, hKn11⟩ := u_known (C := RX7) (T := TX7) (N := 4) (n := 4) hts in_X7 (hts (.instantiable RX7 4) (by decide +kernel))
  obtain ⟨dC, dI, hKc⟩ : ∃ (dC : Nat → ClassId) (dI : Nat → Nat → Nat), ∀ (k : Nat) (q : vw_C), vwCl[k]? = some q → u_Kn s q.1 q.2.1 q.2.2 (dC k) (dI k) := by
    refine ⟨fun k => match k with | 0 => c0 | 1 => c1 | 2 => c2 | 3 => c3 | 4 => c4 | 5 => c5 | 6 => c6 | 7 => c7 | 8 => c8 | 9 => c9 | 10 => c10 | _ => c11, fun k => match k with | 0 => i0 | 1 => i1 | 2 => i2 | 3 => i3 | 4 => i4 | 5 => i5 | 6 => i6 | 7 => i7 | 8 => i8 | 9 => i9 | 10 => i10 | _ => i11, ?_⟩
    intro k q hq
    match k, hq with
    | 0, hq => cases hq; exact hKn0
    | 1, hq => cases hq; exact hKn1
    | 2, hq => cases hq; exact hKn2
    | 3, hq => cases hq; exact hKn3
    | 4, hq => cases hq; exact hKn4
    | 5, hq => cases hq; exact hKn5
    | 6, hq => cases hq; exact hKn6
    | 7, hq => cases hq; exact hKn7
    | 8, hq => cases hq; exact hKn8
    | 9, hq => cases hq; exact hKn9
    | 10, hq => cases hq; exact hKn10
    | 11, hq => cases hq; exact hKn11
    | k + 12, hq => simp [vwCl] at hq
  have hS : va_S A s.heap s.heap [] := va_S.rf
  have hK : va_K (dC, dI) vwCl [] s := ⟨hKc, fun k q h => by simp at h⟩
  have hP : va_P (dC, dI) vwCl [] s.heap := fun k q h => by simp at h
  have hD : va_D A [] := ⟨fun i j p q h => by simp at h, fun k q h => by simp at h⟩
  obtain ⟨sa, ta, hE⟩ := ax_S_start (A := A) hts hgv (fun a h => by rw [hAd]; exact Nat.not_le.mpr h)
  have hl := lv_entry ([.ref b]) (n := 9) (Nat.le_of_ble_eq_true rfl)
  rw [lg_entry_eq]
  generalize (lg_sl ([.ref b]) ++ List.replicate (9 - (lg_sl ([.ref b])).length) Slot.unset).toArray = ls at hl ⊢
  have hl : lv_has ls 9 [(0, .ref b)] := hl
  refine va_new (ci := 8) (fs := [.null, .null, .int 0, .int 0, .null, .null]) (C := RX4) (T := TX4) (N := 6) hx hb hts (by decide +kernel) tyX4 tyX4_ok hown (hts (.classLink RL 8 RX4) (by decide +kernel)) (hts (.instantiable RX4 6) (by decide +kernel)) (hts (.initialized RX4) (by decide +kernel)) hK hP hD hS hA rfl (fun j hj => by rcases (show j = 0 ∨ j = 1 ∨ j = 2 ∨ j = 3 ∨ j = 4 ∨ j = 5 by omega) with rfl | rfl | rfl | rfl | rfl | rfl <;> rfl) (Nat.le_of_ble_eq_true rfl) (Nat.le_of_ble_eq_true rfl) dL_law_0 (fun q_1 H hP hD hS => ?_)
  have hP : va_P (dC, dI) vwCl [(q_1, .inr (8, [.null, .null, .int 0, .int 0, .null, .null]))] H := hP
  have hD : va_D A [(q_1, .inr (8, [.null, .null, .int 0, .int 0, .null, .null]))] := hD
  refine lv_dup hx hb dL_law_3 rfl ?_
  have hPc := hP.sub (ws' := [(q_1, .inr (8, [.null, .null, .int 0, .int 0, .null, .null]))]) [0] rfl
  have hKc := hK.sub (tys' := []) [] rfl
  have hDc := hD.sub (ws' := [(q_1, .inr (8, [.null, .null, .int 0, .int 0, .null, .null]))]) [0] (by decide) rfl
  have hFc := va_free (wc := [(q_1, .inr (8, [.null, .null, .int 0, .int 0, .null, .null]))]) hD hS hA [0] rfl
  refine va_callv (va_runI (As := []) (rest := [.ref q_1]) ⟨hx, hb, hml, hown, hts⟩ (c_X4_init l dC dI q_1 sa ta H.size) (cwI 0 hts gl_X4_init rfl rfl rfl (hts (.initialized RX4) (by decide +kernel)) (hts (.methodLink RL 98 yX4_init) (by decide +kernel)) (hts (.instanceMethod yX4_init) (by decide +kernel)) rfl (by decide +kernel) ⟨Nat.le_of_ble_eq_true rfl, Nat.le_of_ble_eq_true rfl⟩) ⟨ax_fbW, ax_prW hPc hKc hDc hS hFc hE⟩ rfl rfl hl.1 rfl (lv_room (Nat.le_of_ble_eq_true rfl)) dL_law_4 ⟨Nat.le_of_ble_eq_true rfl, Nat.le_of_ble_eq_true rfl⟩) hS (fun q _ h9 => hFc q h9) hFc (fun u_4  t H locs ht hvm hw_3 hB hz1 hk1 hS => ?_)
  obtain ⟨xs_5, xp_6, xl_7, xn_8, xm_9, xr_10, xw_11, xt_12, cS_13, cP_14, cn_15, cm_16, cw_17, ct_18⟩ := u_4
  obtain ⟨hP1, hK1, hD1⟩ := hB
  rw [ht] at hP1
  have hK1 := va_K.moved hvm.symm hK1
  obtain ⟨hP, hD⟩ := va_join (wr := []) (w1 := [(q_1, .inr (8, [.ref xs_5, .ref xp_6, .int 0, .int 0, .ref xl_7, .ref xr_10])), (xs_5, .inl (cS_13, 3, .inr (.inr (.inr (.inr (fun _ => none)))))), (xp_6, .inl (cP_14, 8, .inr (.inr (.inr (.inr (fun _ => none)))))), (xl_7, .inr (4, [.ref xn_8, .ref xm_9])), (xn_8, .inl (cn_15, 64, .inr (.inl (fun _ => 0)))), (xm_9, .inl (cm_16, 64, .inr (.inl (fun _ => 0)))), (xr_10, .inr (6, [.ref xw_11, .ref xt_12])), (xw_11, .inl (cw_17, 8, .inr (.inl (fun _ => 0)))), (xt_12, .inl (ct_18, 8, .inr (.inl (fun _ => 0))))]) hP hD [0] [] rfl rfl (by decide) (by decide) hk1 hFc hP1 hD1
  have hK := hK.app hK1
  have hK := hK.sub (tys' := [(cS_13, .object "Diffractory$Source"), (cP_14, .object "Diffractory$Part"), (cn_15, .long), (cm_16, .long), (cw_17, .long), (ct_18, .long)]) [0, 1, 2, 3, 4, 5] rfl
  have hP : va_P (dC, dI) vwCl [(q_1, .inr (8, [.ref xs_5, .ref xp_6, .int 0, .int 0, .ref xl_7, .ref xr_10])), (xs_5, .inl (cS_13, 3, .inr (.inr (.inr (.inr (fun _ => none)))))), (xp_6, .inl (cP_14, 8, .inr (.inr (.inr (.inr (fun _ => none)))))), (xl_7, .inr (4, [.ref xn_8, .ref xm_9])), (xn_8, .inl (cn_15, 64, .inr (.inl (fun _ => 0)))), (xm_9, .inl (cm_16, 64, .inr (.inl (fun _ => 0)))), (xr_10, .inr (6, [.ref xw_11, .ref xt_12])), (xw_11, .inl (cw_17, 8, .inr (.inl (fun _ => 0)))), (xt_12, .inl (ct_18, 8, .inr (.inl (fun _ => 0))))] H := hP
  have hD : va_D A [(q_1, .inr (8, [.ref xs_5, .ref xp_6, .int 0, .int 0, .ref xl_7, .ref xr_10])), (xs_5, .inl (cS_13, 3, .inr (.inr (.inr (.inr (fun _ => none)))))), (xp_6, .inl (cP_14, 8, .inr (.inr (.inr (.inr (fun _ => none)))))), (xl_7, .inr (4, [.ref xn_8, .ref xm_9])), (xn_8, .inl (cn_15, 64, .inr (.inl (fun _ => 0)))), (xm_9, .inl (cm_16, 64, .inr (.inl (fun _ => 0)))), (xr_10, .inr (6, [.ref xw_11, .ref xt_12])), (xw_11, .inl (cw_17, 8, .inr (.inl (fun _ => 0)))), (xt_12, .inl (ct_18, 8, .inr (.inl (fun _ => 0))))] := hD
  refine lv_astore_n (lv' := [(1, .ref q_1), (0, .ref b)]) hx hb dL_law_7 rfl hl (by decide) rfl (fun ls hl => ?_)
  refine va_new (ci := 11) (fs := [.int 0, .null, .null, .int 0]) (C := RX7) (T := TX7) (N := 4) hx hb hts (by decide +kernel) tyX7 tyX7_ok hown (hts (.classLink RL 99 RX7) (by decide +kernel)) (hts (.instantiable RX7 4) (by decide +kernel)) (hts (.initialized RX7) (by decide +kernel)) hK hP hD hS hA rfl (fun j hj => by rcases (show j = 0 ∨ j = 1 ∨ j = 2 ∨ j = 3 by omega) with rfl | rfl | rfl | rfl <;> rfl) (Nat.le_of_ble_eq_true rfl) (Nat.le_of_ble_eq_true rfl) dL_law_8 (fun q_19 H hP hD hS => ?_)
  have hP : va_P (dC, dI) vwCl [(q_1, .inr (8, [.ref xs_5, .ref xp_6, .int 0, .int 0, .ref xl_7, .ref xr_10])), (xs_5, .inl (cS_13, 3, .inr (.inr (.inr (.inr (fun _ => none)))))), (xp_6, .inl (cP_14, 8, .inr (.inr (.inr (.inr (fun _ => none)))))), (xl_7, .inr (4, [.ref xn_8, .ref xm_9])), (xn_8, .inl (cn_15, 64, .inr (.inl (fun _ => 0)))), (xm_9, .inl (cm_16, 64, .inr (.inl (fun _ => 0)))), (xr_10, .inr (6, [.ref xw_11, .ref xt_12])), (xw_11, .inl (cw_17, 8, .inr (.inl (fun _ => 0)))), (xt_12, .inl (ct_18, 8, .inr (.inl (fun _ => 0)))), (q_19, .inr (11, [.int 0, .null, .null, .int 0]))] H := hP
  have hD : va_D A [(q_1, .inr (8, [.ref xs_5, .ref xp_6, .int 0, .int 0, .ref xl_7, .ref xr_10])), (xs_5, .inl (cS_13, 3, .inr (.inr (.inr (.inr (fun _ => none)))))), (xp_6, .inl (cP_14, 8, .inr (.inr (.inr (.inr (fun _ => none)))))), (xl_7, .inr (4, [.ref xn_8, .ref xm_9])), (xn_8, .inl (cn_15, 64, .inr (.inl (fun _ => 0)))), (xm_9, .inl (cm_16, 64, .inr (.inl (fun _ => 0)))), (xr_10, .inr (6, [.ref xw_11, .ref xt_12])), (xw_11, .inl (cw_17, 8, .inr (.inl (fun _ => 0)))), (xt_12, .inl (ct_18, 8, .inr (.inl (fun _ => 0)))), (q_19, .inr (11, [.int 0, .null, .null, .int 0]))] := hD
  refine lv_dup hx hb dL_law_11 rfl ?_
  have hPc := hP.sub (ws' := [(q_19, .inr (11, [.int 0, .null, .null, .int 0]))]) [9] rfl
  have hKc := hK.sub (tys' := []) [] rfl
  have hDc := hD.sub (ws' := [(q_19, .inr (11, [.int 0, .null, .null, .int 0]))]) [9] (by decide) rfl
  have hFc := va_free (wc := [(q_19, .inr (11, [.int 0, .null, .null, .int 0]))]) hD hS hA [9] rfl
  refine va_callv (va_runI (As := []) (rest := [.ref q_19]) ⟨hx, hb, hml, hown, hts⟩ (c_X7_init l dC dI q_19 sa ta H.size) (cwI 0 hts gl_X7_init rfl rfl rfl (hts (.initialized RX7) (by decide +kernel)) (hts (.methodLink RL 101 yX7_init) (by decide +kernel)) (hts (.instanceMethod yX7_init) (by decide +kernel)) rfl (by decide +kernel) ⟨Nat.le_of_ble_eq_true rfl, Nat.le_of_ble_eq_true rfl⟩) ⟨ax_fbW, ax_prW hPc hKc hDc hS hFc hE⟩ rfl rfl hl.1 rfl (lv_room (Nat.le_of_ble_eq_true rfl)) dL_law_12 ⟨Nat.le_of_ble_eq_true rfl, Nat.le_of_ble_eq_true rfl⟩) hS (fun q _ h9 => hFc q h9) hFc (fun u_22  t H locs ht hvm hw_21 hB hz1 hk1 hS => ?_)
  obtain ⟨ys_23, yp_24⟩ := u_22
  obtain ⟨hP1, hK1, hD1⟩ := hB
  rw [ht] at hP1
  have hK1 := va_K.moved hvm.symm hK1
  obtain ⟨hP, hD⟩ := va_join (wr := [(q_1, .inr (8, [.ref xs_5, .ref xp_6, .int 0, .int 0, .ref xl_7, .ref xr_10])), (xs_5, .inl (cS_13, 3, .inr (.inr (.inr (.inr (fun _ => none)))))), (xp_6, .inl (cP_14, 8, .inr (.inr (.inr (.inr (fun _ => none)))))), (xl_7, .inr (4, [.ref xn_8, .ref xm_9])), (xn_8, .inl (cn_15, 64, .inr (.inl (fun _ => 0)))), (xm_9, .inl (cm_16, 64, .inr (.inl (fun _ => 0)))), (xr_10, .inr (6, [.ref xw_11, .ref xt_12])), (xw_11, .inl (cw_17, 8, .inr (.inl (fun _ => 0)))), (xt_12, .inl (ct_18, 8, .inr (.inl (fun _ => 0))))]) (w1 := [(q_19, .inr (11, [.int 0, .ref ys_23, .ref yp_24, .int 0])), (ys_23, .inr (3, [.int 0, .ref (ta 4), .int 0])), (yp_24, .inr (3, [.int 0, .ref (ta 4), .int 0]))]) hP hD [9] [0, 1, 2, 3, 4, 5, 6, 7, 8] rfl rfl (by decide) (by decide) hk1 hFc hP1 hD1
  have hP : va_P (dC, dI) vwCl [(q_1, .inr (8, [.ref xs_5, .ref xp_6, .int 0, .int 0, .ref xl_7, .ref xr_10])), (xs_5, .inl (cS_13, 3, .inr (.inr (.inr (.inr (fun _ => none)))))), (xp_6, .inl (cP_14, 8, .inr (.inr (.inr (.inr (fun _ => none)))))), (xl_7, .inr (4, [.ref xn_8, .ref xm_9])), (xn_8, .inl (cn_15, 64, .inr (.inl (fun _ => 0)))), (xm_9, .inl (cm_16, 64, .inr (.inl (fun _ => 0)))), (xr_10, .inr (6, [.ref xw_11, .ref xt_12])), (xw_11, .inl (cw_17, 8, .inr (.inl (fun _ => 0)))), (xt_12, .inl (ct_18, 8, .inr (.inl (fun _ => 0)))), (q_19, .inr (11, [.int 0, .ref ys_23, .ref yp_24, .int 0])), (ys_23, .inr (3, [.int 0, .ref (ta 4), .int 0])), (yp_24, .inr (3, [.int 0, .ref (ta 4), .int 0]))] H := hP
  have hD : va_D A [(q_1, .inr (8, [.ref xs_5, .ref xp_6, .int 0, .int 0, .ref xl_7, .ref xr_10])), (xs_5, .inl (cS_13, 3, .inr (.inr (.inr (.inr (fun _ => none)))))), (xp_6, .inl (cP_14, 8, .inr (.inr (.inr (.inr (fun _ => none)))))), (xl_7, .inr (4, [.ref xn_8, .ref xm_9])), (xn_8, .inl (cn_15, 64, .inr (.inl (fun _ => 0)))), (xm_9, .inl (cm_16, 64, .inr (.inl (fun _ => 0)))), (xr_10, .inr (6, [.ref xw_11, .ref xt_12])), (xw_11, .inl (cw_17, 8, .inr (.inl (fun _ => 0)))), (xt_12, .inl (ct_18, 8, .inr (.inl (fun _ => 0)))), (q_19, .inr (11, [.int 0, .ref ys_23, .ref yp_24, .int 0])), (ys_23, .inr (3, [.int 0, .ref (ta 4), .int 0])), (yp_24, .inr (3, [.int 0, .ref (ta 4), .int 0]))] := hD
  refine lv_astore_n (lv' := [(2, .ref q_19), (1, .ref q_1), (0, .ref b)]) hx hb dL_law_15 rfl hl (by decide) rfl (fun ls hl => ?_)
  refine lv_iconst (v := 1) hx hb dL_law_16 (by decide) ?_
  refine va_newa (atype := .long) (ty := .long) (N' := 1) (a0 := (1, .inr (.inl (fun _ => 0)))) hx hb (hts (.arrayClass .long) (by decide +kernel)) rfl hK hP hD hS hA (fun _ => rfl) (by decide) (by decide) (by decide) (Nat.le_of_ble_eq_true rfl) (Nat.le_of_ble_eq_true rfl) dL_law_17 (fun q_25 cA_26 H hK hP hD hS => ?_)
  have hP : va_P (dC, dI) vwCl [(q_1, .inr (8, [.ref xs_5, .ref xp_6, .int 0, .int 0, .ref xl_7, .ref xr_10])), (xs_5, .inl (cS_13, 3, .inr (.inr (.inr (.inr (fun _ => none)))))), (xp_6, .inl (cP_14, 8, .inr (.inr (.inr (.inr (fun _ => none)))))), (xl_7, .inr (4, [.ref xn_8, .ref xm_9])), (xn_8, .inl (cn_15, 64, .inr (.inl (fun _ => 0)))), (xm_9, .inl (cm_16, 64, .inr (.inl (fun _ => 0)))), (xr_10, .inr (6, [.ref xw_11, .ref xt_12])), (xw_11, .inl (cw_17, 8, .inr (.inl (fun _ => 0)))), (xt_12, .inl (ct_18, 8, .inr (.inl (fun _ => 0)))), (q_19, .inr (11, [.int 0, .ref ys_23, .ref yp_24, .int 0])), (ys_23, .inr (3, [.int 0, .ref (ta 4), .int 0])), (yp_24, .inr (3, [.int 0, .ref (ta 4), .int 0])), (q_25, .inl (cA_26, 1, .inr (.inl (fun _ => 0))))] H := hP
  have hD : va_D A [(q_1, .inr (8, [.ref xs_5, .ref xp_6, .int 0, .int 0, .ref xl_7, .ref xr_10])), (xs_5, .inl (cS_13, 3, .inr (.inr (.inr (.inr (fun _ => none)))))), (xp_6, .inl (cP_14, 8, .inr (.inr (.inr (.inr (fun _ => none)))))), (xl_7, .inr (4, [.ref xn_8, .ref xm_9])), (xn_8, .inl (cn_15, 64, .inr (.inl (fun _ => 0)))), (xm_9, .inl (cm_16, 64, .inr (.inl (fun _ => 0)))), (xr_10, .inr (6, [.ref xw_11, .ref xt_12])), (xw_11, .inl (cw_17, 8, .inr (.inl (fun _ => 0)))), (xt_12, .inl (ct_18, 8, .inr (.inl (fun _ => 0)))), (q_19, .inr (11, [.int 0, .ref ys_23, .ref yp_24, .int 0])), (ys_23, .inr (3, [.int 0, .ref (ta 4), .int 0])), (yp_24, .inr (3, [.int 0, .ref (ta 4), .int 0])), (q_25, .inl (cA_26, 1, .inr (.inl (fun _ => 0))))] := hD
  have hK : va_K (dC, dI) vwCl [(cS_13, .object "Diffractory$Source"), (cP_14, .object "Diffractory$Part"), (cn_15, .long), (cm_16, .long), (cw_17, .long), (ct_18, .long), (cA_26, .long)] s := hK
  refine lv_astore_n (lv' := [(3, .ref q_25), (2, .ref q_19), (1, .ref q_1), (0, .ref b)]) hx hb dL_law_19 rfl hl (by decide) rfl (fun ls hl => ?_)
  refine lv_iconst (v := 1) hx hb dL_law_20 (by decide) ?_
  refine va_newa (atype := .double) (ty := .double) (N' := 1) (a0 := (1, .inr (.inr (.inr (.inl (fun _ => 0)))))) hx hb (hts (.arrayClass .double) (by decide +kernel)) rfl hK hP hD hS hA (fun _ => rfl) (by decide) (by decide) (by decide) (Nat.le_of_ble_eq_true rfl) (Nat.le_of_ble_eq_true rfl) dL_law_21 (fun q_27 cA_28 H hK hP hD hS => ?_)
  have hP : va_P (dC, dI) vwCl [(q_1, .inr (8, [.ref xs_5, .ref xp_6, .int 0, .int 0, .ref xl_7, .ref xr_10])), (xs_5, .inl (cS_13, 3, .inr (.inr (.inr (.inr (fun _ => none)))))), (xp_6, .inl (cP_14, 8, .inr (.inr (.inr (.inr (fun _ => none)))))), (xl_7, .inr (4, [.ref xn_8, .ref xm_9])), (xn_8, .inl (cn_15, 64, .inr (.inl (fun _ => 0)))), (xm_9, .inl (cm_16, 64, .inr (.inl (fun _ => 0)))), (xr_10, .inr (6, [.ref xw_11, .ref xt_12])), (xw_11, .inl (cw_17, 8, .inr (.inl (fun _ => 0)))), (xt_12, .inl (ct_18, 8, .inr (.inl (fun _ => 0)))), (q_19, .inr (11, [.int 0, .ref ys_23, .ref yp_24, .int 0])), (ys_23, .inr (3, [.int 0, .ref (ta 4), .int 0])), (yp_24, .inr (3, [.int 0, .ref (ta 4), .int 0])), (q_25, .inl (cA_26, 1, .inr (.inl (fun _ => 0)))), (q_27, .inl (cA_28, 1, .inr (.inr (.inr (.inl (fun _ => 0))))))] H := hP
  have hD : va_D A [(q_1, .inr (8, [.ref xs_5, .ref xp_6, .int 0, .int 0, .ref xl_7, .ref xr_10])), (xs_5, .inl (cS_13, 3, .inr (.inr (.inr (.inr (fun _ => none)))))), (xp_6, .inl (cP_14, 8, .inr (.inr (.inr (.inr (fun _ => none)))))), (xl_7, .inr (4, [.ref xn_8, .ref xm_9])), (xn_8, .inl (cn_15, 64, .inr (.inl (fun _ => 0)))), (xm_9, .inl (cm_16, 64, .inr (.inl (fun _ => 0)))), (xr_10, .inr (6, [.ref xw_11, .ref xt_12])), (xw_11, .inl (cw_17, 8, .inr (.inl (fun _ => 0)))), (xt_12, .inl (ct_18, 8, .inr (.inl (fun _ => 0)))), (q_19, .inr (11, [.int 0, .ref ys_23, .ref yp_24, .int 0])), (ys_23, .inr (3, [.int 0, .ref (ta 4), .int 0])), (yp_24, .inr (3, [.int 0, .ref (ta 4), .int 0])), (q_25, .inl (cA_26, 1, .inr (.inl (fun _ => 0)))), (q_27, .inl (cA_28, 1, .inr (.inr (.inr (.inl (fun _ => 0))))))] := hD
  have hK : va_K (dC, dI) vwCl [(cS_13, .object "Diffractory$Source"), (cP_14, .object "Diffractory$Part"), (cn_15, .long), (cm_16, .long), (cw_17, .long), (ct_18, .long), (cA_26, .long), (cA_28, .double)] s := hK
  refine lv_astore (lv' := [(4, .ref q_27), (3, .ref q_25), (2, .ref q_19), (1, .ref q_1), (0, .ref b)]) hx hb dL_law_23 hl (by decide) rfl (fun ls hl => ?_)
  refine lv_iconst (v := 0) hx hb dL_law_25 (by decide) ?_
  refine lv_istore (lv' := [(5, .int 0), (4, .ref q_27), (3, .ref q_25), (2, .ref q_19), (1, .ref q_1), (0, .ref b)]) hx hb dL_law_26 hl (by decide) rfl (fun ls hl => ?_)
  refine lv_iload hx hb dL_law_28 (lv_at hl 0 rfl) ?_
  refine lv_aload_n hx hb dL_law_30 rfl (lv_at hl 5 rfl) ?_
  refine va_slen hx hb hX hbl hbA hS dL_law_31 ?_
  refine ax_i (y := 4) rfl ?_
  refine lv_iconst (v := 5) hx hb dL_law_32 (by decide) ?_
  refine lv_isub hx hb dL_law_33 ?_
  refine ax_i (y := (-1)) (by decide) ?_
  refine lv_icmp_gt (tgt := 1863) hx hb dL_law_34 (by decide) (fun _ => ?_) (fun h9 => absurd (by decide) h9)
  refine lv_iconst (v := 1) hx hb dL_law_1863 (by decide) ?_
  refine va_forget (fun q hq => by have h9 := hS.2.2 q hq; rw [hAd] at h9; exact h9) ?_
  refine W.widen (k := 600002) (n := 7302232) (Nat.le_of_ble_eq_true rfl) (Nat.le_of_ble_eq_true rfl) ?_
  refine W.base ?_
  exact lw_ret (Drawn.sameBut.refl s.drawn lw_cs) hx hb hr hlocks dL_law_1864
