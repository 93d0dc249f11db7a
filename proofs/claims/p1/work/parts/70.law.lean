set_option maxHeartbeats 4000000 in
set_option maxRecDepth 100000 in
theorem law_c0 {p : Program} {e : Env} {s : State} {m : MethodId} {below : List Frame} {meth : Method} {c : Code} (l : Launch) (hlt : l.stackTraces = false) {dC : Nat → ClassId} {dI : Nat → Nat → Nat} {b : Nat} {xs : Nat → Int32} (C0 : lw_At p s m meth c b 5 xs) {A : Nat → Prop} (hAd : A = fun q => s.heap.size ≤ q) {sa ta : Nat → Nat} (hE : ax_S sa ta A s s.heap) {q_1 xs_5 xp_6 xl_7 xn_8 xm_9 xr_10 xw_11 xt_12 q_19 ys_23 yp_24 q_25 q_27 : Nat} {cS_13 cP_14 cn_15 cm_16 cw_17 ct_18 cA_26 cA_28 : ClassId} {H : Heap} {locs : List Loc} (hK : va_K (dC, dI) vwCl [(cS_13, .object "Diffractory$Source"), (cP_14, .object "Diffractory$Part"), (cn_15, .long), (cm_16, .long), (cw_17, .long), (ct_18, .long), (cA_26, .long), (cA_28, .double)] s) (hP : va_P (dC, dI) vwCl [(q_1, .inr (8, [.ref xs_5, .ref xp_6, .int 0, .int 0, .ref xl_7, .ref xr_10])), (xs_5, .inl (cS_13, 3, .inr (.inr (.inr (.inr (fun _ => none)))))), (xp_6, .inl (cP_14, 8, .inr (.inr (.inr (.inr (fun _ => none)))))), (xl_7, .inr (4, [.ref xn_8, .ref xm_9])), (xn_8, .inl (cn_15, 64, .inr (.inl (fun _ => 0)))), (xm_9, .inl (cm_16, 64, .inr (.inl (fun _ => 0)))), (xr_10, .inr (6, [.ref xw_11, .ref xt_12])), (xw_11, .inl (cw_17, 8, .inr (.inl (fun _ => 0)))), (xt_12, .inl (ct_18, 8, .inr (.inl (fun _ => 0)))), (q_19, .inr (11, [.int 0, .ref ys_23, .ref yp_24, .int 0])), (ys_23, .inr (3, [.int 0, .ref (ta 4), .int 0])), (yp_24, .inr (3, [.int 0, .ref (ta 4), .int 0])), (q_25, .inl (cA_26, 1, .inr (.inl (fun _ => 0)))), (q_27, .inl (cA_28, 1, .inr (.inr (.inr (.inl (fun _ => 0))))))] H) (hD : va_D A [(q_1, .inr (8, [.ref xs_5, .ref xp_6, .int 0, .int 0, .ref xl_7, .ref xr_10])), (xs_5, .inl (cS_13, 3, .inr (.inr (.inr (.inr (fun _ => none)))))), (xp_6, .inl (cP_14, 8, .inr (.inr (.inr (.inr (fun _ => none)))))), (xl_7, .inr (4, [.ref xn_8, .ref xm_9])), (xn_8, .inl (cn_15, 64, .inr (.inl (fun _ => 0)))), (xm_9, .inl (cm_16, 64, .inr (.inl (fun _ => 0)))), (xr_10, .inr (6, [.ref xw_11, .ref xt_12])), (xw_11, .inl (cw_17, 8, .inr (.inl (fun _ => 0)))), (xt_12, .inl (ct_18, 8, .inr (.inl (fun _ => 0)))), (q_19, .inr (11, [.int 0, .ref ys_23, .ref yp_24, .int 0])), (ys_23, .inr (3, [.int 0, .ref (ta 4), .int 0])), (yp_24, .inr (3, [.int 0, .ref (ta 4), .int 0])), (q_25, .inl (cA_26, 1, .inr (.inl (fun _ => 0)))), (q_27, .inl (cA_28, 1, .inr (.inr (.inr (.inl (fun _ => 0))))))]) (hS : va_S A s.heap H locs) {ls : Array Slot} (hl : lv_has ls 9 [(5, .int 0), (4, .ref q_27), (3, .ref q_25), (2, .ref q_19), (1, .ref q_1), (0, .ref b)]) : W p l e room_1 s m #[Value.ref b] below meth c H locs 14 177 (lw_Z below #[Value.ref b] s) (F0 m 160 ls []) := by
  obtain ⟨hx, hb, hr, hml, hown, hts, hX, hbl, hlocks, hgv⟩ := C0
  have hA : ∀ q : Nat, s.heap.size ≤ q → A q := fun q h => by rw [hAd]; exact h
  have hbA : ¬ A b := by rw [hAd]; exact Nat.not_le.mpr hbl
  refine lv_aload_n hx hb dL_law_160 rfl (lv_at hl 4 rfl) ?_
  refine lv_aload_n hx hb dL_law_161 rfl (lv_at hl 5 rfl) ?_
  refine lv_iload hx hb dL_law_162 (lv_at hl 0 rfl) ?_
  refine lv_iconst (v := 1) hx hb dL_law_164 (by decide) ?_
  refine lv_iadd hx hb dL_law_165 ?_
  refine ax_i (y := 1) (by decide) ?_
  refine va_sld hx hb hX hbl hbA hS (by unfold vp_in; decide) dL_law_166 ?_
  refine ax_i (y := xs 1) rfl ?_
  refine lv_aload_n hx hb dL_law_167 rfl (lv_at hl 5 rfl) ?_
  refine lv_iload hx hb dL_law_168 (lv_at hl 0 rfl) ?_
  refine lv_iconst (v := 2) hx hb dL_law_170 (by decide) ?_
  refine lv_iadd hx hb dL_law_171 ?_
  refine ax_i (y := 2) (by decide) ?_
  refine va_sld hx hb hX hbl hbA hS (by unfold vp_in; decide) dL_law_172 ?_
  refine ax_i (y := xs 2) rfl ?_
  refine lv_aload_n hx hb dL_law_173 rfl (lv_at hl 5 rfl) ?_
  refine lv_iload hx hb dL_law_174 (lv_at hl 0 rfl) ?_
  refine lv_iconst (v := 3) hx hb dL_law_176 (by decide) ?_
  refine lv_iadd hx hb dL_law_177 ?_
  refine ax_i (y := 3) (by decide) ?_
  refine va_sld hx hb hX hbl hbA hS (by unfold vp_in; decide) dL_law_178 ?_
  refine ax_i (y := xs 3) rfl ?_
  refine lv_aload_n hx hb dL_law_179 rfl (lv_at hl 2 rfl) ?_
  have hPc := hP.sub (ws' := [(q_1, .inr (8, [.ref xs_5, .ref xp_6, .int 0, .int 0, .ref xl_7, .ref xr_10])), (xs_5, .inl (cS_13, 3, .inr (.inr (.inr (.inr (fun _ => none)))))), (xp_6, .inl (cP_14, 8, .inr (.inr (.inr (.inr (fun _ => none)))))), (xl_7, .inr (4, [.ref xn_8, .ref xm_9])), (xn_8, .inl (cn_15, 64, .inr (.inl (fun _ => 0)))), (xm_9, .inl (cm_16, 64, .inr (.inl (fun _ => 0)))), (xr_10, .inr (6, [.ref xw_11, .ref xt_12])), (xw_11, .inl (cw_17, 8, .inr (.inl (fun _ => 0)))), (xt_12, .inl (ct_18, 8, .inr (.inl (fun _ => 0)))), (q_25, .inl (cA_26, 1, .inr (.inl (fun _ => 0))))]) [0, 1, 2, 3, 4, 5, 6, 7, 8, 12] rfl
  have hKc := hK.sub (tys' := [(cS_13, .object "Diffractory$Source"), (cP_14, .object "Diffractory$Part"), (cn_15, .long), (cm_16, .long), (cw_17, .long), (ct_18, .long), (cA_26, .long)]) [0, 1, 2, 3, 4, 5, 6] rfl
  have hDc := hD.sub (ws' := [(q_1, .inr (8, [.ref xs_5, .ref xp_6, .int 0, .int 0, .ref xl_7, .ref xr_10])), (xs_5, .inl (cS_13, 3, .inr (.inr (.inr (.inr (fun _ => none)))))), (xp_6, .inl (cP_14, 8, .inr (.inr (.inr (.inr (fun _ => none)))))), (xl_7, .inr (4, [.ref xn_8, .ref xm_9])), (xn_8, .inl (cn_15, 64, .inr (.inl (fun _ => 0)))), (xm_9, .inl (cm_16, 64, .inr (.inl (fun _ => 0)))), (xr_10, .inr (6, [.ref xw_11, .ref xt_12])), (xw_11, .inl (cw_17, 8, .inr (.inl (fun _ => 0)))), (xt_12, .inl (ct_18, 8, .inr (.inl (fun _ => 0)))), (q_25, .inl (cA_26, 1, .inr (.inl (fun _ => 0))))]) [0, 1, 2, 3, 4, 5, 6, 7, 8, 12] (by decide) rfl
  have hFc := va_free (wc := [(q_1, .inr (8, [.ref xs_5, .ref xp_6, .int 0, .int 0, .ref xl_7, .ref xr_10])), (xs_5, .inl (cS_13, 3, .inr (.inr (.inr (.inr (fun _ => none)))))), (xp_6, .inl (cP_14, 8, .inr (.inr (.inr (.inr (fun _ => none)))))), (xl_7, .inr (4, [.ref xn_8, .ref xm_9])), (xn_8, .inl (cn_15, 64, .inr (.inl (fun _ => 0)))), (xm_9, .inl (cm_16, 64, .inr (.inl (fun _ => 0)))), (xr_10, .inr (6, [.ref xw_11, .ref xt_12])), (xw_11, .inl (cw_17, 8, .inr (.inl (fun _ => 0)))), (xt_12, .inl (ct_18, 8, .inr (.inl (fun _ => 0)))), (q_25, .inl (cA_26, 1, .inr (.inl (fun _ => 0))))]) hD hS hA [0, 1, 2, 3, 4, 5, 6, 7, 8, 12] rfl
  refine va_calli (vx_runSW (As := [.ref q_1, .int (xs 1), .int (xs 2), .int (xs 3), .ref q_25]) (rest := []) ⟨hx, hb, hml, hown, hts⟩ (c_L_source l hlt dC dI q_1 xs_5 xp_6 xl_7 xn_8 xm_9 xr_10 xw_11 xt_12 q_25 cS_13 cP_14 cn_15 cm_16 cw_17 ct_18 cA_26 sa ta H.size (xs 1) (xs 2) (xs 3)) (vx_cwSW 5 hts gl_L_source rfl rfl rfl (by decide +kernel) ⟨Nat.le_of_ble_eq_true rfl, Nat.le_of_ble_eq_true rfl⟩) ⟨ax_fbW, ax_prW hPc hKc hDc hS hFc hE⟩ rfl rfl hl.1 rfl (lv_room (Nat.le_of_ble_eq_true rfl)) dL_law_180 ⟨Nat.le_of_ble_eq_true rfl, Nat.le_of_ble_eq_true rfl⟩) hS (fun q _ h9 => hFc q h9) hFc (fun r_29 u_31  t H locs ht hvm hw_30 hB hz1 hk1 hS => ?_)
  obtain ⟨of_32, rfl⟩ : ∃ z, z = u_31 := ⟨_, rfl⟩
  obtain ⟨hP1, hK1, hD1⟩ := hB
  rw [ht] at hP1
  have hK1 := va_K.moved hvm.symm hK1
  obtain ⟨hP, hD⟩ := va_join (wr := [(q_19, .inr (11, [.int 0, .ref ys_23, .ref yp_24, .int 0])), (ys_23, .inr (3, [.int 0, .ref (ta 4), .int 0])), (yp_24, .inr (3, [.int 0, .ref (ta 4), .int 0])), (q_27, .inl (cA_28, 1, .inr (.inr (.inr (.inl (fun _ => 0))))))]) (w1 := [(q_25, .inl (cA_26, 1, .inr (.inl of_32)))]) hP hD [0, 1, 2, 3, 4, 5, 6, 7, 8, 12] [9, 10, 11, 13] rfl rfl (by decide) (by decide) hk1 hFc hP1 hD1
  have hP : va_P (dC, dI) vwCl [(q_19, .inr (11, [.int 0, .ref ys_23, .ref yp_24, .int 0])), (ys_23, .inr (3, [.int 0, .ref (ta 4), .int 0])), (yp_24, .inr (3, [.int 0, .ref (ta 4), .int 0])), (q_27, .inl (cA_28, 1, .inr (.inr (.inr (.inl (fun _ => 0)))))), (q_25, .inl (cA_26, 1, .inr (.inl of_32)))] H := hP
  have hD : va_D A [(q_19, .inr (11, [.int 0, .ref ys_23, .ref yp_24, .int 0])), (ys_23, .inr (3, [.int 0, .ref (ta 4), .int 0])), (yp_24, .inr (3, [.int 0, .ref (ta 4), .int 0])), (q_27, .inl (cA_28, 1, .inr (.inr (.inr (.inl (fun _ => 0)))))), (q_25, .inl (cA_26, 1, .inr (.inl of_32)))] := hD
  rcases hw_30 with hw_30 | hw_30
  · refine ax_i (y := 0) hw_30.2.1 ?_
    refine lv_istore (lv' := [(6, .int 0), (5, .int 0), (4, .ref q_27), (3, .ref q_25), (2, .ref q_19), (1, .ref q_1), (0, .ref b)]) hx hb dL_law_183 hl (by decide) rfl (fun ls hl => ?_)
    refine lv_aload_n hx hb dL_law_185 rfl (lv_at hl 4 rfl) ?_
    refine lv_aload_n hx hb dL_law_186 rfl (lv_at hl 6 rfl) ?_
    refine lv_iload hx hb dL_law_187 (lv_at hl 1 rfl) ?_
    refine lv_iconst (v := 1) hx hb dL_law_189 (by decide) ?_
    refine lv_iadd hx hb dL_law_190 ?_
    refine ax_i (y := 1) (by decide) ?_
    refine va_sld hx hb hX hbl hbA hS (by unfold vp_in; decide) dL_law_191 ?_
    refine ax_i (y := xs 1) rfl ?_
    refine lv_aload_n hx hb dL_law_192 rfl (lv_at hl 6 rfl) ?_
    refine lv_iload hx hb dL_law_193 (lv_at hl 1 rfl) ?_
    refine lv_iconst (v := 2) hx hb dL_law_195 (by decide) ?_
    refine lv_iadd hx hb dL_law_196 ?_
    refine ax_i (y := 2) (by decide) ?_
    refine va_sld hx hb hX hbl hbA hS (by unfold vp_in; decide) dL_law_197 ?_
    refine ax_i (y := xs 2) rfl ?_
    refine lv_aload_n hx hb dL_law_198 rfl (lv_at hl 6 rfl) ?_
    refine lv_iload hx hb dL_law_199 (lv_at hl 1 rfl) ?_
    refine lv_iconst (v := 3) hx hb dL_law_201 (by decide) ?_
    refine lv_iadd hx hb dL_law_202 ?_
    refine ax_i (y := 3) (by decide) ?_
    refine va_sld hx hb hX hbl hbA hS (by unfold vp_in; decide) dL_law_203 ?_
    refine ax_i (y := xs 3) rfl ?_
    have hPc := hP.sub (ws' := [(q_19, .inr (11, [.int 0, .ref ys_23, .ref yp_24, .int 0])), (ys_23, .inr (3, [.int 0, .ref (ta 4), .int 0])), (yp_24, .inr (3, [.int 0, .ref (ta 4), .int 0]))]) [0, 1, 2] rfl
    have hKc := hK.sub (tys' := []) [] rfl
    have hDc := hD.sub (ws' := [(q_19, .inr (11, [.int 0, .ref ys_23, .ref yp_24, .int 0])), (ys_23, .inr (3, [.int 0, .ref (ta 4), .int 0])), (yp_24, .inr (3, [.int 0, .ref (ta 4), .int 0]))]) [0, 1, 2] (by decide) rfl
    have hFc := va_free (wc := [(q_19, .inr (11, [.int 0, .ref ys_23, .ref yp_24, .int 0])), (ys_23, .inr (3, [.int 0, .ref (ta 4), .int 0])), (yp_24, .inr (3, [.int 0, .ref (ta 4), .int 0]))]) hD hS hA [0, 1, 2] rfl
    refine va_calli (va_runV (As := [.int (xs 1), .int (xs 2), .int (xs 3)]) (rest := []) ⟨hx, hb, hml, hown, hts⟩ (c_X7_source l dC dI q_19 ys_23 yp_24 sa ta H.size 0 (xs 1) (xs 2) (xs 3)) (cwV 3 hts gl_X7_source rfl rfl rfl (by decide +kernel) ⟨Nat.le_of_ble_eq_true rfl, Nat.le_of_ble_eq_true rfl⟩) ⟨ax_fbW, va_recv hK hP (ci := 11) (q0 := 0) rfl rfl, ax_prW hPc hKc hDc hS hFc hE⟩ rfl rfl hl.1 rfl (lv_room (Nat.le_of_ble_eq_true rfl)) dL_law_204 ⟨Nat.le_of_ble_eq_true rfl, Nat.le_of_ble_eq_true rfl⟩) hS (fun q _ h9 => hFc q h9) hFc (fun r_33 u_35  t H locs ht hvm hw_34 hB hz1 hk1 hS => ?_)
    obtain ⟨th2_36, rfl⟩ : ∃ z, z = u_35 := ⟨_, rfl⟩
    obtain ⟨hP1, hK1, hD1⟩ := hB
    rw [ht] at hP1
    have hK1 := va_K.moved hvm.symm hK1
    obtain ⟨hP, hD⟩ := va_join (wr := [(q_27, .inl (cA_28, 1, .inr (.inr (.inr (.inl (fun _ => 0)))))), (q_25, .inl (cA_26, 1, .inr (.inl of_32)))]) (w1 := [(q_19, .inr (11, [.int th2_36, .ref ys_23, .ref yp_24, .int 0]))]) hP hD [0, 1, 2] [3, 4] rfl rfl (by decide) (by decide) hk1 hFc hP1 hD1
    have hP : va_P (dC, dI) vwCl [(q_27, .inl (cA_28, 1, .inr (.inr (.inr (.inl (fun _ => 0)))))), (q_25, .inl (cA_26, 1, .inr (.inl of_32))), (q_19, .inr (11, [.int th2_36, .ref ys_23, .ref yp_24, .int 0]))] H := hP
    have hD : va_D A [(q_27, .inl (cA_28, 1, .inr (.inr (.inr (.inl (fun _ => 0)))))), (q_25, .inl (cA_26, 1, .inr (.inl of_32))), (q_19, .inr (11, [.int th2_36, .ref ys_23, .ref yp_24, .int 0]))] := hD
    rcases hw_34 with hw_34 | hw_34
    · have e9 := hw_34.2.1
      subst e9
      refine ax_i (y := 0) hw_34.2.2 ?_
      refine lv_istore (lv' := [(7, .int 0), (6, .int 0), (5, .int 0), (4, .ref q_27), (3, .ref q_25), (2, .ref q_19), (1, .ref q_1), (0, .ref b)]) hx hb dL_law_207 hl (by decide) rfl (fun ls hl => ?_)
      refine lv_aload_n hx hb dL_law_209 rfl (lv_at hl 5 rfl) ?_
      have hPc := hP.sub (ws' := [(q_19, .inr (11, [.int 0, .ref ys_23, .ref yp_24, .int 0]))]) [2] rfl
      have hKc := hK.sub (tys' := []) [] rfl
      refine va_calli (va_runV (As := []) (rest := []) ⟨hx, hb, hml, hown, hts⟩ (c_X7_thrown l dC dI q_19 ys_23 yp_24 sa ta 0) (cwV 0 hts gl_X7_thrown rfl rfl rfl (by decide +kernel) ⟨Nat.le_of_ble_eq_true rfl, Nat.le_of_ble_eq_true rfl⟩) ⟨ax_fbR, va_recv hK hP (ci := 11) (q0 := 2) rfl rfl, ax_prR hPc hKc hS hE⟩ rfl rfl hl.1 rfl (lv_room (Nat.le_of_ble_eq_true rfl)) dL_law_210 ⟨Nat.le_of_ble_eq_true rfl, Nat.le_of_ble_eq_true rfl⟩) hS (fun _ _ h9 => h9.elim) (fun _ h9 => h9.elim) (fun r_37 u_39  t H locs ht hvm hw_38 hB hz1 hk1 hS => ?_)
      have hP := ax_keep hP (fun _ h9 => h9) hk1
      refine ax_i (y := 0) hw_38 ?_
      refine lv_iload hx hb dL_law_213 (lv_at hl 1 rfl) ?_
      refine lv_icmp_eq (tgt := 220) hx hb dL_law_215 (by decide) (fun _ => ?_) (fun h9 => absurd (by decide) h9)
      refine lv_iload hx hb dL_law_220 (lv_at hl 1 rfl) ?_
      refine lv_if_ne (tgt := 237) hx hb dL_law_222 (by decide) (fun h9 => absurd rfl h9) (fun _ => ?_)
      refine lv_aload_n hx hb dL_law_225 rfl (lv_at hl 4 rfl) ?_
      refine lv_iconst (v := 0) hx hb dL_law_226 (by decide) ?_
      refine va_lald hx hb hK hP 1 6 rfl rfl (by unfold vp_in; decide) dL_law_227 ?_
      refine ax_l (y := 0) hw_30.2.2 ?_
      refine lv_iload hx hb dL_law_228 (lv_at hl 0 rfl) ?_
      refine lv_i2l (v := 0) hx hb dL_law_230 (by decide) ?_
      refine W.lcmp hx hb dL_law_231 ?_
      refine ax_i (y := 0) (by decide) ?_
      refine lv_if_eq (tgt := 237) hx hb dL_law_232 (by decide) (fun _ => ?_) (fun h9 => absurd (by decide) h9)
      refine lv_goto (tgt := 1857) hx hb dL_law_237 (by decide) ?_
      refine lv_iinc (v := 5) (lv' := [(5, .int 5), (7, .int 0), (6, .int 0), (4, .ref q_27), (3, .ref q_25), (2, .ref q_19), (1, .ref q_1), (0, .ref b)]) hx hb dL_law_1857 hl (k := 2) rfl (by decide) (by decide) rfl (fun ls hl => ?_)
      refine lv_goto (tgt := 28) hx hb dL_law_1860 (by decide) ?_
      refine lv_iload hx hb dL_law_28 (lv_at hl 0 rfl) ?_
      refine lv_aload_n hx hb dL_law_30 rfl (lv_at hl 7 rfl) ?_
      refine va_slen hx hb hX hbl hbA hS dL_law_31 ?_
      refine ax_i (y := 5) rfl ?_
      refine lv_iconst (v := 5) hx hb dL_law_32 (by decide) ?_
      refine lv_isub hx hb dL_law_33 ?_
      refine ax_i (y := 0) (by decide) ?_
      refine lv_icmp_gt (tgt := 1863) hx hb dL_law_34 (by decide) (fun _ => ?_) (fun h9 => absurd (by decide) h9)
      refine lv_iconst (v := 1) hx hb dL_law_1863 (by decide) ?_
      refine va_forget (fun q hq => by have h9 := hS.2.2 q hq; rw [hAd] at h9; exact h9) ?_
      refine W.widen (k := 600002) (n := 7302232) (Nat.le_of_ble_eq_true rfl) (Nat.le_of_ble_eq_true rfl) ?_
      refine W.base ?_
      exact lw_ret (Drawn.sameBut.refl s.drawn lw_cs) hx hb hr hlocks dL_law_1864
    · exact absurd hw_30.1 hw_34.1
  · refine ax_i (y := 1) hw_30.2 ?_
    refine lv_istore (lv' := [(6, .int 1), (5, .int 0), (4, .ref q_27), (3, .ref q_25), (2, .ref q_19), (1, .ref q_1), (0, .ref b)]) hx hb dL_law_183 hl (by decide) rfl (fun ls hl => ?_)
    refine lv_aload_n hx hb dL_law_185 rfl (lv_at hl 4 rfl) ?_
    refine lv_aload_n hx hb dL_law_186 rfl (lv_at hl 6 rfl) ?_
    refine lv_iload hx hb dL_law_187 (lv_at hl 1 rfl) ?_
    refine lv_iconst (v := 1) hx hb dL_law_189 (by decide) ?_
    refine lv_iadd hx hb dL_law_190 ?_
    refine ax_i (y := 1) (by decide) ?_
    refine va_sld hx hb hX hbl hbA hS (by unfold vp_in; decide) dL_law_191 ?_
    refine ax_i (y := xs 1) rfl ?_
    refine lv_aload_n hx hb dL_law_192 rfl (lv_at hl 6 rfl) ?_
    refine lv_iload hx hb dL_law_193 (lv_at hl 1 rfl) ?_
    refine lv_iconst (v := 2) hx hb dL_law_195 (by decide) ?_
    refine lv_iadd hx hb dL_law_196 ?_
    refine ax_i (y := 2) (by decide) ?_
    refine va_sld hx hb hX hbl hbA hS (by unfold vp_in; decide) dL_law_197 ?_
    refine ax_i (y := xs 2) rfl ?_
    refine lv_aload_n hx hb dL_law_198 rfl (lv_at hl 6 rfl) ?_
    refine lv_iload hx hb dL_law_199 (lv_at hl 1 rfl) ?_
    refine lv_iconst (v := 3) hx hb dL_law_201 (by decide) ?_
    refine lv_iadd hx hb dL_law_202 ?_
    refine ax_i (y := 3) (by decide) ?_
    refine va_sld hx hb hX hbl hbA hS (by unfold vp_in; decide) dL_law_203 ?_
    refine ax_i (y := xs 3) rfl ?_
    have hPc := hP.sub (ws' := [(q_19, .inr (11, [.int 0, .ref ys_23, .ref yp_24, .int 0])), (ys_23, .inr (3, [.int 0, .ref (ta 4), .int 0])), (yp_24, .inr (3, [.int 0, .ref (ta 4), .int 0]))]) [0, 1, 2] rfl
    have hKc := hK.sub (tys' := []) [] rfl
    have hDc := hD.sub (ws' := [(q_19, .inr (11, [.int 0, .ref ys_23, .ref yp_24, .int 0])), (ys_23, .inr (3, [.int 0, .ref (ta 4), .int 0])), (yp_24, .inr (3, [.int 0, .ref (ta 4), .int 0]))]) [0, 1, 2] (by decide) rfl
    have hFc := va_free (wc := [(q_19, .inr (11, [.int 0, .ref ys_23, .ref yp_24, .int 0])), (ys_23, .inr (3, [.int 0, .ref (ta 4), .int 0])), (yp_24, .inr (3, [.int 0, .ref (ta 4), .int 0]))]) hD hS hA [0, 1, 2] rfl
    refine va_calli (va_runV (As := [.int (xs 1), .int (xs 2), .int (xs 3)]) (rest := []) ⟨hx, hb, hml, hown, hts⟩ (c_X7_source l dC dI q_19 ys_23 yp_24 sa ta H.size 0 (xs 1) (xs 2) (xs 3)) (cwV 3 hts gl_X7_source rfl rfl rfl (by decide +kernel) ⟨Nat.le_of_ble_eq_true rfl, Nat.le_of_ble_eq_true rfl⟩) ⟨ax_fbW, va_recv hK hP (ci := 11) (q0 := 0) rfl rfl, ax_prW hPc hKc hDc hS hFc hE⟩ rfl rfl hl.1 rfl (lv_room (Nat.le_of_ble_eq_true rfl)) dL_law_204 ⟨Nat.le_of_ble_eq_true rfl, Nat.le_of_ble_eq_true rfl⟩) hS (fun q _ h9 => hFc q h9) hFc (fun r_40 u_42  t H locs ht hvm hw_41 hB hz1 hk1 hS => ?_)
    obtain ⟨th2_43, rfl⟩ : ∃ z, z = u_42 := ⟨_, rfl⟩
    obtain ⟨hP1, hK1, hD1⟩ := hB
    rw [ht] at hP1
    have hK1 := va_K.moved hvm.symm hK1
    obtain ⟨hP, hD⟩ := va_join (wr := [(q_27, .inl (cA_28, 1, .inr (.inr (.inr (.inl (fun _ => 0)))))), (q_25, .inl (cA_26, 1, .inr (.inl of_32)))]) (w1 := [(q_19, .inr (11, [.int th2_43, .ref ys_23, .ref yp_24, .int 0]))]) hP hD [0, 1, 2] [3, 4] rfl rfl (by decide) (by decide) hk1 hFc hP1 hD1
    have hP : va_P (dC, dI) vwCl [(q_27, .inl (cA_28, 1, .inr (.inr (.inr (.inl (fun _ => 0)))))), (q_25, .inl (cA_26, 1, .inr (.inl of_32))), (q_19, .inr (11, [.int th2_43, .ref ys_23, .ref yp_24, .int 0]))] H := hP
    have hD : va_D A [(q_27, .inl (cA_28, 1, .inr (.inr (.inr (.inl (fun _ => 0)))))), (q_25, .inl (cA_26, 1, .inr (.inl of_32))), (q_19, .inr (11, [.int th2_43, .ref ys_23, .ref yp_24, .int 0]))] := hD
    rcases hw_41 with hw_41 | hw_41
    · exact absurd hw_41.1 hw_30.1
    · have e9 := hw_41.2
      subst e9
      refine lv_istore (lv' := [(7, .int r_40), (6, .int 1), (5, .int 0), (4, .ref q_27), (3, .ref q_25), (2, .ref q_19), (1, .ref q_1), (0, .ref b)]) hx hb dL_law_207 hl (by decide) rfl (fun ls hl => ?_)
      refine lv_aload_n hx hb dL_law_209 rfl (lv_at hl 5 rfl) ?_
      have hPc := hP.sub (ws' := [(q_19, .inr (11, [.int 1, .ref ys_23, .ref yp_24, .int 0]))]) [2] rfl
      have hKc := hK.sub (tys' := []) [] rfl
      refine va_calli (va_runV (As := []) (rest := []) ⟨hx, hb, hml, hown, hts⟩ (c_X7_thrown l dC dI q_19 ys_23 yp_24 sa ta 1) (cwV 0 hts gl_X7_thrown rfl rfl rfl (by decide +kernel) ⟨Nat.le_of_ble_eq_true rfl, Nat.le_of_ble_eq_true rfl⟩) ⟨ax_fbR, va_recv hK hP (ci := 11) (q0 := 2) rfl rfl, ax_prR hPc hKc hS hE⟩ rfl rfl hl.1 rfl (lv_room (Nat.le_of_ble_eq_true rfl)) dL_law_210 ⟨Nat.le_of_ble_eq_true rfl, Nat.le_of_ble_eq_true rfl⟩) hS (fun _ _ h9 => h9.elim) (fun _ h9 => h9.elim) (fun r_44 u_46  t H locs ht hvm hw_45 hB hz1 hk1 hS => ?_)
      have hP := ax_keep hP (fun _ h9 => h9) hk1
      refine ax_i (y := 1) hw_45 ?_
      refine lv_iload hx hb dL_law_213 (lv_at hl 1 rfl) ?_
      refine lv_icmp_eq (tgt := 220) hx hb dL_law_215 (by decide) (fun _ => ?_) (fun h9 => absurd (by decide) h9)
      refine lv_iload hx hb dL_law_220 (lv_at hl 1 rfl) ?_
      refine lv_if_ne (tgt := 237) hx hb dL_law_222 (by decide) (fun _ => ?_) (fun h9 => absurd h9 (by decide))
      refine lv_goto (tgt := 1857) hx hb dL_law_237 (by decide) ?_
      refine lv_iinc (v := 5) (lv' := [(5, .int 5), (7, .int r_40), (6, .int 1), (4, .ref q_27), (3, .ref q_25), (2, .ref q_19), (1, .ref q_1), (0, .ref b)]) hx hb dL_law_1857 hl (k := 2) rfl (by decide) (by decide) rfl (fun ls hl => ?_)
      refine lv_goto (tgt := 28) hx hb dL_law_1860 (by decide) ?_
      refine lv_iload hx hb dL_law_28 (lv_at hl 0 rfl) ?_
      refine lv_aload_n hx hb dL_law_30 rfl (lv_at hl 7 rfl) ?_
      refine va_slen hx hb hX hbl hbA hS dL_law_31 ?_
      refine ax_i (y := 5) rfl ?_
      refine lv_iconst (v := 5) hx hb dL_law_32 (by decide) ?_
      refine lv_isub hx hb dL_law_33 ?_
      refine ax_i (y := 0) (by decide) ?_
      refine lv_icmp_gt (tgt := 1863) hx hb dL_law_34 (by decide) (fun _ => ?_) (fun h9 => absurd (by decide) h9)
      refine lv_iconst (v := 1) hx hb dL_law_1863 (by decide) ?_
      refine va_forget (fun q hq => by have h9 := hS.2.2 q hq; rw [hAd] at h9; exact h9) ?_
      refine W.widen (k := 600002) (n := 7302232) (Nat.le_of_ble_eq_true rfl) (Nat.le_of_ble_eq_true rfl) ?_
      refine W.base ?_
      exact lw_ret (Drawn.sameBut.refl s.drawn lw_cs) hx hb hr hlocks dL_law_1864

set_option maxHeartbeats 4000000 in
set_option maxRecDepth 100000 in
theorem law_c1 {p : Program} {e : Env} {s : State} {m : MethodId} {below : List Frame} {meth : Method} {c : Code} (l : Launch) (hlt : l.stackTraces = false) {dC : Nat → ClassId} {dI : Nat → Nat → Nat} {b : Nat} {xs : Nat → Int32} (C0 : lw_At p s m meth c b 5 xs) {A : Nat → Prop} (hAd : A = fun q => s.heap.size ≤ q) {sa ta : Nat → Nat} (hE : ax_S sa ta A s s.heap) {q_1 xs_5 xp_6 xl_7 xn_8 xm_9 xr_10 xw_11 xt_12 q_19 ys_23 yp_24 q_25 q_27 : Nat} {cS_13 cP_14 cn_15 cm_16 cw_17 ct_18 cA_26 cA_28 : ClassId} {H : Heap} {locs : List Loc} (hK : va_K (dC, dI) vwCl [(cS_13, .object "Diffractory$Source"), (cP_14, .object "Diffractory$Part"), (cn_15, .long), (cm_16, .long), (cw_17, .long), (ct_18, .long), (cA_26, .long), (cA_28, .double)] s) (hP : va_P (dC, dI) vwCl [(q_1, .inr (8, [.ref xs_5, .ref xp_6, .int 0, .int 0, .ref xl_7, .ref xr_10])), (xs_5, .inl (cS_13, 3, .inr (.inr (.inr (.inr (fun _ => none)))))), (xp_6, .inl (cP_14, 8, .inr (.inr (.inr (.inr (fun _ => none)))))), (xl_7, .inr (4, [.ref xn_8, .ref xm_9])), (xn_8, .inl (cn_15, 64, .inr (.inl (fun _ => 0)))), (xm_9, .inl (cm_16, 64, .inr (.inl (fun _ => 0)))), (xr_10, .inr (6, [.ref xw_11, .ref xt_12])), (xw_11, .inl (cw_17, 8, .inr (.inl (fun _ => 0)))), (xt_12, .inl (ct_18, 8, .inr (.inl (fun _ => 0)))), (q_19, .inr (11, [.int 0, .ref ys_23, .ref yp_24, .int 0])), (ys_23, .inr (3, [.int 0, .ref (ta 4), .int 0])), (yp_24, .inr (3, [.int 0, .ref (ta 4), .int 0])), (q_25, .inl (cA_26, 1, .inr (.inl (fun _ => 0)))), (q_27, .inl (cA_28, 1, .inr (.inr (.inr (.inl (fun _ => 0))))))] H) (hD : va_D A [(q_1, .inr (8, [.ref xs_5, .ref xp_6, .int 0, .int 0, .ref xl_7, .ref xr_10])), (xs_5, .inl (cS_13, 3, .inr (.inr (.inr (.inr (fun _ => none)))))), (xp_6, .inl (cP_14, 8, .inr (.inr (.inr (.inr (fun _ => none)))))), (xl_7, .inr (4, [.ref xn_8, .ref xm_9])), (xn_8, .inl (cn_15, 64, .inr (.inl (fun _ => 0)))), (xm_9, .inl (cm_16, 64, .inr (.inl (fun _ => 0)))), (xr_10, .inr (6, [.ref xw_11, .ref xt_12])), (xw_11, .inl (cw_17, 8, .inr (.inl (fun _ => 0)))), (xt_12, .inl (ct_18, 8, .inr (.inl (fun _ => 0)))), (q_19, .inr (11, [.int 0, .ref ys_23, .ref yp_24, .int 0])), (ys_23, .inr (3, [.int 0, .ref (ta 4), .int 0])), (yp_24, .inr (3, [.int 0, .ref (ta 4), .int 0])), (q_25, .inl (cA_26, 1, .inr (.inl (fun _ => 0)))), (q_27, .inl (cA_28, 1, .inr (.inr (.inr (.inl (fun _ => 0))))))]) (hS : va_S A s.heap H locs) {ls : Array Slot} (hl : lv_has ls 9 [(5, .int 0), (4, .ref q_27), (3, .ref q_25), (2, .ref q_19), (1, .ref q_1), (0, .ref b)]) : W p l e room_1 s m #[Value.ref b] below meth c H locs 14 177 (lw_Z below #[Value.ref b] s) (F0 m 240 ls []) := by
  obtain ⟨hx, hb, hr, hml, hown, hts, hX, hbl, hlocks, hgv⟩ := C0
  have hA : ∀ q : Nat, s.heap.size ≤ q → A q := fun q h => by rw [hAd]; exact h
  have hbA : ¬ A b := by rw [hAd]; exact Nat.not_le.mpr hbl
  refine lv_aload_n hx hb dL_law_240 rfl (lv_at hl 4 rfl) ?_
  refine lv_aload_n hx hb dL_law_241 rfl (lv_at hl 5 rfl) ?_
  refine lv_iload hx hb dL_law_242 (lv_at hl 0 rfl) ?_
  refine lv_iconst (v := 1) hx hb dL_law_244 (by decide) ?_
  refine lv_iadd hx hb dL_law_245 ?_
  refine ax_i (y := 1) (by decide) ?_
  refine va_sld hx hb hX hbl hbA hS (by unfold vp_in; decide) dL_law_246 ?_
  refine ax_i (y := xs 1) rfl ?_
  refine lv_aload_n hx hb dL_law_247 rfl (lv_at hl 5 rfl) ?_
  refine lv_iload hx hb dL_law_248 (lv_at hl 0 rfl) ?_
  refine lv_iconst (v := 2) hx hb dL_law_250 (by decide) ?_
  refine lv_iadd hx hb dL_law_251 ?_
  refine ax_i (y := 2) (by decide) ?_
  refine va_sld hx hb hX hbl hbA hS (by unfold vp_in; decide) dL_law_252 ?_
  refine ax_i (y := xs 2) rfl ?_
  refine lv_aload_n hx hb dL_law_253 rfl (lv_at hl 5 rfl) ?_
  refine lv_iload hx hb dL_law_254 (lv_at hl 0 rfl) ?_
  refine lv_iconst (v := 3) hx hb dL_law_256 (by decide) ?_
  refine lv_iadd hx hb dL_law_257 ?_
  refine ax_i (y := 3) (by decide) ?_
  refine va_sld hx hb hX hbl hbA hS (by unfold vp_in; decide) dL_law_258 ?_
  refine ax_i (y := xs 3) rfl ?_
  refine lv_aload_n hx hb dL_law_259 rfl (lv_at hl 5 rfl) ?_
  refine lv_iload hx hb dL_law_260 (lv_at hl 0 rfl) ?_
  refine lv_iconst (v := 4) hx hb dL_law_262 (by decide) ?_
  refine lv_iadd hx hb dL_law_263 ?_
  refine ax_i (y := 4) (by decide) ?_
  refine va_sld hx hb hX hbl hbA hS (by unfold vp_in; decide) dL_law_264 ?_
  refine ax_i (y := xs 4) rfl ?_
  refine lv_aload_n hx hb dL_law_265 rfl (lv_at hl 2 rfl) ?_
  have hPc := hP.sub (ws' := [(q_1, .inr (8, [.ref xs_5, .ref xp_6, .int 0, .int 0, .ref xl_7, .ref xr_10])), (xs_5, .inl (cS_13, 3, .inr (.inr (.inr (.inr (fun _ => none)))))), (xp_6, .inl (cP_14, 8, .inr (.inr (.inr (.inr (fun _ => none)))))), (xl_7, .inr (4, [.ref xn_8, .ref xm_9])), (xn_8, .inl (cn_15, 64, .inr (.inl (fun _ => 0)))), (xm_9, .inl (cm_16, 64, .inr (.inl (fun _ => 0)))), (xr_10, .inr (6, [.ref xw_11, .ref xt_12])), (xw_11, .inl (cw_17, 8, .inr (.inl (fun _ => 0)))), (xt_12, .inl (ct_18, 8, .inr (.inl (fun _ => 0)))), (q_25, .inl (cA_26, 1, .inr (.inl (fun _ => 0))))]) [0, 1, 2, 3, 4, 5, 6, 7, 8, 12] rfl
  have hKc := hK.sub (tys' := [(cS_13, .object "Diffractory$Source"), (cP_14, .object "Diffractory$Part"), (cn_15, .long), (cm_16, .long), (cw_17, .long), (ct_18, .long), (cA_26, .long)]) [0, 1, 2, 3, 4, 5, 6] rfl
  have hDc := hD.sub (ws' := [(q_1, .inr (8, [.ref xs_5, .ref xp_6, .int 0, .int 0, .ref xl_7, .ref xr_10])), (xs_5, .inl (cS_13, 3, .inr (.inr (.inr (.inr (fun _ => none)))))), (xp_6, .inl (cP_14, 8, .inr (.inr (.inr (.inr (fun _ => none)))))), (xl_7, .inr (4, [.ref xn_8, .ref xm_9])), (xn_8, .inl (cn_15, 64, .inr (.inl (fun _ => 0)))), (xm_9, .inl (cm_16, 64, .inr (.inl (fun _ => 0)))), (xr_10, .inr (6, [.ref xw_11, .ref xt_12])), (xw_11, .inl (cw_17, 8, .inr (.inl (fun _ => 0)))), (xt_12, .inl (ct_18, 8, .inr (.inl (fun _ => 0)))), (q_25, .inl (cA_26, 1, .inr (.inl (fun _ => 0))))]) [0, 1, 2, 3, 4, 5, 6, 7, 8, 12] (by decide) rfl
  have hFc := va_free (wc := [(q_1, .inr (8, [.ref xs_5, .ref xp_6, .int 0, .int 0, .ref xl_7, .ref xr_10])), (xs_5, .inl (cS_13, 3, .inr (.inr (.inr (.inr (fun _ => none)))))), (xp_6, .inl (cP_14, 8, .inr (.inr (.inr (.inr (fun _ => none)))))), (xl_7, .inr (4, [.ref xn_8, .ref xm_9])), (xn_8, .inl (cn_15, 64, .inr (.inl (fun _ => 0)))), (xm_9, .inl (cm_16, 64, .inr (.inl (fun _ => 0)))), (xr_10, .inr (6, [.ref xw_11, .ref xt_12])), (xw_11, .inl (cw_17, 8, .inr (.inl (fun _ => 0)))), (xt_12, .inl (ct_18, 8, .inr (.inl (fun _ => 0)))), (q_25, .inl (cA_26, 1, .inr (.inl (fun _ => 0))))]) hD hS hA [0, 1, 2, 3, 4, 5, 6, 7, 8, 12] rfl
  refine va_calli (vx_runSW (As := [.ref q_1, .int (xs 1), .int (xs 2), .int (xs 3), .int (xs 4), .ref q_25]) (rest := []) ⟨hx, hb, hml, hown, hts⟩ (c_L_move l hlt dC dI q_1 xs_5 xp_6 xl_7 xn_8 xm_9 xr_10 xw_11 xt_12 q_25 cS_13 cP_14 cn_15 cm_16 cw_17 ct_18 cA_26 sa ta H.size (xs 1) (xs 2) (xs 3) (xs 4)) (vx_cwSW 6 hts gl_L_move rfl rfl rfl (by decide +kernel) ⟨Nat.le_of_ble_eq_true rfl, Nat.le_of_ble_eq_true rfl⟩) ⟨ax_fbW, ax_prW hPc hKc hDc hS hFc hE⟩ rfl rfl hl.1 rfl (lv_room (Nat.le_of_ble_eq_true rfl)) dL_law_266 ⟨Nat.le_of_ble_eq_true rfl, Nat.le_of_ble_eq_true rfl⟩) hS (fun q _ h9 => hFc q h9) hFc (fun r_47 u_49  t H locs ht hvm hw_48 hB hz1 hk1 hS => ?_)
  obtain ⟨of_50, rfl⟩ : ∃ z, z = u_49 := ⟨_, rfl⟩
  obtain ⟨hP1, hK1, hD1⟩ := hB
  rw [ht] at hP1
  have hK1 := va_K.moved hvm.symm hK1
  obtain ⟨hP, hD⟩ := va_join (wr := [(q_19, .inr (11, [.int 0, .ref ys_23, .ref yp_24, .int 0])), (ys_23, .inr (3, [.int 0, .ref (ta 4), .int 0])), (yp_24, .inr (3, [.int 0, .ref (ta 4), .int 0])), (q_27, .inl (cA_28, 1, .inr (.inr (.inr (.inl (fun _ => 0))))))]) (w1 := [(q_25, .inl (cA_26, 1, .inr (.inl of_50)))]) hP hD [0, 1, 2, 3, 4, 5, 6, 7, 8, 12] [9, 10, 11, 13] rfl rfl (by decide) (by decide) hk1 hFc hP1 hD1
  have hP : va_P (dC, dI) vwCl [(q_19, .inr (11, [.int 0, .ref ys_23, .ref yp_24, .int 0])), (ys_23, .inr (3, [.int 0, .ref (ta 4), .int 0])), (yp_24, .inr (3, [.int 0, .ref (ta 4), .int 0])), (q_27, .inl (cA_28, 1, .inr (.inr (.inr (.inl (fun _ => 0)))))), (q_25, .inl (cA_26, 1, .inr (.inl of_50)))] H := hP
  have hD : va_D A [(q_19, .inr (11, [.int 0, .ref ys_23, .ref yp_24, .int 0])), (ys_23, .inr (3, [.int 0, .ref (ta 4), .int 0])), (yp_24, .inr (3, [.int 0, .ref (ta 4), .int 0])), (q_27, .inl (cA_28, 1, .inr (.inr (.inr (.inl (fun _ => 0)))))), (q_25, .inl (cA_26, 1, .inr (.inl of_50)))] := hD
  refine ax_i (y := 1) hw_48 ?_
  refine lv_istore (lv' := [(6, .int 1), (5, .int 0), (4, .ref q_27), (3, .ref q_25), (2, .ref q_19), (1, .ref q_1), (0, .ref b)]) hx hb dL_law_269 hl (by decide) rfl (fun ls hl => ?_)
  refine lv_aload_n hx hb dL_law_271 rfl (lv_at hl 4 rfl) ?_
  refine lv_aload_n hx hb dL_law_272 rfl (lv_at hl 6 rfl) ?_
  refine lv_iload hx hb dL_law_273 (lv_at hl 1 rfl) ?_
  refine lv_iconst (v := 1) hx hb dL_law_275 (by decide) ?_
  refine lv_iadd hx hb dL_law_276 ?_
  refine ax_i (y := 1) (by decide) ?_
  refine va_sld hx hb hX hbl hbA hS (by unfold vp_in; decide) dL_law_277 ?_
  refine ax_i (y := xs 1) rfl ?_
  refine lv_aload_n hx hb dL_law_278 rfl (lv_at hl 6 rfl) ?_
  refine lv_iload hx hb dL_law_279 (lv_at hl 1 rfl) ?_
  refine lv_iconst (v := 2) hx hb dL_law_281 (by decide) ?_
  refine lv_iadd hx hb dL_law_282 ?_
  refine ax_i (y := 2) (by decide) ?_
  refine va_sld hx hb hX hbl hbA hS (by unfold vp_in; decide) dL_law_283 ?_
  refine ax_i (y := xs 2) rfl ?_
  refine lv_aload_n hx hb dL_law_284 rfl (lv_at hl 6 rfl) ?_
  refine lv_iload hx hb dL_law_285 (lv_at hl 1 rfl) ?_
  refine lv_iconst (v := 3) hx hb dL_law_287 (by decide) ?_
  refine lv_iadd hx hb dL_law_288 ?_
  refine ax_i (y := 3) (by decide) ?_
  refine va_sld hx hb hX hbl hbA hS (by unfold vp_in; decide) dL_law_289 ?_
  refine ax_i (y := xs 3) rfl ?_
  refine lv_aload_n hx hb dL_law_290 rfl (lv_at hl 6 rfl) ?_
  refine lv_iload hx hb dL_law_291 (lv_at hl 1 rfl) ?_
  refine lv_iconst (v := 4) hx hb dL_law_293 (by decide) ?_
  refine lv_iadd hx hb dL_law_294 ?_
  refine ax_i (y := 4) (by decide) ?_
  refine va_sld hx hb hX hbl hbA hS (by unfold vp_in; decide) dL_law_295 ?_
  refine ax_i (y := xs 4) rfl ?_
  have hPc := hP.sub (ws' := [(q_19, .inr (11, [.int 0, .ref ys_23, .ref yp_24, .int 0])), (ys_23, .inr (3, [.int 0, .ref (ta 4), .int 0])), (yp_24, .inr (3, [.int 0, .ref (ta 4), .int 0]))]) [0, 1, 2] rfl
  have hKc := hK.sub (tys' := []) [] rfl
  have hDc := hD.sub (ws' := [(q_19, .inr (11, [.int 0, .ref ys_23, .ref yp_24, .int 0])), (ys_23, .inr (3, [.int 0, .ref (ta 4), .int 0])), (yp_24, .inr (3, [.int 0, .ref (ta 4), .int 0]))]) [0, 1, 2] (by decide) rfl
  have hFc := va_free (wc := [(q_19, .inr (11, [.int 0, .ref ys_23, .ref yp_24, .int 0])), (ys_23, .inr (3, [.int 0, .ref (ta 4), .int 0])), (yp_24, .inr (3, [.int 0, .ref (ta 4), .int 0]))]) hD hS hA [0, 1, 2] rfl
  refine va_calli (va_runV (As := [.int (xs 1), .int (xs 2), .int (xs 3), .int (xs 4)]) (rest := []) ⟨hx, hb, hml, hown, hts⟩ (c_X7_move l dC dI q_19 ys_23 yp_24 sa ta H.size 0 (xs 1) (xs 2) (xs 3) (xs 4)) (cwV 4 hts gl_X7_move rfl rfl rfl (by decide +kernel) ⟨Nat.le_of_ble_eq_true rfl, Nat.le_of_ble_eq_true rfl⟩) ⟨ax_fbW, va_recv hK hP (ci := 11) (q0 := 0) rfl rfl, ax_prW hPc hKc hDc hS hFc hE⟩ rfl rfl hl.1 rfl (lv_room (Nat.le_of_ble_eq_true rfl)) dL_law_296 ⟨Nat.le_of_ble_eq_true rfl, Nat.le_of_ble_eq_true rfl⟩) hS (fun q _ h9 => hFc q h9) hFc (fun r_51 u_53  t H locs ht hvm hw_52 hB hz1 hk1 hS => ?_)
  obtain ⟨th2_54, rfl⟩ : ∃ z, z = u_53 := ⟨_, rfl⟩
  obtain ⟨hP1, hK1, hD1⟩ := hB
  rw [ht] at hP1
  have hK1 := va_K.moved hvm.symm hK1
  obtain ⟨hP, hD⟩ := va_join (wr := [(q_27, .inl (cA_28, 1, .inr (.inr (.inr (.inl (fun _ => 0)))))), (q_25, .inl (cA_26, 1, .inr (.inl of_50)))]) (w1 := [(q_19, .inr (11, [.int th2_54, .ref ys_23, .ref yp_24, .int 0]))]) hP hD [0, 1, 2] [3, 4] rfl rfl (by decide) (by decide) hk1 hFc hP1 hD1
  have hP : va_P (dC, dI) vwCl [(q_27, .inl (cA_28, 1, .inr (.inr (.inr (.inl (fun _ => 0)))))), (q_25, .inl (cA_26, 1, .inr (.inl of_50))), (q_19, .inr (11, [.int th2_54, .ref ys_23, .ref yp_24, .int 0]))] H := hP
  have hD : va_D A [(q_27, .inl (cA_28, 1, .inr (.inr (.inr (.inl (fun _ => 0)))))), (q_25, .inl (cA_26, 1, .inr (.inl of_50))), (q_19, .inr (11, [.int th2_54, .ref ys_23, .ref yp_24, .int 0]))] := hD
  have e9 := hw_52
  subst e9
  refine lv_istore (lv' := [(7, .int r_51), (6, .int 1), (5, .int 0), (4, .ref q_27), (3, .ref q_25), (2, .ref q_19), (1, .ref q_1), (0, .ref b)]) hx hb dL_law_299 hl (by decide) rfl (fun ls hl => ?_)
  refine lv_aload_n hx hb dL_law_301 rfl (lv_at hl 5 rfl) ?_
  have hPc := hP.sub (ws' := [(q_19, .inr (11, [.int 1, .ref ys_23, .ref yp_24, .int 0]))]) [2] rfl
  have hKc := hK.sub (tys' := []) [] rfl
  refine va_calli (va_runV (As := []) (rest := []) ⟨hx, hb, hml, hown, hts⟩ (c_X7_thrown l dC dI q_19 ys_23 yp_24 sa ta 1) (cwV 0 hts gl_X7_thrown rfl rfl rfl (by decide +kernel) ⟨Nat.le_of_ble_eq_true rfl, Nat.le_of_ble_eq_true rfl⟩) ⟨ax_fbR, va_recv hK hP (ci := 11) (q0 := 2) rfl rfl, ax_prR hPc hKc hS hE⟩ rfl rfl hl.1 rfl (lv_room (Nat.le_of_ble_eq_true rfl)) dL_law_302 ⟨Nat.le_of_ble_eq_true rfl, Nat.le_of_ble_eq_true rfl⟩) hS (fun _ _ h9 => h9.elim) (fun _ h9 => h9.elim) (fun r_55 u_57  t H locs ht hvm hw_56 hB hz1 hk1 hS => ?_)
  have hP := ax_keep hP (fun _ h9 => h9) hk1
  refine ax_i (y := 1) hw_56 ?_
  refine lv_iload hx hb dL_law_305 (lv_at hl 1 rfl) ?_
  refine lv_icmp_eq (tgt := 312) hx hb dL_law_307 (by decide) (fun _ => ?_) (fun h9 => absurd (by decide) h9)
  refine lv_iload hx hb dL_law_312 (lv_at hl 1 rfl) ?_
  refine lv_if_ne (tgt := 329) hx hb dL_law_314 (by decide) (fun _ => ?_) (fun h9 => absurd h9 (by decide))
  refine lv_goto (tgt := 1857) hx hb dL_law_329 (by decide) ?_
  refine lv_iinc (v := 5) (lv' := [(5, .int 5), (7, .int r_51), (6, .int 1), (4, .ref q_27), (3, .ref q_25), (2, .ref q_19), (1, .ref q_1), (0, .ref b)]) hx hb dL_law_1857 hl (k := 2) rfl (by decide) (by decide) rfl (fun ls hl => ?_)
  refine lv_goto (tgt := 28) hx hb dL_law_1860 (by decide) ?_
  refine lv_iload hx hb dL_law_28 (lv_at hl 0 rfl) ?_
  refine lv_aload_n hx hb dL_law_30 rfl (lv_at hl 7 rfl) ?_
  refine va_slen hx hb hX hbl hbA hS dL_law_31 ?_
  refine ax_i (y := 5) rfl ?_
  refine lv_iconst (v := 5) hx hb dL_law_32 (by decide) ?_
  refine lv_isub hx hb dL_law_33 ?_
  refine ax_i (y := 0) (by decide) ?_
  refine lv_icmp_gt (tgt := 1863) hx hb dL_law_34 (by decide) (fun _ => ?_) (fun h9 => absurd (by decide) h9)
  refine lv_iconst (v := 1) hx hb dL_law_1863 (by decide) ?_
  refine va_forget (fun q hq => by have h9 := hS.2.2 q hq; rw [hAd] at h9; exact h9) ?_
  refine W.widen (k := 600002) (n := 7302232) (Nat.le_of_ble_eq_true rfl) (Nat.le_of_ble_eq_true rfl) ?_
  refine W.base ?_
  exact lw_ret (Drawn.sameBut.refl s.drawn lw_cs) hx hb hr hlocks dL_law_1864

set_option maxHeartbeats 4000000 in
set_option maxRecDepth 100000 in
theorem law_c2 {p : Program} {e : Env} {s : State} {m : MethodId} {below : List Frame} {meth : Method} {c : Code} (l : Launch) (hlt : l.stackTraces = false) {dC : Nat → ClassId} {dI : Nat → Nat → Nat} {b : Nat} {xs : Nat → Int32} (C0 : lw_At p s m meth c b 5 xs) {A : Nat → Prop} (hAd : A = fun q => s.heap.size ≤ q) {sa ta : Nat → Nat} (hE : ax_S sa ta A s s.heap) {q_1 xs_5 xp_6 xl_7 xn_8 xm_9 xr_10 xw_11 xt_12 q_19 ys_23 yp_24 q_25 q_27 : Nat} {cS_13 cP_14 cn_15 cm_16 cw_17 ct_18 cA_26 cA_28 : ClassId} {H : Heap} {locs : List Loc} (hK : va_K (dC, dI) vwCl [(cS_13, .object "Diffractory$Source"), (cP_14, .object "Diffractory$Part"), (cn_15, .long), (cm_16, .long), (cw_17, .long), (ct_18, .long), (cA_26, .long), (cA_28, .double)] s) (hP : va_P (dC, dI) vwCl [(q_1, .inr (8, [.ref xs_5, .ref xp_6, .int 0, .int 0, .ref xl_7, .ref xr_10])), (xs_5, .inl (cS_13, 3, .inr (.inr (.inr (.inr (fun _ => none)))))), (xp_6, .inl (cP_14, 8, .inr (.inr (.inr (.inr (fun _ => none)))))), (xl_7, .inr (4, [.ref xn_8, .ref xm_9])), (xn_8, .inl (cn_15, 64, .inr (.inl (fun _ => 0)))), (xm_9, .inl (cm_16, 64, .inr (.inl (fun _ => 0)))), (xr_10, .inr (6, [.ref xw_11, .ref xt_12])), (xw_11, .inl (cw_17, 8, .inr (.inl (fun _ => 0)))), (xt_12, .inl (ct_18, 8, .inr (.inl (fun _ => 0)))), (q_19, .inr (11, [.int 0, .ref ys_23, .ref yp_24, .int 0])), (ys_23, .inr (3, [.int 0, .ref (ta 4), .int 0])), (yp_24, .inr (3, [.int 0, .ref (ta 4), .int 0])), (q_25, .inl (cA_26, 1, .inr (.inl (fun _ => 0)))), (q_27, .inl (cA_28, 1, .inr (.inr (.inr (.inl (fun _ => 0))))))] H) (hD : va_D A [(q_1, .inr (8, [.ref xs_5, .ref xp_6, .int 0, .int 0, .ref xl_7, .ref xr_10])), (xs_5, .inl (cS_13, 3, .inr (.inr (.inr (.inr (fun _ => none)))))), (xp_6, .inl (cP_14, 8, .inr (.inr (.inr (.inr (fun _ => none)))))), (xl_7, .inr (4, [.ref xn_8, .ref xm_9])), (xn_8, .inl (cn_15, 64, .inr (.inl (fun _ => 0)))), (xm_9, .inl (cm_16, 64, .inr (.inl (fun _ => 0)))), (xr_10, .inr (6, [.ref xw_11, .ref xt_12])), (xw_11, .inl (cw_17, 8, .inr (.inl (fun _ => 0)))), (xt_12, .inl (ct_18, 8, .inr (.inl (fun _ => 0)))), (q_19, .inr (11, [.int 0, .ref ys_23, .ref yp_24, .int 0])), (ys_23, .inr (3, [.int 0, .ref (ta 4), .int 0])), (yp_24, .inr (3, [.int 0, .ref (ta 4), .int 0])), (q_25, .inl (cA_26, 1, .inr (.inl (fun _ => 0)))), (q_27, .inl (cA_28, 1, .inr (.inr (.inr (.inl (fun _ => 0))))))]) (hS : va_S A s.heap H locs) {ls : Array Slot} (hl : lv_has ls 9 [(5, .int 0), (4, .ref q_27), (3, .ref q_25), (2, .ref q_19), (1, .ref q_1), (0, .ref b)]) : W p l e room_1 s m #[Value.ref b] below meth c H locs 14 177 (lw_Z below #[Value.ref b] s) (F0 m 332 ls []) := by
  obtain ⟨hx, hb, hr, hml, hown, hts, hX, hbl, hlocks, hgv⟩ := C0
  have hA : ∀ q : Nat, s.heap.size ≤ q → A q := fun q h => by rw [hAd]; exact h
  have hbA : ¬ A b := by rw [hAd]; exact Nat.not_le.mpr hbl
  refine lv_aload_n hx hb dL_law_332 rfl (lv_at hl 4 rfl) ?_
  refine lv_aload_n hx hb dL_law_333 rfl (lv_at hl 5 rfl) ?_
  refine lv_iload hx hb dL_law_334 (lv_at hl 0 rfl) ?_
  refine lv_iconst (v := 1) hx hb dL_law_336 (by decide) ?_
  refine lv_iadd hx hb dL_law_337 ?_
  refine ax_i (y := 1) (by decide) ?_
  refine va_sld hx hb hX hbl hbA hS (by unfold vp_in; decide) dL_law_338 ?_
  refine ax_i (y := xs 1) rfl ?_
  refine lv_aload_n hx hb dL_law_339 rfl (lv_at hl 5 rfl) ?_
  refine lv_iload hx hb dL_law_340 (lv_at hl 0 rfl) ?_
  refine lv_iconst (v := 2) hx hb dL_law_342 (by decide) ?_
  refine lv_iadd hx hb dL_law_343 ?_
  refine ax_i (y := 2) (by decide) ?_
  refine va_sld hx hb hX hbl hbA hS (by unfold vp_in; decide) dL_law_344 ?_
  refine ax_i (y := xs 2) rfl ?_
  refine lv_aload_n hx hb dL_law_345 rfl (lv_at hl 2 rfl) ?_
  have hPc := hP.sub (ws' := [(q_1, .inr (8, [.ref xs_5, .ref xp_6, .int 0, .int 0, .ref xl_7, .ref xr_10])), (xs_5, .inl (cS_13, 3, .inr (.inr (.inr (.inr (fun _ => none)))))), (xp_6, .inl (cP_14, 8, .inr (.inr (.inr (.inr (fun _ => none)))))), (xl_7, .inr (4, [.ref xn_8, .ref xm_9])), (xn_8, .inl (cn_15, 64, .inr (.inl (fun _ => 0)))), (xm_9, .inl (cm_16, 64, .inr (.inl (fun _ => 0)))), (xr_10, .inr (6, [.ref xw_11, .ref xt_12])), (xw_11, .inl (cw_17, 8, .inr (.inl (fun _ => 0)))), (xt_12, .inl (ct_18, 8, .inr (.inl (fun _ => 0)))), (q_25, .inl (cA_26, 1, .inr (.inl (fun _ => 0))))]) [0, 1, 2, 3, 4, 5, 6, 7, 8, 12] rfl
  have hKc := hK.sub (tys' := [(cS_13, .object "Diffractory$Source"), (cP_14, .object "Diffractory$Part"), (cn_15, .long), (cm_16, .long), (cw_17, .long), (ct_18, .long), (cA_26, .long)]) [0, 1, 2, 3, 4, 5, 6] rfl
  have hDc := hD.sub (ws' := [(q_1, .inr (8, [.ref xs_5, .ref xp_6, .int 0, .int 0, .ref xl_7, .ref xr_10])), (xs_5, .inl (cS_13, 3, .inr (.inr (.inr (.inr (fun _ => none)))))), (xp_6, .inl (cP_14, 8, .inr (.inr (.inr (.inr (fun _ => none)))))), (xl_7, .inr (4, [.ref xn_8, .ref xm_9])), (xn_8, .inl (cn_15, 64, .inr (.inl (fun _ => 0)))), (xm_9, .inl (cm_16, 64, .inr (.inl (fun _ => 0)))), (xr_10, .inr (6, [.ref xw_11, .ref xt_12])), (xw_11, .inl (cw_17, 8, .inr (.inl (fun _ => 0)))), (xt_12, .inl (ct_18, 8, .inr (.inl (fun _ => 0)))), (q_25, .inl (cA_26, 1, .inr (.inl (fun _ => 0))))]) [0, 1, 2, 3, 4, 5, 6, 7, 8, 12] (by decide) rfl
  have hFc := va_free (wc := [(q_1, .inr (8, [.ref xs_5, .ref xp_6, .int 0, .int 0, .ref xl_7, .ref xr_10])), (xs_5, .inl (cS_13, 3, .inr (.inr (.inr (.inr (fun _ => none)))))), (xp_6, .inl (cP_14, 8, .inr (.inr (.inr (.inr (fun _ => none)))))), (xl_7, .inr (4, [.ref xn_8, .ref xm_9])), (xn_8, .inl (cn_15, 64, .inr (.inl (fun _ => 0)))), (xm_9, .inl (cm_16, 64, .inr (.inl (fun _ => 0)))), (xr_10, .inr (6, [.ref xw_11, .ref xt_12])), (xw_11, .inl (cw_17, 8, .inr (.inl (fun _ => 0)))), (xt_12, .inl (ct_18, 8, .inr (.inl (fun _ => 0)))), (q_25, .inl (cA_26, 1, .inr (.inl (fun _ => 0))))]) hD hS hA [0, 1, 2, 3, 4, 5, 6, 7, 8, 12] rfl
  refine va_calli (vx_runSW (As := [.ref q_1, .int (xs 1), .int (xs 2), .ref q_25]) (rest := []) ⟨hx, hb, hml, hown, hts⟩ (c_L_part l hlt dC dI q_1 xs_5 xp_6 xl_7 xn_8 xm_9 xr_10 xw_11 xt_12 q_25 cS_13 cP_14 cn_15 cm_16 cw_17 ct_18 cA_26 sa ta H.size (xs 1) (xs 2)) (vx_cwSW 4 hts gl_L_part rfl rfl rfl (by decide +kernel) ⟨Nat.le_of_ble_eq_true rfl, Nat.le_of_ble_eq_true rfl⟩) ⟨ax_fbW, ax_prW hPc hKc hDc hS hFc hE⟩ rfl rfl hl.1 rfl (lv_room (Nat.le_of_ble_eq_true rfl)) dL_law_346 ⟨Nat.le_of_ble_eq_true rfl, Nat.le_of_ble_eq_true rfl⟩) hS (fun q _ h9 => hFc q h9) hFc (fun r_58 u_60  t H locs ht hvm hw_59 hB hz1 hk1 hS => ?_)
  obtain ⟨of_61, rfl⟩ : ∃ z, z = u_60 := ⟨_, rfl⟩
  obtain ⟨hP1, hK1, hD1⟩ := hB
  rw [ht] at hP1
  have hK1 := va_K.moved hvm.symm hK1
  obtain ⟨hP, hD⟩ := va_join (wr := [(q_19, .inr (11, [.int 0, .ref ys_23, .ref yp_24, .int 0])), (ys_23, .inr (3, [.int 0, .ref (ta 4), .int 0])), (yp_24, .inr (3, [.int 0, .ref (ta 4), .int 0])), (q_27, .inl (cA_28, 1, .inr (.inr (.inr (.inl (fun _ => 0))))))]) (w1 := [(q_25, .inl (cA_26, 1, .inr (.inl of_61)))]) hP hD [0, 1, 2, 3, 4, 5, 6, 7, 8, 12] [9, 10, 11, 13] rfl rfl (by decide) (by decide) hk1 hFc hP1 hD1
  have hP : va_P (dC, dI) vwCl [(q_19, .inr (11, [.int 0, .ref ys_23, .ref yp_24, .int 0])), (ys_23, .inr (3, [.int 0, .ref (ta 4), .int 0])), (yp_24, .inr (3, [.int 0, .ref (ta 4), .int 0])), (q_27, .inl (cA_28, 1, .inr (.inr (.inr (.inl (fun _ => 0)))))), (q_25, .inl (cA_26, 1, .inr (.inl of_61)))] H := hP
  have hD : va_D A [(q_19, .inr (11, [.int 0, .ref ys_23, .ref yp_24, .int 0])), (ys_23, .inr (3, [.int 0, .ref (ta 4), .int 0])), (yp_24, .inr (3, [.int 0, .ref (ta 4), .int 0])), (q_27, .inl (cA_28, 1, .inr (.inr (.inr (.inl (fun _ => 0)))))), (q_25, .inl (cA_26, 1, .inr (.inl of_61)))] := hD
  rcases hw_59 with hw_59 | hw_59
  · refine ax_i (y := 0) hw_59.2.1 ?_
    refine lv_istore (lv' := [(6, .int 0), (5, .int 0), (4, .ref q_27), (3, .ref q_25), (2, .ref q_19), (1, .ref q_1), (0, .ref b)]) hx hb dL_law_349 hl (by decide) rfl (fun ls hl => ?_)
    refine lv_aload_n hx hb dL_law_351 rfl (lv_at hl 4 rfl) ?_
    refine lv_aload_n hx hb dL_law_352 rfl (lv_at hl 6 rfl) ?_
    refine lv_iload hx hb dL_law_353 (lv_at hl 1 rfl) ?_
    refine lv_iconst (v := 1) hx hb dL_law_355 (by decide) ?_
    refine lv_iadd hx hb dL_law_356 ?_
    refine ax_i (y := 1) (by decide) ?_
    refine va_sld hx hb hX hbl hbA hS (by unfold vp_in; decide) dL_law_357 ?_
    refine ax_i (y := xs 1) rfl ?_
    refine lv_aload_n hx hb dL_law_358 rfl (lv_at hl 6 rfl) ?_
    refine lv_iload hx hb dL_law_359 (lv_at hl 1 rfl) ?_
    refine lv_iconst (v := 2) hx hb dL_law_361 (by decide) ?_
    refine lv_iadd hx hb dL_law_362 ?_
    refine ax_i (y := 2) (by decide) ?_
    refine va_sld hx hb hX hbl hbA hS (by unfold vp_in; decide) dL_law_363 ?_
    refine ax_i (y := xs 2) rfl ?_
    have hPc := hP.sub (ws' := [(q_19, .inr (11, [.int 0, .ref ys_23, .ref yp_24, .int 0])), (ys_23, .inr (3, [.int 0, .ref (ta 4), .int 0])), (yp_24, .inr (3, [.int 0, .ref (ta 4), .int 0]))]) [0, 1, 2] rfl
    have hKc := hK.sub (tys' := []) [] rfl
    have hDc := hD.sub (ws' := [(q_19, .inr (11, [.int 0, .ref ys_23, .ref yp_24, .int 0])), (ys_23, .inr (3, [.int 0, .ref (ta 4), .int 0])), (yp_24, .inr (3, [.int 0, .ref (ta 4), .int 0]))]) [0, 1, 2] (by decide) rfl
    have hFc := va_free (wc := [(q_19, .inr (11, [.int 0, .ref ys_23, .ref yp_24, .int 0])), (ys_23, .inr (3, [.int 0, .ref (ta 4), .int 0])), (yp_24, .inr (3, [.int 0, .ref (ta 4), .int 0]))]) hD hS hA [0, 1, 2] rfl
    refine va_calli (va_runV (As := [.int (xs 1), .int (xs 2)]) (rest := []) ⟨hx, hb, hml, hown, hts⟩ (c_X7_part l dC dI q_19 ys_23 yp_24 sa ta H.size 0 (xs 1) (xs 2)) (cwV 2 hts gl_X7_part rfl rfl rfl (by decide +kernel) ⟨Nat.le_of_ble_eq_true rfl, Nat.le_of_ble_eq_true rfl⟩) ⟨ax_fbW, va_recv hK hP (ci := 11) (q0 := 0) rfl rfl, ax_prW hPc hKc hDc hS hFc hE⟩ rfl rfl hl.1 rfl (lv_room (Nat.le_of_ble_eq_true rfl)) dL_law_364 ⟨Nat.le_of_ble_eq_true rfl, Nat.le_of_ble_eq_true rfl⟩) hS (fun q _ h9 => hFc q h9) hFc (fun r_62 u_64  t H locs ht hvm hw_63 hB hz1 hk1 hS => ?_)
    obtain ⟨th2_65, rfl⟩ : ∃ z, z = u_64 := ⟨_, rfl⟩
    obtain ⟨hP1, hK1, hD1⟩ := hB
    rw [ht] at hP1
    have hK1 := va_K.moved hvm.symm hK1
    obtain ⟨hP, hD⟩ := va_join (wr := [(q_27, .inl (cA_28, 1, .inr (.inr (.inr (.inl (fun _ => 0)))))), (q_25, .inl (cA_26, 1, .inr (.inl of_61)))]) (w1 := [(q_19, .inr (11, [.int th2_65, .ref ys_23, .ref yp_24, .int 0]))]) hP hD [0, 1, 2] [3, 4] rfl rfl (by decide) (by decide) hk1 hFc hP1 hD1
    have hP : va_P (dC, dI) vwCl [(q_27, .inl (cA_28, 1, .inr (.inr (.inr (.inl (fun _ => 0)))))), (q_25, .inl (cA_26, 1, .inr (.inl of_61))), (q_19, .inr (11, [.int th2_65, .ref ys_23, .ref yp_24, .int 0]))] H := hP
    have hD : va_D A [(q_27, .inl (cA_28, 1, .inr (.inr (.inr (.inl (fun _ => 0)))))), (q_25, .inl (cA_26, 1, .inr (.inl of_61))), (q_19, .inr (11, [.int th2_65, .ref ys_23, .ref yp_24, .int 0]))] := hD
    rcases hw_63 with hw_63 | hw_63
    · have e9 := hw_63.2.1
      subst e9
      refine ax_i (y := 0) hw_63.2.2 ?_
      refine lv_istore (lv' := [(7, .int 0), (6, .int 0), (5, .int 0), (4, .ref q_27), (3, .ref q_25), (2, .ref q_19), (1, .ref q_1), (0, .ref b)]) hx hb dL_law_367 hl (by decide) rfl (fun ls hl => ?_)
      refine lv_aload_n hx hb dL_law_369 rfl (lv_at hl 5 rfl) ?_
      have hPc := hP.sub (ws' := [(q_19, .inr (11, [.int 0, .ref ys_23, .ref yp_24, .int 0]))]) [2] rfl
      have hKc := hK.sub (tys' := []) [] rfl
      refine va_calli (va_runV (As := []) (rest := []) ⟨hx, hb, hml, hown, hts⟩ (c_X7_thrown l dC dI q_19 ys_23 yp_24 sa ta 0) (cwV 0 hts gl_X7_thrown rfl rfl rfl (by decide +kernel) ⟨Nat.le_of_ble_eq_true rfl, Nat.le_of_ble_eq_true rfl⟩) ⟨ax_fbR, va_recv hK hP (ci := 11) (q0 := 2) rfl rfl, ax_prR hPc hKc hS hE⟩ rfl rfl hl.1 rfl (lv_room (Nat.le_of_ble_eq_true rfl)) dL_law_370 ⟨Nat.le_of_ble_eq_true rfl, Nat.le_of_ble_eq_true rfl⟩) hS (fun _ _ h9 => h9.elim) (fun _ h9 => h9.elim) (fun r_66 u_68  t H locs ht hvm hw_67 hB hz1 hk1 hS => ?_)
      have hP := ax_keep hP (fun _ h9 => h9) hk1
      refine ax_i (y := 0) hw_67 ?_
      refine lv_iload hx hb dL_law_373 (lv_at hl 1 rfl) ?_
      refine lv_icmp_eq (tgt := 380) hx hb dL_law_375 (by decide) (fun _ => ?_) (fun h9 => absurd (by decide) h9)
      refine lv_iload hx hb dL_law_380 (lv_at hl 1 rfl) ?_
      refine lv_if_ne (tgt := 397) hx hb dL_law_382 (by decide) (fun h9 => absurd rfl h9) (fun _ => ?_)
      refine lv_aload_n hx hb dL_law_385 rfl (lv_at hl 4 rfl) ?_
      refine lv_iconst (v := 0) hx hb dL_law_386 (by decide) ?_
      refine va_lald hx hb hK hP 1 6 rfl rfl (by unfold vp_in; decide) dL_law_387 ?_
      refine ax_l (y := 0) hw_59.2.2 ?_
      refine lv_iload hx hb dL_law_388 (lv_at hl 0 rfl) ?_
      refine lv_i2l (v := 0) hx hb dL_law_390 (by decide) ?_
      refine W.lcmp hx hb dL_law_391 ?_
      refine ax_i (y := 0) (by decide) ?_
      refine lv_if_eq (tgt := 397) hx hb dL_law_392 (by decide) (fun _ => ?_) (fun h9 => absurd (by decide) h9)
      refine lv_goto (tgt := 1857) hx hb dL_law_397 (by decide) ?_
      refine lv_iinc (v := 5) (lv' := [(5, .int 5), (7, .int 0), (6, .int 0), (4, .ref q_27), (3, .ref q_25), (2, .ref q_19), (1, .ref q_1), (0, .ref b)]) hx hb dL_law_1857 hl (k := 2) rfl (by decide) (by decide) rfl (fun ls hl => ?_)
      refine lv_goto (tgt := 28) hx hb dL_law_1860 (by decide) ?_
      refine lv_iload hx hb dL_law_28 (lv_at hl 0 rfl) ?_
      refine lv_aload_n hx hb dL_law_30 rfl (lv_at hl 7 rfl) ?_
      refine va_slen hx hb hX hbl hbA hS dL_law_31 ?_
      refine ax_i (y := 5) rfl ?_
      refine lv_iconst (v := 5) hx hb dL_law_32 (by decide) ?_
      refine lv_isub hx hb dL_law_33 ?_
      refine ax_i (y := 0) (by decide) ?_
      refine lv_icmp_gt (tgt := 1863) hx hb dL_law_34 (by decide) (fun _ => ?_) (fun h9 => absurd (by decide) h9)
      refine lv_iconst (v := 1) hx hb dL_law_1863 (by decide) ?_
      refine va_forget (fun q hq => by have h9 := hS.2.2 q hq; rw [hAd] at h9; exact h9) ?_
      refine W.widen (k := 600002) (n := 7302232) (Nat.le_of_ble_eq_true rfl) (Nat.le_of_ble_eq_true rfl) ?_
      refine W.base ?_
      exact lw_ret (Drawn.sameBut.refl s.drawn lw_cs) hx hb hr hlocks dL_law_1864
    · exact absurd hw_59.1 hw_63.1
  · refine ax_i (y := 1) hw_59.2 ?_
    refine lv_istore (lv' := [(6, .int 1), (5, .int 0), (4, .ref q_27), (3, .ref q_25), (2, .ref q_19), (1, .ref q_1), (0, .ref b)]) hx hb dL_law_349 hl (by decide) rfl (fun ls hl => ?_)
    refine lv_aload_n hx hb dL_law_351 rfl (lv_at hl 4 rfl) ?_
    refine lv_aload_n hx hb dL_law_352 rfl (lv_at hl 6 rfl) ?_
    refine lv_iload hx hb dL_law_353 (lv_at hl 1 rfl) ?_
    refine lv_iconst (v := 1) hx hb dL_law_355 (by decide) ?_
    refine lv_iadd hx hb dL_law_356 ?_
    refine ax_i (y := 1) (by decide) ?_
    refine va_sld hx hb hX hbl hbA hS (by unfold vp_in; decide) dL_law_357 ?_
    refine ax_i (y := xs 1) rfl ?_
    refine lv_aload_n hx hb dL_law_358 rfl (lv_at hl 6 rfl) ?_
    refine lv_iload hx hb dL_law_359 (lv_at hl 1 rfl) ?_
    refine lv_iconst (v := 2) hx hb dL_law_361 (by decide) ?_
    refine lv_iadd hx hb dL_law_362 ?_
    refine ax_i (y := 2) (by decide) ?_
    refine va_sld hx hb hX hbl hbA hS (by unfold vp_in; decide) dL_law_363 ?_
    refine ax_i (y := xs 2) rfl ?_
    have hPc := hP.sub (ws' := [(q_19, .inr (11, [.int 0, .ref ys_23, .ref yp_24, .int 0])), (ys_23, .inr (3, [.int 0, .ref (ta 4), .int 0])), (yp_24, .inr (3, [.int 0, .ref (ta 4), .int 0]))]) [0, 1, 2] rfl
    have hKc := hK.sub (tys' := []) [] rfl
    have hDc := hD.sub (ws' := [(q_19, .inr (11, [.int 0, .ref ys_23, .ref yp_24, .int 0])), (ys_23, .inr (3, [.int 0, .ref (ta 4), .int 0])), (yp_24, .inr (3, [.int 0, .ref (ta 4), .int 0]))]) [0, 1, 2] (by decide) rfl
    have hFc := va_free (wc := [(q_19, .inr (11, [.int 0, .ref ys_23, .ref yp_24, .int 0])), (ys_23, .inr (3, [.int 0, .ref (ta 4), .int 0])), (yp_24, .inr (3, [.int 0, .ref (ta 4), .int 0]))]) hD hS hA [0, 1, 2] rfl
    refine va_calli (va_runV (As := [.int (xs 1), .int (xs 2)]) (rest := []) ⟨hx, hb, hml, hown, hts⟩ (c_X7_part l dC dI q_19 ys_23 yp_24 sa ta H.size 0 (xs 1) (xs 2)) (cwV 2 hts gl_X7_part rfl rfl rfl (by decide +kernel) ⟨Nat.le_of_ble_eq_true rfl, Nat.le_of_ble_eq_true rfl⟩) ⟨ax_fbW, va_recv hK hP (ci := 11) (q0 := 0) rfl rfl, ax_prW hPc hKc hDc hS hFc hE⟩ rfl rfl hl.1 rfl (lv_room (Nat.le_of_ble_eq_true rfl)) dL_law_364 ⟨Nat.le_of_ble_eq_true rfl, Nat.le_of_ble_eq_true rfl⟩) hS (fun q _ h9 => hFc q h9) hFc (fun r_69 u_71  t H locs ht hvm hw_70 hB hz1 hk1 hS => ?_)
    obtain ⟨th2_72, rfl⟩ : ∃ z, z = u_71 := ⟨_, rfl⟩
    obtain ⟨hP1, hK1, hD1⟩ := hB
    rw [ht] at hP1
    have hK1 := va_K.moved hvm.symm hK1
    obtain ⟨hP, hD⟩ := va_join (wr := [(q_27, .inl (cA_28, 1, .inr (.inr (.inr (.inl (fun _ => 0)))))), (q_25, .inl (cA_26, 1, .inr (.inl of_61)))]) (w1 := [(q_19, .inr (11, [.int th2_72, .ref ys_23, .ref yp_24, .int 0]))]) hP hD [0, 1, 2] [3, 4] rfl rfl (by decide) (by decide) hk1 hFc hP1 hD1
    have hP : va_P (dC, dI) vwCl [(q_27, .inl (cA_28, 1, .inr (.inr (.inr (.inl (fun _ => 0)))))), (q_25, .inl (cA_26, 1, .inr (.inl of_61))), (q_19, .inr (11, [.int th2_72, .ref ys_23, .ref yp_24, .int 0]))] H := hP
    have hD : va_D A [(q_27, .inl (cA_28, 1, .inr (.inr (.inr (.inl (fun _ => 0)))))), (q_25, .inl (cA_26, 1, .inr (.inl of_61))), (q_19, .inr (11, [.int th2_72, .ref ys_23, .ref yp_24, .int 0]))] := hD
    rcases hw_70 with hw_70 | hw_70
    · exact absurd hw_70.1 hw_59.1
    · have e9 := hw_70.2
      subst e9
      refine lv_istore (lv' := [(7, .int r_69), (6, .int 1), (5, .int 0), (4, .ref q_27), (3, .ref q_25), (2, .ref q_19), (1, .ref q_1), (0, .ref b)]) hx hb dL_law_367 hl (by decide) rfl (fun ls hl => ?_)
      refine lv_aload_n hx hb dL_law_369 rfl (lv_at hl 5 rfl) ?_
      have hPc := hP.sub (ws' := [(q_19, .inr (11, [.int 1, .ref ys_23, .ref yp_24, .int 0]))]) [2] rfl
      have hKc := hK.sub (tys' := []) [] rfl
      refine va_calli (va_runV (As := []) (rest := []) ⟨hx, hb, hml, hown, hts⟩ (c_X7_thrown l dC dI q_19 ys_23 yp_24 sa ta 1) (cwV 0 hts gl_X7_thrown rfl rfl rfl (by decide +kernel) ⟨Nat.le_of_ble_eq_true rfl, Nat.le_of_ble_eq_true rfl⟩) ⟨ax_fbR, va_recv hK hP (ci := 11) (q0 := 2) rfl rfl, ax_prR hPc hKc hS hE⟩ rfl rfl hl.1 rfl (lv_room (Nat.le_of_ble_eq_true rfl)) dL_law_370 ⟨Nat.le_of_ble_eq_true rfl, Nat.le_of_ble_eq_true rfl⟩) hS (fun _ _ h9 => h9.elim) (fun _ h9 => h9.elim) (fun r_73 u_75  t H locs ht hvm hw_74 hB hz1 hk1 hS => ?_)
      have hP := ax_keep hP (fun _ h9 => h9) hk1
      refine ax_i (y := 1) hw_74 ?_
      refine lv_iload hx hb dL_law_373 (lv_at hl 1 rfl) ?_
      refine lv_icmp_eq (tgt := 380) hx hb dL_law_375 (by decide) (fun _ => ?_) (fun h9 => absurd (by decide) h9)
      refine lv_iload hx hb dL_law_380 (lv_at hl 1 rfl) ?_
      refine lv_if_ne (tgt := 397) hx hb dL_law_382 (by decide) (fun _ => ?_) (fun h9 => absurd h9 (by decide))
      refine lv_goto (tgt := 1857) hx hb dL_law_397 (by decide) ?_
      refine lv_iinc (v := 5) (lv' := [(5, .int 5), (7, .int r_69), (6, .int 1), (4, .ref q_27), (3, .ref q_25), (2, .ref q_19), (1, .ref q_1), (0, .ref b)]) hx hb dL_law_1857 hl (k := 2) rfl (by decide) (by decide) rfl (fun ls hl => ?_)
      refine lv_goto (tgt := 28) hx hb dL_law_1860 (by decide) ?_
      refine lv_iload hx hb dL_law_28 (lv_at hl 0 rfl) ?_
      refine lv_aload_n hx hb dL_law_30 rfl (lv_at hl 7 rfl) ?_
      refine va_slen hx hb hX hbl hbA hS dL_law_31 ?_
      refine ax_i (y := 5) rfl ?_
      refine lv_iconst (v := 5) hx hb dL_law_32 (by decide) ?_
      refine lv_isub hx hb dL_law_33 ?_
      refine ax_i (y := 0) (by decide) ?_
      refine lv_icmp_gt (tgt := 1863) hx hb dL_law_34 (by decide) (fun _ => ?_) (fun h9 => absurd (by decide) h9)
      refine lv_iconst (v := 1) hx hb dL_law_1863 (by decide) ?_
      refine va_forget (fun q hq => by have h9 := hS.2.2 q hq; rw [hAd] at h9; exact h9) ?_
      refine W.widen (k := 600002) (n := 7302232) (Nat.le_of_ble_eq_true rfl) (Nat.le_of_ble_eq_true rfl) ?_
      refine W.base ?_
      exact lw_ret (Drawn.sameBut.refl s.drawn lw_cs) hx hb hr hlocks dL_law_1864

set_option maxHeartbeats 4000000 in
set_option maxRecDepth 100000 in
theorem law_c3 {p : Program} {e : Env} {s : State} {m : MethodId} {below : List Frame} {meth : Method} {c : Code} (l : Launch) (hlt : l.stackTraces = false) {dC : Nat → ClassId} {dI : Nat → Nat → Nat} {b : Nat} {xs : Nat → Int32} (C0 : lw_At p s m meth c b 5 xs) {A : Nat → Prop} (hAd : A = fun q => s.heap.size ≤ q) {sa ta : Nat → Nat} (hE : ax_S sa ta A s s.heap) {q_1 xs_5 xp_6 xl_7 xn_8 xm_9 xr_10 xw_11 xt_12 q_19 ys_23 yp_24 q_25 q_27 : Nat} {cS_13 cP_14 cn_15 cm_16 cw_17 ct_18 cA_26 cA_28 : ClassId} {H : Heap} {locs : List Loc} (hK : va_K (dC, dI) vwCl [(cS_13, .object "Diffractory$Source"), (cP_14, .object "Diffractory$Part"), (cn_15, .long), (cm_16, .long), (cw_17, .long), (ct_18, .long), (cA_26, .long), (cA_28, .double)] s) (hP : va_P (dC, dI) vwCl [(q_1, .inr (8, [.ref xs_5, .ref xp_6, .int 0, .int 0, .ref xl_7, .ref xr_10])), (xs_5, .inl (cS_13, 3, .inr (.inr (.inr (.inr (fun _ => none)))))), (xp_6, .inl (cP_14, 8, .inr (.inr (.inr (.inr (fun _ => none)))))), (xl_7, .inr (4, [.ref xn_8, .ref xm_9])), (xn_8, .inl (cn_15, 64, .inr (.inl (fun _ => 0)))), (xm_9, .inl (cm_16, 64, .inr (.inl (fun _ => 0)))), (xr_10, .inr (6, [.ref xw_11, .ref xt_12])), (xw_11, .inl (cw_17, 8, .inr (.inl (fun _ => 0)))), (xt_12, .inl (ct_18, 8, .inr (.inl (fun _ => 0)))), (q_19, .inr (11, [.int 0, .ref ys_23, .ref yp_24, .int 0])), (ys_23, .inr (3, [.int 0, .ref (ta 4), .int 0])), (yp_24, .inr (3, [.int 0, .ref (ta 4), .int 0])), (q_25, .inl (cA_26, 1, .inr (.inl (fun _ => 0)))), (q_27, .inl (cA_28, 1, .inr (.inr (.inr (.inl (fun _ => 0))))))] H) (hD : va_D A [(q_1, .inr (8, [.ref xs_5, .ref xp_6, .int 0, .int 0, .ref xl_7, .ref xr_10])), (xs_5, .inl (cS_13, 3, .inr (.inr (.inr (.inr (fun _ => none)))))), (xp_6, .inl (cP_14, 8, .inr (.inr (.inr (.inr (fun _ => none)))))), (xl_7, .inr (4, [.ref xn_8, .ref xm_9])), (xn_8, .inl (cn_15, 64, .inr (.inl (fun _ => 0)))), (xm_9, .inl (cm_16, 64, .inr (.inl (fun _ => 0)))), (xr_10, .inr (6, [.ref xw_11, .ref xt_12])), (xw_11, .inl (cw_17, 8, .inr (.inl (fun _ => 0)))), (xt_12, .inl (ct_18, 8, .inr (.inl (fun _ => 0)))), (q_19, .inr (11, [.int 0, .ref ys_23, .ref yp_24, .int 0])), (ys_23, .inr (3, [.int 0, .ref (ta 4), .int 0])), (yp_24, .inr (3, [.int 0, .ref (ta 4), .int 0])), (q_25, .inl (cA_26, 1, .inr (.inl (fun _ => 0)))), (q_27, .inl (cA_28, 1, .inr (.inr (.inr (.inl (fun _ => 0))))))]) (hS : va_S A s.heap H locs) {ls : Array Slot} (hl : lv_has ls 9 [(5, .int 0), (4, .ref q_27), (3, .ref q_25), (2, .ref q_19), (1, .ref q_1), (0, .ref b)]) : W p l e room_1 s m #[Value.ref b] below meth c H locs 14 177 (lw_Z below #[Value.ref b] s) (F0 m 400 ls []) := by
  obtain ⟨hx, hb, hr, hml, hown, hts, hX, hbl, hlocks, hgv⟩ := C0
  have hA : ∀ q : Nat, s.heap.size ≤ q → A q := fun q h => by rw [hAd]; exact h
  have hbA : ¬ A b := by rw [hAd]; exact Nat.not_le.mpr hbl
  refine lv_aload_n hx hb dL_law_400 rfl (lv_at hl 4 rfl) ?_
  refine lv_aload_n hx hb dL_law_401 rfl (lv_at hl 5 rfl) ?_
  refine lv_iload hx hb dL_law_402 (lv_at hl 0 rfl) ?_
  refine lv_iconst (v := 1) hx hb dL_law_404 (by decide) ?_
  refine lv_iadd hx hb dL_law_405 ?_
  refine ax_i (y := 1) (by decide) ?_
  refine va_sld hx hb hX hbl hbA hS (by unfold vp_in; decide) dL_law_406 ?_
  refine ax_i (y := xs 1) rfl ?_
  refine lv_aload_n hx hb dL_law_407 rfl (lv_at hl 5 rfl) ?_
  refine lv_iload hx hb dL_law_408 (lv_at hl 0 rfl) ?_
  refine lv_iconst (v := 2) hx hb dL_law_410 (by decide) ?_
  refine lv_iadd hx hb dL_law_411 ?_
  refine ax_i (y := 2) (by decide) ?_
  refine va_sld hx hb hX hbl hbA hS (by unfold vp_in; decide) dL_law_412 ?_
  refine ax_i (y := xs 2) rfl ?_
  refine lv_aload_n hx hb dL_law_413 rfl (lv_at hl 2 rfl) ?_
  have hPc := hP.sub (ws' := [(q_1, .inr (8, [.ref xs_5, .ref xp_6, .int 0, .int 0, .ref xl_7, .ref xr_10])), (xs_5, .inl (cS_13, 3, .inr (.inr (.inr (.inr (fun _ => none)))))), (xp_6, .inl (cP_14, 8, .inr (.inr (.inr (.inr (fun _ => none)))))), (xl_7, .inr (4, [.ref xn_8, .ref xm_9])), (xn_8, .inl (cn_15, 64, .inr (.inl (fun _ => 0)))), (xm_9, .inl (cm_16, 64, .inr (.inl (fun _ => 0)))), (xr_10, .inr (6, [.ref xw_11, .ref xt_12])), (xw_11, .inl (cw_17, 8, .inr (.inl (fun _ => 0)))), (xt_12, .inl (ct_18, 8, .inr (.inl (fun _ => 0)))), (q_25, .inl (cA_26, 1, .inr (.inl (fun _ => 0))))]) [0, 1, 2, 3, 4, 5, 6, 7, 8, 12] rfl
  have hKc := hK.sub (tys' := [(cS_13, .object "Diffractory$Source"), (cP_14, .object "Diffractory$Part"), (cn_15, .long), (cm_16, .long), (cw_17, .long), (ct_18, .long), (cA_26, .long)]) [0, 1, 2, 3, 4, 5, 6] rfl
  have hDc := hD.sub (ws' := [(q_1, .inr (8, [.ref xs_5, .ref xp_6, .int 0, .int 0, .ref xl_7, .ref xr_10])), (xs_5, .inl (cS_13, 3, .inr (.inr (.inr (.inr (fun _ => none)))))), (xp_6, .inl (cP_14, 8, .inr (.inr (.inr (.inr (fun _ => none)))))), (xl_7, .inr (4, [.ref xn_8, .ref xm_9])), (xn_8, .inl (cn_15, 64, .inr (.inl (fun _ => 0)))), (xm_9, .inl (cm_16, 64, .inr (.inl (fun _ => 0)))), (xr_10, .inr (6, [.ref xw_11, .ref xt_12])), (xw_11, .inl (cw_17, 8, .inr (.inl (fun _ => 0)))), (xt_12, .inl (ct_18, 8, .inr (.inl (fun _ => 0)))), (q_25, .inl (cA_26, 1, .inr (.inl (fun _ => 0))))]) [0, 1, 2, 3, 4, 5, 6, 7, 8, 12] (by decide) rfl
  have hFc := va_free (wc := [(q_1, .inr (8, [.ref xs_5, .ref xp_6, .int 0, .int 0, .ref xl_7, .ref xr_10])), (xs_5, .inl (cS_13, 3, .inr (.inr (.inr (.inr (fun _ => none)))))), (xp_6, .inl (cP_14, 8, .inr (.inr (.inr (.inr (fun _ => none)))))), (xl_7, .inr (4, [.ref xn_8, .ref xm_9])), (xn_8, .inl (cn_15, 64, .inr (.inl (fun _ => 0)))), (xm_9, .inl (cm_16, 64, .inr (.inl (fun _ => 0)))), (xr_10, .inr (6, [.ref xw_11, .ref xt_12])), (xw_11, .inl (cw_17, 8, .inr (.inl (fun _ => 0)))), (xt_12, .inl (ct_18, 8, .inr (.inl (fun _ => 0)))), (q_25, .inl (cA_26, 1, .inr (.inl (fun _ => 0))))]) hD hS hA [0, 1, 2, 3, 4, 5, 6, 7, 8, 12] rfl
  refine va_calli (vx_runSW (As := [.ref q_1, .int (xs 1), .int (xs 2), .ref q_25]) (rest := []) ⟨hx, hb, hml, hown, hts⟩ (c_L_set l hlt dC dI q_1 xs_5 xp_6 xl_7 xn_8 xm_9 xr_10 xw_11 xt_12 q_25 cS_13 cP_14 cn_15 cm_16 cw_17 ct_18 cA_26 sa ta H.size (xs 1) (xs 2)) (vx_cwSW 4 hts gl_L_set rfl rfl rfl (by decide +kernel) ⟨Nat.le_of_ble_eq_true rfl, Nat.le_of_ble_eq_true rfl⟩) ⟨ax_fbW, ax_prW hPc hKc hDc hS hFc hE⟩ rfl rfl hl.1 rfl (lv_room (Nat.le_of_ble_eq_true rfl)) dL_law_414 ⟨Nat.le_of_ble_eq_true rfl, Nat.le_of_ble_eq_true rfl⟩) hS (fun q _ h9 => hFc q h9) hFc (fun r_76 u_78  t H locs ht hvm hw_77 hB hz1 hk1 hS => ?_)
  obtain ⟨of_79, rfl⟩ : ∃ z, z = u_78 := ⟨_, rfl⟩
  obtain ⟨hP1, hK1, hD1⟩ := hB
  rw [ht] at hP1
  have hK1 := va_K.moved hvm.symm hK1
  obtain ⟨hP, hD⟩ := va_join (wr := [(q_19, .inr (11, [.int 0, .ref ys_23, .ref yp_24, .int 0])), (ys_23, .inr (3, [.int 0, .ref (ta 4), .int 0])), (yp_24, .inr (3, [.int 0, .ref (ta 4), .int 0])), (q_27, .inl (cA_28, 1, .inr (.inr (.inr (.inl (fun _ => 0))))))]) (w1 := [(q_25, .inl (cA_26, 1, .inr (.inl of_79)))]) hP hD [0, 1, 2, 3, 4, 5, 6, 7, 8, 12] [9, 10, 11, 13] rfl rfl (by decide) (by decide) hk1 hFc hP1 hD1
  have hP : va_P (dC, dI) vwCl [(q_19, .inr (11, [.int 0, .ref ys_23, .ref yp_24, .int 0])), (ys_23, .inr (3, [.int 0, .ref (ta 4), .int 0])), (yp_24, .inr (3, [.int 0, .ref (ta 4), .int 0])), (q_27, .inl (cA_28, 1, .inr (.inr (.inr (.inl (fun _ => 0)))))), (q_25, .inl (cA_26, 1, .inr (.inl of_79)))] H := hP
  have hD : va_D A [(q_19, .inr (11, [.int 0, .ref ys_23, .ref yp_24, .int 0])), (ys_23, .inr (3, [.int 0, .ref (ta 4), .int 0])), (yp_24, .inr (3, [.int 0, .ref (ta 4), .int 0])), (q_27, .inl (cA_28, 1, .inr (.inr (.inr (.inl (fun _ => 0)))))), (q_25, .inl (cA_26, 1, .inr (.inl of_79)))] := hD
  refine ax_i (y := 1) hw_77 ?_
  refine lv_istore (lv' := [(6, .int 1), (5, .int 0), (4, .ref q_27), (3, .ref q_25), (2, .ref q_19), (1, .ref q_1), (0, .ref b)]) hx hb dL_law_417 hl (by decide) rfl (fun ls hl => ?_)
  refine lv_aload_n hx hb dL_law_419 rfl (lv_at hl 4 rfl) ?_
  refine lv_aload_n hx hb dL_law_420 rfl (lv_at hl 6 rfl) ?_
  refine lv_iload hx hb dL_law_421 (lv_at hl 1 rfl) ?_
  refine lv_iconst (v := 1) hx hb dL_law_423 (by decide) ?_
  refine lv_iadd hx hb dL_law_424 ?_
  refine ax_i (y := 1) (by decide) ?_
  refine va_sld hx hb hX hbl hbA hS (by unfold vp_in; decide) dL_law_425 ?_
  refine ax_i (y := xs 1) rfl ?_
  refine lv_aload_n hx hb dL_law_426 rfl (lv_at hl 6 rfl) ?_
  refine lv_iload hx hb dL_law_427 (lv_at hl 1 rfl) ?_
  refine lv_iconst (v := 2) hx hb dL_law_429 (by decide) ?_
  refine lv_iadd hx hb dL_law_430 ?_
  refine ax_i (y := 2) (by decide) ?_
  refine va_sld hx hb hX hbl hbA hS (by unfold vp_in; decide) dL_law_431 ?_
  refine ax_i (y := xs 2) rfl ?_
  have hPc := hP.sub (ws' := [(q_19, .inr (11, [.int 0, .ref ys_23, .ref yp_24, .int 0])), (ys_23, .inr (3, [.int 0, .ref (ta 4), .int 0])), (yp_24, .inr (3, [.int 0, .ref (ta 4), .int 0]))]) [0, 1, 2] rfl
  have hKc := hK.sub (tys' := []) [] rfl
  have hDc := hD.sub (ws' := [(q_19, .inr (11, [.int 0, .ref ys_23, .ref yp_24, .int 0])), (ys_23, .inr (3, [.int 0, .ref (ta 4), .int 0])), (yp_24, .inr (3, [.int 0, .ref (ta 4), .int 0]))]) [0, 1, 2] (by decide) rfl
  have hFc := va_free (wc := [(q_19, .inr (11, [.int 0, .ref ys_23, .ref yp_24, .int 0])), (ys_23, .inr (3, [.int 0, .ref (ta 4), .int 0])), (yp_24, .inr (3, [.int 0, .ref (ta 4), .int 0]))]) hD hS hA [0, 1, 2] rfl
  refine va_calli (va_runV (As := [.int (xs 1), .int (xs 2)]) (rest := []) ⟨hx, hb, hml, hown, hts⟩ (c_X7_set l dC dI q_19 ys_23 yp_24 sa ta H.size 0 (xs 1) (xs 2)) (cwV 2 hts gl_X7_set rfl rfl rfl (by decide +kernel) ⟨Nat.le_of_ble_eq_true rfl, Nat.le_of_ble_eq_true rfl⟩) ⟨ax_fbW, va_recv hK hP (ci := 11) (q0 := 0) rfl rfl, ax_prW hPc hKc hDc hS hFc hE⟩ rfl rfl hl.1 rfl (lv_room (Nat.le_of_ble_eq_true rfl)) dL_law_432 ⟨Nat.le_of_ble_eq_true rfl, Nat.le_of_ble_eq_true rfl⟩) hS (fun q _ h9 => hFc q h9) hFc (fun r_80 u_82  t H locs ht hvm hw_81 hB hz1 hk1 hS => ?_)
  obtain ⟨th2_83, rfl⟩ : ∃ z, z = u_82 := ⟨_, rfl⟩
  obtain ⟨hP1, hK1, hD1⟩ := hB
  rw [ht] at hP1
  have hK1 := va_K.moved hvm.symm hK1
  obtain ⟨hP, hD⟩ := va_join (wr := [(q_27, .inl (cA_28, 1, .inr (.inr (.inr (.inl (fun _ => 0)))))), (q_25, .inl (cA_26, 1, .inr (.inl of_79)))]) (w1 := [(q_19, .inr (11, [.int th2_83, .ref ys_23, .ref yp_24, .int 0]))]) hP hD [0, 1, 2] [3, 4] rfl rfl (by decide) (by decide) hk1 hFc hP1 hD1
  have hP : va_P (dC, dI) vwCl [(q_27, .inl (cA_28, 1, .inr (.inr (.inr (.inl (fun _ => 0)))))), (q_25, .inl (cA_26, 1, .inr (.inl of_79))), (q_19, .inr (11, [.int th2_83, .ref ys_23, .ref yp_24, .int 0]))] H := hP
  have hD : va_D A [(q_27, .inl (cA_28, 1, .inr (.inr (.inr (.inl (fun _ => 0)))))), (q_25, .inl (cA_26, 1, .inr (.inl of_79))), (q_19, .inr (11, [.int th2_83, .ref ys_23, .ref yp_24, .int 0]))] := hD
  have e9 := hw_81
  subst e9
  refine lv_istore (lv' := [(7, .int r_80), (6, .int 1), (5, .int 0), (4, .ref q_27), (3, .ref q_25), (2, .ref q_19), (1, .ref q_1), (0, .ref b)]) hx hb dL_law_435 hl (by decide) rfl (fun ls hl => ?_)
  refine lv_aload_n hx hb dL_law_437 rfl (lv_at hl 5 rfl) ?_
  have hPc := hP.sub (ws' := [(q_19, .inr (11, [.int 1, .ref ys_23, .ref yp_24, .int 0]))]) [2] rfl
  have hKc := hK.sub (tys' := []) [] rfl
  refine va_calli (va_runV (As := []) (rest := []) ⟨hx, hb, hml, hown, hts⟩ (c_X7_thrown l dC dI q_19 ys_23 yp_24 sa ta 1) (cwV 0 hts gl_X7_thrown rfl rfl rfl (by decide +kernel) ⟨Nat.le_of_ble_eq_true rfl, Nat.le_of_ble_eq_true rfl⟩) ⟨ax_fbR, va_recv hK hP (ci := 11) (q0 := 2) rfl rfl, ax_prR hPc hKc hS hE⟩ rfl rfl hl.1 rfl (lv_room (Nat.le_of_ble_eq_true rfl)) dL_law_438 ⟨Nat.le_of_ble_eq_true rfl, Nat.le_of_ble_eq_true rfl⟩) hS (fun _ _ h9 => h9.elim) (fun _ h9 => h9.elim) (fun r_84 u_86  t H locs ht hvm hw_85 hB hz1 hk1 hS => ?_)
  have hP := ax_keep hP (fun _ h9 => h9) hk1
  refine ax_i (y := 1) hw_85 ?_
  refine lv_iload hx hb dL_law_441 (lv_at hl 1 rfl) ?_
  refine lv_icmp_eq (tgt := 448) hx hb dL_law_443 (by decide) (fun _ => ?_) (fun h9 => absurd (by decide) h9)
  refine lv_iload hx hb dL_law_448 (lv_at hl 1 rfl) ?_
  refine lv_if_ne (tgt := 465) hx hb dL_law_450 (by decide) (fun _ => ?_) (fun h9 => absurd h9 (by decide))
  refine lv_goto (tgt := 1857) hx hb dL_law_465 (by decide) ?_
  refine lv_iinc (v := 5) (lv' := [(5, .int 5), (7, .int r_80), (6, .int 1), (4, .ref q_27), (3, .ref q_25), (2, .ref q_19), (1, .ref q_1), (0, .ref b)]) hx hb dL_law_1857 hl (k := 2) rfl (by decide) (by decide) rfl (fun ls hl => ?_)
  refine lv_goto (tgt := 28) hx hb dL_law_1860 (by decide) ?_
  refine lv_iload hx hb dL_law_28 (lv_at hl 0 rfl) ?_
  refine lv_aload_n hx hb dL_law_30 rfl (lv_at hl 7 rfl) ?_
  refine va_slen hx hb hX hbl hbA hS dL_law_31 ?_
  refine ax_i (y := 5) rfl ?_
  refine lv_iconst (v := 5) hx hb dL_law_32 (by decide) ?_
  refine lv_isub hx hb dL_law_33 ?_
  refine ax_i (y := 0) (by decide) ?_
  refine lv_icmp_gt (tgt := 1863) hx hb dL_law_34 (by decide) (fun _ => ?_) (fun h9 => absurd (by decide) h9)
  refine lv_iconst (v := 1) hx hb dL_law_1863 (by decide) ?_
  refine va_forget (fun q hq => by have h9 := hS.2.2 q hq; rw [hAd] at h9; exact h9) ?_
  refine W.widen (k := 600002) (n := 7302232) (Nat.le_of_ble_eq_true rfl) (Nat.le_of_ble_eq_true rfl) ?_
  refine W.base ?_
  exact lw_ret (Drawn.sameBut.refl s.drawn lw_cs) hx hb hr hlocks dL_law_1864

set_option maxHeartbeats 4000000 in
set_option maxRecDepth 100000 in
theorem law_c4 {p : Program} {e : Env} {s : State} {m : MethodId} {below : List Frame} {meth : Method} {c : Code} (l : Launch) (hlt : l.stackTraces = false) {dC : Nat → ClassId} {dI : Nat → Nat → Nat} {b : Nat} {xs : Nat → Int32} (C0 : lw_At p s m meth c b 5 xs) {A : Nat → Prop} (hAd : A = fun q => s.heap.size ≤ q) {sa ta : Nat → Nat} (hE : ax_S sa ta A s s.heap) {q_1 xs_5 xp_6 xl_7 xn_8 xm_9 xr_10 xw_11 xt_12 q_19 ys_23 yp_24 q_25 q_27 : Nat} {cS_13 cP_14 cn_15 cm_16 cw_17 ct_18 cA_26 cA_28 : ClassId} {H : Heap} {locs : List Loc} (hK : va_K (dC, dI) vwCl [(cS_13, .object "Diffractory$Source"), (cP_14, .object "Diffractory$Part"), (cn_15, .long), (cm_16, .long), (cw_17, .long), (ct_18, .long), (cA_26, .long), (cA_28, .double)] s) (hP : va_P (dC, dI) vwCl [(q_1, .inr (8, [.ref xs_5, .ref xp_6, .int 0, .int 0, .ref xl_7, .ref xr_10])), (xs_5, .inl (cS_13, 3, .inr (.inr (.inr (.inr (fun _ => none)))))), (xp_6, .inl (cP_14, 8, .inr (.inr (.inr (.inr (fun _ => none)))))), (xl_7, .inr (4, [.ref xn_8, .ref xm_9])), (xn_8, .inl (cn_15, 64, .inr (.inl (fun _ => 0)))), (xm_9, .inl (cm_16, 64, .inr (.inl (fun _ => 0)))), (xr_10, .inr (6, [.ref xw_11, .ref xt_12])), (xw_11, .inl (cw_17, 8, .inr (.inl (fun _ => 0)))), (xt_12, .inl (ct_18, 8, .inr (.inl (fun _ => 0)))), (q_19, .inr (11, [.int 0, .ref ys_23, .ref yp_24, .int 0])), (ys_23, .inr (3, [.int 0, .ref (ta 4), .int 0])), (yp_24, .inr (3, [.int 0, .ref (ta 4), .int 0])), (q_25, .inl (cA_26, 1, .inr (.inl (fun _ => 0)))), (q_27, .inl (cA_28, 1, .inr (.inr (.inr (.inl (fun _ => 0))))))] H) (hD : va_D A [(q_1, .inr (8, [.ref xs_5, .ref xp_6, .int 0, .int 0, .ref xl_7, .ref xr_10])), (xs_5, .inl (cS_13, 3, .inr (.inr (.inr (.inr (fun _ => none)))))), (xp_6, .inl (cP_14, 8, .inr (.inr (.inr (.inr (fun _ => none)))))), (xl_7, .inr (4, [.ref xn_8, .ref xm_9])), (xn_8, .inl (cn_15, 64, .inr (.inl (fun _ => 0)))), (xm_9, .inl (cm_16, 64, .inr (.inl (fun _ => 0)))), (xr_10, .inr (6, [.ref xw_11, .ref xt_12])), (xw_11, .inl (cw_17, 8, .inr (.inl (fun _ => 0)))), (xt_12, .inl (ct_18, 8, .inr (.inl (fun _ => 0)))), (q_19, .inr (11, [.int 0, .ref ys_23, .ref yp_24, .int 0])), (ys_23, .inr (3, [.int 0, .ref (ta 4), .int 0])), (yp_24, .inr (3, [.int 0, .ref (ta 4), .int 0])), (q_25, .inl (cA_26, 1, .inr (.inl (fun _ => 0)))), (q_27, .inl (cA_28, 1, .inr (.inr (.inr (.inl (fun _ => 0))))))]) (hS : va_S A s.heap H locs) {ls : Array Slot} (hl : lv_has ls 9 [(5, .int 0), (4, .ref q_27), (3, .ref q_25), (2, .ref q_19), (1, .ref q_1), (0, .ref b)]) : W p l e room_1 s m #[Value.ref b] below meth c H locs 14 177 (lw_Z below #[Value.ref b] s) (F0 m 468 ls []) := by
  obtain ⟨hx, hb, hr, hml, hown, hts, hX, hbl, hlocks, hgv⟩ := C0
  have hA : ∀ q : Nat, s.heap.size ≤ q → A q := fun q h => by rw [hAd]; exact h
  have hbA : ¬ A b := by rw [hAd]; exact Nat.not_le.mpr hbl
  refine lv_aload_n hx hb dL_law_468 rfl (lv_at hl 4 rfl) ?_
  refine lv_aload_n hx hb dL_law_469 rfl (lv_at hl 5 rfl) ?_
  refine lv_iload hx hb dL_law_470 (lv_at hl 0 rfl) ?_
  refine lv_iconst (v := 1) hx hb dL_law_472 (by decide) ?_
  refine lv_iadd hx hb dL_law_473 ?_
  refine ax_i (y := 1) (by decide) ?_
  refine va_sld hx hb hX hbl hbA hS (by unfold vp_in; decide) dL_law_474 ?_
  refine ax_i (y := xs 1) rfl ?_
  refine lv_aload_n hx hb dL_law_475 rfl (lv_at hl 5 rfl) ?_
  refine lv_iload hx hb dL_law_476 (lv_at hl 0 rfl) ?_
  refine lv_iconst (v := 2) hx hb dL_law_478 (by decide) ?_
  refine lv_iadd hx hb dL_law_479 ?_
  refine ax_i (y := 2) (by decide) ?_
  refine va_sld hx hb hX hbl hbA hS (by unfold vp_in; decide) dL_law_480 ?_
  refine ax_i (y := xs 2) rfl ?_
  refine lv_if_eq (tgt := 488) hx hb dL_law_481 (by decide) (fun c_87 => ?_) (fun c_87 => ?_)
  · have c_87 : ((xs 2)).toInt = 0 := (ax_eq _ _).mp c_87
    refine lv_iconst (v := 0) hx hb dL_law_488 (by decide) ?_
    refine lv_aload_n hx hb dL_law_489 rfl (lv_at hl 2 rfl) ?_
    have hPc := hP.sub (ws' := [(q_1, .inr (8, [.ref xs_5, .ref xp_6, .int 0, .int 0, .ref xl_7, .ref xr_10])), (xs_5, .inl (cS_13, 3, .inr (.inr (.inr (.inr (fun _ => none)))))), (xp_6, .inl (cP_14, 8, .inr (.inr (.inr (.inr (fun _ => none)))))), (xl_7, .inr (4, [.ref xn_8, .ref xm_9])), (xn_8, .inl (cn_15, 64, .inr (.inl (fun _ => 0)))), (xm_9, .inl (cm_16, 64, .inr (.inl (fun _ => 0)))), (xr_10, .inr (6, [.ref xw_11, .ref xt_12])), (xw_11, .inl (cw_17, 8, .inr (.inl (fun _ => 0)))), (xt_12, .inl (ct_18, 8, .inr (.inl (fun _ => 0)))), (q_25, .inl (cA_26, 1, .inr (.inl (fun _ => 0))))]) [0, 1, 2, 3, 4, 5, 6, 7, 8, 12] rfl
    have hKc := hK.sub (tys' := [(cS_13, .object "Diffractory$Source"), (cP_14, .object "Diffractory$Part"), (cn_15, .long), (cm_16, .long), (cw_17, .long), (ct_18, .long), (cA_26, .long)]) [0, 1, 2, 3, 4, 5, 6] rfl
    have hDc := hD.sub (ws' := [(q_1, .inr (8, [.ref xs_5, .ref xp_6, .int 0, .int 0, .ref xl_7, .ref xr_10])), (xs_5, .inl (cS_13, 3, .inr (.inr (.inr (.inr (fun _ => none)))))), (xp_6, .inl (cP_14, 8, .inr (.inr (.inr (.inr (fun _ => none)))))), (xl_7, .inr (4, [.ref xn_8, .ref xm_9])), (xn_8, .inl (cn_15, 64, .inr (.inl (fun _ => 0)))), (xm_9, .inl (cm_16, 64, .inr (.inl (fun _ => 0)))), (xr_10, .inr (6, [.ref xw_11, .ref xt_12])), (xw_11, .inl (cw_17, 8, .inr (.inl (fun _ => 0)))), (xt_12, .inl (ct_18, 8, .inr (.inl (fun _ => 0)))), (q_25, .inl (cA_26, 1, .inr (.inl (fun _ => 0))))]) [0, 1, 2, 3, 4, 5, 6, 7, 8, 12] (by decide) rfl
    have hFc := va_free (wc := [(q_1, .inr (8, [.ref xs_5, .ref xp_6, .int 0, .int 0, .ref xl_7, .ref xr_10])), (xs_5, .inl (cS_13, 3, .inr (.inr (.inr (.inr (fun _ => none)))))), (xp_6, .inl (cP_14, 8, .inr (.inr (.inr (.inr (fun _ => none)))))), (xl_7, .inr (4, [.ref xn_8, .ref xm_9])), (xn_8, .inl (cn_15, 64, .inr (.inl (fun _ => 0)))), (xm_9, .inl (cm_16, 64, .inr (.inl (fun _ => 0)))), (xr_10, .inr (6, [.ref xw_11, .ref xt_12])), (xw_11, .inl (cw_17, 8, .inr (.inl (fun _ => 0)))), (xt_12, .inl (ct_18, 8, .inr (.inl (fun _ => 0)))), (q_25, .inl (cA_26, 1, .inr (.inl (fun _ => 0))))]) hD hS hA [0, 1, 2, 3, 4, 5, 6, 7, 8, 12] rfl
    refine va_calli (vx_runSW (As := [.ref q_1, .int (xs 1), .int 0, .ref q_25]) (rest := []) ⟨hx, hb, hml, hown, hts⟩ (c_L_put l hlt dC dI q_1 xs_5 xp_6 xl_7 xn_8 xm_9 xr_10 xw_11 xt_12 q_25 cS_13 cP_14 cn_15 cm_16 cw_17 ct_18 cA_26 sa ta H.size (xs 1) 0) (vx_cwSW 4 hts gl_L_put rfl rfl rfl (by decide +kernel) ⟨Nat.le_of_ble_eq_true rfl, Nat.le_of_ble_eq_true rfl⟩) ⟨ax_fbW, ax_prW hPc hKc hDc hS hFc hE⟩ rfl rfl hl.1 rfl (lv_room (Nat.le_of_ble_eq_true rfl)) dL_law_490 ⟨Nat.le_of_ble_eq_true rfl, Nat.le_of_ble_eq_true rfl⟩) hS (fun q _ h9 => hFc q h9) hFc (fun r_88 u_90  t H locs ht hvm hw_89 hB hz1 hk1 hS => ?_)
    obtain ⟨of_91, rfl⟩ : ∃ z, z = u_90 := ⟨_, rfl⟩
    obtain ⟨hP1, hK1, hD1⟩ := hB
    rw [ht] at hP1
    have hK1 := va_K.moved hvm.symm hK1
    obtain ⟨hP, hD⟩ := va_join (wr := [(q_19, .inr (11, [.int 0, .ref ys_23, .ref yp_24, .int 0])), (ys_23, .inr (3, [.int 0, .ref (ta 4), .int 0])), (yp_24, .inr (3, [.int 0, .ref (ta 4), .int 0])), (q_27, .inl (cA_28, 1, .inr (.inr (.inr (.inl (fun _ => 0))))))]) (w1 := [(q_25, .inl (cA_26, 1, .inr (.inl of_91)))]) hP hD [0, 1, 2, 3, 4, 5, 6, 7, 8, 12] [9, 10, 11, 13] rfl rfl (by decide) (by decide) hk1 hFc hP1 hD1
    have hP : va_P (dC, dI) vwCl [(q_19, .inr (11, [.int 0, .ref ys_23, .ref yp_24, .int 0])), (ys_23, .inr (3, [.int 0, .ref (ta 4), .int 0])), (yp_24, .inr (3, [.int 0, .ref (ta 4), .int 0])), (q_27, .inl (cA_28, 1, .inr (.inr (.inr (.inl (fun _ => 0)))))), (q_25, .inl (cA_26, 1, .inr (.inl of_91)))] H := hP
    have hD : va_D A [(q_19, .inr (11, [.int 0, .ref ys_23, .ref yp_24, .int 0])), (ys_23, .inr (3, [.int 0, .ref (ta 4), .int 0])), (yp_24, .inr (3, [.int 0, .ref (ta 4), .int 0])), (q_27, .inl (cA_28, 1, .inr (.inr (.inr (.inl (fun _ => 0)))))), (q_25, .inl (cA_26, 1, .inr (.inl of_91)))] := hD
    refine ax_i (y := 1) hw_89 ?_
    refine lv_istore (lv' := [(6, .int 1), (5, .int 0), (4, .ref q_27), (3, .ref q_25), (2, .ref q_19), (1, .ref q_1), (0, .ref b)]) hx hb dL_law_493 hl (by decide) rfl (fun ls hl => ?_)
    refine lv_aload_n hx hb dL_law_495 rfl (lv_at hl 4 rfl) ?_
    refine lv_aload_n hx hb dL_law_496 rfl (lv_at hl 6 rfl) ?_
    refine lv_iload hx hb dL_law_497 (lv_at hl 1 rfl) ?_
    refine lv_iconst (v := 1) hx hb dL_law_499 (by decide) ?_
    refine lv_iadd hx hb dL_law_500 ?_
    refine ax_i (y := 1) (by decide) ?_
    refine va_sld hx hb hX hbl hbA hS (by unfold vp_in; decide) dL_law_501 ?_
    refine ax_i (y := xs 1) rfl ?_
    refine lv_aload_n hx hb dL_law_502 rfl (lv_at hl 6 rfl) ?_
    refine lv_iload hx hb dL_law_503 (lv_at hl 1 rfl) ?_
    refine lv_iconst (v := 2) hx hb dL_law_505 (by decide) ?_
    refine lv_iadd hx hb dL_law_506 ?_
    refine ax_i (y := 2) (by decide) ?_
    refine va_sld hx hb hX hbl hbA hS (by unfold vp_in; decide) dL_law_507 ?_
    refine ax_i (y := xs 2) rfl ?_
    refine lv_if_eq (tgt := 515) hx hb dL_law_508 (by decide) (fun c_92 => ?_) (fun c_92 => ?_)
    · have c_92 : ((xs 2)).toInt = 0 := (ax_eq _ _).mp c_92
      refine lv_iconst (v := 0) hx hb dL_law_515 (by decide) ?_
      have hPc := hP.sub (ws' := [(q_19, .inr (11, [.int 0, .ref ys_23, .ref yp_24, .int 0])), (ys_23, .inr (3, [.int 0, .ref (ta 4), .int 0])), (yp_24, .inr (3, [.int 0, .ref (ta 4), .int 0]))]) [0, 1, 2] rfl
      have hKc := hK.sub (tys' := []) [] rfl
      have hDc := hD.sub (ws' := [(q_19, .inr (11, [.int 0, .ref ys_23, .ref yp_24, .int 0])), (ys_23, .inr (3, [.int 0, .ref (ta 4), .int 0])), (yp_24, .inr (3, [.int 0, .ref (ta 4), .int 0]))]) [0, 1, 2] (by decide) rfl
      have hFc := va_free (wc := [(q_19, .inr (11, [.int 0, .ref ys_23, .ref yp_24, .int 0])), (ys_23, .inr (3, [.int 0, .ref (ta 4), .int 0])), (yp_24, .inr (3, [.int 0, .ref (ta 4), .int 0]))]) hD hS hA [0, 1, 2] rfl
      refine va_calli (va_runV (As := [.int (xs 1), .int 0]) (rest := []) ⟨hx, hb, hml, hown, hts⟩ (c_X7_put l dC dI q_19 ys_23 yp_24 sa ta H.size 0 (xs 1) 0) (cwV 2 hts gl_X7_put rfl rfl rfl (by decide +kernel) ⟨Nat.le_of_ble_eq_true rfl, Nat.le_of_ble_eq_true rfl⟩) ⟨ax_fbW, va_recv hK hP (ci := 11) (q0 := 0) rfl rfl, ax_prW hPc hKc hDc hS hFc hE⟩ rfl rfl hl.1 rfl (lv_room (Nat.le_of_ble_eq_true rfl)) dL_law_516 ⟨Nat.le_of_ble_eq_true rfl, Nat.le_of_ble_eq_true rfl⟩) hS (fun q _ h9 => hFc q h9) hFc (fun r_93 u_95  t H locs ht hvm hw_94 hB hz1 hk1 hS => ?_)
      obtain ⟨th2_96, rfl⟩ : ∃ z, z = u_95 := ⟨_, rfl⟩
      obtain ⟨hP1, hK1, hD1⟩ := hB
      rw [ht] at hP1
      have hK1 := va_K.moved hvm.symm hK1
      obtain ⟨hP, hD⟩ := va_join (wr := [(q_27, .inl (cA_28, 1, .inr (.inr (.inr (.inl (fun _ => 0)))))), (q_25, .inl (cA_26, 1, .inr (.inl of_91)))]) (w1 := [(q_19, .inr (11, [.int th2_96, .ref ys_23, .ref yp_24, .int 0]))]) hP hD [0, 1, 2] [3, 4] rfl rfl (by decide) (by decide) hk1 hFc hP1 hD1
      have hP : va_P (dC, dI) vwCl [(q_27, .inl (cA_28, 1, .inr (.inr (.inr (.inl (fun _ => 0)))))), (q_25, .inl (cA_26, 1, .inr (.inl of_91))), (q_19, .inr (11, [.int th2_96, .ref ys_23, .ref yp_24, .int 0]))] H := hP
      have hD : va_D A [(q_27, .inl (cA_28, 1, .inr (.inr (.inr (.inl (fun _ => 0)))))), (q_25, .inl (cA_26, 1, .inr (.inl of_91))), (q_19, .inr (11, [.int th2_96, .ref ys_23, .ref yp_24, .int 0]))] := hD
      have e9 := hw_94
      subst e9
      refine lv_istore (lv' := [(7, .int r_93), (6, .int 1), (5, .int 0), (4, .ref q_27), (3, .ref q_25), (2, .ref q_19), (1, .ref q_1), (0, .ref b)]) hx hb dL_law_519 hl (by decide) rfl (fun ls hl => ?_)
      refine lv_aload_n hx hb dL_law_521 rfl (lv_at hl 5 rfl) ?_
      have hPc := hP.sub (ws' := [(q_19, .inr (11, [.int 1, .ref ys_23, .ref yp_24, .int 0]))]) [2] rfl
      have hKc := hK.sub (tys' := []) [] rfl
      refine va_calli (va_runV (As := []) (rest := []) ⟨hx, hb, hml, hown, hts⟩ (c_X7_thrown l dC dI q_19 ys_23 yp_24 sa ta 1) (cwV 0 hts gl_X7_thrown rfl rfl rfl (by decide +kernel) ⟨Nat.le_of_ble_eq_true rfl, Nat.le_of_ble_eq_true rfl⟩) ⟨ax_fbR, va_recv hK hP (ci := 11) (q0 := 2) rfl rfl, ax_prR hPc hKc hS hE⟩ rfl rfl hl.1 rfl (lv_room (Nat.le_of_ble_eq_true rfl)) dL_law_522 ⟨Nat.le_of_ble_eq_true rfl, Nat.le_of_ble_eq_true rfl⟩) hS (fun _ _ h9 => h9.elim) (fun _ h9 => h9.elim) (fun r_97 u_99  t H locs ht hvm hw_98 hB hz1 hk1 hS => ?_)
      have hP := ax_keep hP (fun _ h9 => h9) hk1
      refine ax_i (y := 1) hw_98 ?_
      refine lv_iload hx hb dL_law_525 (lv_at hl 1 rfl) ?_
      refine lv_icmp_eq (tgt := 532) hx hb dL_law_527 (by decide) (fun _ => ?_) (fun h9 => absurd (by decide) h9)
      refine lv_iload hx hb dL_law_532 (lv_at hl 1 rfl) ?_
      refine lv_if_ne (tgt := 556) hx hb dL_law_534 (by decide) (fun _ => ?_) (fun h9 => absurd h9 (by decide))
      refine lv_goto (tgt := 1857) hx hb dL_law_556 (by decide) ?_
      refine lv_iinc (v := 5) (lv' := [(5, .int 5), (7, .int r_93), (6, .int 1), (4, .ref q_27), (3, .ref q_25), (2, .ref q_19), (1, .ref q_1), (0, .ref b)]) hx hb dL_law_1857 hl (k := 2) rfl (by decide) (by decide) rfl (fun ls hl => ?_)
      refine lv_goto (tgt := 28) hx hb dL_law_1860 (by decide) ?_
      refine lv_iload hx hb dL_law_28 (lv_at hl 0 rfl) ?_
      refine lv_aload_n hx hb dL_law_30 rfl (lv_at hl 7 rfl) ?_
      refine va_slen hx hb hX hbl hbA hS dL_law_31 ?_
      refine ax_i (y := 5) rfl ?_
      refine lv_iconst (v := 5) hx hb dL_law_32 (by decide) ?_
      refine lv_isub hx hb dL_law_33 ?_
      refine ax_i (y := 0) (by decide) ?_
      refine lv_icmp_gt (tgt := 1863) hx hb dL_law_34 (by decide) (fun _ => ?_) (fun h9 => absurd (by decide) h9)
      refine lv_iconst (v := 1) hx hb dL_law_1863 (by decide) ?_
      refine va_forget (fun q hq => by have h9 := hS.2.2 q hq; rw [hAd] at h9; exact h9) ?_
      refine W.widen (k := 600002) (n := 7302232) (Nat.le_of_ble_eq_true rfl) (Nat.le_of_ble_eq_true rfl) ?_
      refine W.base ?_
      exact lw_ret (Drawn.sameBut.refl s.drawn lw_cs) hx hb hr hlocks dL_law_1864
    · have c_92 : ¬ ((xs 2)).toInt = 0 := fun h9 => c_92 ((ax_eq _ _).mpr h9)
      exfalso
      omega
  · have c_87 : ¬ ((xs 2)).toInt = 0 := fun h9 => c_87 ((ax_eq _ _).mpr h9)
    refine lv_iconst (v := 1) hx hb dL_law_484 (by decide) ?_
    refine lv_goto (tgt := 489) hx hb dL_law_485 (by decide) ?_
    refine lv_aload_n hx hb dL_law_489 rfl (lv_at hl 2 rfl) ?_
    have hPc := hP.sub (ws' := [(q_1, .inr (8, [.ref xs_5, .ref xp_6, .int 0, .int 0, .ref xl_7, .ref xr_10])), (xs_5, .inl (cS_13, 3, .inr (.inr (.inr (.inr (fun _ => none)))))), (xp_6, .inl (cP_14, 8, .inr (.inr (.inr (.inr (fun _ => none)))))), (xl_7, .inr (4, [.ref xn_8, .ref xm_9])), (xn_8, .inl (cn_15, 64, .inr (.inl (fun _ => 0)))), (xm_9, .inl (cm_16, 64, .inr (.inl (fun _ => 0)))), (xr_10, .inr (6, [.ref xw_11, .ref xt_12])), (xw_11, .inl (cw_17, 8, .inr (.inl (fun _ => 0)))), (xt_12, .inl (ct_18, 8, .inr (.inl (fun _ => 0)))), (q_25, .inl (cA_26, 1, .inr (.inl (fun _ => 0))))]) [0, 1, 2, 3, 4, 5, 6, 7, 8, 12] rfl
    have hKc := hK.sub (tys' := [(cS_13, .object "Diffractory$Source"), (cP_14, .object "Diffractory$Part"), (cn_15, .long), (cm_16, .long), (cw_17, .long), (ct_18, .long), (cA_26, .long)]) [0, 1, 2, 3, 4, 5, 6] rfl
    have hDc := hD.sub (ws' := [(q_1, .inr (8, [.ref xs_5, .ref xp_6, .int 0, .int 0, .ref xl_7, .ref xr_10])), (xs_5, .inl (cS_13, 3, .inr (.inr (.inr (.inr (fun _ => none)))))), (xp_6, .inl (cP_14, 8, .inr (.inr (.inr (.inr (fun _ => none)))))), (xl_7, .inr (4, [.ref xn_8, .ref xm_9])), (xn_8, .inl (cn_15, 64, .inr (.inl (fun _ => 0)))), (xm_9, .inl (cm_16, 64, .inr (.inl (fun _ => 0)))), (xr_10, .inr (6, [.ref xw_11, .ref xt_12])), (xw_11, .inl (cw_17, 8, .inr (.inl (fun _ => 0)))), (xt_12, .inl (ct_18, 8, .inr (.inl (fun _ => 0)))), (q_25, .inl (cA_26, 1, .inr (.inl (fun _ => 0))))]) [0, 1, 2, 3, 4, 5, 6, 7, 8, 12] (by decide) rfl
    have hFc := va_free (wc := [(q_1, .inr (8, [.ref xs_5, .ref xp_6, .int 0, .int 0, .ref xl_7, .ref xr_10])), (xs_5, .inl (cS_13, 3, .inr (.inr (.inr (.inr (fun _ => none)))))), (xp_6, .inl (cP_14, 8, .inr (.inr (.inr (.inr (fun _ => none)))))), (xl_7, .inr (4, [.ref xn_8, .ref xm_9])), (xn_8, .inl (cn_15, 64, .inr (.inl (fun _ => 0)))), (xm_9, .inl (cm_16, 64, .inr (.inl (fun _ => 0)))), (xr_10, .inr (6, [.ref xw_11, .ref xt_12])), (xw_11, .inl (cw_17, 8, .inr (.inl (fun _ => 0)))), (xt_12, .inl (ct_18, 8, .inr (.inl (fun _ => 0)))), (q_25, .inl (cA_26, 1, .inr (.inl (fun _ => 0))))]) hD hS hA [0, 1, 2, 3, 4, 5, 6, 7, 8, 12] rfl
    refine va_calli (vx_runSW (As := [.ref q_1, .int (xs 1), .int 1, .ref q_25]) (rest := []) ⟨hx, hb, hml, hown, hts⟩ (c_L_put l hlt dC dI q_1 xs_5 xp_6 xl_7 xn_8 xm_9 xr_10 xw_11 xt_12 q_25 cS_13 cP_14 cn_15 cm_16 cw_17 ct_18 cA_26 sa ta H.size (xs 1) 1) (vx_cwSW 4 hts gl_L_put rfl rfl rfl (by decide +kernel) ⟨Nat.le_of_ble_eq_true rfl, Nat.le_of_ble_eq_true rfl⟩) ⟨ax_fbW, ax_prW hPc hKc hDc hS hFc hE⟩ rfl rfl hl.1 rfl (lv_room (Nat.le_of_ble_eq_true rfl)) dL_law_490 ⟨Nat.le_of_ble_eq_true rfl, Nat.le_of_ble_eq_true rfl⟩) hS (fun q _ h9 => hFc q h9) hFc (fun r_100 u_102  t H locs ht hvm hw_101 hB hz1 hk1 hS => ?_)
    obtain ⟨of_103, rfl⟩ : ∃ z, z = u_102 := ⟨_, rfl⟩
    obtain ⟨hP1, hK1, hD1⟩ := hB
    rw [ht] at hP1
    have hK1 := va_K.moved hvm.symm hK1
    obtain ⟨hP, hD⟩ := va_join (wr := [(q_19, .inr (11, [.int 0, .ref ys_23, .ref yp_24, .int 0])), (ys_23, .inr (3, [.int 0, .ref (ta 4), .int 0])), (yp_24, .inr (3, [.int 0, .ref (ta 4), .int 0])), (q_27, .inl (cA_28, 1, .inr (.inr (.inr (.inl (fun _ => 0))))))]) (w1 := [(q_25, .inl (cA_26, 1, .inr (.inl of_103)))]) hP hD [0, 1, 2, 3, 4, 5, 6, 7, 8, 12] [9, 10, 11, 13] rfl rfl (by decide) (by decide) hk1 hFc hP1 hD1
    have hP : va_P (dC, dI) vwCl [(q_19, .inr (11, [.int 0, .ref ys_23, .ref yp_24, .int 0])), (ys_23, .inr (3, [.int 0, .ref (ta 4), .int 0])), (yp_24, .inr (3, [.int 0, .ref (ta 4), .int 0])), (q_27, .inl (cA_28, 1, .inr (.inr (.inr (.inl (fun _ => 0)))))), (q_25, .inl (cA_26, 1, .inr (.inl of_103)))] H := hP
    have hD : va_D A [(q_19, .inr (11, [.int 0, .ref ys_23, .ref yp_24, .int 0])), (ys_23, .inr (3, [.int 0, .ref (ta 4), .int 0])), (yp_24, .inr (3, [.int 0, .ref (ta 4), .int 0])), (q_27, .inl (cA_28, 1, .inr (.inr (.inr (.inl (fun _ => 0)))))), (q_25, .inl (cA_26, 1, .inr (.inl of_103)))] := hD
    refine ax_i (y := 1) hw_101 ?_
    refine lv_istore (lv' := [(6, .int 1), (5, .int 0), (4, .ref q_27), (3, .ref q_25), (2, .ref q_19), (1, .ref q_1), (0, .ref b)]) hx hb dL_law_493 hl (by decide) rfl (fun ls hl => ?_)
    refine lv_aload_n hx hb dL_law_495 rfl (lv_at hl 4 rfl) ?_
    refine lv_aload_n hx hb dL_law_496 rfl (lv_at hl 6 rfl) ?_
    refine lv_iload hx hb dL_law_497 (lv_at hl 1 rfl) ?_
    refine lv_iconst (v := 1) hx hb dL_law_499 (by decide) ?_
    refine lv_iadd hx hb dL_law_500 ?_
    refine ax_i (y := 1) (by decide) ?_
    refine va_sld hx hb hX hbl hbA hS (by unfold vp_in; decide) dL_law_501 ?_
    refine ax_i (y := xs 1) rfl ?_
    refine lv_aload_n hx hb dL_law_502 rfl (lv_at hl 6 rfl) ?_
    refine lv_iload hx hb dL_law_503 (lv_at hl 1 rfl) ?_
    refine lv_iconst (v := 2) hx hb dL_law_505 (by decide) ?_
    refine lv_iadd hx hb dL_law_506 ?_
    refine ax_i (y := 2) (by decide) ?_
    refine va_sld hx hb hX hbl hbA hS (by unfold vp_in; decide) dL_law_507 ?_
    refine ax_i (y := xs 2) rfl ?_
    refine lv_if_eq (tgt := 515) hx hb dL_law_508 (by decide) (fun c_104 => ?_) (fun c_104 => ?_)
    · have c_104 : ((xs 2)).toInt = 0 := (ax_eq _ _).mp c_104
      exfalso
      omega
    · have c_104 : ¬ ((xs 2)).toInt = 0 := fun h9 => c_104 ((ax_eq _ _).mpr h9)
      refine lv_iconst (v := 1) hx hb dL_law_511 (by decide) ?_
      refine lv_goto (tgt := 516) hx hb dL_law_512 (by decide) ?_
      have hPc := hP.sub (ws' := [(q_19, .inr (11, [.int 0, .ref ys_23, .ref yp_24, .int 0])), (ys_23, .inr (3, [.int 0, .ref (ta 4), .int 0])), (yp_24, .inr (3, [.int 0, .ref (ta 4), .int 0]))]) [0, 1, 2] rfl
      have hKc := hK.sub (tys' := []) [] rfl
      have hDc := hD.sub (ws' := [(q_19, .inr (11, [.int 0, .ref ys_23, .ref yp_24, .int 0])), (ys_23, .inr (3, [.int 0, .ref (ta 4), .int 0])), (yp_24, .inr (3, [.int 0, .ref (ta 4), .int 0]))]) [0, 1, 2] (by decide) rfl
      have hFc := va_free (wc := [(q_19, .inr (11, [.int 0, .ref ys_23, .ref yp_24, .int 0])), (ys_23, .inr (3, [.int 0, .ref (ta 4), .int 0])), (yp_24, .inr (3, [.int 0, .ref (ta 4), .int 0]))]) hD hS hA [0, 1, 2] rfl
      refine va_calli (va_runV (As := [.int (xs 1), .int 1]) (rest := []) ⟨hx, hb, hml, hown, hts⟩ (c_X7_put l dC dI q_19 ys_23 yp_24 sa ta H.size 0 (xs 1) 1) (cwV 2 hts gl_X7_put rfl rfl rfl (by decide +kernel) ⟨Nat.le_of_ble_eq_true rfl, Nat.le_of_ble_eq_true rfl⟩) ⟨ax_fbW, va_recv hK hP (ci := 11) (q0 := 0) rfl rfl, ax_prW hPc hKc hDc hS hFc hE⟩ rfl rfl hl.1 rfl (lv_room (Nat.le_of_ble_eq_true rfl)) dL_law_516 ⟨Nat.le_of_ble_eq_true rfl, Nat.le_of_ble_eq_true rfl⟩) hS (fun q _ h9 => hFc q h9) hFc (fun r_105 u_107  t H locs ht hvm hw_106 hB hz1 hk1 hS => ?_)
      obtain ⟨th2_108, rfl⟩ : ∃ z, z = u_107 := ⟨_, rfl⟩
      obtain ⟨hP1, hK1, hD1⟩ := hB
      rw [ht] at hP1
      have hK1 := va_K.moved hvm.symm hK1
      obtain ⟨hP, hD⟩ := va_join (wr := [(q_27, .inl (cA_28, 1, .inr (.inr (.inr (.inl (fun _ => 0)))))), (q_25, .inl (cA_26, 1, .inr (.inl of_103)))]) (w1 := [(q_19, .inr (11, [.int th2_108, .ref ys_23, .ref yp_24, .int 0]))]) hP hD [0, 1, 2] [3, 4] rfl rfl (by decide) (by decide) hk1 hFc hP1 hD1
      have hP : va_P (dC, dI) vwCl [(q_27, .inl (cA_28, 1, .inr (.inr (.inr (.inl (fun _ => 0)))))), (q_25, .inl (cA_26, 1, .inr (.inl of_103))), (q_19, .inr (11, [.int th2_108, .ref ys_23, .ref yp_24, .int 0]))] H := hP
      have hD : va_D A [(q_27, .inl (cA_28, 1, .inr (.inr (.inr (.inl (fun _ => 0)))))), (q_25, .inl (cA_26, 1, .inr (.inl of_103))), (q_19, .inr (11, [.int th2_108, .ref ys_23, .ref yp_24, .int 0]))] := hD
      have e9 := hw_106
      subst e9
      refine lv_istore (lv' := [(7, .int r_105), (6, .int 1), (5, .int 0), (4, .ref q_27), (3, .ref q_25), (2, .ref q_19), (1, .ref q_1), (0, .ref b)]) hx hb dL_law_519 hl (by decide) rfl (fun ls hl => ?_)
      refine lv_aload_n hx hb dL_law_521 rfl (lv_at hl 5 rfl) ?_
      have hPc := hP.sub (ws' := [(q_19, .inr (11, [.int 1, .ref ys_23, .ref yp_24, .int 0]))]) [2] rfl
      have hKc := hK.sub (tys' := []) [] rfl
      refine va_calli (va_runV (As := []) (rest := []) ⟨hx, hb, hml, hown, hts⟩ (c_X7_thrown l dC dI q_19 ys_23 yp_24 sa ta 1) (cwV 0 hts gl_X7_thrown rfl rfl rfl (by decide +kernel) ⟨Nat.le_of_ble_eq_true rfl, Nat.le_of_ble_eq_true rfl⟩) ⟨ax_fbR, va_recv hK hP (ci := 11) (q0 := 2) rfl rfl, ax_prR hPc hKc hS hE⟩ rfl rfl hl.1 rfl (lv_room (Nat.le_of_ble_eq_true rfl)) dL_law_522 ⟨Nat.le_of_ble_eq_true rfl, Nat.le_of_ble_eq_true rfl⟩) hS (fun _ _ h9 => h9.elim) (fun _ h9 => h9.elim) (fun r_109 u_111  t H locs ht hvm hw_110 hB hz1 hk1 hS => ?_)
      have hP := ax_keep hP (fun _ h9 => h9) hk1
      refine ax_i (y := 1) hw_110 ?_
      refine lv_iload hx hb dL_law_525 (lv_at hl 1 rfl) ?_
      refine lv_icmp_eq (tgt := 532) hx hb dL_law_527 (by decide) (fun _ => ?_) (fun h9 => absurd (by decide) h9)
      refine lv_iload hx hb dL_law_532 (lv_at hl 1 rfl) ?_
      refine lv_if_ne (tgt := 556) hx hb dL_law_534 (by decide) (fun _ => ?_) (fun h9 => absurd h9 (by decide))
      refine lv_goto (tgt := 1857) hx hb dL_law_556 (by decide) ?_
      refine lv_iinc (v := 5) (lv' := [(5, .int 5), (7, .int r_105), (6, .int 1), (4, .ref q_27), (3, .ref q_25), (2, .ref q_19), (1, .ref q_1), (0, .ref b)]) hx hb dL_law_1857 hl (k := 2) rfl (by decide) (by decide) rfl (fun ls hl => ?_)
      refine lv_goto (tgt := 28) hx hb dL_law_1860 (by decide) ?_
      refine lv_iload hx hb dL_law_28 (lv_at hl 0 rfl) ?_
      refine lv_aload_n hx hb dL_law_30 rfl (lv_at hl 7 rfl) ?_
      refine va_slen hx hb hX hbl hbA hS dL_law_31 ?_
      refine ax_i (y := 5) rfl ?_
      refine lv_iconst (v := 5) hx hb dL_law_32 (by decide) ?_
      refine lv_isub hx hb dL_law_33 ?_
      refine ax_i (y := 0) (by decide) ?_
      refine lv_icmp_gt (tgt := 1863) hx hb dL_law_34 (by decide) (fun _ => ?_) (fun h9 => absurd (by decide) h9)
      refine lv_iconst (v := 1) hx hb dL_law_1863 (by decide) ?_
      refine va_forget (fun q hq => by have h9 := hS.2.2 q hq; rw [hAd] at h9; exact h9) ?_
      refine W.widen (k := 600002) (n := 7302232) (Nat.le_of_ble_eq_true rfl) (Nat.le_of_ble_eq_true rfl) ?_
      refine W.base ?_
      exact lw_ret (Drawn.sameBut.refl s.drawn lw_cs) hx hb hr hlocks dL_law_1864

set_option maxHeartbeats 4000000 in
set_option maxRecDepth 100000 in
theorem law_c5 {p : Program} {e : Env} {s : State} {m : MethodId} {below : List Frame} {meth : Method} {c : Code} (l : Launch) (hlt : l.stackTraces = false) {dC : Nat → ClassId} {dI : Nat → Nat → Nat} {b : Nat} {xs : Nat → Int32} (C0 : lw_At p s m meth c b 5 xs) {A : Nat → Prop} (hAd : A = fun q => s.heap.size ≤ q) {sa ta : Nat → Nat} (hE : ax_S sa ta A s s.heap) {q_1 xs_5 xp_6 xl_7 xn_8 xm_9 xr_10 xw_11 xt_12 q_19 ys_23 yp_24 q_25 q_27 : Nat} {cS_13 cP_14 cn_15 cm_16 cw_17 ct_18 cA_26 cA_28 : ClassId} {H : Heap} {locs : List Loc} (hK : va_K (dC, dI) vwCl [(cS_13, .object "Diffractory$Source"), (cP_14, .object "Diffractory$Part"), (cn_15, .long), (cm_16, .long), (cw_17, .long), (ct_18, .long), (cA_26, .long), (cA_28, .double)] s) (hP : va_P (dC, dI) vwCl [(q_1, .inr (8, [.ref xs_5, .ref xp_6, .int 0, .int 0, .ref xl_7, .ref xr_10])), (xs_5, .inl (cS_13, 3, .inr (.inr (.inr (.inr (fun _ => none)))))), (xp_6, .inl (cP_14, 8, .inr (.inr (.inr (.inr (fun _ => none)))))), (xl_7, .inr (4, [.ref xn_8, .ref xm_9])), (xn_8, .inl (cn_15, 64, .inr (.inl (fun _ => 0)))), (xm_9, .inl (cm_16, 64, .inr (.inl (fun _ => 0)))), (xr_10, .inr (6, [.ref xw_11, .ref xt_12])), (xw_11, .inl (cw_17, 8, .inr (.inl (fun _ => 0)))), (xt_12, .inl (ct_18, 8, .inr (.inl (fun _ => 0)))), (q_19, .inr (11, [.int 0, .ref ys_23, .ref yp_24, .int 0])), (ys_23, .inr (3, [.int 0, .ref (ta 4), .int 0])), (yp_24, .inr (3, [.int 0, .ref (ta 4), .int 0])), (q_25, .inl (cA_26, 1, .inr (.inl (fun _ => 0)))), (q_27, .inl (cA_28, 1, .inr (.inr (.inr (.inl (fun _ => 0))))))] H) (hD : va_D A [(q_1, .inr (8, [.ref xs_5, .ref xp_6, .int 0, .int 0, .ref xl_7, .ref xr_10])), (xs_5, .inl (cS_13, 3, .inr (.inr (.inr (.inr (fun _ => none)))))), (xp_6, .inl (cP_14, 8, .inr (.inr (.inr (.inr (fun _ => none)))))), (xl_7, .inr (4, [.ref xn_8, .ref xm_9])), (xn_8, .inl (cn_15, 64, .inr (.inl (fun _ => 0)))), (xm_9, .inl (cm_16, 64, .inr (.inl (fun _ => 0)))), (xr_10, .inr (6, [.ref xw_11, .ref xt_12])), (xw_11, .inl (cw_17, 8, .inr (.inl (fun _ => 0)))), (xt_12, .inl (ct_18, 8, .inr (.inl (fun _ => 0)))), (q_19, .inr (11, [.int 0, .ref ys_23, .ref yp_24, .int 0])), (ys_23, .inr (3, [.int 0, .ref (ta 4), .int 0])), (yp_24, .inr (3, [.int 0, .ref (ta 4), .int 0])), (q_25, .inl (cA_26, 1, .inr (.inl (fun _ => 0)))), (q_27, .inl (cA_28, 1, .inr (.inr (.inr (.inl (fun _ => 0))))))]) (hS : va_S A s.heap H locs) {ls : Array Slot} (hl : lv_has ls 9 [(5, .int 0), (4, .ref q_27), (3, .ref q_25), (2, .ref q_19), (1, .ref q_1), (0, .ref b)]) : W p l e room_1 s m #[Value.ref b] below meth c H locs 14 177 (lw_Z below #[Value.ref b] s) (F0 m 559 ls []) := by
  obtain ⟨hx, hb, hr, hml, hown, hts, hX, hbl, hlocks, hgv⟩ := C0
  have hA : ∀ q : Nat, s.heap.size ≤ q → A q := fun q h => by rw [hAd]; exact h
  have hbA : ¬ A b := by rw [hAd]; exact Nat.not_le.mpr hbl
  refine lv_aload_n hx hb dL_law_559 rfl (lv_at hl 4 rfl) ?_
  refine lv_aload_n hx hb dL_law_560 rfl (lv_at hl 5 rfl) ?_
  refine lv_iload hx hb dL_law_561 (lv_at hl 0 rfl) ?_
  refine lv_iconst (v := 1) hx hb dL_law_563 (by decide) ?_
  refine lv_iadd hx hb dL_law_564 ?_
  refine ax_i (y := 1) (by decide) ?_
  refine va_sld hx hb hX hbl hbA hS (by unfold vp_in; decide) dL_law_565 ?_
  refine ax_i (y := xs 1) rfl ?_
  refine lv_aload_n hx hb dL_law_566 rfl (lv_at hl 5 rfl) ?_
  refine lv_iload hx hb dL_law_567 (lv_at hl 0 rfl) ?_
  refine lv_iconst (v := 2) hx hb dL_law_569 (by decide) ?_
  refine lv_iadd hx hb dL_law_570 ?_
  refine ax_i (y := 2) (by decide) ?_
  refine va_sld hx hb hX hbl hbA hS (by unfold vp_in; decide) dL_law_571 ?_
  refine ax_i (y := xs 2) rfl ?_
  refine lv_aload_n hx hb dL_law_572 rfl (lv_at hl 2 rfl) ?_
  have hPc := hP.sub (ws' := [(q_1, .inr (8, [.ref xs_5, .ref xp_6, .int 0, .int 0, .ref xl_7, .ref xr_10])), (xs_5, .inl (cS_13, 3, .inr (.inr (.inr (.inr (fun _ => none)))))), (xp_6, .inl (cP_14, 8, .inr (.inr (.inr (.inr (fun _ => none)))))), (xl_7, .inr (4, [.ref xn_8, .ref xm_9])), (xn_8, .inl (cn_15, 64, .inr (.inl (fun _ => 0)))), (xm_9, .inl (cm_16, 64, .inr (.inl (fun _ => 0)))), (xr_10, .inr (6, [.ref xw_11, .ref xt_12])), (xw_11, .inl (cw_17, 8, .inr (.inl (fun _ => 0)))), (xt_12, .inl (ct_18, 8, .inr (.inl (fun _ => 0)))), (q_25, .inl (cA_26, 1, .inr (.inl (fun _ => 0))))]) [0, 1, 2, 3, 4, 5, 6, 7, 8, 12] rfl
  have hKc := hK.sub (tys' := [(cS_13, .object "Diffractory$Source"), (cP_14, .object "Diffractory$Part"), (cn_15, .long), (cm_16, .long), (cw_17, .long), (ct_18, .long), (cA_26, .long)]) [0, 1, 2, 3, 4, 5, 6] rfl
  have hDc := hD.sub (ws' := [(q_1, .inr (8, [.ref xs_5, .ref xp_6, .int 0, .int 0, .ref xl_7, .ref xr_10])), (xs_5, .inl (cS_13, 3, .inr (.inr (.inr (.inr (fun _ => none)))))), (xp_6, .inl (cP_14, 8, .inr (.inr (.inr (.inr (fun _ => none)))))), (xl_7, .inr (4, [.ref xn_8, .ref xm_9])), (xn_8, .inl (cn_15, 64, .inr (.inl (fun _ => 0)))), (xm_9, .inl (cm_16, 64, .inr (.inl (fun _ => 0)))), (xr_10, .inr (6, [.ref xw_11, .ref xt_12])), (xw_11, .inl (cw_17, 8, .inr (.inl (fun _ => 0)))), (xt_12, .inl (ct_18, 8, .inr (.inl (fun _ => 0)))), (q_25, .inl (cA_26, 1, .inr (.inl (fun _ => 0))))]) [0, 1, 2, 3, 4, 5, 6, 7, 8, 12] (by decide) rfl
  have hFc := va_free (wc := [(q_1, .inr (8, [.ref xs_5, .ref xp_6, .int 0, .int 0, .ref xl_7, .ref xr_10])), (xs_5, .inl (cS_13, 3, .inr (.inr (.inr (.inr (fun _ => none)))))), (xp_6, .inl (cP_14, 8, .inr (.inr (.inr (.inr (fun _ => none)))))), (xl_7, .inr (4, [.ref xn_8, .ref xm_9])), (xn_8, .inl (cn_15, 64, .inr (.inl (fun _ => 0)))), (xm_9, .inl (cm_16, 64, .inr (.inl (fun _ => 0)))), (xr_10, .inr (6, [.ref xw_11, .ref xt_12])), (xw_11, .inl (cw_17, 8, .inr (.inl (fun _ => 0)))), (xt_12, .inl (ct_18, 8, .inr (.inl (fun _ => 0)))), (q_25, .inl (cA_26, 1, .inr (.inl (fun _ => 0))))]) hD hS hA [0, 1, 2, 3, 4, 5, 6, 7, 8, 12] rfl
  refine va_calli (vx_runSW (As := [.ref q_1, .int (xs 1), .int (xs 2), .ref q_25]) (rest := []) ⟨hx, hb, hml, hown, hts⟩ (c_L_dirt l hlt dC dI q_1 xs_5 xp_6 xl_7 xn_8 xm_9 xr_10 xw_11 xt_12 q_25 cS_13 cP_14 cn_15 cm_16 cw_17 ct_18 cA_26 sa ta H.size (xs 1) (xs 2)) (vx_cwSW 4 hts gl_L_dirt rfl rfl rfl (by decide +kernel) ⟨Nat.le_of_ble_eq_true rfl, Nat.le_of_ble_eq_true rfl⟩) ⟨ax_fbW, ax_prW hPc hKc hDc hS hFc hE⟩ rfl rfl hl.1 rfl (lv_room (Nat.le_of_ble_eq_true rfl)) dL_law_573 ⟨Nat.le_of_ble_eq_true rfl, Nat.le_of_ble_eq_true rfl⟩) hS (fun q _ h9 => hFc q h9) hFc (fun r_112 u_114  t H locs ht hvm hw_113 hB hz1 hk1 hS => ?_)
  obtain ⟨of_115, rfl⟩ : ∃ z, z = u_114 := ⟨_, rfl⟩
  obtain ⟨hP1, hK1, hD1⟩ := hB
  rw [ht] at hP1
  have hK1 := va_K.moved hvm.symm hK1
  obtain ⟨hP, hD⟩ := va_join (wr := [(q_19, .inr (11, [.int 0, .ref ys_23, .ref yp_24, .int 0])), (ys_23, .inr (3, [.int 0, .ref (ta 4), .int 0])), (yp_24, .inr (3, [.int 0, .ref (ta 4), .int 0])), (q_27, .inl (cA_28, 1, .inr (.inr (.inr (.inl (fun _ => 0))))))]) (w1 := [(q_25, .inl (cA_26, 1, .inr (.inl of_115)))]) hP hD [0, 1, 2, 3, 4, 5, 6, 7, 8, 12] [9, 10, 11, 13] rfl rfl (by decide) (by decide) hk1 hFc hP1 hD1
  have hP : va_P (dC, dI) vwCl [(q_19, .inr (11, [.int 0, .ref ys_23, .ref yp_24, .int 0])), (ys_23, .inr (3, [.int 0, .ref (ta 4), .int 0])), (yp_24, .inr (3, [.int 0, .ref (ta 4), .int 0])), (q_27, .inl (cA_28, 1, .inr (.inr (.inr (.inl (fun _ => 0)))))), (q_25, .inl (cA_26, 1, .inr (.inl of_115)))] H := hP
  have hD : va_D A [(q_19, .inr (11, [.int 0, .ref ys_23, .ref yp_24, .int 0])), (ys_23, .inr (3, [.int 0, .ref (ta 4), .int 0])), (yp_24, .inr (3, [.int 0, .ref (ta 4), .int 0])), (q_27, .inl (cA_28, 1, .inr (.inr (.inr (.inl (fun _ => 0)))))), (q_25, .inl (cA_26, 1, .inr (.inl of_115)))] := hD
  refine ax_i (y := 1) hw_113 ?_
  refine lv_istore (lv' := [(6, .int 1), (5, .int 0), (4, .ref q_27), (3, .ref q_25), (2, .ref q_19), (1, .ref q_1), (0, .ref b)]) hx hb dL_law_576 hl (by decide) rfl (fun ls hl => ?_)
  refine lv_aload_n hx hb dL_law_578 rfl (lv_at hl 4 rfl) ?_
  refine lv_aload_n hx hb dL_law_579 rfl (lv_at hl 6 rfl) ?_
  refine lv_iload hx hb dL_law_580 (lv_at hl 1 rfl) ?_
  refine lv_iconst (v := 1) hx hb dL_law_582 (by decide) ?_
  refine lv_iadd hx hb dL_law_583 ?_
  refine ax_i (y := 1) (by decide) ?_
  refine va_sld hx hb hX hbl hbA hS (by unfold vp_in; decide) dL_law_584 ?_
  refine ax_i (y := xs 1) rfl ?_
  refine lv_aload_n hx hb dL_law_585 rfl (lv_at hl 6 rfl) ?_
  refine lv_iload hx hb dL_law_586 (lv_at hl 1 rfl) ?_
  refine lv_iconst (v := 2) hx hb dL_law_588 (by decide) ?_
  refine lv_iadd hx hb dL_law_589 ?_
  refine ax_i (y := 2) (by decide) ?_
  refine va_sld hx hb hX hbl hbA hS (by unfold vp_in; decide) dL_law_590 ?_
  refine ax_i (y := xs 2) rfl ?_
  have hPc := hP.sub (ws' := [(q_19, .inr (11, [.int 0, .ref ys_23, .ref yp_24, .int 0])), (ys_23, .inr (3, [.int 0, .ref (ta 4), .int 0])), (yp_24, .inr (3, [.int 0, .ref (ta 4), .int 0]))]) [0, 1, 2] rfl
  have hKc := hK.sub (tys' := []) [] rfl
  have hDc := hD.sub (ws' := [(q_19, .inr (11, [.int 0, .ref ys_23, .ref yp_24, .int 0])), (ys_23, .inr (3, [.int 0, .ref (ta 4), .int 0])), (yp_24, .inr (3, [.int 0, .ref (ta 4), .int 0]))]) [0, 1, 2] (by decide) rfl
  have hFc := va_free (wc := [(q_19, .inr (11, [.int 0, .ref ys_23, .ref yp_24, .int 0])), (ys_23, .inr (3, [.int 0, .ref (ta 4), .int 0])), (yp_24, .inr (3, [.int 0, .ref (ta 4), .int 0]))]) hD hS hA [0, 1, 2] rfl
  refine va_calli (va_runV (As := [.int (xs 1), .int (xs 2)]) (rest := []) ⟨hx, hb, hml, hown, hts⟩ (c_X7_dirt l dC dI q_19 ys_23 yp_24 sa ta H.size 0 (xs 1) (xs 2)) (cwV 2 hts gl_X7_dirt rfl rfl rfl (by decide +kernel) ⟨Nat.le_of_ble_eq_true rfl, Nat.le_of_ble_eq_true rfl⟩) ⟨ax_fbW, va_recv hK hP (ci := 11) (q0 := 0) rfl rfl, ax_prW hPc hKc hDc hS hFc hE⟩ rfl rfl hl.1 rfl (lv_room (Nat.le_of_ble_eq_true rfl)) dL_law_591 ⟨Nat.le_of_ble_eq_true rfl, Nat.le_of_ble_eq_true rfl⟩) hS (fun q _ h9 => hFc q h9) hFc (fun r_116 u_118  t H locs ht hvm hw_117 hB hz1 hk1 hS => ?_)
  obtain ⟨th2_119, rfl⟩ : ∃ z, z = u_118 := ⟨_, rfl⟩
  obtain ⟨hP1, hK1, hD1⟩ := hB
  rw [ht] at hP1
  have hK1 := va_K.moved hvm.symm hK1
  obtain ⟨hP, hD⟩ := va_join (wr := [(q_27, .inl (cA_28, 1, .inr (.inr (.inr (.inl (fun _ => 0)))))), (q_25, .inl (cA_26, 1, .inr (.inl of_115)))]) (w1 := [(q_19, .inr (11, [.int th2_119, .ref ys_23, .ref yp_24, .int 0]))]) hP hD [0, 1, 2] [3, 4] rfl rfl (by decide) (by decide) hk1 hFc hP1 hD1
  have hP : va_P (dC, dI) vwCl [(q_27, .inl (cA_28, 1, .inr (.inr (.inr (.inl (fun _ => 0)))))), (q_25, .inl (cA_26, 1, .inr (.inl of_115))), (q_19, .inr (11, [.int th2_119, .ref ys_23, .ref yp_24, .int 0]))] H := hP
  have hD : va_D A [(q_27, .inl (cA_28, 1, .inr (.inr (.inr (.inl (fun _ => 0)))))), (q_25, .inl (cA_26, 1, .inr (.inl of_115))), (q_19, .inr (11, [.int th2_119, .ref ys_23, .ref yp_24, .int 0]))] := hD
  have e9 := hw_117
  subst e9
  refine lv_istore (lv' := [(7, .int r_116), (6, .int 1), (5, .int 0), (4, .ref q_27), (3, .ref q_25), (2, .ref q_19), (1, .ref q_1), (0, .ref b)]) hx hb dL_law_594 hl (by decide) rfl (fun ls hl => ?_)
  refine lv_aload_n hx hb dL_law_596 rfl (lv_at hl 5 rfl) ?_
  have hPc := hP.sub (ws' := [(q_19, .inr (11, [.int 1, .ref ys_23, .ref yp_24, .int 0]))]) [2] rfl
  have hKc := hK.sub (tys' := []) [] rfl
  refine va_calli (va_runV (As := []) (rest := []) ⟨hx, hb, hml, hown, hts⟩ (c_X7_thrown l dC dI q_19 ys_23 yp_24 sa ta 1) (cwV 0 hts gl_X7_thrown rfl rfl rfl (by decide +kernel) ⟨Nat.le_of_ble_eq_true rfl, Nat.le_of_ble_eq_true rfl⟩) ⟨ax_fbR, va_recv hK hP (ci := 11) (q0 := 2) rfl rfl, ax_prR hPc hKc hS hE⟩ rfl rfl hl.1 rfl (lv_room (Nat.le_of_ble_eq_true rfl)) dL_law_597 ⟨Nat.le_of_ble_eq_true rfl, Nat.le_of_ble_eq_true rfl⟩) hS (fun _ _ h9 => h9.elim) (fun _ h9 => h9.elim) (fun r_120 u_122  t H locs ht hvm hw_121 hB hz1 hk1 hS => ?_)
  have hP := ax_keep hP (fun _ h9 => h9) hk1
  refine ax_i (y := 1) hw_121 ?_
  refine lv_iload hx hb dL_law_600 (lv_at hl 1 rfl) ?_
  refine lv_icmp_eq (tgt := 607) hx hb dL_law_602 (by decide) (fun _ => ?_) (fun h9 => absurd (by decide) h9)
  refine lv_iload hx hb dL_law_607 (lv_at hl 1 rfl) ?_
  refine lv_if_ne (tgt := 624) hx hb dL_law_609 (by decide) (fun _ => ?_) (fun h9 => absurd h9 (by decide))
  refine lv_goto (tgt := 1857) hx hb dL_law_624 (by decide) ?_
  refine lv_iinc (v := 5) (lv' := [(5, .int 5), (7, .int r_116), (6, .int 1), (4, .ref q_27), (3, .ref q_25), (2, .ref q_19), (1, .ref q_1), (0, .ref b)]) hx hb dL_law_1857 hl (k := 2) rfl (by decide) (by decide) rfl (fun ls hl => ?_)
  refine lv_goto (tgt := 28) hx hb dL_law_1860 (by decide) ?_
  refine lv_iload hx hb dL_law_28 (lv_at hl 0 rfl) ?_
  refine lv_aload_n hx hb dL_law_30 rfl (lv_at hl 7 rfl) ?_
  refine va_slen hx hb hX hbl hbA hS dL_law_31 ?_
  refine ax_i (y := 5) rfl ?_
  refine lv_iconst (v := 5) hx hb dL_law_32 (by decide) ?_
  refine lv_isub hx hb dL_law_33 ?_
  refine ax_i (y := 0) (by decide) ?_
  refine lv_icmp_gt (tgt := 1863) hx hb dL_law_34 (by decide) (fun _ => ?_) (fun h9 => absurd (by decide) h9)
  refine lv_iconst (v := 1) hx hb dL_law_1863 (by decide) ?_
  refine va_forget (fun q hq => by have h9 := hS.2.2 q hq; rw [hAd] at h9; exact h9) ?_
  refine W.widen (k := 600002) (n := 7302232) (Nat.le_of_ble_eq_true rfl) (Nat.le_of_ble_eq_true rfl) ?_
  refine W.base ?_
  exact lw_ret (Drawn.sameBut.refl s.drawn lw_cs) hx hb hr hlocks dL_law_1864

set_option maxHeartbeats 4000000 in
set_option maxRecDepth 100000 in
theorem law_c6 {p : Program} {e : Env} {s : State} {m : MethodId} {below : List Frame} {meth : Method} {c : Code} (l : Launch) (hlt : l.stackTraces = false) {dC : Nat → ClassId} {dI : Nat → Nat → Nat} {b : Nat} {xs : Nat → Int32} (C0 : lw_At p s m meth c b 5 xs) {A : Nat → Prop} (hAd : A = fun q => s.heap.size ≤ q) {sa ta : Nat → Nat} (hE : ax_S sa ta A s s.heap) {q_1 xs_5 xp_6 xl_7 xn_8 xm_9 xr_10 xw_11 xt_12 q_19 ys_23 yp_24 q_25 q_27 : Nat} {cS_13 cP_14 cn_15 cm_16 cw_17 ct_18 cA_26 cA_28 : ClassId} {H : Heap} {locs : List Loc} (hK : va_K (dC, dI) vwCl [(cS_13, .object "Diffractory$Source"), (cP_14, .object "Diffractory$Part"), (cn_15, .long), (cm_16, .long), (cw_17, .long), (ct_18, .long), (cA_26, .long), (cA_28, .double)] s) (hP : va_P (dC, dI) vwCl [(q_1, .inr (8, [.ref xs_5, .ref xp_6, .int 0, .int 0, .ref xl_7, .ref xr_10])), (xs_5, .inl (cS_13, 3, .inr (.inr (.inr (.inr (fun _ => none)))))), (xp_6, .inl (cP_14, 8, .inr (.inr (.inr (.inr (fun _ => none)))))), (xl_7, .inr (4, [.ref xn_8, .ref xm_9])), (xn_8, .inl (cn_15, 64, .inr (.inl (fun _ => 0)))), (xm_9, .inl (cm_16, 64, .inr (.inl (fun _ => 0)))), (xr_10, .inr (6, [.ref xw_11, .ref xt_12])), (xw_11, .inl (cw_17, 8, .inr (.inl (fun _ => 0)))), (xt_12, .inl (ct_18, 8, .inr (.inl (fun _ => 0)))), (q_19, .inr (11, [.int 0, .ref ys_23, .ref yp_24, .int 0])), (ys_23, .inr (3, [.int 0, .ref (ta 4), .int 0])), (yp_24, .inr (3, [.int 0, .ref (ta 4), .int 0])), (q_25, .inl (cA_26, 1, .inr (.inl (fun _ => 0)))), (q_27, .inl (cA_28, 1, .inr (.inr (.inr (.inl (fun _ => 0))))))] H) (hD : va_D A [(q_1, .inr (8, [.ref xs_5, .ref xp_6, .int 0, .int 0, .ref xl_7, .ref xr_10])), (xs_5, .inl (cS_13, 3, .inr (.inr (.inr (.inr (fun _ => none)))))), (xp_6, .inl (cP_14, 8, .inr (.inr (.inr (.inr (fun _ => none)))))), (xl_7, .inr (4, [.ref xn_8, .ref xm_9])), (xn_8, .inl (cn_15, 64, .inr (.inl (fun _ => 0)))), (xm_9, .inl (cm_16, 64, .inr (.inl (fun _ => 0)))), (xr_10, .inr (6, [.ref xw_11, .ref xt_12])), (xw_11, .inl (cw_17, 8, .inr (.inl (fun _ => 0)))), (xt_12, .inl (ct_18, 8, .inr (.inl (fun _ => 0)))), (q_19, .inr (11, [.int 0, .ref ys_23, .ref yp_24, .int 0])), (ys_23, .inr (3, [.int 0, .ref (ta 4), .int 0])), (yp_24, .inr (3, [.int 0, .ref (ta 4), .int 0])), (q_25, .inl (cA_26, 1, .inr (.inl (fun _ => 0)))), (q_27, .inl (cA_28, 1, .inr (.inr (.inr (.inl (fun _ => 0))))))]) (hS : va_S A s.heap H locs) {ls : Array Slot} (hl : lv_has ls 9 [(5, .int 0), (4, .ref q_27), (3, .ref q_25), (2, .ref q_19), (1, .ref q_1), (0, .ref b)]) : W p l e room_1 s m #[Value.ref b] below meth c H locs 14 177 (lw_Z below #[Value.ref b] s) (F0 m 627 ls []) := by
  obtain ⟨hx, hb, hr, hml, hown, hts, hX, hbl, hlocks, hgv⟩ := C0
  have hA : ∀ q : Nat, s.heap.size ≤ q → A q := fun q h => by rw [hAd]; exact h
  have hbA : ¬ A b := by rw [hAd]; exact Nat.not_le.mpr hbl
  refine lv_aload_n hx hb dL_law_627 rfl (lv_at hl 4 rfl) ?_
  refine lv_aload_n hx hb dL_law_628 rfl (lv_at hl 5 rfl) ?_
  refine lv_iload hx hb dL_law_629 (lv_at hl 0 rfl) ?_
  refine lv_iconst (v := 1) hx hb dL_law_631 (by decide) ?_
  refine lv_iadd hx hb dL_law_632 ?_
  refine ax_i (y := 1) (by decide) ?_
  refine va_sld hx hb hX hbl hbA hS (by unfold vp_in; decide) dL_law_633 ?_
  refine ax_i (y := xs 1) rfl ?_
  refine lv_aload_n hx hb dL_law_634 rfl (lv_at hl 5 rfl) ?_
  refine lv_iload hx hb dL_law_635 (lv_at hl 0 rfl) ?_
  refine lv_iconst (v := 2) hx hb dL_law_637 (by decide) ?_
  refine lv_iadd hx hb dL_law_638 ?_
  refine ax_i (y := 2) (by decide) ?_
  refine va_sld hx hb hX hbl hbA hS (by unfold vp_in; decide) dL_law_639 ?_
  refine ax_i (y := xs 2) rfl ?_
  refine lv_aload_n hx hb dL_law_640 rfl (lv_at hl 2 rfl) ?_
  have hPc := hP.sub (ws' := [(q_1, .inr (8, [.ref xs_5, .ref xp_6, .int 0, .int 0, .ref xl_7, .ref xr_10])), (xs_5, .inl (cS_13, 3, .inr (.inr (.inr (.inr (fun _ => none)))))), (xp_6, .inl (cP_14, 8, .inr (.inr (.inr (.inr (fun _ => none)))))), (xl_7, .inr (4, [.ref xn_8, .ref xm_9])), (xn_8, .inl (cn_15, 64, .inr (.inl (fun _ => 0)))), (xm_9, .inl (cm_16, 64, .inr (.inl (fun _ => 0)))), (xr_10, .inr (6, [.ref xw_11, .ref xt_12])), (xw_11, .inl (cw_17, 8, .inr (.inl (fun _ => 0)))), (xt_12, .inl (ct_18, 8, .inr (.inl (fun _ => 0)))), (q_25, .inl (cA_26, 1, .inr (.inl (fun _ => 0))))]) [0, 1, 2, 3, 4, 5, 6, 7, 8, 12] rfl
  have hKc := hK.sub (tys' := [(cS_13, .object "Diffractory$Source"), (cP_14, .object "Diffractory$Part"), (cn_15, .long), (cm_16, .long), (cw_17, .long), (ct_18, .long), (cA_26, .long)]) [0, 1, 2, 3, 4, 5, 6] rfl
  have hDc := hD.sub (ws' := [(q_1, .inr (8, [.ref xs_5, .ref xp_6, .int 0, .int 0, .ref xl_7, .ref xr_10])), (xs_5, .inl (cS_13, 3, .inr (.inr (.inr (.inr (fun _ => none)))))), (xp_6, .inl (cP_14, 8, .inr (.inr (.inr (.inr (fun _ => none)))))), (xl_7, .inr (4, [.ref xn_8, .ref xm_9])), (xn_8, .inl (cn_15, 64, .inr (.inl (fun _ => 0)))), (xm_9, .inl (cm_16, 64, .inr (.inl (fun _ => 0)))), (xr_10, .inr (6, [.ref xw_11, .ref xt_12])), (xw_11, .inl (cw_17, 8, .inr (.inl (fun _ => 0)))), (xt_12, .inl (ct_18, 8, .inr (.inl (fun _ => 0)))), (q_25, .inl (cA_26, 1, .inr (.inl (fun _ => 0))))]) [0, 1, 2, 3, 4, 5, 6, 7, 8, 12] (by decide) rfl
  have hFc := va_free (wc := [(q_1, .inr (8, [.ref xs_5, .ref xp_6, .int 0, .int 0, .ref xl_7, .ref xr_10])), (xs_5, .inl (cS_13, 3, .inr (.inr (.inr (.inr (fun _ => none)))))), (xp_6, .inl (cP_14, 8, .inr (.inr (.inr (.inr (fun _ => none)))))), (xl_7, .inr (4, [.ref xn_8, .ref xm_9])), (xn_8, .inl (cn_15, 64, .inr (.inl (fun _ => 0)))), (xm_9, .inl (cm_16, 64, .inr (.inl (fun _ => 0)))), (xr_10, .inr (6, [.ref xw_11, .ref xt_12])), (xw_11, .inl (cw_17, 8, .inr (.inl (fun _ => 0)))), (xt_12, .inl (ct_18, 8, .inr (.inl (fun _ => 0)))), (q_25, .inl (cA_26, 1, .inr (.inl (fun _ => 0))))]) hD hS hA [0, 1, 2, 3, 4, 5, 6, 7, 8, 12] rfl
  refine va_calli (vx_runSW (As := [.ref q_1, .int (xs 1), .int (xs 2), .ref q_25]) (rest := []) ⟨hx, hb, hml, hown, hts⟩ (c_L_expose l hlt dC dI q_1 xs_5 xp_6 xl_7 xn_8 xm_9 xr_10 xw_11 xt_12 q_25 cS_13 cP_14 cn_15 cm_16 cw_17 ct_18 cA_26 sa ta H.size (xs 1) (xs 2)) (vx_cwSW 4 hts gl_L_expose rfl rfl rfl (by decide +kernel) ⟨Nat.le_of_ble_eq_true rfl, Nat.le_of_ble_eq_true rfl⟩) ⟨ax_fbW, ax_prW hPc hKc hDc hS hFc hE⟩ rfl rfl hl.1 rfl (lv_room (Nat.le_of_ble_eq_true rfl)) dL_law_641 ⟨Nat.le_of_ble_eq_true rfl, Nat.le_of_ble_eq_true rfl⟩) hS (fun q _ h9 => hFc q h9) hFc (fun r_123 u_125  t H locs ht hvm hw_124 hB hz1 hk1 hS => ?_)
  obtain ⟨of_126, rfl⟩ : ∃ z, z = u_125 := ⟨_, rfl⟩
  obtain ⟨hP1, hK1, hD1⟩ := hB
  rw [ht] at hP1
  have hK1 := va_K.moved hvm.symm hK1
  obtain ⟨hP, hD⟩ := va_join (wr := [(q_19, .inr (11, [.int 0, .ref ys_23, .ref yp_24, .int 0])), (ys_23, .inr (3, [.int 0, .ref (ta 4), .int 0])), (yp_24, .inr (3, [.int 0, .ref (ta 4), .int 0])), (q_27, .inl (cA_28, 1, .inr (.inr (.inr (.inl (fun _ => 0))))))]) (w1 := [(q_25, .inl (cA_26, 1, .inr (.inl of_126)))]) hP hD [0, 1, 2, 3, 4, 5, 6, 7, 8, 12] [9, 10, 11, 13] rfl rfl (by decide) (by decide) hk1 hFc hP1 hD1
  have hP : va_P (dC, dI) vwCl [(q_19, .inr (11, [.int 0, .ref ys_23, .ref yp_24, .int 0])), (ys_23, .inr (3, [.int 0, .ref (ta 4), .int 0])), (yp_24, .inr (3, [.int 0, .ref (ta 4), .int 0])), (q_27, .inl (cA_28, 1, .inr (.inr (.inr (.inl (fun _ => 0)))))), (q_25, .inl (cA_26, 1, .inr (.inl of_126)))] H := hP
  have hD : va_D A [(q_19, .inr (11, [.int 0, .ref ys_23, .ref yp_24, .int 0])), (ys_23, .inr (3, [.int 0, .ref (ta 4), .int 0])), (yp_24, .inr (3, [.int 0, .ref (ta 4), .int 0])), (q_27, .inl (cA_28, 1, .inr (.inr (.inr (.inl (fun _ => 0)))))), (q_25, .inl (cA_26, 1, .inr (.inl of_126)))] := hD
  refine ax_i (y := 1) hw_124 ?_
  refine lv_istore (lv' := [(6, .int 1), (5, .int 0), (4, .ref q_27), (3, .ref q_25), (2, .ref q_19), (1, .ref q_1), (0, .ref b)]) hx hb dL_law_644 hl (by decide) rfl (fun ls hl => ?_)
  refine lv_aload_n hx hb dL_law_646 rfl (lv_at hl 4 rfl) ?_
  refine lv_aload_n hx hb dL_law_647 rfl (lv_at hl 6 rfl) ?_
  refine lv_iload hx hb dL_law_648 (lv_at hl 1 rfl) ?_
  refine lv_iconst (v := 1) hx hb dL_law_650 (by decide) ?_
  refine lv_iadd hx hb dL_law_651 ?_
  refine ax_i (y := 1) (by decide) ?_
  refine va_sld hx hb hX hbl hbA hS (by unfold vp_in; decide) dL_law_652 ?_
  refine ax_i (y := xs 1) rfl ?_
  refine lv_aload_n hx hb dL_law_653 rfl (lv_at hl 6 rfl) ?_
  refine lv_iload hx hb dL_law_654 (lv_at hl 1 rfl) ?_
  refine lv_iconst (v := 2) hx hb dL_law_656 (by decide) ?_
  refine lv_iadd hx hb dL_law_657 ?_
  refine ax_i (y := 2) (by decide) ?_
  refine va_sld hx hb hX hbl hbA hS (by unfold vp_in; decide) dL_law_658 ?_
  refine ax_i (y := xs 2) rfl ?_
  have hPc := hP.sub (ws' := [(q_19, .inr (11, [.int 0, .ref ys_23, .ref yp_24, .int 0])), (ys_23, .inr (3, [.int 0, .ref (ta 4), .int 0])), (yp_24, .inr (3, [.int 0, .ref (ta 4), .int 0]))]) [0, 1, 2] rfl
  have hKc := hK.sub (tys' := []) [] rfl
  have hDc := hD.sub (ws' := [(q_19, .inr (11, [.int 0, .ref ys_23, .ref yp_24, .int 0])), (ys_23, .inr (3, [.int 0, .ref (ta 4), .int 0])), (yp_24, .inr (3, [.int 0, .ref (ta 4), .int 0]))]) [0, 1, 2] (by decide) rfl
  have hFc := va_free (wc := [(q_19, .inr (11, [.int 0, .ref ys_23, .ref yp_24, .int 0])), (ys_23, .inr (3, [.int 0, .ref (ta 4), .int 0])), (yp_24, .inr (3, [.int 0, .ref (ta 4), .int 0]))]) hD hS hA [0, 1, 2] rfl
  refine va_calli (va_runV (As := [.int (xs 1), .int (xs 2)]) (rest := []) ⟨hx, hb, hml, hown, hts⟩ (c_X7_expose l dC dI q_19 ys_23 yp_24 sa ta H.size 0 (xs 1) (xs 2)) (cwV 2 hts gl_X7_expose rfl rfl rfl (by decide +kernel) ⟨Nat.le_of_ble_eq_true rfl, Nat.le_of_ble_eq_true rfl⟩) ⟨ax_fbW, va_recv hK hP (ci := 11) (q0 := 0) rfl rfl, ax_prW hPc hKc hDc hS hFc hE⟩ rfl rfl hl.1 rfl (lv_room (Nat.le_of_ble_eq_true rfl)) dL_law_659 ⟨Nat.le_of_ble_eq_true rfl, Nat.le_of_ble_eq_true rfl⟩) hS (fun q _ h9 => hFc q h9) hFc (fun r_127 u_129  t H locs ht hvm hw_128 hB hz1 hk1 hS => ?_)
  obtain ⟨th2_130, rfl⟩ : ∃ z, z = u_129 := ⟨_, rfl⟩
  obtain ⟨hP1, hK1, hD1⟩ := hB
  rw [ht] at hP1
  have hK1 := va_K.moved hvm.symm hK1
  obtain ⟨hP, hD⟩ := va_join (wr := [(q_27, .inl (cA_28, 1, .inr (.inr (.inr (.inl (fun _ => 0)))))), (q_25, .inl (cA_26, 1, .inr (.inl of_126)))]) (w1 := [(q_19, .inr (11, [.int th2_130, .ref ys_23, .ref yp_24, .int 0]))]) hP hD [0, 1, 2] [3, 4] rfl rfl (by decide) (by decide) hk1 hFc hP1 hD1
  have hP : va_P (dC, dI) vwCl [(q_27, .inl (cA_28, 1, .inr (.inr (.inr (.inl (fun _ => 0)))))), (q_25, .inl (cA_26, 1, .inr (.inl of_126))), (q_19, .inr (11, [.int th2_130, .ref ys_23, .ref yp_24, .int 0]))] H := hP
  have hD : va_D A [(q_27, .inl (cA_28, 1, .inr (.inr (.inr (.inl (fun _ => 0)))))), (q_25, .inl (cA_26, 1, .inr (.inl of_126))), (q_19, .inr (11, [.int th2_130, .ref ys_23, .ref yp_24, .int 0]))] := hD
  have e9 := hw_128
  subst e9
  refine lv_istore (lv' := [(7, .int r_127), (6, .int 1), (5, .int 0), (4, .ref q_27), (3, .ref q_25), (2, .ref q_19), (1, .ref q_1), (0, .ref b)]) hx hb dL_law_662 hl (by decide) rfl (fun ls hl => ?_)
  refine lv_aload_n hx hb dL_law_664 rfl (lv_at hl 5 rfl) ?_
  have hPc := hP.sub (ws' := [(q_19, .inr (11, [.int 1, .ref ys_23, .ref yp_24, .int 0]))]) [2] rfl
  have hKc := hK.sub (tys' := []) [] rfl
  refine va_calli (va_runV (As := []) (rest := []) ⟨hx, hb, hml, hown, hts⟩ (c_X7_thrown l dC dI q_19 ys_23 yp_24 sa ta 1) (cwV 0 hts gl_X7_thrown rfl rfl rfl (by decide +kernel) ⟨Nat.le_of_ble_eq_true rfl, Nat.le_of_ble_eq_true rfl⟩) ⟨ax_fbR, va_recv hK hP (ci := 11) (q0 := 2) rfl rfl, ax_prR hPc hKc hS hE⟩ rfl rfl hl.1 rfl (lv_room (Nat.le_of_ble_eq_true rfl)) dL_law_665 ⟨Nat.le_of_ble_eq_true rfl, Nat.le_of_ble_eq_true rfl⟩) hS (fun _ _ h9 => h9.elim) (fun _ h9 => h9.elim) (fun r_131 u_133  t H locs ht hvm hw_132 hB hz1 hk1 hS => ?_)
  have hP := ax_keep hP (fun _ h9 => h9) hk1
  refine ax_i (y := 1) hw_132 ?_
  refine lv_iload hx hb dL_law_668 (lv_at hl 1 rfl) ?_
  refine lv_icmp_eq (tgt := 675) hx hb dL_law_670 (by decide) (fun _ => ?_) (fun h9 => absurd (by decide) h9)
  refine lv_iload hx hb dL_law_675 (lv_at hl 1 rfl) ?_
  refine lv_if_ne (tgt := 692) hx hb dL_law_677 (by decide) (fun _ => ?_) (fun h9 => absurd h9 (by decide))
  refine lv_goto (tgt := 1857) hx hb dL_law_692 (by decide) ?_
  refine lv_iinc (v := 5) (lv' := [(5, .int 5), (7, .int r_127), (6, .int 1), (4, .ref q_27), (3, .ref q_25), (2, .ref q_19), (1, .ref q_1), (0, .ref b)]) hx hb dL_law_1857 hl (k := 2) rfl (by decide) (by decide) rfl (fun ls hl => ?_)
  refine lv_goto (tgt := 28) hx hb dL_law_1860 (by decide) ?_
  refine lv_iload hx hb dL_law_28 (lv_at hl 0 rfl) ?_
  refine lv_aload_n hx hb dL_law_30 rfl (lv_at hl 7 rfl) ?_
  refine va_slen hx hb hX hbl hbA hS dL_law_31 ?_
  refine ax_i (y := 5) rfl ?_
  refine lv_iconst (v := 5) hx hb dL_law_32 (by decide) ?_
  refine lv_isub hx hb dL_law_33 ?_
  refine ax_i (y := 0) (by decide) ?_
  refine lv_icmp_gt (tgt := 1863) hx hb dL_law_34 (by decide) (fun _ => ?_) (fun h9 => absurd (by decide) h9)
  refine lv_iconst (v := 1) hx hb dL_law_1863 (by decide) ?_
  refine va_forget (fun q hq => by have h9 := hS.2.2 q hq; rw [hAd] at h9; exact h9) ?_
  refine W.widen (k := 600002) (n := 7302232) (Nat.le_of_ble_eq_true rfl) (Nat.le_of_ble_eq_true rfl) ?_
  refine W.base ?_
  exact lw_ret (Drawn.sameBut.refl s.drawn lw_cs) hx hb hr hlocks dL_law_1864

set_option maxHeartbeats 4000000 in
set_option maxRecDepth 100000 in
theorem law_c7 {p : Program} {e : Env} {s : State} {m : MethodId} {below : List Frame} {meth : Method} {c : Code} (l : Launch) (hlt : l.stackTraces = false) {dC : Nat → ClassId} {dI : Nat → Nat → Nat} {b : Nat} {xs : Nat → Int32} (C0 : lw_At p s m meth c b 5 xs) {A : Nat → Prop} (hAd : A = fun q => s.heap.size ≤ q) {sa ta : Nat → Nat} (hE : ax_S sa ta A s s.heap) {q_1 xs_5 xp_6 xl_7 xn_8 xm_9 xr_10 xw_11 xt_12 q_19 ys_23 yp_24 q_25 q_27 : Nat} {cS_13 cP_14 cn_15 cm_16 cw_17 ct_18 cA_26 cA_28 : ClassId} {H : Heap} {locs : List Loc} (hK : va_K (dC, dI) vwCl [(cS_13, .object "Diffractory$Source"), (cP_14, .object "Diffractory$Part"), (cn_15, .long), (cm_16, .long), (cw_17, .long), (ct_18, .long), (cA_26, .long), (cA_28, .double)] s) (hP : va_P (dC, dI) vwCl [(q_1, .inr (8, [.ref xs_5, .ref xp_6, .int 0, .int 0, .ref xl_7, .ref xr_10])), (xs_5, .inl (cS_13, 3, .inr (.inr (.inr (.inr (fun _ => none)))))), (xp_6, .inl (cP_14, 8, .inr (.inr (.inr (.inr (fun _ => none)))))), (xl_7, .inr (4, [.ref xn_8, .ref xm_9])), (xn_8, .inl (cn_15, 64, .inr (.inl (fun _ => 0)))), (xm_9, .inl (cm_16, 64, .inr (.inl (fun _ => 0)))), (xr_10, .inr (6, [.ref xw_11, .ref xt_12])), (xw_11, .inl (cw_17, 8, .inr (.inl (fun _ => 0)))), (xt_12, .inl (ct_18, 8, .inr (.inl (fun _ => 0)))), (q_19, .inr (11, [.int 0, .ref ys_23, .ref yp_24, .int 0])), (ys_23, .inr (3, [.int 0, .ref (ta 4), .int 0])), (yp_24, .inr (3, [.int 0, .ref (ta 4), .int 0])), (q_25, .inl (cA_26, 1, .inr (.inl (fun _ => 0)))), (q_27, .inl (cA_28, 1, .inr (.inr (.inr (.inl (fun _ => 0))))))] H) (hD : va_D A [(q_1, .inr (8, [.ref xs_5, .ref xp_6, .int 0, .int 0, .ref xl_7, .ref xr_10])), (xs_5, .inl (cS_13, 3, .inr (.inr (.inr (.inr (fun _ => none)))))), (xp_6, .inl (cP_14, 8, .inr (.inr (.inr (.inr (fun _ => none)))))), (xl_7, .inr (4, [.ref xn_8, .ref xm_9])), (xn_8, .inl (cn_15, 64, .inr (.inl (fun _ => 0)))), (xm_9, .inl (cm_16, 64, .inr (.inl (fun _ => 0)))), (xr_10, .inr (6, [.ref xw_11, .ref xt_12])), (xw_11, .inl (cw_17, 8, .inr (.inl (fun _ => 0)))), (xt_12, .inl (ct_18, 8, .inr (.inl (fun _ => 0)))), (q_19, .inr (11, [.int 0, .ref ys_23, .ref yp_24, .int 0])), (ys_23, .inr (3, [.int 0, .ref (ta 4), .int 0])), (yp_24, .inr (3, [.int 0, .ref (ta 4), .int 0])), (q_25, .inl (cA_26, 1, .inr (.inl (fun _ => 0)))), (q_27, .inl (cA_28, 1, .inr (.inr (.inr (.inl (fun _ => 0))))))]) (hS : va_S A s.heap H locs) {ls : Array Slot} (hl : lv_has ls 9 [(5, .int 0), (4, .ref q_27), (3, .ref q_25), (2, .ref q_19), (1, .ref q_1), (0, .ref b)]) : W p l e room_1 s m #[Value.ref b] below meth c H locs 14 177 (lw_Z below #[Value.ref b] s) (F0 m 695 ls []) := by
  obtain ⟨hx, hb, hr, hml, hown, hts, hX, hbl, hlocks, hgv⟩ := C0
  have hA : ∀ q : Nat, s.heap.size ≤ q → A q := fun q h => by rw [hAd]; exact h
  have hbA : ¬ A b := by rw [hAd]; exact Nat.not_le.mpr hbl
  refine lv_aload_n hx hb dL_law_695 rfl (lv_at hl 4 rfl) ?_
  refine lv_aload_n hx hb dL_law_696 rfl (lv_at hl 5 rfl) ?_
  refine lv_iload hx hb dL_law_697 (lv_at hl 0 rfl) ?_
  refine lv_iconst (v := 1) hx hb dL_law_699 (by decide) ?_
  refine lv_iadd hx hb dL_law_700 ?_
  refine ax_i (y := 1) (by decide) ?_
  refine va_sld hx hb hX hbl hbA hS (by unfold vp_in; decide) dL_law_701 ?_
  refine ax_i (y := xs 1) rfl ?_
  refine lv_aload_n hx hb dL_law_702 rfl (lv_at hl 5 rfl) ?_
  refine lv_iload hx hb dL_law_703 (lv_at hl 0 rfl) ?_
  refine lv_iconst (v := 2) hx hb dL_law_705 (by decide) ?_
  refine lv_iadd hx hb dL_law_706 ?_
  refine ax_i (y := 2) (by decide) ?_
  refine va_sld hx hb hX hbl hbA hS (by unfold vp_in; decide) dL_law_707 ?_
  refine ax_i (y := xs 2) rfl ?_
  refine lv_aload_n hx hb dL_law_708 rfl (lv_at hl 5 rfl) ?_
  refine lv_iload hx hb dL_law_709 (lv_at hl 0 rfl) ?_
  refine lv_iconst (v := 3) hx hb dL_law_711 (by decide) ?_
  refine lv_iadd hx hb dL_law_712 ?_
  refine ax_i (y := 3) (by decide) ?_
  refine va_sld hx hb hX hbl hbA hS (by unfold vp_in; decide) dL_law_713 ?_
  refine ax_i (y := xs 3) rfl ?_
  refine lv_aload_n hx hb dL_law_714 rfl (lv_at hl 5 rfl) ?_
  refine lv_iload hx hb dL_law_715 (lv_at hl 0 rfl) ?_
  refine lv_iconst (v := 4) hx hb dL_law_717 (by decide) ?_
  refine lv_iadd hx hb dL_law_718 ?_
  refine ax_i (y := 4) (by decide) ?_
  refine va_sld hx hb hX hbl hbA hS (by unfold vp_in; decide) dL_law_719 ?_
  refine ax_i (y := xs 4) rfl ?_
  refine lv_aload_n hx hb dL_law_720 rfl (lv_at hl 2 rfl) ?_
  have hPc := hP.sub (ws' := [(q_1, .inr (8, [.ref xs_5, .ref xp_6, .int 0, .int 0, .ref xl_7, .ref xr_10])), (xs_5, .inl (cS_13, 3, .inr (.inr (.inr (.inr (fun _ => none)))))), (xp_6, .inl (cP_14, 8, .inr (.inr (.inr (.inr (fun _ => none)))))), (xl_7, .inr (4, [.ref xn_8, .ref xm_9])), (xn_8, .inl (cn_15, 64, .inr (.inl (fun _ => 0)))), (xm_9, .inl (cm_16, 64, .inr (.inl (fun _ => 0)))), (xr_10, .inr (6, [.ref xw_11, .ref xt_12])), (xw_11, .inl (cw_17, 8, .inr (.inl (fun _ => 0)))), (xt_12, .inl (ct_18, 8, .inr (.inl (fun _ => 0)))), (q_25, .inl (cA_26, 1, .inr (.inl (fun _ => 0))))]) [0, 1, 2, 3, 4, 5, 6, 7, 8, 12] rfl
  have hKc := hK.sub (tys' := [(cS_13, .object "Diffractory$Source"), (cP_14, .object "Diffractory$Part"), (cn_15, .long), (cm_16, .long), (cw_17, .long), (ct_18, .long), (cA_26, .long)]) [0, 1, 2, 3, 4, 5, 6] rfl
  have hDc := hD.sub (ws' := [(q_1, .inr (8, [.ref xs_5, .ref xp_6, .int 0, .int 0, .ref xl_7, .ref xr_10])), (xs_5, .inl (cS_13, 3, .inr (.inr (.inr (.inr (fun _ => none)))))), (xp_6, .inl (cP_14, 8, .inr (.inr (.inr (.inr (fun _ => none)))))), (xl_7, .inr (4, [.ref xn_8, .ref xm_9])), (xn_8, .inl (cn_15, 64, .inr (.inl (fun _ => 0)))), (xm_9, .inl (cm_16, 64, .inr (.inl (fun _ => 0)))), (xr_10, .inr (6, [.ref xw_11, .ref xt_12])), (xw_11, .inl (cw_17, 8, .inr (.inl (fun _ => 0)))), (xt_12, .inl (ct_18, 8, .inr (.inl (fun _ => 0)))), (q_25, .inl (cA_26, 1, .inr (.inl (fun _ => 0))))]) [0, 1, 2, 3, 4, 5, 6, 7, 8, 12] (by decide) rfl
  have hFc := va_free (wc := [(q_1, .inr (8, [.ref xs_5, .ref xp_6, .int 0, .int 0, .ref xl_7, .ref xr_10])), (xs_5, .inl (cS_13, 3, .inr (.inr (.inr (.inr (fun _ => none)))))), (xp_6, .inl (cP_14, 8, .inr (.inr (.inr (.inr (fun _ => none)))))), (xl_7, .inr (4, [.ref xn_8, .ref xm_9])), (xn_8, .inl (cn_15, 64, .inr (.inl (fun _ => 0)))), (xm_9, .inl (cm_16, 64, .inr (.inl (fun _ => 0)))), (xr_10, .inr (6, [.ref xw_11, .ref xt_12])), (xw_11, .inl (cw_17, 8, .inr (.inl (fun _ => 0)))), (xt_12, .inl (ct_18, 8, .inr (.inl (fun _ => 0)))), (q_25, .inl (cA_26, 1, .inr (.inl (fun _ => 0))))]) hD hS hA [0, 1, 2, 3, 4, 5, 6, 7, 8, 12] rfl
  refine va_calli (vx_runSW (As := [.ref q_1, .int (xs 1), .int (xs 2), .int (xs 3), .int (xs 4), .ref q_25]) (rest := []) ⟨hx, hb, hml, hown, hts⟩ (c_L_amplitude l hlt dC dI q_1 xs_5 xp_6 xl_7 xn_8 xm_9 xr_10 xw_11 xt_12 q_25 cS_13 cP_14 cn_15 cm_16 cw_17 ct_18 cA_26 sa ta H.size (xs 1) (xs 2) (xs 3) (xs 4)) (vx_cwSW 6 hts gl_L_amplitude rfl rfl rfl (by decide +kernel) ⟨Nat.le_of_ble_eq_true rfl, Nat.le_of_ble_eq_true rfl⟩) ⟨ax_fbW, ax_prW hPc hKc hDc hS hFc hE⟩ rfl rfl hl.1 rfl (lv_room (Nat.le_of_ble_eq_true rfl)) dL_law_721 ⟨Nat.le_of_ble_eq_true rfl, Nat.le_of_ble_eq_true rfl⟩) hS (fun q _ h9 => hFc q h9) hFc (fun r_134 u_136  t H locs ht hvm hw_135 hB hz1 hk1 hS => ?_)
  obtain ⟨of_137, rfl⟩ : ∃ z, z = u_136 := ⟨_, rfl⟩
  obtain ⟨hP1, hK1, hD1⟩ := hB
  rw [ht] at hP1
  have hK1 := va_K.moved hvm.symm hK1
  obtain ⟨hP, hD⟩ := va_join (wr := [(q_19, .inr (11, [.int 0, .ref ys_23, .ref yp_24, .int 0])), (ys_23, .inr (3, [.int 0, .ref (ta 4), .int 0])), (yp_24, .inr (3, [.int 0, .ref (ta 4), .int 0])), (q_27, .inl (cA_28, 1, .inr (.inr (.inr (.inl (fun _ => 0))))))]) (w1 := [(q_25, .inl (cA_26, 1, .inr (.inl of_137)))]) hP hD [0, 1, 2, 3, 4, 5, 6, 7, 8, 12] [9, 10, 11, 13] rfl rfl (by decide) (by decide) hk1 hFc hP1 hD1
  have hP : va_P (dC, dI) vwCl [(q_19, .inr (11, [.int 0, .ref ys_23, .ref yp_24, .int 0])), (ys_23, .inr (3, [.int 0, .ref (ta 4), .int 0])), (yp_24, .inr (3, [.int 0, .ref (ta 4), .int 0])), (q_27, .inl (cA_28, 1, .inr (.inr (.inr (.inl (fun _ => 0)))))), (q_25, .inl (cA_26, 1, .inr (.inl of_137)))] H := hP
  have hD : va_D A [(q_19, .inr (11, [.int 0, .ref ys_23, .ref yp_24, .int 0])), (ys_23, .inr (3, [.int 0, .ref (ta 4), .int 0])), (yp_24, .inr (3, [.int 0, .ref (ta 4), .int 0])), (q_27, .inl (cA_28, 1, .inr (.inr (.inr (.inl (fun _ => 0)))))), (q_25, .inl (cA_26, 1, .inr (.inl of_137)))] := hD
  refine ax_i (y := 1) hw_135 ?_
  refine lv_istore (lv' := [(6, .int 1), (5, .int 0), (4, .ref q_27), (3, .ref q_25), (2, .ref q_19), (1, .ref q_1), (0, .ref b)]) hx hb dL_law_724 hl (by decide) rfl (fun ls hl => ?_)
  refine lv_aload_n hx hb dL_law_726 rfl (lv_at hl 4 rfl) ?_
  refine lv_aload_n hx hb dL_law_727 rfl (lv_at hl 6 rfl) ?_
  refine lv_iload hx hb dL_law_728 (lv_at hl 1 rfl) ?_
  refine lv_iconst (v := 1) hx hb dL_law_730 (by decide) ?_
  refine lv_iadd hx hb dL_law_731 ?_
  refine ax_i (y := 1) (by decide) ?_
  refine va_sld hx hb hX hbl hbA hS (by unfold vp_in; decide) dL_law_732 ?_
  refine ax_i (y := xs 1) rfl ?_
  refine lv_aload_n hx hb dL_law_733 rfl (lv_at hl 6 rfl) ?_
  refine lv_iload hx hb dL_law_734 (lv_at hl 1 rfl) ?_
  refine lv_iconst (v := 2) hx hb dL_law_736 (by decide) ?_
  refine lv_iadd hx hb dL_law_737 ?_
  refine ax_i (y := 2) (by decide) ?_
  refine va_sld hx hb hX hbl hbA hS (by unfold vp_in; decide) dL_law_738 ?_
  refine ax_i (y := xs 2) rfl ?_
  refine lv_aload_n hx hb dL_law_739 rfl (lv_at hl 6 rfl) ?_
  refine lv_iload hx hb dL_law_740 (lv_at hl 1 rfl) ?_
  refine lv_iconst (v := 3) hx hb dL_law_742 (by decide) ?_
  refine lv_iadd hx hb dL_law_743 ?_
  refine ax_i (y := 3) (by decide) ?_
  refine va_sld hx hb hX hbl hbA hS (by unfold vp_in; decide) dL_law_744 ?_
  refine ax_i (y := xs 3) rfl ?_
  refine lv_aload_n hx hb dL_law_745 rfl (lv_at hl 6 rfl) ?_
  refine lv_iload hx hb dL_law_746 (lv_at hl 1 rfl) ?_
  refine lv_iconst (v := 4) hx hb dL_law_748 (by decide) ?_
  refine lv_iadd hx hb dL_law_749 ?_
  refine ax_i (y := 4) (by decide) ?_
  refine va_sld hx hb hX hbl hbA hS (by unfold vp_in; decide) dL_law_750 ?_
  refine ax_i (y := xs 4) rfl ?_
  have hPc := hP.sub (ws' := [(q_19, .inr (11, [.int 0, .ref ys_23, .ref yp_24, .int 0])), (ys_23, .inr (3, [.int 0, .ref (ta 4), .int 0])), (yp_24, .inr (3, [.int 0, .ref (ta 4), .int 0]))]) [0, 1, 2] rfl
  have hKc := hK.sub (tys' := []) [] rfl
  have hDc := hD.sub (ws' := [(q_19, .inr (11, [.int 0, .ref ys_23, .ref yp_24, .int 0])), (ys_23, .inr (3, [.int 0, .ref (ta 4), .int 0])), (yp_24, .inr (3, [.int 0, .ref (ta 4), .int 0]))]) [0, 1, 2] (by decide) rfl
  have hFc := va_free (wc := [(q_19, .inr (11, [.int 0, .ref ys_23, .ref yp_24, .int 0])), (ys_23, .inr (3, [.int 0, .ref (ta 4), .int 0])), (yp_24, .inr (3, [.int 0, .ref (ta 4), .int 0]))]) hD hS hA [0, 1, 2] rfl
  refine va_calll (va_runV (As := [.int (xs 1), .int (xs 2), .int (xs 3), .int (xs 4)]) (rest := []) ⟨hx, hb, hml, hown, hts⟩ (c_X7_amplitude l dC dI q_19 ys_23 yp_24 sa ta H.size 0 (xs 1) (xs 2) (xs 3) (xs 4)) (cwV 4 hts gl_X7_amplitude rfl rfl rfl (by decide +kernel) ⟨Nat.le_of_ble_eq_true rfl, Nat.le_of_ble_eq_true rfl⟩) ⟨ax_fbW, va_recv hK hP (ci := 11) (q0 := 0) rfl rfl, ax_prW hPc hKc hDc hS hFc hE⟩ rfl rfl hl.1 rfl (lv_room (Nat.le_of_ble_eq_true rfl)) dL_law_751 ⟨Nat.le_of_ble_eq_true rfl, Nat.le_of_ble_eq_true rfl⟩) hS (fun q _ h9 => hFc q h9) hFc (fun r_138 u_140  t H locs ht hvm hw_139 hB hz1 hk1 hS => ?_)
  obtain ⟨th2_141, rfl⟩ : ∃ z, z = u_140 := ⟨_, rfl⟩
  obtain ⟨hP1, hK1, hD1⟩ := hB
  rw [ht] at hP1
  have hK1 := va_K.moved hvm.symm hK1
  obtain ⟨hP, hD⟩ := va_join (wr := [(q_27, .inl (cA_28, 1, .inr (.inr (.inr (.inl (fun _ => 0)))))), (q_25, .inl (cA_26, 1, .inr (.inl of_137)))]) (w1 := [(q_19, .inr (11, [.int th2_141, .ref ys_23, .ref yp_24, .int 0]))]) hP hD [0, 1, 2] [3, 4] rfl rfl (by decide) (by decide) hk1 hFc hP1 hD1
  have hP : va_P (dC, dI) vwCl [(q_27, .inl (cA_28, 1, .inr (.inr (.inr (.inl (fun _ => 0)))))), (q_25, .inl (cA_26, 1, .inr (.inl of_137))), (q_19, .inr (11, [.int th2_141, .ref ys_23, .ref yp_24, .int 0]))] H := hP
  have hD : va_D A [(q_27, .inl (cA_28, 1, .inr (.inr (.inr (.inl (fun _ => 0)))))), (q_25, .inl (cA_26, 1, .inr (.inl of_137))), (q_19, .inr (11, [.int th2_141, .ref ys_23, .ref yp_24, .int 0]))] := hD
  have e9 := hw_139
  subst e9
  refine lv_lstore (lv' := [(7, .long r_138), (6, .int 1), (5, .int 0), (4, .ref q_27), (3, .ref q_25), (2, .ref q_19), (1, .ref q_1), (0, .ref b)]) hx hb dL_law_754 hl (by decide) rfl (fun ls hl => ?_)
  refine lv_aload_n hx hb dL_law_756 rfl (lv_at hl 5 rfl) ?_
  have hPc := hP.sub (ws' := [(q_19, .inr (11, [.int 1, .ref ys_23, .ref yp_24, .int 0]))]) [2] rfl
  have hKc := hK.sub (tys' := []) [] rfl
  refine va_calli (va_runV (As := []) (rest := []) ⟨hx, hb, hml, hown, hts⟩ (c_X7_thrown l dC dI q_19 ys_23 yp_24 sa ta 1) (cwV 0 hts gl_X7_thrown rfl rfl rfl (by decide +kernel) ⟨Nat.le_of_ble_eq_true rfl, Nat.le_of_ble_eq_true rfl⟩) ⟨ax_fbR, va_recv hK hP (ci := 11) (q0 := 2) rfl rfl, ax_prR hPc hKc hS hE⟩ rfl rfl hl.1 rfl (lv_room (Nat.le_of_ble_eq_true rfl)) dL_law_757 ⟨Nat.le_of_ble_eq_true rfl, Nat.le_of_ble_eq_true rfl⟩) hS (fun _ _ h9 => h9.elim) (fun _ h9 => h9.elim) (fun r_142 u_144  t H locs ht hvm hw_143 hB hz1 hk1 hS => ?_)
  have hP := ax_keep hP (fun _ h9 => h9) hk1
  refine ax_i (y := 1) hw_143 ?_
  refine lv_iload hx hb dL_law_760 (lv_at hl 1 rfl) ?_
  refine lv_icmp_eq (tgt := 767) hx hb dL_law_762 (by decide) (fun _ => ?_) (fun h9 => absurd (by decide) h9)
  refine lv_iload hx hb dL_law_767 (lv_at hl 1 rfl) ?_
  refine lv_if_ne (tgt := 783) hx hb dL_law_769 (by decide) (fun _ => ?_) (fun h9 => absurd h9 (by decide))
  refine lv_goto (tgt := 1857) hx hb dL_law_783 (by decide) ?_
  refine lv_iinc (v := 5) (lv' := [(5, .int 5), (7, .long r_138), (6, .int 1), (4, .ref q_27), (3, .ref q_25), (2, .ref q_19), (1, .ref q_1), (0, .ref b)]) hx hb dL_law_1857 hl (k := 2) rfl (by decide) (by decide) rfl (fun ls hl => ?_)
  refine lv_goto (tgt := 28) hx hb dL_law_1860 (by decide) ?_
  refine lv_iload hx hb dL_law_28 (lv_at hl 0 rfl) ?_
  refine lv_aload_n hx hb dL_law_30 rfl (lv_at hl 7 rfl) ?_
  refine va_slen hx hb hX hbl hbA hS dL_law_31 ?_
  refine ax_i (y := 5) rfl ?_
  refine lv_iconst (v := 5) hx hb dL_law_32 (by decide) ?_
  refine lv_isub hx hb dL_law_33 ?_
  refine ax_i (y := 0) (by decide) ?_
  refine lv_icmp_gt (tgt := 1863) hx hb dL_law_34 (by decide) (fun _ => ?_) (fun h9 => absurd (by decide) h9)
  refine lv_iconst (v := 1) hx hb dL_law_1863 (by decide) ?_
  refine va_forget (fun q hq => by have h9 := hS.2.2 q hq; rw [hAd] at h9; exact h9) ?_
  refine W.widen (k := 600002) (n := 7302232) (Nat.le_of_ble_eq_true rfl) (Nat.le_of_ble_eq_true rfl) ?_
  refine W.base ?_
  exact lw_ret (Drawn.sameBut.refl s.drawn lw_cs) hx hb hr hlocks dL_law_1864

set_option maxHeartbeats 4000000 in
set_option maxRecDepth 100000 in
theorem law_c8 {p : Program} {e : Env} {s : State} {m : MethodId} {below : List Frame} {meth : Method} {c : Code} (l : Launch) (hlt : l.stackTraces = false) {dC : Nat → ClassId} {dI : Nat → Nat → Nat} {b : Nat} {xs : Nat → Int32} (C0 : lw_At p s m meth c b 5 xs) {A : Nat → Prop} (hAd : A = fun q => s.heap.size ≤ q) {sa ta : Nat → Nat} (hE : ax_S sa ta A s s.heap) {q_1 xs_5 xp_6 xl_7 xn_8 xm_9 xr_10 xw_11 xt_12 q_19 ys_23 yp_24 q_25 q_27 : Nat} {cS_13 cP_14 cn_15 cm_16 cw_17 ct_18 cA_26 cA_28 : ClassId} {H : Heap} {locs : List Loc} (hK : va_K (dC, dI) vwCl [(cS_13, .object "Diffractory$Source"), (cP_14, .object "Diffractory$Part"), (cn_15, .long), (cm_16, .long), (cw_17, .long), (ct_18, .long), (cA_26, .long), (cA_28, .double)] s) (hP : va_P (dC, dI) vwCl [(q_1, .inr (8, [.ref xs_5, .ref xp_6, .int 0, .int 0, .ref xl_7, .ref xr_10])), (xs_5, .inl (cS_13, 3, .inr (.inr (.inr (.inr (fun _ => none)))))), (xp_6, .inl (cP_14, 8, .inr (.inr (.inr (.inr (fun _ => none)))))), (xl_7, .inr (4, [.ref xn_8, .ref xm_9])), (xn_8, .inl (cn_15, 64, .inr (.inl (fun _ => 0)))), (xm_9, .inl (cm_16, 64, .inr (.inl (fun _ => 0)))), (xr_10, .inr (6, [.ref xw_11, .ref xt_12])), (xw_11, .inl (cw_17, 8, .inr (.inl (fun _ => 0)))), (xt_12, .inl (ct_18, 8, .inr (.inl (fun _ => 0)))), (q_19, .inr (11, [.int 0, .ref ys_23, .ref yp_24, .int 0])), (ys_23, .inr (3, [.int 0, .ref (ta 4), .int 0])), (yp_24, .inr (3, [.int 0, .ref (ta 4), .int 0])), (q_25, .inl (cA_26, 1, .inr (.inl (fun _ => 0)))), (q_27, .inl (cA_28, 1, .inr (.inr (.inr (.inl (fun _ => 0))))))] H) (hD : va_D A [(q_1, .inr (8, [.ref xs_5, .ref xp_6, .int 0, .int 0, .ref xl_7, .ref xr_10])), (xs_5, .inl (cS_13, 3, .inr (.inr (.inr (.inr (fun _ => none)))))), (xp_6, .inl (cP_14, 8, .inr (.inr (.inr (.inr (fun _ => none)))))), (xl_7, .inr (4, [.ref xn_8, .ref xm_9])), (xn_8, .inl (cn_15, 64, .inr (.inl (fun _ => 0)))), (xm_9, .inl (cm_16, 64, .inr (.inl (fun _ => 0)))), (xr_10, .inr (6, [.ref xw_11, .ref xt_12])), (xw_11, .inl (cw_17, 8, .inr (.inl (fun _ => 0)))), (xt_12, .inl (ct_18, 8, .inr (.inl (fun _ => 0)))), (q_19, .inr (11, [.int 0, .ref ys_23, .ref yp_24, .int 0])), (ys_23, .inr (3, [.int 0, .ref (ta 4), .int 0])), (yp_24, .inr (3, [.int 0, .ref (ta 4), .int 0])), (q_25, .inl (cA_26, 1, .inr (.inl (fun _ => 0)))), (q_27, .inl (cA_28, 1, .inr (.inr (.inr (.inl (fun _ => 0))))))]) (hS : va_S A s.heap H locs) {ls : Array Slot} (hl : lv_has ls 9 [(5, .int 0), (4, .ref q_27), (3, .ref q_25), (2, .ref q_19), (1, .ref q_1), (0, .ref b)]) : W p l e room_1 s m #[Value.ref b] below meth c H locs 14 177 (lw_Z below #[Value.ref b] s) (F0 m 786 ls []) := by
  obtain ⟨hx, hb, hr, hml, hown, hts, hX, hbl, hlocks, hgv⟩ := C0
  have hA : ∀ q : Nat, s.heap.size ≤ q → A q := fun q h => by rw [hAd]; exact h
  have hbA : ¬ A b := by rw [hAd]; exact Nat.not_le.mpr hbl
  refine lv_aload_n hx hb dL_law_786 rfl (lv_at hl 4 rfl) ?_
  refine lv_aload_n hx hb dL_law_787 rfl (lv_at hl 5 rfl) ?_
  refine lv_iload hx hb dL_law_788 (lv_at hl 0 rfl) ?_
  refine lv_iconst (v := 1) hx hb dL_law_790 (by decide) ?_
  refine lv_iadd hx hb dL_law_791 ?_
  refine ax_i (y := 1) (by decide) ?_
  refine va_sld hx hb hX hbl hbA hS (by unfold vp_in; decide) dL_law_792 ?_
  refine ax_i (y := xs 1) rfl ?_
  refine lv_aload_n hx hb dL_law_793 rfl (lv_at hl 5 rfl) ?_
  refine lv_iload hx hb dL_law_794 (lv_at hl 0 rfl) ?_
  refine lv_iconst (v := 2) hx hb dL_law_796 (by decide) ?_
  refine lv_iadd hx hb dL_law_797 ?_
  refine ax_i (y := 2) (by decide) ?_
  refine va_sld hx hb hX hbl hbA hS (by unfold vp_in; decide) dL_law_798 ?_
  refine ax_i (y := xs 2) rfl ?_
  refine lv_aload_n hx hb dL_law_799 rfl (lv_at hl 2 rfl) ?_
  have hPc := hP.sub (ws' := [(q_1, .inr (8, [.ref xs_5, .ref xp_6, .int 0, .int 0, .ref xl_7, .ref xr_10])), (xs_5, .inl (cS_13, 3, .inr (.inr (.inr (.inr (fun _ => none)))))), (xp_6, .inl (cP_14, 8, .inr (.inr (.inr (.inr (fun _ => none)))))), (xl_7, .inr (4, [.ref xn_8, .ref xm_9])), (xn_8, .inl (cn_15, 64, .inr (.inl (fun _ => 0)))), (xm_9, .inl (cm_16, 64, .inr (.inl (fun _ => 0)))), (xr_10, .inr (6, [.ref xw_11, .ref xt_12])), (xw_11, .inl (cw_17, 8, .inr (.inl (fun _ => 0)))), (xt_12, .inl (ct_18, 8, .inr (.inl (fun _ => 0)))), (q_25, .inl (cA_26, 1, .inr (.inl (fun _ => 0))))]) [0, 1, 2, 3, 4, 5, 6, 7, 8, 12] rfl
  have hKc := hK.sub (tys' := [(cS_13, .object "Diffractory$Source"), (cP_14, .object "Diffractory$Part"), (cn_15, .long), (cm_16, .long), (cw_17, .long), (ct_18, .long), (cA_26, .long)]) [0, 1, 2, 3, 4, 5, 6] rfl
  have hDc := hD.sub (ws' := [(q_1, .inr (8, [.ref xs_5, .ref xp_6, .int 0, .int 0, .ref xl_7, .ref xr_10])), (xs_5, .inl (cS_13, 3, .inr (.inr (.inr (.inr (fun _ => none)))))), (xp_6, .inl (cP_14, 8, .inr (.inr (.inr (.inr (fun _ => none)))))), (xl_7, .inr (4, [.ref xn_8, .ref xm_9])), (xn_8, .inl (cn_15, 64, .inr (.inl (fun _ => 0)))), (xm_9, .inl (cm_16, 64, .inr (.inl (fun _ => 0)))), (xr_10, .inr (6, [.ref xw_11, .ref xt_12])), (xw_11, .inl (cw_17, 8, .inr (.inl (fun _ => 0)))), (xt_12, .inl (ct_18, 8, .inr (.inl (fun _ => 0)))), (q_25, .inl (cA_26, 1, .inr (.inl (fun _ => 0))))]) [0, 1, 2, 3, 4, 5, 6, 7, 8, 12] (by decide) rfl
  have hFc := va_free (wc := [(q_1, .inr (8, [.ref xs_5, .ref xp_6, .int 0, .int 0, .ref xl_7, .ref xr_10])), (xs_5, .inl (cS_13, 3, .inr (.inr (.inr (.inr (fun _ => none)))))), (xp_6, .inl (cP_14, 8, .inr (.inr (.inr (.inr (fun _ => none)))))), (xl_7, .inr (4, [.ref xn_8, .ref xm_9])), (xn_8, .inl (cn_15, 64, .inr (.inl (fun _ => 0)))), (xm_9, .inl (cm_16, 64, .inr (.inl (fun _ => 0)))), (xr_10, .inr (6, [.ref xw_11, .ref xt_12])), (xw_11, .inl (cw_17, 8, .inr (.inl (fun _ => 0)))), (xt_12, .inl (ct_18, 8, .inr (.inl (fun _ => 0)))), (q_25, .inl (cA_26, 1, .inr (.inl (fun _ => 0))))]) hD hS hA [0, 1, 2, 3, 4, 5, 6, 7, 8, 12] rfl
  refine va_calli (vx_runSW (As := [.ref q_1, .int (xs 1), .int (xs 2), .ref q_25]) (rest := []) ⟨hx, hb, hml, hown, hts⟩ (c_L_whole l hlt dC dI q_1 xs_5 xp_6 xl_7 xn_8 xm_9 xr_10 xw_11 xt_12 q_25 cS_13 cP_14 cn_15 cm_16 cw_17 ct_18 cA_26 sa ta H.size (xs 1) (xs 2)) (vx_cwSW 4 hts gl_L_whole rfl rfl rfl (by decide +kernel) ⟨Nat.le_of_ble_eq_true rfl, Nat.le_of_ble_eq_true rfl⟩) ⟨ax_fbW, ax_prW hPc hKc hDc hS hFc hE⟩ rfl rfl hl.1 rfl (lv_room (Nat.le_of_ble_eq_true rfl)) dL_law_800 ⟨Nat.le_of_ble_eq_true rfl, Nat.le_of_ble_eq_true rfl⟩) hS (fun q _ h9 => hFc q h9) hFc (fun r_145 u_147  t H locs ht hvm hw_146 hB hz1 hk1 hS => ?_)
  obtain ⟨of_148, rfl⟩ : ∃ z, z = u_147 := ⟨_, rfl⟩
  obtain ⟨hP1, hK1, hD1⟩ := hB
  rw [ht] at hP1
  have hK1 := va_K.moved hvm.symm hK1
  obtain ⟨hP, hD⟩ := va_join (wr := [(q_19, .inr (11, [.int 0, .ref ys_23, .ref yp_24, .int 0])), (ys_23, .inr (3, [.int 0, .ref (ta 4), .int 0])), (yp_24, .inr (3, [.int 0, .ref (ta 4), .int 0])), (q_27, .inl (cA_28, 1, .inr (.inr (.inr (.inl (fun _ => 0))))))]) (w1 := [(q_25, .inl (cA_26, 1, .inr (.inl of_148)))]) hP hD [0, 1, 2, 3, 4, 5, 6, 7, 8, 12] [9, 10, 11, 13] rfl rfl (by decide) (by decide) hk1 hFc hP1 hD1
  have hP : va_P (dC, dI) vwCl [(q_19, .inr (11, [.int 0, .ref ys_23, .ref yp_24, .int 0])), (ys_23, .inr (3, [.int 0, .ref (ta 4), .int 0])), (yp_24, .inr (3, [.int 0, .ref (ta 4), .int 0])), (q_27, .inl (cA_28, 1, .inr (.inr (.inr (.inl (fun _ => 0)))))), (q_25, .inl (cA_26, 1, .inr (.inl of_148)))] H := hP
  have hD : va_D A [(q_19, .inr (11, [.int 0, .ref ys_23, .ref yp_24, .int 0])), (ys_23, .inr (3, [.int 0, .ref (ta 4), .int 0])), (yp_24, .inr (3, [.int 0, .ref (ta 4), .int 0])), (q_27, .inl (cA_28, 1, .inr (.inr (.inr (.inl (fun _ => 0)))))), (q_25, .inl (cA_26, 1, .inr (.inl of_148)))] := hD
  rcases hw_146 with hw_146 | hw_146
  · refine ax_i (y := 0) hw_146.2.1 ?_
    refine lv_istore (lv' := [(6, .int 0), (5, .int 0), (4, .ref q_27), (3, .ref q_25), (2, .ref q_19), (1, .ref q_1), (0, .ref b)]) hx hb dL_law_803 hl (by decide) rfl (fun ls hl => ?_)
    refine lv_aload_n hx hb dL_law_805 rfl (lv_at hl 4 rfl) ?_
    refine lv_aload_n hx hb dL_law_806 rfl (lv_at hl 6 rfl) ?_
    refine lv_iload hx hb dL_law_807 (lv_at hl 1 rfl) ?_
    refine lv_iconst (v := 1) hx hb dL_law_809 (by decide) ?_
    refine lv_iadd hx hb dL_law_810 ?_
    refine ax_i (y := 1) (by decide) ?_
    refine va_sld hx hb hX hbl hbA hS (by unfold vp_in; decide) dL_law_811 ?_
    refine ax_i (y := xs 1) rfl ?_
    refine lv_aload_n hx hb dL_law_812 rfl (lv_at hl 6 rfl) ?_
    refine lv_iload hx hb dL_law_813 (lv_at hl 1 rfl) ?_
    refine lv_iconst (v := 2) hx hb dL_law_815 (by decide) ?_
    refine lv_iadd hx hb dL_law_816 ?_
    refine ax_i (y := 2) (by decide) ?_
    refine va_sld hx hb hX hbl hbA hS (by unfold vp_in; decide) dL_law_817 ?_
    refine ax_i (y := xs 2) rfl ?_
    have hPc := hP.sub (ws' := [(q_19, .inr (11, [.int 0, .ref ys_23, .ref yp_24, .int 0])), (ys_23, .inr (3, [.int 0, .ref (ta 4), .int 0])), (yp_24, .inr (3, [.int 0, .ref (ta 4), .int 0]))]) [0, 1, 2] rfl
    have hKc := hK.sub (tys' := []) [] rfl
    have hDc := hD.sub (ws' := [(q_19, .inr (11, [.int 0, .ref ys_23, .ref yp_24, .int 0])), (ys_23, .inr (3, [.int 0, .ref (ta 4), .int 0])), (yp_24, .inr (3, [.int 0, .ref (ta 4), .int 0]))]) [0, 1, 2] (by decide) rfl
    have hFc := va_free (wc := [(q_19, .inr (11, [.int 0, .ref ys_23, .ref yp_24, .int 0])), (ys_23, .inr (3, [.int 0, .ref (ta 4), .int 0])), (yp_24, .inr (3, [.int 0, .ref (ta 4), .int 0]))]) hD hS hA [0, 1, 2] rfl
    refine va_calll (va_runV (As := [.int (xs 1), .int (xs 2)]) (rest := []) ⟨hx, hb, hml, hown, hts⟩ (c_X7_whole__ l dC dI q_19 ys_23 yp_24 sa ta H.size 0 (xs 1) (xs 2)) (cwV 2 hts gl_X7_whole__ rfl rfl rfl (by decide +kernel) ⟨Nat.le_of_ble_eq_true rfl, Nat.le_of_ble_eq_true rfl⟩) ⟨ax_fbW, va_recv hK hP (ci := 11) (q0 := 0) rfl rfl, ax_prW hPc hKc hDc hS hFc hE⟩ rfl rfl hl.1 rfl (lv_room (Nat.le_of_ble_eq_true rfl)) dL_law_818 ⟨Nat.le_of_ble_eq_true rfl, Nat.le_of_ble_eq_true rfl⟩) hS (fun q _ h9 => hFc q h9) hFc (fun r_149 u_151  t H locs ht hvm hw_150 hB hz1 hk1 hS => ?_)
    obtain ⟨th2_152, rfl⟩ : ∃ z, z = u_151 := ⟨_, rfl⟩
    obtain ⟨hP1, hK1, hD1⟩ := hB
    rw [ht] at hP1
    have hK1 := va_K.moved hvm.symm hK1
    obtain ⟨hP, hD⟩ := va_join (wr := [(q_27, .inl (cA_28, 1, .inr (.inr (.inr (.inl (fun _ => 0)))))), (q_25, .inl (cA_26, 1, .inr (.inl of_148)))]) (w1 := [(q_19, .inr (11, [.int th2_152, .ref ys_23, .ref yp_24, .int 0]))]) hP hD [0, 1, 2] [3, 4] rfl rfl (by decide) (by decide) hk1 hFc hP1 hD1
    have hP : va_P (dC, dI) vwCl [(q_27, .inl (cA_28, 1, .inr (.inr (.inr (.inl (fun _ => 0)))))), (q_25, .inl (cA_26, 1, .inr (.inl of_148))), (q_19, .inr (11, [.int th2_152, .ref ys_23, .ref yp_24, .int 0]))] H := hP
    have hD : va_D A [(q_27, .inl (cA_28, 1, .inr (.inr (.inr (.inl (fun _ => 0)))))), (q_25, .inl (cA_26, 1, .inr (.inl of_148))), (q_19, .inr (11, [.int th2_152, .ref ys_23, .ref yp_24, .int 0]))] := hD
    rcases hw_150 with hw_150 | hw_150
    · have e9 := hw_150.2.1
      subst e9
      refine ax_l (y := 0) hw_150.2.2 ?_
      refine lv_lstore (lv' := [(7, .long 0), (6, .int 0), (5, .int 0), (4, .ref q_27), (3, .ref q_25), (2, .ref q_19), (1, .ref q_1), (0, .ref b)]) hx hb dL_law_821 hl (by decide) rfl (fun ls hl => ?_)
      refine lv_aload_n hx hb dL_law_823 rfl (lv_at hl 5 rfl) ?_
      have hPc := hP.sub (ws' := [(q_19, .inr (11, [.int 0, .ref ys_23, .ref yp_24, .int 0]))]) [2] rfl
      have hKc := hK.sub (tys' := []) [] rfl
      refine va_calli (va_runV (As := []) (rest := []) ⟨hx, hb, hml, hown, hts⟩ (c_X7_thrown l dC dI q_19 ys_23 yp_24 sa ta 0) (cwV 0 hts gl_X7_thrown rfl rfl rfl (by decide +kernel) ⟨Nat.le_of_ble_eq_true rfl, Nat.le_of_ble_eq_true rfl⟩) ⟨ax_fbR, va_recv hK hP (ci := 11) (q0 := 2) rfl rfl, ax_prR hPc hKc hS hE⟩ rfl rfl hl.1 rfl (lv_room (Nat.le_of_ble_eq_true rfl)) dL_law_824 ⟨Nat.le_of_ble_eq_true rfl, Nat.le_of_ble_eq_true rfl⟩) hS (fun _ _ h9 => h9.elim) (fun _ h9 => h9.elim) (fun r_153 u_155  t H locs ht hvm hw_154 hB hz1 hk1 hS => ?_)
      have hP := ax_keep hP (fun _ h9 => h9) hk1
      refine ax_i (y := 0) hw_154 ?_
      refine lv_iload hx hb dL_law_827 (lv_at hl 1 rfl) ?_
      refine lv_icmp_eq (tgt := 834) hx hb dL_law_829 (by decide) (fun _ => ?_) (fun h9 => absurd (by decide) h9)
      refine lv_iload hx hb dL_law_834 (lv_at hl 1 rfl) ?_
      refine lv_if_ne (tgt := 850) hx hb dL_law_836 (by decide) (fun h9 => absurd rfl h9) (fun _ => ?_)
      refine lv_aload_n hx hb dL_law_839 rfl (lv_at hl 4 rfl) ?_
      refine lv_iconst (v := 0) hx hb dL_law_840 (by decide) ?_
      refine va_lald hx hb hK hP 1 6 rfl rfl (by unfold vp_in; decide) dL_law_841 ?_
      refine ax_l (y := 0) hw_146.2.2 ?_
      refine lv_lload hx hb dL_law_842 (lv_at hl 0 rfl) ?_
      refine W.lcmp hx hb dL_law_844 ?_
      refine ax_i (y := 0) (by decide) ?_
      refine lv_if_eq (tgt := 850) hx hb dL_law_845 (by decide) (fun _ => ?_) (fun h9 => absurd (by decide) h9)
      refine lv_goto (tgt := 1857) hx hb dL_law_850 (by decide) ?_
      refine lv_iinc (v := 5) (lv' := [(5, .int 5), (7, .long 0), (6, .int 0), (4, .ref q_27), (3, .ref q_25), (2, .ref q_19), (1, .ref q_1), (0, .ref b)]) hx hb dL_law_1857 hl (k := 2) rfl (by decide) (by decide) rfl (fun ls hl => ?_)
      refine lv_goto (tgt := 28) hx hb dL_law_1860 (by decide) ?_
      refine lv_iload hx hb dL_law_28 (lv_at hl 0 rfl) ?_
      refine lv_aload_n hx hb dL_law_30 rfl (lv_at hl 7 rfl) ?_
      refine va_slen hx hb hX hbl hbA hS dL_law_31 ?_
      refine ax_i (y := 5) rfl ?_
      refine lv_iconst (v := 5) hx hb dL_law_32 (by decide) ?_
      refine lv_isub hx hb dL_law_33 ?_
      refine ax_i (y := 0) (by decide) ?_
      refine lv_icmp_gt (tgt := 1863) hx hb dL_law_34 (by decide) (fun _ => ?_) (fun h9 => absurd (by decide) h9)
      refine lv_iconst (v := 1) hx hb dL_law_1863 (by decide) ?_
      refine va_forget (fun q hq => by have h9 := hS.2.2 q hq; rw [hAd] at h9; exact h9) ?_
      refine W.widen (k := 600002) (n := 7302232) (Nat.le_of_ble_eq_true rfl) (Nat.le_of_ble_eq_true rfl) ?_
      refine W.base ?_
      exact lw_ret (Drawn.sameBut.refl s.drawn lw_cs) hx hb hr hlocks dL_law_1864
    · exact absurd hw_146.1 hw_150.1
  · refine ax_i (y := 1) hw_146.2 ?_
    refine lv_istore (lv' := [(6, .int 1), (5, .int 0), (4, .ref q_27), (3, .ref q_25), (2, .ref q_19), (1, .ref q_1), (0, .ref b)]) hx hb dL_law_803 hl (by decide) rfl (fun ls hl => ?_)
    refine lv_aload_n hx hb dL_law_805 rfl (lv_at hl 4 rfl) ?_
    refine lv_aload_n hx hb dL_law_806 rfl (lv_at hl 6 rfl) ?_
    refine lv_iload hx hb dL_law_807 (lv_at hl 1 rfl) ?_
    refine lv_iconst (v := 1) hx hb dL_law_809 (by decide) ?_
    refine lv_iadd hx hb dL_law_810 ?_
    refine ax_i (y := 1) (by decide) ?_
    refine va_sld hx hb hX hbl hbA hS (by unfold vp_in; decide) dL_law_811 ?_
    refine ax_i (y := xs 1) rfl ?_
    refine lv_aload_n hx hb dL_law_812 rfl (lv_at hl 6 rfl) ?_
    refine lv_iload hx hb dL_law_813 (lv_at hl 1 rfl) ?_
    refine lv_iconst (v := 2) hx hb dL_law_815 (by decide) ?_
    refine lv_iadd hx hb dL_law_816 ?_
    refine ax_i (y := 2) (by decide) ?_
    refine va_sld hx hb hX hbl hbA hS (by unfold vp_in; decide) dL_law_817 ?_
    refine ax_i (y := xs 2) rfl ?_
    have hPc := hP.sub (ws' := [(q_19, .inr (11, [.int 0, .ref ys_23, .ref yp_24, .int 0])), (ys_23, .inr (3, [.int 0, .ref (ta 4), .int 0])), (yp_24, .inr (3, [.int 0, .ref (ta 4), .int 0]))]) [0, 1, 2] rfl
    have hKc := hK.sub (tys' := []) [] rfl
    have hDc := hD.sub (ws' := [(q_19, .inr (11, [.int 0, .ref ys_23, .ref yp_24, .int 0])), (ys_23, .inr (3, [.int 0, .ref (ta 4), .int 0])), (yp_24, .inr (3, [.int 0, .ref (ta 4), .int 0]))]) [0, 1, 2] (by decide) rfl
    have hFc := va_free (wc := [(q_19, .inr (11, [.int 0, .ref ys_23, .ref yp_24, .int 0])), (ys_23, .inr (3, [.int 0, .ref (ta 4), .int 0])), (yp_24, .inr (3, [.int 0, .ref (ta 4), .int 0]))]) hD hS hA [0, 1, 2] rfl
    refine va_calll (va_runV (As := [.int (xs 1), .int (xs 2)]) (rest := []) ⟨hx, hb, hml, hown, hts⟩ (c_X7_whole__ l dC dI q_19 ys_23 yp_24 sa ta H.size 0 (xs 1) (xs 2)) (cwV 2 hts gl_X7_whole__ rfl rfl rfl (by decide +kernel) ⟨Nat.le_of_ble_eq_true rfl, Nat.le_of_ble_eq_true rfl⟩) ⟨ax_fbW, va_recv hK hP (ci := 11) (q0 := 0) rfl rfl, ax_prW hPc hKc hDc hS hFc hE⟩ rfl rfl hl.1 rfl (lv_room (Nat.le_of_ble_eq_true rfl)) dL_law_818 ⟨Nat.le_of_ble_eq_true rfl, Nat.le_of_ble_eq_true rfl⟩) hS (fun q _ h9 => hFc q h9) hFc (fun r_156 u_158  t H locs ht hvm hw_157 hB hz1 hk1 hS => ?_)
    obtain ⟨th2_159, rfl⟩ : ∃ z, z = u_158 := ⟨_, rfl⟩
    obtain ⟨hP1, hK1, hD1⟩ := hB
    rw [ht] at hP1
    have hK1 := va_K.moved hvm.symm hK1
    obtain ⟨hP, hD⟩ := va_join (wr := [(q_27, .inl (cA_28, 1, .inr (.inr (.inr (.inl (fun _ => 0)))))), (q_25, .inl (cA_26, 1, .inr (.inl of_148)))]) (w1 := [(q_19, .inr (11, [.int th2_159, .ref ys_23, .ref yp_24, .int 0]))]) hP hD [0, 1, 2] [3, 4] rfl rfl (by decide) (by decide) hk1 hFc hP1 hD1
    have hP : va_P (dC, dI) vwCl [(q_27, .inl (cA_28, 1, .inr (.inr (.inr (.inl (fun _ => 0)))))), (q_25, .inl (cA_26, 1, .inr (.inl of_148))), (q_19, .inr (11, [.int th2_159, .ref ys_23, .ref yp_24, .int 0]))] H := hP
    have hD : va_D A [(q_27, .inl (cA_28, 1, .inr (.inr (.inr (.inl (fun _ => 0)))))), (q_25, .inl (cA_26, 1, .inr (.inl of_148))), (q_19, .inr (11, [.int th2_159, .ref ys_23, .ref yp_24, .int 0]))] := hD
    rcases hw_157 with hw_157 | hw_157
    · exact absurd hw_157.1 hw_146.1
    · have e9 := hw_157.2
      subst e9
      refine lv_lstore (lv' := [(7, .long r_156), (6, .int 1), (5, .int 0), (4, .ref q_27), (3, .ref q_25), (2, .ref q_19), (1, .ref q_1), (0, .ref b)]) hx hb dL_law_821 hl (by decide) rfl (fun ls hl => ?_)
      refine lv_aload_n hx hb dL_law_823 rfl (lv_at hl 5 rfl) ?_
      have hPc := hP.sub (ws' := [(q_19, .inr (11, [.int 1, .ref ys_23, .ref yp_24, .int 0]))]) [2] rfl
      have hKc := hK.sub (tys' := []) [] rfl
      refine va_calli (va_runV (As := []) (rest := []) ⟨hx, hb, hml, hown, hts⟩ (c_X7_thrown l dC dI q_19 ys_23 yp_24 sa ta 1) (cwV 0 hts gl_X7_thrown rfl rfl rfl (by decide +kernel) ⟨Nat.le_of_ble_eq_true rfl, Nat.le_of_ble_eq_true rfl⟩) ⟨ax_fbR, va_recv hK hP (ci := 11) (q0 := 2) rfl rfl, ax_prR hPc hKc hS hE⟩ rfl rfl hl.1 rfl (lv_room (Nat.le_of_ble_eq_true rfl)) dL_law_824 ⟨Nat.le_of_ble_eq_true rfl, Nat.le_of_ble_eq_true rfl⟩) hS (fun _ _ h9 => h9.elim) (fun _ h9 => h9.elim) (fun r_160 u_162  t H locs ht hvm hw_161 hB hz1 hk1 hS => ?_)
      have hP := ax_keep hP (fun _ h9 => h9) hk1
      refine ax_i (y := 1) hw_161 ?_
      refine lv_iload hx hb dL_law_827 (lv_at hl 1 rfl) ?_
      refine lv_icmp_eq (tgt := 834) hx hb dL_law_829 (by decide) (fun _ => ?_) (fun h9 => absurd (by decide) h9)
      refine lv_iload hx hb dL_law_834 (lv_at hl 1 rfl) ?_
      refine lv_if_ne (tgt := 850) hx hb dL_law_836 (by decide) (fun _ => ?_) (fun h9 => absurd h9 (by decide))
      refine lv_goto (tgt := 1857) hx hb dL_law_850 (by decide) ?_
      refine lv_iinc (v := 5) (lv' := [(5, .int 5), (7, .long r_156), (6, .int 1), (4, .ref q_27), (3, .ref q_25), (2, .ref q_19), (1, .ref q_1), (0, .ref b)]) hx hb dL_law_1857 hl (k := 2) rfl (by decide) (by decide) rfl (fun ls hl => ?_)
      refine lv_goto (tgt := 28) hx hb dL_law_1860 (by decide) ?_
      refine lv_iload hx hb dL_law_28 (lv_at hl 0 rfl) ?_
      refine lv_aload_n hx hb dL_law_30 rfl (lv_at hl 7 rfl) ?_
      refine va_slen hx hb hX hbl hbA hS dL_law_31 ?_
      refine ax_i (y := 5) rfl ?_
      refine lv_iconst (v := 5) hx hb dL_law_32 (by decide) ?_
      refine lv_isub hx hb dL_law_33 ?_
      refine ax_i (y := 0) (by decide) ?_
      refine lv_icmp_gt (tgt := 1863) hx hb dL_law_34 (by decide) (fun _ => ?_) (fun h9 => absurd (by decide) h9)
      refine lv_iconst (v := 1) hx hb dL_law_1863 (by decide) ?_
      refine va_forget (fun q hq => by have h9 := hS.2.2 q hq; rw [hAd] at h9; exact h9) ?_
      refine W.widen (k := 600002) (n := 7302232) (Nat.le_of_ble_eq_true rfl) (Nat.le_of_ble_eq_true rfl) ?_
      refine W.base ?_
      exact lw_ret (Drawn.sameBut.refl s.drawn lw_cs) hx hb hr hlocks dL_law_1864

set_option maxHeartbeats 4000000 in
set_option maxRecDepth 100000 in
theorem law_c9 {p : Program} {e : Env} {s : State} {m : MethodId} {below : List Frame} {meth : Method} {c : Code} (l : Launch) (hlt : l.stackTraces = false) {dC : Nat → ClassId} {dI : Nat → Nat → Nat} {b : Nat} {xs : Nat → Int32} (C0 : lw_At p s m meth c b 5 xs) {A : Nat → Prop} (hAd : A = fun q => s.heap.size ≤ q) {sa ta : Nat → Nat} (hE : ax_S sa ta A s s.heap) {q_1 xs_5 xp_6 xl_7 xn_8 xm_9 xr_10 xw_11 xt_12 q_19 ys_23 yp_24 q_25 q_27 : Nat} {cS_13 cP_14 cn_15 cm_16 cw_17 ct_18 cA_26 cA_28 : ClassId} {H : Heap} {locs : List Loc} (hK : va_K (dC, dI) vwCl [(cS_13, .object "Diffractory$Source"), (cP_14, .object "Diffractory$Part"), (cn_15, .long), (cm_16, .long), (cw_17, .long), (ct_18, .long), (cA_26, .long), (cA_28, .double)] s) (hP : va_P (dC, dI) vwCl [(q_1, .inr (8, [.ref xs_5, .ref xp_6, .int 0, .int 0, .ref xl_7, .ref xr_10])), (xs_5, .inl (cS_13, 3, .inr (.inr (.inr (.inr (fun _ => none)))))), (xp_6, .inl (cP_14, 8, .inr (.inr (.inr (.inr (fun _ => none)))))), (xl_7, .inr (4, [.ref xn_8, .ref xm_9])), (xn_8, .inl (cn_15, 64, .inr (.inl (fun _ => 0)))), (xm_9, .inl (cm_16, 64, .inr (.inl (fun _ => 0)))), (xr_10, .inr (6, [.ref xw_11, .ref xt_12])), (xw_11, .inl (cw_17, 8, .inr (.inl (fun _ => 0)))), (xt_12, .inl (ct_18, 8, .inr (.inl (fun _ => 0)))), (q_19, .inr (11, [.int 0, .ref ys_23, .ref yp_24, .int 0])), (ys_23, .inr (3, [.int 0, .ref (ta 4), .int 0])), (yp_24, .inr (3, [.int 0, .ref (ta 4), .int 0])), (q_25, .inl (cA_26, 1, .inr (.inl (fun _ => 0)))), (q_27, .inl (cA_28, 1, .inr (.inr (.inr (.inl (fun _ => 0))))))] H) (hD : va_D A [(q_1, .inr (8, [.ref xs_5, .ref xp_6, .int 0, .int 0, .ref xl_7, .ref xr_10])), (xs_5, .inl (cS_13, 3, .inr (.inr (.inr (.inr (fun _ => none)))))), (xp_6, .inl (cP_14, 8, .inr (.inr (.inr (.inr (fun _ => none)))))), (xl_7, .inr (4, [.ref xn_8, .ref xm_9])), (xn_8, .inl (cn_15, 64, .inr (.inl (fun _ => 0)))), (xm_9, .inl (cm_16, 64, .inr (.inl (fun _ => 0)))), (xr_10, .inr (6, [.ref xw_11, .ref xt_12])), (xw_11, .inl (cw_17, 8, .inr (.inl (fun _ => 0)))), (xt_12, .inl (ct_18, 8, .inr (.inl (fun _ => 0)))), (q_19, .inr (11, [.int 0, .ref ys_23, .ref yp_24, .int 0])), (ys_23, .inr (3, [.int 0, .ref (ta 4), .int 0])), (yp_24, .inr (3, [.int 0, .ref (ta 4), .int 0])), (q_25, .inl (cA_26, 1, .inr (.inl (fun _ => 0)))), (q_27, .inl (cA_28, 1, .inr (.inr (.inr (.inl (fun _ => 0))))))]) (hS : va_S A s.heap H locs) {ls : Array Slot} (hl : lv_has ls 9 [(5, .int 0), (4, .ref q_27), (3, .ref q_25), (2, .ref q_19), (1, .ref q_1), (0, .ref b)]) : W p l e room_1 s m #[Value.ref b] below meth c H locs 14 177 (lw_Z below #[Value.ref b] s) (F0 m 853 ls []) := by
  obtain ⟨hx, hb, hr, hml, hown, hts, hX, hbl, hlocks, hgv⟩ := C0
  have hA : ∀ q : Nat, s.heap.size ≤ q → A q := fun q h => by rw [hAd]; exact h
  have hbA : ¬ A b := by rw [hAd]; exact Nat.not_le.mpr hbl
  refine lv_aload_n hx hb dL_law_853 rfl (lv_at hl 4 rfl) ?_
  refine lv_aload_n hx hb dL_law_854 rfl (lv_at hl 5 rfl) ?_
  refine lv_iload hx hb dL_law_855 (lv_at hl 0 rfl) ?_
  refine lv_iconst (v := 1) hx hb dL_law_857 (by decide) ?_
  refine lv_iadd hx hb dL_law_858 ?_
  refine ax_i (y := 1) (by decide) ?_
  refine va_sld hx hb hX hbl hbA hS (by unfold vp_in; decide) dL_law_859 ?_
  refine ax_i (y := xs 1) rfl ?_
  refine lv_aload_n hx hb dL_law_860 rfl (lv_at hl 5 rfl) ?_
  refine lv_iload hx hb dL_law_861 (lv_at hl 0 rfl) ?_
  refine lv_iconst (v := 2) hx hb dL_law_863 (by decide) ?_
  refine lv_iadd hx hb dL_law_864 ?_
  refine ax_i (y := 2) (by decide) ?_
  refine va_sld hx hb hX hbl hbA hS (by unfold vp_in; decide) dL_law_865 ?_
  refine ax_i (y := xs 2) rfl ?_
  refine lv_aload_n hx hb dL_law_866 rfl (lv_at hl 2 rfl) ?_
  have hPc := hP.sub (ws' := [(q_1, .inr (8, [.ref xs_5, .ref xp_6, .int 0, .int 0, .ref xl_7, .ref xr_10])), (xs_5, .inl (cS_13, 3, .inr (.inr (.inr (.inr (fun _ => none)))))), (xp_6, .inl (cP_14, 8, .inr (.inr (.inr (.inr (fun _ => none)))))), (xl_7, .inr (4, [.ref xn_8, .ref xm_9])), (xn_8, .inl (cn_15, 64, .inr (.inl (fun _ => 0)))), (xm_9, .inl (cm_16, 64, .inr (.inl (fun _ => 0)))), (xr_10, .inr (6, [.ref xw_11, .ref xt_12])), (xw_11, .inl (cw_17, 8, .inr (.inl (fun _ => 0)))), (xt_12, .inl (ct_18, 8, .inr (.inl (fun _ => 0)))), (q_25, .inl (cA_26, 1, .inr (.inl (fun _ => 0))))]) [0, 1, 2, 3, 4, 5, 6, 7, 8, 12] rfl
  have hKc := hK.sub (tys' := [(cS_13, .object "Diffractory$Source"), (cP_14, .object "Diffractory$Part"), (cn_15, .long), (cm_16, .long), (cw_17, .long), (ct_18, .long), (cA_26, .long)]) [0, 1, 2, 3, 4, 5, 6] rfl
  have hDc := hD.sub (ws' := [(q_1, .inr (8, [.ref xs_5, .ref xp_6, .int 0, .int 0, .ref xl_7, .ref xr_10])), (xs_5, .inl (cS_13, 3, .inr (.inr (.inr (.inr (fun _ => none)))))), (xp_6, .inl (cP_14, 8, .inr (.inr (.inr (.inr (fun _ => none)))))), (xl_7, .inr (4, [.ref xn_8, .ref xm_9])), (xn_8, .inl (cn_15, 64, .inr (.inl (fun _ => 0)))), (xm_9, .inl (cm_16, 64, .inr (.inl (fun _ => 0)))), (xr_10, .inr (6, [.ref xw_11, .ref xt_12])), (xw_11, .inl (cw_17, 8, .inr (.inl (fun _ => 0)))), (xt_12, .inl (ct_18, 8, .inr (.inl (fun _ => 0)))), (q_25, .inl (cA_26, 1, .inr (.inl (fun _ => 0))))]) [0, 1, 2, 3, 4, 5, 6, 7, 8, 12] (by decide) rfl
  have hFc := va_free (wc := [(q_1, .inr (8, [.ref xs_5, .ref xp_6, .int 0, .int 0, .ref xl_7, .ref xr_10])), (xs_5, .inl (cS_13, 3, .inr (.inr (.inr (.inr (fun _ => none)))))), (xp_6, .inl (cP_14, 8, .inr (.inr (.inr (.inr (fun _ => none)))))), (xl_7, .inr (4, [.ref xn_8, .ref xm_9])), (xn_8, .inl (cn_15, 64, .inr (.inl (fun _ => 0)))), (xm_9, .inl (cm_16, 64, .inr (.inl (fun _ => 0)))), (xr_10, .inr (6, [.ref xw_11, .ref xt_12])), (xw_11, .inl (cw_17, 8, .inr (.inl (fun _ => 0)))), (xt_12, .inl (ct_18, 8, .inr (.inl (fun _ => 0)))), (q_25, .inl (cA_26, 1, .inr (.inl (fun _ => 0))))]) hD hS hA [0, 1, 2, 3, 4, 5, 6, 7, 8, 12] rfl
  refine va_calli (vx_runSW (As := [.ref q_1, .int (xs 1), .int (xs 2), .ref q_25]) (rest := []) ⟨hx, hb, hml, hown, hts⟩ (c_L_root l hlt dC dI q_1 xs_5 xp_6 xl_7 xn_8 xm_9 xr_10 xw_11 xt_12 q_25 cS_13 cP_14 cn_15 cm_16 cw_17 ct_18 cA_26 sa ta H.size (xs 1) (xs 2)) (vx_cwSW 4 hts gl_L_root rfl rfl rfl (by decide +kernel) ⟨Nat.le_of_ble_eq_true rfl, Nat.le_of_ble_eq_true rfl⟩) ⟨ax_fbW, ax_prW hPc hKc hDc hS hFc hE⟩ rfl rfl hl.1 rfl (lv_room (Nat.le_of_ble_eq_true rfl)) dL_law_867 ⟨Nat.le_of_ble_eq_true rfl, Nat.le_of_ble_eq_true rfl⟩) hS (fun q _ h9 => hFc q h9) hFc (fun r_163 u_165  t H locs ht hvm hw_164 hB hz1 hk1 hS => ?_)
  obtain ⟨of_166, rfl⟩ : ∃ z, z = u_165 := ⟨_, rfl⟩
  obtain ⟨hP1, hK1, hD1⟩ := hB
  rw [ht] at hP1
  have hK1 := va_K.moved hvm.symm hK1
  obtain ⟨hP, hD⟩ := va_join (wr := [(q_19, .inr (11, [.int 0, .ref ys_23, .ref yp_24, .int 0])), (ys_23, .inr (3, [.int 0, .ref (ta 4), .int 0])), (yp_24, .inr (3, [.int 0, .ref (ta 4), .int 0])), (q_27, .inl (cA_28, 1, .inr (.inr (.inr (.inl (fun _ => 0))))))]) (w1 := [(q_25, .inl (cA_26, 1, .inr (.inl of_166)))]) hP hD [0, 1, 2, 3, 4, 5, 6, 7, 8, 12] [9, 10, 11, 13] rfl rfl (by decide) (by decide) hk1 hFc hP1 hD1
  have hP : va_P (dC, dI) vwCl [(q_19, .inr (11, [.int 0, .ref ys_23, .ref yp_24, .int 0])), (ys_23, .inr (3, [.int 0, .ref (ta 4), .int 0])), (yp_24, .inr (3, [.int 0, .ref (ta 4), .int 0])), (q_27, .inl (cA_28, 1, .inr (.inr (.inr (.inl (fun _ => 0)))))), (q_25, .inl (cA_26, 1, .inr (.inl of_166)))] H := hP
  have hD : va_D A [(q_19, .inr (11, [.int 0, .ref ys_23, .ref yp_24, .int 0])), (ys_23, .inr (3, [.int 0, .ref (ta 4), .int 0])), (yp_24, .inr (3, [.int 0, .ref (ta 4), .int 0])), (q_27, .inl (cA_28, 1, .inr (.inr (.inr (.inl (fun _ => 0)))))), (q_25, .inl (cA_26, 1, .inr (.inl of_166)))] := hD
  rcases hw_164 with hw_164 | hw_164
  · refine ax_i (y := 0) hw_164.2.1 ?_
    refine lv_istore (lv' := [(6, .int 0), (5, .int 0), (4, .ref q_27), (3, .ref q_25), (2, .ref q_19), (1, .ref q_1), (0, .ref b)]) hx hb dL_law_870 hl (by decide) rfl (fun ls hl => ?_)
    refine lv_aload_n hx hb dL_law_872 rfl (lv_at hl 4 rfl) ?_
    refine lv_aload_n hx hb dL_law_873 rfl (lv_at hl 6 rfl) ?_
    refine lv_iload hx hb dL_law_874 (lv_at hl 1 rfl) ?_
    refine lv_iconst (v := 1) hx hb dL_law_876 (by decide) ?_
    refine lv_iadd hx hb dL_law_877 ?_
    refine ax_i (y := 1) (by decide) ?_
    refine va_sld hx hb hX hbl hbA hS (by unfold vp_in; decide) dL_law_878 ?_
    refine ax_i (y := xs 1) rfl ?_
    refine lv_aload_n hx hb dL_law_879 rfl (lv_at hl 6 rfl) ?_
    refine lv_iload hx hb dL_law_880 (lv_at hl 1 rfl) ?_
    refine lv_iconst (v := 2) hx hb dL_law_882 (by decide) ?_
    refine lv_iadd hx hb dL_law_883 ?_
    refine ax_i (y := 2) (by decide) ?_
    refine va_sld hx hb hX hbl hbA hS (by unfold vp_in; decide) dL_law_884 ?_
    refine ax_i (y := xs 2) rfl ?_
    have hPc := hP.sub (ws' := [(q_19, .inr (11, [.int 0, .ref ys_23, .ref yp_24, .int 0])), (ys_23, .inr (3, [.int 0, .ref (ta 4), .int 0])), (yp_24, .inr (3, [.int 0, .ref (ta 4), .int 0]))]) [0, 1, 2] rfl
    have hKc := hK.sub (tys' := []) [] rfl
    have hDc := hD.sub (ws' := [(q_19, .inr (11, [.int 0, .ref ys_23, .ref yp_24, .int 0])), (ys_23, .inr (3, [.int 0, .ref (ta 4), .int 0])), (yp_24, .inr (3, [.int 0, .ref (ta 4), .int 0]))]) [0, 1, 2] (by decide) rfl
    have hFc := va_free (wc := [(q_19, .inr (11, [.int 0, .ref ys_23, .ref yp_24, .int 0])), (ys_23, .inr (3, [.int 0, .ref (ta 4), .int 0])), (yp_24, .inr (3, [.int 0, .ref (ta 4), .int 0]))]) hD hS hA [0, 1, 2] rfl
    refine va_calll (va_runV (As := [.int (xs 1), .int (xs 2)]) (rest := []) ⟨hx, hb, hml, hown, hts⟩ (c_X7_root__ l dC dI q_19 ys_23 yp_24 sa ta H.size 0 (xs 1) (xs 2)) (cwV 2 hts gl_X7_root__ rfl rfl rfl (by decide +kernel) ⟨Nat.le_of_ble_eq_true rfl, Nat.le_of_ble_eq_true rfl⟩) ⟨ax_fbW, va_recv hK hP (ci := 11) (q0 := 0) rfl rfl, ax_prW hPc hKc hDc hS hFc hE⟩ rfl rfl hl.1 rfl (lv_room (Nat.le_of_ble_eq_true rfl)) dL_law_885 ⟨Nat.le_of_ble_eq_true rfl, Nat.le_of_ble_eq_true rfl⟩) hS (fun q _ h9 => hFc q h9) hFc (fun r_167 u_169  t H locs ht hvm hw_168 hB hz1 hk1 hS => ?_)
    obtain ⟨th2_170, rfl⟩ : ∃ z, z = u_169 := ⟨_, rfl⟩
    obtain ⟨hP1, hK1, hD1⟩ := hB
    rw [ht] at hP1
    have hK1 := va_K.moved hvm.symm hK1
    obtain ⟨hP, hD⟩ := va_join (wr := [(q_27, .inl (cA_28, 1, .inr (.inr (.inr (.inl (fun _ => 0)))))), (q_25, .inl (cA_26, 1, .inr (.inl of_166)))]) (w1 := [(q_19, .inr (11, [.int th2_170, .ref ys_23, .ref yp_24, .int 0]))]) hP hD [0, 1, 2] [3, 4] rfl rfl (by decide) (by decide) hk1 hFc hP1 hD1
    have hP : va_P (dC, dI) vwCl [(q_27, .inl (cA_28, 1, .inr (.inr (.inr (.inl (fun _ => 0)))))), (q_25, .inl (cA_26, 1, .inr (.inl of_166))), (q_19, .inr (11, [.int th2_170, .ref ys_23, .ref yp_24, .int 0]))] H := hP
    have hD : va_D A [(q_27, .inl (cA_28, 1, .inr (.inr (.inr (.inl (fun _ => 0)))))), (q_25, .inl (cA_26, 1, .inr (.inl of_166))), (q_19, .inr (11, [.int th2_170, .ref ys_23, .ref yp_24, .int 0]))] := hD
    rcases hw_168 with hw_168 | hw_168
    · have e9 := hw_168.2.1
      subst e9
      refine ax_l (y := 0) hw_168.2.2 ?_
      refine lv_lstore (lv' := [(7, .long 0), (6, .int 0), (5, .int 0), (4, .ref q_27), (3, .ref q_25), (2, .ref q_19), (1, .ref q_1), (0, .ref b)]) hx hb dL_law_888 hl (by decide) rfl (fun ls hl => ?_)
      refine lv_aload_n hx hb dL_law_890 rfl (lv_at hl 5 rfl) ?_
      have hPc := hP.sub (ws' := [(q_19, .inr (11, [.int 0, .ref ys_23, .ref yp_24, .int 0]))]) [2] rfl
      have hKc := hK.sub (tys' := []) [] rfl
      refine va_calli (va_runV (As := []) (rest := []) ⟨hx, hb, hml, hown, hts⟩ (c_X7_thrown l dC dI q_19 ys_23 yp_24 sa ta 0) (cwV 0 hts gl_X7_thrown rfl rfl rfl (by decide +kernel) ⟨Nat.le_of_ble_eq_true rfl, Nat.le_of_ble_eq_true rfl⟩) ⟨ax_fbR, va_recv hK hP (ci := 11) (q0 := 2) rfl rfl, ax_prR hPc hKc hS hE⟩ rfl rfl hl.1 rfl (lv_room (Nat.le_of_ble_eq_true rfl)) dL_law_891 ⟨Nat.le_of_ble_eq_true rfl, Nat.le_of_ble_eq_true rfl⟩) hS (fun _ _ h9 => h9.elim) (fun _ h9 => h9.elim) (fun r_171 u_173  t H locs ht hvm hw_172 hB hz1 hk1 hS => ?_)
      have hP := ax_keep hP (fun _ h9 => h9) hk1
      refine ax_i (y := 0) hw_172 ?_
      refine lv_iload hx hb dL_law_894 (lv_at hl 1 rfl) ?_
      refine lv_icmp_eq (tgt := 901) hx hb dL_law_896 (by decide) (fun _ => ?_) (fun h9 => absurd (by decide) h9)
      refine lv_iload hx hb dL_law_901 (lv_at hl 1 rfl) ?_
      refine lv_if_ne (tgt := 917) hx hb dL_law_903 (by decide) (fun h9 => absurd rfl h9) (fun _ => ?_)
      refine lv_aload_n hx hb dL_law_906 rfl (lv_at hl 4 rfl) ?_
      refine lv_iconst (v := 0) hx hb dL_law_907 (by decide) ?_
      refine va_lald hx hb hK hP 1 6 rfl rfl (by unfold vp_in; decide) dL_law_908 ?_
      refine ax_l (y := 0) hw_164.2.2 ?_
      refine lv_lload hx hb dL_law_909 (lv_at hl 0 rfl) ?_
      refine W.lcmp hx hb dL_law_911 ?_
      refine ax_i (y := 0) (by decide) ?_
      refine lv_if_eq (tgt := 917) hx hb dL_law_912 (by decide) (fun _ => ?_) (fun h9 => absurd (by decide) h9)
      refine lv_goto (tgt := 1857) hx hb dL_law_917 (by decide) ?_
      refine lv_iinc (v := 5) (lv' := [(5, .int 5), (7, .long 0), (6, .int 0), (4, .ref q_27), (3, .ref q_25), (2, .ref q_19), (1, .ref q_1), (0, .ref b)]) hx hb dL_law_1857 hl (k := 2) rfl (by decide) (by decide) rfl (fun ls hl => ?_)
      refine lv_goto (tgt := 28) hx hb dL_law_1860 (by decide) ?_
      refine lv_iload hx hb dL_law_28 (lv_at hl 0 rfl) ?_
      refine lv_aload_n hx hb dL_law_30 rfl (lv_at hl 7 rfl) ?_
      refine va_slen hx hb hX hbl hbA hS dL_law_31 ?_
      refine ax_i (y := 5) rfl ?_
      refine lv_iconst (v := 5) hx hb dL_law_32 (by decide) ?_
      refine lv_isub hx hb dL_law_33 ?_
      refine ax_i (y := 0) (by decide) ?_
      refine lv_icmp_gt (tgt := 1863) hx hb dL_law_34 (by decide) (fun _ => ?_) (fun h9 => absurd (by decide) h9)
      refine lv_iconst (v := 1) hx hb dL_law_1863 (by decide) ?_
      refine va_forget (fun q hq => by have h9 := hS.2.2 q hq; rw [hAd] at h9; exact h9) ?_
      refine W.widen (k := 600002) (n := 7302232) (Nat.le_of_ble_eq_true rfl) (Nat.le_of_ble_eq_true rfl) ?_
      refine W.base ?_
      exact lw_ret (Drawn.sameBut.refl s.drawn lw_cs) hx hb hr hlocks dL_law_1864
    · exact absurd hw_164.1 hw_168.1
  · refine ax_i (y := 1) hw_164.2 ?_
    refine lv_istore (lv' := [(6, .int 1), (5, .int 0), (4, .ref q_27), (3, .ref q_25), (2, .ref q_19), (1, .ref q_1), (0, .ref b)]) hx hb dL_law_870 hl (by decide) rfl (fun ls hl => ?_)
    refine lv_aload_n hx hb dL_law_872 rfl (lv_at hl 4 rfl) ?_
    refine lv_aload_n hx hb dL_law_873 rfl (lv_at hl 6 rfl) ?_
    refine lv_iload hx hb dL_law_874 (lv_at hl 1 rfl) ?_
    refine lv_iconst (v := 1) hx hb dL_law_876 (by decide) ?_
    refine lv_iadd hx hb dL_law_877 ?_
    refine ax_i (y := 1) (by decide) ?_
    refine va_sld hx hb hX hbl hbA hS (by unfold vp_in; decide) dL_law_878 ?_
    refine ax_i (y := xs 1) rfl ?_
    refine lv_aload_n hx hb dL_law_879 rfl (lv_at hl 6 rfl) ?_
    refine lv_iload hx hb dL_law_880 (lv_at hl 1 rfl) ?_
    refine lv_iconst (v := 2) hx hb dL_law_882 (by decide) ?_
    refine lv_iadd hx hb dL_law_883 ?_
    refine ax_i (y := 2) (by decide) ?_
    refine va_sld hx hb hX hbl hbA hS (by unfold vp_in; decide) dL_law_884 ?_
    refine ax_i (y := xs 2) rfl ?_
    have hPc := hP.sub (ws' := [(q_19, .inr (11, [.int 0, .ref ys_23, .ref yp_24, .int 0])), (ys_23, .inr (3, [.int 0, .ref (ta 4), .int 0])), (yp_24, .inr (3, [.int 0, .ref (ta 4), .int 0]))]) [0, 1, 2] rfl
    have hKc := hK.sub (tys' := []) [] rfl
    have hDc := hD.sub (ws' := [(q_19, .inr (11, [.int 0, .ref ys_23, .ref yp_24, .int 0])), (ys_23, .inr (3, [.int 0, .ref (ta 4), .int 0])), (yp_24, .inr (3, [.int 0, .ref (ta 4), .int 0]))]) [0, 1, 2] (by decide) rfl
    have hFc := va_free (wc := [(q_19, .inr (11, [.int 0, .ref ys_23, .ref yp_24, .int 0])), (ys_23, .inr (3, [.int 0, .ref (ta 4), .int 0])), (yp_24, .inr (3, [.int 0, .ref (ta 4), .int 0]))]) hD hS hA [0, 1, 2] rfl
    refine va_calll (va_runV (As := [.int (xs 1), .int (xs 2)]) (rest := []) ⟨hx, hb, hml, hown, hts⟩ (c_X7_root__ l dC dI q_19 ys_23 yp_24 sa ta H.size 0 (xs 1) (xs 2)) (cwV 2 hts gl_X7_root__ rfl rfl rfl (by decide +kernel) ⟨Nat.le_of_ble_eq_true rfl, Nat.le_of_ble_eq_true rfl⟩) ⟨ax_fbW, va_recv hK hP (ci := 11) (q0 := 0) rfl rfl, ax_prW hPc hKc hDc hS hFc hE⟩ rfl rfl hl.1 rfl (lv_room (Nat.le_of_ble_eq_true rfl)) dL_law_885 ⟨Nat.le_of_ble_eq_true rfl, Nat.le_of_ble_eq_true rfl⟩) hS (fun q _ h9 => hFc q h9) hFc (fun r_174 u_176  t H locs ht hvm hw_175 hB hz1 hk1 hS => ?_)
    obtain ⟨th2_177, rfl⟩ : ∃ z, z = u_176 := ⟨_, rfl⟩
    obtain ⟨hP1, hK1, hD1⟩ := hB
    rw [ht] at hP1
    have hK1 := va_K.moved hvm.symm hK1
    obtain ⟨hP, hD⟩ := va_join (wr := [(q_27, .inl (cA_28, 1, .inr (.inr (.inr (.inl (fun _ => 0)))))), (q_25, .inl (cA_26, 1, .inr (.inl of_166)))]) (w1 := [(q_19, .inr (11, [.int th2_177, .ref ys_23, .ref yp_24, .int 0]))]) hP hD [0, 1, 2] [3, 4] rfl rfl (by decide) (by decide) hk1 hFc hP1 hD1
    have hP : va_P (dC, dI) vwCl [(q_27, .inl (cA_28, 1, .inr (.inr (.inr (.inl (fun _ => 0)))))), (q_25, .inl (cA_26, 1, .inr (.inl of_166))), (q_19, .inr (11, [.int th2_177, .ref ys_23, .ref yp_24, .int 0]))] H := hP
    have hD : va_D A [(q_27, .inl (cA_28, 1, .inr (.inr (.inr (.inl (fun _ => 0)))))), (q_25, .inl (cA_26, 1, .inr (.inl of_166))), (q_19, .inr (11, [.int th2_177, .ref ys_23, .ref yp_24, .int 0]))] := hD
    rcases hw_175 with hw_175 | hw_175
    · exact absurd hw_175.1 hw_164.1
    · have e9 := hw_175.2
      subst e9
      refine lv_lstore (lv' := [(7, .long r_174), (6, .int 1), (5, .int 0), (4, .ref q_27), (3, .ref q_25), (2, .ref q_19), (1, .ref q_1), (0, .ref b)]) hx hb dL_law_888 hl (by decide) rfl (fun ls hl => ?_)
      refine lv_aload_n hx hb dL_law_890 rfl (lv_at hl 5 rfl) ?_
      have hPc := hP.sub (ws' := [(q_19, .inr (11, [.int 1, .ref ys_23, .ref yp_24, .int 0]))]) [2] rfl
      have hKc := hK.sub (tys' := []) [] rfl
      refine va_calli (va_runV (As := []) (rest := []) ⟨hx, hb, hml, hown, hts⟩ (c_X7_thrown l dC dI q_19 ys_23 yp_24 sa ta 1) (cwV 0 hts gl_X7_thrown rfl rfl rfl (by decide +kernel) ⟨Nat.le_of_ble_eq_true rfl, Nat.le_of_ble_eq_true rfl⟩) ⟨ax_fbR, va_recv hK hP (ci := 11) (q0 := 2) rfl rfl, ax_prR hPc hKc hS hE⟩ rfl rfl hl.1 rfl (lv_room (Nat.le_of_ble_eq_true rfl)) dL_law_891 ⟨Nat.le_of_ble_eq_true rfl, Nat.le_of_ble_eq_true rfl⟩) hS (fun _ _ h9 => h9.elim) (fun _ h9 => h9.elim) (fun r_178 u_180  t H locs ht hvm hw_179 hB hz1 hk1 hS => ?_)
      have hP := ax_keep hP (fun _ h9 => h9) hk1
      refine ax_i (y := 1) hw_179 ?_
      refine lv_iload hx hb dL_law_894 (lv_at hl 1 rfl) ?_
      refine lv_icmp_eq (tgt := 901) hx hb dL_law_896 (by decide) (fun _ => ?_) (fun h9 => absurd (by decide) h9)
      refine lv_iload hx hb dL_law_901 (lv_at hl 1 rfl) ?_
      refine lv_if_ne (tgt := 917) hx hb dL_law_903 (by decide) (fun _ => ?_) (fun h9 => absurd h9 (by decide))
      refine lv_goto (tgt := 1857) hx hb dL_law_917 (by decide) ?_
      refine lv_iinc (v := 5) (lv' := [(5, .int 5), (7, .long r_174), (6, .int 1), (4, .ref q_27), (3, .ref q_25), (2, .ref q_19), (1, .ref q_1), (0, .ref b)]) hx hb dL_law_1857 hl (k := 2) rfl (by decide) (by decide) rfl (fun ls hl => ?_)
      refine lv_goto (tgt := 28) hx hb dL_law_1860 (by decide) ?_
      refine lv_iload hx hb dL_law_28 (lv_at hl 0 rfl) ?_
      refine lv_aload_n hx hb dL_law_30 rfl (lv_at hl 7 rfl) ?_
      refine va_slen hx hb hX hbl hbA hS dL_law_31 ?_
      refine ax_i (y := 5) rfl ?_
      refine lv_iconst (v := 5) hx hb dL_law_32 (by decide) ?_
      refine lv_isub hx hb dL_law_33 ?_
      refine ax_i (y := 0) (by decide) ?_
      refine lv_icmp_gt (tgt := 1863) hx hb dL_law_34 (by decide) (fun _ => ?_) (fun h9 => absurd (by decide) h9)
      refine lv_iconst (v := 1) hx hb dL_law_1863 (by decide) ?_
      refine va_forget (fun q hq => by have h9 := hS.2.2 q hq; rw [hAd] at h9; exact h9) ?_
      refine W.widen (k := 600002) (n := 7302232) (Nat.le_of_ble_eq_true rfl) (Nat.le_of_ble_eq_true rfl) ?_
      refine W.base ?_
      exact lw_ret (Drawn.sameBut.refl s.drawn lw_cs) hx hb hr hlocks dL_law_1864

set_option maxHeartbeats 4000000 in
set_option maxRecDepth 100000 in
theorem law_c10 {p : Program} {e : Env} {s : State} {m : MethodId} {below : List Frame} {meth : Method} {c : Code} (l : Launch) (hlt : l.stackTraces = false) {dC : Nat → ClassId} {dI : Nat → Nat → Nat} {b : Nat} {xs : Nat → Int32} (C0 : lw_At p s m meth c b 5 xs) {A : Nat → Prop} (hAd : A = fun q => s.heap.size ≤ q) {sa ta : Nat → Nat} (hE : ax_S sa ta A s s.heap) {q_1 xs_5 xp_6 xl_7 xn_8 xm_9 xr_10 xw_11 xt_12 q_19 ys_23 yp_24 q_25 q_27 : Nat} {cS_13 cP_14 cn_15 cm_16 cw_17 ct_18 cA_26 cA_28 : ClassId} {H : Heap} {locs : List Loc} (hK : va_K (dC, dI) vwCl [(cS_13, .object "Diffractory$Source"), (cP_14, .object "Diffractory$Part"), (cn_15, .long), (cm_16, .long), (cw_17, .long), (ct_18, .long), (cA_26, .long), (cA_28, .double)] s) (hP : va_P (dC, dI) vwCl [(q_1, .inr (8, [.ref xs_5, .ref xp_6, .int 0, .int 0, .ref xl_7, .ref xr_10])), (xs_5, .inl (cS_13, 3, .inr (.inr (.inr (.inr (fun _ => none)))))), (xp_6, .inl (cP_14, 8, .inr (.inr (.inr (.inr (fun _ => none)))))), (xl_7, .inr (4, [.ref xn_8, .ref xm_9])), (xn_8, .inl (cn_15, 64, .inr (.inl (fun _ => 0)))), (xm_9, .inl (cm_16, 64, .inr (.inl (fun _ => 0)))), (xr_10, .inr (6, [.ref xw_11, .ref xt_12])), (xw_11, .inl (cw_17, 8, .inr (.inl (fun _ => 0)))), (xt_12, .inl (ct_18, 8, .inr (.inl (fun _ => 0)))), (q_19, .inr (11, [.int 0, .ref ys_23, .ref yp_24, .int 0])), (ys_23, .inr (3, [.int 0, .ref (ta 4), .int 0])), (yp_24, .inr (3, [.int 0, .ref (ta 4), .int 0])), (q_25, .inl (cA_26, 1, .inr (.inl (fun _ => 0)))), (q_27, .inl (cA_28, 1, .inr (.inr (.inr (.inl (fun _ => 0))))))] H) (hD : va_D A [(q_1, .inr (8, [.ref xs_5, .ref xp_6, .int 0, .int 0, .ref xl_7, .ref xr_10])), (xs_5, .inl (cS_13, 3, .inr (.inr (.inr (.inr (fun _ => none)))))), (xp_6, .inl (cP_14, 8, .inr (.inr (.inr (.inr (fun _ => none)))))), (xl_7, .inr (4, [.ref xn_8, .ref xm_9])), (xn_8, .inl (cn_15, 64, .inr (.inl (fun _ => 0)))), (xm_9, .inl (cm_16, 64, .inr (.inl (fun _ => 0)))), (xr_10, .inr (6, [.ref xw_11, .ref xt_12])), (xw_11, .inl (cw_17, 8, .inr (.inl (fun _ => 0)))), (xt_12, .inl (ct_18, 8, .inr (.inl (fun _ => 0)))), (q_19, .inr (11, [.int 0, .ref ys_23, .ref yp_24, .int 0])), (ys_23, .inr (3, [.int 0, .ref (ta 4), .int 0])), (yp_24, .inr (3, [.int 0, .ref (ta 4), .int 0])), (q_25, .inl (cA_26, 1, .inr (.inl (fun _ => 0)))), (q_27, .inl (cA_28, 1, .inr (.inr (.inr (.inl (fun _ => 0))))))]) (hS : va_S A s.heap H locs) {ls : Array Slot} (hl : lv_has ls 9 [(5, .int 0), (4, .ref q_27), (3, .ref q_25), (2, .ref q_19), (1, .ref q_1), (0, .ref b)]) : W p l e room_1 s m #[Value.ref b] below meth c H locs 14 177 (lw_Z below #[Value.ref b] s) (F0 m 920 ls []) := by
  obtain ⟨hx, hb, hr, hml, hown, hts, hX, hbl, hlocks, hgv⟩ := C0
  have hA : ∀ q : Nat, s.heap.size ≤ q → A q := fun q h => by rw [hAd]; exact h
  have hbA : ¬ A b := by rw [hAd]; exact Nat.not_le.mpr hbl
  refine lv_aload_n hx hb dL_law_920 rfl (lv_at hl 4 rfl) ?_
  refine lv_aload_n hx hb dL_law_921 rfl (lv_at hl 5 rfl) ?_
  refine lv_iload hx hb dL_law_922 (lv_at hl 0 rfl) ?_
  refine lv_iconst (v := 1) hx hb dL_law_924 (by decide) ?_
  refine lv_iadd hx hb dL_law_925 ?_
  refine ax_i (y := 1) (by decide) ?_
  refine va_sld hx hb hX hbl hbA hS (by unfold vp_in; decide) dL_law_926 ?_
  refine ax_i (y := xs 1) rfl ?_
  refine lv_aload_n hx hb dL_law_927 rfl (lv_at hl 5 rfl) ?_
  refine lv_iload hx hb dL_law_928 (lv_at hl 0 rfl) ?_
  refine lv_iconst (v := 2) hx hb dL_law_930 (by decide) ?_
  refine lv_iadd hx hb dL_law_931 ?_
  refine ax_i (y := 2) (by decide) ?_
  refine va_sld hx hb hX hbl hbA hS (by unfold vp_in; decide) dL_law_932 ?_
  refine ax_i (y := xs 2) rfl ?_
  refine lv_if_eq (tgt := 940) hx hb dL_law_933 (by decide) (fun c_181 => ?_) (fun c_181 => ?_)
  · have c_181 : ((xs 2)).toInt = 0 := (ax_eq _ _).mp c_181
    refine lv_iconst (v := 0) hx hb dL_law_940 (by decide) ?_
    refine lv_aload_n hx hb dL_law_941 rfl (lv_at hl 2 rfl) ?_
    have hPc := hP.sub (ws' := [(q_1, .inr (8, [.ref xs_5, .ref xp_6, .int 0, .int 0, .ref xl_7, .ref xr_10])), (xs_5, .inl (cS_13, 3, .inr (.inr (.inr (.inr (fun _ => none)))))), (xp_6, .inl (cP_14, 8, .inr (.inr (.inr (.inr (fun _ => none)))))), (xl_7, .inr (4, [.ref xn_8, .ref xm_9])), (xn_8, .inl (cn_15, 64, .inr (.inl (fun _ => 0)))), (xm_9, .inl (cm_16, 64, .inr (.inl (fun _ => 0)))), (xr_10, .inr (6, [.ref xw_11, .ref xt_12])), (xw_11, .inl (cw_17, 8, .inr (.inl (fun _ => 0)))), (xt_12, .inl (ct_18, 8, .inr (.inl (fun _ => 0)))), (q_25, .inl (cA_26, 1, .inr (.inl (fun _ => 0))))]) [0, 1, 2, 3, 4, 5, 6, 7, 8, 12] rfl
    have hKc := hK.sub (tys' := [(cS_13, .object "Diffractory$Source"), (cP_14, .object "Diffractory$Part"), (cn_15, .long), (cm_16, .long), (cw_17, .long), (ct_18, .long), (cA_26, .long)]) [0, 1, 2, 3, 4, 5, 6] rfl
    have hDc := hD.sub (ws' := [(q_1, .inr (8, [.ref xs_5, .ref xp_6, .int 0, .int 0, .ref xl_7, .ref xr_10])), (xs_5, .inl (cS_13, 3, .inr (.inr (.inr (.inr (fun _ => none)))))), (xp_6, .inl (cP_14, 8, .inr (.inr (.inr (.inr (fun _ => none)))))), (xl_7, .inr (4, [.ref xn_8, .ref xm_9])), (xn_8, .inl (cn_15, 64, .inr (.inl (fun _ => 0)))), (xm_9, .inl (cm_16, 64, .inr (.inl (fun _ => 0)))), (xr_10, .inr (6, [.ref xw_11, .ref xt_12])), (xw_11, .inl (cw_17, 8, .inr (.inl (fun _ => 0)))), (xt_12, .inl (ct_18, 8, .inr (.inl (fun _ => 0)))), (q_25, .inl (cA_26, 1, .inr (.inl (fun _ => 0))))]) [0, 1, 2, 3, 4, 5, 6, 7, 8, 12] (by decide) rfl
    have hFc := va_free (wc := [(q_1, .inr (8, [.ref xs_5, .ref xp_6, .int 0, .int 0, .ref xl_7, .ref xr_10])), (xs_5, .inl (cS_13, 3, .inr (.inr (.inr (.inr (fun _ => none)))))), (xp_6, .inl (cP_14, 8, .inr (.inr (.inr (.inr (fun _ => none)))))), (xl_7, .inr (4, [.ref xn_8, .ref xm_9])), (xn_8, .inl (cn_15, 64, .inr (.inl (fun _ => 0)))), (xm_9, .inl (cm_16, 64, .inr (.inl (fun _ => 0)))), (xr_10, .inr (6, [.ref xw_11, .ref xt_12])), (xw_11, .inl (cw_17, 8, .inr (.inl (fun _ => 0)))), (xt_12, .inl (ct_18, 8, .inr (.inl (fun _ => 0)))), (q_25, .inl (cA_26, 1, .inr (.inl (fun _ => 0))))]) hD hS hA [0, 1, 2, 3, 4, 5, 6, 7, 8, 12] rfl
    refine va_calli (vx_runSW (As := [.ref q_1, .int (xs 1), .int 0, .ref q_25]) (rest := []) ⟨hx, hb, hml, hown, hts⟩ (c_L_power l hlt dC dI q_1 xs_5 xp_6 xl_7 xn_8 xm_9 xr_10 xw_11 xt_12 q_25 cS_13 cP_14 cn_15 cm_16 cw_17 ct_18 cA_26 sa ta H.size (xs 1) 0) (vx_cwSW 4 hts gl_L_power rfl rfl rfl (by decide +kernel) ⟨Nat.le_of_ble_eq_true rfl, Nat.le_of_ble_eq_true rfl⟩) ⟨ax_fbW, ax_prW hPc hKc hDc hS hFc hE⟩ rfl rfl hl.1 rfl (lv_room (Nat.le_of_ble_eq_true rfl)) dL_law_942 ⟨Nat.le_of_ble_eq_true rfl, Nat.le_of_ble_eq_true rfl⟩) hS (fun q _ h9 => hFc q h9) hFc (fun r_182 u_184  t H locs ht hvm hw_183 hB hz1 hk1 hS => ?_)
    obtain ⟨of_185, rfl⟩ : ∃ z, z = u_184 := ⟨_, rfl⟩
    obtain ⟨hP1, hK1, hD1⟩ := hB
    rw [ht] at hP1
    have hK1 := va_K.moved hvm.symm hK1
    obtain ⟨hP, hD⟩ := va_join (wr := [(q_19, .inr (11, [.int 0, .ref ys_23, .ref yp_24, .int 0])), (ys_23, .inr (3, [.int 0, .ref (ta 4), .int 0])), (yp_24, .inr (3, [.int 0, .ref (ta 4), .int 0])), (q_27, .inl (cA_28, 1, .inr (.inr (.inr (.inl (fun _ => 0))))))]) (w1 := [(q_25, .inl (cA_26, 1, .inr (.inl of_185)))]) hP hD [0, 1, 2, 3, 4, 5, 6, 7, 8, 12] [9, 10, 11, 13] rfl rfl (by decide) (by decide) hk1 hFc hP1 hD1
    have hP : va_P (dC, dI) vwCl [(q_19, .inr (11, [.int 0, .ref ys_23, .ref yp_24, .int 0])), (ys_23, .inr (3, [.int 0, .ref (ta 4), .int 0])), (yp_24, .inr (3, [.int 0, .ref (ta 4), .int 0])), (q_27, .inl (cA_28, 1, .inr (.inr (.inr (.inl (fun _ => 0)))))), (q_25, .inl (cA_26, 1, .inr (.inl of_185)))] H := hP
    have hD : va_D A [(q_19, .inr (11, [.int 0, .ref ys_23, .ref yp_24, .int 0])), (ys_23, .inr (3, [.int 0, .ref (ta 4), .int 0])), (yp_24, .inr (3, [.int 0, .ref (ta 4), .int 0])), (q_27, .inl (cA_28, 1, .inr (.inr (.inr (.inl (fun _ => 0)))))), (q_25, .inl (cA_26, 1, .inr (.inl of_185)))] := hD
    rcases hw_183 with hw_183 | hw_183
    · refine ax_i (y := 0) hw_183.2.1 ?_
      refine lv_istore (lv' := [(6, .int 0), (5, .int 0), (4, .ref q_27), (3, .ref q_25), (2, .ref q_19), (1, .ref q_1), (0, .ref b)]) hx hb dL_law_945 hl (by decide) rfl (fun ls hl => ?_)
      refine lv_aload_n hx hb dL_law_947 rfl (lv_at hl 4 rfl) ?_
      refine lv_aload_n hx hb dL_law_948 rfl (lv_at hl 6 rfl) ?_
      refine lv_iload hx hb dL_law_949 (lv_at hl 1 rfl) ?_
      refine lv_iconst (v := 1) hx hb dL_law_951 (by decide) ?_
      refine lv_iadd hx hb dL_law_952 ?_
      refine ax_i (y := 1) (by decide) ?_
      refine va_sld hx hb hX hbl hbA hS (by unfold vp_in; decide) dL_law_953 ?_
      refine ax_i (y := xs 1) rfl ?_
      refine lv_aload_n hx hb dL_law_954 rfl (lv_at hl 6 rfl) ?_
      refine lv_iload hx hb dL_law_955 (lv_at hl 1 rfl) ?_
      refine lv_iconst (v := 2) hx hb dL_law_957 (by decide) ?_
      refine lv_iadd hx hb dL_law_958 ?_
      refine ax_i (y := 2) (by decide) ?_
      refine va_sld hx hb hX hbl hbA hS (by unfold vp_in; decide) dL_law_959 ?_
      refine ax_i (y := xs 2) rfl ?_
      refine lv_if_eq (tgt := 967) hx hb dL_law_960 (by decide) (fun c_186 => ?_) (fun c_186 => ?_)
      · have c_186 : ((xs 2)).toInt = 0 := (ax_eq _ _).mp c_186
        refine lv_iconst (v := 0) hx hb dL_law_967 (by decide) ?_
        have hPc := hP.sub (ws' := [(q_19, .inr (11, [.int 0, .ref ys_23, .ref yp_24, .int 0])), (ys_23, .inr (3, [.int 0, .ref (ta 4), .int 0])), (yp_24, .inr (3, [.int 0, .ref (ta 4), .int 0]))]) [0, 1, 2] rfl
        have hKc := hK.sub (tys' := []) [] rfl
        have hDc := hD.sub (ws' := [(q_19, .inr (11, [.int 0, .ref ys_23, .ref yp_24, .int 0])), (ys_23, .inr (3, [.int 0, .ref (ta 4), .int 0])), (yp_24, .inr (3, [.int 0, .ref (ta 4), .int 0]))]) [0, 1, 2] (by decide) rfl
        have hFc := va_free (wc := [(q_19, .inr (11, [.int 0, .ref ys_23, .ref yp_24, .int 0])), (ys_23, .inr (3, [.int 0, .ref (ta 4), .int 0])), (yp_24, .inr (3, [.int 0, .ref (ta 4), .int 0]))]) hD hS hA [0, 1, 2] rfl
        refine va_calll (va_runV (As := [.int (xs 1), .int 0]) (rest := []) ⟨hx, hb, hml, hown, hts⟩ (c_X7_power__0 l dC dI q_19 ys_23 yp_24 sa ta H.size 0 (xs 1)) (cwV 2 hts gl_X7_power_ rfl rfl rfl (by decide +kernel) ⟨Nat.le_of_ble_eq_true rfl, Nat.le_of_ble_eq_true rfl⟩) ⟨ax_fbW, va_recv hK hP (ci := 11) (q0 := 0) rfl rfl, ax_prW hPc hKc hDc hS hFc hE⟩ rfl rfl hl.1 rfl (lv_room (Nat.le_of_ble_eq_true rfl)) dL_law_968 ⟨Nat.le_of_ble_eq_true rfl, Nat.le_of_ble_eq_true rfl⟩) hS (fun q _ h9 => hFc q h9) hFc (fun r_187 u_189  t H locs ht hvm hw_188 hB hz1 hk1 hS => ?_)
        obtain ⟨th2_190, rfl⟩ : ∃ z, z = u_189 := ⟨_, rfl⟩
        obtain ⟨hP1, hK1, hD1⟩ := hB
        rw [ht] at hP1
        have hK1 := va_K.moved hvm.symm hK1
        obtain ⟨hP, hD⟩ := va_join (wr := [(q_27, .inl (cA_28, 1, .inr (.inr (.inr (.inl (fun _ => 0)))))), (q_25, .inl (cA_26, 1, .inr (.inl of_185)))]) (w1 := [(q_19, .inr (11, [.int th2_190, .ref ys_23, .ref yp_24, .int 0]))]) hP hD [0, 1, 2] [3, 4] rfl rfl (by decide) (by decide) hk1 hFc hP1 hD1
        have hP : va_P (dC, dI) vwCl [(q_27, .inl (cA_28, 1, .inr (.inr (.inr (.inl (fun _ => 0)))))), (q_25, .inl (cA_26, 1, .inr (.inl of_185))), (q_19, .inr (11, [.int th2_190, .ref ys_23, .ref yp_24, .int 0]))] H := hP
        have hD : va_D A [(q_27, .inl (cA_28, 1, .inr (.inr (.inr (.inl (fun _ => 0)))))), (q_25, .inl (cA_26, 1, .inr (.inl of_185))), (q_19, .inr (11, [.int th2_190, .ref ys_23, .ref yp_24, .int 0]))] := hD
        rcases hw_188 with hw_188 | hw_188
        · have e9 := hw_188.2.1
          subst e9
          refine ax_l (y := 0) hw_188.2.2 ?_
          refine lv_lstore (lv' := [(7, .long 0), (6, .int 0), (5, .int 0), (4, .ref q_27), (3, .ref q_25), (2, .ref q_19), (1, .ref q_1), (0, .ref b)]) hx hb dL_law_971 hl (by decide) rfl (fun ls hl => ?_)
          refine lv_aload_n hx hb dL_law_973 rfl (lv_at hl 5 rfl) ?_
          have hPc := hP.sub (ws' := [(q_19, .inr (11, [.int 0, .ref ys_23, .ref yp_24, .int 0]))]) [2] rfl
          have hKc := hK.sub (tys' := []) [] rfl
          refine va_calli (va_runV (As := []) (rest := []) ⟨hx, hb, hml, hown, hts⟩ (c_X7_thrown l dC dI q_19 ys_23 yp_24 sa ta 0) (cwV 0 hts gl_X7_thrown rfl rfl rfl (by decide +kernel) ⟨Nat.le_of_ble_eq_true rfl, Nat.le_of_ble_eq_true rfl⟩) ⟨ax_fbR, va_recv hK hP (ci := 11) (q0 := 2) rfl rfl, ax_prR hPc hKc hS hE⟩ rfl rfl hl.1 rfl (lv_room (Nat.le_of_ble_eq_true rfl)) dL_law_974 ⟨Nat.le_of_ble_eq_true rfl, Nat.le_of_ble_eq_true rfl⟩) hS (fun _ _ h9 => h9.elim) (fun _ h9 => h9.elim) (fun r_191 u_193  t H locs ht hvm hw_192 hB hz1 hk1 hS => ?_)
          have hP := ax_keep hP (fun _ h9 => h9) hk1
          refine ax_i (y := 0) hw_192 ?_
          refine lv_iload hx hb dL_law_977 (lv_at hl 1 rfl) ?_
          refine lv_icmp_eq (tgt := 984) hx hb dL_law_979 (by decide) (fun _ => ?_) (fun h9 => absurd (by decide) h9)
          refine lv_iload hx hb dL_law_984 (lv_at hl 1 rfl) ?_
          refine lv_if_ne (tgt := 1000) hx hb dL_law_986 (by decide) (fun h9 => absurd rfl h9) (fun _ => ?_)
          refine lv_aload_n hx hb dL_law_989 rfl (lv_at hl 4 rfl) ?_
          refine lv_iconst (v := 0) hx hb dL_law_990 (by decide) ?_
          refine va_lald hx hb hK hP 1 6 rfl rfl (by unfold vp_in; decide) dL_law_991 ?_
          refine ax_l (y := 0) hw_183.2.2 ?_
          refine lv_lload hx hb dL_law_992 (lv_at hl 0 rfl) ?_
          refine W.lcmp hx hb dL_law_994 ?_
          refine ax_i (y := 0) (by decide) ?_
          refine lv_if_eq (tgt := 1000) hx hb dL_law_995 (by decide) (fun _ => ?_) (fun h9 => absurd (by decide) h9)
          refine lv_goto (tgt := 1857) hx hb dL_law_1000 (by decide) ?_
          refine lv_iinc (v := 5) (lv' := [(5, .int 5), (7, .long 0), (6, .int 0), (4, .ref q_27), (3, .ref q_25), (2, .ref q_19), (1, .ref q_1), (0, .ref b)]) hx hb dL_law_1857 hl (k := 2) rfl (by decide) (by decide) rfl (fun ls hl => ?_)
          refine lv_goto (tgt := 28) hx hb dL_law_1860 (by decide) ?_
          refine lv_iload hx hb dL_law_28 (lv_at hl 0 rfl) ?_
          refine lv_aload_n hx hb dL_law_30 rfl (lv_at hl 7 rfl) ?_
          refine va_slen hx hb hX hbl hbA hS dL_law_31 ?_
          refine ax_i (y := 5) rfl ?_
          refine lv_iconst (v := 5) hx hb dL_law_32 (by decide) ?_
          refine lv_isub hx hb dL_law_33 ?_
          refine ax_i (y := 0) (by decide) ?_
          refine lv_icmp_gt (tgt := 1863) hx hb dL_law_34 (by decide) (fun _ => ?_) (fun h9 => absurd (by decide) h9)
          refine lv_iconst (v := 1) hx hb dL_law_1863 (by decide) ?_
          refine va_forget (fun q hq => by have h9 := hS.2.2 q hq; rw [hAd] at h9; exact h9) ?_
          refine W.widen (k := 600002) (n := 7302232) (Nat.le_of_ble_eq_true rfl) (Nat.le_of_ble_eq_true rfl) ?_
          refine W.base ?_
          exact lw_ret (Drawn.sameBut.refl s.drawn lw_cs) hx hb hr hlocks dL_law_1864
        · exact absurd hw_183.1 hw_188.1
      · have c_186 : ¬ ((xs 2)).toInt = 0 := fun h9 => c_186 ((ax_eq _ _).mpr h9)
        exfalso
        omega
    · refine ax_i (y := 1) hw_183.2 ?_
      refine lv_istore (lv' := [(6, .int 1), (5, .int 0), (4, .ref q_27), (3, .ref q_25), (2, .ref q_19), (1, .ref q_1), (0, .ref b)]) hx hb dL_law_945 hl (by decide) rfl (fun ls hl => ?_)
      refine lv_aload_n hx hb dL_law_947 rfl (lv_at hl 4 rfl) ?_
      refine lv_aload_n hx hb dL_law_948 rfl (lv_at hl 6 rfl) ?_
      refine lv_iload hx hb dL_law_949 (lv_at hl 1 rfl) ?_
      refine lv_iconst (v := 1) hx hb dL_law_951 (by decide) ?_
      refine lv_iadd hx hb dL_law_952 ?_
      refine ax_i (y := 1) (by decide) ?_
      refine va_sld hx hb hX hbl hbA hS (by unfold vp_in; decide) dL_law_953 ?_
      refine ax_i (y := xs 1) rfl ?_
      refine lv_aload_n hx hb dL_law_954 rfl (lv_at hl 6 rfl) ?_
      refine lv_iload hx hb dL_law_955 (lv_at hl 1 rfl) ?_
      refine lv_iconst (v := 2) hx hb dL_law_957 (by decide) ?_
      refine lv_iadd hx hb dL_law_958 ?_
      refine ax_i (y := 2) (by decide) ?_
      refine va_sld hx hb hX hbl hbA hS (by unfold vp_in; decide) dL_law_959 ?_
      refine ax_i (y := xs 2) rfl ?_
      refine lv_if_eq (tgt := 967) hx hb dL_law_960 (by decide) (fun c_194 => ?_) (fun c_194 => ?_)
      · have c_194 : ((xs 2)).toInt = 0 := (ax_eq _ _).mp c_194
        refine lv_iconst (v := 0) hx hb dL_law_967 (by decide) ?_
        have hPc := hP.sub (ws' := [(q_19, .inr (11, [.int 0, .ref ys_23, .ref yp_24, .int 0])), (ys_23, .inr (3, [.int 0, .ref (ta 4), .int 0])), (yp_24, .inr (3, [.int 0, .ref (ta 4), .int 0]))]) [0, 1, 2] rfl
        have hKc := hK.sub (tys' := []) [] rfl
        have hDc := hD.sub (ws' := [(q_19, .inr (11, [.int 0, .ref ys_23, .ref yp_24, .int 0])), (ys_23, .inr (3, [.int 0, .ref (ta 4), .int 0])), (yp_24, .inr (3, [.int 0, .ref (ta 4), .int 0]))]) [0, 1, 2] (by decide) rfl
        have hFc := va_free (wc := [(q_19, .inr (11, [.int 0, .ref ys_23, .ref yp_24, .int 0])), (ys_23, .inr (3, [.int 0, .ref (ta 4), .int 0])), (yp_24, .inr (3, [.int 0, .ref (ta 4), .int 0]))]) hD hS hA [0, 1, 2] rfl
        refine va_calll (va_runV (As := [.int (xs 1), .int 0]) (rest := []) ⟨hx, hb, hml, hown, hts⟩ (c_X7_power__0 l dC dI q_19 ys_23 yp_24 sa ta H.size 0 (xs 1)) (cwV 2 hts gl_X7_power_ rfl rfl rfl (by decide +kernel) ⟨Nat.le_of_ble_eq_true rfl, Nat.le_of_ble_eq_true rfl⟩) ⟨ax_fbW, va_recv hK hP (ci := 11) (q0 := 0) rfl rfl, ax_prW hPc hKc hDc hS hFc hE⟩ rfl rfl hl.1 rfl (lv_room (Nat.le_of_ble_eq_true rfl)) dL_law_968 ⟨Nat.le_of_ble_eq_true rfl, Nat.le_of_ble_eq_true rfl⟩) hS (fun q _ h9 => hFc q h9) hFc (fun r_195 u_197  t H locs ht hvm hw_196 hB hz1 hk1 hS => ?_)
        obtain ⟨th2_198, rfl⟩ : ∃ z, z = u_197 := ⟨_, rfl⟩
        obtain ⟨hP1, hK1, hD1⟩ := hB
        rw [ht] at hP1
        have hK1 := va_K.moved hvm.symm hK1
        obtain ⟨hP, hD⟩ := va_join (wr := [(q_27, .inl (cA_28, 1, .inr (.inr (.inr (.inl (fun _ => 0)))))), (q_25, .inl (cA_26, 1, .inr (.inl of_185)))]) (w1 := [(q_19, .inr (11, [.int th2_198, .ref ys_23, .ref yp_24, .int 0]))]) hP hD [0, 1, 2] [3, 4] rfl rfl (by decide) (by decide) hk1 hFc hP1 hD1
        have hP : va_P (dC, dI) vwCl [(q_27, .inl (cA_28, 1, .inr (.inr (.inr (.inl (fun _ => 0)))))), (q_25, .inl (cA_26, 1, .inr (.inl of_185))), (q_19, .inr (11, [.int th2_198, .ref ys_23, .ref yp_24, .int 0]))] H := hP
        have hD : va_D A [(q_27, .inl (cA_28, 1, .inr (.inr (.inr (.inl (fun _ => 0)))))), (q_25, .inl (cA_26, 1, .inr (.inl of_185))), (q_19, .inr (11, [.int th2_198, .ref ys_23, .ref yp_24, .int 0]))] := hD
        rcases hw_196 with hw_196 | hw_196
        · exact absurd hw_196.1 hw_183.1
        · have e9 := hw_196.2
          subst e9
          refine lv_lstore (lv' := [(7, .long r_195), (6, .int 1), (5, .int 0), (4, .ref q_27), (3, .ref q_25), (2, .ref q_19), (1, .ref q_1), (0, .ref b)]) hx hb dL_law_971 hl (by decide) rfl (fun ls hl => ?_)
          refine lv_aload_n hx hb dL_law_973 rfl (lv_at hl 5 rfl) ?_
          have hPc := hP.sub (ws' := [(q_19, .inr (11, [.int 1, .ref ys_23, .ref yp_24, .int 0]))]) [2] rfl
          have hKc := hK.sub (tys' := []) [] rfl
          refine va_calli (va_runV (As := []) (rest := []) ⟨hx, hb, hml, hown, hts⟩ (c_X7_thrown l dC dI q_19 ys_23 yp_24 sa ta 1) (cwV 0 hts gl_X7_thrown rfl rfl rfl (by decide +kernel) ⟨Nat.le_of_ble_eq_true rfl, Nat.le_of_ble_eq_true rfl⟩) ⟨ax_fbR, va_recv hK hP (ci := 11) (q0 := 2) rfl rfl, ax_prR hPc hKc hS hE⟩ rfl rfl hl.1 rfl (lv_room (Nat.le_of_ble_eq_true rfl)) dL_law_974 ⟨Nat.le_of_ble_eq_true rfl, Nat.le_of_ble_eq_true rfl⟩) hS (fun _ _ h9 => h9.elim) (fun _ h9 => h9.elim) (fun r_199 u_201  t H locs ht hvm hw_200 hB hz1 hk1 hS => ?_)
          have hP := ax_keep hP (fun _ h9 => h9) hk1
          refine ax_i (y := 1) hw_200 ?_
          refine lv_iload hx hb dL_law_977 (lv_at hl 1 rfl) ?_
          refine lv_icmp_eq (tgt := 984) hx hb dL_law_979 (by decide) (fun _ => ?_) (fun h9 => absurd (by decide) h9)
          refine lv_iload hx hb dL_law_984 (lv_at hl 1 rfl) ?_
          refine lv_if_ne (tgt := 1000) hx hb dL_law_986 (by decide) (fun _ => ?_) (fun h9 => absurd h9 (by decide))
          refine lv_goto (tgt := 1857) hx hb dL_law_1000 (by decide) ?_
          refine lv_iinc (v := 5) (lv' := [(5, .int 5), (7, .long r_195), (6, .int 1), (4, .ref q_27), (3, .ref q_25), (2, .ref q_19), (1, .ref q_1), (0, .ref b)]) hx hb dL_law_1857 hl (k := 2) rfl (by decide) (by decide) rfl (fun ls hl => ?_)
          refine lv_goto (tgt := 28) hx hb dL_law_1860 (by decide) ?_
          refine lv_iload hx hb dL_law_28 (lv_at hl 0 rfl) ?_
          refine lv_aload_n hx hb dL_law_30 rfl (lv_at hl 7 rfl) ?_
          refine va_slen hx hb hX hbl hbA hS dL_law_31 ?_
          refine ax_i (y := 5) rfl ?_
          refine lv_iconst (v := 5) hx hb dL_law_32 (by decide) ?_
          refine lv_isub hx hb dL_law_33 ?_
          refine ax_i (y := 0) (by decide) ?_
          refine lv_icmp_gt (tgt := 1863) hx hb dL_law_34 (by decide) (fun _ => ?_) (fun h9 => absurd (by decide) h9)
          refine lv_iconst (v := 1) hx hb dL_law_1863 (by decide) ?_
          refine va_forget (fun q hq => by have h9 := hS.2.2 q hq; rw [hAd] at h9; exact h9) ?_
          refine W.widen (k := 600002) (n := 7302232) (Nat.le_of_ble_eq_true rfl) (Nat.le_of_ble_eq_true rfl) ?_
          refine W.base ?_
          exact lw_ret (Drawn.sameBut.refl s.drawn lw_cs) hx hb hr hlocks dL_law_1864
      · have c_194 : ¬ ((xs 2)).toInt = 0 := fun h9 => c_194 ((ax_eq _ _).mpr h9)
        exfalso
        omega
  · have c_181 : ¬ ((xs 2)).toInt = 0 := fun h9 => c_181 ((ax_eq _ _).mpr h9)
    refine lv_iconst (v := 1) hx hb dL_law_936 (by decide) ?_
    refine lv_goto (tgt := 941) hx hb dL_law_937 (by decide) ?_
    refine lv_aload_n hx hb dL_law_941 rfl (lv_at hl 2 rfl) ?_
    have hPc := hP.sub (ws' := [(q_1, .inr (8, [.ref xs_5, .ref xp_6, .int 0, .int 0, .ref xl_7, .ref xr_10])), (xs_5, .inl (cS_13, 3, .inr (.inr (.inr (.inr (fun _ => none)))))), (xp_6, .inl (cP_14, 8, .inr (.inr (.inr (.inr (fun _ => none)))))), (xl_7, .inr (4, [.ref xn_8, .ref xm_9])), (xn_8, .inl (cn_15, 64, .inr (.inl (fun _ => 0)))), (xm_9, .inl (cm_16, 64, .inr (.inl (fun _ => 0)))), (xr_10, .inr (6, [.ref xw_11, .ref xt_12])), (xw_11, .inl (cw_17, 8, .inr (.inl (fun _ => 0)))), (xt_12, .inl (ct_18, 8, .inr (.inl (fun _ => 0)))), (q_25, .inl (cA_26, 1, .inr (.inl (fun _ => 0))))]) [0, 1, 2, 3, 4, 5, 6, 7, 8, 12] rfl
    have hKc := hK.sub (tys' := [(cS_13, .object "Diffractory$Source"), (cP_14, .object "Diffractory$Part"), (cn_15, .long), (cm_16, .long), (cw_17, .long), (ct_18, .long), (cA_26, .long)]) [0, 1, 2, 3, 4, 5, 6] rfl
    have hDc := hD.sub (ws' := [(q_1, .inr (8, [.ref xs_5, .ref xp_6, .int 0, .int 0, .ref xl_7, .ref xr_10])), (xs_5, .inl (cS_13, 3, .inr (.inr (.inr (.inr (fun _ => none)))))), (xp_6, .inl (cP_14, 8, .inr (.inr (.inr (.inr (fun _ => none)))))), (xl_7, .inr (4, [.ref xn_8, .ref xm_9])), (xn_8, .inl (cn_15, 64, .inr (.inl (fun _ => 0)))), (xm_9, .inl (cm_16, 64, .inr (.inl (fun _ => 0)))), (xr_10, .inr (6, [.ref xw_11, .ref xt_12])), (xw_11, .inl (cw_17, 8, .inr (.inl (fun _ => 0)))), (xt_12, .inl (ct_18, 8, .inr (.inl (fun _ => 0)))), (q_25, .inl (cA_26, 1, .inr (.inl (fun _ => 0))))]) [0, 1, 2, 3, 4, 5, 6, 7, 8, 12] (by decide) rfl
    have hFc := va_free (wc := [(q_1, .inr (8, [.ref xs_5, .ref xp_6, .int 0, .int 0, .ref xl_7, .ref xr_10])), (xs_5, .inl (cS_13, 3, .inr (.inr (.inr (.inr (fun _ => none)))))), (xp_6, .inl (cP_14, 8, .inr (.inr (.inr (.inr (fun _ => none)))))), (xl_7, .inr (4, [.ref xn_8, .ref xm_9])), (xn_8, .inl (cn_15, 64, .inr (.inl (fun _ => 0)))), (xm_9, .inl (cm_16, 64, .inr (.inl (fun _ => 0)))), (xr_10, .inr (6, [.ref xw_11, .ref xt_12])), (xw_11, .inl (cw_17, 8, .inr (.inl (fun _ => 0)))), (xt_12, .inl (ct_18, 8, .inr (.inl (fun _ => 0)))), (q_25, .inl (cA_26, 1, .inr (.inl (fun _ => 0))))]) hD hS hA [0, 1, 2, 3, 4, 5, 6, 7, 8, 12] rfl
    refine va_calli (vx_runSW (As := [.ref q_1, .int (xs 1), .int 1, .ref q_25]) (rest := []) ⟨hx, hb, hml, hown, hts⟩ (c_L_power l hlt dC dI q_1 xs_5 xp_6 xl_7 xn_8 xm_9 xr_10 xw_11 xt_12 q_25 cS_13 cP_14 cn_15 cm_16 cw_17 ct_18 cA_26 sa ta H.size (xs 1) 1) (vx_cwSW 4 hts gl_L_power rfl rfl rfl (by decide +kernel) ⟨Nat.le_of_ble_eq_true rfl, Nat.le_of_ble_eq_true rfl⟩) ⟨ax_fbW, ax_prW hPc hKc hDc hS hFc hE⟩ rfl rfl hl.1 rfl (lv_room (Nat.le_of_ble_eq_true rfl)) dL_law_942 ⟨Nat.le_of_ble_eq_true rfl, Nat.le_of_ble_eq_true rfl⟩) hS (fun q _ h9 => hFc q h9) hFc (fun r_202 u_204  t H locs ht hvm hw_203 hB hz1 hk1 hS => ?_)
    obtain ⟨of_205, rfl⟩ : ∃ z, z = u_204 := ⟨_, rfl⟩
    obtain ⟨hP1, hK1, hD1⟩ := hB
    rw [ht] at hP1
    have hK1 := va_K.moved hvm.symm hK1
    obtain ⟨hP, hD⟩ := va_join (wr := [(q_19, .inr (11, [.int 0, .ref ys_23, .ref yp_24, .int 0])), (ys_23, .inr (3, [.int 0, .ref (ta 4), .int 0])), (yp_24, .inr (3, [.int 0, .ref (ta 4), .int 0])), (q_27, .inl (cA_28, 1, .inr (.inr (.inr (.inl (fun _ => 0))))))]) (w1 := [(q_25, .inl (cA_26, 1, .inr (.inl of_205)))]) hP hD [0, 1, 2, 3, 4, 5, 6, 7, 8, 12] [9, 10, 11, 13] rfl rfl (by decide) (by decide) hk1 hFc hP1 hD1
    have hP : va_P (dC, dI) vwCl [(q_19, .inr (11, [.int 0, .ref ys_23, .ref yp_24, .int 0])), (ys_23, .inr (3, [.int 0, .ref (ta 4), .int 0])), (yp_24, .inr (3, [.int 0, .ref (ta 4), .int 0])), (q_27, .inl (cA_28, 1, .inr (.inr (.inr (.inl (fun _ => 0)))))), (q_25, .inl (cA_26, 1, .inr (.inl of_205)))] H := hP
    have hD : va_D A [(q_19, .inr (11, [.int 0, .ref ys_23, .ref yp_24, .int 0])), (ys_23, .inr (3, [.int 0, .ref (ta 4), .int 0])), (yp_24, .inr (3, [.int 0, .ref (ta 4), .int 0])), (q_27, .inl (cA_28, 1, .inr (.inr (.inr (.inl (fun _ => 0)))))), (q_25, .inl (cA_26, 1, .inr (.inl of_205)))] := hD
    rcases hw_203 with hw_203 | hw_203
    · refine ax_i (y := 0) hw_203.2.1 ?_
      refine lv_istore (lv' := [(6, .int 0), (5, .int 0), (4, .ref q_27), (3, .ref q_25), (2, .ref q_19), (1, .ref q_1), (0, .ref b)]) hx hb dL_law_945 hl (by decide) rfl (fun ls hl => ?_)
      refine lv_aload_n hx hb dL_law_947 rfl (lv_at hl 4 rfl) ?_
      refine lv_aload_n hx hb dL_law_948 rfl (lv_at hl 6 rfl) ?_
      refine lv_iload hx hb dL_law_949 (lv_at hl 1 rfl) ?_
      refine lv_iconst (v := 1) hx hb dL_law_951 (by decide) ?_
      refine lv_iadd hx hb dL_law_952 ?_
      refine ax_i (y := 1) (by decide) ?_
      refine va_sld hx hb hX hbl hbA hS (by unfold vp_in; decide) dL_law_953 ?_
      refine ax_i (y := xs 1) rfl ?_
      refine lv_aload_n hx hb dL_law_954 rfl (lv_at hl 6 rfl) ?_
      refine lv_iload hx hb dL_law_955 (lv_at hl 1 rfl) ?_
      refine lv_iconst (v := 2) hx hb dL_law_957 (by decide) ?_
      refine lv_iadd hx hb dL_law_958 ?_
      refine ax_i (y := 2) (by decide) ?_
      refine va_sld hx hb hX hbl hbA hS (by unfold vp_in; decide) dL_law_959 ?_
      refine ax_i (y := xs 2) rfl ?_
      refine lv_if_eq (tgt := 967) hx hb dL_law_960 (by decide) (fun c_206 => ?_) (fun c_206 => ?_)
      · have c_206 : ((xs 2)).toInt = 0 := (ax_eq _ _).mp c_206
        exfalso
        omega
      · have c_206 : ¬ ((xs 2)).toInt = 0 := fun h9 => c_206 ((ax_eq _ _).mpr h9)
        refine lv_iconst (v := 1) hx hb dL_law_963 (by decide) ?_
        refine lv_goto (tgt := 968) hx hb dL_law_964 (by decide) ?_
        have hPc := hP.sub (ws' := [(q_19, .inr (11, [.int 0, .ref ys_23, .ref yp_24, .int 0])), (ys_23, .inr (3, [.int 0, .ref (ta 4), .int 0])), (yp_24, .inr (3, [.int 0, .ref (ta 4), .int 0]))]) [0, 1, 2] rfl
        have hKc := hK.sub (tys' := []) [] rfl
        have hDc := hD.sub (ws' := [(q_19, .inr (11, [.int 0, .ref ys_23, .ref yp_24, .int 0])), (ys_23, .inr (3, [.int 0, .ref (ta 4), .int 0])), (yp_24, .inr (3, [.int 0, .ref (ta 4), .int 0]))]) [0, 1, 2] (by decide) rfl
        have hFc := va_free (wc := [(q_19, .inr (11, [.int 0, .ref ys_23, .ref yp_24, .int 0])), (ys_23, .inr (3, [.int 0, .ref (ta 4), .int 0])), (yp_24, .inr (3, [.int 0, .ref (ta 4), .int 0]))]) hD hS hA [0, 1, 2] rfl
        refine va_calll (va_runV (As := [.int (xs 1), .int 1]) (rest := []) ⟨hx, hb, hml, hown, hts⟩ (c_X7_power__1 l dC dI q_19 ys_23 yp_24 sa ta H.size 0 (xs 1)) (cwV 2 hts gl_X7_power_ rfl rfl rfl (by decide +kernel) ⟨Nat.le_of_ble_eq_true rfl, Nat.le_of_ble_eq_true rfl⟩) ⟨ax_fbW, va_recv hK hP (ci := 11) (q0 := 0) rfl rfl, ax_prW hPc hKc hDc hS hFc hE⟩ rfl rfl hl.1 rfl (lv_room (Nat.le_of_ble_eq_true rfl)) dL_law_968 ⟨Nat.le_of_ble_eq_true rfl, Nat.le_of_ble_eq_true rfl⟩) hS (fun q _ h9 => hFc q h9) hFc (fun r_207 u_209  t H locs ht hvm hw_208 hB hz1 hk1 hS => ?_)
        obtain ⟨th2_210, rfl⟩ : ∃ z, z = u_209 := ⟨_, rfl⟩
        obtain ⟨hP1, hK1, hD1⟩ := hB
        rw [ht] at hP1
        have hK1 := va_K.moved hvm.symm hK1
        obtain ⟨hP, hD⟩ := va_join (wr := [(q_27, .inl (cA_28, 1, .inr (.inr (.inr (.inl (fun _ => 0)))))), (q_25, .inl (cA_26, 1, .inr (.inl of_205)))]) (w1 := [(q_19, .inr (11, [.int th2_210, .ref ys_23, .ref yp_24, .int 0]))]) hP hD [0, 1, 2] [3, 4] rfl rfl (by decide) (by decide) hk1 hFc hP1 hD1
        have hP : va_P (dC, dI) vwCl [(q_27, .inl (cA_28, 1, .inr (.inr (.inr (.inl (fun _ => 0)))))), (q_25, .inl (cA_26, 1, .inr (.inl of_205))), (q_19, .inr (11, [.int th2_210, .ref ys_23, .ref yp_24, .int 0]))] H := hP
        have hD : va_D A [(q_27, .inl (cA_28, 1, .inr (.inr (.inr (.inl (fun _ => 0)))))), (q_25, .inl (cA_26, 1, .inr (.inl of_205))), (q_19, .inr (11, [.int th2_210, .ref ys_23, .ref yp_24, .int 0]))] := hD
        rcases hw_208 with hw_208 | hw_208
        · have e9 := hw_208.2.1
          subst e9
          refine ax_l (y := 0) hw_208.2.2 ?_
          refine lv_lstore (lv' := [(7, .long 0), (6, .int 0), (5, .int 0), (4, .ref q_27), (3, .ref q_25), (2, .ref q_19), (1, .ref q_1), (0, .ref b)]) hx hb dL_law_971 hl (by decide) rfl (fun ls hl => ?_)
          refine lv_aload_n hx hb dL_law_973 rfl (lv_at hl 5 rfl) ?_
          have hPc := hP.sub (ws' := [(q_19, .inr (11, [.int 0, .ref ys_23, .ref yp_24, .int 0]))]) [2] rfl
          have hKc := hK.sub (tys' := []) [] rfl
          refine va_calli (va_runV (As := []) (rest := []) ⟨hx, hb, hml, hown, hts⟩ (c_X7_thrown l dC dI q_19 ys_23 yp_24 sa ta 0) (cwV 0 hts gl_X7_thrown rfl rfl rfl (by decide +kernel) ⟨Nat.le_of_ble_eq_true rfl, Nat.le_of_ble_eq_true rfl⟩) ⟨ax_fbR, va_recv hK hP (ci := 11) (q0 := 2) rfl rfl, ax_prR hPc hKc hS hE⟩ rfl rfl hl.1 rfl (lv_room (Nat.le_of_ble_eq_true rfl)) dL_law_974 ⟨Nat.le_of_ble_eq_true rfl, Nat.le_of_ble_eq_true rfl⟩) hS (fun _ _ h9 => h9.elim) (fun _ h9 => h9.elim) (fun r_211 u_213  t H locs ht hvm hw_212 hB hz1 hk1 hS => ?_)
          have hP := ax_keep hP (fun _ h9 => h9) hk1
          refine ax_i (y := 0) hw_212 ?_
          refine lv_iload hx hb dL_law_977 (lv_at hl 1 rfl) ?_
          refine lv_icmp_eq (tgt := 984) hx hb dL_law_979 (by decide) (fun _ => ?_) (fun h9 => absurd (by decide) h9)
          refine lv_iload hx hb dL_law_984 (lv_at hl 1 rfl) ?_
          refine lv_if_ne (tgt := 1000) hx hb dL_law_986 (by decide) (fun h9 => absurd rfl h9) (fun _ => ?_)
          refine lv_aload_n hx hb dL_law_989 rfl (lv_at hl 4 rfl) ?_
          refine lv_iconst (v := 0) hx hb dL_law_990 (by decide) ?_
          refine va_lald hx hb hK hP 1 6 rfl rfl (by unfold vp_in; decide) dL_law_991 ?_
          refine ax_l (y := 0) hw_203.2.2 ?_
          refine lv_lload hx hb dL_law_992 (lv_at hl 0 rfl) ?_
          refine W.lcmp hx hb dL_law_994 ?_
          refine ax_i (y := 0) (by decide) ?_
          refine lv_if_eq (tgt := 1000) hx hb dL_law_995 (by decide) (fun _ => ?_) (fun h9 => absurd (by decide) h9)
          refine lv_goto (tgt := 1857) hx hb dL_law_1000 (by decide) ?_
          refine lv_iinc (v := 5) (lv' := [(5, .int 5), (7, .long 0), (6, .int 0), (4, .ref q_27), (3, .ref q_25), (2, .ref q_19), (1, .ref q_1), (0, .ref b)]) hx hb dL_law_1857 hl (k := 2) rfl (by decide) (by decide) rfl (fun ls hl => ?_)
          refine lv_goto (tgt := 28) hx hb dL_law_1860 (by decide) ?_
          refine lv_iload hx hb dL_law_28 (lv_at hl 0 rfl) ?_
          refine lv_aload_n hx hb dL_law_30 rfl (lv_at hl 7 rfl) ?_
          refine va_slen hx hb hX hbl hbA hS dL_law_31 ?_
          refine ax_i (y := 5) rfl ?_
          refine lv_iconst (v := 5) hx hb dL_law_32 (by decide) ?_
          refine lv_isub hx hb dL_law_33 ?_
          refine ax_i (y := 0) (by decide) ?_
          refine lv_icmp_gt (tgt := 1863) hx hb dL_law_34 (by decide) (fun _ => ?_) (fun h9 => absurd (by decide) h9)
          refine lv_iconst (v := 1) hx hb dL_law_1863 (by decide) ?_
          refine va_forget (fun q hq => by have h9 := hS.2.2 q hq; rw [hAd] at h9; exact h9) ?_
          refine W.widen (k := 600002) (n := 7302232) (Nat.le_of_ble_eq_true rfl) (Nat.le_of_ble_eq_true rfl) ?_
          refine W.base ?_
          exact lw_ret (Drawn.sameBut.refl s.drawn lw_cs) hx hb hr hlocks dL_law_1864
        · exact absurd hw_203.1 hw_208.1
    · refine ax_i (y := 1) hw_203.2 ?_
      refine lv_istore (lv' := [(6, .int 1), (5, .int 0), (4, .ref q_27), (3, .ref q_25), (2, .ref q_19), (1, .ref q_1), (0, .ref b)]) hx hb dL_law_945 hl (by decide) rfl (fun ls hl => ?_)
      refine lv_aload_n hx hb dL_law_947 rfl (lv_at hl 4 rfl) ?_
      refine lv_aload_n hx hb dL_law_948 rfl (lv_at hl 6 rfl) ?_
      refine lv_iload hx hb dL_law_949 (lv_at hl 1 rfl) ?_
      refine lv_iconst (v := 1) hx hb dL_law_951 (by decide) ?_
      refine lv_iadd hx hb dL_law_952 ?_
      refine ax_i (y := 1) (by decide) ?_
      refine va_sld hx hb hX hbl hbA hS (by unfold vp_in; decide) dL_law_953 ?_
      refine ax_i (y := xs 1) rfl ?_
      refine lv_aload_n hx hb dL_law_954 rfl (lv_at hl 6 rfl) ?_
      refine lv_iload hx hb dL_law_955 (lv_at hl 1 rfl) ?_
      refine lv_iconst (v := 2) hx hb dL_law_957 (by decide) ?_
      refine lv_iadd hx hb dL_law_958 ?_
      refine ax_i (y := 2) (by decide) ?_
      refine va_sld hx hb hX hbl hbA hS (by unfold vp_in; decide) dL_law_959 ?_
      refine ax_i (y := xs 2) rfl ?_
      refine lv_if_eq (tgt := 967) hx hb dL_law_960 (by decide) (fun c_214 => ?_) (fun c_214 => ?_)
      · have c_214 : ((xs 2)).toInt = 0 := (ax_eq _ _).mp c_214
        exfalso
        omega
      · have c_214 : ¬ ((xs 2)).toInt = 0 := fun h9 => c_214 ((ax_eq _ _).mpr h9)
        refine lv_iconst (v := 1) hx hb dL_law_963 (by decide) ?_
        refine lv_goto (tgt := 968) hx hb dL_law_964 (by decide) ?_
        have hPc := hP.sub (ws' := [(q_19, .inr (11, [.int 0, .ref ys_23, .ref yp_24, .int 0])), (ys_23, .inr (3, [.int 0, .ref (ta 4), .int 0])), (yp_24, .inr (3, [.int 0, .ref (ta 4), .int 0]))]) [0, 1, 2] rfl
        have hKc := hK.sub (tys' := []) [] rfl
        have hDc := hD.sub (ws' := [(q_19, .inr (11, [.int 0, .ref ys_23, .ref yp_24, .int 0])), (ys_23, .inr (3, [.int 0, .ref (ta 4), .int 0])), (yp_24, .inr (3, [.int 0, .ref (ta 4), .int 0]))]) [0, 1, 2] (by decide) rfl
        have hFc := va_free (wc := [(q_19, .inr (11, [.int 0, .ref ys_23, .ref yp_24, .int 0])), (ys_23, .inr (3, [.int 0, .ref (ta 4), .int 0])), (yp_24, .inr (3, [.int 0, .ref (ta 4), .int 0]))]) hD hS hA [0, 1, 2] rfl
        refine va_calll (va_runV (As := [.int (xs 1), .int 1]) (rest := []) ⟨hx, hb, hml, hown, hts⟩ (c_X7_power__1 l dC dI q_19 ys_23 yp_24 sa ta H.size 0 (xs 1)) (cwV 2 hts gl_X7_power_ rfl rfl rfl (by decide +kernel) ⟨Nat.le_of_ble_eq_true rfl, Nat.le_of_ble_eq_true rfl⟩) ⟨ax_fbW, va_recv hK hP (ci := 11) (q0 := 0) rfl rfl, ax_prW hPc hKc hDc hS hFc hE⟩ rfl rfl hl.1 rfl (lv_room (Nat.le_of_ble_eq_true rfl)) dL_law_968 ⟨Nat.le_of_ble_eq_true rfl, Nat.le_of_ble_eq_true rfl⟩) hS (fun q _ h9 => hFc q h9) hFc (fun r_215 u_217  t H locs ht hvm hw_216 hB hz1 hk1 hS => ?_)
        obtain ⟨th2_218, rfl⟩ : ∃ z, z = u_217 := ⟨_, rfl⟩
        obtain ⟨hP1, hK1, hD1⟩ := hB
        rw [ht] at hP1
        have hK1 := va_K.moved hvm.symm hK1
        obtain ⟨hP, hD⟩ := va_join (wr := [(q_27, .inl (cA_28, 1, .inr (.inr (.inr (.inl (fun _ => 0)))))), (q_25, .inl (cA_26, 1, .inr (.inl of_205)))]) (w1 := [(q_19, .inr (11, [.int th2_218, .ref ys_23, .ref yp_24, .int 0]))]) hP hD [0, 1, 2] [3, 4] rfl rfl (by decide) (by decide) hk1 hFc hP1 hD1
        have hP : va_P (dC, dI) vwCl [(q_27, .inl (cA_28, 1, .inr (.inr (.inr (.inl (fun _ => 0)))))), (q_25, .inl (cA_26, 1, .inr (.inl of_205))), (q_19, .inr (11, [.int th2_218, .ref ys_23, .ref yp_24, .int 0]))] H := hP
        have hD : va_D A [(q_27, .inl (cA_28, 1, .inr (.inr (.inr (.inl (fun _ => 0)))))), (q_25, .inl (cA_26, 1, .inr (.inl of_205))), (q_19, .inr (11, [.int th2_218, .ref ys_23, .ref yp_24, .int 0]))] := hD
        rcases hw_216 with hw_216 | hw_216
        · exact absurd hw_216.1 hw_203.1
        · have e9 := hw_216.2
          subst e9
          refine lv_lstore (lv' := [(7, .long r_215), (6, .int 1), (5, .int 0), (4, .ref q_27), (3, .ref q_25), (2, .ref q_19), (1, .ref q_1), (0, .ref b)]) hx hb dL_law_971 hl (by decide) rfl (fun ls hl => ?_)
          refine lv_aload_n hx hb dL_law_973 rfl (lv_at hl 5 rfl) ?_
          have hPc := hP.sub (ws' := [(q_19, .inr (11, [.int 1, .ref ys_23, .ref yp_24, .int 0]))]) [2] rfl
          have hKc := hK.sub (tys' := []) [] rfl
          refine va_calli (va_runV (As := []) (rest := []) ⟨hx, hb, hml, hown, hts⟩ (c_X7_thrown l dC dI q_19 ys_23 yp_24 sa ta 1) (cwV 0 hts gl_X7_thrown rfl rfl rfl (by decide +kernel) ⟨Nat.le_of_ble_eq_true rfl, Nat.le_of_ble_eq_true rfl⟩) ⟨ax_fbR, va_recv hK hP (ci := 11) (q0 := 2) rfl rfl, ax_prR hPc hKc hS hE⟩ rfl rfl hl.1 rfl (lv_room (Nat.le_of_ble_eq_true rfl)) dL_law_974 ⟨Nat.le_of_ble_eq_true rfl, Nat.le_of_ble_eq_true rfl⟩) hS (fun _ _ h9 => h9.elim) (fun _ h9 => h9.elim) (fun r_219 u_221  t H locs ht hvm hw_220 hB hz1 hk1 hS => ?_)
          have hP := ax_keep hP (fun _ h9 => h9) hk1
          refine ax_i (y := 1) hw_220 ?_
          refine lv_iload hx hb dL_law_977 (lv_at hl 1 rfl) ?_
          refine lv_icmp_eq (tgt := 984) hx hb dL_law_979 (by decide) (fun _ => ?_) (fun h9 => absurd (by decide) h9)
          refine lv_iload hx hb dL_law_984 (lv_at hl 1 rfl) ?_
          refine lv_if_ne (tgt := 1000) hx hb dL_law_986 (by decide) (fun _ => ?_) (fun h9 => absurd h9 (by decide))
          refine lv_goto (tgt := 1857) hx hb dL_law_1000 (by decide) ?_
          refine lv_iinc (v := 5) (lv' := [(5, .int 5), (7, .long r_215), (6, .int 1), (4, .ref q_27), (3, .ref q_25), (2, .ref q_19), (1, .ref q_1), (0, .ref b)]) hx hb dL_law_1857 hl (k := 2) rfl (by decide) (by decide) rfl (fun ls hl => ?_)
          refine lv_goto (tgt := 28) hx hb dL_law_1860 (by decide) ?_
          refine lv_iload hx hb dL_law_28 (lv_at hl 0 rfl) ?_
          refine lv_aload_n hx hb dL_law_30 rfl (lv_at hl 7 rfl) ?_
          refine va_slen hx hb hX hbl hbA hS dL_law_31 ?_
          refine ax_i (y := 5) rfl ?_
          refine lv_iconst (v := 5) hx hb dL_law_32 (by decide) ?_
          refine lv_isub hx hb dL_law_33 ?_
          refine ax_i (y := 0) (by decide) ?_
          refine lv_icmp_gt (tgt := 1863) hx hb dL_law_34 (by decide) (fun _ => ?_) (fun h9 => absurd (by decide) h9)
          refine lv_iconst (v := 1) hx hb dL_law_1863 (by decide) ?_
          refine va_forget (fun q hq => by have h9 := hS.2.2 q hq; rw [hAd] at h9; exact h9) ?_
          refine W.widen (k := 600002) (n := 7302232) (Nat.le_of_ble_eq_true rfl) (Nat.le_of_ble_eq_true rfl) ?_
          refine W.base ?_
          exact lw_ret (Drawn.sameBut.refl s.drawn lw_cs) hx hb hr hlocks dL_law_1864

set_option maxHeartbeats 4000000 in
set_option maxRecDepth 100000 in
theorem law_c11 {p : Program} {e : Env} {s : State} {m : MethodId} {below : List Frame} {meth : Method} {c : Code} (l : Launch) (hlt : l.stackTraces = false) {dC : Nat → ClassId} {dI : Nat → Nat → Nat} {b : Nat} {xs : Nat → Int32} (C0 : lw_At p s m meth c b 5 xs) {A : Nat → Prop} (hAd : A = fun q => s.heap.size ≤ q) {sa ta : Nat → Nat} (hE : ax_S sa ta A s s.heap) {q_1 xs_5 xp_6 xl_7 xn_8 xm_9 xr_10 xw_11 xt_12 q_19 ys_23 yp_24 q_25 q_27 : Nat} {cS_13 cP_14 cn_15 cm_16 cw_17 ct_18 cA_26 cA_28 : ClassId} {H : Heap} {locs : List Loc} (hK : va_K (dC, dI) vwCl [(cS_13, .object "Diffractory$Source"), (cP_14, .object "Diffractory$Part"), (cn_15, .long), (cm_16, .long), (cw_17, .long), (ct_18, .long), (cA_26, .long), (cA_28, .double)] s) (hP : va_P (dC, dI) vwCl [(q_1, .inr (8, [.ref xs_5, .ref xp_6, .int 0, .int 0, .ref xl_7, .ref xr_10])), (xs_5, .inl (cS_13, 3, .inr (.inr (.inr (.inr (fun _ => none)))))), (xp_6, .inl (cP_14, 8, .inr (.inr (.inr (.inr (fun _ => none)))))), (xl_7, .inr (4, [.ref xn_8, .ref xm_9])), (xn_8, .inl (cn_15, 64, .inr (.inl (fun _ => 0)))), (xm_9, .inl (cm_16, 64, .inr (.inl (fun _ => 0)))), (xr_10, .inr (6, [.ref xw_11, .ref xt_12])), (xw_11, .inl (cw_17, 8, .inr (.inl (fun _ => 0)))), (xt_12, .inl (ct_18, 8, .inr (.inl (fun _ => 0)))), (q_19, .inr (11, [.int 0, .ref ys_23, .ref yp_24, .int 0])), (ys_23, .inr (3, [.int 0, .ref (ta 4), .int 0])), (yp_24, .inr (3, [.int 0, .ref (ta 4), .int 0])), (q_25, .inl (cA_26, 1, .inr (.inl (fun _ => 0)))), (q_27, .inl (cA_28, 1, .inr (.inr (.inr (.inl (fun _ => 0))))))] H) (hD : va_D A [(q_1, .inr (8, [.ref xs_5, .ref xp_6, .int 0, .int 0, .ref xl_7, .ref xr_10])), (xs_5, .inl (cS_13, 3, .inr (.inr (.inr (.inr (fun _ => none)))))), (xp_6, .inl (cP_14, 8, .inr (.inr (.inr (.inr (fun _ => none)))))), (xl_7, .inr (4, [.ref xn_8, .ref xm_9])), (xn_8, .inl (cn_15, 64, .inr (.inl (fun _ => 0)))), (xm_9, .inl (cm_16, 64, .inr (.inl (fun _ => 0)))), (xr_10, .inr (6, [.ref xw_11, .ref xt_12])), (xw_11, .inl (cw_17, 8, .inr (.inl (fun _ => 0)))), (xt_12, .inl (ct_18, 8, .inr (.inl (fun _ => 0)))), (q_19, .inr (11, [.int 0, .ref ys_23, .ref yp_24, .int 0])), (ys_23, .inr (3, [.int 0, .ref (ta 4), .int 0])), (yp_24, .inr (3, [.int 0, .ref (ta 4), .int 0])), (q_25, .inl (cA_26, 1, .inr (.inl (fun _ => 0)))), (q_27, .inl (cA_28, 1, .inr (.inr (.inr (.inl (fun _ => 0))))))]) (hS : va_S A s.heap H locs) {ls : Array Slot} (hl : lv_has ls 9 [(5, .int 0), (4, .ref q_27), (3, .ref q_25), (2, .ref q_19), (1, .ref q_1), (0, .ref b)]) : W p l e room_1 s m #[Value.ref b] below meth c H locs 14 177 (lw_Z below #[Value.ref b] s) (F0 m 1003 ls []) := by
  obtain ⟨hx, hb, hr, hml, hown, hts, hX, hbl, hlocks, hgv⟩ := C0
  have hA : ∀ q : Nat, s.heap.size ≤ q → A q := fun q h => by rw [hAd]; exact h
  have hbA : ¬ A b := by rw [hAd]; exact Nat.not_le.mpr hbl
  refine lv_aload_n hx hb dL_law_1003 rfl (lv_at hl 4 rfl) ?_
  refine lv_aload_n hx hb dL_law_1004 rfl (lv_at hl 5 rfl) ?_
  refine lv_iload hx hb dL_law_1005 (lv_at hl 0 rfl) ?_
  refine lv_iconst (v := 1) hx hb dL_law_1007 (by decide) ?_
  refine lv_iadd hx hb dL_law_1008 ?_
  refine ax_i (y := 1) (by decide) ?_
  refine va_sld hx hb hX hbl hbA hS (by unfold vp_in; decide) dL_law_1009 ?_
  refine ax_i (y := xs 1) rfl ?_
  refine lv_aload_n hx hb dL_law_1010 rfl (lv_at hl 2 rfl) ?_
  have hPc := hP.sub (ws' := [(q_1, .inr (8, [.ref xs_5, .ref xp_6, .int 0, .int 0, .ref xl_7, .ref xr_10])), (xs_5, .inl (cS_13, 3, .inr (.inr (.inr (.inr (fun _ => none)))))), (xp_6, .inl (cP_14, 8, .inr (.inr (.inr (.inr (fun _ => none)))))), (xl_7, .inr (4, [.ref xn_8, .ref xm_9])), (xn_8, .inl (cn_15, 64, .inr (.inl (fun _ => 0)))), (xm_9, .inl (cm_16, 64, .inr (.inl (fun _ => 0)))), (xr_10, .inr (6, [.ref xw_11, .ref xt_12])), (xw_11, .inl (cw_17, 8, .inr (.inl (fun _ => 0)))), (xt_12, .inl (ct_18, 8, .inr (.inl (fun _ => 0)))), (q_25, .inl (cA_26, 1, .inr (.inl (fun _ => 0))))]) [0, 1, 2, 3, 4, 5, 6, 7, 8, 12] rfl
  have hKc := hK.sub (tys' := [(cS_13, .object "Diffractory$Source"), (cP_14, .object "Diffractory$Part"), (cn_15, .long), (cm_16, .long), (cw_17, .long), (ct_18, .long), (cA_26, .long)]) [0, 1, 2, 3, 4, 5, 6] rfl
  have hDc := hD.sub (ws' := [(q_1, .inr (8, [.ref xs_5, .ref xp_6, .int 0, .int 0, .ref xl_7, .ref xr_10])), (xs_5, .inl (cS_13, 3, .inr (.inr (.inr (.inr (fun _ => none)))))), (xp_6, .inl (cP_14, 8, .inr (.inr (.inr (.inr (fun _ => none)))))), (xl_7, .inr (4, [.ref xn_8, .ref xm_9])), (xn_8, .inl (cn_15, 64, .inr (.inl (fun _ => 0)))), (xm_9, .inl (cm_16, 64, .inr (.inl (fun _ => 0)))), (xr_10, .inr (6, [.ref xw_11, .ref xt_12])), (xw_11, .inl (cw_17, 8, .inr (.inl (fun _ => 0)))), (xt_12, .inl (ct_18, 8, .inr (.inl (fun _ => 0)))), (q_25, .inl (cA_26, 1, .inr (.inl (fun _ => 0))))]) [0, 1, 2, 3, 4, 5, 6, 7, 8, 12] (by decide) rfl
  have hFc := va_free (wc := [(q_1, .inr (8, [.ref xs_5, .ref xp_6, .int 0, .int 0, .ref xl_7, .ref xr_10])), (xs_5, .inl (cS_13, 3, .inr (.inr (.inr (.inr (fun _ => none)))))), (xp_6, .inl (cP_14, 8, .inr (.inr (.inr (.inr (fun _ => none)))))), (xl_7, .inr (4, [.ref xn_8, .ref xm_9])), (xn_8, .inl (cn_15, 64, .inr (.inl (fun _ => 0)))), (xm_9, .inl (cm_16, 64, .inr (.inl (fun _ => 0)))), (xr_10, .inr (6, [.ref xw_11, .ref xt_12])), (xw_11, .inl (cw_17, 8, .inr (.inl (fun _ => 0)))), (xt_12, .inl (ct_18, 8, .inr (.inl (fun _ => 0)))), (q_25, .inl (cA_26, 1, .inr (.inl (fun _ => 0))))]) hD hS hA [0, 1, 2, 3, 4, 5, 6, 7, 8, 12] rfl
  refine va_calli (vx_runSW (As := [.ref q_1, .int (xs 1), .ref q_25]) (rest := []) ⟨hx, hb, hml, hown, hts⟩ (c_L_brightest l hlt dC dI q_1 xs_5 xp_6 xl_7 xn_8 xm_9 xr_10 xw_11 xt_12 q_25 cS_13 cP_14 cn_15 cm_16 cw_17 ct_18 cA_26 sa ta H.size (xs 1)) (vx_cwSW 3 hts gl_L_brightest rfl rfl rfl (by decide +kernel) ⟨Nat.le_of_ble_eq_true rfl, Nat.le_of_ble_eq_true rfl⟩) ⟨ax_fbW, ax_prW hPc hKc hDc hS hFc hE⟩ rfl rfl hl.1 rfl (lv_room (Nat.le_of_ble_eq_true rfl)) dL_law_1011 ⟨Nat.le_of_ble_eq_true rfl, Nat.le_of_ble_eq_true rfl⟩) hS (fun q _ h9 => hFc q h9) hFc (fun r_222 u_224  t H locs ht hvm hw_223 hB hz1 hk1 hS => ?_)
  obtain ⟨of_225, rfl⟩ : ∃ z, z = u_224 := ⟨_, rfl⟩
  obtain ⟨hP1, hK1, hD1⟩ := hB
  rw [ht] at hP1
  have hK1 := va_K.moved hvm.symm hK1
  obtain ⟨hP, hD⟩ := va_join (wr := [(q_19, .inr (11, [.int 0, .ref ys_23, .ref yp_24, .int 0])), (ys_23, .inr (3, [.int 0, .ref (ta 4), .int 0])), (yp_24, .inr (3, [.int 0, .ref (ta 4), .int 0])), (q_27, .inl (cA_28, 1, .inr (.inr (.inr (.inl (fun _ => 0))))))]) (w1 := [(q_25, .inl (cA_26, 1, .inr (.inl of_225)))]) hP hD [0, 1, 2, 3, 4, 5, 6, 7, 8, 12] [9, 10, 11, 13] rfl rfl (by decide) (by decide) hk1 hFc hP1 hD1
  have hP : va_P (dC, dI) vwCl [(q_19, .inr (11, [.int 0, .ref ys_23, .ref yp_24, .int 0])), (ys_23, .inr (3, [.int 0, .ref (ta 4), .int 0])), (yp_24, .inr (3, [.int 0, .ref (ta 4), .int 0])), (q_27, .inl (cA_28, 1, .inr (.inr (.inr (.inl (fun _ => 0)))))), (q_25, .inl (cA_26, 1, .inr (.inl of_225)))] H := hP
  have hD : va_D A [(q_19, .inr (11, [.int 0, .ref ys_23, .ref yp_24, .int 0])), (ys_23, .inr (3, [.int 0, .ref (ta 4), .int 0])), (yp_24, .inr (3, [.int 0, .ref (ta 4), .int 0])), (q_27, .inl (cA_28, 1, .inr (.inr (.inr (.inl (fun _ => 0)))))), (q_25, .inl (cA_26, 1, .inr (.inl of_225)))] := hD
  rcases hw_223 with hw_223 | hw_223
  · refine ax_i (y := 0) hw_223.2.1 ?_
    refine lv_istore (lv' := [(6, .int 0), (5, .int 0), (4, .ref q_27), (3, .ref q_25), (2, .ref q_19), (1, .ref q_1), (0, .ref b)]) hx hb dL_law_1014 hl (by decide) rfl (fun ls hl => ?_)
    refine lv_aload_n hx hb dL_law_1016 rfl (lv_at hl 4 rfl) ?_
    refine lv_aload_n hx hb dL_law_1017 rfl (lv_at hl 6 rfl) ?_
    refine lv_iload hx hb dL_law_1018 (lv_at hl 1 rfl) ?_
    refine lv_iconst (v := 1) hx hb dL_law_1020 (by decide) ?_
    refine lv_iadd hx hb dL_law_1021 ?_
    refine ax_i (y := 1) (by decide) ?_
    refine va_sld hx hb hX hbl hbA hS (by unfold vp_in; decide) dL_law_1022 ?_
    refine ax_i (y := xs 1) rfl ?_
    have hPc := hP.sub (ws' := [(q_19, .inr (11, [.int 0, .ref ys_23, .ref yp_24, .int 0])), (ys_23, .inr (3, [.int 0, .ref (ta 4), .int 0])), (yp_24, .inr (3, [.int 0, .ref (ta 4), .int 0]))]) [0, 1, 2] rfl
    have hKc := hK.sub (tys' := []) [] rfl
    have hDc := hD.sub (ws' := [(q_19, .inr (11, [.int 0, .ref ys_23, .ref yp_24, .int 0])), (ys_23, .inr (3, [.int 0, .ref (ta 4), .int 0])), (yp_24, .inr (3, [.int 0, .ref (ta 4), .int 0]))]) [0, 1, 2] (by decide) rfl
    have hFc := va_free (wc := [(q_19, .inr (11, [.int 0, .ref ys_23, .ref yp_24, .int 0])), (ys_23, .inr (3, [.int 0, .ref (ta 4), .int 0])), (yp_24, .inr (3, [.int 0, .ref (ta 4), .int 0]))]) hD hS hA [0, 1, 2] rfl
    refine va_calli (va_runV (As := [.int (xs 1)]) (rest := []) ⟨hx, hb, hml, hown, hts⟩ (c_X7_brightest_ l dC dI q_19 ys_23 yp_24 sa ta H.size 0 (xs 1)) (cwV 1 hts gl_X7_brightest_ rfl rfl rfl (by decide +kernel) ⟨Nat.le_of_ble_eq_true rfl, Nat.le_of_ble_eq_true rfl⟩) ⟨ax_fbW, va_recv hK hP (ci := 11) (q0 := 0) rfl rfl, ax_prW hPc hKc hDc hS hFc hE⟩ rfl rfl hl.1 rfl (lv_room (Nat.le_of_ble_eq_true rfl)) dL_law_1023 ⟨Nat.le_of_ble_eq_true rfl, Nat.le_of_ble_eq_true rfl⟩) hS (fun q _ h9 => hFc q h9) hFc (fun r_226 u_228  t H locs ht hvm hw_227 hB hz1 hk1 hS => ?_)
    obtain ⟨th2_229, rfl⟩ : ∃ z, z = u_228 := ⟨_, rfl⟩
    obtain ⟨hP1, hK1, hD1⟩ := hB
    rw [ht] at hP1
    have hK1 := va_K.moved hvm.symm hK1
    obtain ⟨hP, hD⟩ := va_join (wr := [(q_27, .inl (cA_28, 1, .inr (.inr (.inr (.inl (fun _ => 0)))))), (q_25, .inl (cA_26, 1, .inr (.inl of_225)))]) (w1 := [(q_19, .inr (11, [.int th2_229, .ref ys_23, .ref yp_24, .int 0]))]) hP hD [0, 1, 2] [3, 4] rfl rfl (by decide) (by decide) hk1 hFc hP1 hD1
    have hP : va_P (dC, dI) vwCl [(q_27, .inl (cA_28, 1, .inr (.inr (.inr (.inl (fun _ => 0)))))), (q_25, .inl (cA_26, 1, .inr (.inl of_225))), (q_19, .inr (11, [.int th2_229, .ref ys_23, .ref yp_24, .int 0]))] H := hP
    have hD : va_D A [(q_27, .inl (cA_28, 1, .inr (.inr (.inr (.inl (fun _ => 0)))))), (q_25, .inl (cA_26, 1, .inr (.inl of_225))), (q_19, .inr (11, [.int th2_229, .ref ys_23, .ref yp_24, .int 0]))] := hD
    rcases hw_227 with hw_227 | hw_227
    · have e9 := hw_227.2.1
      subst e9
      refine ax_i (y := 0) hw_227.2.2 ?_
      refine lv_istore (lv' := [(7, .int 0), (6, .int 0), (5, .int 0), (4, .ref q_27), (3, .ref q_25), (2, .ref q_19), (1, .ref q_1), (0, .ref b)]) hx hb dL_law_1026 hl (by decide) rfl (fun ls hl => ?_)
      refine lv_aload_n hx hb dL_law_1028 rfl (lv_at hl 5 rfl) ?_
      have hPc := hP.sub (ws' := [(q_19, .inr (11, [.int 0, .ref ys_23, .ref yp_24, .int 0]))]) [2] rfl
      have hKc := hK.sub (tys' := []) [] rfl
      refine va_calli (va_runV (As := []) (rest := []) ⟨hx, hb, hml, hown, hts⟩ (c_X7_thrown l dC dI q_19 ys_23 yp_24 sa ta 0) (cwV 0 hts gl_X7_thrown rfl rfl rfl (by decide +kernel) ⟨Nat.le_of_ble_eq_true rfl, Nat.le_of_ble_eq_true rfl⟩) ⟨ax_fbR, va_recv hK hP (ci := 11) (q0 := 2) rfl rfl, ax_prR hPc hKc hS hE⟩ rfl rfl hl.1 rfl (lv_room (Nat.le_of_ble_eq_true rfl)) dL_law_1029 ⟨Nat.le_of_ble_eq_true rfl, Nat.le_of_ble_eq_true rfl⟩) hS (fun _ _ h9 => h9.elim) (fun _ h9 => h9.elim) (fun r_230 u_232  t H locs ht hvm hw_231 hB hz1 hk1 hS => ?_)
      have hP := ax_keep hP (fun _ h9 => h9) hk1
      refine ax_i (y := 0) hw_231 ?_
      refine lv_iload hx hb dL_law_1032 (lv_at hl 1 rfl) ?_
      refine lv_icmp_eq (tgt := 1039) hx hb dL_law_1034 (by decide) (fun _ => ?_) (fun h9 => absurd (by decide) h9)
      refine lv_iload hx hb dL_law_1039 (lv_at hl 1 rfl) ?_
      refine lv_if_ne (tgt := 1056) hx hb dL_law_1041 (by decide) (fun h9 => absurd rfl h9) (fun _ => ?_)
      refine lv_aload_n hx hb dL_law_1044 rfl (lv_at hl 4 rfl) ?_
      refine lv_iconst (v := 0) hx hb dL_law_1045 (by decide) ?_
      refine va_lald hx hb hK hP 1 6 rfl rfl (by unfold vp_in; decide) dL_law_1046 ?_
      refine ax_l (y := 0) hw_223.2.2 ?_
      refine lv_iload hx hb dL_law_1047 (lv_at hl 0 rfl) ?_
      refine lv_i2l (v := 0) hx hb dL_law_1049 (by decide) ?_
      refine W.lcmp hx hb dL_law_1050 ?_
      refine ax_i (y := 0) (by decide) ?_
      refine lv_if_eq (tgt := 1056) hx hb dL_law_1051 (by decide) (fun _ => ?_) (fun h9 => absurd (by decide) h9)
      refine lv_goto (tgt := 1857) hx hb dL_law_1056 (by decide) ?_
      refine lv_iinc (v := 5) (lv' := [(5, .int 5), (7, .int 0), (6, .int 0), (4, .ref q_27), (3, .ref q_25), (2, .ref q_19), (1, .ref q_1), (0, .ref b)]) hx hb dL_law_1857 hl (k := 2) rfl (by decide) (by decide) rfl (fun ls hl => ?_)
      refine lv_goto (tgt := 28) hx hb dL_law_1860 (by decide) ?_
      refine lv_iload hx hb dL_law_28 (lv_at hl 0 rfl) ?_
      refine lv_aload_n hx hb dL_law_30 rfl (lv_at hl 7 rfl) ?_
      refine va_slen hx hb hX hbl hbA hS dL_law_31 ?_
      refine ax_i (y := 5) rfl ?_
      refine lv_iconst (v := 5) hx hb dL_law_32 (by decide) ?_
      refine lv_isub hx hb dL_law_33 ?_
      refine ax_i (y := 0) (by decide) ?_
      refine lv_icmp_gt (tgt := 1863) hx hb dL_law_34 (by decide) (fun _ => ?_) (fun h9 => absurd (by decide) h9)
      refine lv_iconst (v := 1) hx hb dL_law_1863 (by decide) ?_
      refine va_forget (fun q hq => by have h9 := hS.2.2 q hq; rw [hAd] at h9; exact h9) ?_
      refine W.widen (k := 600002) (n := 7302232) (Nat.le_of_ble_eq_true rfl) (Nat.le_of_ble_eq_true rfl) ?_
      refine W.base ?_
      exact lw_ret (Drawn.sameBut.refl s.drawn lw_cs) hx hb hr hlocks dL_law_1864
    · exact absurd hw_223.1 hw_227.1
  · refine ax_i (y := 1) hw_223.2 ?_
    refine lv_istore (lv' := [(6, .int 1), (5, .int 0), (4, .ref q_27), (3, .ref q_25), (2, .ref q_19), (1, .ref q_1), (0, .ref b)]) hx hb dL_law_1014 hl (by decide) rfl (fun ls hl => ?_)
    refine lv_aload_n hx hb dL_law_1016 rfl (lv_at hl 4 rfl) ?_
    refine lv_aload_n hx hb dL_law_1017 rfl (lv_at hl 6 rfl) ?_
    refine lv_iload hx hb dL_law_1018 (lv_at hl 1 rfl) ?_
    refine lv_iconst (v := 1) hx hb dL_law_1020 (by decide) ?_
    refine lv_iadd hx hb dL_law_1021 ?_
    refine ax_i (y := 1) (by decide) ?_
    refine va_sld hx hb hX hbl hbA hS (by unfold vp_in; decide) dL_law_1022 ?_
    refine ax_i (y := xs 1) rfl ?_
    have hPc := hP.sub (ws' := [(q_19, .inr (11, [.int 0, .ref ys_23, .ref yp_24, .int 0])), (ys_23, .inr (3, [.int 0, .ref (ta 4), .int 0])), (yp_24, .inr (3, [.int 0, .ref (ta 4), .int 0]))]) [0, 1, 2] rfl
    have hKc := hK.sub (tys' := []) [] rfl
    have hDc := hD.sub (ws' := [(q_19, .inr (11, [.int 0, .ref ys_23, .ref yp_24, .int 0])), (ys_23, .inr (3, [.int 0, .ref (ta 4), .int 0])), (yp_24, .inr (3, [.int 0, .ref (ta 4), .int 0]))]) [0, 1, 2] (by decide) rfl
    have hFc := va_free (wc := [(q_19, .inr (11, [.int 0, .ref ys_23, .ref yp_24, .int 0])), (ys_23, .inr (3, [.int 0, .ref (ta 4), .int 0])), (yp_24, .inr (3, [.int 0, .ref (ta 4), .int 0]))]) hD hS hA [0, 1, 2] rfl
    refine va_calli (va_runV (As := [.int (xs 1)]) (rest := []) ⟨hx, hb, hml, hown, hts⟩ (c_X7_brightest_ l dC dI q_19 ys_23 yp_24 sa ta H.size 0 (xs 1)) (cwV 1 hts gl_X7_brightest_ rfl rfl rfl (by decide +kernel) ⟨Nat.le_of_ble_eq_true rfl, Nat.le_of_ble_eq_true rfl⟩) ⟨ax_fbW, va_recv hK hP (ci := 11) (q0 := 0) rfl rfl, ax_prW hPc hKc hDc hS hFc hE⟩ rfl rfl hl.1 rfl (lv_room (Nat.le_of_ble_eq_true rfl)) dL_law_1023 ⟨Nat.le_of_ble_eq_true rfl, Nat.le_of_ble_eq_true rfl⟩) hS (fun q _ h9 => hFc q h9) hFc (fun r_233 u_235  t H locs ht hvm hw_234 hB hz1 hk1 hS => ?_)
    obtain ⟨th2_236, rfl⟩ : ∃ z, z = u_235 := ⟨_, rfl⟩
    obtain ⟨hP1, hK1, hD1⟩ := hB
    rw [ht] at hP1
    have hK1 := va_K.moved hvm.symm hK1
    obtain ⟨hP, hD⟩ := va_join (wr := [(q_27, .inl (cA_28, 1, .inr (.inr (.inr (.inl (fun _ => 0)))))), (q_25, .inl (cA_26, 1, .inr (.inl of_225)))]) (w1 := [(q_19, .inr (11, [.int th2_236, .ref ys_23, .ref yp_24, .int 0]))]) hP hD [0, 1, 2] [3, 4] rfl rfl (by decide) (by decide) hk1 hFc hP1 hD1
    have hP : va_P (dC, dI) vwCl [(q_27, .inl (cA_28, 1, .inr (.inr (.inr (.inl (fun _ => 0)))))), (q_25, .inl (cA_26, 1, .inr (.inl of_225))), (q_19, .inr (11, [.int th2_236, .ref ys_23, .ref yp_24, .int 0]))] H := hP
    have hD : va_D A [(q_27, .inl (cA_28, 1, .inr (.inr (.inr (.inl (fun _ => 0)))))), (q_25, .inl (cA_26, 1, .inr (.inl of_225))), (q_19, .inr (11, [.int th2_236, .ref ys_23, .ref yp_24, .int 0]))] := hD
    rcases hw_234 with hw_234 | hw_234
    · exact absurd hw_234.1 hw_223.1
    · have e9 := hw_234.2
      subst e9
      refine lv_istore (lv' := [(7, .int r_233), (6, .int 1), (5, .int 0), (4, .ref q_27), (3, .ref q_25), (2, .ref q_19), (1, .ref q_1), (0, .ref b)]) hx hb dL_law_1026 hl (by decide) rfl (fun ls hl => ?_)
      refine lv_aload_n hx hb dL_law_1028 rfl (lv_at hl 5 rfl) ?_
      have hPc := hP.sub (ws' := [(q_19, .inr (11, [.int 1, .ref ys_23, .ref yp_24, .int 0]))]) [2] rfl
      have hKc := hK.sub (tys' := []) [] rfl
      refine va_calli (va_runV (As := []) (rest := []) ⟨hx, hb, hml, hown, hts⟩ (c_X7_thrown l dC dI q_19 ys_23 yp_24 sa ta 1) (cwV 0 hts gl_X7_thrown rfl rfl rfl (by decide +kernel) ⟨Nat.le_of_ble_eq_true rfl, Nat.le_of_ble_eq_true rfl⟩) ⟨ax_fbR, va_recv hK hP (ci := 11) (q0 := 2) rfl rfl, ax_prR hPc hKc hS hE⟩ rfl rfl hl.1 rfl (lv_room (Nat.le_of_ble_eq_true rfl)) dL_law_1029 ⟨Nat.le_of_ble_eq_true rfl, Nat.le_of_ble_eq_true rfl⟩) hS (fun _ _ h9 => h9.elim) (fun _ h9 => h9.elim) (fun r_237 u_239  t H locs ht hvm hw_238 hB hz1 hk1 hS => ?_)
      have hP := ax_keep hP (fun _ h9 => h9) hk1
      refine ax_i (y := 1) hw_238 ?_
      refine lv_iload hx hb dL_law_1032 (lv_at hl 1 rfl) ?_
      refine lv_icmp_eq (tgt := 1039) hx hb dL_law_1034 (by decide) (fun _ => ?_) (fun h9 => absurd (by decide) h9)
      refine lv_iload hx hb dL_law_1039 (lv_at hl 1 rfl) ?_
      refine lv_if_ne (tgt := 1056) hx hb dL_law_1041 (by decide) (fun _ => ?_) (fun h9 => absurd h9 (by decide))
      refine lv_goto (tgt := 1857) hx hb dL_law_1056 (by decide) ?_
      refine lv_iinc (v := 5) (lv' := [(5, .int 5), (7, .int r_233), (6, .int 1), (4, .ref q_27), (3, .ref q_25), (2, .ref q_19), (1, .ref q_1), (0, .ref b)]) hx hb dL_law_1857 hl (k := 2) rfl (by decide) (by decide) rfl (fun ls hl => ?_)
      refine lv_goto (tgt := 28) hx hb dL_law_1860 (by decide) ?_
      refine lv_iload hx hb dL_law_28 (lv_at hl 0 rfl) ?_
      refine lv_aload_n hx hb dL_law_30 rfl (lv_at hl 7 rfl) ?_
      refine va_slen hx hb hX hbl hbA hS dL_law_31 ?_
      refine ax_i (y := 5) rfl ?_
      refine lv_iconst (v := 5) hx hb dL_law_32 (by decide) ?_
      refine lv_isub hx hb dL_law_33 ?_
      refine ax_i (y := 0) (by decide) ?_
      refine lv_icmp_gt (tgt := 1863) hx hb dL_law_34 (by decide) (fun _ => ?_) (fun h9 => absurd (by decide) h9)
      refine lv_iconst (v := 1) hx hb dL_law_1863 (by decide) ?_
      refine va_forget (fun q hq => by have h9 := hS.2.2 q hq; rw [hAd] at h9; exact h9) ?_
      refine W.widen (k := 600002) (n := 7302232) (Nat.le_of_ble_eq_true rfl) (Nat.le_of_ble_eq_true rfl) ?_
      refine W.base ?_
      exact lw_ret (Drawn.sameBut.refl s.drawn lw_cs) hx hb hr hlocks dL_law_1864

set_option maxHeartbeats 4000000 in
set_option maxRecDepth 100000 in
theorem law_c12 {p : Program} {e : Env} {s : State} {m : MethodId} {below : List Frame} {meth : Method} {c : Code} (l : Launch) (hlt : l.stackTraces = false) {dC : Nat → ClassId} {dI : Nat → Nat → Nat} {b : Nat} {xs : Nat → Int32} (C0 : lw_At p s m meth c b 5 xs) {A : Nat → Prop} (hAd : A = fun q => s.heap.size ≤ q) {sa ta : Nat → Nat} (hE : ax_S sa ta A s s.heap) {q_1 xs_5 xp_6 xl_7 xn_8 xm_9 xr_10 xw_11 xt_12 q_19 ys_23 yp_24 q_25 q_27 : Nat} {cS_13 cP_14 cn_15 cm_16 cw_17 ct_18 cA_26 cA_28 : ClassId} {H : Heap} {locs : List Loc} (hK : va_K (dC, dI) vwCl [(cS_13, .object "Diffractory$Source"), (cP_14, .object "Diffractory$Part"), (cn_15, .long), (cm_16, .long), (cw_17, .long), (ct_18, .long), (cA_26, .long), (cA_28, .double)] s) (hP : va_P (dC, dI) vwCl [(q_1, .inr (8, [.ref xs_5, .ref xp_6, .int 0, .int 0, .ref xl_7, .ref xr_10])), (xs_5, .inl (cS_13, 3, .inr (.inr (.inr (.inr (fun _ => none)))))), (xp_6, .inl (cP_14, 8, .inr (.inr (.inr (.inr (fun _ => none)))))), (xl_7, .inr (4, [.ref xn_8, .ref xm_9])), (xn_8, .inl (cn_15, 64, .inr (.inl (fun _ => 0)))), (xm_9, .inl (cm_16, 64, .inr (.inl (fun _ => 0)))), (xr_10, .inr (6, [.ref xw_11, .ref xt_12])), (xw_11, .inl (cw_17, 8, .inr (.inl (fun _ => 0)))), (xt_12, .inl (ct_18, 8, .inr (.inl (fun _ => 0)))), (q_19, .inr (11, [.int 0, .ref ys_23, .ref yp_24, .int 0])), (ys_23, .inr (3, [.int 0, .ref (ta 4), .int 0])), (yp_24, .inr (3, [.int 0, .ref (ta 4), .int 0])), (q_25, .inl (cA_26, 1, .inr (.inl (fun _ => 0)))), (q_27, .inl (cA_28, 1, .inr (.inr (.inr (.inl (fun _ => 0))))))] H) (hD : va_D A [(q_1, .inr (8, [.ref xs_5, .ref xp_6, .int 0, .int 0, .ref xl_7, .ref xr_10])), (xs_5, .inl (cS_13, 3, .inr (.inr (.inr (.inr (fun _ => none)))))), (xp_6, .inl (cP_14, 8, .inr (.inr (.inr (.inr (fun _ => none)))))), (xl_7, .inr (4, [.ref xn_8, .ref xm_9])), (xn_8, .inl (cn_15, 64, .inr (.inl (fun _ => 0)))), (xm_9, .inl (cm_16, 64, .inr (.inl (fun _ => 0)))), (xr_10, .inr (6, [.ref xw_11, .ref xt_12])), (xw_11, .inl (cw_17, 8, .inr (.inl (fun _ => 0)))), (xt_12, .inl (ct_18, 8, .inr (.inl (fun _ => 0)))), (q_19, .inr (11, [.int 0, .ref ys_23, .ref yp_24, .int 0])), (ys_23, .inr (3, [.int 0, .ref (ta 4), .int 0])), (yp_24, .inr (3, [.int 0, .ref (ta 4), .int 0])), (q_25, .inl (cA_26, 1, .inr (.inl (fun _ => 0)))), (q_27, .inl (cA_28, 1, .inr (.inr (.inr (.inl (fun _ => 0))))))]) (hS : va_S A s.heap H locs) {ls : Array Slot} (hl : lv_has ls 9 [(5, .int 0), (4, .ref q_27), (3, .ref q_25), (2, .ref q_19), (1, .ref q_1), (0, .ref b)]) : W p l e room_1 s m #[Value.ref b] below meth c H locs 14 177 (lw_Z below #[Value.ref b] s) (F0 m 1059 ls []) := by
  obtain ⟨hx, hb, hr, hml, hown, hts, hX, hbl, hlocks, hgv⟩ := C0
  have hA : ∀ q : Nat, s.heap.size ≤ q → A q := fun q h => by rw [hAd]; exact h
  have hbA : ¬ A b := by rw [hAd]; exact Nat.not_le.mpr hbl
  refine lv_aload_n hx hb dL_law_1059 rfl (lv_at hl 4 rfl) ?_
  refine lv_aload_n hx hb dL_law_1060 rfl (lv_at hl 5 rfl) ?_
  refine lv_iload hx hb dL_law_1061 (lv_at hl 0 rfl) ?_
  refine lv_iconst (v := 1) hx hb dL_law_1063 (by decide) ?_
  refine lv_iadd hx hb dL_law_1064 ?_
  refine ax_i (y := 1) (by decide) ?_
  refine va_sld hx hb hX hbl hbA hS (by unfold vp_in; decide) dL_law_1065 ?_
  refine ax_i (y := xs 1) rfl ?_
  refine lv_aload_n hx hb dL_law_1066 rfl (lv_at hl 2 rfl) ?_
  have hPc := hP.sub (ws' := [(q_1, .inr (8, [.ref xs_5, .ref xp_6, .int 0, .int 0, .ref xl_7, .ref xr_10])), (xs_5, .inl (cS_13, 3, .inr (.inr (.inr (.inr (fun _ => none)))))), (xp_6, .inl (cP_14, 8, .inr (.inr (.inr (.inr (fun _ => none)))))), (xl_7, .inr (4, [.ref xn_8, .ref xm_9])), (xn_8, .inl (cn_15, 64, .inr (.inl (fun _ => 0)))), (xm_9, .inl (cm_16, 64, .inr (.inl (fun _ => 0)))), (xr_10, .inr (6, [.ref xw_11, .ref xt_12])), (xw_11, .inl (cw_17, 8, .inr (.inl (fun _ => 0)))), (xt_12, .inl (ct_18, 8, .inr (.inl (fun _ => 0)))), (q_25, .inl (cA_26, 1, .inr (.inl (fun _ => 0))))]) [0, 1, 2, 3, 4, 5, 6, 7, 8, 12] rfl
  have hKc := hK.sub (tys' := [(cS_13, .object "Diffractory$Source"), (cP_14, .object "Diffractory$Part"), (cn_15, .long), (cm_16, .long), (cw_17, .long), (ct_18, .long), (cA_26, .long)]) [0, 1, 2, 3, 4, 5, 6] rfl
  have hDc := hD.sub (ws' := [(q_1, .inr (8, [.ref xs_5, .ref xp_6, .int 0, .int 0, .ref xl_7, .ref xr_10])), (xs_5, .inl (cS_13, 3, .inr (.inr (.inr (.inr (fun _ => none)))))), (xp_6, .inl (cP_14, 8, .inr (.inr (.inr (.inr (fun _ => none)))))), (xl_7, .inr (4, [.ref xn_8, .ref xm_9])), (xn_8, .inl (cn_15, 64, .inr (.inl (fun _ => 0)))), (xm_9, .inl (cm_16, 64, .inr (.inl (fun _ => 0)))), (xr_10, .inr (6, [.ref xw_11, .ref xt_12])), (xw_11, .inl (cw_17, 8, .inr (.inl (fun _ => 0)))), (xt_12, .inl (ct_18, 8, .inr (.inl (fun _ => 0)))), (q_25, .inl (cA_26, 1, .inr (.inl (fun _ => 0))))]) [0, 1, 2, 3, 4, 5, 6, 7, 8, 12] (by decide) rfl
  have hFc := va_free (wc := [(q_1, .inr (8, [.ref xs_5, .ref xp_6, .int 0, .int 0, .ref xl_7, .ref xr_10])), (xs_5, .inl (cS_13, 3, .inr (.inr (.inr (.inr (fun _ => none)))))), (xp_6, .inl (cP_14, 8, .inr (.inr (.inr (.inr (fun _ => none)))))), (xl_7, .inr (4, [.ref xn_8, .ref xm_9])), (xn_8, .inl (cn_15, 64, .inr (.inl (fun _ => 0)))), (xm_9, .inl (cm_16, 64, .inr (.inl (fun _ => 0)))), (xr_10, .inr (6, [.ref xw_11, .ref xt_12])), (xw_11, .inl (cw_17, 8, .inr (.inl (fun _ => 0)))), (xt_12, .inl (ct_18, 8, .inr (.inl (fun _ => 0)))), (q_25, .inl (cA_26, 1, .inr (.inl (fun _ => 0))))]) hD hS hA [0, 1, 2, 3, 4, 5, 6, 7, 8, 12] rfl
  refine va_calli (vx_runSW (As := [.ref q_1, .int (xs 1), .ref q_25]) (rest := []) ⟨hx, hb, hml, hown, hts⟩ (c_L_dark l hlt dC dI q_1 xs_5 xp_6 xl_7 xn_8 xm_9 xr_10 xw_11 xt_12 q_25 cS_13 cP_14 cn_15 cm_16 cw_17 ct_18 cA_26 sa ta H.size (xs 1)) (vx_cwSW 3 hts gl_L_dark rfl rfl rfl (by decide +kernel) ⟨Nat.le_of_ble_eq_true rfl, Nat.le_of_ble_eq_true rfl⟩) ⟨ax_fbW, ax_prW hPc hKc hDc hS hFc hE⟩ rfl rfl hl.1 rfl (lv_room (Nat.le_of_ble_eq_true rfl)) dL_law_1067 ⟨Nat.le_of_ble_eq_true rfl, Nat.le_of_ble_eq_true rfl⟩) hS (fun q _ h9 => hFc q h9) hFc (fun r_240 u_242  t H locs ht hvm hw_241 hB hz1 hk1 hS => ?_)
  obtain ⟨of_243, rfl⟩ : ∃ z, z = u_242 := ⟨_, rfl⟩
  obtain ⟨hP1, hK1, hD1⟩ := hB
  rw [ht] at hP1
  have hK1 := va_K.moved hvm.symm hK1
  obtain ⟨hP, hD⟩ := va_join (wr := [(q_19, .inr (11, [.int 0, .ref ys_23, .ref yp_24, .int 0])), (ys_23, .inr (3, [.int 0, .ref (ta 4), .int 0])), (yp_24, .inr (3, [.int 0, .ref (ta 4), .int 0])), (q_27, .inl (cA_28, 1, .inr (.inr (.inr (.inl (fun _ => 0))))))]) (w1 := [(q_25, .inl (cA_26, 1, .inr (.inl of_243)))]) hP hD [0, 1, 2, 3, 4, 5, 6, 7, 8, 12] [9, 10, 11, 13] rfl rfl (by decide) (by decide) hk1 hFc hP1 hD1
  have hP : va_P (dC, dI) vwCl [(q_19, .inr (11, [.int 0, .ref ys_23, .ref yp_24, .int 0])), (ys_23, .inr (3, [.int 0, .ref (ta 4), .int 0])), (yp_24, .inr (3, [.int 0, .ref (ta 4), .int 0])), (q_27, .inl (cA_28, 1, .inr (.inr (.inr (.inl (fun _ => 0)))))), (q_25, .inl (cA_26, 1, .inr (.inl of_243)))] H := hP
  have hD : va_D A [(q_19, .inr (11, [.int 0, .ref ys_23, .ref yp_24, .int 0])), (ys_23, .inr (3, [.int 0, .ref (ta 4), .int 0])), (yp_24, .inr (3, [.int 0, .ref (ta 4), .int 0])), (q_27, .inl (cA_28, 1, .inr (.inr (.inr (.inl (fun _ => 0)))))), (q_25, .inl (cA_26, 1, .inr (.inl of_243)))] := hD
  rcases hw_241 with hw_241 | hw_241
  · refine ax_i (y := 0) hw_241.2.1 ?_
    refine lv_istore (lv' := [(6, .int 0), (5, .int 0), (4, .ref q_27), (3, .ref q_25), (2, .ref q_19), (1, .ref q_1), (0, .ref b)]) hx hb dL_law_1070 hl (by decide) rfl (fun ls hl => ?_)
    refine lv_aload_n hx hb dL_law_1072 rfl (lv_at hl 4 rfl) ?_
    refine lv_aload_n hx hb dL_law_1073 rfl (lv_at hl 6 rfl) ?_
    refine lv_iload hx hb dL_law_1074 (lv_at hl 1 rfl) ?_
    refine lv_iconst (v := 1) hx hb dL_law_1076 (by decide) ?_
    refine lv_iadd hx hb dL_law_1077 ?_
    refine ax_i (y := 1) (by decide) ?_
    refine va_sld hx hb hX hbl hbA hS (by unfold vp_in; decide) dL_law_1078 ?_
    refine ax_i (y := xs 1) rfl ?_
    have hPc := hP.sub (ws' := [(q_19, .inr (11, [.int 0, .ref ys_23, .ref yp_24, .int 0])), (ys_23, .inr (3, [.int 0, .ref (ta 4), .int 0])), (yp_24, .inr (3, [.int 0, .ref (ta 4), .int 0]))]) [0, 1, 2] rfl
    have hKc := hK.sub (tys' := []) [] rfl
    have hDc := hD.sub (ws' := [(q_19, .inr (11, [.int 0, .ref ys_23, .ref yp_24, .int 0])), (ys_23, .inr (3, [.int 0, .ref (ta 4), .int 0])), (yp_24, .inr (3, [.int 0, .ref (ta 4), .int 0]))]) [0, 1, 2] (by decide) rfl
    have hFc := va_free (wc := [(q_19, .inr (11, [.int 0, .ref ys_23, .ref yp_24, .int 0])), (ys_23, .inr (3, [.int 0, .ref (ta 4), .int 0])), (yp_24, .inr (3, [.int 0, .ref (ta 4), .int 0]))]) hD hS hA [0, 1, 2] rfl
    refine va_calli (va_runV (As := [.int (xs 1)]) (rest := []) ⟨hx, hb, hml, hown, hts⟩ (c_X7_dark_ l dC dI q_19 ys_23 yp_24 sa ta H.size 0 (xs 1)) (cwV 1 hts gl_X7_dark_ rfl rfl rfl (by decide +kernel) ⟨Nat.le_of_ble_eq_true rfl, Nat.le_of_ble_eq_true rfl⟩) ⟨ax_fbW, va_recv hK hP (ci := 11) (q0 := 0) rfl rfl, ax_prW hPc hKc hDc hS hFc hE⟩ rfl rfl hl.1 rfl (lv_room (Nat.le_of_ble_eq_true rfl)) dL_law_1079 ⟨Nat.le_of_ble_eq_true rfl, Nat.le_of_ble_eq_true rfl⟩) hS (fun q _ h9 => hFc q h9) hFc (fun r_244 u_246  t H locs ht hvm hw_245 hB hz1 hk1 hS => ?_)
    obtain ⟨th2_247, rfl⟩ : ∃ z, z = u_246 := ⟨_, rfl⟩
    obtain ⟨hP1, hK1, hD1⟩ := hB
    rw [ht] at hP1
    have hK1 := va_K.moved hvm.symm hK1
    obtain ⟨hP, hD⟩ := va_join (wr := [(q_27, .inl (cA_28, 1, .inr (.inr (.inr (.inl (fun _ => 0)))))), (q_25, .inl (cA_26, 1, .inr (.inl of_243)))]) (w1 := [(q_19, .inr (11, [.int th2_247, .ref ys_23, .ref yp_24, .int 0]))]) hP hD [0, 1, 2] [3, 4] rfl rfl (by decide) (by decide) hk1 hFc hP1 hD1
    have hP : va_P (dC, dI) vwCl [(q_27, .inl (cA_28, 1, .inr (.inr (.inr (.inl (fun _ => 0)))))), (q_25, .inl (cA_26, 1, .inr (.inl of_243))), (q_19, .inr (11, [.int th2_247, .ref ys_23, .ref yp_24, .int 0]))] H := hP
    have hD : va_D A [(q_27, .inl (cA_28, 1, .inr (.inr (.inr (.inl (fun _ => 0)))))), (q_25, .inl (cA_26, 1, .inr (.inl of_243))), (q_19, .inr (11, [.int th2_247, .ref ys_23, .ref yp_24, .int 0]))] := hD
    rcases hw_245 with hw_245 | hw_245
    · have e9 := hw_245.2.1
      subst e9
      refine ax_i (y := 255) hw_245.2.2 ?_
      refine lv_istore (lv' := [(7, .int 255), (6, .int 0), (5, .int 0), (4, .ref q_27), (3, .ref q_25), (2, .ref q_19), (1, .ref q_1), (0, .ref b)]) hx hb dL_law_1082 hl (by decide) rfl (fun ls hl => ?_)
      refine lv_aload_n hx hb dL_law_1084 rfl (lv_at hl 5 rfl) ?_
      have hPc := hP.sub (ws' := [(q_19, .inr (11, [.int 0, .ref ys_23, .ref yp_24, .int 0]))]) [2] rfl
      have hKc := hK.sub (tys' := []) [] rfl
      refine va_calli (va_runV (As := []) (rest := []) ⟨hx, hb, hml, hown, hts⟩ (c_X7_thrown l dC dI q_19 ys_23 yp_24 sa ta 0) (cwV 0 hts gl_X7_thrown rfl rfl rfl (by decide +kernel) ⟨Nat.le_of_ble_eq_true rfl, Nat.le_of_ble_eq_true rfl⟩) ⟨ax_fbR, va_recv hK hP (ci := 11) (q0 := 2) rfl rfl, ax_prR hPc hKc hS hE⟩ rfl rfl hl.1 rfl (lv_room (Nat.le_of_ble_eq_true rfl)) dL_law_1085 ⟨Nat.le_of_ble_eq_true rfl, Nat.le_of_ble_eq_true rfl⟩) hS (fun _ _ h9 => h9.elim) (fun _ h9 => h9.elim) (fun r_248 u_250  t H locs ht hvm hw_249 hB hz1 hk1 hS => ?_)
      have hP := ax_keep hP (fun _ h9 => h9) hk1
      refine ax_i (y := 0) hw_249 ?_
      refine lv_iload hx hb dL_law_1088 (lv_at hl 1 rfl) ?_
      refine lv_icmp_eq (tgt := 1095) hx hb dL_law_1090 (by decide) (fun _ => ?_) (fun h9 => absurd (by decide) h9)
      refine lv_iload hx hb dL_law_1095 (lv_at hl 1 rfl) ?_
      refine lv_if_ne (tgt := 1112) hx hb dL_law_1097 (by decide) (fun h9 => absurd rfl h9) (fun _ => ?_)
      refine lv_aload_n hx hb dL_law_1100 rfl (lv_at hl 4 rfl) ?_
      refine lv_iconst (v := 0) hx hb dL_law_1101 (by decide) ?_
      refine va_lald hx hb hK hP 1 6 rfl rfl (by unfold vp_in; decide) dL_law_1102 ?_
      refine ax_l (y := 255) hw_241.2.2 ?_
      refine lv_iload hx hb dL_law_1103 (lv_at hl 0 rfl) ?_
      refine lv_i2l (v := 255) hx hb dL_law_1105 (by decide) ?_
      refine W.lcmp hx hb dL_law_1106 ?_
      refine ax_i (y := 0) (by decide) ?_
      refine lv_if_eq (tgt := 1112) hx hb dL_law_1107 (by decide) (fun _ => ?_) (fun h9 => absurd (by decide) h9)
      refine lv_goto (tgt := 1857) hx hb dL_law_1112 (by decide) ?_
      refine lv_iinc (v := 5) (lv' := [(5, .int 5), (7, .int 255), (6, .int 0), (4, .ref q_27), (3, .ref q_25), (2, .ref q_19), (1, .ref q_1), (0, .ref b)]) hx hb dL_law_1857 hl (k := 2) rfl (by decide) (by decide) rfl (fun ls hl => ?_)
      refine lv_goto (tgt := 28) hx hb dL_law_1860 (by decide) ?_
      refine lv_iload hx hb dL_law_28 (lv_at hl 0 rfl) ?_
      refine lv_aload_n hx hb dL_law_30 rfl (lv_at hl 7 rfl) ?_
      refine va_slen hx hb hX hbl hbA hS dL_law_31 ?_
      refine ax_i (y := 5) rfl ?_
      refine lv_iconst (v := 5) hx hb dL_law_32 (by decide) ?_
      refine lv_isub hx hb dL_law_33 ?_
      refine ax_i (y := 0) (by decide) ?_
      refine lv_icmp_gt (tgt := 1863) hx hb dL_law_34 (by decide) (fun _ => ?_) (fun h9 => absurd (by decide) h9)
      refine lv_iconst (v := 1) hx hb dL_law_1863 (by decide) ?_
      refine va_forget (fun q hq => by have h9 := hS.2.2 q hq; rw [hAd] at h9; exact h9) ?_
      refine W.widen (k := 600002) (n := 7302232) (Nat.le_of_ble_eq_true rfl) (Nat.le_of_ble_eq_true rfl) ?_
      refine W.base ?_
      exact lw_ret (Drawn.sameBut.refl s.drawn lw_cs) hx hb hr hlocks dL_law_1864
    · exact absurd hw_241.1 hw_245.1
  · refine ax_i (y := 1) hw_241.2 ?_
    refine lv_istore (lv' := [(6, .int 1), (5, .int 0), (4, .ref q_27), (3, .ref q_25), (2, .ref q_19), (1, .ref q_1), (0, .ref b)]) hx hb dL_law_1070 hl (by decide) rfl (fun ls hl => ?_)
    refine lv_aload_n hx hb dL_law_1072 rfl (lv_at hl 4 rfl) ?_
    refine lv_aload_n hx hb dL_law_1073 rfl (lv_at hl 6 rfl) ?_
    refine lv_iload hx hb dL_law_1074 (lv_at hl 1 rfl) ?_
    refine lv_iconst (v := 1) hx hb dL_law_1076 (by decide) ?_
    refine lv_iadd hx hb dL_law_1077 ?_
    refine ax_i (y := 1) (by decide) ?_
    refine va_sld hx hb hX hbl hbA hS (by unfold vp_in; decide) dL_law_1078 ?_
    refine ax_i (y := xs 1) rfl ?_
    have hPc := hP.sub (ws' := [(q_19, .inr (11, [.int 0, .ref ys_23, .ref yp_24, .int 0])), (ys_23, .inr (3, [.int 0, .ref (ta 4), .int 0])), (yp_24, .inr (3, [.int 0, .ref (ta 4), .int 0]))]) [0, 1, 2] rfl
    have hKc := hK.sub (tys' := []) [] rfl
    have hDc := hD.sub (ws' := [(q_19, .inr (11, [.int 0, .ref ys_23, .ref yp_24, .int 0])), (ys_23, .inr (3, [.int 0, .ref (ta 4), .int 0])), (yp_24, .inr (3, [.int 0, .ref (ta 4), .int 0]))]) [0, 1, 2] (by decide) rfl
    have hFc := va_free (wc := [(q_19, .inr (11, [.int 0, .ref ys_23, .ref yp_24, .int 0])), (ys_23, .inr (3, [.int 0, .ref (ta 4), .int 0])), (yp_24, .inr (3, [.int 0, .ref (ta 4), .int 0]))]) hD hS hA [0, 1, 2] rfl
    refine va_calli (va_runV (As := [.int (xs 1)]) (rest := []) ⟨hx, hb, hml, hown, hts⟩ (c_X7_dark_ l dC dI q_19 ys_23 yp_24 sa ta H.size 0 (xs 1)) (cwV 1 hts gl_X7_dark_ rfl rfl rfl (by decide +kernel) ⟨Nat.le_of_ble_eq_true rfl, Nat.le_of_ble_eq_true rfl⟩) ⟨ax_fbW, va_recv hK hP (ci := 11) (q0 := 0) rfl rfl, ax_prW hPc hKc hDc hS hFc hE⟩ rfl rfl hl.1 rfl (lv_room (Nat.le_of_ble_eq_true rfl)) dL_law_1079 ⟨Nat.le_of_ble_eq_true rfl, Nat.le_of_ble_eq_true rfl⟩) hS (fun q _ h9 => hFc q h9) hFc (fun r_251 u_253  t H locs ht hvm hw_252 hB hz1 hk1 hS => ?_)
    obtain ⟨th2_254, rfl⟩ : ∃ z, z = u_253 := ⟨_, rfl⟩
    obtain ⟨hP1, hK1, hD1⟩ := hB
    rw [ht] at hP1
    have hK1 := va_K.moved hvm.symm hK1
    obtain ⟨hP, hD⟩ := va_join (wr := [(q_27, .inl (cA_28, 1, .inr (.inr (.inr (.inl (fun _ => 0)))))), (q_25, .inl (cA_26, 1, .inr (.inl of_243)))]) (w1 := [(q_19, .inr (11, [.int th2_254, .ref ys_23, .ref yp_24, .int 0]))]) hP hD [0, 1, 2] [3, 4] rfl rfl (by decide) (by decide) hk1 hFc hP1 hD1
    have hP : va_P (dC, dI) vwCl [(q_27, .inl (cA_28, 1, .inr (.inr (.inr (.inl (fun _ => 0)))))), (q_25, .inl (cA_26, 1, .inr (.inl of_243))), (q_19, .inr (11, [.int th2_254, .ref ys_23, .ref yp_24, .int 0]))] H := hP
    have hD : va_D A [(q_27, .inl (cA_28, 1, .inr (.inr (.inr (.inl (fun _ => 0)))))), (q_25, .inl (cA_26, 1, .inr (.inl of_243))), (q_19, .inr (11, [.int th2_254, .ref ys_23, .ref yp_24, .int 0]))] := hD
    rcases hw_252 with hw_252 | hw_252
    · exact absurd hw_252.1 hw_241.1
    · have e9 := hw_252.2
      subst e9
      refine lv_istore (lv' := [(7, .int r_251), (6, .int 1), (5, .int 0), (4, .ref q_27), (3, .ref q_25), (2, .ref q_19), (1, .ref q_1), (0, .ref b)]) hx hb dL_law_1082 hl (by decide) rfl (fun ls hl => ?_)
      refine lv_aload_n hx hb dL_law_1084 rfl (lv_at hl 5 rfl) ?_
      have hPc := hP.sub (ws' := [(q_19, .inr (11, [.int 1, .ref ys_23, .ref yp_24, .int 0]))]) [2] rfl
      have hKc := hK.sub (tys' := []) [] rfl
      refine va_calli (va_runV (As := []) (rest := []) ⟨hx, hb, hml, hown, hts⟩ (c_X7_thrown l dC dI q_19 ys_23 yp_24 sa ta 1) (cwV 0 hts gl_X7_thrown rfl rfl rfl (by decide +kernel) ⟨Nat.le_of_ble_eq_true rfl, Nat.le_of_ble_eq_true rfl⟩) ⟨ax_fbR, va_recv hK hP (ci := 11) (q0 := 2) rfl rfl, ax_prR hPc hKc hS hE⟩ rfl rfl hl.1 rfl (lv_room (Nat.le_of_ble_eq_true rfl)) dL_law_1085 ⟨Nat.le_of_ble_eq_true rfl, Nat.le_of_ble_eq_true rfl⟩) hS (fun _ _ h9 => h9.elim) (fun _ h9 => h9.elim) (fun r_255 u_257  t H locs ht hvm hw_256 hB hz1 hk1 hS => ?_)
      have hP := ax_keep hP (fun _ h9 => h9) hk1
      refine ax_i (y := 1) hw_256 ?_
      refine lv_iload hx hb dL_law_1088 (lv_at hl 1 rfl) ?_
      refine lv_icmp_eq (tgt := 1095) hx hb dL_law_1090 (by decide) (fun _ => ?_) (fun h9 => absurd (by decide) h9)
      refine lv_iload hx hb dL_law_1095 (lv_at hl 1 rfl) ?_
      refine lv_if_ne (tgt := 1112) hx hb dL_law_1097 (by decide) (fun _ => ?_) (fun h9 => absurd h9 (by decide))
      refine lv_goto (tgt := 1857) hx hb dL_law_1112 (by decide) ?_
      refine lv_iinc (v := 5) (lv' := [(5, .int 5), (7, .int r_251), (6, .int 1), (4, .ref q_27), (3, .ref q_25), (2, .ref q_19), (1, .ref q_1), (0, .ref b)]) hx hb dL_law_1857 hl (k := 2) rfl (by decide) (by decide) rfl (fun ls hl => ?_)
      refine lv_goto (tgt := 28) hx hb dL_law_1860 (by decide) ?_
      refine lv_iload hx hb dL_law_28 (lv_at hl 0 rfl) ?_
      refine lv_aload_n hx hb dL_law_30 rfl (lv_at hl 7 rfl) ?_
      refine va_slen hx hb hX hbl hbA hS dL_law_31 ?_
      refine ax_i (y := 5) rfl ?_
      refine lv_iconst (v := 5) hx hb dL_law_32 (by decide) ?_
      refine lv_isub hx hb dL_law_33 ?_
      refine ax_i (y := 0) (by decide) ?_
      refine lv_icmp_gt (tgt := 1863) hx hb dL_law_34 (by decide) (fun _ => ?_) (fun h9 => absurd (by decide) h9)
      refine lv_iconst (v := 1) hx hb dL_law_1863 (by decide) ?_
      refine va_forget (fun q hq => by have h9 := hS.2.2 q hq; rw [hAd] at h9; exact h9) ?_
      refine W.widen (k := 600002) (n := 7302232) (Nat.le_of_ble_eq_true rfl) (Nat.le_of_ble_eq_true rfl) ?_
      refine W.base ?_
      exact lw_ret (Drawn.sameBut.refl s.drawn lw_cs) hx hb hr hlocks dL_law_1864

set_option maxHeartbeats 4000000 in
set_option maxRecDepth 100000 in
theorem law_c13 {p : Program} {e : Env} {s : State} {m : MethodId} {below : List Frame} {meth : Method} {c : Code} (l : Launch) (hlt : l.stackTraces = false) {dC : Nat → ClassId} {dI : Nat → Nat → Nat} {b : Nat} {xs : Nat → Int32} (C0 : lw_At p s m meth c b 5 xs) {A : Nat → Prop} (hAd : A = fun q => s.heap.size ≤ q) {sa ta : Nat → Nat} (hE : ax_S sa ta A s s.heap) {q_1 xs_5 xp_6 xl_7 xn_8 xm_9 xr_10 xw_11 xt_12 q_19 ys_23 yp_24 q_25 q_27 : Nat} {cS_13 cP_14 cn_15 cm_16 cw_17 ct_18 cA_26 cA_28 : ClassId} {H : Heap} {locs : List Loc} (hK : va_K (dC, dI) vwCl [(cS_13, .object "Diffractory$Source"), (cP_14, .object "Diffractory$Part"), (cn_15, .long), (cm_16, .long), (cw_17, .long), (ct_18, .long), (cA_26, .long), (cA_28, .double)] s) (hP : va_P (dC, dI) vwCl [(q_1, .inr (8, [.ref xs_5, .ref xp_6, .int 0, .int 0, .ref xl_7, .ref xr_10])), (xs_5, .inl (cS_13, 3, .inr (.inr (.inr (.inr (fun _ => none)))))), (xp_6, .inl (cP_14, 8, .inr (.inr (.inr (.inr (fun _ => none)))))), (xl_7, .inr (4, [.ref xn_8, .ref xm_9])), (xn_8, .inl (cn_15, 64, .inr (.inl (fun _ => 0)))), (xm_9, .inl (cm_16, 64, .inr (.inl (fun _ => 0)))), (xr_10, .inr (6, [.ref xw_11, .ref xt_12])), (xw_11, .inl (cw_17, 8, .inr (.inl (fun _ => 0)))), (xt_12, .inl (ct_18, 8, .inr (.inl (fun _ => 0)))), (q_19, .inr (11, [.int 0, .ref ys_23, .ref yp_24, .int 0])), (ys_23, .inr (3, [.int 0, .ref (ta 4), .int 0])), (yp_24, .inr (3, [.int 0, .ref (ta 4), .int 0])), (q_25, .inl (cA_26, 1, .inr (.inl (fun _ => 0)))), (q_27, .inl (cA_28, 1, .inr (.inr (.inr (.inl (fun _ => 0))))))] H) (hD : va_D A [(q_1, .inr (8, [.ref xs_5, .ref xp_6, .int 0, .int 0, .ref xl_7, .ref xr_10])), (xs_5, .inl (cS_13, 3, .inr (.inr (.inr (.inr (fun _ => none)))))), (xp_6, .inl (cP_14, 8, .inr (.inr (.inr (.inr (fun _ => none)))))), (xl_7, .inr (4, [.ref xn_8, .ref xm_9])), (xn_8, .inl (cn_15, 64, .inr (.inl (fun _ => 0)))), (xm_9, .inl (cm_16, 64, .inr (.inl (fun _ => 0)))), (xr_10, .inr (6, [.ref xw_11, .ref xt_12])), (xw_11, .inl (cw_17, 8, .inr (.inl (fun _ => 0)))), (xt_12, .inl (ct_18, 8, .inr (.inl (fun _ => 0)))), (q_19, .inr (11, [.int 0, .ref ys_23, .ref yp_24, .int 0])), (ys_23, .inr (3, [.int 0, .ref (ta 4), .int 0])), (yp_24, .inr (3, [.int 0, .ref (ta 4), .int 0])), (q_25, .inl (cA_26, 1, .inr (.inl (fun _ => 0)))), (q_27, .inl (cA_28, 1, .inr (.inr (.inr (.inl (fun _ => 0))))))]) (hS : va_S A s.heap H locs) {ls : Array Slot} (hl : lv_has ls 9 [(5, .int 0), (4, .ref q_27), (3, .ref q_25), (2, .ref q_19), (1, .ref q_1), (0, .ref b)]) : W p l e room_1 s m #[Value.ref b] below meth c H locs 14 177 (lw_Z below #[Value.ref b] s) (F0 m 1115 ls []) := by
  obtain ⟨hx, hb, hr, hml, hown, hts, hX, hbl, hlocks, hgv⟩ := C0
  have hA : ∀ q : Nat, s.heap.size ≤ q → A q := fun q h => by rw [hAd]; exact h
  have hbA : ¬ A b := by rw [hAd]; exact Nat.not_le.mpr hbl
  refine lv_aload_n hx hb dL_law_1115 rfl (lv_at hl 4 rfl) ?_
  refine lv_aload_n hx hb dL_law_1116 rfl (lv_at hl 5 rfl) ?_
  refine lv_iload hx hb dL_law_1117 (lv_at hl 0 rfl) ?_
  refine lv_iconst (v := 1) hx hb dL_law_1119 (by decide) ?_
  refine lv_iadd hx hb dL_law_1120 ?_
  refine ax_i (y := 1) (by decide) ?_
  refine va_sld hx hb hX hbl hbA hS (by unfold vp_in; decide) dL_law_1121 ?_
  refine ax_i (y := xs 1) rfl ?_
  refine lv_aload_n hx hb dL_law_1122 rfl (lv_at hl 2 rfl) ?_
  have hPc := hP.sub (ws' := [(q_1, .inr (8, [.ref xs_5, .ref xp_6, .int 0, .int 0, .ref xl_7, .ref xr_10])), (xs_5, .inl (cS_13, 3, .inr (.inr (.inr (.inr (fun _ => none)))))), (xp_6, .inl (cP_14, 8, .inr (.inr (.inr (.inr (fun _ => none)))))), (xl_7, .inr (4, [.ref xn_8, .ref xm_9])), (xn_8, .inl (cn_15, 64, .inr (.inl (fun _ => 0)))), (xm_9, .inl (cm_16, 64, .inr (.inl (fun _ => 0)))), (xr_10, .inr (6, [.ref xw_11, .ref xt_12])), (xw_11, .inl (cw_17, 8, .inr (.inl (fun _ => 0)))), (xt_12, .inl (ct_18, 8, .inr (.inl (fun _ => 0)))), (q_25, .inl (cA_26, 1, .inr (.inl (fun _ => 0))))]) [0, 1, 2, 3, 4, 5, 6, 7, 8, 12] rfl
  have hKc := hK.sub (tys' := [(cS_13, .object "Diffractory$Source"), (cP_14, .object "Diffractory$Part"), (cn_15, .long), (cm_16, .long), (cw_17, .long), (ct_18, .long), (cA_26, .long)]) [0, 1, 2, 3, 4, 5, 6] rfl
  have hDc := hD.sub (ws' := [(q_1, .inr (8, [.ref xs_5, .ref xp_6, .int 0, .int 0, .ref xl_7, .ref xr_10])), (xs_5, .inl (cS_13, 3, .inr (.inr (.inr (.inr (fun _ => none)))))), (xp_6, .inl (cP_14, 8, .inr (.inr (.inr (.inr (fun _ => none)))))), (xl_7, .inr (4, [.ref xn_8, .ref xm_9])), (xn_8, .inl (cn_15, 64, .inr (.inl (fun _ => 0)))), (xm_9, .inl (cm_16, 64, .inr (.inl (fun _ => 0)))), (xr_10, .inr (6, [.ref xw_11, .ref xt_12])), (xw_11, .inl (cw_17, 8, .inr (.inl (fun _ => 0)))), (xt_12, .inl (ct_18, 8, .inr (.inl (fun _ => 0)))), (q_25, .inl (cA_26, 1, .inr (.inl (fun _ => 0))))]) [0, 1, 2, 3, 4, 5, 6, 7, 8, 12] (by decide) rfl
  have hFc := va_free (wc := [(q_1, .inr (8, [.ref xs_5, .ref xp_6, .int 0, .int 0, .ref xl_7, .ref xr_10])), (xs_5, .inl (cS_13, 3, .inr (.inr (.inr (.inr (fun _ => none)))))), (xp_6, .inl (cP_14, 8, .inr (.inr (.inr (.inr (fun _ => none)))))), (xl_7, .inr (4, [.ref xn_8, .ref xm_9])), (xn_8, .inl (cn_15, 64, .inr (.inl (fun _ => 0)))), (xm_9, .inl (cm_16, 64, .inr (.inl (fun _ => 0)))), (xr_10, .inr (6, [.ref xw_11, .ref xt_12])), (xw_11, .inl (cw_17, 8, .inr (.inl (fun _ => 0)))), (xt_12, .inl (ct_18, 8, .inr (.inl (fun _ => 0)))), (q_25, .inl (cA_26, 1, .inr (.inl (fun _ => 0))))]) hD hS hA [0, 1, 2, 3, 4, 5, 6, 7, 8, 12] rfl
  refine va_calli (vx_runSW (As := [.ref q_1, .int (xs 1), .ref q_25]) (rest := []) ⟨hx, hb, hml, hown, hts⟩ (c_L_period l hlt dC dI q_1 xs_5 xp_6 xl_7 xn_8 xm_9 xr_10 xw_11 xt_12 q_25 cS_13 cP_14 cn_15 cm_16 cw_17 ct_18 cA_26 sa ta H.size (xs 1)) (vx_cwSW 3 hts gl_L_period rfl rfl rfl (by decide +kernel) ⟨Nat.le_of_ble_eq_true rfl, Nat.le_of_ble_eq_true rfl⟩) ⟨ax_fbW, ax_prW hPc hKc hDc hS hFc hE⟩ rfl rfl hl.1 rfl (lv_room (Nat.le_of_ble_eq_true rfl)) dL_law_1123 ⟨Nat.le_of_ble_eq_true rfl, Nat.le_of_ble_eq_true rfl⟩) hS (fun q _ h9 => hFc q h9) hFc (fun r_258 u_260  t H locs ht hvm hw_259 hB hz1 hk1 hS => ?_)
  obtain ⟨of_261, rfl⟩ : ∃ z, z = u_260 := ⟨_, rfl⟩
  obtain ⟨hP1, hK1, hD1⟩ := hB
  rw [ht] at hP1
  have hK1 := va_K.moved hvm.symm hK1
  obtain ⟨hP, hD⟩ := va_join (wr := [(q_19, .inr (11, [.int 0, .ref ys_23, .ref yp_24, .int 0])), (ys_23, .inr (3, [.int 0, .ref (ta 4), .int 0])), (yp_24, .inr (3, [.int 0, .ref (ta 4), .int 0])), (q_27, .inl (cA_28, 1, .inr (.inr (.inr (.inl (fun _ => 0))))))]) (w1 := [(q_25, .inl (cA_26, 1, .inr (.inl of_261)))]) hP hD [0, 1, 2, 3, 4, 5, 6, 7, 8, 12] [9, 10, 11, 13] rfl rfl (by decide) (by decide) hk1 hFc hP1 hD1
  have hP : va_P (dC, dI) vwCl [(q_19, .inr (11, [.int 0, .ref ys_23, .ref yp_24, .int 0])), (ys_23, .inr (3, [.int 0, .ref (ta 4), .int 0])), (yp_24, .inr (3, [.int 0, .ref (ta 4), .int 0])), (q_27, .inl (cA_28, 1, .inr (.inr (.inr (.inl (fun _ => 0)))))), (q_25, .inl (cA_26, 1, .inr (.inl of_261)))] H := hP
  have hD : va_D A [(q_19, .inr (11, [.int 0, .ref ys_23, .ref yp_24, .int 0])), (ys_23, .inr (3, [.int 0, .ref (ta 4), .int 0])), (yp_24, .inr (3, [.int 0, .ref (ta 4), .int 0])), (q_27, .inl (cA_28, 1, .inr (.inr (.inr (.inl (fun _ => 0)))))), (q_25, .inl (cA_26, 1, .inr (.inl of_261)))] := hD
  rcases hw_259 with hw_259 | hw_259
  · refine ax_i (y := 0) hw_259.2.1 ?_
    refine lv_istore (lv' := [(6, .int 0), (5, .int 0), (4, .ref q_27), (3, .ref q_25), (2, .ref q_19), (1, .ref q_1), (0, .ref b)]) hx hb dL_law_1126 hl (by decide) rfl (fun ls hl => ?_)
    refine lv_aload_n hx hb dL_law_1128 rfl (lv_at hl 4 rfl) ?_
    refine lv_aload_n hx hb dL_law_1129 rfl (lv_at hl 6 rfl) ?_
    refine lv_iload hx hb dL_law_1130 (lv_at hl 1 rfl) ?_
    refine lv_iconst (v := 1) hx hb dL_law_1132 (by decide) ?_
    refine lv_iadd hx hb dL_law_1133 ?_
    refine ax_i (y := 1) (by decide) ?_
    refine va_sld hx hb hX hbl hbA hS (by unfold vp_in; decide) dL_law_1134 ?_
    refine ax_i (y := xs 1) rfl ?_
    have hPc := hP.sub (ws' := [(q_19, .inr (11, [.int 0, .ref ys_23, .ref yp_24, .int 0])), (ys_23, .inr (3, [.int 0, .ref (ta 4), .int 0])), (yp_24, .inr (3, [.int 0, .ref (ta 4), .int 0]))]) [0, 1, 2] rfl
    have hKc := hK.sub (tys' := []) [] rfl
    have hDc := hD.sub (ws' := [(q_19, .inr (11, [.int 0, .ref ys_23, .ref yp_24, .int 0])), (ys_23, .inr (3, [.int 0, .ref (ta 4), .int 0])), (yp_24, .inr (3, [.int 0, .ref (ta 4), .int 0]))]) [0, 1, 2] (by decide) rfl
    have hFc := va_free (wc := [(q_19, .inr (11, [.int 0, .ref ys_23, .ref yp_24, .int 0])), (ys_23, .inr (3, [.int 0, .ref (ta 4), .int 0])), (yp_24, .inr (3, [.int 0, .ref (ta 4), .int 0]))]) hD hS hA [0, 1, 2] rfl
    refine va_calli (va_runV (As := [.int (xs 1)]) (rest := []) ⟨hx, hb, hml, hown, hts⟩ (c_X7_period_ l dC dI q_19 ys_23 yp_24 sa ta H.size 0 (xs 1)) (cwV 1 hts gl_X7_period_ rfl rfl rfl (by decide +kernel) ⟨Nat.le_of_ble_eq_true rfl, Nat.le_of_ble_eq_true rfl⟩) ⟨ax_fbW, va_recv hK hP (ci := 11) (q0 := 0) rfl rfl, ax_prW hPc hKc hDc hS hFc hE⟩ rfl rfl hl.1 rfl (lv_room (Nat.le_of_ble_eq_true rfl)) dL_law_1135 ⟨Nat.le_of_ble_eq_true rfl, Nat.le_of_ble_eq_true rfl⟩) hS (fun q _ h9 => hFc q h9) hFc (fun r_262 u_264  t H locs ht hvm hw_263 hB hz1 hk1 hS => ?_)
    obtain ⟨th2_265, rfl⟩ : ∃ z, z = u_264 := ⟨_, rfl⟩
    obtain ⟨hP1, hK1, hD1⟩ := hB
    rw [ht] at hP1
    have hK1 := va_K.moved hvm.symm hK1
    obtain ⟨hP, hD⟩ := va_join (wr := [(q_27, .inl (cA_28, 1, .inr (.inr (.inr (.inl (fun _ => 0)))))), (q_25, .inl (cA_26, 1, .inr (.inl of_261)))]) (w1 := [(q_19, .inr (11, [.int th2_265, .ref ys_23, .ref yp_24, .int 0]))]) hP hD [0, 1, 2] [3, 4] rfl rfl (by decide) (by decide) hk1 hFc hP1 hD1
    have hP : va_P (dC, dI) vwCl [(q_27, .inl (cA_28, 1, .inr (.inr (.inr (.inl (fun _ => 0)))))), (q_25, .inl (cA_26, 1, .inr (.inl of_261))), (q_19, .inr (11, [.int th2_265, .ref ys_23, .ref yp_24, .int 0]))] H := hP
    have hD : va_D A [(q_27, .inl (cA_28, 1, .inr (.inr (.inr (.inl (fun _ => 0)))))), (q_25, .inl (cA_26, 1, .inr (.inl of_261))), (q_19, .inr (11, [.int th2_265, .ref ys_23, .ref yp_24, .int 0]))] := hD
    rcases hw_263 with hw_263 | hw_263
    · have e9 := hw_263.2.1
      subst e9
      refine ax_i (y := 1) hw_263.2.2 ?_
      refine lv_istore (lv' := [(7, .int 1), (6, .int 0), (5, .int 0), (4, .ref q_27), (3, .ref q_25), (2, .ref q_19), (1, .ref q_1), (0, .ref b)]) hx hb dL_law_1138 hl (by decide) rfl (fun ls hl => ?_)
      refine lv_aload_n hx hb dL_law_1140 rfl (lv_at hl 5 rfl) ?_
      have hPc := hP.sub (ws' := [(q_19, .inr (11, [.int 0, .ref ys_23, .ref yp_24, .int 0]))]) [2] rfl
      have hKc := hK.sub (tys' := []) [] rfl
      refine va_calli (va_runV (As := []) (rest := []) ⟨hx, hb, hml, hown, hts⟩ (c_X7_thrown l dC dI q_19 ys_23 yp_24 sa ta 0) (cwV 0 hts gl_X7_thrown rfl rfl rfl (by decide +kernel) ⟨Nat.le_of_ble_eq_true rfl, Nat.le_of_ble_eq_true rfl⟩) ⟨ax_fbR, va_recv hK hP (ci := 11) (q0 := 2) rfl rfl, ax_prR hPc hKc hS hE⟩ rfl rfl hl.1 rfl (lv_room (Nat.le_of_ble_eq_true rfl)) dL_law_1141 ⟨Nat.le_of_ble_eq_true rfl, Nat.le_of_ble_eq_true rfl⟩) hS (fun _ _ h9 => h9.elim) (fun _ h9 => h9.elim) (fun r_266 u_268  t H locs ht hvm hw_267 hB hz1 hk1 hS => ?_)
      have hP := ax_keep hP (fun _ h9 => h9) hk1
      refine ax_i (y := 0) hw_267 ?_
      refine lv_iload hx hb dL_law_1144 (lv_at hl 1 rfl) ?_
      refine lv_icmp_eq (tgt := 1151) hx hb dL_law_1146 (by decide) (fun _ => ?_) (fun h9 => absurd (by decide) h9)
      refine lv_iload hx hb dL_law_1151 (lv_at hl 1 rfl) ?_
      refine lv_if_ne (tgt := 1168) hx hb dL_law_1153 (by decide) (fun h9 => absurd rfl h9) (fun _ => ?_)
      refine lv_aload_n hx hb dL_law_1156 rfl (lv_at hl 4 rfl) ?_
      refine lv_iconst (v := 0) hx hb dL_law_1157 (by decide) ?_
      refine va_lald hx hb hK hP 1 6 rfl rfl (by unfold vp_in; decide) dL_law_1158 ?_
      refine ax_l (y := 1) hw_259.2.2 ?_
      refine lv_iload hx hb dL_law_1159 (lv_at hl 0 rfl) ?_
      refine lv_i2l (v := 1) hx hb dL_law_1161 (by decide) ?_
      refine W.lcmp hx hb dL_law_1162 ?_
      refine ax_i (y := 0) (by decide) ?_
      refine lv_if_eq (tgt := 1168) hx hb dL_law_1163 (by decide) (fun _ => ?_) (fun h9 => absurd (by decide) h9)
      refine lv_goto (tgt := 1857) hx hb dL_law_1168 (by decide) ?_
      refine lv_iinc (v := 5) (lv' := [(5, .int 5), (7, .int 1), (6, .int 0), (4, .ref q_27), (3, .ref q_25), (2, .ref q_19), (1, .ref q_1), (0, .ref b)]) hx hb dL_law_1857 hl (k := 2) rfl (by decide) (by decide) rfl (fun ls hl => ?_)
      refine lv_goto (tgt := 28) hx hb dL_law_1860 (by decide) ?_
      refine lv_iload hx hb dL_law_28 (lv_at hl 0 rfl) ?_
      refine lv_aload_n hx hb dL_law_30 rfl (lv_at hl 7 rfl) ?_
      refine va_slen hx hb hX hbl hbA hS dL_law_31 ?_
      refine ax_i (y := 5) rfl ?_
      refine lv_iconst (v := 5) hx hb dL_law_32 (by decide) ?_
      refine lv_isub hx hb dL_law_33 ?_
      refine ax_i (y := 0) (by decide) ?_
      refine lv_icmp_gt (tgt := 1863) hx hb dL_law_34 (by decide) (fun _ => ?_) (fun h9 => absurd (by decide) h9)
      refine lv_iconst (v := 1) hx hb dL_law_1863 (by decide) ?_
      refine va_forget (fun q hq => by have h9 := hS.2.2 q hq; rw [hAd] at h9; exact h9) ?_
      refine W.widen (k := 600002) (n := 7302232) (Nat.le_of_ble_eq_true rfl) (Nat.le_of_ble_eq_true rfl) ?_
      refine W.base ?_
      exact lw_ret (Drawn.sameBut.refl s.drawn lw_cs) hx hb hr hlocks dL_law_1864
    · exact absurd hw_259.1 hw_263.1
  · refine ax_i (y := 1) hw_259.2 ?_
    refine lv_istore (lv' := [(6, .int 1), (5, .int 0), (4, .ref q_27), (3, .ref q_25), (2, .ref q_19), (1, .ref q_1), (0, .ref b)]) hx hb dL_law_1126 hl (by decide) rfl (fun ls hl => ?_)
    refine lv_aload_n hx hb dL_law_1128 rfl (lv_at hl 4 rfl) ?_
    refine lv_aload_n hx hb dL_law_1129 rfl (lv_at hl 6 rfl) ?_
    refine lv_iload hx hb dL_law_1130 (lv_at hl 1 rfl) ?_
    refine lv_iconst (v := 1) hx hb dL_law_1132 (by decide) ?_
    refine lv_iadd hx hb dL_law_1133 ?_
    refine ax_i (y := 1) (by decide) ?_
    refine va_sld hx hb hX hbl hbA hS (by unfold vp_in; decide) dL_law_1134 ?_
    refine ax_i (y := xs 1) rfl ?_
    have hPc := hP.sub (ws' := [(q_19, .inr (11, [.int 0, .ref ys_23, .ref yp_24, .int 0])), (ys_23, .inr (3, [.int 0, .ref (ta 4), .int 0])), (yp_24, .inr (3, [.int 0, .ref (ta 4), .int 0]))]) [0, 1, 2] rfl
    have hKc := hK.sub (tys' := []) [] rfl
    have hDc := hD.sub (ws' := [(q_19, .inr (11, [.int 0, .ref ys_23, .ref yp_24, .int 0])), (ys_23, .inr (3, [.int 0, .ref (ta 4), .int 0])), (yp_24, .inr (3, [.int 0, .ref (ta 4), .int 0]))]) [0, 1, 2] (by decide) rfl
    have hFc := va_free (wc := [(q_19, .inr (11, [.int 0, .ref ys_23, .ref yp_24, .int 0])), (ys_23, .inr (3, [.int 0, .ref (ta 4), .int 0])), (yp_24, .inr (3, [.int 0, .ref (ta 4), .int 0]))]) hD hS hA [0, 1, 2] rfl
    refine va_calli (va_runV (As := [.int (xs 1)]) (rest := []) ⟨hx, hb, hml, hown, hts⟩ (c_X7_period_ l dC dI q_19 ys_23 yp_24 sa ta H.size 0 (xs 1)) (cwV 1 hts gl_X7_period_ rfl rfl rfl (by decide +kernel) ⟨Nat.le_of_ble_eq_true rfl, Nat.le_of_ble_eq_true rfl⟩) ⟨ax_fbW, va_recv hK hP (ci := 11) (q0 := 0) rfl rfl, ax_prW hPc hKc hDc hS hFc hE⟩ rfl rfl hl.1 rfl (lv_room (Nat.le_of_ble_eq_true rfl)) dL_law_1135 ⟨Nat.le_of_ble_eq_true rfl, Nat.le_of_ble_eq_true rfl⟩) hS (fun q _ h9 => hFc q h9) hFc (fun r_269 u_271  t H locs ht hvm hw_270 hB hz1 hk1 hS => ?_)
    obtain ⟨th2_272, rfl⟩ : ∃ z, z = u_271 := ⟨_, rfl⟩
    obtain ⟨hP1, hK1, hD1⟩ := hB
    rw [ht] at hP1
    have hK1 := va_K.moved hvm.symm hK1
    obtain ⟨hP, hD⟩ := va_join (wr := [(q_27, .inl (cA_28, 1, .inr (.inr (.inr (.inl (fun _ => 0)))))), (q_25, .inl (cA_26, 1, .inr (.inl of_261)))]) (w1 := [(q_19, .inr (11, [.int th2_272, .ref ys_23, .ref yp_24, .int 0]))]) hP hD [0, 1, 2] [3, 4] rfl rfl (by decide) (by decide) hk1 hFc hP1 hD1
    have hP : va_P (dC, dI) vwCl [(q_27, .inl (cA_28, 1, .inr (.inr (.inr (.inl (fun _ => 0)))))), (q_25, .inl (cA_26, 1, .inr (.inl of_261))), (q_19, .inr (11, [.int th2_272, .ref ys_23, .ref yp_24, .int 0]))] H := hP
    have hD : va_D A [(q_27, .inl (cA_28, 1, .inr (.inr (.inr (.inl (fun _ => 0)))))), (q_25, .inl (cA_26, 1, .inr (.inl of_261))), (q_19, .inr (11, [.int th2_272, .ref ys_23, .ref yp_24, .int 0]))] := hD
    rcases hw_270 with hw_270 | hw_270
    · exact absurd hw_270.1 hw_259.1
    · have e9 := hw_270.2
      subst e9
      refine lv_istore (lv' := [(7, .int r_269), (6, .int 1), (5, .int 0), (4, .ref q_27), (3, .ref q_25), (2, .ref q_19), (1, .ref q_1), (0, .ref b)]) hx hb dL_law_1138 hl (by decide) rfl (fun ls hl => ?_)
      refine lv_aload_n hx hb dL_law_1140 rfl (lv_at hl 5 rfl) ?_
      have hPc := hP.sub (ws' := [(q_19, .inr (11, [.int 1, .ref ys_23, .ref yp_24, .int 0]))]) [2] rfl
      have hKc := hK.sub (tys' := []) [] rfl
      refine va_calli (va_runV (As := []) (rest := []) ⟨hx, hb, hml, hown, hts⟩ (c_X7_thrown l dC dI q_19 ys_23 yp_24 sa ta 1) (cwV 0 hts gl_X7_thrown rfl rfl rfl (by decide +kernel) ⟨Nat.le_of_ble_eq_true rfl, Nat.le_of_ble_eq_true rfl⟩) ⟨ax_fbR, va_recv hK hP (ci := 11) (q0 := 2) rfl rfl, ax_prR hPc hKc hS hE⟩ rfl rfl hl.1 rfl (lv_room (Nat.le_of_ble_eq_true rfl)) dL_law_1141 ⟨Nat.le_of_ble_eq_true rfl, Nat.le_of_ble_eq_true rfl⟩) hS (fun _ _ h9 => h9.elim) (fun _ h9 => h9.elim) (fun r_273 u_275  t H locs ht hvm hw_274 hB hz1 hk1 hS => ?_)
      have hP := ax_keep hP (fun _ h9 => h9) hk1
      refine ax_i (y := 1) hw_274 ?_
      refine lv_iload hx hb dL_law_1144 (lv_at hl 1 rfl) ?_
      refine lv_icmp_eq (tgt := 1151) hx hb dL_law_1146 (by decide) (fun _ => ?_) (fun h9 => absurd (by decide) h9)
      refine lv_iload hx hb dL_law_1151 (lv_at hl 1 rfl) ?_
      refine lv_if_ne (tgt := 1168) hx hb dL_law_1153 (by decide) (fun _ => ?_) (fun h9 => absurd h9 (by decide))
      refine lv_goto (tgt := 1857) hx hb dL_law_1168 (by decide) ?_
      refine lv_iinc (v := 5) (lv' := [(5, .int 5), (7, .int r_269), (6, .int 1), (4, .ref q_27), (3, .ref q_25), (2, .ref q_19), (1, .ref q_1), (0, .ref b)]) hx hb dL_law_1857 hl (k := 2) rfl (by decide) (by decide) rfl (fun ls hl => ?_)
      refine lv_goto (tgt := 28) hx hb dL_law_1860 (by decide) ?_
      refine lv_iload hx hb dL_law_28 (lv_at hl 0 rfl) ?_
      refine lv_aload_n hx hb dL_law_30 rfl (lv_at hl 7 rfl) ?_
      refine va_slen hx hb hX hbl hbA hS dL_law_31 ?_
      refine ax_i (y := 5) rfl ?_
      refine lv_iconst (v := 5) hx hb dL_law_32 (by decide) ?_
      refine lv_isub hx hb dL_law_33 ?_
      refine ax_i (y := 0) (by decide) ?_
      refine lv_icmp_gt (tgt := 1863) hx hb dL_law_34 (by decide) (fun _ => ?_) (fun h9 => absurd (by decide) h9)
      refine lv_iconst (v := 1) hx hb dL_law_1863 (by decide) ?_
      refine va_forget (fun q hq => by have h9 := hS.2.2 q hq; rw [hAd] at h9; exact h9) ?_
      refine W.widen (k := 600002) (n := 7302232) (Nat.le_of_ble_eq_true rfl) (Nat.le_of_ble_eq_true rfl) ?_
      refine W.base ?_
      exact lw_ret (Drawn.sameBut.refl s.drawn lw_cs) hx hb hr hlocks dL_law_1864

set_option maxHeartbeats 4000000 in
set_option maxRecDepth 100000 in
theorem law_c14 {p : Program} {e : Env} {s : State} {m : MethodId} {below : List Frame} {meth : Method} {c : Code} (l : Launch) (hlt : l.stackTraces = false) {dC : Nat → ClassId} {dI : Nat → Nat → Nat} {b : Nat} {xs : Nat → Int32} (C0 : lw_At p s m meth c b 5 xs) {A : Nat → Prop} (hAd : A = fun q => s.heap.size ≤ q) {sa ta : Nat → Nat} (hE : ax_S sa ta A s s.heap) {q_1 xs_5 xp_6 xl_7 xn_8 xm_9 xr_10 xw_11 xt_12 q_19 ys_23 yp_24 q_25 q_27 : Nat} {cS_13 cP_14 cn_15 cm_16 cw_17 ct_18 cA_26 cA_28 : ClassId} {H : Heap} {locs : List Loc} (hK : va_K (dC, dI) vwCl [(cS_13, .object "Diffractory$Source"), (cP_14, .object "Diffractory$Part"), (cn_15, .long), (cm_16, .long), (cw_17, .long), (ct_18, .long), (cA_26, .long), (cA_28, .double)] s) (hP : va_P (dC, dI) vwCl [(q_1, .inr (8, [.ref xs_5, .ref xp_6, .int 0, .int 0, .ref xl_7, .ref xr_10])), (xs_5, .inl (cS_13, 3, .inr (.inr (.inr (.inr (fun _ => none)))))), (xp_6, .inl (cP_14, 8, .inr (.inr (.inr (.inr (fun _ => none)))))), (xl_7, .inr (4, [.ref xn_8, .ref xm_9])), (xn_8, .inl (cn_15, 64, .inr (.inl (fun _ => 0)))), (xm_9, .inl (cm_16, 64, .inr (.inl (fun _ => 0)))), (xr_10, .inr (6, [.ref xw_11, .ref xt_12])), (xw_11, .inl (cw_17, 8, .inr (.inl (fun _ => 0)))), (xt_12, .inl (ct_18, 8, .inr (.inl (fun _ => 0)))), (q_19, .inr (11, [.int 0, .ref ys_23, .ref yp_24, .int 0])), (ys_23, .inr (3, [.int 0, .ref (ta 4), .int 0])), (yp_24, .inr (3, [.int 0, .ref (ta 4), .int 0])), (q_25, .inl (cA_26, 1, .inr (.inl (fun _ => 0)))), (q_27, .inl (cA_28, 1, .inr (.inr (.inr (.inl (fun _ => 0))))))] H) (hD : va_D A [(q_1, .inr (8, [.ref xs_5, .ref xp_6, .int 0, .int 0, .ref xl_7, .ref xr_10])), (xs_5, .inl (cS_13, 3, .inr (.inr (.inr (.inr (fun _ => none)))))), (xp_6, .inl (cP_14, 8, .inr (.inr (.inr (.inr (fun _ => none)))))), (xl_7, .inr (4, [.ref xn_8, .ref xm_9])), (xn_8, .inl (cn_15, 64, .inr (.inl (fun _ => 0)))), (xm_9, .inl (cm_16, 64, .inr (.inl (fun _ => 0)))), (xr_10, .inr (6, [.ref xw_11, .ref xt_12])), (xw_11, .inl (cw_17, 8, .inr (.inl (fun _ => 0)))), (xt_12, .inl (ct_18, 8, .inr (.inl (fun _ => 0)))), (q_19, .inr (11, [.int 0, .ref ys_23, .ref yp_24, .int 0])), (ys_23, .inr (3, [.int 0, .ref (ta 4), .int 0])), (yp_24, .inr (3, [.int 0, .ref (ta 4), .int 0])), (q_25, .inl (cA_26, 1, .inr (.inl (fun _ => 0)))), (q_27, .inl (cA_28, 1, .inr (.inr (.inr (.inl (fun _ => 0))))))]) (hS : va_S A s.heap H locs) {ls : Array Slot} (hl : lv_has ls 9 [(5, .int 0), (4, .ref q_27), (3, .ref q_25), (2, .ref q_19), (1, .ref q_1), (0, .ref b)]) : W p l e room_1 s m #[Value.ref b] below meth c H locs 14 177 (lw_Z below #[Value.ref b] s) (F0 m 1171 ls []) := by
  obtain ⟨hx, hb, hr, hml, hown, hts, hX, hbl, hlocks, hgv⟩ := C0
  have hA : ∀ q : Nat, s.heap.size ≤ q → A q := fun q h => by rw [hAd]; exact h
  have hbA : ¬ A b := by rw [hAd]; exact Nat.not_le.mpr hbl
  refine lv_aload_n hx hb dL_law_1171 rfl (lv_at hl 4 rfl) ?_
  refine lv_aload_n hx hb dL_law_1172 rfl (lv_at hl 5 rfl) ?_
  refine lv_iload hx hb dL_law_1173 (lv_at hl 0 rfl) ?_
  refine lv_iconst (v := 1) hx hb dL_law_1175 (by decide) ?_
  refine lv_iadd hx hb dL_law_1176 ?_
  refine ax_i (y := 1) (by decide) ?_
  refine va_sld hx hb hX hbl hbA hS (by unfold vp_in; decide) dL_law_1177 ?_
  refine ax_i (y := xs 1) rfl ?_
  refine lv_aload hx hb dL_law_1178 (lv_at hl 1 rfl) ?_
  have hPc := hP.sub (ws' := [(q_1, .inr (8, [.ref xs_5, .ref xp_6, .int 0, .int 0, .ref xl_7, .ref xr_10])), (xs_5, .inl (cS_13, 3, .inr (.inr (.inr (.inr (fun _ => none)))))), (xp_6, .inl (cP_14, 8, .inr (.inr (.inr (.inr (fun _ => none)))))), (xl_7, .inr (4, [.ref xn_8, .ref xm_9])), (xn_8, .inl (cn_15, 64, .inr (.inl (fun _ => 0)))), (xm_9, .inl (cm_16, 64, .inr (.inl (fun _ => 0)))), (xr_10, .inr (6, [.ref xw_11, .ref xt_12])), (xw_11, .inl (cw_17, 8, .inr (.inl (fun _ => 0)))), (xt_12, .inl (ct_18, 8, .inr (.inl (fun _ => 0)))), (q_27, .inl (cA_28, 1, .inr (.inr (.inr (.inl (fun _ => 0))))))]) [0, 1, 2, 3, 4, 5, 6, 7, 8, 13] rfl
  have hKc := hK.sub (tys' := [(cS_13, .object "Diffractory$Source"), (cP_14, .object "Diffractory$Part"), (cn_15, .long), (cm_16, .long), (cw_17, .long), (ct_18, .long), (cA_28, .double)]) [0, 1, 2, 3, 4, 5, 7] rfl
  have hDc := hD.sub (ws' := [(q_1, .inr (8, [.ref xs_5, .ref xp_6, .int 0, .int 0, .ref xl_7, .ref xr_10])), (xs_5, .inl (cS_13, 3, .inr (.inr (.inr (.inr (fun _ => none)))))), (xp_6, .inl (cP_14, 8, .inr (.inr (.inr (.inr (fun _ => none)))))), (xl_7, .inr (4, [.ref xn_8, .ref xm_9])), (xn_8, .inl (cn_15, 64, .inr (.inl (fun _ => 0)))), (xm_9, .inl (cm_16, 64, .inr (.inl (fun _ => 0)))), (xr_10, .inr (6, [.ref xw_11, .ref xt_12])), (xw_11, .inl (cw_17, 8, .inr (.inl (fun _ => 0)))), (xt_12, .inl (ct_18, 8, .inr (.inl (fun _ => 0)))), (q_27, .inl (cA_28, 1, .inr (.inr (.inr (.inl (fun _ => 0))))))]) [0, 1, 2, 3, 4, 5, 6, 7, 8, 13] (by decide) rfl
  have hFc := va_free (wc := [(q_1, .inr (8, [.ref xs_5, .ref xp_6, .int 0, .int 0, .ref xl_7, .ref xr_10])), (xs_5, .inl (cS_13, 3, .inr (.inr (.inr (.inr (fun _ => none)))))), (xp_6, .inl (cP_14, 8, .inr (.inr (.inr (.inr (fun _ => none)))))), (xl_7, .inr (4, [.ref xn_8, .ref xm_9])), (xn_8, .inl (cn_15, 64, .inr (.inl (fun _ => 0)))), (xm_9, .inl (cm_16, 64, .inr (.inl (fun _ => 0)))), (xr_10, .inr (6, [.ref xw_11, .ref xt_12])), (xw_11, .inl (cw_17, 8, .inr (.inl (fun _ => 0)))), (xt_12, .inl (ct_18, 8, .inr (.inl (fun _ => 0)))), (q_27, .inl (cA_28, 1, .inr (.inr (.inr (.inl (fun _ => 0))))))]) hD hS hA [0, 1, 2, 3, 4, 5, 6, 7, 8, 13] rfl
  refine va_calli (vx_runSW (As := [.ref q_1, .int (xs 1), .ref q_27]) (rest := []) ⟨hx, hb, hml, hown, hts⟩ (c_L_clear l hlt dC dI q_1 xs_5 xp_6 xl_7 xn_8 xm_9 xr_10 xw_11 xt_12 q_27 cS_13 cP_14 cn_15 cm_16 cw_17 ct_18 cA_28 sa ta H.size (xs 1)) (vx_cwSW 3 hts gl_L_clear rfl rfl rfl (by decide +kernel) ⟨Nat.le_of_ble_eq_true rfl, Nat.le_of_ble_eq_true rfl⟩) ⟨ax_fbW, ax_prW hPc hKc hDc hS hFc hE⟩ rfl rfl hl.1 rfl (lv_room (Nat.le_of_ble_eq_true rfl)) dL_law_1180 ⟨Nat.le_of_ble_eq_true rfl, Nat.le_of_ble_eq_true rfl⟩) hS (fun q _ h9 => hFc q h9) hFc (fun r_276 u_278  t H locs ht hvm hw_277 hB hz1 hk1 hS => ?_)
  obtain ⟨of_279, rfl⟩ : ∃ z, z = u_278 := ⟨_, rfl⟩
  obtain ⟨hP1, hK1, hD1⟩ := hB
  rw [ht] at hP1
  have hK1 := va_K.moved hvm.symm hK1
  obtain ⟨hP, hD⟩ := va_join (wr := [(q_19, .inr (11, [.int 0, .ref ys_23, .ref yp_24, .int 0])), (ys_23, .inr (3, [.int 0, .ref (ta 4), .int 0])), (yp_24, .inr (3, [.int 0, .ref (ta 4), .int 0])), (q_25, .inl (cA_26, 1, .inr (.inl (fun _ => 0))))]) (w1 := [(q_27, .inl (cA_28, 1, .inr (.inr (.inr (.inl of_279)))))]) hP hD [0, 1, 2, 3, 4, 5, 6, 7, 8, 13] [9, 10, 11, 12] rfl rfl (by decide) (by decide) hk1 hFc hP1 hD1
  have hP : va_P (dC, dI) vwCl [(q_19, .inr (11, [.int 0, .ref ys_23, .ref yp_24, .int 0])), (ys_23, .inr (3, [.int 0, .ref (ta 4), .int 0])), (yp_24, .inr (3, [.int 0, .ref (ta 4), .int 0])), (q_25, .inl (cA_26, 1, .inr (.inl (fun _ => 0)))), (q_27, .inl (cA_28, 1, .inr (.inr (.inr (.inl of_279)))))] H := hP
  have hD : va_D A [(q_19, .inr (11, [.int 0, .ref ys_23, .ref yp_24, .int 0])), (ys_23, .inr (3, [.int 0, .ref (ta 4), .int 0])), (yp_24, .inr (3, [.int 0, .ref (ta 4), .int 0])), (q_25, .inl (cA_26, 1, .inr (.inl (fun _ => 0)))), (q_27, .inl (cA_28, 1, .inr (.inr (.inr (.inl of_279)))))] := hD
  rcases hw_277 with hw_277 | hw_277
  · refine ax_i (y := 0) hw_277.2.1 ?_
    refine lv_istore (lv' := [(6, .int 0), (5, .int 0), (4, .ref q_27), (3, .ref q_25), (2, .ref q_19), (1, .ref q_1), (0, .ref b)]) hx hb dL_law_1183 hl (by decide) rfl (fun ls hl => ?_)
    refine lv_aload_n hx hb dL_law_1185 rfl (lv_at hl 4 rfl) ?_
    refine lv_aload_n hx hb dL_law_1186 rfl (lv_at hl 6 rfl) ?_
    refine lv_iload hx hb dL_law_1187 (lv_at hl 1 rfl) ?_
    refine lv_iconst (v := 1) hx hb dL_law_1189 (by decide) ?_
    refine lv_iadd hx hb dL_law_1190 ?_
    refine ax_i (y := 1) (by decide) ?_
    refine va_sld hx hb hX hbl hbA hS (by unfold vp_in; decide) dL_law_1191 ?_
    refine ax_i (y := xs 1) rfl ?_
    have hPc := hP.sub (ws' := [(q_19, .inr (11, [.int 0, .ref ys_23, .ref yp_24, .int 0])), (ys_23, .inr (3, [.int 0, .ref (ta 4), .int 0])), (yp_24, .inr (3, [.int 0, .ref (ta 4), .int 0]))]) [0, 1, 2] rfl
    have hKc := hK.sub (tys' := []) [] rfl
    have hDc := hD.sub (ws' := [(q_19, .inr (11, [.int 0, .ref ys_23, .ref yp_24, .int 0])), (ys_23, .inr (3, [.int 0, .ref (ta 4), .int 0])), (yp_24, .inr (3, [.int 0, .ref (ta 4), .int 0]))]) [0, 1, 2] (by decide) rfl
    have hFc := va_free (wc := [(q_19, .inr (11, [.int 0, .ref ys_23, .ref yp_24, .int 0])), (ys_23, .inr (3, [.int 0, .ref (ta 4), .int 0])), (yp_24, .inr (3, [.int 0, .ref (ta 4), .int 0]))]) hD hS hA [0, 1, 2] rfl
    refine va_calld (va_runV (As := [.int (xs 1)]) (rest := []) ⟨hx, hb, hml, hown, hts⟩ (c_X7_clear l dC dI q_19 ys_23 yp_24 sa ta H.size 0 (xs 1)) (cwV 1 hts gl_X7_clear rfl rfl rfl (by decide +kernel) ⟨Nat.le_of_ble_eq_true rfl, Nat.le_of_ble_eq_true rfl⟩) ⟨ax_fbW, va_recv hK hP (ci := 11) (q0 := 0) rfl rfl, ax_prW hPc hKc hDc hS hFc hE⟩ rfl rfl hl.1 rfl (lv_room (Nat.le_of_ble_eq_true rfl)) dL_law_1192 ⟨Nat.le_of_ble_eq_true rfl, Nat.le_of_ble_eq_true rfl⟩) hS (fun q _ h9 => hFc q h9) hFc (fun r_280 u_282  t H locs ht hvm hw_281 hB hz1 hk1 hS => ?_)
    obtain ⟨th2_283, rfl⟩ : ∃ z, z = u_282 := ⟨_, rfl⟩
    obtain ⟨hP1, hK1, hD1⟩ := hB
    rw [ht] at hP1
    have hK1 := va_K.moved hvm.symm hK1
    obtain ⟨hP, hD⟩ := va_join (wr := [(q_25, .inl (cA_26, 1, .inr (.inl (fun _ => 0)))), (q_27, .inl (cA_28, 1, .inr (.inr (.inr (.inl of_279)))))]) (w1 := [(q_19, .inr (11, [.int th2_283, .ref ys_23, .ref yp_24, .int 0]))]) hP hD [0, 1, 2] [3, 4] rfl rfl (by decide) (by decide) hk1 hFc hP1 hD1
    have hP : va_P (dC, dI) vwCl [(q_25, .inl (cA_26, 1, .inr (.inl (fun _ => 0)))), (q_27, .inl (cA_28, 1, .inr (.inr (.inr (.inl of_279))))), (q_19, .inr (11, [.int th2_283, .ref ys_23, .ref yp_24, .int 0]))] H := hP
    have hD : va_D A [(q_25, .inl (cA_26, 1, .inr (.inl (fun _ => 0)))), (q_27, .inl (cA_28, 1, .inr (.inr (.inr (.inl of_279))))), (q_19, .inr (11, [.int th2_283, .ref ys_23, .ref yp_24, .int 0]))] := hD
    rcases hw_281 with hw_281 | hw_281
    · have e9 := hw_281.2.1
      subst e9
      refine ax_d (y := 0) hw_281.2.2 ?_
      refine lv_dstore (lv' := [(7, .double 0), (6, .int 0), (5, .int 0), (4, .ref q_27), (3, .ref q_25), (2, .ref q_19), (1, .ref q_1), (0, .ref b)]) hx hb dL_law_1195 hl (by decide) rfl (fun ls hl => ?_)
      refine lv_aload_n hx hb dL_law_1197 rfl (lv_at hl 5 rfl) ?_
      have hPc := hP.sub (ws' := [(q_19, .inr (11, [.int 0, .ref ys_23, .ref yp_24, .int 0]))]) [2] rfl
      have hKc := hK.sub (tys' := []) [] rfl
      refine va_calli (va_runV (As := []) (rest := []) ⟨hx, hb, hml, hown, hts⟩ (c_X7_thrown l dC dI q_19 ys_23 yp_24 sa ta 0) (cwV 0 hts gl_X7_thrown rfl rfl rfl (by decide +kernel) ⟨Nat.le_of_ble_eq_true rfl, Nat.le_of_ble_eq_true rfl⟩) ⟨ax_fbR, va_recv hK hP (ci := 11) (q0 := 2) rfl rfl, ax_prR hPc hKc hS hE⟩ rfl rfl hl.1 rfl (lv_room (Nat.le_of_ble_eq_true rfl)) dL_law_1198 ⟨Nat.le_of_ble_eq_true rfl, Nat.le_of_ble_eq_true rfl⟩) hS (fun _ _ h9 => h9.elim) (fun _ h9 => h9.elim) (fun r_284 u_286  t H locs ht hvm hw_285 hB hz1 hk1 hS => ?_)
      have hP := ax_keep hP (fun _ h9 => h9) hk1
      refine ax_i (y := 0) hw_285 ?_
      refine lv_iload hx hb dL_law_1201 (lv_at hl 1 rfl) ?_
      refine lv_icmp_eq (tgt := 1208) hx hb dL_law_1203 (by decide) (fun _ => ?_) (fun h9 => absurd (by decide) h9)
      refine lv_iload hx hb dL_law_1208 (lv_at hl 1 rfl) ?_
      refine lv_if_ne (tgt := 1245) hx hb dL_law_1210 (by decide) (fun h9 => absurd rfl h9) (fun _ => ?_)
      refine lv_aload hx hb dL_law_1213 (lv_at hl 3 rfl) ?_
      refine lv_iconst (v := 0) hx hb dL_law_1215 (by decide) ?_
      refine va_dald hx hb hK hP 1 7 rfl rfl (by unfold vp_in; decide) dL_law_1216 ?_
      refine ax_d (y := 0) hw_277.2.2 ?_
      refine lv_dload hx hb dL_law_1217 (lv_at hl 0 rfl) ?_
      refine lv_dcmp hx hb dL_law_1219 ?_
      refine ax_i (y := 0) (by decide +kernel) ?_
      refine lv_if_eq (tgt := 1245) hx hb dL_law_1220 (by decide) (fun _ => ?_) (fun h9 => absurd (by decide) h9)
      refine lv_goto (tgt := 1857) hx hb dL_law_1245 (by decide) ?_
      refine lv_iinc (v := 5) (lv' := [(5, .int 5), (7, .double 0), (6, .int 0), (4, .ref q_27), (3, .ref q_25), (2, .ref q_19), (1, .ref q_1), (0, .ref b)]) hx hb dL_law_1857 hl (k := 2) rfl (by decide) (by decide) rfl (fun ls hl => ?_)
      refine lv_goto (tgt := 28) hx hb dL_law_1860 (by decide) ?_
      refine lv_iload hx hb dL_law_28 (lv_at hl 0 rfl) ?_
      refine lv_aload_n hx hb dL_law_30 rfl (lv_at hl 7 rfl) ?_
      refine va_slen hx hb hX hbl hbA hS dL_law_31 ?_
      refine ax_i (y := 5) rfl ?_
      refine lv_iconst (v := 5) hx hb dL_law_32 (by decide) ?_
      refine lv_isub hx hb dL_law_33 ?_
      refine ax_i (y := 0) (by decide) ?_
      refine lv_icmp_gt (tgt := 1863) hx hb dL_law_34 (by decide) (fun _ => ?_) (fun h9 => absurd (by decide) h9)
      refine lv_iconst (v := 1) hx hb dL_law_1863 (by decide) ?_
      refine va_forget (fun q hq => by have h9 := hS.2.2 q hq; rw [hAd] at h9; exact h9) ?_
      refine W.widen (k := 600002) (n := 7302232) (Nat.le_of_ble_eq_true rfl) (Nat.le_of_ble_eq_true rfl) ?_
      refine W.base ?_
      exact lw_ret (Drawn.sameBut.refl s.drawn lw_cs) hx hb hr hlocks dL_law_1864
    · exact absurd hw_277.1 hw_281.1
  · refine ax_i (y := 1) hw_277.2 ?_
    refine lv_istore (lv' := [(6, .int 1), (5, .int 0), (4, .ref q_27), (3, .ref q_25), (2, .ref q_19), (1, .ref q_1), (0, .ref b)]) hx hb dL_law_1183 hl (by decide) rfl (fun ls hl => ?_)
    refine lv_aload_n hx hb dL_law_1185 rfl (lv_at hl 4 rfl) ?_
    refine lv_aload_n hx hb dL_law_1186 rfl (lv_at hl 6 rfl) ?_
    refine lv_iload hx hb dL_law_1187 (lv_at hl 1 rfl) ?_
    refine lv_iconst (v := 1) hx hb dL_law_1189 (by decide) ?_
    refine lv_iadd hx hb dL_law_1190 ?_
    refine ax_i (y := 1) (by decide) ?_
    refine va_sld hx hb hX hbl hbA hS (by unfold vp_in; decide) dL_law_1191 ?_
    refine ax_i (y := xs 1) rfl ?_
    have hPc := hP.sub (ws' := [(q_19, .inr (11, [.int 0, .ref ys_23, .ref yp_24, .int 0])), (ys_23, .inr (3, [.int 0, .ref (ta 4), .int 0])), (yp_24, .inr (3, [.int 0, .ref (ta 4), .int 0]))]) [0, 1, 2] rfl
    have hKc := hK.sub (tys' := []) [] rfl
    have hDc := hD.sub (ws' := [(q_19, .inr (11, [.int 0, .ref ys_23, .ref yp_24, .int 0])), (ys_23, .inr (3, [.int 0, .ref (ta 4), .int 0])), (yp_24, .inr (3, [.int 0, .ref (ta 4), .int 0]))]) [0, 1, 2] (by decide) rfl
    have hFc := va_free (wc := [(q_19, .inr (11, [.int 0, .ref ys_23, .ref yp_24, .int 0])), (ys_23, .inr (3, [.int 0, .ref (ta 4), .int 0])), (yp_24, .inr (3, [.int 0, .ref (ta 4), .int 0]))]) hD hS hA [0, 1, 2] rfl
    refine va_calld (va_runV (As := [.int (xs 1)]) (rest := []) ⟨hx, hb, hml, hown, hts⟩ (c_X7_clear l dC dI q_19 ys_23 yp_24 sa ta H.size 0 (xs 1)) (cwV 1 hts gl_X7_clear rfl rfl rfl (by decide +kernel) ⟨Nat.le_of_ble_eq_true rfl, Nat.le_of_ble_eq_true rfl⟩) ⟨ax_fbW, va_recv hK hP (ci := 11) (q0 := 0) rfl rfl, ax_prW hPc hKc hDc hS hFc hE⟩ rfl rfl hl.1 rfl (lv_room (Nat.le_of_ble_eq_true rfl)) dL_law_1192 ⟨Nat.le_of_ble_eq_true rfl, Nat.le_of_ble_eq_true rfl⟩) hS (fun q _ h9 => hFc q h9) hFc (fun r_287 u_289  t H locs ht hvm hw_288 hB hz1 hk1 hS => ?_)
    obtain ⟨th2_290, rfl⟩ : ∃ z, z = u_289 := ⟨_, rfl⟩
    obtain ⟨hP1, hK1, hD1⟩ := hB
    rw [ht] at hP1
    have hK1 := va_K.moved hvm.symm hK1
    obtain ⟨hP, hD⟩ := va_join (wr := [(q_25, .inl (cA_26, 1, .inr (.inl (fun _ => 0)))), (q_27, .inl (cA_28, 1, .inr (.inr (.inr (.inl of_279)))))]) (w1 := [(q_19, .inr (11, [.int th2_290, .ref ys_23, .ref yp_24, .int 0]))]) hP hD [0, 1, 2] [3, 4] rfl rfl (by decide) (by decide) hk1 hFc hP1 hD1
    have hP : va_P (dC, dI) vwCl [(q_25, .inl (cA_26, 1, .inr (.inl (fun _ => 0)))), (q_27, .inl (cA_28, 1, .inr (.inr (.inr (.inl of_279))))), (q_19, .inr (11, [.int th2_290, .ref ys_23, .ref yp_24, .int 0]))] H := hP
    have hD : va_D A [(q_25, .inl (cA_26, 1, .inr (.inl (fun _ => 0)))), (q_27, .inl (cA_28, 1, .inr (.inr (.inr (.inl of_279))))), (q_19, .inr (11, [.int th2_290, .ref ys_23, .ref yp_24, .int 0]))] := hD
    rcases hw_288 with hw_288 | hw_288
    · exact absurd hw_288.1 hw_277.1
    · have e9 := hw_288.2
      subst e9
      refine lv_dstore (lv' := [(7, .double r_287), (6, .int 1), (5, .int 0), (4, .ref q_27), (3, .ref q_25), (2, .ref q_19), (1, .ref q_1), (0, .ref b)]) hx hb dL_law_1195 hl (by decide) rfl (fun ls hl => ?_)
      refine lv_aload_n hx hb dL_law_1197 rfl (lv_at hl 5 rfl) ?_
      have hPc := hP.sub (ws' := [(q_19, .inr (11, [.int 1, .ref ys_23, .ref yp_24, .int 0]))]) [2] rfl
      have hKc := hK.sub (tys' := []) [] rfl
      refine va_calli (va_runV (As := []) (rest := []) ⟨hx, hb, hml, hown, hts⟩ (c_X7_thrown l dC dI q_19 ys_23 yp_24 sa ta 1) (cwV 0 hts gl_X7_thrown rfl rfl rfl (by decide +kernel) ⟨Nat.le_of_ble_eq_true rfl, Nat.le_of_ble_eq_true rfl⟩) ⟨ax_fbR, va_recv hK hP (ci := 11) (q0 := 2) rfl rfl, ax_prR hPc hKc hS hE⟩ rfl rfl hl.1 rfl (lv_room (Nat.le_of_ble_eq_true rfl)) dL_law_1198 ⟨Nat.le_of_ble_eq_true rfl, Nat.le_of_ble_eq_true rfl⟩) hS (fun _ _ h9 => h9.elim) (fun _ h9 => h9.elim) (fun r_291 u_293  t H locs ht hvm hw_292 hB hz1 hk1 hS => ?_)
      have hP := ax_keep hP (fun _ h9 => h9) hk1
      refine ax_i (y := 1) hw_292 ?_
      refine lv_iload hx hb dL_law_1201 (lv_at hl 1 rfl) ?_
      refine lv_icmp_eq (tgt := 1208) hx hb dL_law_1203 (by decide) (fun _ => ?_) (fun h9 => absurd (by decide) h9)
      refine lv_iload hx hb dL_law_1208 (lv_at hl 1 rfl) ?_
      refine lv_if_ne (tgt := 1245) hx hb dL_law_1210 (by decide) (fun _ => ?_) (fun h9 => absurd h9 (by decide))
      refine lv_goto (tgt := 1857) hx hb dL_law_1245 (by decide) ?_
      refine lv_iinc (v := 5) (lv' := [(5, .int 5), (7, .double r_287), (6, .int 1), (4, .ref q_27), (3, .ref q_25), (2, .ref q_19), (1, .ref q_1), (0, .ref b)]) hx hb dL_law_1857 hl (k := 2) rfl (by decide) (by decide) rfl (fun ls hl => ?_)
      refine lv_goto (tgt := 28) hx hb dL_law_1860 (by decide) ?_
      refine lv_iload hx hb dL_law_28 (lv_at hl 0 rfl) ?_
      refine lv_aload_n hx hb dL_law_30 rfl (lv_at hl 7 rfl) ?_
      refine va_slen hx hb hX hbl hbA hS dL_law_31 ?_
      refine ax_i (y := 5) rfl ?_
      refine lv_iconst (v := 5) hx hb dL_law_32 (by decide) ?_
      refine lv_isub hx hb dL_law_33 ?_
      refine ax_i (y := 0) (by decide) ?_
      refine lv_icmp_gt (tgt := 1863) hx hb dL_law_34 (by decide) (fun _ => ?_) (fun h9 => absurd (by decide) h9)
      refine lv_iconst (v := 1) hx hb dL_law_1863 (by decide) ?_
      refine va_forget (fun q hq => by have h9 := hS.2.2 q hq; rw [hAd] at h9; exact h9) ?_
      refine W.widen (k := 600002) (n := 7302232) (Nat.le_of_ble_eq_true rfl) (Nat.le_of_ble_eq_true rfl) ?_
      refine W.base ?_
      exact lw_ret (Drawn.sameBut.refl s.drawn lw_cs) hx hb hr hlocks dL_law_1864

set_option maxHeartbeats 4000000 in
set_option maxRecDepth 100000 in
theorem law_c15 {p : Program} {e : Env} {s : State} {m : MethodId} {below : List Frame} {meth : Method} {c : Code} (l : Launch) (hlt : l.stackTraces = false) {dC : Nat → ClassId} {dI : Nat → Nat → Nat} {b : Nat} {xs : Nat → Int32} (C0 : lw_At p s m meth c b 5 xs) {A : Nat → Prop} (hAd : A = fun q => s.heap.size ≤ q) {sa ta : Nat → Nat} (hE : ax_S sa ta A s s.heap) {q_1 xs_5 xp_6 xl_7 xn_8 xm_9 xr_10 xw_11 xt_12 q_19 ys_23 yp_24 q_25 q_27 : Nat} {cS_13 cP_14 cn_15 cm_16 cw_17 ct_18 cA_26 cA_28 : ClassId} {H : Heap} {locs : List Loc} (hK : va_K (dC, dI) vwCl [(cS_13, .object "Diffractory$Source"), (cP_14, .object "Diffractory$Part"), (cn_15, .long), (cm_16, .long), (cw_17, .long), (ct_18, .long), (cA_26, .long), (cA_28, .double)] s) (hP : va_P (dC, dI) vwCl [(q_1, .inr (8, [.ref xs_5, .ref xp_6, .int 0, .int 0, .ref xl_7, .ref xr_10])), (xs_5, .inl (cS_13, 3, .inr (.inr (.inr (.inr (fun _ => none)))))), (xp_6, .inl (cP_14, 8, .inr (.inr (.inr (.inr (fun _ => none)))))), (xl_7, .inr (4, [.ref xn_8, .ref xm_9])), (xn_8, .inl (cn_15, 64, .inr (.inl (fun _ => 0)))), (xm_9, .inl (cm_16, 64, .inr (.inl (fun _ => 0)))), (xr_10, .inr (6, [.ref xw_11, .ref xt_12])), (xw_11, .inl (cw_17, 8, .inr (.inl (fun _ => 0)))), (xt_12, .inl (ct_18, 8, .inr (.inl (fun _ => 0)))), (q_19, .inr (11, [.int 0, .ref ys_23, .ref yp_24, .int 0])), (ys_23, .inr (3, [.int 0, .ref (ta 4), .int 0])), (yp_24, .inr (3, [.int 0, .ref (ta 4), .int 0])), (q_25, .inl (cA_26, 1, .inr (.inl (fun _ => 0)))), (q_27, .inl (cA_28, 1, .inr (.inr (.inr (.inl (fun _ => 0))))))] H) (hD : va_D A [(q_1, .inr (8, [.ref xs_5, .ref xp_6, .int 0, .int 0, .ref xl_7, .ref xr_10])), (xs_5, .inl (cS_13, 3, .inr (.inr (.inr (.inr (fun _ => none)))))), (xp_6, .inl (cP_14, 8, .inr (.inr (.inr (.inr (fun _ => none)))))), (xl_7, .inr (4, [.ref xn_8, .ref xm_9])), (xn_8, .inl (cn_15, 64, .inr (.inl (fun _ => 0)))), (xm_9, .inl (cm_16, 64, .inr (.inl (fun _ => 0)))), (xr_10, .inr (6, [.ref xw_11, .ref xt_12])), (xw_11, .inl (cw_17, 8, .inr (.inl (fun _ => 0)))), (xt_12, .inl (ct_18, 8, .inr (.inl (fun _ => 0)))), (q_19, .inr (11, [.int 0, .ref ys_23, .ref yp_24, .int 0])), (ys_23, .inr (3, [.int 0, .ref (ta 4), .int 0])), (yp_24, .inr (3, [.int 0, .ref (ta 4), .int 0])), (q_25, .inl (cA_26, 1, .inr (.inl (fun _ => 0)))), (q_27, .inl (cA_28, 1, .inr (.inr (.inr (.inl (fun _ => 0))))))]) (hS : va_S A s.heap H locs) {ls : Array Slot} (hl : lv_has ls 9 [(5, .int 0), (4, .ref q_27), (3, .ref q_25), (2, .ref q_19), (1, .ref q_1), (0, .ref b)]) : W p l e room_1 s m #[Value.ref b] below meth c H locs 14 177 (lw_Z below #[Value.ref b] s) (F0 m 1248 ls []) := by
  obtain ⟨hx, hb, hr, hml, hown, hts, hX, hbl, hlocks, hgv⟩ := C0
  have hA : ∀ q : Nat, s.heap.size ≤ q → A q := fun q h => by rw [hAd]; exact h
  have hbA : ¬ A b := by rw [hAd]; exact Nat.not_le.mpr hbl
  refine lv_aload_n hx hb dL_law_1248 rfl (lv_at hl 4 rfl) ?_
  refine lv_aload_n hx hb dL_law_1249 rfl (lv_at hl 5 rfl) ?_
  refine lv_iload hx hb dL_law_1250 (lv_at hl 0 rfl) ?_
  refine lv_iconst (v := 1) hx hb dL_law_1252 (by decide) ?_
  refine lv_iadd hx hb dL_law_1253 ?_
  refine ax_i (y := 1) (by decide) ?_
  refine va_sld hx hb hX hbl hbA hS (by unfold vp_in; decide) dL_law_1254 ?_
  refine ax_i (y := xs 1) rfl ?_
  refine lv_aload_n hx hb dL_law_1255 rfl (lv_at hl 5 rfl) ?_
  refine lv_iload hx hb dL_law_1256 (lv_at hl 0 rfl) ?_
  refine lv_iconst (v := 2) hx hb dL_law_1258 (by decide) ?_
  refine lv_iadd hx hb dL_law_1259 ?_
  refine ax_i (y := 2) (by decide) ?_
  refine va_sld hx hb hX hbl hbA hS (by unfold vp_in; decide) dL_law_1260 ?_
  refine ax_i (y := xs 2) rfl ?_
  refine lv_aload hx hb dL_law_1261 (lv_at hl 1 rfl) ?_
  have hPc := hP.sub (ws' := [(q_1, .inr (8, [.ref xs_5, .ref xp_6, .int 0, .int 0, .ref xl_7, .ref xr_10])), (xs_5, .inl (cS_13, 3, .inr (.inr (.inr (.inr (fun _ => none)))))), (xp_6, .inl (cP_14, 8, .inr (.inr (.inr (.inr (fun _ => none)))))), (xl_7, .inr (4, [.ref xn_8, .ref xm_9])), (xn_8, .inl (cn_15, 64, .inr (.inl (fun _ => 0)))), (xm_9, .inl (cm_16, 64, .inr (.inl (fun _ => 0)))), (xr_10, .inr (6, [.ref xw_11, .ref xt_12])), (xw_11, .inl (cw_17, 8, .inr (.inl (fun _ => 0)))), (xt_12, .inl (ct_18, 8, .inr (.inl (fun _ => 0)))), (q_27, .inl (cA_28, 1, .inr (.inr (.inr (.inl (fun _ => 0))))))]) [0, 1, 2, 3, 4, 5, 6, 7, 8, 13] rfl
  have hKc := hK.sub (tys' := [(cS_13, .object "Diffractory$Source"), (cP_14, .object "Diffractory$Part"), (cn_15, .long), (cm_16, .long), (cw_17, .long), (ct_18, .long), (cA_28, .double)]) [0, 1, 2, 3, 4, 5, 7] rfl
  have hDc := hD.sub (ws' := [(q_1, .inr (8, [.ref xs_5, .ref xp_6, .int 0, .int 0, .ref xl_7, .ref xr_10])), (xs_5, .inl (cS_13, 3, .inr (.inr (.inr (.inr (fun _ => none)))))), (xp_6, .inl (cP_14, 8, .inr (.inr (.inr (.inr (fun _ => none)))))), (xl_7, .inr (4, [.ref xn_8, .ref xm_9])), (xn_8, .inl (cn_15, 64, .inr (.inl (fun _ => 0)))), (xm_9, .inl (cm_16, 64, .inr (.inl (fun _ => 0)))), (xr_10, .inr (6, [.ref xw_11, .ref xt_12])), (xw_11, .inl (cw_17, 8, .inr (.inl (fun _ => 0)))), (xt_12, .inl (ct_18, 8, .inr (.inl (fun _ => 0)))), (q_27, .inl (cA_28, 1, .inr (.inr (.inr (.inl (fun _ => 0))))))]) [0, 1, 2, 3, 4, 5, 6, 7, 8, 13] (by decide) rfl
  have hFc := va_free (wc := [(q_1, .inr (8, [.ref xs_5, .ref xp_6, .int 0, .int 0, .ref xl_7, .ref xr_10])), (xs_5, .inl (cS_13, 3, .inr (.inr (.inr (.inr (fun _ => none)))))), (xp_6, .inl (cP_14, 8, .inr (.inr (.inr (.inr (fun _ => none)))))), (xl_7, .inr (4, [.ref xn_8, .ref xm_9])), (xn_8, .inl (cn_15, 64, .inr (.inl (fun _ => 0)))), (xm_9, .inl (cm_16, 64, .inr (.inl (fun _ => 0)))), (xr_10, .inr (6, [.ref xw_11, .ref xt_12])), (xw_11, .inl (cw_17, 8, .inr (.inl (fun _ => 0)))), (xt_12, .inl (ct_18, 8, .inr (.inl (fun _ => 0)))), (q_27, .inl (cA_28, 1, .inr (.inr (.inr (.inl (fun _ => 0))))))]) hD hS hA [0, 1, 2, 3, 4, 5, 6, 7, 8, 13] rfl
  refine va_calli (vx_runSW (As := [.ref q_1, .int (xs 1), .int (xs 2), .ref q_27]) (rest := []) ⟨hx, hb, hml, hown, hts⟩ (c_L_tenths l hlt dC dI q_1 xs_5 xp_6 xl_7 xn_8 xm_9 xr_10 xw_11 xt_12 q_27 cS_13 cP_14 cn_15 cm_16 cw_17 ct_18 cA_28 sa ta H.size (xs 1) (xs 2)) (vx_cwSW 4 hts gl_L_tenths rfl rfl rfl (by decide +kernel) ⟨Nat.le_of_ble_eq_true rfl, Nat.le_of_ble_eq_true rfl⟩) ⟨ax_fbW, ax_prW hPc hKc hDc hS hFc hE⟩ rfl rfl hl.1 rfl (lv_room (Nat.le_of_ble_eq_true rfl)) dL_law_1263 ⟨Nat.le_of_ble_eq_true rfl, Nat.le_of_ble_eq_true rfl⟩) hS (fun q _ h9 => hFc q h9) hFc (fun r_294 u_296  t H locs ht hvm hw_295 hB hz1 hk1 hS => ?_)
  obtain ⟨of_297, rfl⟩ : ∃ z, z = u_296 := ⟨_, rfl⟩
  obtain ⟨hP1, hK1, hD1⟩ := hB
  rw [ht] at hP1
  have hK1 := va_K.moved hvm.symm hK1
  obtain ⟨hP, hD⟩ := va_join (wr := [(q_19, .inr (11, [.int 0, .ref ys_23, .ref yp_24, .int 0])), (ys_23, .inr (3, [.int 0, .ref (ta 4), .int 0])), (yp_24, .inr (3, [.int 0, .ref (ta 4), .int 0])), (q_25, .inl (cA_26, 1, .inr (.inl (fun _ => 0))))]) (w1 := [(q_27, .inl (cA_28, 1, .inr (.inr (.inr (.inl of_297)))))]) hP hD [0, 1, 2, 3, 4, 5, 6, 7, 8, 13] [9, 10, 11, 12] rfl rfl (by decide) (by decide) hk1 hFc hP1 hD1
  have hP : va_P (dC, dI) vwCl [(q_19, .inr (11, [.int 0, .ref ys_23, .ref yp_24, .int 0])), (ys_23, .inr (3, [.int 0, .ref (ta 4), .int 0])), (yp_24, .inr (3, [.int 0, .ref (ta 4), .int 0])), (q_25, .inl (cA_26, 1, .inr (.inl (fun _ => 0)))), (q_27, .inl (cA_28, 1, .inr (.inr (.inr (.inl of_297)))))] H := hP
  have hD : va_D A [(q_19, .inr (11, [.int 0, .ref ys_23, .ref yp_24, .int 0])), (ys_23, .inr (3, [.int 0, .ref (ta 4), .int 0])), (yp_24, .inr (3, [.int 0, .ref (ta 4), .int 0])), (q_25, .inl (cA_26, 1, .inr (.inl (fun _ => 0)))), (q_27, .inl (cA_28, 1, .inr (.inr (.inr (.inl of_297)))))] := hD
  rcases hw_295 with hw_295 | hw_295
  · refine ax_i (y := 0) hw_295.2.1 ?_
    refine lv_istore (lv' := [(6, .int 0), (5, .int 0), (4, .ref q_27), (3, .ref q_25), (2, .ref q_19), (1, .ref q_1), (0, .ref b)]) hx hb dL_law_1266 hl (by decide) rfl (fun ls hl => ?_)
    refine lv_aload_n hx hb dL_law_1268 rfl (lv_at hl 4 rfl) ?_
    refine lv_aload_n hx hb dL_law_1269 rfl (lv_at hl 6 rfl) ?_
    refine lv_iload hx hb dL_law_1270 (lv_at hl 1 rfl) ?_
    refine lv_iconst (v := 1) hx hb dL_law_1272 (by decide) ?_
    refine lv_iadd hx hb dL_law_1273 ?_
    refine ax_i (y := 1) (by decide) ?_
    refine va_sld hx hb hX hbl hbA hS (by unfold vp_in; decide) dL_law_1274 ?_
    refine ax_i (y := xs 1) rfl ?_
    refine lv_aload_n hx hb dL_law_1275 rfl (lv_at hl 6 rfl) ?_
    refine lv_iload hx hb dL_law_1276 (lv_at hl 1 rfl) ?_
    refine lv_iconst (v := 2) hx hb dL_law_1278 (by decide) ?_
    refine lv_iadd hx hb dL_law_1279 ?_
    refine ax_i (y := 2) (by decide) ?_
    refine va_sld hx hb hX hbl hbA hS (by unfold vp_in; decide) dL_law_1280 ?_
    refine ax_i (y := xs 2) rfl ?_
    have hPc := hP.sub (ws' := [(q_19, .inr (11, [.int 0, .ref ys_23, .ref yp_24, .int 0])), (ys_23, .inr (3, [.int 0, .ref (ta 4), .int 0])), (yp_24, .inr (3, [.int 0, .ref (ta 4), .int 0]))]) [0, 1, 2] rfl
    have hKc := hK.sub (tys' := []) [] rfl
    have hDc := hD.sub (ws' := [(q_19, .inr (11, [.int 0, .ref ys_23, .ref yp_24, .int 0])), (ys_23, .inr (3, [.int 0, .ref (ta 4), .int 0])), (yp_24, .inr (3, [.int 0, .ref (ta 4), .int 0]))]) [0, 1, 2] (by decide) rfl
    have hFc := va_free (wc := [(q_19, .inr (11, [.int 0, .ref ys_23, .ref yp_24, .int 0])), (ys_23, .inr (3, [.int 0, .ref (ta 4), .int 0])), (yp_24, .inr (3, [.int 0, .ref (ta 4), .int 0]))]) hD hS hA [0, 1, 2] rfl
    refine va_calld (va_runV (As := [.int (xs 1), .int (xs 2)]) (rest := []) ⟨hx, hb, hml, hown, hts⟩ (c_X7_tenths l dC dI q_19 ys_23 yp_24 sa ta H.size 0 (xs 1) (xs 2)) (cwV 2 hts gl_X7_tenths rfl rfl rfl (by decide +kernel) ⟨Nat.le_of_ble_eq_true rfl, Nat.le_of_ble_eq_true rfl⟩) ⟨ax_fbW, va_recv hK hP (ci := 11) (q0 := 0) rfl rfl, ax_prW hPc hKc hDc hS hFc hE⟩ rfl rfl hl.1 rfl (lv_room (Nat.le_of_ble_eq_true rfl)) dL_law_1281 ⟨Nat.le_of_ble_eq_true rfl, Nat.le_of_ble_eq_true rfl⟩) hS (fun q _ h9 => hFc q h9) hFc (fun r_298 u_300  t H locs ht hvm hw_299 hB hz1 hk1 hS => ?_)
    obtain ⟨th2_301, rfl⟩ : ∃ z, z = u_300 := ⟨_, rfl⟩
    obtain ⟨hP1, hK1, hD1⟩ := hB
    rw [ht] at hP1
    have hK1 := va_K.moved hvm.symm hK1
    obtain ⟨hP, hD⟩ := va_join (wr := [(q_25, .inl (cA_26, 1, .inr (.inl (fun _ => 0)))), (q_27, .inl (cA_28, 1, .inr (.inr (.inr (.inl of_297)))))]) (w1 := [(q_19, .inr (11, [.int th2_301, .ref ys_23, .ref yp_24, .int 0]))]) hP hD [0, 1, 2] [3, 4] rfl rfl (by decide) (by decide) hk1 hFc hP1 hD1
    have hP : va_P (dC, dI) vwCl [(q_25, .inl (cA_26, 1, .inr (.inl (fun _ => 0)))), (q_27, .inl (cA_28, 1, .inr (.inr (.inr (.inl of_297))))), (q_19, .inr (11, [.int th2_301, .ref ys_23, .ref yp_24, .int 0]))] H := hP
    have hD : va_D A [(q_25, .inl (cA_26, 1, .inr (.inl (fun _ => 0)))), (q_27, .inl (cA_28, 1, .inr (.inr (.inr (.inl of_297))))), (q_19, .inr (11, [.int th2_301, .ref ys_23, .ref yp_24, .int 0]))] := hD
    rcases hw_299 with hw_299 | hw_299
    · have e9 := hw_299.2.1
      subst e9
      refine ax_d (y := 0) hw_299.2.2 ?_
      refine lv_dstore (lv' := [(7, .double 0), (6, .int 0), (5, .int 0), (4, .ref q_27), (3, .ref q_25), (2, .ref q_19), (1, .ref q_1), (0, .ref b)]) hx hb dL_law_1284 hl (by decide) rfl (fun ls hl => ?_)
      refine lv_aload_n hx hb dL_law_1286 rfl (lv_at hl 5 rfl) ?_
      have hPc := hP.sub (ws' := [(q_19, .inr (11, [.int 0, .ref ys_23, .ref yp_24, .int 0]))]) [2] rfl
      have hKc := hK.sub (tys' := []) [] rfl
      refine va_calli (va_runV (As := []) (rest := []) ⟨hx, hb, hml, hown, hts⟩ (c_X7_thrown l dC dI q_19 ys_23 yp_24 sa ta 0) (cwV 0 hts gl_X7_thrown rfl rfl rfl (by decide +kernel) ⟨Nat.le_of_ble_eq_true rfl, Nat.le_of_ble_eq_true rfl⟩) ⟨ax_fbR, va_recv hK hP (ci := 11) (q0 := 2) rfl rfl, ax_prR hPc hKc hS hE⟩ rfl rfl hl.1 rfl (lv_room (Nat.le_of_ble_eq_true rfl)) dL_law_1287 ⟨Nat.le_of_ble_eq_true rfl, Nat.le_of_ble_eq_true rfl⟩) hS (fun _ _ h9 => h9.elim) (fun _ h9 => h9.elim) (fun r_302 u_304  t H locs ht hvm hw_303 hB hz1 hk1 hS => ?_)
      have hP := ax_keep hP (fun _ h9 => h9) hk1
      refine ax_i (y := 0) hw_303 ?_
      refine lv_iload hx hb dL_law_1290 (lv_at hl 1 rfl) ?_
      refine lv_icmp_eq (tgt := 1297) hx hb dL_law_1292 (by decide) (fun _ => ?_) (fun h9 => absurd (by decide) h9)
      refine lv_iload hx hb dL_law_1297 (lv_at hl 1 rfl) ?_
      refine lv_if_ne (tgt := 1334) hx hb dL_law_1299 (by decide) (fun h9 => absurd rfl h9) (fun _ => ?_)
      refine lv_aload hx hb dL_law_1302 (lv_at hl 3 rfl) ?_
      refine lv_iconst (v := 0) hx hb dL_law_1304 (by decide) ?_
      refine va_dald hx hb hK hP 1 7 rfl rfl (by unfold vp_in; decide) dL_law_1305 ?_
      refine ax_d (y := 0) hw_295.2.2 ?_
      refine lv_dload hx hb dL_law_1306 (lv_at hl 0 rfl) ?_
      refine lv_dcmp hx hb dL_law_1308 ?_
      refine ax_i (y := 0) (by decide +kernel) ?_
      refine lv_if_eq (tgt := 1334) hx hb dL_law_1309 (by decide) (fun _ => ?_) (fun h9 => absurd (by decide) h9)
      refine lv_goto (tgt := 1857) hx hb dL_law_1334 (by decide) ?_
      refine lv_iinc (v := 5) (lv' := [(5, .int 5), (7, .double 0), (6, .int 0), (4, .ref q_27), (3, .ref q_25), (2, .ref q_19), (1, .ref q_1), (0, .ref b)]) hx hb dL_law_1857 hl (k := 2) rfl (by decide) (by decide) rfl (fun ls hl => ?_)
      refine lv_goto (tgt := 28) hx hb dL_law_1860 (by decide) ?_
      refine lv_iload hx hb dL_law_28 (lv_at hl 0 rfl) ?_
      refine lv_aload_n hx hb dL_law_30 rfl (lv_at hl 7 rfl) ?_
      refine va_slen hx hb hX hbl hbA hS dL_law_31 ?_
      refine ax_i (y := 5) rfl ?_
      refine lv_iconst (v := 5) hx hb dL_law_32 (by decide) ?_
      refine lv_isub hx hb dL_law_33 ?_
      refine ax_i (y := 0) (by decide) ?_
      refine lv_icmp_gt (tgt := 1863) hx hb dL_law_34 (by decide) (fun _ => ?_) (fun h9 => absurd (by decide) h9)
      refine lv_iconst (v := 1) hx hb dL_law_1863 (by decide) ?_
      refine va_forget (fun q hq => by have h9 := hS.2.2 q hq; rw [hAd] at h9; exact h9) ?_
      refine W.widen (k := 600002) (n := 7302232) (Nat.le_of_ble_eq_true rfl) (Nat.le_of_ble_eq_true rfl) ?_
      refine W.base ?_
      exact lw_ret (Drawn.sameBut.refl s.drawn lw_cs) hx hb hr hlocks dL_law_1864
    · exact absurd hw_295.1 hw_299.1
  · refine ax_i (y := 1) hw_295.2 ?_
    refine lv_istore (lv' := [(6, .int 1), (5, .int 0), (4, .ref q_27), (3, .ref q_25), (2, .ref q_19), (1, .ref q_1), (0, .ref b)]) hx hb dL_law_1266 hl (by decide) rfl (fun ls hl => ?_)
    refine lv_aload_n hx hb dL_law_1268 rfl (lv_at hl 4 rfl) ?_
    refine lv_aload_n hx hb dL_law_1269 rfl (lv_at hl 6 rfl) ?_
    refine lv_iload hx hb dL_law_1270 (lv_at hl 1 rfl) ?_
    refine lv_iconst (v := 1) hx hb dL_law_1272 (by decide) ?_
    refine lv_iadd hx hb dL_law_1273 ?_
    refine ax_i (y := 1) (by decide) ?_
    refine va_sld hx hb hX hbl hbA hS (by unfold vp_in; decide) dL_law_1274 ?_
    refine ax_i (y := xs 1) rfl ?_
    refine lv_aload_n hx hb dL_law_1275 rfl (lv_at hl 6 rfl) ?_
    refine lv_iload hx hb dL_law_1276 (lv_at hl 1 rfl) ?_
    refine lv_iconst (v := 2) hx hb dL_law_1278 (by decide) ?_
    refine lv_iadd hx hb dL_law_1279 ?_
    refine ax_i (y := 2) (by decide) ?_
    refine va_sld hx hb hX hbl hbA hS (by unfold vp_in; decide) dL_law_1280 ?_
    refine ax_i (y := xs 2) rfl ?_
    have hPc := hP.sub (ws' := [(q_19, .inr (11, [.int 0, .ref ys_23, .ref yp_24, .int 0])), (ys_23, .inr (3, [.int 0, .ref (ta 4), .int 0])), (yp_24, .inr (3, [.int 0, .ref (ta 4), .int 0]))]) [0, 1, 2] rfl
    have hKc := hK.sub (tys' := []) [] rfl
    have hDc := hD.sub (ws' := [(q_19, .inr (11, [.int 0, .ref ys_23, .ref yp_24, .int 0])), (ys_23, .inr (3, [.int 0, .ref (ta 4), .int 0])), (yp_24, .inr (3, [.int 0, .ref (ta 4), .int 0]))]) [0, 1, 2] (by decide) rfl
    have hFc := va_free (wc := [(q_19, .inr (11, [.int 0, .ref ys_23, .ref yp_24, .int 0])), (ys_23, .inr (3, [.int 0, .ref (ta 4), .int 0])), (yp_24, .inr (3, [.int 0, .ref (ta 4), .int 0]))]) hD hS hA [0, 1, 2] rfl
    refine va_calld (va_runV (As := [.int (xs 1), .int (xs 2)]) (rest := []) ⟨hx, hb, hml, hown, hts⟩ (c_X7_tenths l dC dI q_19 ys_23 yp_24 sa ta H.size 0 (xs 1) (xs 2)) (cwV 2 hts gl_X7_tenths rfl rfl rfl (by decide +kernel) ⟨Nat.le_of_ble_eq_true rfl, Nat.le_of_ble_eq_true rfl⟩) ⟨ax_fbW, va_recv hK hP (ci := 11) (q0 := 0) rfl rfl, ax_prW hPc hKc hDc hS hFc hE⟩ rfl rfl hl.1 rfl (lv_room (Nat.le_of_ble_eq_true rfl)) dL_law_1281 ⟨Nat.le_of_ble_eq_true rfl, Nat.le_of_ble_eq_true rfl⟩) hS (fun q _ h9 => hFc q h9) hFc (fun r_305 u_307  t H locs ht hvm hw_306 hB hz1 hk1 hS => ?_)
    obtain ⟨th2_308, rfl⟩ : ∃ z, z = u_307 := ⟨_, rfl⟩
    obtain ⟨hP1, hK1, hD1⟩ := hB
    rw [ht] at hP1
    have hK1 := va_K.moved hvm.symm hK1
    obtain ⟨hP, hD⟩ := va_join (wr := [(q_25, .inl (cA_26, 1, .inr (.inl (fun _ => 0)))), (q_27, .inl (cA_28, 1, .inr (.inr (.inr (.inl of_297)))))]) (w1 := [(q_19, .inr (11, [.int th2_308, .ref ys_23, .ref yp_24, .int 0]))]) hP hD [0, 1, 2] [3, 4] rfl rfl (by decide) (by decide) hk1 hFc hP1 hD1
    have hP : va_P (dC, dI) vwCl [(q_25, .inl (cA_26, 1, .inr (.inl (fun _ => 0)))), (q_27, .inl (cA_28, 1, .inr (.inr (.inr (.inl of_297))))), (q_19, .inr (11, [.int th2_308, .ref ys_23, .ref yp_24, .int 0]))] H := hP
    have hD : va_D A [(q_25, .inl (cA_26, 1, .inr (.inl (fun _ => 0)))), (q_27, .inl (cA_28, 1, .inr (.inr (.inr (.inl of_297))))), (q_19, .inr (11, [.int th2_308, .ref ys_23, .ref yp_24, .int 0]))] := hD
    rcases hw_306 with hw_306 | hw_306
    · exact absurd hw_306.1 hw_295.1
    · have e9 := hw_306.2
      subst e9
      refine lv_dstore (lv' := [(7, .double r_305), (6, .int 1), (5, .int 0), (4, .ref q_27), (3, .ref q_25), (2, .ref q_19), (1, .ref q_1), (0, .ref b)]) hx hb dL_law_1284 hl (by decide) rfl (fun ls hl => ?_)
      refine lv_aload_n hx hb dL_law_1286 rfl (lv_at hl 5 rfl) ?_
      have hPc := hP.sub (ws' := [(q_19, .inr (11, [.int 1, .ref ys_23, .ref yp_24, .int 0]))]) [2] rfl
      have hKc := hK.sub (tys' := []) [] rfl
      refine va_calli (va_runV (As := []) (rest := []) ⟨hx, hb, hml, hown, hts⟩ (c_X7_thrown l dC dI q_19 ys_23 yp_24 sa ta 1) (cwV 0 hts gl_X7_thrown rfl rfl rfl (by decide +kernel) ⟨Nat.le_of_ble_eq_true rfl, Nat.le_of_ble_eq_true rfl⟩) ⟨ax_fbR, va_recv hK hP (ci := 11) (q0 := 2) rfl rfl, ax_prR hPc hKc hS hE⟩ rfl rfl hl.1 rfl (lv_room (Nat.le_of_ble_eq_true rfl)) dL_law_1287 ⟨Nat.le_of_ble_eq_true rfl, Nat.le_of_ble_eq_true rfl⟩) hS (fun _ _ h9 => h9.elim) (fun _ h9 => h9.elim) (fun r_309 u_311  t H locs ht hvm hw_310 hB hz1 hk1 hS => ?_)
      have hP := ax_keep hP (fun _ h9 => h9) hk1
      refine ax_i (y := 1) hw_310 ?_
      refine lv_iload hx hb dL_law_1290 (lv_at hl 1 rfl) ?_
      refine lv_icmp_eq (tgt := 1297) hx hb dL_law_1292 (by decide) (fun _ => ?_) (fun h9 => absurd (by decide) h9)
      refine lv_iload hx hb dL_law_1297 (lv_at hl 1 rfl) ?_
      refine lv_if_ne (tgt := 1334) hx hb dL_law_1299 (by decide) (fun _ => ?_) (fun h9 => absurd h9 (by decide))
      refine lv_goto (tgt := 1857) hx hb dL_law_1334 (by decide) ?_
      refine lv_iinc (v := 5) (lv' := [(5, .int 5), (7, .double r_305), (6, .int 1), (4, .ref q_27), (3, .ref q_25), (2, .ref q_19), (1, .ref q_1), (0, .ref b)]) hx hb dL_law_1857 hl (k := 2) rfl (by decide) (by decide) rfl (fun ls hl => ?_)
      refine lv_goto (tgt := 28) hx hb dL_law_1860 (by decide) ?_
      refine lv_iload hx hb dL_law_28 (lv_at hl 0 rfl) ?_
      refine lv_aload_n hx hb dL_law_30 rfl (lv_at hl 7 rfl) ?_
      refine va_slen hx hb hX hbl hbA hS dL_law_31 ?_
      refine ax_i (y := 5) rfl ?_
      refine lv_iconst (v := 5) hx hb dL_law_32 (by decide) ?_
      refine lv_isub hx hb dL_law_33 ?_
      refine ax_i (y := 0) (by decide) ?_
      refine lv_icmp_gt (tgt := 1863) hx hb dL_law_34 (by decide) (fun _ => ?_) (fun h9 => absurd (by decide) h9)
      refine lv_iconst (v := 1) hx hb dL_law_1863 (by decide) ?_
      refine va_forget (fun q hq => by have h9 := hS.2.2 q hq; rw [hAd] at h9; exact h9) ?_
      refine W.widen (k := 600002) (n := 7302232) (Nat.le_of_ble_eq_true rfl) (Nat.le_of_ble_eq_true rfl) ?_
      refine W.base ?_
      exact lw_ret (Drawn.sameBut.refl s.drawn lw_cs) hx hb hr hlocks dL_law_1864

set_option maxHeartbeats 4000000 in
set_option maxRecDepth 100000 in
theorem law_c16 {p : Program} {e : Env} {s : State} {m : MethodId} {below : List Frame} {meth : Method} {c : Code} (l : Launch) (hlt : l.stackTraces = false) {dC : Nat → ClassId} {dI : Nat → Nat → Nat} {b : Nat} {xs : Nat → Int32} (C0 : lw_At p s m meth c b 5 xs) {A : Nat → Prop} (hAd : A = fun q => s.heap.size ≤ q) {sa ta : Nat → Nat} (hE : ax_S sa ta A s s.heap) {q_1 xs_5 xp_6 xl_7 xn_8 xm_9 xr_10 xw_11 xt_12 q_19 ys_23 yp_24 q_25 q_27 : Nat} {cS_13 cP_14 cn_15 cm_16 cw_17 ct_18 cA_26 cA_28 : ClassId} {H : Heap} {locs : List Loc} (hK : va_K (dC, dI) vwCl [(cS_13, .object "Diffractory$Source"), (cP_14, .object "Diffractory$Part"), (cn_15, .long), (cm_16, .long), (cw_17, .long), (ct_18, .long), (cA_26, .long), (cA_28, .double)] s) (hP : va_P (dC, dI) vwCl [(q_1, .inr (8, [.ref xs_5, .ref xp_6, .int 0, .int 0, .ref xl_7, .ref xr_10])), (xs_5, .inl (cS_13, 3, .inr (.inr (.inr (.inr (fun _ => none)))))), (xp_6, .inl (cP_14, 8, .inr (.inr (.inr (.inr (fun _ => none)))))), (xl_7, .inr (4, [.ref xn_8, .ref xm_9])), (xn_8, .inl (cn_15, 64, .inr (.inl (fun _ => 0)))), (xm_9, .inl (cm_16, 64, .inr (.inl (fun _ => 0)))), (xr_10, .inr (6, [.ref xw_11, .ref xt_12])), (xw_11, .inl (cw_17, 8, .inr (.inl (fun _ => 0)))), (xt_12, .inl (ct_18, 8, .inr (.inl (fun _ => 0)))), (q_19, .inr (11, [.int 0, .ref ys_23, .ref yp_24, .int 0])), (ys_23, .inr (3, [.int 0, .ref (ta 4), .int 0])), (yp_24, .inr (3, [.int 0, .ref (ta 4), .int 0])), (q_25, .inl (cA_26, 1, .inr (.inl (fun _ => 0)))), (q_27, .inl (cA_28, 1, .inr (.inr (.inr (.inl (fun _ => 0))))))] H) (hD : va_D A [(q_1, .inr (8, [.ref xs_5, .ref xp_6, .int 0, .int 0, .ref xl_7, .ref xr_10])), (xs_5, .inl (cS_13, 3, .inr (.inr (.inr (.inr (fun _ => none)))))), (xp_6, .inl (cP_14, 8, .inr (.inr (.inr (.inr (fun _ => none)))))), (xl_7, .inr (4, [.ref xn_8, .ref xm_9])), (xn_8, .inl (cn_15, 64, .inr (.inl (fun _ => 0)))), (xm_9, .inl (cm_16, 64, .inr (.inl (fun _ => 0)))), (xr_10, .inr (6, [.ref xw_11, .ref xt_12])), (xw_11, .inl (cw_17, 8, .inr (.inl (fun _ => 0)))), (xt_12, .inl (ct_18, 8, .inr (.inl (fun _ => 0)))), (q_19, .inr (11, [.int 0, .ref ys_23, .ref yp_24, .int 0])), (ys_23, .inr (3, [.int 0, .ref (ta 4), .int 0])), (yp_24, .inr (3, [.int 0, .ref (ta 4), .int 0])), (q_25, .inl (cA_26, 1, .inr (.inl (fun _ => 0)))), (q_27, .inl (cA_28, 1, .inr (.inr (.inr (.inl (fun _ => 0))))))]) (hS : va_S A s.heap H locs) {ls : Array Slot} (hl : lv_has ls 9 [(5, .int 0), (4, .ref q_27), (3, .ref q_25), (2, .ref q_19), (1, .ref q_1), (0, .ref b)]) : W p l e room_1 s m #[Value.ref b] below meth c H locs 14 177 (lw_Z below #[Value.ref b] s) (F0 m 1337 ls []) := by
  obtain ⟨hx, hb, hr, hml, hown, hts, hX, hbl, hlocks, hgv⟩ := C0
  have hA : ∀ q : Nat, s.heap.size ≤ q → A q := fun q h => by rw [hAd]; exact h
  have hbA : ¬ A b := by rw [hAd]; exact Nat.not_le.mpr hbl
  refine lv_aload_n hx hb dL_law_1337 rfl (lv_at hl 4 rfl) ?_
  refine lv_aload_n hx hb dL_law_1338 rfl (lv_at hl 5 rfl) ?_
  refine lv_iload hx hb dL_law_1339 (lv_at hl 0 rfl) ?_
  refine lv_iconst (v := 1) hx hb dL_law_1341 (by decide) ?_
  refine lv_iadd hx hb dL_law_1342 ?_
  refine ax_i (y := 1) (by decide) ?_
  refine va_sld hx hb hX hbl hbA hS (by unfold vp_in; decide) dL_law_1343 ?_
  refine ax_i (y := xs 1) rfl ?_
  refine lv_aload_n hx hb dL_law_1344 rfl (lv_at hl 2 rfl) ?_
  have hPc := hP.sub (ws' := [(q_1, .inr (8, [.ref xs_5, .ref xp_6, .int 0, .int 0, .ref xl_7, .ref xr_10])), (xs_5, .inl (cS_13, 3, .inr (.inr (.inr (.inr (fun _ => none)))))), (xp_6, .inl (cP_14, 8, .inr (.inr (.inr (.inr (fun _ => none)))))), (xl_7, .inr (4, [.ref xn_8, .ref xm_9])), (xn_8, .inl (cn_15, 64, .inr (.inl (fun _ => 0)))), (xm_9, .inl (cm_16, 64, .inr (.inl (fun _ => 0)))), (xr_10, .inr (6, [.ref xw_11, .ref xt_12])), (xw_11, .inl (cw_17, 8, .inr (.inl (fun _ => 0)))), (xt_12, .inl (ct_18, 8, .inr (.inl (fun _ => 0)))), (q_25, .inl (cA_26, 1, .inr (.inl (fun _ => 0))))]) [0, 1, 2, 3, 4, 5, 6, 7, 8, 12] rfl
  have hKc := hK.sub (tys' := [(cS_13, .object "Diffractory$Source"), (cP_14, .object "Diffractory$Part"), (cn_15, .long), (cm_16, .long), (cw_17, .long), (ct_18, .long), (cA_26, .long)]) [0, 1, 2, 3, 4, 5, 6] rfl
  have hDc := hD.sub (ws' := [(q_1, .inr (8, [.ref xs_5, .ref xp_6, .int 0, .int 0, .ref xl_7, .ref xr_10])), (xs_5, .inl (cS_13, 3, .inr (.inr (.inr (.inr (fun _ => none)))))), (xp_6, .inl (cP_14, 8, .inr (.inr (.inr (.inr (fun _ => none)))))), (xl_7, .inr (4, [.ref xn_8, .ref xm_9])), (xn_8, .inl (cn_15, 64, .inr (.inl (fun _ => 0)))), (xm_9, .inl (cm_16, 64, .inr (.inl (fun _ => 0)))), (xr_10, .inr (6, [.ref xw_11, .ref xt_12])), (xw_11, .inl (cw_17, 8, .inr (.inl (fun _ => 0)))), (xt_12, .inl (ct_18, 8, .inr (.inl (fun _ => 0)))), (q_25, .inl (cA_26, 1, .inr (.inl (fun _ => 0))))]) [0, 1, 2, 3, 4, 5, 6, 7, 8, 12] (by decide) rfl
  have hFc := va_free (wc := [(q_1, .inr (8, [.ref xs_5, .ref xp_6, .int 0, .int 0, .ref xl_7, .ref xr_10])), (xs_5, .inl (cS_13, 3, .inr (.inr (.inr (.inr (fun _ => none)))))), (xp_6, .inl (cP_14, 8, .inr (.inr (.inr (.inr (fun _ => none)))))), (xl_7, .inr (4, [.ref xn_8, .ref xm_9])), (xn_8, .inl (cn_15, 64, .inr (.inl (fun _ => 0)))), (xm_9, .inl (cm_16, 64, .inr (.inl (fun _ => 0)))), (xr_10, .inr (6, [.ref xw_11, .ref xt_12])), (xw_11, .inl (cw_17, 8, .inr (.inl (fun _ => 0)))), (xt_12, .inl (ct_18, 8, .inr (.inl (fun _ => 0)))), (q_25, .inl (cA_26, 1, .inr (.inl (fun _ => 0))))]) hD hS hA [0, 1, 2, 3, 4, 5, 6, 7, 8, 12] rfl
  refine va_calli (vx_runSW (As := [.ref q_1, .int (xs 1), .ref q_25]) (rest := []) ⟨hx, hb, hml, hown, hts⟩ (c_L_loses l hlt dC dI q_1 xs_5 xp_6 xl_7 xn_8 xm_9 xr_10 xw_11 xt_12 q_25 cS_13 cP_14 cn_15 cm_16 cw_17 ct_18 cA_26 sa ta H.size (xs 1)) (vx_cwSW 3 hts gl_L_loses rfl rfl rfl (by decide +kernel) ⟨Nat.le_of_ble_eq_true rfl, Nat.le_of_ble_eq_true rfl⟩) ⟨ax_fbW, ax_prW hPc hKc hDc hS hFc hE⟩ rfl rfl hl.1 rfl (lv_room (Nat.le_of_ble_eq_true rfl)) dL_law_1345 ⟨Nat.le_of_ble_eq_true rfl, Nat.le_of_ble_eq_true rfl⟩) hS (fun q _ h9 => hFc q h9) hFc (fun r_312 u_314  t H locs ht hvm hw_313 hB hz1 hk1 hS => ?_)
  obtain ⟨of_315, rfl⟩ : ∃ z, z = u_314 := ⟨_, rfl⟩
  obtain ⟨hP1, hK1, hD1⟩ := hB
  rw [ht] at hP1
  have hK1 := va_K.moved hvm.symm hK1
  obtain ⟨hP, hD⟩ := va_join (wr := [(q_19, .inr (11, [.int 0, .ref ys_23, .ref yp_24, .int 0])), (ys_23, .inr (3, [.int 0, .ref (ta 4), .int 0])), (yp_24, .inr (3, [.int 0, .ref (ta 4), .int 0])), (q_27, .inl (cA_28, 1, .inr (.inr (.inr (.inl (fun _ => 0))))))]) (w1 := [(q_25, .inl (cA_26, 1, .inr (.inl of_315)))]) hP hD [0, 1, 2, 3, 4, 5, 6, 7, 8, 12] [9, 10, 11, 13] rfl rfl (by decide) (by decide) hk1 hFc hP1 hD1
  have hP : va_P (dC, dI) vwCl [(q_19, .inr (11, [.int 0, .ref ys_23, .ref yp_24, .int 0])), (ys_23, .inr (3, [.int 0, .ref (ta 4), .int 0])), (yp_24, .inr (3, [.int 0, .ref (ta 4), .int 0])), (q_27, .inl (cA_28, 1, .inr (.inr (.inr (.inl (fun _ => 0)))))), (q_25, .inl (cA_26, 1, .inr (.inl of_315)))] H := hP
  have hD : va_D A [(q_19, .inr (11, [.int 0, .ref ys_23, .ref yp_24, .int 0])), (ys_23, .inr (3, [.int 0, .ref (ta 4), .int 0])), (yp_24, .inr (3, [.int 0, .ref (ta 4), .int 0])), (q_27, .inl (cA_28, 1, .inr (.inr (.inr (.inl (fun _ => 0)))))), (q_25, .inl (cA_26, 1, .inr (.inl of_315)))] := hD
  refine ax_i (y := 1) hw_313 ?_
  refine lv_istore (lv' := [(6, .int 1), (5, .int 0), (4, .ref q_27), (3, .ref q_25), (2, .ref q_19), (1, .ref q_1), (0, .ref b)]) hx hb dL_law_1348 hl (by decide) rfl (fun ls hl => ?_)
  refine lv_aload_n hx hb dL_law_1350 rfl (lv_at hl 4 rfl) ?_
  refine lv_aload_n hx hb dL_law_1351 rfl (lv_at hl 6 rfl) ?_
  refine lv_iload hx hb dL_law_1352 (lv_at hl 1 rfl) ?_
  refine lv_iconst (v := 1) hx hb dL_law_1354 (by decide) ?_
  refine lv_iadd hx hb dL_law_1355 ?_
  refine ax_i (y := 1) (by decide) ?_
  refine va_sld hx hb hX hbl hbA hS (by unfold vp_in; decide) dL_law_1356 ?_
  refine ax_i (y := xs 1) rfl ?_
  have hPc := hP.sub (ws' := [(q_19, .inr (11, [.int 0, .ref ys_23, .ref yp_24, .int 0])), (ys_23, .inr (3, [.int 0, .ref (ta 4), .int 0])), (yp_24, .inr (3, [.int 0, .ref (ta 4), .int 0]))]) [0, 1, 2] rfl
  have hKc := hK.sub (tys' := []) [] rfl
  have hDc := hD.sub (ws' := [(q_19, .inr (11, [.int 0, .ref ys_23, .ref yp_24, .int 0])), (ys_23, .inr (3, [.int 0, .ref (ta 4), .int 0])), (yp_24, .inr (3, [.int 0, .ref (ta 4), .int 0]))]) [0, 1, 2] (by decide) rfl
  have hFc := va_free (wc := [(q_19, .inr (11, [.int 0, .ref ys_23, .ref yp_24, .int 0])), (ys_23, .inr (3, [.int 0, .ref (ta 4), .int 0])), (yp_24, .inr (3, [.int 0, .ref (ta 4), .int 0]))]) hD hS hA [0, 1, 2] rfl
  refine va_calll (va_runV (As := [.int (xs 1)]) (rest := []) ⟨hx, hb, hml, hown, hts⟩ (c_X7_loses l dC dI q_19 ys_23 yp_24 sa ta H.size 0 (xs 1)) (cwV 1 hts gl_X7_loses rfl rfl rfl (by decide +kernel) ⟨Nat.le_of_ble_eq_true rfl, Nat.le_of_ble_eq_true rfl⟩) ⟨ax_fbW, va_recv hK hP (ci := 11) (q0 := 0) rfl rfl, ax_prW hPc hKc hDc hS hFc hE⟩ rfl rfl hl.1 rfl (lv_room (Nat.le_of_ble_eq_true rfl)) dL_law_1357 ⟨Nat.le_of_ble_eq_true rfl, Nat.le_of_ble_eq_true rfl⟩) hS (fun q _ h9 => hFc q h9) hFc (fun r_316 u_318  t H locs ht hvm hw_317 hB hz1 hk1 hS => ?_)
  obtain ⟨th2_319, rfl⟩ : ∃ z, z = u_318 := ⟨_, rfl⟩
  obtain ⟨hP1, hK1, hD1⟩ := hB
  rw [ht] at hP1
  have hK1 := va_K.moved hvm.symm hK1
  obtain ⟨hP, hD⟩ := va_join (wr := [(q_27, .inl (cA_28, 1, .inr (.inr (.inr (.inl (fun _ => 0)))))), (q_25, .inl (cA_26, 1, .inr (.inl of_315)))]) (w1 := [(q_19, .inr (11, [.int th2_319, .ref ys_23, .ref yp_24, .int 0]))]) hP hD [0, 1, 2] [3, 4] rfl rfl (by decide) (by decide) hk1 hFc hP1 hD1
  have hP : va_P (dC, dI) vwCl [(q_27, .inl (cA_28, 1, .inr (.inr (.inr (.inl (fun _ => 0)))))), (q_25, .inl (cA_26, 1, .inr (.inl of_315))), (q_19, .inr (11, [.int th2_319, .ref ys_23, .ref yp_24, .int 0]))] H := hP
  have hD : va_D A [(q_27, .inl (cA_28, 1, .inr (.inr (.inr (.inl (fun _ => 0)))))), (q_25, .inl (cA_26, 1, .inr (.inl of_315))), (q_19, .inr (11, [.int th2_319, .ref ys_23, .ref yp_24, .int 0]))] := hD
  have e9 := hw_317
  subst e9
  refine lv_lstore (lv' := [(7, .long r_316), (6, .int 1), (5, .int 0), (4, .ref q_27), (3, .ref q_25), (2, .ref q_19), (1, .ref q_1), (0, .ref b)]) hx hb dL_law_1360 hl (by decide) rfl (fun ls hl => ?_)
  refine lv_aload_n hx hb dL_law_1362 rfl (lv_at hl 5 rfl) ?_
  have hPc := hP.sub (ws' := [(q_19, .inr (11, [.int 1, .ref ys_23, .ref yp_24, .int 0]))]) [2] rfl
  have hKc := hK.sub (tys' := []) [] rfl
  refine va_calli (va_runV (As := []) (rest := []) ⟨hx, hb, hml, hown, hts⟩ (c_X7_thrown l dC dI q_19 ys_23 yp_24 sa ta 1) (cwV 0 hts gl_X7_thrown rfl rfl rfl (by decide +kernel) ⟨Nat.le_of_ble_eq_true rfl, Nat.le_of_ble_eq_true rfl⟩) ⟨ax_fbR, va_recv hK hP (ci := 11) (q0 := 2) rfl rfl, ax_prR hPc hKc hS hE⟩ rfl rfl hl.1 rfl (lv_room (Nat.le_of_ble_eq_true rfl)) dL_law_1363 ⟨Nat.le_of_ble_eq_true rfl, Nat.le_of_ble_eq_true rfl⟩) hS (fun _ _ h9 => h9.elim) (fun _ h9 => h9.elim) (fun r_320 u_322  t H locs ht hvm hw_321 hB hz1 hk1 hS => ?_)
  have hP := ax_keep hP (fun _ h9 => h9) hk1
  refine ax_i (y := 1) hw_321 ?_
  refine lv_iload hx hb dL_law_1366 (lv_at hl 1 rfl) ?_
  refine lv_icmp_eq (tgt := 1373) hx hb dL_law_1368 (by decide) (fun _ => ?_) (fun h9 => absurd (by decide) h9)
  refine lv_iload hx hb dL_law_1373 (lv_at hl 1 rfl) ?_
  refine lv_if_ne (tgt := 1389) hx hb dL_law_1375 (by decide) (fun _ => ?_) (fun h9 => absurd h9 (by decide))
  refine lv_goto (tgt := 1857) hx hb dL_law_1389 (by decide) ?_
  refine lv_iinc (v := 5) (lv' := [(5, .int 5), (7, .long r_316), (6, .int 1), (4, .ref q_27), (3, .ref q_25), (2, .ref q_19), (1, .ref q_1), (0, .ref b)]) hx hb dL_law_1857 hl (k := 2) rfl (by decide) (by decide) rfl (fun ls hl => ?_)
  refine lv_goto (tgt := 28) hx hb dL_law_1860 (by decide) ?_
  refine lv_iload hx hb dL_law_28 (lv_at hl 0 rfl) ?_
  refine lv_aload_n hx hb dL_law_30 rfl (lv_at hl 7 rfl) ?_
  refine va_slen hx hb hX hbl hbA hS dL_law_31 ?_
  refine ax_i (y := 5) rfl ?_
  refine lv_iconst (v := 5) hx hb dL_law_32 (by decide) ?_
  refine lv_isub hx hb dL_law_33 ?_
  refine ax_i (y := 0) (by decide) ?_
  refine lv_icmp_gt (tgt := 1863) hx hb dL_law_34 (by decide) (fun _ => ?_) (fun h9 => absurd (by decide) h9)
  refine lv_iconst (v := 1) hx hb dL_law_1863 (by decide) ?_
  refine va_forget (fun q hq => by have h9 := hS.2.2 q hq; rw [hAd] at h9; exact h9) ?_
  refine W.widen (k := 600002) (n := 7302232) (Nat.le_of_ble_eq_true rfl) (Nat.le_of_ble_eq_true rfl) ?_
  refine W.base ?_
  exact lw_ret (Drawn.sameBut.refl s.drawn lw_cs) hx hb hr hlocks dL_law_1864

set_option maxHeartbeats 4000000 in
set_option maxRecDepth 100000 in
theorem law_c17 {p : Program} {e : Env} {s : State} {m : MethodId} {below : List Frame} {meth : Method} {c : Code} (l : Launch) (hlt : l.stackTraces = false) {dC : Nat → ClassId} {dI : Nat → Nat → Nat} {b : Nat} {xs : Nat → Int32} (C0 : lw_At p s m meth c b 5 xs) {A : Nat → Prop} (hAd : A = fun q => s.heap.size ≤ q) {sa ta : Nat → Nat} (hE : ax_S sa ta A s s.heap) {q_1 xs_5 xp_6 xl_7 xn_8 xm_9 xr_10 xw_11 xt_12 q_19 ys_23 yp_24 q_25 q_27 : Nat} {cS_13 cP_14 cn_15 cm_16 cw_17 ct_18 cA_26 cA_28 : ClassId} {H : Heap} {locs : List Loc} (hK : va_K (dC, dI) vwCl [(cS_13, .object "Diffractory$Source"), (cP_14, .object "Diffractory$Part"), (cn_15, .long), (cm_16, .long), (cw_17, .long), (ct_18, .long), (cA_26, .long), (cA_28, .double)] s) (hP : va_P (dC, dI) vwCl [(q_1, .inr (8, [.ref xs_5, .ref xp_6, .int 0, .int 0, .ref xl_7, .ref xr_10])), (xs_5, .inl (cS_13, 3, .inr (.inr (.inr (.inr (fun _ => none)))))), (xp_6, .inl (cP_14, 8, .inr (.inr (.inr (.inr (fun _ => none)))))), (xl_7, .inr (4, [.ref xn_8, .ref xm_9])), (xn_8, .inl (cn_15, 64, .inr (.inl (fun _ => 0)))), (xm_9, .inl (cm_16, 64, .inr (.inl (fun _ => 0)))), (xr_10, .inr (6, [.ref xw_11, .ref xt_12])), (xw_11, .inl (cw_17, 8, .inr (.inl (fun _ => 0)))), (xt_12, .inl (ct_18, 8, .inr (.inl (fun _ => 0)))), (q_19, .inr (11, [.int 0, .ref ys_23, .ref yp_24, .int 0])), (ys_23, .inr (3, [.int 0, .ref (ta 4), .int 0])), (yp_24, .inr (3, [.int 0, .ref (ta 4), .int 0])), (q_25, .inl (cA_26, 1, .inr (.inl (fun _ => 0)))), (q_27, .inl (cA_28, 1, .inr (.inr (.inr (.inl (fun _ => 0))))))] H) (hD : va_D A [(q_1, .inr (8, [.ref xs_5, .ref xp_6, .int 0, .int 0, .ref xl_7, .ref xr_10])), (xs_5, .inl (cS_13, 3, .inr (.inr (.inr (.inr (fun _ => none)))))), (xp_6, .inl (cP_14, 8, .inr (.inr (.inr (.inr (fun _ => none)))))), (xl_7, .inr (4, [.ref xn_8, .ref xm_9])), (xn_8, .inl (cn_15, 64, .inr (.inl (fun _ => 0)))), (xm_9, .inl (cm_16, 64, .inr (.inl (fun _ => 0)))), (xr_10, .inr (6, [.ref xw_11, .ref xt_12])), (xw_11, .inl (cw_17, 8, .inr (.inl (fun _ => 0)))), (xt_12, .inl (ct_18, 8, .inr (.inl (fun _ => 0)))), (q_19, .inr (11, [.int 0, .ref ys_23, .ref yp_24, .int 0])), (ys_23, .inr (3, [.int 0, .ref (ta 4), .int 0])), (yp_24, .inr (3, [.int 0, .ref (ta 4), .int 0])), (q_25, .inl (cA_26, 1, .inr (.inl (fun _ => 0)))), (q_27, .inl (cA_28, 1, .inr (.inr (.inr (.inl (fun _ => 0))))))]) (hS : va_S A s.heap H locs) {ls : Array Slot} (hl : lv_has ls 9 [(5, .int 0), (4, .ref q_27), (3, .ref q_25), (2, .ref q_19), (1, .ref q_1), (0, .ref b)]) : W p l e room_1 s m #[Value.ref b] below meth c H locs 14 177 (lw_Z below #[Value.ref b] s) (F0 m 1392 ls []) := by
  obtain ⟨hx, hb, hr, hml, hown, hts, hX, hbl, hlocks, hgv⟩ := C0
  have hA : ∀ q : Nat, s.heap.size ≤ q → A q := fun q h => by rw [hAd]; exact h
  have hbA : ¬ A b := by rw [hAd]; exact Nat.not_le.mpr hbl
  refine lv_aload_n hx hb dL_law_1392 rfl (lv_at hl 4 rfl) ?_
  refine lv_aload_n hx hb dL_law_1393 rfl (lv_at hl 5 rfl) ?_
  refine lv_iload hx hb dL_law_1394 (lv_at hl 0 rfl) ?_
  refine lv_iconst (v := 1) hx hb dL_law_1396 (by decide) ?_
  refine lv_iadd hx hb dL_law_1397 ?_
  refine ax_i (y := 1) (by decide) ?_
  refine va_sld hx hb hX hbl hbA hS (by unfold vp_in; decide) dL_law_1398 ?_
  refine ax_i (y := xs 1) rfl ?_
  refine lv_aload_n hx hb dL_law_1399 rfl (lv_at hl 5 rfl) ?_
  refine lv_iload hx hb dL_law_1400 (lv_at hl 0 rfl) ?_
  refine lv_iconst (v := 2) hx hb dL_law_1402 (by decide) ?_
  refine lv_iadd hx hb dL_law_1403 ?_
  refine ax_i (y := 2) (by decide) ?_
  refine va_sld hx hb hX hbl hbA hS (by unfold vp_in; decide) dL_law_1404 ?_
  refine ax_i (y := xs 2) rfl ?_
  refine lv_aload_n hx hb dL_law_1405 rfl (lv_at hl 2 rfl) ?_
  have hPc := hP.sub (ws' := [(q_1, .inr (8, [.ref xs_5, .ref xp_6, .int 0, .int 0, .ref xl_7, .ref xr_10])), (xs_5, .inl (cS_13, 3, .inr (.inr (.inr (.inr (fun _ => none)))))), (xp_6, .inl (cP_14, 8, .inr (.inr (.inr (.inr (fun _ => none)))))), (xl_7, .inr (4, [.ref xn_8, .ref xm_9])), (xn_8, .inl (cn_15, 64, .inr (.inl (fun _ => 0)))), (xm_9, .inl (cm_16, 64, .inr (.inl (fun _ => 0)))), (xr_10, .inr (6, [.ref xw_11, .ref xt_12])), (xw_11, .inl (cw_17, 8, .inr (.inl (fun _ => 0)))), (xt_12, .inl (ct_18, 8, .inr (.inl (fun _ => 0)))), (q_25, .inl (cA_26, 1, .inr (.inl (fun _ => 0))))]) [0, 1, 2, 3, 4, 5, 6, 7, 8, 12] rfl
  have hKc := hK.sub (tys' := [(cS_13, .object "Diffractory$Source"), (cP_14, .object "Diffractory$Part"), (cn_15, .long), (cm_16, .long), (cw_17, .long), (ct_18, .long), (cA_26, .long)]) [0, 1, 2, 3, 4, 5, 6] rfl
  have hDc := hD.sub (ws' := [(q_1, .inr (8, [.ref xs_5, .ref xp_6, .int 0, .int 0, .ref xl_7, .ref xr_10])), (xs_5, .inl (cS_13, 3, .inr (.inr (.inr (.inr (fun _ => none)))))), (xp_6, .inl (cP_14, 8, .inr (.inr (.inr (.inr (fun _ => none)))))), (xl_7, .inr (4, [.ref xn_8, .ref xm_9])), (xn_8, .inl (cn_15, 64, .inr (.inl (fun _ => 0)))), (xm_9, .inl (cm_16, 64, .inr (.inl (fun _ => 0)))), (xr_10, .inr (6, [.ref xw_11, .ref xt_12])), (xw_11, .inl (cw_17, 8, .inr (.inl (fun _ => 0)))), (xt_12, .inl (ct_18, 8, .inr (.inl (fun _ => 0)))), (q_25, .inl (cA_26, 1, .inr (.inl (fun _ => 0))))]) [0, 1, 2, 3, 4, 5, 6, 7, 8, 12] (by decide) rfl
  have hFc := va_free (wc := [(q_1, .inr (8, [.ref xs_5, .ref xp_6, .int 0, .int 0, .ref xl_7, .ref xr_10])), (xs_5, .inl (cS_13, 3, .inr (.inr (.inr (.inr (fun _ => none)))))), (xp_6, .inl (cP_14, 8, .inr (.inr (.inr (.inr (fun _ => none)))))), (xl_7, .inr (4, [.ref xn_8, .ref xm_9])), (xn_8, .inl (cn_15, 64, .inr (.inl (fun _ => 0)))), (xm_9, .inl (cm_16, 64, .inr (.inl (fun _ => 0)))), (xr_10, .inr (6, [.ref xw_11, .ref xt_12])), (xw_11, .inl (cw_17, 8, .inr (.inl (fun _ => 0)))), (xt_12, .inl (ct_18, 8, .inr (.inl (fun _ => 0)))), (q_25, .inl (cA_26, 1, .inr (.inl (fun _ => 0))))]) hD hS hA [0, 1, 2, 3, 4, 5, 6, 7, 8, 12] rfl
  refine va_calli (vx_runSW (As := [.ref q_1, .int (xs 1), .int (xs 2), .ref q_25]) (rest := []) ⟨hx, hb, hml, hown, hts⟩ (c_L_ofPart l hlt dC dI q_1 xs_5 xp_6 xl_7 xn_8 xm_9 xr_10 xw_11 xt_12 q_25 cS_13 cP_14 cn_15 cm_16 cw_17 ct_18 cA_26 sa ta H.size (xs 1) (xs 2)) (vx_cwSW 4 hts gl_L_ofPart rfl rfl rfl (by decide +kernel) ⟨Nat.le_of_ble_eq_true rfl, Nat.le_of_ble_eq_true rfl⟩) ⟨ax_fbW, ax_prW hPc hKc hDc hS hFc hE⟩ rfl rfl hl.1 rfl (lv_room (Nat.le_of_ble_eq_true rfl)) dL_law_1406 ⟨Nat.le_of_ble_eq_true rfl, Nat.le_of_ble_eq_true rfl⟩) hS (fun q _ h9 => hFc q h9) hFc (fun r_323 u_325  t H locs ht hvm hw_324 hB hz1 hk1 hS => ?_)
  obtain ⟨of_326, rfl⟩ : ∃ z, z = u_325 := ⟨_, rfl⟩
  obtain ⟨hP1, hK1, hD1⟩ := hB
  rw [ht] at hP1
  have hK1 := va_K.moved hvm.symm hK1
  obtain ⟨hP, hD⟩ := va_join (wr := [(q_19, .inr (11, [.int 0, .ref ys_23, .ref yp_24, .int 0])), (ys_23, .inr (3, [.int 0, .ref (ta 4), .int 0])), (yp_24, .inr (3, [.int 0, .ref (ta 4), .int 0])), (q_27, .inl (cA_28, 1, .inr (.inr (.inr (.inl (fun _ => 0))))))]) (w1 := [(q_25, .inl (cA_26, 1, .inr (.inl of_326)))]) hP hD [0, 1, 2, 3, 4, 5, 6, 7, 8, 12] [9, 10, 11, 13] rfl rfl (by decide) (by decide) hk1 hFc hP1 hD1
  have hP : va_P (dC, dI) vwCl [(q_19, .inr (11, [.int 0, .ref ys_23, .ref yp_24, .int 0])), (ys_23, .inr (3, [.int 0, .ref (ta 4), .int 0])), (yp_24, .inr (3, [.int 0, .ref (ta 4), .int 0])), (q_27, .inl (cA_28, 1, .inr (.inr (.inr (.inl (fun _ => 0)))))), (q_25, .inl (cA_26, 1, .inr (.inl of_326)))] H := hP
  have hD : va_D A [(q_19, .inr (11, [.int 0, .ref ys_23, .ref yp_24, .int 0])), (ys_23, .inr (3, [.int 0, .ref (ta 4), .int 0])), (yp_24, .inr (3, [.int 0, .ref (ta 4), .int 0])), (q_27, .inl (cA_28, 1, .inr (.inr (.inr (.inl (fun _ => 0)))))), (q_25, .inl (cA_26, 1, .inr (.inl of_326)))] := hD
  refine ax_i (y := 1) hw_324 ?_
  refine lv_istore (lv' := [(6, .int 1), (5, .int 0), (4, .ref q_27), (3, .ref q_25), (2, .ref q_19), (1, .ref q_1), (0, .ref b)]) hx hb dL_law_1409 hl (by decide) rfl (fun ls hl => ?_)
  refine lv_aload_n hx hb dL_law_1411 rfl (lv_at hl 4 rfl) ?_
  refine lv_aload_n hx hb dL_law_1412 rfl (lv_at hl 6 rfl) ?_
  refine lv_iload hx hb dL_law_1413 (lv_at hl 1 rfl) ?_
  refine lv_iconst (v := 1) hx hb dL_law_1415 (by decide) ?_
  refine lv_iadd hx hb dL_law_1416 ?_
  refine ax_i (y := 1) (by decide) ?_
  refine va_sld hx hb hX hbl hbA hS (by unfold vp_in; decide) dL_law_1417 ?_
  refine ax_i (y := xs 1) rfl ?_
  refine lv_aload_n hx hb dL_law_1418 rfl (lv_at hl 6 rfl) ?_
  refine lv_iload hx hb dL_law_1419 (lv_at hl 1 rfl) ?_
  refine lv_iconst (v := 2) hx hb dL_law_1421 (by decide) ?_
  refine lv_iadd hx hb dL_law_1422 ?_
  refine ax_i (y := 2) (by decide) ?_
  refine va_sld hx hb hX hbl hbA hS (by unfold vp_in; decide) dL_law_1423 ?_
  refine ax_i (y := xs 2) rfl ?_
  have hPc := hP.sub (ws' := [(q_19, .inr (11, [.int 0, .ref ys_23, .ref yp_24, .int 0])), (ys_23, .inr (3, [.int 0, .ref (ta 4), .int 0])), (yp_24, .inr (3, [.int 0, .ref (ta 4), .int 0]))]) [0, 1, 2] rfl
  have hKc := hK.sub (tys' := []) [] rfl
  have hDc := hD.sub (ws' := [(q_19, .inr (11, [.int 0, .ref ys_23, .ref yp_24, .int 0])), (ys_23, .inr (3, [.int 0, .ref (ta 4), .int 0])), (yp_24, .inr (3, [.int 0, .ref (ta 4), .int 0]))]) [0, 1, 2] (by decide) rfl
  have hFc := va_free (wc := [(q_19, .inr (11, [.int 0, .ref ys_23, .ref yp_24, .int 0])), (ys_23, .inr (3, [.int 0, .ref (ta 4), .int 0])), (yp_24, .inr (3, [.int 0, .ref (ta 4), .int 0]))]) hD hS hA [0, 1, 2] rfl
  refine va_calli (va_runV (As := [.int (xs 1), .int (xs 2)]) (rest := []) ⟨hx, hb, hml, hown, hts⟩ (c_X7_ofPart l dC dI q_19 ys_23 yp_24 sa ta H.size 0 (xs 1) (xs 2)) (cwV 2 hts gl_X7_ofPart rfl rfl rfl (by decide +kernel) ⟨Nat.le_of_ble_eq_true rfl, Nat.le_of_ble_eq_true rfl⟩) ⟨ax_fbW, va_recv hK hP (ci := 11) (q0 := 0) rfl rfl, ax_prW hPc hKc hDc hS hFc hE⟩ rfl rfl hl.1 rfl (lv_room (Nat.le_of_ble_eq_true rfl)) dL_law_1424 ⟨Nat.le_of_ble_eq_true rfl, Nat.le_of_ble_eq_true rfl⟩) hS (fun q _ h9 => hFc q h9) hFc (fun r_327 u_329  t H locs ht hvm hw_328 hB hz1 hk1 hS => ?_)
  obtain ⟨th2_330, rfl⟩ : ∃ z, z = u_329 := ⟨_, rfl⟩
  obtain ⟨hP1, hK1, hD1⟩ := hB
  rw [ht] at hP1
  have hK1 := va_K.moved hvm.symm hK1
  obtain ⟨hP, hD⟩ := va_join (wr := [(q_27, .inl (cA_28, 1, .inr (.inr (.inr (.inl (fun _ => 0)))))), (q_25, .inl (cA_26, 1, .inr (.inl of_326)))]) (w1 := [(q_19, .inr (11, [.int th2_330, .ref ys_23, .ref yp_24, .int 0]))]) hP hD [0, 1, 2] [3, 4] rfl rfl (by decide) (by decide) hk1 hFc hP1 hD1
  have hP : va_P (dC, dI) vwCl [(q_27, .inl (cA_28, 1, .inr (.inr (.inr (.inl (fun _ => 0)))))), (q_25, .inl (cA_26, 1, .inr (.inl of_326))), (q_19, .inr (11, [.int th2_330, .ref ys_23, .ref yp_24, .int 0]))] H := hP
  have hD : va_D A [(q_27, .inl (cA_28, 1, .inr (.inr (.inr (.inl (fun _ => 0)))))), (q_25, .inl (cA_26, 1, .inr (.inl of_326))), (q_19, .inr (11, [.int th2_330, .ref ys_23, .ref yp_24, .int 0]))] := hD
  have e9 := hw_328
  subst e9
  refine lv_istore (lv' := [(7, .int r_327), (6, .int 1), (5, .int 0), (4, .ref q_27), (3, .ref q_25), (2, .ref q_19), (1, .ref q_1), (0, .ref b)]) hx hb dL_law_1427 hl (by decide) rfl (fun ls hl => ?_)
  refine lv_aload_n hx hb dL_law_1429 rfl (lv_at hl 5 rfl) ?_
  have hPc := hP.sub (ws' := [(q_19, .inr (11, [.int 1, .ref ys_23, .ref yp_24, .int 0]))]) [2] rfl
  have hKc := hK.sub (tys' := []) [] rfl
  refine va_calli (va_runV (As := []) (rest := []) ⟨hx, hb, hml, hown, hts⟩ (c_X7_thrown l dC dI q_19 ys_23 yp_24 sa ta 1) (cwV 0 hts gl_X7_thrown rfl rfl rfl (by decide +kernel) ⟨Nat.le_of_ble_eq_true rfl, Nat.le_of_ble_eq_true rfl⟩) ⟨ax_fbR, va_recv hK hP (ci := 11) (q0 := 2) rfl rfl, ax_prR hPc hKc hS hE⟩ rfl rfl hl.1 rfl (lv_room (Nat.le_of_ble_eq_true rfl)) dL_law_1430 ⟨Nat.le_of_ble_eq_true rfl, Nat.le_of_ble_eq_true rfl⟩) hS (fun _ _ h9 => h9.elim) (fun _ h9 => h9.elim) (fun r_331 u_333  t H locs ht hvm hw_332 hB hz1 hk1 hS => ?_)
  have hP := ax_keep hP (fun _ h9 => h9) hk1
  refine ax_i (y := 1) hw_332 ?_
  refine lv_iload hx hb dL_law_1433 (lv_at hl 1 rfl) ?_
  refine lv_icmp_eq (tgt := 1440) hx hb dL_law_1435 (by decide) (fun _ => ?_) (fun h9 => absurd (by decide) h9)
  refine lv_iload hx hb dL_law_1440 (lv_at hl 1 rfl) ?_
  refine lv_if_ne (tgt := 1457) hx hb dL_law_1442 (by decide) (fun _ => ?_) (fun h9 => absurd h9 (by decide))
  refine lv_goto (tgt := 1857) hx hb dL_law_1457 (by decide) ?_
  refine lv_iinc (v := 5) (lv' := [(5, .int 5), (7, .int r_327), (6, .int 1), (4, .ref q_27), (3, .ref q_25), (2, .ref q_19), (1, .ref q_1), (0, .ref b)]) hx hb dL_law_1857 hl (k := 2) rfl (by decide) (by decide) rfl (fun ls hl => ?_)
  refine lv_goto (tgt := 28) hx hb dL_law_1860 (by decide) ?_
  refine lv_iload hx hb dL_law_28 (lv_at hl 0 rfl) ?_
  refine lv_aload_n hx hb dL_law_30 rfl (lv_at hl 7 rfl) ?_
  refine va_slen hx hb hX hbl hbA hS dL_law_31 ?_
  refine ax_i (y := 5) rfl ?_
  refine lv_iconst (v := 5) hx hb dL_law_32 (by decide) ?_
  refine lv_isub hx hb dL_law_33 ?_
  refine ax_i (y := 0) (by decide) ?_
  refine lv_icmp_gt (tgt := 1863) hx hb dL_law_34 (by decide) (fun _ => ?_) (fun h9 => absurd (by decide) h9)
  refine lv_iconst (v := 1) hx hb dL_law_1863 (by decide) ?_
  refine va_forget (fun q hq => by have h9 := hS.2.2 q hq; rw [hAd] at h9; exact h9) ?_
  refine W.widen (k := 600002) (n := 7302232) (Nat.le_of_ble_eq_true rfl) (Nat.le_of_ble_eq_true rfl) ?_
  refine W.base ?_
  exact lw_ret (Drawn.sameBut.refl s.drawn lw_cs) hx hb hr hlocks dL_law_1864

set_option maxHeartbeats 4000000 in
set_option maxRecDepth 100000 in
theorem law_c18 {p : Program} {e : Env} {s : State} {m : MethodId} {below : List Frame} {meth : Method} {c : Code} (l : Launch) (hlt : l.stackTraces = false) {dC : Nat → ClassId} {dI : Nat → Nat → Nat} {b : Nat} {xs : Nat → Int32} (C0 : lw_At p s m meth c b 5 xs) {A : Nat → Prop} (hAd : A = fun q => s.heap.size ≤ q) {sa ta : Nat → Nat} (hE : ax_S sa ta A s s.heap) {q_1 xs_5 xp_6 xl_7 xn_8 xm_9 xr_10 xw_11 xt_12 q_19 ys_23 yp_24 q_25 q_27 : Nat} {cS_13 cP_14 cn_15 cm_16 cw_17 ct_18 cA_26 cA_28 : ClassId} {H : Heap} {locs : List Loc} (hK : va_K (dC, dI) vwCl [(cS_13, .object "Diffractory$Source"), (cP_14, .object "Diffractory$Part"), (cn_15, .long), (cm_16, .long), (cw_17, .long), (ct_18, .long), (cA_26, .long), (cA_28, .double)] s) (hP : va_P (dC, dI) vwCl [(q_1, .inr (8, [.ref xs_5, .ref xp_6, .int 0, .int 0, .ref xl_7, .ref xr_10])), (xs_5, .inl (cS_13, 3, .inr (.inr (.inr (.inr (fun _ => none)))))), (xp_6, .inl (cP_14, 8, .inr (.inr (.inr (.inr (fun _ => none)))))), (xl_7, .inr (4, [.ref xn_8, .ref xm_9])), (xn_8, .inl (cn_15, 64, .inr (.inl (fun _ => 0)))), (xm_9, .inl (cm_16, 64, .inr (.inl (fun _ => 0)))), (xr_10, .inr (6, [.ref xw_11, .ref xt_12])), (xw_11, .inl (cw_17, 8, .inr (.inl (fun _ => 0)))), (xt_12, .inl (ct_18, 8, .inr (.inl (fun _ => 0)))), (q_19, .inr (11, [.int 0, .ref ys_23, .ref yp_24, .int 0])), (ys_23, .inr (3, [.int 0, .ref (ta 4), .int 0])), (yp_24, .inr (3, [.int 0, .ref (ta 4), .int 0])), (q_25, .inl (cA_26, 1, .inr (.inl (fun _ => 0)))), (q_27, .inl (cA_28, 1, .inr (.inr (.inr (.inl (fun _ => 0))))))] H) (hD : va_D A [(q_1, .inr (8, [.ref xs_5, .ref xp_6, .int 0, .int 0, .ref xl_7, .ref xr_10])), (xs_5, .inl (cS_13, 3, .inr (.inr (.inr (.inr (fun _ => none)))))), (xp_6, .inl (cP_14, 8, .inr (.inr (.inr (.inr (fun _ => none)))))), (xl_7, .inr (4, [.ref xn_8, .ref xm_9])), (xn_8, .inl (cn_15, 64, .inr (.inl (fun _ => 0)))), (xm_9, .inl (cm_16, 64, .inr (.inl (fun _ => 0)))), (xr_10, .inr (6, [.ref xw_11, .ref xt_12])), (xw_11, .inl (cw_17, 8, .inr (.inl (fun _ => 0)))), (xt_12, .inl (ct_18, 8, .inr (.inl (fun _ => 0)))), (q_19, .inr (11, [.int 0, .ref ys_23, .ref yp_24, .int 0])), (ys_23, .inr (3, [.int 0, .ref (ta 4), .int 0])), (yp_24, .inr (3, [.int 0, .ref (ta 4), .int 0])), (q_25, .inl (cA_26, 1, .inr (.inl (fun _ => 0)))), (q_27, .inl (cA_28, 1, .inr (.inr (.inr (.inl (fun _ => 0))))))]) (hS : va_S A s.heap H locs) {ls : Array Slot} (hl : lv_has ls 9 [(5, .int 0), (4, .ref q_27), (3, .ref q_25), (2, .ref q_19), (1, .ref q_1), (0, .ref b)]) : W p l e room_1 s m #[Value.ref b] below meth c H locs 14 177 (lw_Z below #[Value.ref b] s) (F0 m 1460 ls []) := by
  obtain ⟨hx, hb, hr, hml, hown, hts, hX, hbl, hlocks, hgv⟩ := C0
  have hA : ∀ q : Nat, s.heap.size ≤ q → A q := fun q h => by rw [hAd]; exact h
  have hbA : ¬ A b := by rw [hAd]; exact Nat.not_le.mpr hbl
  refine lv_aload_n hx hb dL_law_1460 rfl (lv_at hl 4 rfl) ?_
  refine lv_aload_n hx hb dL_law_1461 rfl (lv_at hl 5 rfl) ?_
  refine lv_iload hx hb dL_law_1462 (lv_at hl 0 rfl) ?_
  refine lv_iconst (v := 1) hx hb dL_law_1464 (by decide) ?_
  refine lv_iadd hx hb dL_law_1465 ?_
  refine ax_i (y := 1) (by decide) ?_
  refine va_sld hx hb hX hbl hbA hS (by unfold vp_in; decide) dL_law_1466 ?_
  refine ax_i (y := xs 1) rfl ?_
  refine lv_aload_n hx hb dL_law_1467 rfl (lv_at hl 5 rfl) ?_
  refine lv_iload hx hb dL_law_1468 (lv_at hl 0 rfl) ?_
  refine lv_iconst (v := 2) hx hb dL_law_1470 (by decide) ?_
  refine lv_iadd hx hb dL_law_1471 ?_
  refine ax_i (y := 2) (by decide) ?_
  refine va_sld hx hb hX hbl hbA hS (by unfold vp_in; decide) dL_law_1472 ?_
  refine ax_i (y := xs 2) rfl ?_
  refine lv_aload_n hx hb dL_law_1473 rfl (lv_at hl 2 rfl) ?_
  have hPc := hP.sub (ws' := [(q_1, .inr (8, [.ref xs_5, .ref xp_6, .int 0, .int 0, .ref xl_7, .ref xr_10])), (xs_5, .inl (cS_13, 3, .inr (.inr (.inr (.inr (fun _ => none)))))), (xp_6, .inl (cP_14, 8, .inr (.inr (.inr (.inr (fun _ => none)))))), (xl_7, .inr (4, [.ref xn_8, .ref xm_9])), (xn_8, .inl (cn_15, 64, .inr (.inl (fun _ => 0)))), (xm_9, .inl (cm_16, 64, .inr (.inl (fun _ => 0)))), (xr_10, .inr (6, [.ref xw_11, .ref xt_12])), (xw_11, .inl (cw_17, 8, .inr (.inl (fun _ => 0)))), (xt_12, .inl (ct_18, 8, .inr (.inl (fun _ => 0)))), (q_25, .inl (cA_26, 1, .inr (.inl (fun _ => 0))))]) [0, 1, 2, 3, 4, 5, 6, 7, 8, 12] rfl
  have hKc := hK.sub (tys' := [(cS_13, .object "Diffractory$Source"), (cP_14, .object "Diffractory$Part"), (cn_15, .long), (cm_16, .long), (cw_17, .long), (ct_18, .long), (cA_26, .long)]) [0, 1, 2, 3, 4, 5, 6] rfl
  have hDc := hD.sub (ws' := [(q_1, .inr (8, [.ref xs_5, .ref xp_6, .int 0, .int 0, .ref xl_7, .ref xr_10])), (xs_5, .inl (cS_13, 3, .inr (.inr (.inr (.inr (fun _ => none)))))), (xp_6, .inl (cP_14, 8, .inr (.inr (.inr (.inr (fun _ => none)))))), (xl_7, .inr (4, [.ref xn_8, .ref xm_9])), (xn_8, .inl (cn_15, 64, .inr (.inl (fun _ => 0)))), (xm_9, .inl (cm_16, 64, .inr (.inl (fun _ => 0)))), (xr_10, .inr (6, [.ref xw_11, .ref xt_12])), (xw_11, .inl (cw_17, 8, .inr (.inl (fun _ => 0)))), (xt_12, .inl (ct_18, 8, .inr (.inl (fun _ => 0)))), (q_25, .inl (cA_26, 1, .inr (.inl (fun _ => 0))))]) [0, 1, 2, 3, 4, 5, 6, 7, 8, 12] (by decide) rfl
  have hFc := va_free (wc := [(q_1, .inr (8, [.ref xs_5, .ref xp_6, .int 0, .int 0, .ref xl_7, .ref xr_10])), (xs_5, .inl (cS_13, 3, .inr (.inr (.inr (.inr (fun _ => none)))))), (xp_6, .inl (cP_14, 8, .inr (.inr (.inr (.inr (fun _ => none)))))), (xl_7, .inr (4, [.ref xn_8, .ref xm_9])), (xn_8, .inl (cn_15, 64, .inr (.inl (fun _ => 0)))), (xm_9, .inl (cm_16, 64, .inr (.inl (fun _ => 0)))), (xr_10, .inr (6, [.ref xw_11, .ref xt_12])), (xw_11, .inl (cw_17, 8, .inr (.inl (fun _ => 0)))), (xt_12, .inl (ct_18, 8, .inr (.inl (fun _ => 0)))), (q_25, .inl (cA_26, 1, .inr (.inl (fun _ => 0))))]) hD hS hA [0, 1, 2, 3, 4, 5, 6, 7, 8, 12] rfl
  refine va_calli (vx_runSW (As := [.ref q_1, .int (xs 1), .int (xs 2), .ref q_25]) (rest := []) ⟨hx, hb, hml, hown, hts⟩ (c_L_exposure l hlt dC dI q_1 xs_5 xp_6 xl_7 xn_8 xm_9 xr_10 xw_11 xt_12 q_25 cS_13 cP_14 cn_15 cm_16 cw_17 ct_18 cA_26 sa ta H.size (xs 1) (xs 2)) (vx_cwSW 4 hts gl_L_exposure rfl rfl rfl (by decide +kernel) ⟨Nat.le_of_ble_eq_true rfl, Nat.le_of_ble_eq_true rfl⟩) ⟨ax_fbW, ax_prW hPc hKc hDc hS hFc hE⟩ rfl rfl hl.1 rfl (lv_room (Nat.le_of_ble_eq_true rfl)) dL_law_1474 ⟨Nat.le_of_ble_eq_true rfl, Nat.le_of_ble_eq_true rfl⟩) hS (fun q _ h9 => hFc q h9) hFc (fun r_334 u_336  t H locs ht hvm hw_335 hB hz1 hk1 hS => ?_)
  obtain ⟨of_337, rfl⟩ : ∃ z, z = u_336 := ⟨_, rfl⟩
  obtain ⟨hP1, hK1, hD1⟩ := hB
  rw [ht] at hP1
  have hK1 := va_K.moved hvm.symm hK1
  obtain ⟨hP, hD⟩ := va_join (wr := [(q_19, .inr (11, [.int 0, .ref ys_23, .ref yp_24, .int 0])), (ys_23, .inr (3, [.int 0, .ref (ta 4), .int 0])), (yp_24, .inr (3, [.int 0, .ref (ta 4), .int 0])), (q_27, .inl (cA_28, 1, .inr (.inr (.inr (.inl (fun _ => 0))))))]) (w1 := [(q_25, .inl (cA_26, 1, .inr (.inl of_337)))]) hP hD [0, 1, 2, 3, 4, 5, 6, 7, 8, 12] [9, 10, 11, 13] rfl rfl (by decide) (by decide) hk1 hFc hP1 hD1
  have hP : va_P (dC, dI) vwCl [(q_19, .inr (11, [.int 0, .ref ys_23, .ref yp_24, .int 0])), (ys_23, .inr (3, [.int 0, .ref (ta 4), .int 0])), (yp_24, .inr (3, [.int 0, .ref (ta 4), .int 0])), (q_27, .inl (cA_28, 1, .inr (.inr (.inr (.inl (fun _ => 0)))))), (q_25, .inl (cA_26, 1, .inr (.inl of_337)))] H := hP
  have hD : va_D A [(q_19, .inr (11, [.int 0, .ref ys_23, .ref yp_24, .int 0])), (ys_23, .inr (3, [.int 0, .ref (ta 4), .int 0])), (yp_24, .inr (3, [.int 0, .ref (ta 4), .int 0])), (q_27, .inl (cA_28, 1, .inr (.inr (.inr (.inl (fun _ => 0)))))), (q_25, .inl (cA_26, 1, .inr (.inl of_337)))] := hD
  refine ax_i (y := 1) hw_335 ?_
  refine lv_istore (lv' := [(6, .int 1), (5, .int 0), (4, .ref q_27), (3, .ref q_25), (2, .ref q_19), (1, .ref q_1), (0, .ref b)]) hx hb dL_law_1477 hl (by decide) rfl (fun ls hl => ?_)
  refine lv_aload_n hx hb dL_law_1479 rfl (lv_at hl 4 rfl) ?_
  refine lv_aload_n hx hb dL_law_1480 rfl (lv_at hl 6 rfl) ?_
  refine lv_iload hx hb dL_law_1481 (lv_at hl 1 rfl) ?_
  refine lv_iconst (v := 1) hx hb dL_law_1483 (by decide) ?_
  refine lv_iadd hx hb dL_law_1484 ?_
  refine ax_i (y := 1) (by decide) ?_
  refine va_sld hx hb hX hbl hbA hS (by unfold vp_in; decide) dL_law_1485 ?_
  refine ax_i (y := xs 1) rfl ?_
  refine lv_aload_n hx hb dL_law_1486 rfl (lv_at hl 6 rfl) ?_
  refine lv_iload hx hb dL_law_1487 (lv_at hl 1 rfl) ?_
  refine lv_iconst (v := 2) hx hb dL_law_1489 (by decide) ?_
  refine lv_iadd hx hb dL_law_1490 ?_
  refine ax_i (y := 2) (by decide) ?_
  refine va_sld hx hb hX hbl hbA hS (by unfold vp_in; decide) dL_law_1491 ?_
  refine ax_i (y := xs 2) rfl ?_
  have hPc := hP.sub (ws' := [(q_19, .inr (11, [.int 0, .ref ys_23, .ref yp_24, .int 0])), (ys_23, .inr (3, [.int 0, .ref (ta 4), .int 0])), (yp_24, .inr (3, [.int 0, .ref (ta 4), .int 0]))]) [0, 1, 2] rfl
  have hKc := hK.sub (tys' := []) [] rfl
  have hDc := hD.sub (ws' := [(q_19, .inr (11, [.int 0, .ref ys_23, .ref yp_24, .int 0])), (ys_23, .inr (3, [.int 0, .ref (ta 4), .int 0])), (yp_24, .inr (3, [.int 0, .ref (ta 4), .int 0]))]) [0, 1, 2] (by decide) rfl
  have hFc := va_free (wc := [(q_19, .inr (11, [.int 0, .ref ys_23, .ref yp_24, .int 0])), (ys_23, .inr (3, [.int 0, .ref (ta 4), .int 0])), (yp_24, .inr (3, [.int 0, .ref (ta 4), .int 0]))]) hD hS hA [0, 1, 2] rfl
  refine va_calli (va_runV (As := [.int (xs 1), .int (xs 2)]) (rest := []) ⟨hx, hb, hml, hown, hts⟩ (c_X7_exposure l dC dI q_19 ys_23 yp_24 sa ta H.size 0 (xs 1) (xs 2)) (cwV 2 hts gl_X7_exposure rfl rfl rfl (by decide +kernel) ⟨Nat.le_of_ble_eq_true rfl, Nat.le_of_ble_eq_true rfl⟩) ⟨ax_fbW, va_recv hK hP (ci := 11) (q0 := 0) rfl rfl, ax_prW hPc hKc hDc hS hFc hE⟩ rfl rfl hl.1 rfl (lv_room (Nat.le_of_ble_eq_true rfl)) dL_law_1492 ⟨Nat.le_of_ble_eq_true rfl, Nat.le_of_ble_eq_true rfl⟩) hS (fun q _ h9 => hFc q h9) hFc (fun r_338 u_340  t H locs ht hvm hw_339 hB hz1 hk1 hS => ?_)
  obtain ⟨th2_341, rfl⟩ : ∃ z, z = u_340 := ⟨_, rfl⟩
  obtain ⟨hP1, hK1, hD1⟩ := hB
  rw [ht] at hP1
  have hK1 := va_K.moved hvm.symm hK1
  obtain ⟨hP, hD⟩ := va_join (wr := [(q_27, .inl (cA_28, 1, .inr (.inr (.inr (.inl (fun _ => 0)))))), (q_25, .inl (cA_26, 1, .inr (.inl of_337)))]) (w1 := [(q_19, .inr (11, [.int th2_341, .ref ys_23, .ref yp_24, .int 0]))]) hP hD [0, 1, 2] [3, 4] rfl rfl (by decide) (by decide) hk1 hFc hP1 hD1
  have hP : va_P (dC, dI) vwCl [(q_27, .inl (cA_28, 1, .inr (.inr (.inr (.inl (fun _ => 0)))))), (q_25, .inl (cA_26, 1, .inr (.inl of_337))), (q_19, .inr (11, [.int th2_341, .ref ys_23, .ref yp_24, .int 0]))] H := hP
  have hD : va_D A [(q_27, .inl (cA_28, 1, .inr (.inr (.inr (.inl (fun _ => 0)))))), (q_25, .inl (cA_26, 1, .inr (.inl of_337))), (q_19, .inr (11, [.int th2_341, .ref ys_23, .ref yp_24, .int 0]))] := hD
  have e9 := hw_339
  subst e9
  refine lv_istore (lv' := [(7, .int r_338), (6, .int 1), (5, .int 0), (4, .ref q_27), (3, .ref q_25), (2, .ref q_19), (1, .ref q_1), (0, .ref b)]) hx hb dL_law_1495 hl (by decide) rfl (fun ls hl => ?_)
  refine lv_aload_n hx hb dL_law_1497 rfl (lv_at hl 5 rfl) ?_
  have hPc := hP.sub (ws' := [(q_19, .inr (11, [.int 1, .ref ys_23, .ref yp_24, .int 0]))]) [2] rfl
  have hKc := hK.sub (tys' := []) [] rfl
  refine va_calli (va_runV (As := []) (rest := []) ⟨hx, hb, hml, hown, hts⟩ (c_X7_thrown l dC dI q_19 ys_23 yp_24 sa ta 1) (cwV 0 hts gl_X7_thrown rfl rfl rfl (by decide +kernel) ⟨Nat.le_of_ble_eq_true rfl, Nat.le_of_ble_eq_true rfl⟩) ⟨ax_fbR, va_recv hK hP (ci := 11) (q0 := 2) rfl rfl, ax_prR hPc hKc hS hE⟩ rfl rfl hl.1 rfl (lv_room (Nat.le_of_ble_eq_true rfl)) dL_law_1498 ⟨Nat.le_of_ble_eq_true rfl, Nat.le_of_ble_eq_true rfl⟩) hS (fun _ _ h9 => h9.elim) (fun _ h9 => h9.elim) (fun r_342 u_344  t H locs ht hvm hw_343 hB hz1 hk1 hS => ?_)
  have hP := ax_keep hP (fun _ h9 => h9) hk1
  refine ax_i (y := 1) hw_343 ?_
  refine lv_iload hx hb dL_law_1501 (lv_at hl 1 rfl) ?_
  refine lv_icmp_eq (tgt := 1508) hx hb dL_law_1503 (by decide) (fun _ => ?_) (fun h9 => absurd (by decide) h9)
  refine lv_iload hx hb dL_law_1508 (lv_at hl 1 rfl) ?_
  refine lv_if_ne (tgt := 1525) hx hb dL_law_1510 (by decide) (fun _ => ?_) (fun h9 => absurd h9 (by decide))
  refine lv_goto (tgt := 1857) hx hb dL_law_1525 (by decide) ?_
  refine lv_iinc (v := 5) (lv' := [(5, .int 5), (7, .int r_338), (6, .int 1), (4, .ref q_27), (3, .ref q_25), (2, .ref q_19), (1, .ref q_1), (0, .ref b)]) hx hb dL_law_1857 hl (k := 2) rfl (by decide) (by decide) rfl (fun ls hl => ?_)
  refine lv_goto (tgt := 28) hx hb dL_law_1860 (by decide) ?_
  refine lv_iload hx hb dL_law_28 (lv_at hl 0 rfl) ?_
  refine lv_aload_n hx hb dL_law_30 rfl (lv_at hl 7 rfl) ?_
  refine va_slen hx hb hX hbl hbA hS dL_law_31 ?_
  refine ax_i (y := 5) rfl ?_
  refine lv_iconst (v := 5) hx hb dL_law_32 (by decide) ?_
  refine lv_isub hx hb dL_law_33 ?_
  refine ax_i (y := 0) (by decide) ?_
  refine lv_icmp_gt (tgt := 1863) hx hb dL_law_34 (by decide) (fun _ => ?_) (fun h9 => absurd (by decide) h9)
  refine lv_iconst (v := 1) hx hb dL_law_1863 (by decide) ?_
  refine va_forget (fun q hq => by have h9 := hS.2.2 q hq; rw [hAd] at h9; exact h9) ?_
  refine W.widen (k := 600002) (n := 7302232) (Nat.le_of_ble_eq_true rfl) (Nat.le_of_ble_eq_true rfl) ?_
  refine W.base ?_
  exact lw_ret (Drawn.sameBut.refl s.drawn lw_cs) hx hb hr hlocks dL_law_1864

set_option maxHeartbeats 4000000 in
set_option maxRecDepth 100000 in
theorem law_c19 {p : Program} {e : Env} {s : State} {m : MethodId} {below : List Frame} {meth : Method} {c : Code} (l : Launch) (hlt : l.stackTraces = false) {dC : Nat → ClassId} {dI : Nat → Nat → Nat} {b : Nat} {xs : Nat → Int32} (C0 : lw_At p s m meth c b 5 xs) {A : Nat → Prop} (hAd : A = fun q => s.heap.size ≤ q) {sa ta : Nat → Nat} (hE : ax_S sa ta A s s.heap) {q_1 xs_5 xp_6 xl_7 xn_8 xm_9 xr_10 xw_11 xt_12 q_19 ys_23 yp_24 q_25 q_27 : Nat} {cS_13 cP_14 cn_15 cm_16 cw_17 ct_18 cA_26 cA_28 : ClassId} {H : Heap} {locs : List Loc} (hK : va_K (dC, dI) vwCl [(cS_13, .object "Diffractory$Source"), (cP_14, .object "Diffractory$Part"), (cn_15, .long), (cm_16, .long), (cw_17, .long), (ct_18, .long), (cA_26, .long), (cA_28, .double)] s) (hP : va_P (dC, dI) vwCl [(q_1, .inr (8, [.ref xs_5, .ref xp_6, .int 0, .int 0, .ref xl_7, .ref xr_10])), (xs_5, .inl (cS_13, 3, .inr (.inr (.inr (.inr (fun _ => none)))))), (xp_6, .inl (cP_14, 8, .inr (.inr (.inr (.inr (fun _ => none)))))), (xl_7, .inr (4, [.ref xn_8, .ref xm_9])), (xn_8, .inl (cn_15, 64, .inr (.inl (fun _ => 0)))), (xm_9, .inl (cm_16, 64, .inr (.inl (fun _ => 0)))), (xr_10, .inr (6, [.ref xw_11, .ref xt_12])), (xw_11, .inl (cw_17, 8, .inr (.inl (fun _ => 0)))), (xt_12, .inl (ct_18, 8, .inr (.inl (fun _ => 0)))), (q_19, .inr (11, [.int 0, .ref ys_23, .ref yp_24, .int 0])), (ys_23, .inr (3, [.int 0, .ref (ta 4), .int 0])), (yp_24, .inr (3, [.int 0, .ref (ta 4), .int 0])), (q_25, .inl (cA_26, 1, .inr (.inl (fun _ => 0)))), (q_27, .inl (cA_28, 1, .inr (.inr (.inr (.inl (fun _ => 0))))))] H) (hD : va_D A [(q_1, .inr (8, [.ref xs_5, .ref xp_6, .int 0, .int 0, .ref xl_7, .ref xr_10])), (xs_5, .inl (cS_13, 3, .inr (.inr (.inr (.inr (fun _ => none)))))), (xp_6, .inl (cP_14, 8, .inr (.inr (.inr (.inr (fun _ => none)))))), (xl_7, .inr (4, [.ref xn_8, .ref xm_9])), (xn_8, .inl (cn_15, 64, .inr (.inl (fun _ => 0)))), (xm_9, .inl (cm_16, 64, .inr (.inl (fun _ => 0)))), (xr_10, .inr (6, [.ref xw_11, .ref xt_12])), (xw_11, .inl (cw_17, 8, .inr (.inl (fun _ => 0)))), (xt_12, .inl (ct_18, 8, .inr (.inl (fun _ => 0)))), (q_19, .inr (11, [.int 0, .ref ys_23, .ref yp_24, .int 0])), (ys_23, .inr (3, [.int 0, .ref (ta 4), .int 0])), (yp_24, .inr (3, [.int 0, .ref (ta 4), .int 0])), (q_25, .inl (cA_26, 1, .inr (.inl (fun _ => 0)))), (q_27, .inl (cA_28, 1, .inr (.inr (.inr (.inl (fun _ => 0))))))]) (hS : va_S A s.heap H locs) {ls : Array Slot} (hl : lv_has ls 9 [(5, .int 0), (4, .ref q_27), (3, .ref q_25), (2, .ref q_19), (1, .ref q_1), (0, .ref b)]) : W p l e room_1 s m #[Value.ref b] below meth c H locs 14 177 (lw_Z below #[Value.ref b] s) (F0 m 1528 ls []) := by
  obtain ⟨hx, hb, hr, hml, hown, hts, hX, hbl, hlocks, hgv⟩ := C0
  have hA : ∀ q : Nat, s.heap.size ≤ q → A q := fun q h => by rw [hAd]; exact h
  have hbA : ¬ A b := by rw [hAd]; exact Nat.not_le.mpr hbl
  refine lv_aload_n hx hb dL_law_1528 rfl (lv_at hl 4 rfl) ?_
  refine lv_aload_n hx hb dL_law_1529 rfl (lv_at hl 5 rfl) ?_
  refine lv_iload hx hb dL_law_1530 (lv_at hl 0 rfl) ?_
  refine lv_iconst (v := 1) hx hb dL_law_1532 (by decide) ?_
  refine lv_iadd hx hb dL_law_1533 ?_
  refine ax_i (y := 1) (by decide) ?_
  refine va_sld hx hb hX hbl hbA hS (by unfold vp_in; decide) dL_law_1534 ?_
  refine ax_i (y := xs 1) rfl ?_
  refine lv_aload_n hx hb dL_law_1535 rfl (lv_at hl 5 rfl) ?_
  refine lv_iload hx hb dL_law_1536 (lv_at hl 0 rfl) ?_
  refine lv_iconst (v := 2) hx hb dL_law_1538 (by decide) ?_
  refine lv_iadd hx hb dL_law_1539 ?_
  refine ax_i (y := 2) (by decide) ?_
  refine va_sld hx hb hX hbl hbA hS (by unfold vp_in; decide) dL_law_1540 ?_
  refine ax_i (y := xs 2) rfl ?_
  refine lv_aload_n hx hb dL_law_1541 rfl (lv_at hl 2 rfl) ?_
  have hPc := hP.sub (ws' := [(q_1, .inr (8, [.ref xs_5, .ref xp_6, .int 0, .int 0, .ref xl_7, .ref xr_10])), (xs_5, .inl (cS_13, 3, .inr (.inr (.inr (.inr (fun _ => none)))))), (xp_6, .inl (cP_14, 8, .inr (.inr (.inr (.inr (fun _ => none)))))), (xl_7, .inr (4, [.ref xn_8, .ref xm_9])), (xn_8, .inl (cn_15, 64, .inr (.inl (fun _ => 0)))), (xm_9, .inl (cm_16, 64, .inr (.inl (fun _ => 0)))), (xr_10, .inr (6, [.ref xw_11, .ref xt_12])), (xw_11, .inl (cw_17, 8, .inr (.inl (fun _ => 0)))), (xt_12, .inl (ct_18, 8, .inr (.inl (fun _ => 0)))), (q_25, .inl (cA_26, 1, .inr (.inl (fun _ => 0))))]) [0, 1, 2, 3, 4, 5, 6, 7, 8, 12] rfl
  have hKc := hK.sub (tys' := [(cS_13, .object "Diffractory$Source"), (cP_14, .object "Diffractory$Part"), (cn_15, .long), (cm_16, .long), (cw_17, .long), (ct_18, .long), (cA_26, .long)]) [0, 1, 2, 3, 4, 5, 6] rfl
  have hDc := hD.sub (ws' := [(q_1, .inr (8, [.ref xs_5, .ref xp_6, .int 0, .int 0, .ref xl_7, .ref xr_10])), (xs_5, .inl (cS_13, 3, .inr (.inr (.inr (.inr (fun _ => none)))))), (xp_6, .inl (cP_14, 8, .inr (.inr (.inr (.inr (fun _ => none)))))), (xl_7, .inr (4, [.ref xn_8, .ref xm_9])), (xn_8, .inl (cn_15, 64, .inr (.inl (fun _ => 0)))), (xm_9, .inl (cm_16, 64, .inr (.inl (fun _ => 0)))), (xr_10, .inr (6, [.ref xw_11, .ref xt_12])), (xw_11, .inl (cw_17, 8, .inr (.inl (fun _ => 0)))), (xt_12, .inl (ct_18, 8, .inr (.inl (fun _ => 0)))), (q_25, .inl (cA_26, 1, .inr (.inl (fun _ => 0))))]) [0, 1, 2, 3, 4, 5, 6, 7, 8, 12] (by decide) rfl
  have hFc := va_free (wc := [(q_1, .inr (8, [.ref xs_5, .ref xp_6, .int 0, .int 0, .ref xl_7, .ref xr_10])), (xs_5, .inl (cS_13, 3, .inr (.inr (.inr (.inr (fun _ => none)))))), (xp_6, .inl (cP_14, 8, .inr (.inr (.inr (.inr (fun _ => none)))))), (xl_7, .inr (4, [.ref xn_8, .ref xm_9])), (xn_8, .inl (cn_15, 64, .inr (.inl (fun _ => 0)))), (xm_9, .inl (cm_16, 64, .inr (.inl (fun _ => 0)))), (xr_10, .inr (6, [.ref xw_11, .ref xt_12])), (xw_11, .inl (cw_17, 8, .inr (.inl (fun _ => 0)))), (xt_12, .inl (ct_18, 8, .inr (.inl (fun _ => 0)))), (q_25, .inl (cA_26, 1, .inr (.inl (fun _ => 0))))]) hD hS hA [0, 1, 2, 3, 4, 5, 6, 7, 8, 12] rfl
  refine va_calli (vx_runSW (As := [.ref q_1, .int (xs 1), .int (xs 2), .ref q_25]) (rest := []) ⟨hx, hb, hml, hown, hts⟩ (c_L_ofSource l hlt dC dI q_1 xs_5 xp_6 xl_7 xn_8 xm_9 xr_10 xw_11 xt_12 q_25 cS_13 cP_14 cn_15 cm_16 cw_17 ct_18 cA_26 sa ta H.size (xs 1) (xs 2)) (vx_cwSW 4 hts gl_L_ofSource rfl rfl rfl (by decide +kernel) ⟨Nat.le_of_ble_eq_true rfl, Nat.le_of_ble_eq_true rfl⟩) ⟨ax_fbW, ax_prW hPc hKc hDc hS hFc hE⟩ rfl rfl hl.1 rfl (lv_room (Nat.le_of_ble_eq_true rfl)) dL_law_1542 ⟨Nat.le_of_ble_eq_true rfl, Nat.le_of_ble_eq_true rfl⟩) hS (fun q _ h9 => hFc q h9) hFc (fun r_345 u_347  t H locs ht hvm hw_346 hB hz1 hk1 hS => ?_)
  obtain ⟨of_348, rfl⟩ : ∃ z, z = u_347 := ⟨_, rfl⟩
  obtain ⟨hP1, hK1, hD1⟩ := hB
  rw [ht] at hP1
  have hK1 := va_K.moved hvm.symm hK1
  obtain ⟨hP, hD⟩ := va_join (wr := [(q_19, .inr (11, [.int 0, .ref ys_23, .ref yp_24, .int 0])), (ys_23, .inr (3, [.int 0, .ref (ta 4), .int 0])), (yp_24, .inr (3, [.int 0, .ref (ta 4), .int 0])), (q_27, .inl (cA_28, 1, .inr (.inr (.inr (.inl (fun _ => 0))))))]) (w1 := [(q_25, .inl (cA_26, 1, .inr (.inl of_348)))]) hP hD [0, 1, 2, 3, 4, 5, 6, 7, 8, 12] [9, 10, 11, 13] rfl rfl (by decide) (by decide) hk1 hFc hP1 hD1
  have hP : va_P (dC, dI) vwCl [(q_19, .inr (11, [.int 0, .ref ys_23, .ref yp_24, .int 0])), (ys_23, .inr (3, [.int 0, .ref (ta 4), .int 0])), (yp_24, .inr (3, [.int 0, .ref (ta 4), .int 0])), (q_27, .inl (cA_28, 1, .inr (.inr (.inr (.inl (fun _ => 0)))))), (q_25, .inl (cA_26, 1, .inr (.inl of_348)))] H := hP
  have hD : va_D A [(q_19, .inr (11, [.int 0, .ref ys_23, .ref yp_24, .int 0])), (ys_23, .inr (3, [.int 0, .ref (ta 4), .int 0])), (yp_24, .inr (3, [.int 0, .ref (ta 4), .int 0])), (q_27, .inl (cA_28, 1, .inr (.inr (.inr (.inl (fun _ => 0)))))), (q_25, .inl (cA_26, 1, .inr (.inl of_348)))] := hD
  refine ax_i (y := 1) hw_346 ?_
  refine lv_istore (lv' := [(6, .int 1), (5, .int 0), (4, .ref q_27), (3, .ref q_25), (2, .ref q_19), (1, .ref q_1), (0, .ref b)]) hx hb dL_law_1545 hl (by decide) rfl (fun ls hl => ?_)
  refine lv_aload_n hx hb dL_law_1547 rfl (lv_at hl 4 rfl) ?_
  refine lv_aload_n hx hb dL_law_1548 rfl (lv_at hl 6 rfl) ?_
  refine lv_iload hx hb dL_law_1549 (lv_at hl 1 rfl) ?_
  refine lv_iconst (v := 1) hx hb dL_law_1551 (by decide) ?_
  refine lv_iadd hx hb dL_law_1552 ?_
  refine ax_i (y := 1) (by decide) ?_
  refine va_sld hx hb hX hbl hbA hS (by unfold vp_in; decide) dL_law_1553 ?_
  refine ax_i (y := xs 1) rfl ?_
  refine lv_aload_n hx hb dL_law_1554 rfl (lv_at hl 6 rfl) ?_
  refine lv_iload hx hb dL_law_1555 (lv_at hl 1 rfl) ?_
  refine lv_iconst (v := 2) hx hb dL_law_1557 (by decide) ?_
  refine lv_iadd hx hb dL_law_1558 ?_
  refine ax_i (y := 2) (by decide) ?_
  refine va_sld hx hb hX hbl hbA hS (by unfold vp_in; decide) dL_law_1559 ?_
  refine ax_i (y := xs 2) rfl ?_
  have hPc := hP.sub (ws' := [(q_19, .inr (11, [.int 0, .ref ys_23, .ref yp_24, .int 0])), (ys_23, .inr (3, [.int 0, .ref (ta 4), .int 0])), (yp_24, .inr (3, [.int 0, .ref (ta 4), .int 0]))]) [0, 1, 2] rfl
  have hKc := hK.sub (tys' := []) [] rfl
  have hDc := hD.sub (ws' := [(q_19, .inr (11, [.int 0, .ref ys_23, .ref yp_24, .int 0])), (ys_23, .inr (3, [.int 0, .ref (ta 4), .int 0])), (yp_24, .inr (3, [.int 0, .ref (ta 4), .int 0]))]) [0, 1, 2] (by decide) rfl
  have hFc := va_free (wc := [(q_19, .inr (11, [.int 0, .ref ys_23, .ref yp_24, .int 0])), (ys_23, .inr (3, [.int 0, .ref (ta 4), .int 0])), (yp_24, .inr (3, [.int 0, .ref (ta 4), .int 0]))]) hD hS hA [0, 1, 2] rfl
  refine va_calli (va_runV (As := [.int (xs 1), .int (xs 2)]) (rest := []) ⟨hx, hb, hml, hown, hts⟩ (c_X7_ofSource l dC dI q_19 ys_23 yp_24 sa ta H.size 0 (xs 1) (xs 2)) (cwV 2 hts gl_X7_ofSource rfl rfl rfl (by decide +kernel) ⟨Nat.le_of_ble_eq_true rfl, Nat.le_of_ble_eq_true rfl⟩) ⟨ax_fbW, va_recv hK hP (ci := 11) (q0 := 0) rfl rfl, ax_prW hPc hKc hDc hS hFc hE⟩ rfl rfl hl.1 rfl (lv_room (Nat.le_of_ble_eq_true rfl)) dL_law_1560 ⟨Nat.le_of_ble_eq_true rfl, Nat.le_of_ble_eq_true rfl⟩) hS (fun q _ h9 => hFc q h9) hFc (fun r_349 u_351  t H locs ht hvm hw_350 hB hz1 hk1 hS => ?_)
  obtain ⟨th2_352, rfl⟩ : ∃ z, z = u_351 := ⟨_, rfl⟩
  obtain ⟨hP1, hK1, hD1⟩ := hB
  rw [ht] at hP1
  have hK1 := va_K.moved hvm.symm hK1
  obtain ⟨hP, hD⟩ := va_join (wr := [(q_27, .inl (cA_28, 1, .inr (.inr (.inr (.inl (fun _ => 0)))))), (q_25, .inl (cA_26, 1, .inr (.inl of_348)))]) (w1 := [(q_19, .inr (11, [.int th2_352, .ref ys_23, .ref yp_24, .int 0]))]) hP hD [0, 1, 2] [3, 4] rfl rfl (by decide) (by decide) hk1 hFc hP1 hD1
  have hP : va_P (dC, dI) vwCl [(q_27, .inl (cA_28, 1, .inr (.inr (.inr (.inl (fun _ => 0)))))), (q_25, .inl (cA_26, 1, .inr (.inl of_348))), (q_19, .inr (11, [.int th2_352, .ref ys_23, .ref yp_24, .int 0]))] H := hP
  have hD : va_D A [(q_27, .inl (cA_28, 1, .inr (.inr (.inr (.inl (fun _ => 0)))))), (q_25, .inl (cA_26, 1, .inr (.inl of_348))), (q_19, .inr (11, [.int th2_352, .ref ys_23, .ref yp_24, .int 0]))] := hD
  have e9 := hw_350
  subst e9
  refine lv_istore (lv' := [(7, .int r_349), (6, .int 1), (5, .int 0), (4, .ref q_27), (3, .ref q_25), (2, .ref q_19), (1, .ref q_1), (0, .ref b)]) hx hb dL_law_1563 hl (by decide) rfl (fun ls hl => ?_)
  refine lv_aload_n hx hb dL_law_1565 rfl (lv_at hl 5 rfl) ?_
  have hPc := hP.sub (ws' := [(q_19, .inr (11, [.int 1, .ref ys_23, .ref yp_24, .int 0]))]) [2] rfl
  have hKc := hK.sub (tys' := []) [] rfl
  refine va_calli (va_runV (As := []) (rest := []) ⟨hx, hb, hml, hown, hts⟩ (c_X7_thrown l dC dI q_19 ys_23 yp_24 sa ta 1) (cwV 0 hts gl_X7_thrown rfl rfl rfl (by decide +kernel) ⟨Nat.le_of_ble_eq_true rfl, Nat.le_of_ble_eq_true rfl⟩) ⟨ax_fbR, va_recv hK hP (ci := 11) (q0 := 2) rfl rfl, ax_prR hPc hKc hS hE⟩ rfl rfl hl.1 rfl (lv_room (Nat.le_of_ble_eq_true rfl)) dL_law_1566 ⟨Nat.le_of_ble_eq_true rfl, Nat.le_of_ble_eq_true rfl⟩) hS (fun _ _ h9 => h9.elim) (fun _ h9 => h9.elim) (fun r_353 u_355  t H locs ht hvm hw_354 hB hz1 hk1 hS => ?_)
  have hP := ax_keep hP (fun _ h9 => h9) hk1
  refine ax_i (y := 1) hw_354 ?_
  refine lv_iload hx hb dL_law_1569 (lv_at hl 1 rfl) ?_
  refine lv_icmp_eq (tgt := 1576) hx hb dL_law_1571 (by decide) (fun _ => ?_) (fun h9 => absurd (by decide) h9)
  refine lv_iload hx hb dL_law_1576 (lv_at hl 1 rfl) ?_
  refine lv_if_ne (tgt := 1593) hx hb dL_law_1578 (by decide) (fun _ => ?_) (fun h9 => absurd h9 (by decide))
  refine lv_goto (tgt := 1857) hx hb dL_law_1593 (by decide) ?_
  refine lv_iinc (v := 5) (lv' := [(5, .int 5), (7, .int r_349), (6, .int 1), (4, .ref q_27), (3, .ref q_25), (2, .ref q_19), (1, .ref q_1), (0, .ref b)]) hx hb dL_law_1857 hl (k := 2) rfl (by decide) (by decide) rfl (fun ls hl => ?_)
  refine lv_goto (tgt := 28) hx hb dL_law_1860 (by decide) ?_
  refine lv_iload hx hb dL_law_28 (lv_at hl 0 rfl) ?_
  refine lv_aload_n hx hb dL_law_30 rfl (lv_at hl 7 rfl) ?_
  refine va_slen hx hb hX hbl hbA hS dL_law_31 ?_
  refine ax_i (y := 5) rfl ?_
  refine lv_iconst (v := 5) hx hb dL_law_32 (by decide) ?_
  refine lv_isub hx hb dL_law_33 ?_
  refine ax_i (y := 0) (by decide) ?_
  refine lv_icmp_gt (tgt := 1863) hx hb dL_law_34 (by decide) (fun _ => ?_) (fun h9 => absurd (by decide) h9)
  refine lv_iconst (v := 1) hx hb dL_law_1863 (by decide) ?_
  refine va_forget (fun q hq => by have h9 := hS.2.2 q hq; rw [hAd] at h9; exact h9) ?_
  refine W.widen (k := 600002) (n := 7302232) (Nat.le_of_ble_eq_true rfl) (Nat.le_of_ble_eq_true rfl) ?_
  refine W.base ?_
  exact lw_ret (Drawn.sameBut.refl s.drawn lw_cs) hx hb hr hlocks dL_law_1864

set_option maxHeartbeats 4000000 in
set_option maxRecDepth 100000 in
theorem law_c20 {p : Program} {e : Env} {s : State} {m : MethodId} {below : List Frame} {meth : Method} {c : Code} (l : Launch) (hlt : l.stackTraces = false) {dC : Nat → ClassId} {dI : Nat → Nat → Nat} {b : Nat} {xs : Nat → Int32} (C0 : lw_At p s m meth c b 5 xs) {A : Nat → Prop} (hAd : A = fun q => s.heap.size ≤ q) {sa ta : Nat → Nat} (hE : ax_S sa ta A s s.heap) {q_1 xs_5 xp_6 xl_7 xn_8 xm_9 xr_10 xw_11 xt_12 q_19 ys_23 yp_24 q_25 q_27 : Nat} {cS_13 cP_14 cn_15 cm_16 cw_17 ct_18 cA_26 cA_28 : ClassId} {H : Heap} {locs : List Loc} (hK : va_K (dC, dI) vwCl [(cS_13, .object "Diffractory$Source"), (cP_14, .object "Diffractory$Part"), (cn_15, .long), (cm_16, .long), (cw_17, .long), (ct_18, .long), (cA_26, .long), (cA_28, .double)] s) (hP : va_P (dC, dI) vwCl [(q_1, .inr (8, [.ref xs_5, .ref xp_6, .int 0, .int 0, .ref xl_7, .ref xr_10])), (xs_5, .inl (cS_13, 3, .inr (.inr (.inr (.inr (fun _ => none)))))), (xp_6, .inl (cP_14, 8, .inr (.inr (.inr (.inr (fun _ => none)))))), (xl_7, .inr (4, [.ref xn_8, .ref xm_9])), (xn_8, .inl (cn_15, 64, .inr (.inl (fun _ => 0)))), (xm_9, .inl (cm_16, 64, .inr (.inl (fun _ => 0)))), (xr_10, .inr (6, [.ref xw_11, .ref xt_12])), (xw_11, .inl (cw_17, 8, .inr (.inl (fun _ => 0)))), (xt_12, .inl (ct_18, 8, .inr (.inl (fun _ => 0)))), (q_19, .inr (11, [.int 0, .ref ys_23, .ref yp_24, .int 0])), (ys_23, .inr (3, [.int 0, .ref (ta 4), .int 0])), (yp_24, .inr (3, [.int 0, .ref (ta 4), .int 0])), (q_25, .inl (cA_26, 1, .inr (.inl (fun _ => 0)))), (q_27, .inl (cA_28, 1, .inr (.inr (.inr (.inl (fun _ => 0))))))] H) (hD : va_D A [(q_1, .inr (8, [.ref xs_5, .ref xp_6, .int 0, .int 0, .ref xl_7, .ref xr_10])), (xs_5, .inl (cS_13, 3, .inr (.inr (.inr (.inr (fun _ => none)))))), (xp_6, .inl (cP_14, 8, .inr (.inr (.inr (.inr (fun _ => none)))))), (xl_7, .inr (4, [.ref xn_8, .ref xm_9])), (xn_8, .inl (cn_15, 64, .inr (.inl (fun _ => 0)))), (xm_9, .inl (cm_16, 64, .inr (.inl (fun _ => 0)))), (xr_10, .inr (6, [.ref xw_11, .ref xt_12])), (xw_11, .inl (cw_17, 8, .inr (.inl (fun _ => 0)))), (xt_12, .inl (ct_18, 8, .inr (.inl (fun _ => 0)))), (q_19, .inr (11, [.int 0, .ref ys_23, .ref yp_24, .int 0])), (ys_23, .inr (3, [.int 0, .ref (ta 4), .int 0])), (yp_24, .inr (3, [.int 0, .ref (ta 4), .int 0])), (q_25, .inl (cA_26, 1, .inr (.inl (fun _ => 0)))), (q_27, .inl (cA_28, 1, .inr (.inr (.inr (.inl (fun _ => 0))))))]) (hS : va_S A s.heap H locs) {ls : Array Slot} (hl : lv_has ls 9 [(5, .int 0), (4, .ref q_27), (3, .ref q_25), (2, .ref q_19), (1, .ref q_1), (0, .ref b)]) : W p l e room_1 s m #[Value.ref b] below meth c H locs 14 177 (lw_Z below #[Value.ref b] s) (F0 m 1596 ls []) := by
  obtain ⟨hx, hb, hr, hml, hown, hts, hX, hbl, hlocks, hgv⟩ := C0
  have hA : ∀ q : Nat, s.heap.size ≤ q → A q := fun q h => by rw [hAd]; exact h
  have hbA : ¬ A b := by rw [hAd]; exact Nat.not_le.mpr hbl
  refine lv_aload_n hx hb dL_law_1596 rfl (lv_at hl 4 rfl) ?_
  refine lv_aload_n hx hb dL_law_1597 rfl (lv_at hl 5 rfl) ?_
  refine lv_iload hx hb dL_law_1598 (lv_at hl 0 rfl) ?_
  refine lv_iconst (v := 1) hx hb dL_law_1600 (by decide) ?_
  refine lv_iadd hx hb dL_law_1601 ?_
  refine ax_i (y := 1) (by decide) ?_
  refine va_sld hx hb hX hbl hbA hS (by unfold vp_in; decide) dL_law_1602 ?_
  refine ax_i (y := xs 1) rfl ?_
  refine lv_aload_n hx hb dL_law_1603 rfl (lv_at hl 2 rfl) ?_
  have hPc := hP.sub (ws' := [(q_1, .inr (8, [.ref xs_5, .ref xp_6, .int 0, .int 0, .ref xl_7, .ref xr_10])), (xs_5, .inl (cS_13, 3, .inr (.inr (.inr (.inr (fun _ => none)))))), (xp_6, .inl (cP_14, 8, .inr (.inr (.inr (.inr (fun _ => none)))))), (xl_7, .inr (4, [.ref xn_8, .ref xm_9])), (xn_8, .inl (cn_15, 64, .inr (.inl (fun _ => 0)))), (xm_9, .inl (cm_16, 64, .inr (.inl (fun _ => 0)))), (xr_10, .inr (6, [.ref xw_11, .ref xt_12])), (xw_11, .inl (cw_17, 8, .inr (.inl (fun _ => 0)))), (xt_12, .inl (ct_18, 8, .inr (.inl (fun _ => 0)))), (q_25, .inl (cA_26, 1, .inr (.inl (fun _ => 0))))]) [0, 1, 2, 3, 4, 5, 6, 7, 8, 12] rfl
  have hKc := hK.sub (tys' := [(cS_13, .object "Diffractory$Source"), (cP_14, .object "Diffractory$Part"), (cn_15, .long), (cm_16, .long), (cw_17, .long), (ct_18, .long), (cA_26, .long)]) [0, 1, 2, 3, 4, 5, 6] rfl
  have hDc := hD.sub (ws' := [(q_1, .inr (8, [.ref xs_5, .ref xp_6, .int 0, .int 0, .ref xl_7, .ref xr_10])), (xs_5, .inl (cS_13, 3, .inr (.inr (.inr (.inr (fun _ => none)))))), (xp_6, .inl (cP_14, 8, .inr (.inr (.inr (.inr (fun _ => none)))))), (xl_7, .inr (4, [.ref xn_8, .ref xm_9])), (xn_8, .inl (cn_15, 64, .inr (.inl (fun _ => 0)))), (xm_9, .inl (cm_16, 64, .inr (.inl (fun _ => 0)))), (xr_10, .inr (6, [.ref xw_11, .ref xt_12])), (xw_11, .inl (cw_17, 8, .inr (.inl (fun _ => 0)))), (xt_12, .inl (ct_18, 8, .inr (.inl (fun _ => 0)))), (q_25, .inl (cA_26, 1, .inr (.inl (fun _ => 0))))]) [0, 1, 2, 3, 4, 5, 6, 7, 8, 12] (by decide) rfl
  have hFc := va_free (wc := [(q_1, .inr (8, [.ref xs_5, .ref xp_6, .int 0, .int 0, .ref xl_7, .ref xr_10])), (xs_5, .inl (cS_13, 3, .inr (.inr (.inr (.inr (fun _ => none)))))), (xp_6, .inl (cP_14, 8, .inr (.inr (.inr (.inr (fun _ => none)))))), (xl_7, .inr (4, [.ref xn_8, .ref xm_9])), (xn_8, .inl (cn_15, 64, .inr (.inl (fun _ => 0)))), (xm_9, .inl (cm_16, 64, .inr (.inl (fun _ => 0)))), (xr_10, .inr (6, [.ref xw_11, .ref xt_12])), (xw_11, .inl (cw_17, 8, .inr (.inl (fun _ => 0)))), (xt_12, .inl (ct_18, 8, .inr (.inl (fun _ => 0)))), (q_25, .inl (cA_26, 1, .inr (.inl (fun _ => 0))))]) hD hS hA [0, 1, 2, 3, 4, 5, 6, 7, 8, 12] rfl
  refine va_calli (vx_runSW (As := [.ref q_1, .int (xs 1), .ref q_25]) (rest := []) ⟨hx, hb, hml, hown, hts⟩ (c_L_many l hlt dC dI q_1 xs_5 xp_6 xl_7 xn_8 xm_9 xr_10 xw_11 xt_12 q_25 cS_13 cP_14 cn_15 cm_16 cw_17 ct_18 cA_26 sa ta H.size (xs 1)) (vx_cwSW 3 hts gl_L_many rfl rfl rfl (by decide +kernel) ⟨Nat.le_of_ble_eq_true rfl, Nat.le_of_ble_eq_true rfl⟩) ⟨ax_fbW, ax_prW hPc hKc hDc hS hFc hE⟩ rfl rfl hl.1 rfl (lv_room (Nat.le_of_ble_eq_true rfl)) dL_law_1604 ⟨Nat.le_of_ble_eq_true rfl, Nat.le_of_ble_eq_true rfl⟩) hS (fun q _ h9 => hFc q h9) hFc (fun r_356 u_358  t H locs ht hvm hw_357 hB hz1 hk1 hS => ?_)
  obtain ⟨of_359, rfl⟩ : ∃ z, z = u_358 := ⟨_, rfl⟩
  obtain ⟨hP1, hK1, hD1⟩ := hB
  rw [ht] at hP1
  have hK1 := va_K.moved hvm.symm hK1
  obtain ⟨hP, hD⟩ := va_join (wr := [(q_19, .inr (11, [.int 0, .ref ys_23, .ref yp_24, .int 0])), (ys_23, .inr (3, [.int 0, .ref (ta 4), .int 0])), (yp_24, .inr (3, [.int 0, .ref (ta 4), .int 0])), (q_27, .inl (cA_28, 1, .inr (.inr (.inr (.inl (fun _ => 0))))))]) (w1 := [(q_25, .inl (cA_26, 1, .inr (.inl of_359)))]) hP hD [0, 1, 2, 3, 4, 5, 6, 7, 8, 12] [9, 10, 11, 13] rfl rfl (by decide) (by decide) hk1 hFc hP1 hD1
  have hP : va_P (dC, dI) vwCl [(q_19, .inr (11, [.int 0, .ref ys_23, .ref yp_24, .int 0])), (ys_23, .inr (3, [.int 0, .ref (ta 4), .int 0])), (yp_24, .inr (3, [.int 0, .ref (ta 4), .int 0])), (q_27, .inl (cA_28, 1, .inr (.inr (.inr (.inl (fun _ => 0)))))), (q_25, .inl (cA_26, 1, .inr (.inl of_359)))] H := hP
  have hD : va_D A [(q_19, .inr (11, [.int 0, .ref ys_23, .ref yp_24, .int 0])), (ys_23, .inr (3, [.int 0, .ref (ta 4), .int 0])), (yp_24, .inr (3, [.int 0, .ref (ta 4), .int 0])), (q_27, .inl (cA_28, 1, .inr (.inr (.inr (.inl (fun _ => 0)))))), (q_25, .inl (cA_26, 1, .inr (.inl of_359)))] := hD
  rcases (show ((xs 1).toInt = 3 ∨ ¬ (xs 1).toInt = 3) from Classical.em _) with h3 | h3 <;> rcases hw_357 with hw_357 | hw_357
  · have h8 := hw_357.2.2
    rw [if_pos h3] at h8
    refine ax_i (y := 0) hw_357.2.1 ?_
    refine lv_istore (lv' := [(6, .int 0), (5, .int 0), (4, .ref q_27), (3, .ref q_25), (2, .ref q_19), (1, .ref q_1), (0, .ref b)]) hx hb dL_law_1607 hl (by decide) rfl (fun ls hl => ?_)
    refine lv_aload_n hx hb dL_law_1609 rfl (lv_at hl 4 rfl) ?_
    refine lv_aload_n hx hb dL_law_1610 rfl (lv_at hl 6 rfl) ?_
    refine lv_iload hx hb dL_law_1611 (lv_at hl 1 rfl) ?_
    refine lv_iconst (v := 1) hx hb dL_law_1613 (by decide) ?_
    refine lv_iadd hx hb dL_law_1614 ?_
    refine ax_i (y := 1) (by decide) ?_
    refine va_sld hx hb hX hbl hbA hS (by unfold vp_in; decide) dL_law_1615 ?_
    refine ax_i (y := xs 1) rfl ?_
    have hPc := hP.sub (ws' := [(q_19, .inr (11, [.int 0, .ref ys_23, .ref yp_24, .int 0])), (ys_23, .inr (3, [.int 0, .ref (ta 4), .int 0])), (yp_24, .inr (3, [.int 0, .ref (ta 4), .int 0]))]) [0, 1, 2] rfl
    have hKc := hK.sub (tys' := []) [] rfl
    have hDc := hD.sub (ws' := [(q_19, .inr (11, [.int 0, .ref ys_23, .ref yp_24, .int 0])), (ys_23, .inr (3, [.int 0, .ref (ta 4), .int 0])), (yp_24, .inr (3, [.int 0, .ref (ta 4), .int 0]))]) [0, 1, 2] (by decide) rfl
    have hFc := va_free (wc := [(q_19, .inr (11, [.int 0, .ref ys_23, .ref yp_24, .int 0])), (ys_23, .inr (3, [.int 0, .ref (ta 4), .int 0])), (yp_24, .inr (3, [.int 0, .ref (ta 4), .int 0]))]) hD hS hA [0, 1, 2] rfl
    refine va_calli (va_runV (As := [.int (xs 1)]) (rest := []) ⟨hx, hb, hml, hown, hts⟩ (c_X7_many l dC dI q_19 ys_23 yp_24 sa ta H.size 0 (xs 1)) (cwV 1 hts gl_X7_many rfl rfl rfl (by decide +kernel) ⟨Nat.le_of_ble_eq_true rfl, Nat.le_of_ble_eq_true rfl⟩) ⟨ax_fbW, va_recv hK hP (ci := 11) (q0 := 0) rfl rfl, ax_prW hPc hKc hDc hS hFc hE⟩ rfl rfl hl.1 rfl (lv_room (Nat.le_of_ble_eq_true rfl)) dL_law_1616 ⟨Nat.le_of_ble_eq_true rfl, Nat.le_of_ble_eq_true rfl⟩) hS (fun q _ h9 => hFc q h9) hFc (fun r_360 u_362  t H locs ht hvm hw_361 hB hz1 hk1 hS => ?_)
    obtain ⟨th2_363, rfl⟩ : ∃ z, z = u_362 := ⟨_, rfl⟩
    obtain ⟨hP1, hK1, hD1⟩ := hB
    rw [ht] at hP1
    have hK1 := va_K.moved hvm.symm hK1
    obtain ⟨hP, hD⟩ := va_join (wr := [(q_27, .inl (cA_28, 1, .inr (.inr (.inr (.inl (fun _ => 0)))))), (q_25, .inl (cA_26, 1, .inr (.inl of_359)))]) (w1 := [(q_19, .inr (11, [.int th2_363, .ref ys_23, .ref yp_24, .int 0]))]) hP hD [0, 1, 2] [3, 4] rfl rfl (by decide) (by decide) hk1 hFc hP1 hD1
    have hP : va_P (dC, dI) vwCl [(q_27, .inl (cA_28, 1, .inr (.inr (.inr (.inl (fun _ => 0)))))), (q_25, .inl (cA_26, 1, .inr (.inl of_359))), (q_19, .inr (11, [.int th2_363, .ref ys_23, .ref yp_24, .int 0]))] H := hP
    have hD : va_D A [(q_27, .inl (cA_28, 1, .inr (.inr (.inr (.inl (fun _ => 0)))))), (q_25, .inl (cA_26, 1, .inr (.inl of_359))), (q_19, .inr (11, [.int th2_363, .ref ys_23, .ref yp_24, .int 0]))] := hD
    rcases hw_361 with hw_361 | hw_361
    · have e9 := hw_361.2.1
      subst e9
      refine ax_i (y := (-1)) (hw_361.2.2.trans (if_pos h3)) ?_
      refine lv_istore (lv' := [(7, .int (-1)), (6, .int 0), (5, .int 0), (4, .ref q_27), (3, .ref q_25), (2, .ref q_19), (1, .ref q_1), (0, .ref b)]) hx hb dL_law_1619 hl (by decide) rfl (fun ls hl => ?_)
      refine lv_aload_n hx hb dL_law_1621 rfl (lv_at hl 5 rfl) ?_
      have hPc := hP.sub (ws' := [(q_19, .inr (11, [.int 0, .ref ys_23, .ref yp_24, .int 0]))]) [2] rfl
      have hKc := hK.sub (tys' := []) [] rfl
      refine va_calli (va_runV (As := []) (rest := []) ⟨hx, hb, hml, hown, hts⟩ (c_X7_thrown l dC dI q_19 ys_23 yp_24 sa ta 0) (cwV 0 hts gl_X7_thrown rfl rfl rfl (by decide +kernel) ⟨Nat.le_of_ble_eq_true rfl, Nat.le_of_ble_eq_true rfl⟩) ⟨ax_fbR, va_recv hK hP (ci := 11) (q0 := 2) rfl rfl, ax_prR hPc hKc hS hE⟩ rfl rfl hl.1 rfl (lv_room (Nat.le_of_ble_eq_true rfl)) dL_law_1622 ⟨Nat.le_of_ble_eq_true rfl, Nat.le_of_ble_eq_true rfl⟩) hS (fun _ _ h9 => h9.elim) (fun _ h9 => h9.elim) (fun r_364 u_366  t H locs ht hvm hw_365 hB hz1 hk1 hS => ?_)
      have hP := ax_keep hP (fun _ h9 => h9) hk1
      refine ax_i (y := 0) hw_365 ?_
      refine lv_iload hx hb dL_law_1625 (lv_at hl 1 rfl) ?_
      refine lv_icmp_eq (tgt := 1632) hx hb dL_law_1627 (by decide) (fun _ => ?_) (fun h9 => absurd (by decide) h9)
      refine lv_iload hx hb dL_law_1632 (lv_at hl 1 rfl) ?_
      refine lv_if_ne (tgt := 1649) hx hb dL_law_1634 (by decide) (fun h9 => absurd rfl h9) (fun _ => ?_)
      refine lv_aload_n hx hb dL_law_1637 rfl (lv_at hl 4 rfl) ?_
      refine lv_iconst (v := 0) hx hb dL_law_1638 (by decide) ?_
      refine va_lald hx hb hK hP 1 6 rfl rfl (by unfold vp_in; decide) dL_law_1639 ?_
      refine ax_l (y := (-1)) h8 ?_
      refine lv_iload hx hb dL_law_1640 (lv_at hl 0 rfl) ?_
      refine lv_i2l (v := (-1)) hx hb dL_law_1642 (by decide) ?_
      refine W.lcmp hx hb dL_law_1643 ?_
      refine ax_i (y := 0) (by decide) ?_
      refine lv_if_eq (tgt := 1649) hx hb dL_law_1644 (by decide) (fun _ => ?_) (fun h9 => absurd (by decide) h9)
      refine lv_goto (tgt := 1857) hx hb dL_law_1649 (by decide) ?_
      refine lv_iinc (v := 5) (lv' := [(5, .int 5), (7, .int (-1)), (6, .int 0), (4, .ref q_27), (3, .ref q_25), (2, .ref q_19), (1, .ref q_1), (0, .ref b)]) hx hb dL_law_1857 hl (k := 2) rfl (by decide) (by decide) rfl (fun ls hl => ?_)
      refine lv_goto (tgt := 28) hx hb dL_law_1860 (by decide) ?_
      refine lv_iload hx hb dL_law_28 (lv_at hl 0 rfl) ?_
      refine lv_aload_n hx hb dL_law_30 rfl (lv_at hl 7 rfl) ?_
      refine va_slen hx hb hX hbl hbA hS dL_law_31 ?_
      refine ax_i (y := 5) rfl ?_
      refine lv_iconst (v := 5) hx hb dL_law_32 (by decide) ?_
      refine lv_isub hx hb dL_law_33 ?_
      refine ax_i (y := 0) (by decide) ?_
      refine lv_icmp_gt (tgt := 1863) hx hb dL_law_34 (by decide) (fun _ => ?_) (fun h9 => absurd (by decide) h9)
      refine lv_iconst (v := 1) hx hb dL_law_1863 (by decide) ?_
      refine va_forget (fun q hq => by have h9 := hS.2.2 q hq; rw [hAd] at h9; exact h9) ?_
      refine W.widen (k := 600002) (n := 7302232) (Nat.le_of_ble_eq_true rfl) (Nat.le_of_ble_eq_true rfl) ?_
      refine W.base ?_
      exact lw_ret (Drawn.sameBut.refl s.drawn lw_cs) hx hb hr hlocks dL_law_1864
    · exact absurd hw_357.1 hw_361.1
  · refine ax_i (y := 1) hw_357.2 ?_
    refine lv_istore (lv' := [(6, .int 1), (5, .int 0), (4, .ref q_27), (3, .ref q_25), (2, .ref q_19), (1, .ref q_1), (0, .ref b)]) hx hb dL_law_1607 hl (by decide) rfl (fun ls hl => ?_)
    refine lv_aload_n hx hb dL_law_1609 rfl (lv_at hl 4 rfl) ?_
    refine lv_aload_n hx hb dL_law_1610 rfl (lv_at hl 6 rfl) ?_
    refine lv_iload hx hb dL_law_1611 (lv_at hl 1 rfl) ?_
    refine lv_iconst (v := 1) hx hb dL_law_1613 (by decide) ?_
    refine lv_iadd hx hb dL_law_1614 ?_
    refine ax_i (y := 1) (by decide) ?_
    refine va_sld hx hb hX hbl hbA hS (by unfold vp_in; decide) dL_law_1615 ?_
    refine ax_i (y := xs 1) rfl ?_
    have hPc := hP.sub (ws' := [(q_19, .inr (11, [.int 0, .ref ys_23, .ref yp_24, .int 0])), (ys_23, .inr (3, [.int 0, .ref (ta 4), .int 0])), (yp_24, .inr (3, [.int 0, .ref (ta 4), .int 0]))]) [0, 1, 2] rfl
    have hKc := hK.sub (tys' := []) [] rfl
    have hDc := hD.sub (ws' := [(q_19, .inr (11, [.int 0, .ref ys_23, .ref yp_24, .int 0])), (ys_23, .inr (3, [.int 0, .ref (ta 4), .int 0])), (yp_24, .inr (3, [.int 0, .ref (ta 4), .int 0]))]) [0, 1, 2] (by decide) rfl
    have hFc := va_free (wc := [(q_19, .inr (11, [.int 0, .ref ys_23, .ref yp_24, .int 0])), (ys_23, .inr (3, [.int 0, .ref (ta 4), .int 0])), (yp_24, .inr (3, [.int 0, .ref (ta 4), .int 0]))]) hD hS hA [0, 1, 2] rfl
    refine va_calli (va_runV (As := [.int (xs 1)]) (rest := []) ⟨hx, hb, hml, hown, hts⟩ (c_X7_many l dC dI q_19 ys_23 yp_24 sa ta H.size 0 (xs 1)) (cwV 1 hts gl_X7_many rfl rfl rfl (by decide +kernel) ⟨Nat.le_of_ble_eq_true rfl, Nat.le_of_ble_eq_true rfl⟩) ⟨ax_fbW, va_recv hK hP (ci := 11) (q0 := 0) rfl rfl, ax_prW hPc hKc hDc hS hFc hE⟩ rfl rfl hl.1 rfl (lv_room (Nat.le_of_ble_eq_true rfl)) dL_law_1616 ⟨Nat.le_of_ble_eq_true rfl, Nat.le_of_ble_eq_true rfl⟩) hS (fun q _ h9 => hFc q h9) hFc (fun r_367 u_369  t H locs ht hvm hw_368 hB hz1 hk1 hS => ?_)
    obtain ⟨th2_370, rfl⟩ : ∃ z, z = u_369 := ⟨_, rfl⟩
    obtain ⟨hP1, hK1, hD1⟩ := hB
    rw [ht] at hP1
    have hK1 := va_K.moved hvm.symm hK1
    obtain ⟨hP, hD⟩ := va_join (wr := [(q_27, .inl (cA_28, 1, .inr (.inr (.inr (.inl (fun _ => 0)))))), (q_25, .inl (cA_26, 1, .inr (.inl of_359)))]) (w1 := [(q_19, .inr (11, [.int th2_370, .ref ys_23, .ref yp_24, .int 0]))]) hP hD [0, 1, 2] [3, 4] rfl rfl (by decide) (by decide) hk1 hFc hP1 hD1
    have hP : va_P (dC, dI) vwCl [(q_27, .inl (cA_28, 1, .inr (.inr (.inr (.inl (fun _ => 0)))))), (q_25, .inl (cA_26, 1, .inr (.inl of_359))), (q_19, .inr (11, [.int th2_370, .ref ys_23, .ref yp_24, .int 0]))] H := hP
    have hD : va_D A [(q_27, .inl (cA_28, 1, .inr (.inr (.inr (.inl (fun _ => 0)))))), (q_25, .inl (cA_26, 1, .inr (.inl of_359))), (q_19, .inr (11, [.int th2_370, .ref ys_23, .ref yp_24, .int 0]))] := hD
    rcases hw_368 with hw_368 | hw_368
    · exact absurd hw_368.1 hw_357.1
    · have e9 := hw_368.2
      subst e9
      refine lv_istore (lv' := [(7, .int r_367), (6, .int 1), (5, .int 0), (4, .ref q_27), (3, .ref q_25), (2, .ref q_19), (1, .ref q_1), (0, .ref b)]) hx hb dL_law_1619 hl (by decide) rfl (fun ls hl => ?_)
      refine lv_aload_n hx hb dL_law_1621 rfl (lv_at hl 5 rfl) ?_
      have hPc := hP.sub (ws' := [(q_19, .inr (11, [.int 1, .ref ys_23, .ref yp_24, .int 0]))]) [2] rfl
      have hKc := hK.sub (tys' := []) [] rfl
      refine va_calli (va_runV (As := []) (rest := []) ⟨hx, hb, hml, hown, hts⟩ (c_X7_thrown l dC dI q_19 ys_23 yp_24 sa ta 1) (cwV 0 hts gl_X7_thrown rfl rfl rfl (by decide +kernel) ⟨Nat.le_of_ble_eq_true rfl, Nat.le_of_ble_eq_true rfl⟩) ⟨ax_fbR, va_recv hK hP (ci := 11) (q0 := 2) rfl rfl, ax_prR hPc hKc hS hE⟩ rfl rfl hl.1 rfl (lv_room (Nat.le_of_ble_eq_true rfl)) dL_law_1622 ⟨Nat.le_of_ble_eq_true rfl, Nat.le_of_ble_eq_true rfl⟩) hS (fun _ _ h9 => h9.elim) (fun _ h9 => h9.elim) (fun r_371 u_373  t H locs ht hvm hw_372 hB hz1 hk1 hS => ?_)
      have hP := ax_keep hP (fun _ h9 => h9) hk1
      refine ax_i (y := 1) hw_372 ?_
      refine lv_iload hx hb dL_law_1625 (lv_at hl 1 rfl) ?_
      refine lv_icmp_eq (tgt := 1632) hx hb dL_law_1627 (by decide) (fun _ => ?_) (fun h9 => absurd (by decide) h9)
      refine lv_iload hx hb dL_law_1632 (lv_at hl 1 rfl) ?_
      refine lv_if_ne (tgt := 1649) hx hb dL_law_1634 (by decide) (fun _ => ?_) (fun h9 => absurd h9 (by decide))
      refine lv_goto (tgt := 1857) hx hb dL_law_1649 (by decide) ?_
      refine lv_iinc (v := 5) (lv' := [(5, .int 5), (7, .int r_367), (6, .int 1), (4, .ref q_27), (3, .ref q_25), (2, .ref q_19), (1, .ref q_1), (0, .ref b)]) hx hb dL_law_1857 hl (k := 2) rfl (by decide) (by decide) rfl (fun ls hl => ?_)
      refine lv_goto (tgt := 28) hx hb dL_law_1860 (by decide) ?_
      refine lv_iload hx hb dL_law_28 (lv_at hl 0 rfl) ?_
      refine lv_aload_n hx hb dL_law_30 rfl (lv_at hl 7 rfl) ?_
      refine va_slen hx hb hX hbl hbA hS dL_law_31 ?_
      refine ax_i (y := 5) rfl ?_
      refine lv_iconst (v := 5) hx hb dL_law_32 (by decide) ?_
      refine lv_isub hx hb dL_law_33 ?_
      refine ax_i (y := 0) (by decide) ?_
      refine lv_icmp_gt (tgt := 1863) hx hb dL_law_34 (by decide) (fun _ => ?_) (fun h9 => absurd (by decide) h9)
      refine lv_iconst (v := 1) hx hb dL_law_1863 (by decide) ?_
      refine va_forget (fun q hq => by have h9 := hS.2.2 q hq; rw [hAd] at h9; exact h9) ?_
      refine W.widen (k := 600002) (n := 7302232) (Nat.le_of_ble_eq_true rfl) (Nat.le_of_ble_eq_true rfl) ?_
      refine W.base ?_
      exact lw_ret (Drawn.sameBut.refl s.drawn lw_cs) hx hb hr hlocks dL_law_1864
  · have h8 := hw_357.2.2
    rw [if_neg h3] at h8
    refine ax_i (y := 0) hw_357.2.1 ?_
    refine lv_istore (lv' := [(6, .int 0), (5, .int 0), (4, .ref q_27), (3, .ref q_25), (2, .ref q_19), (1, .ref q_1), (0, .ref b)]) hx hb dL_law_1607 hl (by decide) rfl (fun ls hl => ?_)
    refine lv_aload_n hx hb dL_law_1609 rfl (lv_at hl 4 rfl) ?_
    refine lv_aload_n hx hb dL_law_1610 rfl (lv_at hl 6 rfl) ?_
    refine lv_iload hx hb dL_law_1611 (lv_at hl 1 rfl) ?_
    refine lv_iconst (v := 1) hx hb dL_law_1613 (by decide) ?_
    refine lv_iadd hx hb dL_law_1614 ?_
    refine ax_i (y := 1) (by decide) ?_
    refine va_sld hx hb hX hbl hbA hS (by unfold vp_in; decide) dL_law_1615 ?_
    refine ax_i (y := xs 1) rfl ?_
    have hPc := hP.sub (ws' := [(q_19, .inr (11, [.int 0, .ref ys_23, .ref yp_24, .int 0])), (ys_23, .inr (3, [.int 0, .ref (ta 4), .int 0])), (yp_24, .inr (3, [.int 0, .ref (ta 4), .int 0]))]) [0, 1, 2] rfl
    have hKc := hK.sub (tys' := []) [] rfl
    have hDc := hD.sub (ws' := [(q_19, .inr (11, [.int 0, .ref ys_23, .ref yp_24, .int 0])), (ys_23, .inr (3, [.int 0, .ref (ta 4), .int 0])), (yp_24, .inr (3, [.int 0, .ref (ta 4), .int 0]))]) [0, 1, 2] (by decide) rfl
    have hFc := va_free (wc := [(q_19, .inr (11, [.int 0, .ref ys_23, .ref yp_24, .int 0])), (ys_23, .inr (3, [.int 0, .ref (ta 4), .int 0])), (yp_24, .inr (3, [.int 0, .ref (ta 4), .int 0]))]) hD hS hA [0, 1, 2] rfl
    refine va_calli (va_runV (As := [.int (xs 1)]) (rest := []) ⟨hx, hb, hml, hown, hts⟩ (c_X7_many l dC dI q_19 ys_23 yp_24 sa ta H.size 0 (xs 1)) (cwV 1 hts gl_X7_many rfl rfl rfl (by decide +kernel) ⟨Nat.le_of_ble_eq_true rfl, Nat.le_of_ble_eq_true rfl⟩) ⟨ax_fbW, va_recv hK hP (ci := 11) (q0 := 0) rfl rfl, ax_prW hPc hKc hDc hS hFc hE⟩ rfl rfl hl.1 rfl (lv_room (Nat.le_of_ble_eq_true rfl)) dL_law_1616 ⟨Nat.le_of_ble_eq_true rfl, Nat.le_of_ble_eq_true rfl⟩) hS (fun q _ h9 => hFc q h9) hFc (fun r_374 u_376  t H locs ht hvm hw_375 hB hz1 hk1 hS => ?_)
    obtain ⟨th2_377, rfl⟩ : ∃ z, z = u_376 := ⟨_, rfl⟩
    obtain ⟨hP1, hK1, hD1⟩ := hB
    rw [ht] at hP1
    have hK1 := va_K.moved hvm.symm hK1
    obtain ⟨hP, hD⟩ := va_join (wr := [(q_27, .inl (cA_28, 1, .inr (.inr (.inr (.inl (fun _ => 0)))))), (q_25, .inl (cA_26, 1, .inr (.inl of_359)))]) (w1 := [(q_19, .inr (11, [.int th2_377, .ref ys_23, .ref yp_24, .int 0]))]) hP hD [0, 1, 2] [3, 4] rfl rfl (by decide) (by decide) hk1 hFc hP1 hD1
    have hP : va_P (dC, dI) vwCl [(q_27, .inl (cA_28, 1, .inr (.inr (.inr (.inl (fun _ => 0)))))), (q_25, .inl (cA_26, 1, .inr (.inl of_359))), (q_19, .inr (11, [.int th2_377, .ref ys_23, .ref yp_24, .int 0]))] H := hP
    have hD : va_D A [(q_27, .inl (cA_28, 1, .inr (.inr (.inr (.inl (fun _ => 0)))))), (q_25, .inl (cA_26, 1, .inr (.inl of_359))), (q_19, .inr (11, [.int th2_377, .ref ys_23, .ref yp_24, .int 0]))] := hD
    rcases hw_375 with hw_375 | hw_375
    · have e9 := hw_375.2.1
      subst e9
      refine ax_i (y := 0) (hw_375.2.2.trans (if_neg h3)) ?_
      refine lv_istore (lv' := [(7, .int 0), (6, .int 0), (5, .int 0), (4, .ref q_27), (3, .ref q_25), (2, .ref q_19), (1, .ref q_1), (0, .ref b)]) hx hb dL_law_1619 hl (by decide) rfl (fun ls hl => ?_)
      refine lv_aload_n hx hb dL_law_1621 rfl (lv_at hl 5 rfl) ?_
      have hPc := hP.sub (ws' := [(q_19, .inr (11, [.int 0, .ref ys_23, .ref yp_24, .int 0]))]) [2] rfl
      have hKc := hK.sub (tys' := []) [] rfl
      refine va_calli (va_runV (As := []) (rest := []) ⟨hx, hb, hml, hown, hts⟩ (c_X7_thrown l dC dI q_19 ys_23 yp_24 sa ta 0) (cwV 0 hts gl_X7_thrown rfl rfl rfl (by decide +kernel) ⟨Nat.le_of_ble_eq_true rfl, Nat.le_of_ble_eq_true rfl⟩) ⟨ax_fbR, va_recv hK hP (ci := 11) (q0 := 2) rfl rfl, ax_prR hPc hKc hS hE⟩ rfl rfl hl.1 rfl (lv_room (Nat.le_of_ble_eq_true rfl)) dL_law_1622 ⟨Nat.le_of_ble_eq_true rfl, Nat.le_of_ble_eq_true rfl⟩) hS (fun _ _ h9 => h9.elim) (fun _ h9 => h9.elim) (fun r_378 u_380  t H locs ht hvm hw_379 hB hz1 hk1 hS => ?_)
      have hP := ax_keep hP (fun _ h9 => h9) hk1
      refine ax_i (y := 0) hw_379 ?_
      refine lv_iload hx hb dL_law_1625 (lv_at hl 1 rfl) ?_
      refine lv_icmp_eq (tgt := 1632) hx hb dL_law_1627 (by decide) (fun _ => ?_) (fun h9 => absurd (by decide) h9)
      refine lv_iload hx hb dL_law_1632 (lv_at hl 1 rfl) ?_
      refine lv_if_ne (tgt := 1649) hx hb dL_law_1634 (by decide) (fun h9 => absurd rfl h9) (fun _ => ?_)
      refine lv_aload_n hx hb dL_law_1637 rfl (lv_at hl 4 rfl) ?_
      refine lv_iconst (v := 0) hx hb dL_law_1638 (by decide) ?_
      refine va_lald hx hb hK hP 1 6 rfl rfl (by unfold vp_in; decide) dL_law_1639 ?_
      refine ax_l (y := 0) h8 ?_
      refine lv_iload hx hb dL_law_1640 (lv_at hl 0 rfl) ?_
      refine lv_i2l (v := 0) hx hb dL_law_1642 (by decide) ?_
      refine W.lcmp hx hb dL_law_1643 ?_
      refine ax_i (y := 0) (by decide) ?_
      refine lv_if_eq (tgt := 1649) hx hb dL_law_1644 (by decide) (fun _ => ?_) (fun h9 => absurd (by decide) h9)
      refine lv_goto (tgt := 1857) hx hb dL_law_1649 (by decide) ?_
      refine lv_iinc (v := 5) (lv' := [(5, .int 5), (7, .int 0), (6, .int 0), (4, .ref q_27), (3, .ref q_25), (2, .ref q_19), (1, .ref q_1), (0, .ref b)]) hx hb dL_law_1857 hl (k := 2) rfl (by decide) (by decide) rfl (fun ls hl => ?_)
      refine lv_goto (tgt := 28) hx hb dL_law_1860 (by decide) ?_
      refine lv_iload hx hb dL_law_28 (lv_at hl 0 rfl) ?_
      refine lv_aload_n hx hb dL_law_30 rfl (lv_at hl 7 rfl) ?_
      refine va_slen hx hb hX hbl hbA hS dL_law_31 ?_
      refine ax_i (y := 5) rfl ?_
      refine lv_iconst (v := 5) hx hb dL_law_32 (by decide) ?_
      refine lv_isub hx hb dL_law_33 ?_
      refine ax_i (y := 0) (by decide) ?_
      refine lv_icmp_gt (tgt := 1863) hx hb dL_law_34 (by decide) (fun _ => ?_) (fun h9 => absurd (by decide) h9)
      refine lv_iconst (v := 1) hx hb dL_law_1863 (by decide) ?_
      refine va_forget (fun q hq => by have h9 := hS.2.2 q hq; rw [hAd] at h9; exact h9) ?_
      refine W.widen (k := 600002) (n := 7302232) (Nat.le_of_ble_eq_true rfl) (Nat.le_of_ble_eq_true rfl) ?_
      refine W.base ?_
      exact lw_ret (Drawn.sameBut.refl s.drawn lw_cs) hx hb hr hlocks dL_law_1864
    · exact absurd hw_357.1 hw_375.1
  · refine ax_i (y := 1) hw_357.2 ?_
    refine lv_istore (lv' := [(6, .int 1), (5, .int 0), (4, .ref q_27), (3, .ref q_25), (2, .ref q_19), (1, .ref q_1), (0, .ref b)]) hx hb dL_law_1607 hl (by decide) rfl (fun ls hl => ?_)
    refine lv_aload_n hx hb dL_law_1609 rfl (lv_at hl 4 rfl) ?_
    refine lv_aload_n hx hb dL_law_1610 rfl (lv_at hl 6 rfl) ?_
    refine lv_iload hx hb dL_law_1611 (lv_at hl 1 rfl) ?_
    refine lv_iconst (v := 1) hx hb dL_law_1613 (by decide) ?_
    refine lv_iadd hx hb dL_law_1614 ?_
    refine ax_i (y := 1) (by decide) ?_
    refine va_sld hx hb hX hbl hbA hS (by unfold vp_in; decide) dL_law_1615 ?_
    refine ax_i (y := xs 1) rfl ?_
    have hPc := hP.sub (ws' := [(q_19, .inr (11, [.int 0, .ref ys_23, .ref yp_24, .int 0])), (ys_23, .inr (3, [.int 0, .ref (ta 4), .int 0])), (yp_24, .inr (3, [.int 0, .ref (ta 4), .int 0]))]) [0, 1, 2] rfl
    have hKc := hK.sub (tys' := []) [] rfl
    have hDc := hD.sub (ws' := [(q_19, .inr (11, [.int 0, .ref ys_23, .ref yp_24, .int 0])), (ys_23, .inr (3, [.int 0, .ref (ta 4), .int 0])), (yp_24, .inr (3, [.int 0, .ref (ta 4), .int 0]))]) [0, 1, 2] (by decide) rfl
    have hFc := va_free (wc := [(q_19, .inr (11, [.int 0, .ref ys_23, .ref yp_24, .int 0])), (ys_23, .inr (3, [.int 0, .ref (ta 4), .int 0])), (yp_24, .inr (3, [.int 0, .ref (ta 4), .int 0]))]) hD hS hA [0, 1, 2] rfl
    refine va_calli (va_runV (As := [.int (xs 1)]) (rest := []) ⟨hx, hb, hml, hown, hts⟩ (c_X7_many l dC dI q_19 ys_23 yp_24 sa ta H.size 0 (xs 1)) (cwV 1 hts gl_X7_many rfl rfl rfl (by decide +kernel) ⟨Nat.le_of_ble_eq_true rfl, Nat.le_of_ble_eq_true rfl⟩) ⟨ax_fbW, va_recv hK hP (ci := 11) (q0 := 0) rfl rfl, ax_prW hPc hKc hDc hS hFc hE⟩ rfl rfl hl.1 rfl (lv_room (Nat.le_of_ble_eq_true rfl)) dL_law_1616 ⟨Nat.le_of_ble_eq_true rfl, Nat.le_of_ble_eq_true rfl⟩) hS (fun q _ h9 => hFc q h9) hFc (fun r_381 u_383  t H locs ht hvm hw_382 hB hz1 hk1 hS => ?_)
    obtain ⟨th2_384, rfl⟩ : ∃ z, z = u_383 := ⟨_, rfl⟩
    obtain ⟨hP1, hK1, hD1⟩ := hB
    rw [ht] at hP1
    have hK1 := va_K.moved hvm.symm hK1
    obtain ⟨hP, hD⟩ := va_join (wr := [(q_27, .inl (cA_28, 1, .inr (.inr (.inr (.inl (fun _ => 0)))))), (q_25, .inl (cA_26, 1, .inr (.inl of_359)))]) (w1 := [(q_19, .inr (11, [.int th2_384, .ref ys_23, .ref yp_24, .int 0]))]) hP hD [0, 1, 2] [3, 4] rfl rfl (by decide) (by decide) hk1 hFc hP1 hD1
    have hP : va_P (dC, dI) vwCl [(q_27, .inl (cA_28, 1, .inr (.inr (.inr (.inl (fun _ => 0)))))), (q_25, .inl (cA_26, 1, .inr (.inl of_359))), (q_19, .inr (11, [.int th2_384, .ref ys_23, .ref yp_24, .int 0]))] H := hP
    have hD : va_D A [(q_27, .inl (cA_28, 1, .inr (.inr (.inr (.inl (fun _ => 0)))))), (q_25, .inl (cA_26, 1, .inr (.inl of_359))), (q_19, .inr (11, [.int th2_384, .ref ys_23, .ref yp_24, .int 0]))] := hD
    rcases hw_382 with hw_382 | hw_382
    · exact absurd hw_382.1 hw_357.1
    · have e9 := hw_382.2
      subst e9
      refine lv_istore (lv' := [(7, .int r_381), (6, .int 1), (5, .int 0), (4, .ref q_27), (3, .ref q_25), (2, .ref q_19), (1, .ref q_1), (0, .ref b)]) hx hb dL_law_1619 hl (by decide) rfl (fun ls hl => ?_)
      refine lv_aload_n hx hb dL_law_1621 rfl (lv_at hl 5 rfl) ?_
      have hPc := hP.sub (ws' := [(q_19, .inr (11, [.int 1, .ref ys_23, .ref yp_24, .int 0]))]) [2] rfl
      have hKc := hK.sub (tys' := []) [] rfl
      refine va_calli (va_runV (As := []) (rest := []) ⟨hx, hb, hml, hown, hts⟩ (c_X7_thrown l dC dI q_19 ys_23 yp_24 sa ta 1) (cwV 0 hts gl_X7_thrown rfl rfl rfl (by decide +kernel) ⟨Nat.le_of_ble_eq_true rfl, Nat.le_of_ble_eq_true rfl⟩) ⟨ax_fbR, va_recv hK hP (ci := 11) (q0 := 2) rfl rfl, ax_prR hPc hKc hS hE⟩ rfl rfl hl.1 rfl (lv_room (Nat.le_of_ble_eq_true rfl)) dL_law_1622 ⟨Nat.le_of_ble_eq_true rfl, Nat.le_of_ble_eq_true rfl⟩) hS (fun _ _ h9 => h9.elim) (fun _ h9 => h9.elim) (fun r_385 u_387  t H locs ht hvm hw_386 hB hz1 hk1 hS => ?_)
      have hP := ax_keep hP (fun _ h9 => h9) hk1
      refine ax_i (y := 1) hw_386 ?_
      refine lv_iload hx hb dL_law_1625 (lv_at hl 1 rfl) ?_
      refine lv_icmp_eq (tgt := 1632) hx hb dL_law_1627 (by decide) (fun _ => ?_) (fun h9 => absurd (by decide) h9)
      refine lv_iload hx hb dL_law_1632 (lv_at hl 1 rfl) ?_
      refine lv_if_ne (tgt := 1649) hx hb dL_law_1634 (by decide) (fun _ => ?_) (fun h9 => absurd h9 (by decide))
      refine lv_goto (tgt := 1857) hx hb dL_law_1649 (by decide) ?_
      refine lv_iinc (v := 5) (lv' := [(5, .int 5), (7, .int r_381), (6, .int 1), (4, .ref q_27), (3, .ref q_25), (2, .ref q_19), (1, .ref q_1), (0, .ref b)]) hx hb dL_law_1857 hl (k := 2) rfl (by decide) (by decide) rfl (fun ls hl => ?_)
      refine lv_goto (tgt := 28) hx hb dL_law_1860 (by decide) ?_
      refine lv_iload hx hb dL_law_28 (lv_at hl 0 rfl) ?_
      refine lv_aload_n hx hb dL_law_30 rfl (lv_at hl 7 rfl) ?_
      refine va_slen hx hb hX hbl hbA hS dL_law_31 ?_
      refine ax_i (y := 5) rfl ?_
      refine lv_iconst (v := 5) hx hb dL_law_32 (by decide) ?_
      refine lv_isub hx hb dL_law_33 ?_
      refine ax_i (y := 0) (by decide) ?_
      refine lv_icmp_gt (tgt := 1863) hx hb dL_law_34 (by decide) (fun _ => ?_) (fun h9 => absurd (by decide) h9)
      refine lv_iconst (v := 1) hx hb dL_law_1863 (by decide) ?_
      refine va_forget (fun q hq => by have h9 := hS.2.2 q hq; rw [hAd] at h9; exact h9) ?_
      refine W.widen (k := 600002) (n := 7302232) (Nat.le_of_ble_eq_true rfl) (Nat.le_of_ble_eq_true rfl) ?_
      refine W.base ?_
      exact lw_ret (Drawn.sameBut.refl s.drawn lw_cs) hx hb hr hlocks dL_law_1864

set_option maxHeartbeats 4000000 in
set_option maxRecDepth 100000 in
theorem law_c21 {p : Program} {e : Env} {s : State} {m : MethodId} {below : List Frame} {meth : Method} {c : Code} (l : Launch) (hlt : l.stackTraces = false) {dC : Nat → ClassId} {dI : Nat → Nat → Nat} {b : Nat} {xs : Nat → Int32} (C0 : lw_At p s m meth c b 5 xs) {A : Nat → Prop} (hAd : A = fun q => s.heap.size ≤ q) {sa ta : Nat → Nat} (hE : ax_S sa ta A s s.heap) {q_1 xs_5 xp_6 xl_7 xn_8 xm_9 xr_10 xw_11 xt_12 q_19 ys_23 yp_24 q_25 q_27 : Nat} {cS_13 cP_14 cn_15 cm_16 cw_17 ct_18 cA_26 cA_28 : ClassId} {H : Heap} {locs : List Loc} (hK : va_K (dC, dI) vwCl [(cS_13, .object "Diffractory$Source"), (cP_14, .object "Diffractory$Part"), (cn_15, .long), (cm_16, .long), (cw_17, .long), (ct_18, .long), (cA_26, .long), (cA_28, .double)] s) (hP : va_P (dC, dI) vwCl [(q_1, .inr (8, [.ref xs_5, .ref xp_6, .int 0, .int 0, .ref xl_7, .ref xr_10])), (xs_5, .inl (cS_13, 3, .inr (.inr (.inr (.inr (fun _ => none)))))), (xp_6, .inl (cP_14, 8, .inr (.inr (.inr (.inr (fun _ => none)))))), (xl_7, .inr (4, [.ref xn_8, .ref xm_9])), (xn_8, .inl (cn_15, 64, .inr (.inl (fun _ => 0)))), (xm_9, .inl (cm_16, 64, .inr (.inl (fun _ => 0)))), (xr_10, .inr (6, [.ref xw_11, .ref xt_12])), (xw_11, .inl (cw_17, 8, .inr (.inl (fun _ => 0)))), (xt_12, .inl (ct_18, 8, .inr (.inl (fun _ => 0)))), (q_19, .inr (11, [.int 0, .ref ys_23, .ref yp_24, .int 0])), (ys_23, .inr (3, [.int 0, .ref (ta 4), .int 0])), (yp_24, .inr (3, [.int 0, .ref (ta 4), .int 0])), (q_25, .inl (cA_26, 1, .inr (.inl (fun _ => 0)))), (q_27, .inl (cA_28, 1, .inr (.inr (.inr (.inl (fun _ => 0))))))] H) (hD : va_D A [(q_1, .inr (8, [.ref xs_5, .ref xp_6, .int 0, .int 0, .ref xl_7, .ref xr_10])), (xs_5, .inl (cS_13, 3, .inr (.inr (.inr (.inr (fun _ => none)))))), (xp_6, .inl (cP_14, 8, .inr (.inr (.inr (.inr (fun _ => none)))))), (xl_7, .inr (4, [.ref xn_8, .ref xm_9])), (xn_8, .inl (cn_15, 64, .inr (.inl (fun _ => 0)))), (xm_9, .inl (cm_16, 64, .inr (.inl (fun _ => 0)))), (xr_10, .inr (6, [.ref xw_11, .ref xt_12])), (xw_11, .inl (cw_17, 8, .inr (.inl (fun _ => 0)))), (xt_12, .inl (ct_18, 8, .inr (.inl (fun _ => 0)))), (q_19, .inr (11, [.int 0, .ref ys_23, .ref yp_24, .int 0])), (ys_23, .inr (3, [.int 0, .ref (ta 4), .int 0])), (yp_24, .inr (3, [.int 0, .ref (ta 4), .int 0])), (q_25, .inl (cA_26, 1, .inr (.inl (fun _ => 0)))), (q_27, .inl (cA_28, 1, .inr (.inr (.inr (.inl (fun _ => 0))))))]) (hS : va_S A s.heap H locs) {ls : Array Slot} (hl : lv_has ls 9 [(5, .int 0), (4, .ref q_27), (3, .ref q_25), (2, .ref q_19), (1, .ref q_1), (0, .ref b)]) : W p l e room_1 s m #[Value.ref b] below meth c H locs 14 177 (lw_Z below #[Value.ref b] s) (F0 m 1652 ls []) := by
  obtain ⟨hx, hb, hr, hml, hown, hts, hX, hbl, hlocks, hgv⟩ := C0
  have hA : ∀ q : Nat, s.heap.size ≤ q → A q := fun q h => by rw [hAd]; exact h
  have hbA : ¬ A b := by rw [hAd]; exact Nat.not_le.mpr hbl
  refine lv_aload_n hx hb dL_law_1652 rfl (lv_at hl 4 rfl) ?_
  refine lv_aload_n hx hb dL_law_1653 rfl (lv_at hl 5 rfl) ?_
  refine lv_iload hx hb dL_law_1654 (lv_at hl 0 rfl) ?_
  refine lv_iconst (v := 1) hx hb dL_law_1656 (by decide) ?_
  refine lv_iadd hx hb dL_law_1657 ?_
  refine ax_i (y := 1) (by decide) ?_
  refine va_sld hx hb hX hbl hbA hS (by unfold vp_in; decide) dL_law_1658 ?_
  refine ax_i (y := xs 1) rfl ?_
  refine lv_aload_n hx hb dL_law_1659 rfl (lv_at hl 5 rfl) ?_
  refine lv_iload hx hb dL_law_1660 (lv_at hl 0 rfl) ?_
  refine lv_iconst (v := 2) hx hb dL_law_1662 (by decide) ?_
  refine lv_iadd hx hb dL_law_1663 ?_
  refine ax_i (y := 2) (by decide) ?_
  refine va_sld hx hb hX hbl hbA hS (by unfold vp_in; decide) dL_law_1664 ?_
  refine ax_i (y := xs 2) rfl ?_
  refine lv_aload_n hx hb dL_law_1665 rfl (lv_at hl 2 rfl) ?_
  have hPc := hP.sub (ws' := [(q_1, .inr (8, [.ref xs_5, .ref xp_6, .int 0, .int 0, .ref xl_7, .ref xr_10])), (xs_5, .inl (cS_13, 3, .inr (.inr (.inr (.inr (fun _ => none)))))), (xp_6, .inl (cP_14, 8, .inr (.inr (.inr (.inr (fun _ => none)))))), (xl_7, .inr (4, [.ref xn_8, .ref xm_9])), (xn_8, .inl (cn_15, 64, .inr (.inl (fun _ => 0)))), (xm_9, .inl (cm_16, 64, .inr (.inl (fun _ => 0)))), (xr_10, .inr (6, [.ref xw_11, .ref xt_12])), (xw_11, .inl (cw_17, 8, .inr (.inl (fun _ => 0)))), (xt_12, .inl (ct_18, 8, .inr (.inl (fun _ => 0)))), (q_25, .inl (cA_26, 1, .inr (.inl (fun _ => 0))))]) [0, 1, 2, 3, 4, 5, 6, 7, 8, 12] rfl
  have hKc := hK.sub (tys' := [(cS_13, .object "Diffractory$Source"), (cP_14, .object "Diffractory$Part"), (cn_15, .long), (cm_16, .long), (cw_17, .long), (ct_18, .long), (cA_26, .long)]) [0, 1, 2, 3, 4, 5, 6] rfl
  have hDc := hD.sub (ws' := [(q_1, .inr (8, [.ref xs_5, .ref xp_6, .int 0, .int 0, .ref xl_7, .ref xr_10])), (xs_5, .inl (cS_13, 3, .inr (.inr (.inr (.inr (fun _ => none)))))), (xp_6, .inl (cP_14, 8, .inr (.inr (.inr (.inr (fun _ => none)))))), (xl_7, .inr (4, [.ref xn_8, .ref xm_9])), (xn_8, .inl (cn_15, 64, .inr (.inl (fun _ => 0)))), (xm_9, .inl (cm_16, 64, .inr (.inl (fun _ => 0)))), (xr_10, .inr (6, [.ref xw_11, .ref xt_12])), (xw_11, .inl (cw_17, 8, .inr (.inl (fun _ => 0)))), (xt_12, .inl (ct_18, 8, .inr (.inl (fun _ => 0)))), (q_25, .inl (cA_26, 1, .inr (.inl (fun _ => 0))))]) [0, 1, 2, 3, 4, 5, 6, 7, 8, 12] (by decide) rfl
  have hFc := va_free (wc := [(q_1, .inr (8, [.ref xs_5, .ref xp_6, .int 0, .int 0, .ref xl_7, .ref xr_10])), (xs_5, .inl (cS_13, 3, .inr (.inr (.inr (.inr (fun _ => none)))))), (xp_6, .inl (cP_14, 8, .inr (.inr (.inr (.inr (fun _ => none)))))), (xl_7, .inr (4, [.ref xn_8, .ref xm_9])), (xn_8, .inl (cn_15, 64, .inr (.inl (fun _ => 0)))), (xm_9, .inl (cm_16, 64, .inr (.inl (fun _ => 0)))), (xr_10, .inr (6, [.ref xw_11, .ref xt_12])), (xw_11, .inl (cw_17, 8, .inr (.inl (fun _ => 0)))), (xt_12, .inl (ct_18, 8, .inr (.inl (fun _ => 0)))), (q_25, .inl (cA_26, 1, .inr (.inl (fun _ => 0))))]) hD hS hA [0, 1, 2, 3, 4, 5, 6, 7, 8, 12] rfl
  refine va_calli (vx_runSW (As := [.ref q_1, .int (xs 1), .int (xs 2), .ref q_25]) (rest := []) ⟨hx, hb, hml, hown, hts⟩ (c_L_without l hlt dC dI q_1 xs_5 xp_6 xl_7 xn_8 xm_9 xr_10 xw_11 xt_12 q_25 cS_13 cP_14 cn_15 cm_16 cw_17 ct_18 cA_26 sa ta H.size (xs 1) (xs 2)) (vx_cwSW 4 hts gl_L_without rfl rfl rfl (by decide +kernel) ⟨Nat.le_of_ble_eq_true rfl, Nat.le_of_ble_eq_true rfl⟩) ⟨ax_fbW, ax_prW hPc hKc hDc hS hFc hE⟩ rfl rfl hl.1 rfl (lv_room (Nat.le_of_ble_eq_true rfl)) dL_law_1666 ⟨Nat.le_of_ble_eq_true rfl, Nat.le_of_ble_eq_true rfl⟩) hS (fun q _ h9 => hFc q h9) hFc (fun r_388 u_390  t H locs ht hvm hw_389 hB hz1 hk1 hS => ?_)
  obtain ⟨of_391, rfl⟩ : ∃ z, z = u_390 := ⟨_, rfl⟩
  obtain ⟨hP1, hK1, hD1⟩ := hB
  rw [ht] at hP1
  have hK1 := va_K.moved hvm.symm hK1
  obtain ⟨hP, hD⟩ := va_join (wr := [(q_19, .inr (11, [.int 0, .ref ys_23, .ref yp_24, .int 0])), (ys_23, .inr (3, [.int 0, .ref (ta 4), .int 0])), (yp_24, .inr (3, [.int 0, .ref (ta 4), .int 0])), (q_27, .inl (cA_28, 1, .inr (.inr (.inr (.inl (fun _ => 0))))))]) (w1 := [(q_25, .inl (cA_26, 1, .inr (.inl of_391)))]) hP hD [0, 1, 2, 3, 4, 5, 6, 7, 8, 12] [9, 10, 11, 13] rfl rfl (by decide) (by decide) hk1 hFc hP1 hD1
  have hP : va_P (dC, dI) vwCl [(q_19, .inr (11, [.int 0, .ref ys_23, .ref yp_24, .int 0])), (ys_23, .inr (3, [.int 0, .ref (ta 4), .int 0])), (yp_24, .inr (3, [.int 0, .ref (ta 4), .int 0])), (q_27, .inl (cA_28, 1, .inr (.inr (.inr (.inl (fun _ => 0)))))), (q_25, .inl (cA_26, 1, .inr (.inl of_391)))] H := hP
  have hD : va_D A [(q_19, .inr (11, [.int 0, .ref ys_23, .ref yp_24, .int 0])), (ys_23, .inr (3, [.int 0, .ref (ta 4), .int 0])), (yp_24, .inr (3, [.int 0, .ref (ta 4), .int 0])), (q_27, .inl (cA_28, 1, .inr (.inr (.inr (.inl (fun _ => 0)))))), (q_25, .inl (cA_26, 1, .inr (.inl of_391)))] := hD
  refine ax_i (y := 1) hw_389 ?_
  refine lv_istore (lv' := [(6, .int 1), (5, .int 0), (4, .ref q_27), (3, .ref q_25), (2, .ref q_19), (1, .ref q_1), (0, .ref b)]) hx hb dL_law_1669 hl (by decide) rfl (fun ls hl => ?_)
  refine lv_aload_n hx hb dL_law_1671 rfl (lv_at hl 4 rfl) ?_
  refine lv_aload_n hx hb dL_law_1672 rfl (lv_at hl 6 rfl) ?_
  refine lv_iload hx hb dL_law_1673 (lv_at hl 1 rfl) ?_
  refine lv_iconst (v := 1) hx hb dL_law_1675 (by decide) ?_
  refine lv_iadd hx hb dL_law_1676 ?_
  refine ax_i (y := 1) (by decide) ?_
  refine va_sld hx hb hX hbl hbA hS (by unfold vp_in; decide) dL_law_1677 ?_
  refine ax_i (y := xs 1) rfl ?_
  refine lv_aload_n hx hb dL_law_1678 rfl (lv_at hl 6 rfl) ?_
  refine lv_iload hx hb dL_law_1679 (lv_at hl 1 rfl) ?_
  refine lv_iconst (v := 2) hx hb dL_law_1681 (by decide) ?_
  refine lv_iadd hx hb dL_law_1682 ?_
  refine ax_i (y := 2) (by decide) ?_
  refine va_sld hx hb hX hbl hbA hS (by unfold vp_in; decide) dL_law_1683 ?_
  refine ax_i (y := xs 2) rfl ?_
  have hPc := hP.sub (ws' := [(q_19, .inr (11, [.int 0, .ref ys_23, .ref yp_24, .int 0])), (ys_23, .inr (3, [.int 0, .ref (ta 4), .int 0])), (yp_24, .inr (3, [.int 0, .ref (ta 4), .int 0]))]) [0, 1, 2] rfl
  have hKc := hK.sub (tys' := []) [] rfl
  have hDc := hD.sub (ws' := [(q_19, .inr (11, [.int 0, .ref ys_23, .ref yp_24, .int 0])), (ys_23, .inr (3, [.int 0, .ref (ta 4), .int 0])), (yp_24, .inr (3, [.int 0, .ref (ta 4), .int 0]))]) [0, 1, 2] (by decide) rfl
  have hFc := va_free (wc := [(q_19, .inr (11, [.int 0, .ref ys_23, .ref yp_24, .int 0])), (ys_23, .inr (3, [.int 0, .ref (ta 4), .int 0])), (yp_24, .inr (3, [.int 0, .ref (ta 4), .int 0]))]) hD hS hA [0, 1, 2] rfl
  refine va_calll (va_runV (As := [.int (xs 1), .int (xs 2)]) (rest := []) ⟨hx, hb, hml, hown, hts⟩ (c_X7_without l dC dI q_19 ys_23 yp_24 sa ta H.size 0 (xs 1) (xs 2)) (cwV 2 hts gl_X7_without rfl rfl rfl (by decide +kernel) ⟨Nat.le_of_ble_eq_true rfl, Nat.le_of_ble_eq_true rfl⟩) ⟨ax_fbW, va_recv hK hP (ci := 11) (q0 := 0) rfl rfl, ax_prW hPc hKc hDc hS hFc hE⟩ rfl rfl hl.1 rfl (lv_room (Nat.le_of_ble_eq_true rfl)) dL_law_1684 ⟨Nat.le_of_ble_eq_true rfl, Nat.le_of_ble_eq_true rfl⟩) hS (fun q _ h9 => hFc q h9) hFc (fun r_392 u_394  t H locs ht hvm hw_393 hB hz1 hk1 hS => ?_)
  obtain ⟨th2_395, rfl⟩ : ∃ z, z = u_394 := ⟨_, rfl⟩
  obtain ⟨hP1, hK1, hD1⟩ := hB
  rw [ht] at hP1
  have hK1 := va_K.moved hvm.symm hK1
  obtain ⟨hP, hD⟩ := va_join (wr := [(q_27, .inl (cA_28, 1, .inr (.inr (.inr (.inl (fun _ => 0)))))), (q_25, .inl (cA_26, 1, .inr (.inl of_391)))]) (w1 := [(q_19, .inr (11, [.int th2_395, .ref ys_23, .ref yp_24, .int 0]))]) hP hD [0, 1, 2] [3, 4] rfl rfl (by decide) (by decide) hk1 hFc hP1 hD1
  have hP : va_P (dC, dI) vwCl [(q_27, .inl (cA_28, 1, .inr (.inr (.inr (.inl (fun _ => 0)))))), (q_25, .inl (cA_26, 1, .inr (.inl of_391))), (q_19, .inr (11, [.int th2_395, .ref ys_23, .ref yp_24, .int 0]))] H := hP
  have hD : va_D A [(q_27, .inl (cA_28, 1, .inr (.inr (.inr (.inl (fun _ => 0)))))), (q_25, .inl (cA_26, 1, .inr (.inl of_391))), (q_19, .inr (11, [.int th2_395, .ref ys_23, .ref yp_24, .int 0]))] := hD
  have e9 := hw_393
  subst e9
  refine lv_lstore (lv' := [(7, .long r_392), (6, .int 1), (5, .int 0), (4, .ref q_27), (3, .ref q_25), (2, .ref q_19), (1, .ref q_1), (0, .ref b)]) hx hb dL_law_1687 hl (by decide) rfl (fun ls hl => ?_)
  refine lv_aload_n hx hb dL_law_1689 rfl (lv_at hl 5 rfl) ?_
  have hPc := hP.sub (ws' := [(q_19, .inr (11, [.int 1, .ref ys_23, .ref yp_24, .int 0]))]) [2] rfl
  have hKc := hK.sub (tys' := []) [] rfl
  refine va_calli (va_runV (As := []) (rest := []) ⟨hx, hb, hml, hown, hts⟩ (c_X7_thrown l dC dI q_19 ys_23 yp_24 sa ta 1) (cwV 0 hts gl_X7_thrown rfl rfl rfl (by decide +kernel) ⟨Nat.le_of_ble_eq_true rfl, Nat.le_of_ble_eq_true rfl⟩) ⟨ax_fbR, va_recv hK hP (ci := 11) (q0 := 2) rfl rfl, ax_prR hPc hKc hS hE⟩ rfl rfl hl.1 rfl (lv_room (Nat.le_of_ble_eq_true rfl)) dL_law_1690 ⟨Nat.le_of_ble_eq_true rfl, Nat.le_of_ble_eq_true rfl⟩) hS (fun _ _ h9 => h9.elim) (fun _ h9 => h9.elim) (fun r_396 u_398  t H locs ht hvm hw_397 hB hz1 hk1 hS => ?_)
  have hP := ax_keep hP (fun _ h9 => h9) hk1
  refine ax_i (y := 1) hw_397 ?_
  refine lv_iload hx hb dL_law_1693 (lv_at hl 1 rfl) ?_
  refine lv_icmp_eq (tgt := 1700) hx hb dL_law_1695 (by decide) (fun _ => ?_) (fun h9 => absurd (by decide) h9)
  refine lv_iload hx hb dL_law_1700 (lv_at hl 1 rfl) ?_
  refine lv_if_ne (tgt := 1716) hx hb dL_law_1702 (by decide) (fun _ => ?_) (fun h9 => absurd h9 (by decide))
  refine lv_goto (tgt := 1857) hx hb dL_law_1716 (by decide) ?_
  refine lv_iinc (v := 5) (lv' := [(5, .int 5), (7, .long r_392), (6, .int 1), (4, .ref q_27), (3, .ref q_25), (2, .ref q_19), (1, .ref q_1), (0, .ref b)]) hx hb dL_law_1857 hl (k := 2) rfl (by decide) (by decide) rfl (fun ls hl => ?_)
  refine lv_goto (tgt := 28) hx hb dL_law_1860 (by decide) ?_
  refine lv_iload hx hb dL_law_28 (lv_at hl 0 rfl) ?_
  refine lv_aload_n hx hb dL_law_30 rfl (lv_at hl 7 rfl) ?_
  refine va_slen hx hb hX hbl hbA hS dL_law_31 ?_
  refine ax_i (y := 5) rfl ?_
  refine lv_iconst (v := 5) hx hb dL_law_32 (by decide) ?_
  refine lv_isub hx hb dL_law_33 ?_
  refine ax_i (y := 0) (by decide) ?_
  refine lv_icmp_gt (tgt := 1863) hx hb dL_law_34 (by decide) (fun _ => ?_) (fun h9 => absurd (by decide) h9)
  refine lv_iconst (v := 1) hx hb dL_law_1863 (by decide) ?_
  refine va_forget (fun q hq => by have h9 := hS.2.2 q hq; rw [hAd] at h9; exact h9) ?_
  refine W.widen (k := 600002) (n := 7302232) (Nat.le_of_ble_eq_true rfl) (Nat.le_of_ble_eq_true rfl) ?_
  refine W.base ?_
  exact lw_ret (Drawn.sameBut.refl s.drawn lw_cs) hx hb hr hlocks dL_law_1864

set_option maxHeartbeats 4000000 in
set_option maxRecDepth 100000 in
theorem law_c22 {p : Program} {e : Env} {s : State} {m : MethodId} {below : List Frame} {meth : Method} {c : Code} (l : Launch) (hlt : l.stackTraces = false) {dC : Nat → ClassId} {dI : Nat → Nat → Nat} {b : Nat} {xs : Nat → Int32} (C0 : lw_At p s m meth c b 5 xs) {A : Nat → Prop} (hAd : A = fun q => s.heap.size ≤ q) {sa ta : Nat → Nat} (hE : ax_S sa ta A s s.heap) {q_1 xs_5 xp_6 xl_7 xn_8 xm_9 xr_10 xw_11 xt_12 q_19 ys_23 yp_24 q_25 q_27 : Nat} {cS_13 cP_14 cn_15 cm_16 cw_17 ct_18 cA_26 cA_28 : ClassId} {H : Heap} {locs : List Loc} (hK : va_K (dC, dI) vwCl [(cS_13, .object "Diffractory$Source"), (cP_14, .object "Diffractory$Part"), (cn_15, .long), (cm_16, .long), (cw_17, .long), (ct_18, .long), (cA_26, .long), (cA_28, .double)] s) (hP : va_P (dC, dI) vwCl [(q_1, .inr (8, [.ref xs_5, .ref xp_6, .int 0, .int 0, .ref xl_7, .ref xr_10])), (xs_5, .inl (cS_13, 3, .inr (.inr (.inr (.inr (fun _ => none)))))), (xp_6, .inl (cP_14, 8, .inr (.inr (.inr (.inr (fun _ => none)))))), (xl_7, .inr (4, [.ref xn_8, .ref xm_9])), (xn_8, .inl (cn_15, 64, .inr (.inl (fun _ => 0)))), (xm_9, .inl (cm_16, 64, .inr (.inl (fun _ => 0)))), (xr_10, .inr (6, [.ref xw_11, .ref xt_12])), (xw_11, .inl (cw_17, 8, .inr (.inl (fun _ => 0)))), (xt_12, .inl (ct_18, 8, .inr (.inl (fun _ => 0)))), (q_19, .inr (11, [.int 0, .ref ys_23, .ref yp_24, .int 0])), (ys_23, .inr (3, [.int 0, .ref (ta 4), .int 0])), (yp_24, .inr (3, [.int 0, .ref (ta 4), .int 0])), (q_25, .inl (cA_26, 1, .inr (.inl (fun _ => 0)))), (q_27, .inl (cA_28, 1, .inr (.inr (.inr (.inl (fun _ => 0))))))] H) (hD : va_D A [(q_1, .inr (8, [.ref xs_5, .ref xp_6, .int 0, .int 0, .ref xl_7, .ref xr_10])), (xs_5, .inl (cS_13, 3, .inr (.inr (.inr (.inr (fun _ => none)))))), (xp_6, .inl (cP_14, 8, .inr (.inr (.inr (.inr (fun _ => none)))))), (xl_7, .inr (4, [.ref xn_8, .ref xm_9])), (xn_8, .inl (cn_15, 64, .inr (.inl (fun _ => 0)))), (xm_9, .inl (cm_16, 64, .inr (.inl (fun _ => 0)))), (xr_10, .inr (6, [.ref xw_11, .ref xt_12])), (xw_11, .inl (cw_17, 8, .inr (.inl (fun _ => 0)))), (xt_12, .inl (ct_18, 8, .inr (.inl (fun _ => 0)))), (q_19, .inr (11, [.int 0, .ref ys_23, .ref yp_24, .int 0])), (ys_23, .inr (3, [.int 0, .ref (ta 4), .int 0])), (yp_24, .inr (3, [.int 0, .ref (ta 4), .int 0])), (q_25, .inl (cA_26, 1, .inr (.inl (fun _ => 0)))), (q_27, .inl (cA_28, 1, .inr (.inr (.inr (.inl (fun _ => 0))))))]) (hS : va_S A s.heap H locs) {ls : Array Slot} (hl : lv_has ls 9 [(5, .int 0), (4, .ref q_27), (3, .ref q_25), (2, .ref q_19), (1, .ref q_1), (0, .ref b)]) : W p l e room_1 s m #[Value.ref b] below meth c H locs 14 177 (lw_Z below #[Value.ref b] s) (F0 m 1719 ls []) := by
  obtain ⟨hx, hb, hr, hml, hown, hts, hX, hbl, hlocks, hgv⟩ := C0
  have hA : ∀ q : Nat, s.heap.size ≤ q → A q := fun q h => by rw [hAd]; exact h
  have hbA : ¬ A b := by rw [hAd]; exact Nat.not_le.mpr hbl
  refine lv_aload_n hx hb dL_law_1719 rfl (lv_at hl 4 rfl) ?_
  refine lv_aload_n hx hb dL_law_1720 rfl (lv_at hl 5 rfl) ?_
  refine lv_iload hx hb dL_law_1721 (lv_at hl 0 rfl) ?_
  refine lv_iconst (v := 1) hx hb dL_law_1723 (by decide) ?_
  refine lv_iadd hx hb dL_law_1724 ?_
  refine ax_i (y := 1) (by decide) ?_
  refine va_sld hx hb hX hbl hbA hS (by unfold vp_in; decide) dL_law_1725 ?_
  refine ax_i (y := xs 1) rfl ?_
  refine lv_aload_n hx hb dL_law_1726 rfl (lv_at hl 5 rfl) ?_
  refine lv_iload hx hb dL_law_1727 (lv_at hl 0 rfl) ?_
  refine lv_iconst (v := 2) hx hb dL_law_1729 (by decide) ?_
  refine lv_iadd hx hb dL_law_1730 ?_
  refine ax_i (y := 2) (by decide) ?_
  refine va_sld hx hb hX hbl hbA hS (by unfold vp_in; decide) dL_law_1731 ?_
  refine ax_i (y := xs 2) rfl ?_
  refine lv_aload_n hx hb dL_law_1732 rfl (lv_at hl 2 rfl) ?_
  have hPc := hP.sub (ws' := [(q_1, .inr (8, [.ref xs_5, .ref xp_6, .int 0, .int 0, .ref xl_7, .ref xr_10])), (xs_5, .inl (cS_13, 3, .inr (.inr (.inr (.inr (fun _ => none)))))), (xp_6, .inl (cP_14, 8, .inr (.inr (.inr (.inr (fun _ => none)))))), (xl_7, .inr (4, [.ref xn_8, .ref xm_9])), (xn_8, .inl (cn_15, 64, .inr (.inl (fun _ => 0)))), (xm_9, .inl (cm_16, 64, .inr (.inl (fun _ => 0)))), (xr_10, .inr (6, [.ref xw_11, .ref xt_12])), (xw_11, .inl (cw_17, 8, .inr (.inl (fun _ => 0)))), (xt_12, .inl (ct_18, 8, .inr (.inl (fun _ => 0)))), (q_25, .inl (cA_26, 1, .inr (.inl (fun _ => 0))))]) [0, 1, 2, 3, 4, 5, 6, 7, 8, 12] rfl
  have hKc := hK.sub (tys' := [(cS_13, .object "Diffractory$Source"), (cP_14, .object "Diffractory$Part"), (cn_15, .long), (cm_16, .long), (cw_17, .long), (ct_18, .long), (cA_26, .long)]) [0, 1, 2, 3, 4, 5, 6] rfl
  have hDc := hD.sub (ws' := [(q_1, .inr (8, [.ref xs_5, .ref xp_6, .int 0, .int 0, .ref xl_7, .ref xr_10])), (xs_5, .inl (cS_13, 3, .inr (.inr (.inr (.inr (fun _ => none)))))), (xp_6, .inl (cP_14, 8, .inr (.inr (.inr (.inr (fun _ => none)))))), (xl_7, .inr (4, [.ref xn_8, .ref xm_9])), (xn_8, .inl (cn_15, 64, .inr (.inl (fun _ => 0)))), (xm_9, .inl (cm_16, 64, .inr (.inl (fun _ => 0)))), (xr_10, .inr (6, [.ref xw_11, .ref xt_12])), (xw_11, .inl (cw_17, 8, .inr (.inl (fun _ => 0)))), (xt_12, .inl (ct_18, 8, .inr (.inl (fun _ => 0)))), (q_25, .inl (cA_26, 1, .inr (.inl (fun _ => 0))))]) [0, 1, 2, 3, 4, 5, 6, 7, 8, 12] (by decide) rfl
  have hFc := va_free (wc := [(q_1, .inr (8, [.ref xs_5, .ref xp_6, .int 0, .int 0, .ref xl_7, .ref xr_10])), (xs_5, .inl (cS_13, 3, .inr (.inr (.inr (.inr (fun _ => none)))))), (xp_6, .inl (cP_14, 8, .inr (.inr (.inr (.inr (fun _ => none)))))), (xl_7, .inr (4, [.ref xn_8, .ref xm_9])), (xn_8, .inl (cn_15, 64, .inr (.inl (fun _ => 0)))), (xm_9, .inl (cm_16, 64, .inr (.inl (fun _ => 0)))), (xr_10, .inr (6, [.ref xw_11, .ref xt_12])), (xw_11, .inl (cw_17, 8, .inr (.inl (fun _ => 0)))), (xt_12, .inl (ct_18, 8, .inr (.inl (fun _ => 0)))), (q_25, .inl (cA_26, 1, .inr (.inl (fun _ => 0))))]) hD hS hA [0, 1, 2, 3, 4, 5, 6, 7, 8, 12] rfl
  refine va_calli (vx_runSW (As := [.ref q_1, .int (xs 1), .int (xs 2), .ref q_25]) (rest := []) ⟨hx, hb, hml, hown, hts⟩ (c_L_best l hlt dC dI q_1 xs_5 xp_6 xl_7 xn_8 xm_9 xr_10 xw_11 xt_12 q_25 cS_13 cP_14 cn_15 cm_16 cw_17 ct_18 cA_26 sa ta H.size (xs 1) (xs 2)) (vx_cwSW 4 hts gl_L_best rfl rfl rfl (by decide +kernel) ⟨Nat.le_of_ble_eq_true rfl, Nat.le_of_ble_eq_true rfl⟩) ⟨ax_fbW, ax_prW hPc hKc hDc hS hFc hE⟩ rfl rfl hl.1 rfl (lv_room (Nat.le_of_ble_eq_true rfl)) dL_law_1733 ⟨Nat.le_of_ble_eq_true rfl, Nat.le_of_ble_eq_true rfl⟩) hS (fun q _ h9 => hFc q h9) hFc (fun r_399 u_401  t H locs ht hvm hw_400 hB hz1 hk1 hS => ?_)
  obtain ⟨of_402, rfl⟩ : ∃ z, z = u_401 := ⟨_, rfl⟩
  obtain ⟨hP1, hK1, hD1⟩ := hB
  rw [ht] at hP1
  have hK1 := va_K.moved hvm.symm hK1
  obtain ⟨hP, hD⟩ := va_join (wr := [(q_19, .inr (11, [.int 0, .ref ys_23, .ref yp_24, .int 0])), (ys_23, .inr (3, [.int 0, .ref (ta 4), .int 0])), (yp_24, .inr (3, [.int 0, .ref (ta 4), .int 0])), (q_27, .inl (cA_28, 1, .inr (.inr (.inr (.inl (fun _ => 0))))))]) (w1 := [(q_25, .inl (cA_26, 1, .inr (.inl of_402)))]) hP hD [0, 1, 2, 3, 4, 5, 6, 7, 8, 12] [9, 10, 11, 13] rfl rfl (by decide) (by decide) hk1 hFc hP1 hD1
  have hP : va_P (dC, dI) vwCl [(q_19, .inr (11, [.int 0, .ref ys_23, .ref yp_24, .int 0])), (ys_23, .inr (3, [.int 0, .ref (ta 4), .int 0])), (yp_24, .inr (3, [.int 0, .ref (ta 4), .int 0])), (q_27, .inl (cA_28, 1, .inr (.inr (.inr (.inl (fun _ => 0)))))), (q_25, .inl (cA_26, 1, .inr (.inl of_402)))] H := hP
  have hD : va_D A [(q_19, .inr (11, [.int 0, .ref ys_23, .ref yp_24, .int 0])), (ys_23, .inr (3, [.int 0, .ref (ta 4), .int 0])), (yp_24, .inr (3, [.int 0, .ref (ta 4), .int 0])), (q_27, .inl (cA_28, 1, .inr (.inr (.inr (.inl (fun _ => 0)))))), (q_25, .inl (cA_26, 1, .inr (.inl of_402)))] := hD
  refine ax_i (y := 1) hw_400 ?_
  refine lv_istore (lv' := [(6, .int 1), (5, .int 0), (4, .ref q_27), (3, .ref q_25), (2, .ref q_19), (1, .ref q_1), (0, .ref b)]) hx hb dL_law_1736 hl (by decide) rfl (fun ls hl => ?_)
  refine lv_aload_n hx hb dL_law_1738 rfl (lv_at hl 4 rfl) ?_
  refine lv_aload_n hx hb dL_law_1739 rfl (lv_at hl 6 rfl) ?_
  refine lv_iload hx hb dL_law_1740 (lv_at hl 1 rfl) ?_
  refine lv_iconst (v := 1) hx hb dL_law_1742 (by decide) ?_
  refine lv_iadd hx hb dL_law_1743 ?_
  refine ax_i (y := 1) (by decide) ?_
  refine va_sld hx hb hX hbl hbA hS (by unfold vp_in; decide) dL_law_1744 ?_
  refine ax_i (y := xs 1) rfl ?_
  refine lv_aload_n hx hb dL_law_1745 rfl (lv_at hl 6 rfl) ?_
  refine lv_iload hx hb dL_law_1746 (lv_at hl 1 rfl) ?_
  refine lv_iconst (v := 2) hx hb dL_law_1748 (by decide) ?_
  refine lv_iadd hx hb dL_law_1749 ?_
  refine ax_i (y := 2) (by decide) ?_
  refine va_sld hx hb hX hbl hbA hS (by unfold vp_in; decide) dL_law_1750 ?_
  refine ax_i (y := xs 2) rfl ?_
  have hPc := hP.sub (ws' := [(q_19, .inr (11, [.int 0, .ref ys_23, .ref yp_24, .int 0])), (ys_23, .inr (3, [.int 0, .ref (ta 4), .int 0])), (yp_24, .inr (3, [.int 0, .ref (ta 4), .int 0]))]) [0, 1, 2] rfl
  have hKc := hK.sub (tys' := []) [] rfl
  have hDc := hD.sub (ws' := [(q_19, .inr (11, [.int 0, .ref ys_23, .ref yp_24, .int 0])), (ys_23, .inr (3, [.int 0, .ref (ta 4), .int 0])), (yp_24, .inr (3, [.int 0, .ref (ta 4), .int 0]))]) [0, 1, 2] (by decide) rfl
  have hFc := va_free (wc := [(q_19, .inr (11, [.int 0, .ref ys_23, .ref yp_24, .int 0])), (ys_23, .inr (3, [.int 0, .ref (ta 4), .int 0])), (yp_24, .inr (3, [.int 0, .ref (ta 4), .int 0]))]) hD hS hA [0, 1, 2] rfl
  refine va_calli (va_runV (As := [.int (xs 1), .int (xs 2)]) (rest := []) ⟨hx, hb, hml, hown, hts⟩ (c_X7_best l dC dI q_19 ys_23 yp_24 sa ta H.size 0 (xs 1) (xs 2)) (cwV 2 hts gl_X7_best rfl rfl rfl (by decide +kernel) ⟨Nat.le_of_ble_eq_true rfl, Nat.le_of_ble_eq_true rfl⟩) ⟨ax_fbW, va_recv hK hP (ci := 11) (q0 := 0) rfl rfl, ax_prW hPc hKc hDc hS hFc hE⟩ rfl rfl hl.1 rfl (lv_room (Nat.le_of_ble_eq_true rfl)) dL_law_1751 ⟨Nat.le_of_ble_eq_true rfl, Nat.le_of_ble_eq_true rfl⟩) hS (fun q _ h9 => hFc q h9) hFc (fun r_403 u_405  t H locs ht hvm hw_404 hB hz1 hk1 hS => ?_)
  obtain ⟨th2_406, rfl⟩ : ∃ z, z = u_405 := ⟨_, rfl⟩
  obtain ⟨hP1, hK1, hD1⟩ := hB
  rw [ht] at hP1
  have hK1 := va_K.moved hvm.symm hK1
  obtain ⟨hP, hD⟩ := va_join (wr := [(q_27, .inl (cA_28, 1, .inr (.inr (.inr (.inl (fun _ => 0)))))), (q_25, .inl (cA_26, 1, .inr (.inl of_402)))]) (w1 := [(q_19, .inr (11, [.int th2_406, .ref ys_23, .ref yp_24, .int 0]))]) hP hD [0, 1, 2] [3, 4] rfl rfl (by decide) (by decide) hk1 hFc hP1 hD1
  have hP : va_P (dC, dI) vwCl [(q_27, .inl (cA_28, 1, .inr (.inr (.inr (.inl (fun _ => 0)))))), (q_25, .inl (cA_26, 1, .inr (.inl of_402))), (q_19, .inr (11, [.int th2_406, .ref ys_23, .ref yp_24, .int 0]))] H := hP
  have hD : va_D A [(q_27, .inl (cA_28, 1, .inr (.inr (.inr (.inl (fun _ => 0)))))), (q_25, .inl (cA_26, 1, .inr (.inl of_402))), (q_19, .inr (11, [.int th2_406, .ref ys_23, .ref yp_24, .int 0]))] := hD
  have e9 := hw_404
  subst e9
  refine lv_istore (lv' := [(7, .int r_403), (6, .int 1), (5, .int 0), (4, .ref q_27), (3, .ref q_25), (2, .ref q_19), (1, .ref q_1), (0, .ref b)]) hx hb dL_law_1754 hl (by decide) rfl (fun ls hl => ?_)
  refine lv_aload_n hx hb dL_law_1756 rfl (lv_at hl 5 rfl) ?_
  have hPc := hP.sub (ws' := [(q_19, .inr (11, [.int 1, .ref ys_23, .ref yp_24, .int 0]))]) [2] rfl
  have hKc := hK.sub (tys' := []) [] rfl
  refine va_calli (va_runV (As := []) (rest := []) ⟨hx, hb, hml, hown, hts⟩ (c_X7_thrown l dC dI q_19 ys_23 yp_24 sa ta 1) (cwV 0 hts gl_X7_thrown rfl rfl rfl (by decide +kernel) ⟨Nat.le_of_ble_eq_true rfl, Nat.le_of_ble_eq_true rfl⟩) ⟨ax_fbR, va_recv hK hP (ci := 11) (q0 := 2) rfl rfl, ax_prR hPc hKc hS hE⟩ rfl rfl hl.1 rfl (lv_room (Nat.le_of_ble_eq_true rfl)) dL_law_1757 ⟨Nat.le_of_ble_eq_true rfl, Nat.le_of_ble_eq_true rfl⟩) hS (fun _ _ h9 => h9.elim) (fun _ h9 => h9.elim) (fun r_407 u_409  t H locs ht hvm hw_408 hB hz1 hk1 hS => ?_)
  have hP := ax_keep hP (fun _ h9 => h9) hk1
  refine ax_i (y := 1) hw_408 ?_
  refine lv_iload hx hb dL_law_1760 (lv_at hl 1 rfl) ?_
  refine lv_icmp_eq (tgt := 1767) hx hb dL_law_1762 (by decide) (fun _ => ?_) (fun h9 => absurd (by decide) h9)
  refine lv_iload hx hb dL_law_1767 (lv_at hl 1 rfl) ?_
  refine lv_if_ne (tgt := 1784) hx hb dL_law_1769 (by decide) (fun _ => ?_) (fun h9 => absurd h9 (by decide))
  refine lv_goto (tgt := 1857) hx hb dL_law_1784 (by decide) ?_
  refine lv_iinc (v := 5) (lv' := [(5, .int 5), (7, .int r_403), (6, .int 1), (4, .ref q_27), (3, .ref q_25), (2, .ref q_19), (1, .ref q_1), (0, .ref b)]) hx hb dL_law_1857 hl (k := 2) rfl (by decide) (by decide) rfl (fun ls hl => ?_)
  refine lv_goto (tgt := 28) hx hb dL_law_1860 (by decide) ?_
  refine lv_iload hx hb dL_law_28 (lv_at hl 0 rfl) ?_
  refine lv_aload_n hx hb dL_law_30 rfl (lv_at hl 7 rfl) ?_
  refine va_slen hx hb hX hbl hbA hS dL_law_31 ?_
  refine ax_i (y := 5) rfl ?_
  refine lv_iconst (v := 5) hx hb dL_law_32 (by decide) ?_
  refine lv_isub hx hb dL_law_33 ?_
  refine ax_i (y := 0) (by decide) ?_
  refine lv_icmp_gt (tgt := 1863) hx hb dL_law_34 (by decide) (fun _ => ?_) (fun h9 => absurd (by decide) h9)
  refine lv_iconst (v := 1) hx hb dL_law_1863 (by decide) ?_
  refine va_forget (fun q hq => by have h9 := hS.2.2 q hq; rw [hAd] at h9; exact h9) ?_
  refine W.widen (k := 600002) (n := 7302232) (Nat.le_of_ble_eq_true rfl) (Nat.le_of_ble_eq_true rfl) ?_
  refine W.base ?_
  exact lw_ret (Drawn.sameBut.refl s.drawn lw_cs) hx hb hr hlocks dL_law_1864

set_option maxHeartbeats 4000000 in
set_option maxRecDepth 100000 in
theorem law_c23 {p : Program} {e : Env} {s : State} {m : MethodId} {below : List Frame} {meth : Method} {c : Code} (l : Launch) (hlt : l.stackTraces = false) {dC : Nat → ClassId} {dI : Nat → Nat → Nat} {b : Nat} {xs : Nat → Int32} (C0 : lw_At p s m meth c b 5 xs) {A : Nat → Prop} (hAd : A = fun q => s.heap.size ≤ q) {sa ta : Nat → Nat} (hE : ax_S sa ta A s s.heap) {q_1 xs_5 xp_6 xl_7 xn_8 xm_9 xr_10 xw_11 xt_12 q_19 ys_23 yp_24 q_25 q_27 : Nat} {cS_13 cP_14 cn_15 cm_16 cw_17 ct_18 cA_26 cA_28 : ClassId} {H : Heap} {locs : List Loc} (hK : va_K (dC, dI) vwCl [(cS_13, .object "Diffractory$Source"), (cP_14, .object "Diffractory$Part"), (cn_15, .long), (cm_16, .long), (cw_17, .long), (ct_18, .long), (cA_26, .long), (cA_28, .double)] s) (hP : va_P (dC, dI) vwCl [(q_1, .inr (8, [.ref xs_5, .ref xp_6, .int 0, .int 0, .ref xl_7, .ref xr_10])), (xs_5, .inl (cS_13, 3, .inr (.inr (.inr (.inr (fun _ => none)))))), (xp_6, .inl (cP_14, 8, .inr (.inr (.inr (.inr (fun _ => none)))))), (xl_7, .inr (4, [.ref xn_8, .ref xm_9])), (xn_8, .inl (cn_15, 64, .inr (.inl (fun _ => 0)))), (xm_9, .inl (cm_16, 64, .inr (.inl (fun _ => 0)))), (xr_10, .inr (6, [.ref xw_11, .ref xt_12])), (xw_11, .inl (cw_17, 8, .inr (.inl (fun _ => 0)))), (xt_12, .inl (ct_18, 8, .inr (.inl (fun _ => 0)))), (q_19, .inr (11, [.int 0, .ref ys_23, .ref yp_24, .int 0])), (ys_23, .inr (3, [.int 0, .ref (ta 4), .int 0])), (yp_24, .inr (3, [.int 0, .ref (ta 4), .int 0])), (q_25, .inl (cA_26, 1, .inr (.inl (fun _ => 0)))), (q_27, .inl (cA_28, 1, .inr (.inr (.inr (.inl (fun _ => 0))))))] H) (hD : va_D A [(q_1, .inr (8, [.ref xs_5, .ref xp_6, .int 0, .int 0, .ref xl_7, .ref xr_10])), (xs_5, .inl (cS_13, 3, .inr (.inr (.inr (.inr (fun _ => none)))))), (xp_6, .inl (cP_14, 8, .inr (.inr (.inr (.inr (fun _ => none)))))), (xl_7, .inr (4, [.ref xn_8, .ref xm_9])), (xn_8, .inl (cn_15, 64, .inr (.inl (fun _ => 0)))), (xm_9, .inl (cm_16, 64, .inr (.inl (fun _ => 0)))), (xr_10, .inr (6, [.ref xw_11, .ref xt_12])), (xw_11, .inl (cw_17, 8, .inr (.inl (fun _ => 0)))), (xt_12, .inl (ct_18, 8, .inr (.inl (fun _ => 0)))), (q_19, .inr (11, [.int 0, .ref ys_23, .ref yp_24, .int 0])), (ys_23, .inr (3, [.int 0, .ref (ta 4), .int 0])), (yp_24, .inr (3, [.int 0, .ref (ta 4), .int 0])), (q_25, .inl (cA_26, 1, .inr (.inl (fun _ => 0)))), (q_27, .inl (cA_28, 1, .inr (.inr (.inr (.inl (fun _ => 0))))))]) (hS : va_S A s.heap H locs) {ls : Array Slot} (hl : lv_has ls 9 [(5, .int 0), (4, .ref q_27), (3, .ref q_25), (2, .ref q_19), (1, .ref q_1), (0, .ref b)]) : W p l e room_1 s m #[Value.ref b] below meth c H locs 14 177 (lw_Z below #[Value.ref b] s) (F0 m 1787 ls []) := by
  obtain ⟨hx, hb, hr, hml, hown, hts, hX, hbl, hlocks, hgv⟩ := C0
  have hA : ∀ q : Nat, s.heap.size ≤ q → A q := fun q h => by rw [hAd]; exact h
  have hbA : ¬ A b := by rw [hAd]; exact Nat.not_le.mpr hbl
  refine lv_aload_n hx hb dL_law_1787 rfl (lv_at hl 4 rfl) ?_
  refine lv_aload_n hx hb dL_law_1788 rfl (lv_at hl 5 rfl) ?_
  refine lv_iload hx hb dL_law_1789 (lv_at hl 0 rfl) ?_
  refine lv_iconst (v := 1) hx hb dL_law_1791 (by decide) ?_
  refine lv_iadd hx hb dL_law_1792 ?_
  refine ax_i (y := 1) (by decide) ?_
  refine va_sld hx hb hX hbl hbA hS (by unfold vp_in; decide) dL_law_1793 ?_
  refine ax_i (y := xs 1) rfl ?_
  refine lv_aload_n hx hb dL_law_1794 rfl (lv_at hl 2 rfl) ?_
  have hPc := hP.sub (ws' := [(q_1, .inr (8, [.ref xs_5, .ref xp_6, .int 0, .int 0, .ref xl_7, .ref xr_10])), (xs_5, .inl (cS_13, 3, .inr (.inr (.inr (.inr (fun _ => none)))))), (xp_6, .inl (cP_14, 8, .inr (.inr (.inr (.inr (fun _ => none)))))), (xl_7, .inr (4, [.ref xn_8, .ref xm_9])), (xn_8, .inl (cn_15, 64, .inr (.inl (fun _ => 0)))), (xm_9, .inl (cm_16, 64, .inr (.inl (fun _ => 0)))), (xr_10, .inr (6, [.ref xw_11, .ref xt_12])), (xw_11, .inl (cw_17, 8, .inr (.inl (fun _ => 0)))), (xt_12, .inl (ct_18, 8, .inr (.inl (fun _ => 0)))), (q_25, .inl (cA_26, 1, .inr (.inl (fun _ => 0))))]) [0, 1, 2, 3, 4, 5, 6, 7, 8, 12] rfl
  have hKc := hK.sub (tys' := [(cS_13, .object "Diffractory$Source"), (cP_14, .object "Diffractory$Part"), (cn_15, .long), (cm_16, .long), (cw_17, .long), (ct_18, .long), (cA_26, .long)]) [0, 1, 2, 3, 4, 5, 6] rfl
  have hDc := hD.sub (ws' := [(q_1, .inr (8, [.ref xs_5, .ref xp_6, .int 0, .int 0, .ref xl_7, .ref xr_10])), (xs_5, .inl (cS_13, 3, .inr (.inr (.inr (.inr (fun _ => none)))))), (xp_6, .inl (cP_14, 8, .inr (.inr (.inr (.inr (fun _ => none)))))), (xl_7, .inr (4, [.ref xn_8, .ref xm_9])), (xn_8, .inl (cn_15, 64, .inr (.inl (fun _ => 0)))), (xm_9, .inl (cm_16, 64, .inr (.inl (fun _ => 0)))), (xr_10, .inr (6, [.ref xw_11, .ref xt_12])), (xw_11, .inl (cw_17, 8, .inr (.inl (fun _ => 0)))), (xt_12, .inl (ct_18, 8, .inr (.inl (fun _ => 0)))), (q_25, .inl (cA_26, 1, .inr (.inl (fun _ => 0))))]) [0, 1, 2, 3, 4, 5, 6, 7, 8, 12] (by decide) rfl
  have hFc := va_free (wc := [(q_1, .inr (8, [.ref xs_5, .ref xp_6, .int 0, .int 0, .ref xl_7, .ref xr_10])), (xs_5, .inl (cS_13, 3, .inr (.inr (.inr (.inr (fun _ => none)))))), (xp_6, .inl (cP_14, 8, .inr (.inr (.inr (.inr (fun _ => none)))))), (xl_7, .inr (4, [.ref xn_8, .ref xm_9])), (xn_8, .inl (cn_15, 64, .inr (.inl (fun _ => 0)))), (xm_9, .inl (cm_16, 64, .inr (.inl (fun _ => 0)))), (xr_10, .inr (6, [.ref xw_11, .ref xt_12])), (xw_11, .inl (cw_17, 8, .inr (.inl (fun _ => 0)))), (xt_12, .inl (ct_18, 8, .inr (.inl (fun _ => 0)))), (q_25, .inl (cA_26, 1, .inr (.inl (fun _ => 0))))]) hD hS hA [0, 1, 2, 3, 4, 5, 6, 7, 8, 12] rfl
  refine va_calli (vx_runSW (As := [.ref q_1, .int (xs 1), .ref q_25]) (rest := []) ⟨hx, hb, hml, hown, hts⟩ (c_L_alone l hlt dC dI q_1 xs_5 xp_6 xl_7 xn_8 xm_9 xr_10 xw_11 xt_12 q_25 cS_13 cP_14 cn_15 cm_16 cw_17 ct_18 cA_26 sa ta H.size (xs 1)) (vx_cwSW 3 hts gl_L_alone rfl rfl rfl (by decide +kernel) ⟨Nat.le_of_ble_eq_true rfl, Nat.le_of_ble_eq_true rfl⟩) ⟨ax_fbW, ax_prW hPc hKc hDc hS hFc hE⟩ rfl rfl hl.1 rfl (lv_room (Nat.le_of_ble_eq_true rfl)) dL_law_1795 ⟨Nat.le_of_ble_eq_true rfl, Nat.le_of_ble_eq_true rfl⟩) hS (fun q _ h9 => hFc q h9) hFc (fun r_410 u_412  t H locs ht hvm hw_411 hB hz1 hk1 hS => ?_)
  obtain ⟨of_413, rfl⟩ : ∃ z, z = u_412 := ⟨_, rfl⟩
  obtain ⟨hP1, hK1, hD1⟩ := hB
  rw [ht] at hP1
  have hK1 := va_K.moved hvm.symm hK1
  obtain ⟨hP, hD⟩ := va_join (wr := [(q_19, .inr (11, [.int 0, .ref ys_23, .ref yp_24, .int 0])), (ys_23, .inr (3, [.int 0, .ref (ta 4), .int 0])), (yp_24, .inr (3, [.int 0, .ref (ta 4), .int 0])), (q_27, .inl (cA_28, 1, .inr (.inr (.inr (.inl (fun _ => 0))))))]) (w1 := [(q_25, .inl (cA_26, 1, .inr (.inl of_413)))]) hP hD [0, 1, 2, 3, 4, 5, 6, 7, 8, 12] [9, 10, 11, 13] rfl rfl (by decide) (by decide) hk1 hFc hP1 hD1
  have hP : va_P (dC, dI) vwCl [(q_19, .inr (11, [.int 0, .ref ys_23, .ref yp_24, .int 0])), (ys_23, .inr (3, [.int 0, .ref (ta 4), .int 0])), (yp_24, .inr (3, [.int 0, .ref (ta 4), .int 0])), (q_27, .inl (cA_28, 1, .inr (.inr (.inr (.inl (fun _ => 0)))))), (q_25, .inl (cA_26, 1, .inr (.inl of_413)))] H := hP
  have hD : va_D A [(q_19, .inr (11, [.int 0, .ref ys_23, .ref yp_24, .int 0])), (ys_23, .inr (3, [.int 0, .ref (ta 4), .int 0])), (yp_24, .inr (3, [.int 0, .ref (ta 4), .int 0])), (q_27, .inl (cA_28, 1, .inr (.inr (.inr (.inl (fun _ => 0)))))), (q_25, .inl (cA_26, 1, .inr (.inl of_413)))] := hD
  refine ax_i (y := 1) hw_411 ?_
  refine lv_istore (lv' := [(6, .int 1), (5, .int 0), (4, .ref q_27), (3, .ref q_25), (2, .ref q_19), (1, .ref q_1), (0, .ref b)]) hx hb dL_law_1798 hl (by decide) rfl (fun ls hl => ?_)
  refine lv_aload_n hx hb dL_law_1800 rfl (lv_at hl 4 rfl) ?_
  refine lv_aload_n hx hb dL_law_1801 rfl (lv_at hl 6 rfl) ?_
  refine lv_iload hx hb dL_law_1802 (lv_at hl 1 rfl) ?_
  refine lv_iconst (v := 1) hx hb dL_law_1804 (by decide) ?_
  refine lv_iadd hx hb dL_law_1805 ?_
  refine ax_i (y := 1) (by decide) ?_
  refine va_sld hx hb hX hbl hbA hS (by unfold vp_in; decide) dL_law_1806 ?_
  refine ax_i (y := xs 1) rfl ?_
  have hPc := hP.sub (ws' := [(q_19, .inr (11, [.int 0, .ref ys_23, .ref yp_24, .int 0])), (ys_23, .inr (3, [.int 0, .ref (ta 4), .int 0])), (yp_24, .inr (3, [.int 0, .ref (ta 4), .int 0]))]) [0, 1, 2] rfl
  have hKc := hK.sub (tys' := []) [] rfl
  have hDc := hD.sub (ws' := [(q_19, .inr (11, [.int 0, .ref ys_23, .ref yp_24, .int 0])), (ys_23, .inr (3, [.int 0, .ref (ta 4), .int 0])), (yp_24, .inr (3, [.int 0, .ref (ta 4), .int 0]))]) [0, 1, 2] (by decide) rfl
  have hFc := va_free (wc := [(q_19, .inr (11, [.int 0, .ref ys_23, .ref yp_24, .int 0])), (ys_23, .inr (3, [.int 0, .ref (ta 4), .int 0])), (yp_24, .inr (3, [.int 0, .ref (ta 4), .int 0]))]) hD hS hA [0, 1, 2] rfl
  refine va_calli (va_runV (As := [.int (xs 1)]) (rest := []) ⟨hx, hb, hml, hown, hts⟩ (c_X7_alone l dC dI q_19 ys_23 yp_24 sa ta H.size 0 (xs 1)) (cwV 1 hts gl_X7_alone rfl rfl rfl (by decide +kernel) ⟨Nat.le_of_ble_eq_true rfl, Nat.le_of_ble_eq_true rfl⟩) ⟨ax_fbW, va_recv hK hP (ci := 11) (q0 := 0) rfl rfl, ax_prW hPc hKc hDc hS hFc hE⟩ rfl rfl hl.1 rfl (lv_room (Nat.le_of_ble_eq_true rfl)) dL_law_1807 ⟨Nat.le_of_ble_eq_true rfl, Nat.le_of_ble_eq_true rfl⟩) hS (fun q _ h9 => hFc q h9) hFc (fun r_414 u_416  t H locs ht hvm hw_415 hB hz1 hk1 hS => ?_)
  obtain ⟨th2_417, rfl⟩ : ∃ z, z = u_416 := ⟨_, rfl⟩
  obtain ⟨hP1, hK1, hD1⟩ := hB
  rw [ht] at hP1
  have hK1 := va_K.moved hvm.symm hK1
  obtain ⟨hP, hD⟩ := va_join (wr := [(q_27, .inl (cA_28, 1, .inr (.inr (.inr (.inl (fun _ => 0)))))), (q_25, .inl (cA_26, 1, .inr (.inl of_413)))]) (w1 := [(q_19, .inr (11, [.int th2_417, .ref ys_23, .ref yp_24, .int 0]))]) hP hD [0, 1, 2] [3, 4] rfl rfl (by decide) (by decide) hk1 hFc hP1 hD1
  have hP : va_P (dC, dI) vwCl [(q_27, .inl (cA_28, 1, .inr (.inr (.inr (.inl (fun _ => 0)))))), (q_25, .inl (cA_26, 1, .inr (.inl of_413))), (q_19, .inr (11, [.int th2_417, .ref ys_23, .ref yp_24, .int 0]))] H := hP
  have hD : va_D A [(q_27, .inl (cA_28, 1, .inr (.inr (.inr (.inl (fun _ => 0)))))), (q_25, .inl (cA_26, 1, .inr (.inl of_413))), (q_19, .inr (11, [.int th2_417, .ref ys_23, .ref yp_24, .int 0]))] := hD
  have e9 := hw_415
  subst e9
  refine lv_istore (lv' := [(7, .int r_414), (6, .int 1), (5, .int 0), (4, .ref q_27), (3, .ref q_25), (2, .ref q_19), (1, .ref q_1), (0, .ref b)]) hx hb dL_law_1810 hl (by decide) rfl (fun ls hl => ?_)
  refine lv_aload_n hx hb dL_law_1812 rfl (lv_at hl 5 rfl) ?_
  have hPc := hP.sub (ws' := [(q_19, .inr (11, [.int 1, .ref ys_23, .ref yp_24, .int 0]))]) [2] rfl
  have hKc := hK.sub (tys' := []) [] rfl
  refine va_calli (va_runV (As := []) (rest := []) ⟨hx, hb, hml, hown, hts⟩ (c_X7_thrown l dC dI q_19 ys_23 yp_24 sa ta 1) (cwV 0 hts gl_X7_thrown rfl rfl rfl (by decide +kernel) ⟨Nat.le_of_ble_eq_true rfl, Nat.le_of_ble_eq_true rfl⟩) ⟨ax_fbR, va_recv hK hP (ci := 11) (q0 := 2) rfl rfl, ax_prR hPc hKc hS hE⟩ rfl rfl hl.1 rfl (lv_room (Nat.le_of_ble_eq_true rfl)) dL_law_1813 ⟨Nat.le_of_ble_eq_true rfl, Nat.le_of_ble_eq_true rfl⟩) hS (fun _ _ h9 => h9.elim) (fun _ h9 => h9.elim) (fun r_418 u_420  t H locs ht hvm hw_419 hB hz1 hk1 hS => ?_)
  have hP := ax_keep hP (fun _ h9 => h9) hk1
  refine ax_i (y := 1) hw_419 ?_
  refine lv_iload hx hb dL_law_1816 (lv_at hl 1 rfl) ?_
  refine lv_icmp_eq (tgt := 1823) hx hb dL_law_1818 (by decide) (fun _ => ?_) (fun h9 => absurd (by decide) h9)
  refine lv_iload hx hb dL_law_1823 (lv_at hl 1 rfl) ?_
  refine lv_if_ne (tgt := 1840) hx hb dL_law_1825 (by decide) (fun _ => ?_) (fun h9 => absurd h9 (by decide))
  refine lv_goto (tgt := 1857) hx hb dL_law_1840 (by decide) ?_
  refine lv_iinc (v := 5) (lv' := [(5, .int 5), (7, .int r_414), (6, .int 1), (4, .ref q_27), (3, .ref q_25), (2, .ref q_19), (1, .ref q_1), (0, .ref b)]) hx hb dL_law_1857 hl (k := 2) rfl (by decide) (by decide) rfl (fun ls hl => ?_)
  refine lv_goto (tgt := 28) hx hb dL_law_1860 (by decide) ?_
  refine lv_iload hx hb dL_law_28 (lv_at hl 0 rfl) ?_
  refine lv_aload_n hx hb dL_law_30 rfl (lv_at hl 7 rfl) ?_
  refine va_slen hx hb hX hbl hbA hS dL_law_31 ?_
  refine ax_i (y := 5) rfl ?_
  refine lv_iconst (v := 5) hx hb dL_law_32 (by decide) ?_
  refine lv_isub hx hb dL_law_33 ?_
  refine ax_i (y := 0) (by decide) ?_
  refine lv_icmp_gt (tgt := 1863) hx hb dL_law_34 (by decide) (fun _ => ?_) (fun h9 => absurd (by decide) h9)
  refine lv_iconst (v := 1) hx hb dL_law_1863 (by decide) ?_
  refine va_forget (fun q hq => by have h9 := hS.2.2 q hq; rw [hAd] at h9; exact h9) ?_
  refine W.widen (k := 600002) (n := 7302232) (Nat.le_of_ble_eq_true rfl) (Nat.le_of_ble_eq_true rfl) ?_
  refine W.base ?_
  exact lw_ret (Drawn.sameBut.refl s.drawn lw_cs) hx hb hr hlocks dL_law_1864

set_option maxHeartbeats 4000000 in
set_option maxRecDepth 100000 in
theorem law_c24 {p : Program} {e : Env} {s : State} {m : MethodId} {below : List Frame} {meth : Method} {c : Code} (l : Launch) (hlt : l.stackTraces = false) {dC : Nat → ClassId} {dI : Nat → Nat → Nat} {b : Nat} {xs : Nat → Int32} (C0 : lw_At p s m meth c b 5 xs) {A : Nat → Prop} (hAd : A = fun q => s.heap.size ≤ q) {sa ta : Nat → Nat} (hE : ax_S sa ta A s s.heap) {q_1 xs_5 xp_6 xl_7 xn_8 xm_9 xr_10 xw_11 xt_12 q_19 ys_23 yp_24 q_25 q_27 : Nat} {cS_13 cP_14 cn_15 cm_16 cw_17 ct_18 cA_26 cA_28 : ClassId} {H : Heap} {locs : List Loc} (hK : va_K (dC, dI) vwCl [(cS_13, .object "Diffractory$Source"), (cP_14, .object "Diffractory$Part"), (cn_15, .long), (cm_16, .long), (cw_17, .long), (ct_18, .long), (cA_26, .long), (cA_28, .double)] s) (hP : va_P (dC, dI) vwCl [(q_1, .inr (8, [.ref xs_5, .ref xp_6, .int 0, .int 0, .ref xl_7, .ref xr_10])), (xs_5, .inl (cS_13, 3, .inr (.inr (.inr (.inr (fun _ => none)))))), (xp_6, .inl (cP_14, 8, .inr (.inr (.inr (.inr (fun _ => none)))))), (xl_7, .inr (4, [.ref xn_8, .ref xm_9])), (xn_8, .inl (cn_15, 64, .inr (.inl (fun _ => 0)))), (xm_9, .inl (cm_16, 64, .inr (.inl (fun _ => 0)))), (xr_10, .inr (6, [.ref xw_11, .ref xt_12])), (xw_11, .inl (cw_17, 8, .inr (.inl (fun _ => 0)))), (xt_12, .inl (ct_18, 8, .inr (.inl (fun _ => 0)))), (q_19, .inr (11, [.int 0, .ref ys_23, .ref yp_24, .int 0])), (ys_23, .inr (3, [.int 0, .ref (ta 4), .int 0])), (yp_24, .inr (3, [.int 0, .ref (ta 4), .int 0])), (q_25, .inl (cA_26, 1, .inr (.inl (fun _ => 0)))), (q_27, .inl (cA_28, 1, .inr (.inr (.inr (.inl (fun _ => 0))))))] H) (hD : va_D A [(q_1, .inr (8, [.ref xs_5, .ref xp_6, .int 0, .int 0, .ref xl_7, .ref xr_10])), (xs_5, .inl (cS_13, 3, .inr (.inr (.inr (.inr (fun _ => none)))))), (xp_6, .inl (cP_14, 8, .inr (.inr (.inr (.inr (fun _ => none)))))), (xl_7, .inr (4, [.ref xn_8, .ref xm_9])), (xn_8, .inl (cn_15, 64, .inr (.inl (fun _ => 0)))), (xm_9, .inl (cm_16, 64, .inr (.inl (fun _ => 0)))), (xr_10, .inr (6, [.ref xw_11, .ref xt_12])), (xw_11, .inl (cw_17, 8, .inr (.inl (fun _ => 0)))), (xt_12, .inl (ct_18, 8, .inr (.inl (fun _ => 0)))), (q_19, .inr (11, [.int 0, .ref ys_23, .ref yp_24, .int 0])), (ys_23, .inr (3, [.int 0, .ref (ta 4), .int 0])), (yp_24, .inr (3, [.int 0, .ref (ta 4), .int 0])), (q_25, .inl (cA_26, 1, .inr (.inl (fun _ => 0)))), (q_27, .inl (cA_28, 1, .inr (.inr (.inr (.inl (fun _ => 0))))))]) (hS : va_S A s.heap H locs) {ls : Array Slot} (hl : lv_has ls 9 [(5, .int 0), (4, .ref q_27), (3, .ref q_25), (2, .ref q_19), (1, .ref q_1), (0, .ref b)]) : W p l e room_1 s m #[Value.ref b] below meth c H locs 14 177 (lw_Z below #[Value.ref b] s) (F0 m 1843 ls []) := by
  obtain ⟨hx, hb, hr, hml, hown, hts, hX, hbl, hlocks, hgv⟩ := C0
  have hA : ∀ q : Nat, s.heap.size ≤ q → A q := fun q h => by rw [hAd]; exact h
  have hbA : ¬ A b := by rw [hAd]; exact Nat.not_le.mpr hbl
  refine lv_aload_n hx hb dL_law_1843 rfl (lv_at hl 4 rfl) ?_
  have hPc := hP.sub (ws' := [(q_1, .inr (8, [.ref xs_5, .ref xp_6, .int 0, .int 0, .ref xl_7, .ref xr_10])), (xs_5, .inl (cS_13, 3, .inr (.inr (.inr (.inr (fun _ => none)))))), (xp_6, .inl (cP_14, 8, .inr (.inr (.inr (.inr (fun _ => none)))))), (xl_7, .inr (4, [.ref xn_8, .ref xm_9])), (xn_8, .inl (cn_15, 64, .inr (.inl (fun _ => 0)))), (xm_9, .inl (cm_16, 64, .inr (.inl (fun _ => 0)))), (xr_10, .inr (6, [.ref xw_11, .ref xt_12])), (xw_11, .inl (cw_17, 8, .inr (.inl (fun _ => 0)))), (xt_12, .inl (ct_18, 8, .inr (.inl (fun _ => 0))))]) [0, 1, 2, 3, 4, 5, 6, 7, 8] rfl
  have hKc := hK.sub (tys' := [(cS_13, .object "Diffractory$Source"), (cP_14, .object "Diffractory$Part"), (cn_15, .long), (cm_16, .long), (cw_17, .long), (ct_18, .long)]) [0, 1, 2, 3, 4, 5] rfl
  have hDc := hD.sub (ws' := [(q_1, .inr (8, [.ref xs_5, .ref xp_6, .int 0, .int 0, .ref xl_7, .ref xr_10])), (xs_5, .inl (cS_13, 3, .inr (.inr (.inr (.inr (fun _ => none)))))), (xp_6, .inl (cP_14, 8, .inr (.inr (.inr (.inr (fun _ => none)))))), (xl_7, .inr (4, [.ref xn_8, .ref xm_9])), (xn_8, .inl (cn_15, 64, .inr (.inl (fun _ => 0)))), (xm_9, .inl (cm_16, 64, .inr (.inl (fun _ => 0)))), (xr_10, .inr (6, [.ref xw_11, .ref xt_12])), (xw_11, .inl (cw_17, 8, .inr (.inl (fun _ => 0)))), (xt_12, .inl (ct_18, 8, .inr (.inl (fun _ => 0))))]) [0, 1, 2, 3, 4, 5, 6, 7, 8] (by decide) rfl
  have hFc := va_free (wc := [(q_1, .inr (8, [.ref xs_5, .ref xp_6, .int 0, .int 0, .ref xl_7, .ref xr_10])), (xs_5, .inl (cS_13, 3, .inr (.inr (.inr (.inr (fun _ => none)))))), (xp_6, .inl (cP_14, 8, .inr (.inr (.inr (.inr (fun _ => none)))))), (xl_7, .inr (4, [.ref xn_8, .ref xm_9])), (xn_8, .inl (cn_15, 64, .inr (.inl (fun _ => 0)))), (xm_9, .inl (cm_16, 64, .inr (.inl (fun _ => 0)))), (xr_10, .inr (6, [.ref xw_11, .ref xt_12])), (xw_11, .inl (cw_17, 8, .inr (.inl (fun _ => 0)))), (xt_12, .inl (ct_18, 8, .inr (.inl (fun _ => 0))))]) hD hS hA [0, 1, 2, 3, 4, 5, 6, 7, 8] rfl
  refine va_calll (va_runV (As := []) (rest := []) ⟨hx, hb, hml, hown, hts⟩ (c_X4_digest l hlt dC dI q_1 xs_5 xp_6 xl_7 xn_8 xm_9 xr_10 xw_11 xt_12 cS_13 cP_14 cn_15 cm_16 cw_17 ct_18 sa ta H.size) (cwV 0 hts gl_X4_digest rfl rfl rfl (by decide +kernel) ⟨Nat.le_of_ble_eq_true rfl, Nat.le_of_ble_eq_true rfl⟩) ⟨ax_fbW, va_recv hK hP (ci := 8) (q0 := 0) rfl rfl, ax_prW hPc hKc hDc hS hFc hE⟩ rfl rfl hl.1 rfl (lv_room (Nat.le_of_ble_eq_true rfl)) dL_law_1844 ⟨Nat.le_of_ble_eq_true rfl, Nat.le_of_ble_eq_true rfl⟩) hS (fun q _ h9 => hFc q h9) hFc (fun r_421 u_423  t H locs ht hvm hw_422 hB hz1 hk1 hS => ?_)
  obtain ⟨hP, hD⟩ := va_join (wr := [(q_19, .inr (11, [.int 0, .ref ys_23, .ref yp_24, .int 0])), (ys_23, .inr (3, [.int 0, .ref (ta 4), .int 0])), (yp_24, .inr (3, [.int 0, .ref (ta 4), .int 0])), (q_25, .inl (cA_26, 1, .inr (.inl (fun _ => 0)))), (q_27, .inl (cA_28, 1, .inr (.inr (.inr (.inl (fun _ => 0))))))]) (w1 := []) hP hD [0, 1, 2, 3, 4, 5, 6, 7, 8] [9, 10, 11, 12, 13] rfl rfl (by decide) (by decide) hk1 hFc (fun k q h9 => by simp at h9) ⟨fun i j p9 q9 h9 => by simp at h9, fun k q9 h9 => by simp at h9⟩
  have hP : va_P (dC, dI) vwCl [(q_19, .inr (11, [.int 0, .ref ys_23, .ref yp_24, .int 0])), (ys_23, .inr (3, [.int 0, .ref (ta 4), .int 0])), (yp_24, .inr (3, [.int 0, .ref (ta 4), .int 0])), (q_25, .inl (cA_26, 1, .inr (.inl (fun _ => 0)))), (q_27, .inl (cA_28, 1, .inr (.inr (.inr (.inl (fun _ => 0))))))] H := hP
  have hD : va_D A [(q_19, .inr (11, [.int 0, .ref ys_23, .ref yp_24, .int 0])), (ys_23, .inr (3, [.int 0, .ref (ta 4), .int 0])), (yp_24, .inr (3, [.int 0, .ref (ta 4), .int 0])), (q_25, .inl (cA_26, 1, .inr (.inl (fun _ => 0)))), (q_27, .inl (cA_28, 1, .inr (.inr (.inr (.inl (fun _ => 0))))))] := hD
  refine ax_l (y := (-5377871487814150780)) hw_422 ?_
  refine lv_aload_n hx hb dL_law_1847 rfl (lv_at hl 3 rfl) ?_
  have hPc := hP.sub (ws' := [(q_19, .inr (11, [.int 0, .ref ys_23, .ref yp_24, .int 0])), (ys_23, .inr (3, [.int 0, .ref (ta 4), .int 0])), (yp_24, .inr (3, [.int 0, .ref (ta 4), .int 0]))]) [0, 1, 2] rfl
  have hKc := hK.sub (tys' := []) [] rfl
  have hDc := hD.sub (ws' := [(q_19, .inr (11, [.int 0, .ref ys_23, .ref yp_24, .int 0])), (ys_23, .inr (3, [.int 0, .ref (ta 4), .int 0])), (yp_24, .inr (3, [.int 0, .ref (ta 4), .int 0]))]) [0, 1, 2] (by decide) rfl
  have hFc := va_free (wc := [(q_19, .inr (11, [.int 0, .ref ys_23, .ref yp_24, .int 0])), (ys_23, .inr (3, [.int 0, .ref (ta 4), .int 0])), (yp_24, .inr (3, [.int 0, .ref (ta 4), .int 0]))]) hD hS hA [0, 1, 2] rfl
  refine va_calll (va_runV (As := []) (rest := [.long (-5377871487814150780)]) ⟨hx, hb, hml, hown, hts⟩ (c_X7_digest l dC dI q_19 ys_23 yp_24 sa ta H.size 0) (cwV 0 hts gl_X7_digest rfl rfl rfl (by decide +kernel) ⟨Nat.le_of_ble_eq_true rfl, Nat.le_of_ble_eq_true rfl⟩) ⟨ax_fbW, va_recv hK hP (ci := 11) (q0 := 0) rfl rfl, ax_prW hPc hKc hDc hS hFc hE⟩ rfl rfl hl.1 rfl (lv_room (Nat.le_of_ble_eq_true rfl)) dL_law_1848 ⟨Nat.le_of_ble_eq_true rfl, Nat.le_of_ble_eq_true rfl⟩) hS (fun q _ h9 => hFc q h9) hFc (fun r_424 u_426  t H locs ht hvm hw_425 hB hz1 hk1 hS => ?_)
  obtain ⟨hP1, hK1, hD1⟩ := hB
  rw [ht] at hP1
  have hK1 := va_K.moved hvm.symm hK1
  obtain ⟨hP, hD⟩ := va_join (wr := [(q_25, .inl (cA_26, 1, .inr (.inl (fun _ => 0)))), (q_27, .inl (cA_28, 1, .inr (.inr (.inr (.inl (fun _ => 0))))))]) (w1 := [(q_19, .inr (11, [.int 0, .ref ys_23, .ref yp_24, .int 0]))]) hP hD [0, 1, 2] [3, 4] rfl rfl (by decide) (by decide) hk1 hFc hP1 hD1
  have hP : va_P (dC, dI) vwCl [(q_25, .inl (cA_26, 1, .inr (.inl (fun _ => 0)))), (q_27, .inl (cA_28, 1, .inr (.inr (.inr (.inl (fun _ => 0)))))), (q_19, .inr (11, [.int 0, .ref ys_23, .ref yp_24, .int 0]))] H := hP
  have hD : va_D A [(q_25, .inl (cA_26, 1, .inr (.inl (fun _ => 0)))), (q_27, .inl (cA_28, 1, .inr (.inr (.inr (.inl (fun _ => 0)))))), (q_19, .inr (11, [.int 0, .ref ys_23, .ref yp_24, .int 0]))] := hD
  refine ax_l (y := (-5377871487814150780)) hw_425 ?_
  refine W.lcmp hx hb dL_law_1851 ?_
  refine ax_i (y := 0) (by decide) ?_
  refine lv_if_eq (tgt := 1857) hx hb dL_law_1852 (by decide) (fun _ => ?_) (fun h9 => absurd (by decide) h9)
  refine lv_iinc (v := 5) (lv' := [(5, .int 5), (4, .ref q_27), (3, .ref q_25), (2, .ref q_19), (1, .ref q_1), (0, .ref b)]) hx hb dL_law_1857 hl (k := 0) rfl (by decide) (by decide) rfl (fun ls hl => ?_)
  refine lv_goto (tgt := 28) hx hb dL_law_1860 (by decide) ?_
  refine lv_iload hx hb dL_law_28 (lv_at hl 0 rfl) ?_
  refine lv_aload_n hx hb dL_law_30 rfl (lv_at hl 5 rfl) ?_
  refine va_slen hx hb hX hbl hbA hS dL_law_31 ?_
  refine ax_i (y := 5) rfl ?_
  refine lv_iconst (v := 5) hx hb dL_law_32 (by decide) ?_
  refine lv_isub hx hb dL_law_33 ?_
  refine ax_i (y := 0) (by decide) ?_
  refine lv_icmp_gt (tgt := 1863) hx hb dL_law_34 (by decide) (fun _ => ?_) (fun h9 => absurd (by decide) h9)
  refine lv_iconst (v := 1) hx hb dL_law_1863 (by decide) ?_
  refine va_forget (fun q hq => by have h9 := hS.2.2 q hq; rw [hAd] at h9; exact h9) ?_
  refine W.widen (k := 600002) (n := 7302232) (Nat.le_of_ble_eq_true rfl) (Nat.le_of_ble_eq_true rfl) ?_
  refine W.base ?_
  exact lw_ret (Drawn.sameBut.refl s.drawn lw_cs) hx hb hr hlocks dL_law_1864
