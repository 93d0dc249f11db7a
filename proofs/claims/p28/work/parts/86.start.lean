set_option maxHeartbeats 8000000 in
set_option maxRecDepth 100000 in
theorem whole_start {p : Program} {e : Env} {s : State} {m : MethodId} {below : List Frame} {meth : Method} {c : Code} (l : Launch) (hflags : l.flags = flags0) {b L : Nat} {xs : Nat → Int32} (hL : L ≤ 260) (C0 : lw_At p s m meth c b L xs) : W p l e room_1 s m #[Value.ref b] below meth c s.heap [] 0 0 (lw_Z below #[Value.ref b] s) (entryFrame m ([Value.ref b] : List Value).toArray 14) := by
  obtain ⟨hx, hb, hr, hml, hown, hts, hX, hbl, hlocks, hgv⟩ := id C0
  have hLs := hL
  obtain ⟨A, hAd⟩ : ∃ A : Nat → Prop, A = fun q => s.heap.size ≤ q := ⟨_, rfl⟩
  have hA : ∀ q : Nat, s.heap.size ≤ q → A q := fun q h => by rw [hAd]; exact h
  have hbA : ¬ A b := by rw [hAd]; exact Nat.not_le.mpr hbl
  obtain ⟨c0, i0, hKn0⟩ := u_known (C := RX0) (T := TX0) (N := 2) (n := 2) hts in_X0 (hts (.instantiable RX0 2) (by decide +kernel))
  obtain ⟨c1, i1, hKn1⟩ := u_known (C := RX1) (T := TX1) (N := 6) (n := 6) hts in_X1 (hts (.instantiable RX1 6) (by decide +kernel))
  obtain ⟨c2, i2, hKn2⟩ := u_known (C := RX2) (T := TX2) (N := 2) (n := 2) hts in_X2 (hts (.instantiable RX2 2) (by decide +kernel))
  obtain ⟨c3, i3, hKn3⟩ := u_known (C := RX3) (T := TX3) (N := 3) (n := 3) hts in_X3 (hts (.instantiable RX3 3) (by decide +kernel))
  obtain ⟨c4, i4, hKn4⟩ := u_known (C := RX4) (T := TX4) (N := 6) (n := 6) hts in_X4 (hts (.instantiable RX4 6) (by decide +kernel))
  obtain ⟨dC, dI, hKc⟩ : ∃ (dC : Nat → ClassId) (dI : Nat → Nat → Nat), ∀ (k : Nat) (q : vw_C), vwCl[k]? = some q → u_Kn s q.1 q.2.1 q.2.2 (dC k) (dI k) := by
    refine ⟨fun k => match k with | 0 => c0 | 1 => c1 | 2 => c2 | 3 => c3 | _ => c4, fun k => match k with | 0 => i0 | 1 => i1 | 2 => i2 | 3 => i3 | _ => i4, ?_⟩
    intro k q hq
    match k, hq with
    | 0, hq => cases hq; exact hKn0
    | 1, hq => cases hq; exact hKn1
    | 2, hq => cases hq; exact hKn2
    | 3, hq => cases hq; exact hKn3
    | 4, hq => cases hq; exact hKn4
    | k + 5, hq => simp [vwCl] at hq
  obtain ⟨cI, kI, compI, hcI, hkI, hkdI⟩ := Cond.arrayClass_spec (hts (.arrayClass .int) (by decide +kernel))
  have hS : va_S A s.heap s.heap [] := va_S.rf
  have hK : va_K (dC, dI) vwCl [(cI, .int)] s := ⟨hKc, fun k q h => by
    have h0 : k < 1 := (List.getElem?_eq_some_iff.mp h).1
    rw [show k = 0 by omega] at h
    cases h
    exact ⟨fun n z => ⟨fun k h => (by cases h), kI, hkI, compI, hkdI⟩, hcI⟩⟩
  have hP : va_P (dC, dI) vwCl [] s.heap := fun k q h => by simp at h
  have hD : va_D A [] := ⟨fun i j p q h => by simp at h, fun k q h => by simp at h⟩
  obtain ⟨ta, hE⟩ := ax_S_start (A := A) hts hgv (fun a h => by rw [hAd]; exact Nat.not_le.mpr h)
  have hl := lv_entry ([.ref b]) (n := 14) (Nat.le_of_ble_eq_true rfl)
  rw [lg_entry_eq]
  generalize (lg_sl ([.ref b]) ++ List.replicate (14 - (lg_sl ([.ref b])).length) Slot.unset).toArray = ls at hl ⊢
  have hl : lv_has ls 14 [(0, .ref b)] := hl
  refine va_new (ci := 4) (fs := [.null, .null, .int 0, .int 0, .null, .null]) (C := RX4) (T := TX4) (N := 6) hx hb hts (by decide +kernel) tyX4 tyX4_ok hown (hts (.classLink RL 9 RX4) (by decide +kernel)) (hts (.instantiable RX4 6) (by decide +kernel)) (hts (.initialized RX4) (by decide +kernel)) hK hP hD hS hA rfl (fun j hj => by rcases (show j = 0 ∨ j = 1 ∨ j = 2 ∨ j = 3 ∨ j = 4 ∨ j = 5 by omega) with rfl | rfl | rfl | rfl | rfl | rfl <;> rfl) (Nat.le_of_ble_eq_true rfl) (Nat.le_of_ble_eq_true rfl) dL_law_0 (fun q_1 H hP hD hS => ?_)
  have hP : va_P (dC, dI) vwCl [(q_1, .inr (4, [.null, .null, .int 0, .int 0, .null, .null]))] H := hP
  have hD : va_D A [(q_1, .inr (4, [.null, .null, .int 0, .int 0, .null, .null]))] := hD
  refine lv_dup hx hb dL_law_3 rfl ?_
  have hPc := hP.sub (ws' := [(q_1, .inr (4, [.null, .null, .int 0, .int 0, .null, .null]))]) [0] rfl
  have hKc := hK.sub (tys' := []) [] rfl
  have hDc := hD.sub (ws' := [(q_1, .inr (4, [.null, .null, .int 0, .int 0, .null, .null]))]) [0] (by decide) rfl
  have hFc := va_free (wc := [(q_1, .inr (4, [.null, .null, .int 0, .int 0, .null, .null]))]) hD hS hA [0] rfl
  refine va_callv (va_runI (As := []) (rest := [.ref q_1]) ⟨hx, hb, hml, hown, hts⟩ (c_X4_init l dC dI q_1 ta H.size) (cwI 0 hts gl_X4_init rfl rfl rfl (hts (.initialized RX4) (by decide +kernel)) (hts (.methodLink RL 11 yX4_init) (by decide +kernel)) (hts (.instanceMethod yX4_init) (by decide +kernel)) rfl (by decide +kernel) ⟨Nat.le_of_ble_eq_true rfl, Nat.le_of_ble_eq_true rfl⟩) ⟨ax_fbW, ax_prW hPc hKc hDc hS hFc hE⟩ rfl rfl hl.1 rfl (lv_room (Nat.le_of_ble_eq_true rfl)) dL_law_4 ⟨by show _ ≤ 655224; omega, by show _ ≤ 7135951; omega⟩) hS (fun q _ h9 => hFc q h9) hFc (fun u_4 t8 H locs ht hvm hw_3 hB hz1 hk1 hS => ?_)
  obtain ⟨xs_5, xp_6, xl_7, xn_8, xm_9, xr_10, xw_11, xt_12, cS_13, cP_14, cL_15⟩ := u_4
  obtain ⟨hP1, hK1, hD1⟩ := hB
  rw [ht] at hP1
  have hK1 := va_K.moved hvm.symm hK1
  obtain ⟨hP, hD⟩ := va_join (wr := []) (w1 := [(q_1, .inr (4, [.ref xs_5, .ref xp_6, .int 0, .int 0, .ref xl_7, .ref xr_10])), (xs_5, .inl (cS_13, 3, .inr (.inr (.inr (.inr (fun _ => none)))))), (xp_6, .inl (cP_14, 8, .inr (.inr (.inr (.inr (fun _ => none)))))), (xl_7, .inr (0, [.ref xn_8, .ref xm_9])), (xn_8, .inl (cL_15, 64, .inr (.inl (fun _ => 0)))), (xm_9, .inl (cL_15, 64, .inr (.inl (fun _ => 0)))), (xr_10, .inr (2, [.ref xw_11, .ref xt_12])), (xw_11, .inl (cL_15, 8, .inr (.inl (fun _ => 0)))), (xt_12, .inl (cL_15, 8, .inr (.inl (fun _ => 0))))]) hP hD [0] [] rfl rfl (by decide) (by decide) hk1 hFc hP1 hD1
  have hK := hK.app hK1
  have hK := hK.sub (tys' := [(cI, .int), (cS_13, .object "Diffractory$Source"), (cP_14, .object "Diffractory$Part"), (cL_15, .long)]) [0, 1, 2, 3] rfl
  have hP : va_P (dC, dI) vwCl [(q_1, .inr (4, [.ref xs_5, .ref xp_6, .int 0, .int 0, .ref xl_7, .ref xr_10])), (xs_5, .inl (cS_13, 3, .inr (.inr (.inr (.inr (fun _ => none)))))), (xp_6, .inl (cP_14, 8, .inr (.inr (.inr (.inr (fun _ => none)))))), (xl_7, .inr (0, [.ref xn_8, .ref xm_9])), (xn_8, .inl (cL_15, 64, .inr (.inl (fun _ => 0)))), (xm_9, .inl (cL_15, 64, .inr (.inl (fun _ => 0)))), (xr_10, .inr (2, [.ref xw_11, .ref xt_12])), (xw_11, .inl (cL_15, 8, .inr (.inl (fun _ => 0)))), (xt_12, .inl (cL_15, 8, .inr (.inl (fun _ => 0))))] H := hP
  have hD : va_D A [(q_1, .inr (4, [.ref xs_5, .ref xp_6, .int 0, .int 0, .ref xl_7, .ref xr_10])), (xs_5, .inl (cS_13, 3, .inr (.inr (.inr (.inr (fun _ => none)))))), (xp_6, .inl (cP_14, 8, .inr (.inr (.inr (.inr (fun _ => none)))))), (xl_7, .inr (0, [.ref xn_8, .ref xm_9])), (xn_8, .inl (cL_15, 64, .inr (.inl (fun _ => 0)))), (xm_9, .inl (cL_15, 64, .inr (.inl (fun _ => 0)))), (xr_10, .inr (2, [.ref xw_11, .ref xt_12])), (xw_11, .inl (cL_15, 8, .inr (.inl (fun _ => 0)))), (xt_12, .inl (cL_15, 8, .inr (.inl (fun _ => 0))))] := hD
  refine lv_astore_n (lv' := [(1, .ref q_1), (0, .ref b)]) hx hb dL_law_7 rfl hl (by decide) rfl (fun ls hl => ?_)
  refine lv_bipush (v := 8) hx hb dL_law_8 (by decide) ?_
  refine lv_bipush (v := 8) hx hb dL_law_10 (by decide) ?_
  have hP : va_P (dC, dI) vwCl ([(q_1, .inr (4, [.ref xs_5, .ref xp_6, .int 0, .int 0, .ref xl_7, .ref xr_10])), (xs_5, .inl (cS_13, 3, .inr (.inr (.inr (.inr (fun _ => none)))))), (xp_6, .inl (cP_14, 8, .inr (.inr (.inr (.inr (fun _ => none)))))), (xl_7, .inr (0, [.ref xn_8, .ref xm_9])), (xn_8, .inl (cL_15, 64, .inr (.inl (fun _ => 0)))), (xm_9, .inl (cL_15, 64, .inr (.inl (fun _ => 0)))), (xr_10, .inr (2, [.ref xw_11, .ref xt_12])), (xw_11, .inl (cL_15, 8, .inr (.inl (fun _ => 0)))), (xt_12, .inl (cL_15, 8, .inr (.inl (fun _ => 0))))] ++ va_pl [] (fun _ => .inr (0, []))) H := hP
  have hD : va_D A ([(q_1, .inr (4, [.ref xs_5, .ref xp_6, .int 0, .int 0, .ref xl_7, .ref xr_10])), (xs_5, .inl (cS_13, 3, .inr (.inr (.inr (.inr (fun _ => none)))))), (xp_6, .inl (cP_14, 8, .inr (.inr (.inr (.inr (fun _ => none)))))), (xl_7, .inr (0, [.ref xn_8, .ref xm_9])), (xn_8, .inl (cL_15, 64, .inr (.inl (fun _ => 0)))), (xm_9, .inl (cL_15, 64, .inr (.inl (fun _ => 0)))), (xr_10, .inr (2, [.ref xw_11, .ref xt_12])), (xw_11, .inl (cL_15, 8, .inr (.inl (fun _ => 0)))), (xt_12, .inl (cL_15, 8, .inr (.inl (fun _ => 0))))] ++ va_pl [] (fun _ => .inr (0, []))) := hD
  refine va_mna (X := [(q_1, .inr (4, [.ref xs_5, .ref xp_6, .int 0, .int 0, .ref xl_7, .ref xr_10])), (xs_5, .inl (cS_13, 3, .inr (.inr (.inr (.inr (fun _ => none)))))), (xp_6, .inl (cP_14, 8, .inr (.inr (.inr (.inr (fun _ => none)))))), (xl_7, .inr (0, [.ref xn_8, .ref xm_9])), (xn_8, .inl (cL_15, 64, .inr (.inl (fun _ => 0)))), (xm_9, .inl (cL_15, 64, .inr (.inl (fun _ => 0)))), (xr_10, .inr (2, [.ref xw_11, .ref xt_12])), (xw_11, .inl (cL_15, 8, .inr (.inl (fun _ => 0)))), (xt_12, .inl (cL_15, 8, .inr (.inl (fun _ => 0))))]) (L := []) (f := fun _ => .inr (0, [])) (ty := .int) (cy := cI) (N' := 8) (K' := 8) (z := (8, .inl (fun _ => 0))) hx hb hown (hts (.classLink RL 12 "[[I") (by decide +kernel)) (va_AOA.of (hts (.arrayOver (.array .int)) (by decide +kernel))) (hts (.arrayClass .int) (by decide +kernel)) hcI hK hP hD hS hA (by decide) (by decide) (by decide) (by decide) (by decide) (by decide) (by decide) (by decide) (by decide) (by show _ ≤ 655224; decide) (by show _ ≤ 7135951; decide) (fun c => arrV_new c 8 (.int 0)) dL_law_12 (fun oq rr cO H hinj hfresh hK hP hD hS => ?_)
  obtain ⟨LP0, hLP⟩ : ∃ z : List Nat, z = [] ++ (List.range 8).map rr := ⟨_, rfl⟩
  obtain ⟨f0, hf0⟩ : ∃ z : Nat → va_E, z = vr_up (fun _ => .inr (0, [])) ((List.range 8).map rr) (.inl (cI, 8, .inl (fun _ => 0))) := ⟨_, rfl⟩
  rw [← hLP, ← hf0] at hP hD
  have hK : va_K (dC, dI) vwCl [(cI, .int), (cS_13, .object "Diffractory$Source"), (cP_14, .object "Diffractory$Part"), (cL_15, .long), (cO, .array .int)] s := hK
  have hP : va_P (dC, dI) vwCl ([(q_1, .inr (4, [.ref xs_5, .ref xp_6, .int 0, .int 0, .ref xl_7, .ref xr_10])), (xs_5, .inl (cS_13, 3, .inr (.inr (.inr (.inr (fun _ => none)))))), (xp_6, .inl (cP_14, 8, .inr (.inr (.inr (.inr (fun _ => none)))))), (xl_7, .inr (0, [.ref xn_8, .ref xm_9])), (xn_8, .inl (cL_15, 64, .inr (.inl (fun _ => 0)))), (xm_9, .inl (cL_15, 64, .inr (.inl (fun _ => 0)))), (xr_10, .inr (2, [.ref xw_11, .ref xt_12])), (xw_11, .inl (cL_15, 8, .inr (.inl (fun _ => 0)))), (xt_12, .inl (cL_15, 8, .inr (.inl (fun _ => 0)))), (oq, .inl (cO, 8, .inr (.inr (.inr (.inr (mxr rr))))))] ++ va_pl LP0 f0) H := hP
  have hD : va_D A ([(q_1, .inr (4, [.ref xs_5, .ref xp_6, .int 0, .int 0, .ref xl_7, .ref xr_10])), (xs_5, .inl (cS_13, 3, .inr (.inr (.inr (.inr (fun _ => none)))))), (xp_6, .inl (cP_14, 8, .inr (.inr (.inr (.inr (fun _ => none)))))), (xl_7, .inr (0, [.ref xn_8, .ref xm_9])), (xn_8, .inl (cL_15, 64, .inr (.inl (fun _ => 0)))), (xm_9, .inl (cL_15, 64, .inr (.inl (fun _ => 0)))), (xr_10, .inr (2, [.ref xw_11, .ref xt_12])), (xw_11, .inl (cL_15, 8, .inr (.inl (fun _ => 0)))), (xt_12, .inl (cL_15, 8, .inr (.inl (fun _ => 0)))), (oq, .inl (cO, 8, .inr (.inr (.inr (.inr (mxr rr))))))] ++ va_pl LP0 f0) := hD
  refine lv_astore_n (lv' := [(2, .ref oq), (1, .ref q_1), (0, .ref b)]) hx hb dL_law_16 rfl hl (by decide) rfl (fun ls hl => ?_)
  refine lv_iconst (v := 0) hx hb dL_law_17 (by decide) ?_
  refine lv_istore_n (lv' := [(3, .int 0), (2, .ref oq), (1, .ref q_1), (0, .ref b)]) hx hb dL_law_18 rfl hl (by decide) rfl (fun ls hl => ?_)
  refine lv_iconst (v := 0) hx hb dL_law_19 (by decide) ?_
  refine lv_istore (lv' := [(4, .int 0), (3, .int 0), (2, .ref oq), (1, .ref q_1), (0, .ref b)]) hx hb dL_law_20 hl (by decide) rfl (fun ls hl => ?_)
  have hl : lv_has ls 14 [(0, .ref b), (1, .ref q_1), (2, .ref oq), (3, .int 0), (4, .int 0)] := lv_sub hl [4, 3, 2, 1, 0] rfl
  have hK := hK.sub (tys' := [(cS_13, .object "Diffractory$Source"), (cP_14, .object "Diffractory$Part"), (cL_15, .long), (cI, .int), (cO, .array .int)]) [1, 2, 3, 0, 4] rfl
  have hmx0 : mxI cI LP0 f0 rr (fun _ => 0) 0 (fun _ _ => 0) := ⟨fun i hi => ⟨by rw [hLP]; exact List.mem_append_right _ (List.mem_map.mpr ⟨i, List.mem_range.mpr hi, rfl⟩), by rw [hf0]; exact vr_up_in (List.mem_map.mpr ⟨i, List.mem_range.mpr hi, rfl⟩)⟩, hinj, fun i j hi hj => absurd hj (Nat.not_lt_zero j)⟩
  have hbn0 : bn cI LP0 f0 (fun _ => none) (fun _ => none) (fun _ => 0) (fun _ => 0) (fun _ => 0) (fun _ => (0, 0, 0)) (fun _ => (0, 0, 0, 0, 0, fun _ => 0)) 0 0 := ⟨by decide, by decide, fun i hi => absurd hi (Nat.not_lt_zero i), fun i hi => absurd hi (Nat.not_lt_zero i), fun i j hi => absurd hi (Nat.not_lt_zero i), fun i j hi => absurd hi (Nat.not_lt_zero i), fun i j hi => absurd hi (Nat.not_lt_zero i)⟩
  refine W.widen (k := 30) (n := 320) (by decide) (by decide) ?_
  refine ax_loopR (σ := Nat × (List Nat) × (Nat → va_E) × (Nat → Option Nat) × (Nat → Option Nat) × (Nat → Nat) × (Nat → Nat) × (Nat → Nat) × (Nat → ST) × (Nat → PT) × Nat × Nat × (Nat → Nat → Nat) × Nat × Nat × (Nat → Int64) × (Nat → Int64) × (Nat → Int64)) (fun r z9 H locs ls => (bn cI z9.2.1 z9.2.2.1 z9.2.2.2.1 z9.2.2.2.2.1 z9.2.2.2.2.2.1 z9.2.2.2.2.2.2.1 z9.2.2.2.2.2.2.2.1 z9.2.2.2.2.2.2.2.2.1 z9.2.2.2.2.2.2.2.2.2.1 z9.2.2.2.2.2.2.2.2.2.2.1 z9.2.2.2.2.2.2.2.2.2.2.2.1) ∧ (mxI cI z9.2.1 z9.2.2.1 rr z9.2.2.2.2.2.2.2.1 z9.2.2.2.2.2.2.2.2.2.2.2.1 z9.2.2.2.2.2.2.2.2.2.2.2.2.1) ∧ (cexR z9.2.2.2.2.2.2.2.2.2.1 z9.2.2.2.2.2.2.2.2.2.2.2.1 = z9.1) ∧ (z9.1 ≤ r) ∧ (∀ i, i < z9.2.2.2.2.2.2.2.2.2.2.2.1 → (z9.2.2.2.2.2.2.2.2.2.1 i).2.2.2.2.1 ≤ r) ∧ (∀ i, i < z9.2.2.2.2.2.2.2.2.2.2.2.1 → ∀ j, j < 8 → z9.2.2.2.2.2.2.2.2.2.2.2.2.1 i j ≤ (z9.2.2.2.2.2.2.2.2.2.1 i).2.2.2.2.2 j) ∧ (∀ i, z9.2.2.2.2.2.2.2.2.2.2.2.1 ≤ i → ∀ j, j < 8 → z9.2.2.2.2.2.2.2.2.2.2.2.2.1 i j = 0) ∧ lv_has ls 14 [(0, .ref b), (1, .ref q_1), (2, .ref oq), (3, .int (nI z9.1)), (4, .int (nI r))] ∧ va_P (dC, dI) vwCl ([(q_1, .inr (4, [.ref xs_5, .ref xp_6, .int (nI z9.2.2.2.2.2.2.2.2.2.2.1), .int (nI z9.2.2.2.2.2.2.2.2.2.2.2.1), .ref xl_7, .ref xr_10])), (xs_5, .inl (cS_13, 3, .inr (.inr (.inr (.inr z9.2.2.2.1))))), (xp_6, .inl (cP_14, 8, .inr (.inr (.inr (.inr z9.2.2.2.2.1))))), (xl_7, .inr (0, [.ref z9.2.2.2.2.2.2.2.2.2.2.2.2.2.1, .ref z9.2.2.2.2.2.2.2.2.2.2.2.2.2.2.1])), (z9.2.2.2.2.2.2.2.2.2.2.2.2.2.1, .inl (cL_15, 64, .inr (.inl z9.2.2.2.2.2.2.2.2.2.2.2.2.2.2.2.1))), (z9.2.2.2.2.2.2.2.2.2.2.2.2.2.2.1, .inl (cL_15, 64, .inr (.inl (fun _ => 0)))), (xr_10, .inr (2, [.ref xw_11, .ref xt_12])), (xw_11, .inl (cL_15, 8, .inr (.inl z9.2.2.2.2.2.2.2.2.2.2.2.2.2.2.2.2.1))), (xt_12, .inl (cL_15, 8, .inr (.inl z9.2.2.2.2.2.2.2.2.2.2.2.2.2.2.2.2.2))), (oq, .inl (cO, 8, .inr (.inr (.inr (.inr (mxr rr))))))] ++ va_pl z9.2.1 z9.2.2.1) H ∧ va_D A ([(q_1, .inr (4, [.ref xs_5, .ref xp_6, .int (nI z9.2.2.2.2.2.2.2.2.2.2.1), .int (nI z9.2.2.2.2.2.2.2.2.2.2.2.1), .ref xl_7, .ref xr_10])), (xs_5, .inl (cS_13, 3, .inr (.inr (.inr (.inr z9.2.2.2.1))))), (xp_6, .inl (cP_14, 8, .inr (.inr (.inr (.inr z9.2.2.2.2.1))))), (xl_7, .inr (0, [.ref z9.2.2.2.2.2.2.2.2.2.2.2.2.2.1, .ref z9.2.2.2.2.2.2.2.2.2.2.2.2.2.2.1])), (z9.2.2.2.2.2.2.2.2.2.2.2.2.2.1, .inl (cL_15, 64, .inr (.inl z9.2.2.2.2.2.2.2.2.2.2.2.2.2.2.2.1))), (z9.2.2.2.2.2.2.2.2.2.2.2.2.2.2.1, .inl (cL_15, 64, .inr (.inl (fun _ => 0)))), (xr_10, .inr (2, [.ref xw_11, .ref xt_12])), (xw_11, .inl (cL_15, 8, .inr (.inl z9.2.2.2.2.2.2.2.2.2.2.2.2.2.2.2.2.1))), (xt_12, .inl (cL_15, 8, .inr (.inl z9.2.2.2.2.2.2.2.2.2.2.2.2.2.2.2.2.2))), (oq, .inl (cO, 8, .inr (.inr (.inr (.inr (mxr rr))))))] ++ va_pl z9.2.1 z9.2.2.1) ∧ va_S A s.heap H locs) (fun r => 30 + 2 * r) (fun r => 320 + 14 * r) 44 (fun r z9 H locs ls hrd hI next => ?_) (fun z9 H locs ls hI => ?_) (0, LP0, f0, (fun _ => none), (fun _ => none), (fun _ => 0), (fun _ => 0), (fun _ => 0), (fun _ => (0, 0, 0)), (fun _ => (0, 0, 0, 0, 0, fun _ => 0)), 0, 0, (fun _ _ => 0), xn_8, xm_9, (fun _ => 0), (fun _ => 0), (fun _ => 0)) ⟨hbn0, hmx0, rfl, Nat.le_refl _, fun i hi => absurd hi (Nat.not_lt_zero i), fun i hi => absurd hi (Nat.not_lt_zero i), fun _ _ _ _ => rfl, hl, hP, hD, hS⟩
  · obtain ⟨E, LP, f, sA, pA, sd, pd, ed, S, P, ns, np, X, n1, m1, u1, w1, t1⟩ := z9
    obtain ⟨hbn, hmx, hEx, hEr, htm, hXx, hX0, hl, hP, hD, hS⟩ := hI
    have hl : lv_has ls 14 [(0, .ref b), (1, .ref q_1), (2, .ref oq), (3, .int (nI E)), (4, .int (nI r))] := hl
    refine lv_iload hx hb dL_law_22 (lv_at hl 4 rfl) ?_
    refine lv_bipush (v := 44) hx hb dL_law_24 (by decide) ?_
    refine lv_icmp_ge (tgt := 637) hx hb dL_law_26 (by decide) (fun c9 => ?_) (fun _ => ?_)
    · exfalso
      have c9 : ¬ r < 44 := ax_fgeTN (by omega) (by omega) c9
      omega
    · exact law_round l hLs C0 hAd hE hK r hrd E LP f sA pA sd pd ed S P ns np X n1 m1 u1 w1 t1 H locs ls hbn hmx hEx hEr htm hXx hX0 hl hP hD hS next
  · obtain ⟨E, LP, f, sA, pA, sd, pd, ed, S, P, ns, np, X, n1, m1, u1, w1, t1⟩ := z9
    obtain ⟨hbn, hmx, hEx, hEr, htm, hXx, hX0, hl, hP, hD, hS⟩ := hI
    refine lv_iload hx hb dL_law_22 (lv_at hl 4 rfl) ?_
    refine lv_bipush (v := 44) hx hb dL_law_24 (by decide) ?_
    refine lv_icmp_ge (tgt := 637) hx hb dL_law_26 (by decide) (fun _ => ?_) (fun h9 => absurd (by decide) h9)
    exact law_fin l hLs C0 hAd hE hK E LP f sA pA sd pd ed S P ns np X n1 m1 u1 w1 t1 H locs ls hbn hmx hEx hEr htm hXx hX0 hl hP hD hS
