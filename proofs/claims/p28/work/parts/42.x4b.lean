set_option maxHeartbeats 4000000 in
set_option maxRecDepth 100000 in
theorem c_X4_countPartsIn (l : Launch) (dC : Nat → ClassId) (dI : Nat → Nat → Nat) (x xs xp xl xn xm xr xw xt : Nat) (cS cP cL cI : ClassId) (ta : Nat → Nat) (u : Nat → Int64) (w : Nat → Int64) (t : Nat → Int64) (L : List Nat) (f : Nat → va_E) (sA : Nat → Option Nat) (pA : Nat → Option Nat) (sd : Nat → Nat) (pd : Nat → Nat) (ed : Nat → Nat) (S : Nat → ST) (P : Nat → PT) (ns : Nat) (np : Nat) (hbn : bn cI L f sA pA sd pd ed S P ns np) : Met l yX4_countPartsIn wsX4_countPartsIn ({ frames := 1, cells := 0, slots := 0, locals := 21 }) (va_Pc [.ref x] (ax_R (dC, dI) vwCl ([(x, .inr (4, [.ref xs, .ref xp, .int (nI ns), .int (nI np), .ref xl, .ref xr])), (xs, .inl (cS, 3, .inr (.inr (.inr (.inr sA))))), (xp, .inl (cP, 8, .inr (.inr (.inr (.inr pA))))), (xl, .inr (0, [.ref xn, .ref xm])), (xn, .inl (cL, 64, .inr (.inl u))), (xm, .inl (cL, 64, .inr (.inl (fun _ => 0)))), (xr, .inr (2, [.ref xw, .ref xt])), (xw, .inl (cL, 8, .inr (.inl w))), (xt, .inl (cL, 8, .inr (.inl t)))] ++ va_pl L f) [(cS, .object "Diffractory$Source"), (cP, .object "Diffractory$Part"), (cL, .long), (cI, .int)] ta)) (va_Qi (fun (r : Int32) (u9 : Unit) => r = (nI (cinR P np))) (fun _ _ => True) ax_no) 0 0 ax_no := by
  refine Met.ofW (cc := cX4_countPartsIn) (maxL := 4) (ret := (some .int)) (by decide) rfl ?_
  intro p e s m args below meth c s₁ B hml hv
  obtain ⟨rfl, hP, hK, hE⟩ := hv
  have hx := B.exec
  have hb := B.bytes
  have hr := B.returns
  have hts := atoms_spec (ws := wsX4_countPartsIn) B.pre
  have hown : s.vm.findClass RX4 = some m.cls := findClass_of_methodNamed B.named
  have hlocks := B.notSynchronized
  have hS : va_S ax_no s.heap s.heap [] := va_S.rf
  have hl := lv_entry ([.ref x]) (n := 4) (Nat.le_of_ble_eq_true rfl)
  rw [lg_entry_eq]
  generalize (lg_sl ([.ref x]) ++ List.replicate (4 - (lg_sl ([.ref x])).length) Slot.unset).toArray = ls at hl ⊢
  have hl : lv_has ls 4 [(0, .ref x)] := hl
  have hP : va_P (dC, dI) vwCl ([(x, .inr (4, [.ref xs, .ref xp, .int (nI ns), .int (nI np), .ref xl, .ref xr])), (xs, .inl (cS, 3, .inr (.inr (.inr (.inr sA))))), (xp, .inl (cP, 8, .inr (.inr (.inr (.inr pA))))), (xl, .inr (0, [.ref xn, .ref xm])), (xn, .inl (cL, 64, .inr (.inl u))), (xm, .inl (cL, 64, .inr (.inl (fun _ => 0)))), (xr, .inr (2, [.ref xw, .ref xt])), (xw, .inl (cL, 8, .inr (.inl w))), (xt, .inl (cL, 8, .inr (.inl t)))] ++ va_pl L f) s.heap := hP
  obtain ⟨hns3, hnp8, hbS, hbP, hiS, hiP, hiE⟩ := id hbn
  refine lv_iconst (v := 0) hx hb dX4_countPartsIn_0 (by decide) ?_
  refine lv_istore_n (lv' := [(1, .int 0), (0, .ref x)]) hx hb dX4_countPartsIn_1 rfl hl (by decide) rfl (fun ls hl => ?_)
  refine lv_iconst (v := 0) hx hb dX4_countPartsIn_2 (by decide) ?_
  refine lv_istore_n (lv' := [(2, .int 0), (1, .int 0), (0, .ref x)]) hx hb dX4_countPartsIn_3 rfl hl (by decide) rfl (fun ls hl => ?_)
  refine ax_loop (σ := Nat × Nat) (fun z9 H locs ls => (z9.1 ≤ np) ∧ (z9.2 = cinR P z9.1) ∧ (z9.2 ≤ z9.1) ∧ lv_has ls 4 [(2, .int (nI z9.1)), (1, .int (nI z9.2)), (0, .ref x)] ∧ va_P (dC, dI) vwCl ([(x, .inr (4, [.ref xs, .ref xp, .int (nI ns), .int (nI np), .ref xl, .ref xr])), (xs, .inl (cS, 3, .inr (.inr (.inr (.inr sA))))), (xp, .inl (cP, 8, .inr (.inr (.inr (.inr pA))))), (xl, .inr (0, [.ref xn, .ref xm])), (xn, .inl (cL, 64, .inr (.inl u))), (xm, .inl (cL, 64, .inr (.inl (fun _ => 0)))), (xr, .inr (2, [.ref xw, .ref xt])), (xw, .inl (cL, 8, .inr (.inl w))), (xt, .inl (cL, 8, .inr (.inl t)))] ++ va_pl L f) H ∧ va_S ax_no s.heap H locs) (fun z9 => np - z9.1) (fun z9 H locs ls hI ih => ?_) (0, 0) ⟨by omega, rfl, by omega, hl, hP, hS⟩
  obtain ⟨i, ct⟩ := z9
  obtain ⟨hi1, hct, hcl, hl, hP, hS⟩ := hI
  have hi1 : i ≤ np := hi1
  have hct : ct = cinR P i := hct
  have hcl : ct ≤ i := hcl
  have hl : lv_has ls 4 [(2, .int (nI i)), (1, .int (nI ct)), (0, .ref x)] := hl
  have hP : va_P (dC, dI) vwCl ([(x, .inr (4, [.ref xs, .ref xp, .int (nI ns), .int (nI np), .ref xl, .ref xr])), (xs, .inl (cS, 3, .inr (.inr (.inr (.inr sA))))), (xp, .inl (cP, 8, .inr (.inr (.inr (.inr pA))))), (xl, .inr (0, [.ref xn, .ref xm])), (xn, .inl (cL, 64, .inr (.inl u))), (xm, .inl (cL, 64, .inr (.inl (fun _ => 0)))), (xr, .inr (2, [.ref xw, .ref xt])), (xw, .inl (cL, 8, .inr (.inl w))), (xt, .inl (cL, 8, .inr (.inl t)))] ++ va_pl L f) H := hP
  have ih_1 := ih; clear ih
  refine lv_iload_n hx hb dX4_countPartsIn_4 rfl (lv_at hl 0 rfl) ?_
  refine lv_aload_n hx hb dX4_countPartsIn_5 rfl (lv_at hl 2 rfl) ?_
  refine va_get (D := (dC, dI)) (ci := 4) (v := .int (nI np)) (C := RX4) (T := TX4) (N := 6) hx hb hts (by decide +kernel) hown hK hP 0 rfl rfl 3 (by decide) (hts (.fieldLink RX4 39 "Diffractory" "partCount" "I") (by decide +kernel)) (fun _ h9 => h9) rfl dX4_countPartsIn_6 ?_
  refine lv_icmp_ge (tgt := 38) hx hb dX4_countPartsIn_9 (by decide) (fun c_2 => ?_) (fun c_2 => ?_)
  · have c_2 : ¬ i < np := ax_fgeTN (by omega) (by omega) c_2
    refine lv_iload_n hx hb dX4_countPartsIn_38 rfl (lv_at hl 1 rfl) ?_
    refine W.widen (k := 0) (n := 0) (Nat.le_of_ble_eq_true rfl) (Nat.le_of_ble_eq_true rfl) ?_
    exact W.iret (v := (nI ct)) hx hb hr (fun t8 ht hW => ⟨⟨(nI ct), (), rfl, by rw [hct, show i = np by omega], trivial⟩, hS.F ht⟩) hS.2.2 dX4_countPartsIn_39
  · have c_2 : i < np := ax_fgeFN (by omega) (by omega) c_2
    refine lv_aload_n hx hb dX4_countPartsIn_12 rfl (lv_at hl 2 rfl) ?_
    refine lv_iload_n hx hb dX4_countPartsIn_13 rfl (lv_at hl 0 rfl) ?_
    have hPc : va_P (dC, dI) vwCl ([(x, .inr (4, [.ref xs, .ref xp, .int (nI ns), .int (nI np), .ref xl, .ref xr])), (xs, .inl (cS, 3, .inr (.inr (.inr (.inr sA))))), (xp, .inl (cP, 8, .inr (.inr (.inr (.inr pA))))), (xl, .inr (0, [.ref xn, .ref xm])), (xn, .inl (cL, 64, .inr (.inl u))), (xm, .inl (cL, 64, .inr (.inl (fun _ => 0)))), (xr, .inr (2, [.ref xw, .ref xt])), (xw, .inl (cL, 8, .inr (.inl w))), (xt, .inl (cL, 8, .inr (.inl t)))] ++ va_pl L f) H := hP.part [0, 1, 2, 3, 4, 5, 6, 7, 8] rfl
    have hKc := hK.sub (tys' := [(cS, .object "Diffractory$Source"), (cP, .object "Diffractory$Part"), (cL, .long), (cI, .int)]) [0, 1, 2, 3] rfl
    refine va_callq (va_runV (As := [.int (nI i)]) (rest := []) ⟨hx, hb, hml, hown, hts⟩ (c_X4_partAt l dC dI x xs xp xl xn xm xr xw xt cS cP cL cI ta u w t L f sA pA sd pd ed S P ns np i hbn (by omega)) (cwV 1 hts gX4_countPartsIn_X4_partAt rfl rfl rfl (by decide +kernel) ⟨Nat.le_of_ble_eq_true rfl, Nat.le_of_ble_eq_true rfl⟩) ⟨ax_fbR, va_recv hK hP (ci := 4) (q0 := 0) rfl rfl, ax_prR hPc hKc hS hE⟩ rfl rfl hl.1 rfl (lv_room (Nat.le_of_ble_eq_true rfl)) dX4_countPartsIn_14 ⟨Nat.le_of_ble_eq_true rfl, Nat.le_of_ble_eq_true rfl⟩) hS (fun _ _ h9 => h9.elim) (fun _ h9 => h9.elim) (fun r_3 u_5 t8 H locs ht hvm hw_4 hB hz1 hk1 hS => ?_)
    have hP := ax_keep hP (fun _ h9 => h9) hk1
    obtain ⟨hokp, hpA, hpL, heL, hfp, hfe⟩ := hbP i (by omega)
    obtain ⟨hk11, hlo9, hhi9, hin2, hdi9, hti9, hex9, hexz⟩ := id hokp
    have hn24 := ax_hi24 hhi9
    refine W.eq (g2 := F0 m 17 ls [.ref (pd i)]) (by rw [hw_4]; rfl) ?_
    refine lv_astore_n (lv' := [(3, .ref (pd i)), (2, .int (nI i)), (1, .int (nI ct)), (0, .ref x)]) hx hb dX4_countPartsIn_17 rfl hl (by decide) rfl (fun ls hl => ?_)
    refine lv_aload_n hx hb dX4_countPartsIn_18 rfl (lv_at hl 0 rfl) ?_
    refine lv_ifnull hx hb dX4_countPartsIn_19 ?_
    refine lv_aload_n hx hb dX4_countPartsIn_22 rfl (lv_at hl 0 rfl) ?_
    obtain ⟨k_6, hk_7⟩ := ax_pg (X := [(x, .inr (4, [.ref xs, .ref xp, .int (nI ns), .int (nI np), .ref xl, .ref xr])), (xs, .inl (cS, 3, .inr (.inr (.inr (.inr sA))))), (xp, .inl (cP, 8, .inr (.inr (.inr (.inr pA))))), (xl, .inr (0, [.ref xn, .ref xm])), (xn, .inl (cL, 64, .inr (.inl u))), (xm, .inl (cL, 64, .inr (.inl (fun _ => 0)))), (xr, .inr (2, [.ref xw, .ref xt])), (xw, .inl (cL, 8, .inr (.inl w))), (xt, .inl (cL, 8, .inr (.inl t)))]) (f := f) hpL hfp
    refine va_get (D := (dC, dI)) (ci := 1) (v := .int (nI ((P i).2.2.1))) (C := RX1) (T := TX1) (N := 6) hx hb hts (by decide +kernel) hown hK hP k_6 hk_7 rfl 2 (by decide) (hts (.fieldLink RX4 101 "Diffractory$Part" "isIn" "Z") (by decide +kernel)) (fun _ h9 => h9) rfl dX4_countPartsIn_23 ?_
    refine lv_if_eq (tgt := 32) hx hb dX4_countPartsIn_26 (by decide) (fun c_8 => ?_) (fun c_8 => ?_)
    · have c_8 : ((P i).2.2.1) = 0 := ax_feqTN (by omega) (by omega) c_8
      refine lv_iinc (v := (nI (i + 1))) (lv' := [(2, .int (nI (i + 1))), (3, .ref (pd i)), (1, .int (nI ct)), (0, .ref x)]) hx hb dX4_countPartsIn_32 hl (k := 1) rfl (nI_succ _).symm (by decide) rfl (fun ls hl => ?_)
      refine lv_goto (tgt := 4) hx hb dX4_countPartsIn_35 (by decide) ?_
      have hl : lv_has ls 4 [(2, .int (nI (i + 1))), (1, .int (nI ct)), (0, .ref x)] := lv_sub hl [0, 2, 3] rfl
      exact ih_1 (i + 1, ct) H locs ls ⟨by omega, by rw [hct]; exact (if_pos c_8).symm, by omega, hl, hP, hS⟩ (show np - (i + 1) < np - i by omega)
    · have c_8 : ¬ ((P i).2.2.1) = 0 := ax_feqFN (by omega) (by omega) c_8
      refine lv_iinc (v := (nI (ct + 1))) (lv' := [(1, .int (nI (ct + 1))), (3, .ref (pd i)), (2, .int (nI i)), (0, .ref x)]) hx hb dX4_countPartsIn_29 hl (k := 2) rfl (nI_succ _).symm (by decide) rfl (fun ls hl => ?_)
      refine lv_iinc (v := (nI (i + 1))) (lv' := [(2, .int (nI (i + 1))), (1, .int (nI (ct + 1))), (3, .ref (pd i)), (0, .ref x)]) hx hb dX4_countPartsIn_32 hl (k := 2) rfl (nI_succ _).symm (by decide) rfl (fun ls hl => ?_)
      refine lv_goto (tgt := 4) hx hb dX4_countPartsIn_35 (by decide) ?_
      have hl : lv_has ls 4 [(2, .int (nI (i + 1))), (1, .int (nI (ct + 1))), (0, .ref x)] := lv_sub hl [0, 1, 3] rfl
      exact ih_1 (i + 1, ct + 1) H locs ls ⟨by omega, by rw [hct]; exact (if_neg c_8).symm, by omega, hl, hP, hS⟩ (show np - (i + 1) < np - i by omega)

set_option maxHeartbeats 4000000 in
set_option maxRecDepth 100000 in
theorem c_X4_countExposuresEver (l : Launch) (dC : Nat → ClassId) (dI : Nat → Nat → Nat) (x xs xp xl xn xm xr xw xt : Nat) (cS cP cL cI : ClassId) (ta : Nat → Nat) (u : Nat → Int64) (w : Nat → Int64) (t : Nat → Int64) (L : List Nat) (f : Nat → va_E) (sA : Nat → Option Nat) (pA : Nat → Option Nat) (sd : Nat → Nat) (pd : Nat → Nat) (ed : Nat → Nat) (S : Nat → ST) (P : Nat → PT) (ns : Nat) (np : Nat) (hbn : bn cI L f sA pA sd pd ed S P ns np) : Met l yX4_countExposuresEver wsX4_countExposuresEver ({ frames := 1, cells := 0, slots := 0, locals := 21 }) (va_Pc [.ref x] (ax_R (dC, dI) vwCl ([(x, .inr (4, [.ref xs, .ref xp, .int (nI ns), .int (nI np), .ref xl, .ref xr])), (xs, .inl (cS, 3, .inr (.inr (.inr (.inr sA))))), (xp, .inl (cP, 8, .inr (.inr (.inr (.inr pA))))), (xl, .inr (0, [.ref xn, .ref xm])), (xn, .inl (cL, 64, .inr (.inl u))), (xm, .inl (cL, 64, .inr (.inl (fun _ => 0)))), (xr, .inr (2, [.ref xw, .ref xt])), (xw, .inl (cL, 8, .inr (.inl w))), (xt, .inl (cL, 8, .inr (.inl t)))] ++ va_pl L f) [(cS, .object "Diffractory$Source"), (cP, .object "Diffractory$Part"), (cL, .long), (cI, .int)] ta)) (va_Qi (fun (r : Int32) (u9 : Unit) => r = (nI (cexR P np))) (fun _ _ => True) ax_no) 0 0 ax_no := by
  refine Met.ofW (cc := cX4_countExposuresEver) (maxL := 4) (ret := (some .int)) (by decide) rfl ?_
  intro p e s m args below meth c s₁ B hml hv
  obtain ⟨rfl, hP, hK, hE⟩ := hv
  have hx := B.exec
  have hb := B.bytes
  have hr := B.returns
  have hts := atoms_spec (ws := wsX4_countExposuresEver) B.pre
  have hown : s.vm.findClass RX4 = some m.cls := findClass_of_methodNamed B.named
  have hlocks := B.notSynchronized
  have hS : va_S ax_no s.heap s.heap [] := va_S.rf
  have hl := lv_entry ([.ref x]) (n := 4) (Nat.le_of_ble_eq_true rfl)
  rw [lg_entry_eq]
  generalize (lg_sl ([.ref x]) ++ List.replicate (4 - (lg_sl ([.ref x])).length) Slot.unset).toArray = ls at hl ⊢
  have hl : lv_has ls 4 [(0, .ref x)] := hl
  have hP : va_P (dC, dI) vwCl ([(x, .inr (4, [.ref xs, .ref xp, .int (nI ns), .int (nI np), .ref xl, .ref xr])), (xs, .inl (cS, 3, .inr (.inr (.inr (.inr sA))))), (xp, .inl (cP, 8, .inr (.inr (.inr (.inr pA))))), (xl, .inr (0, [.ref xn, .ref xm])), (xn, .inl (cL, 64, .inr (.inl u))), (xm, .inl (cL, 64, .inr (.inl (fun _ => 0)))), (xr, .inr (2, [.ref xw, .ref xt])), (xw, .inl (cL, 8, .inr (.inl w))), (xt, .inl (cL, 8, .inr (.inl t)))] ++ va_pl L f) s.heap := hP
  obtain ⟨hns3, hnp8, hbS, hbP, hiS, hiP, hiE⟩ := id hbn
  refine lv_iconst (v := 0) hx hb dX4_countExposuresEver_0 (by decide) ?_
  refine lv_istore_n (lv' := [(1, .int 0), (0, .ref x)]) hx hb dX4_countExposuresEver_1 rfl hl (by decide) rfl (fun ls hl => ?_)
  refine lv_iconst (v := 0) hx hb dX4_countExposuresEver_2 (by decide) ?_
  refine lv_istore_n (lv' := [(2, .int 0), (1, .int 0), (0, .ref x)]) hx hb dX4_countExposuresEver_3 rfl hl (by decide) rfl (fun ls hl => ?_)
  refine ax_loop (σ := Nat × Nat) (fun z9 H locs ls => (z9.1 ≤ np) ∧ (z9.2 = cexR P z9.1) ∧ (z9.2 ≤ 1000 * z9.1) ∧ lv_has ls 4 [(2, .int (nI z9.1)), (1, .int (nI z9.2)), (0, .ref x)] ∧ va_P (dC, dI) vwCl ([(x, .inr (4, [.ref xs, .ref xp, .int (nI ns), .int (nI np), .ref xl, .ref xr])), (xs, .inl (cS, 3, .inr (.inr (.inr (.inr sA))))), (xp, .inl (cP, 8, .inr (.inr (.inr (.inr pA))))), (xl, .inr (0, [.ref xn, .ref xm])), (xn, .inl (cL, 64, .inr (.inl u))), (xm, .inl (cL, 64, .inr (.inl (fun _ => 0)))), (xr, .inr (2, [.ref xw, .ref xt])), (xw, .inl (cL, 8, .inr (.inl w))), (xt, .inl (cL, 8, .inr (.inl t)))] ++ va_pl L f) H ∧ va_S ax_no s.heap H locs) (fun z9 => np - z9.1) (fun z9 H locs ls hI ih => ?_) (0, 0) ⟨by omega, rfl, by omega, hl, hP, hS⟩
  obtain ⟨i, ct⟩ := z9
  obtain ⟨hi1, hct, hcl, hl, hP, hS⟩ := hI
  have hi1 : i ≤ np := hi1
  have hct : ct = cexR P i := hct
  have hcl : ct ≤ 1000 * i := hcl
  have hl : lv_has ls 4 [(2, .int (nI i)), (1, .int (nI ct)), (0, .ref x)] := hl
  have hP : va_P (dC, dI) vwCl ([(x, .inr (4, [.ref xs, .ref xp, .int (nI ns), .int (nI np), .ref xl, .ref xr])), (xs, .inl (cS, 3, .inr (.inr (.inr (.inr sA))))), (xp, .inl (cP, 8, .inr (.inr (.inr (.inr pA))))), (xl, .inr (0, [.ref xn, .ref xm])), (xn, .inl (cL, 64, .inr (.inl u))), (xm, .inl (cL, 64, .inr (.inl (fun _ => 0)))), (xr, .inr (2, [.ref xw, .ref xt])), (xw, .inl (cL, 8, .inr (.inl w))), (xt, .inl (cL, 8, .inr (.inl t)))] ++ va_pl L f) H := hP
  have ih_1 := ih; clear ih
  refine lv_iload_n hx hb dX4_countExposuresEver_4 rfl (lv_at hl 0 rfl) ?_
  refine lv_aload_n hx hb dX4_countExposuresEver_5 rfl (lv_at hl 2 rfl) ?_
  refine va_get (D := (dC, dI)) (ci := 4) (v := .int (nI np)) (C := RX4) (T := TX4) (N := 6) hx hb hts (by decide +kernel) hown hK hP 0 rfl rfl 3 (by decide) (hts (.fieldLink RX4 39 "Diffractory" "partCount" "I") (by decide +kernel)) (fun _ h9 => h9) rfl dX4_countExposuresEver_6 ?_
  refine lv_icmp_ge (tgt := 35) hx hb dX4_countExposuresEver_9 (by decide) (fun c_2 => ?_) (fun c_2 => ?_)
  · have c_2 : ¬ i < np := ax_fgeTN (by omega) (by omega) c_2
    refine lv_iload_n hx hb dX4_countExposuresEver_35 rfl (lv_at hl 1 rfl) ?_
    refine W.widen (k := 0) (n := 0) (Nat.le_of_ble_eq_true rfl) (Nat.le_of_ble_eq_true rfl) ?_
    exact W.iret (v := (nI ct)) hx hb hr (fun t8 ht hW => ⟨⟨(nI ct), (), rfl, by rw [hct, show i = np by omega], trivial⟩, hS.F ht⟩) hS.2.2 dX4_countExposuresEver_36
  · have c_2 : i < np := ax_fgeFN (by omega) (by omega) c_2
    refine lv_aload_n hx hb dX4_countExposuresEver_12 rfl (lv_at hl 2 rfl) ?_
    refine lv_iload_n hx hb dX4_countExposuresEver_13 rfl (lv_at hl 0 rfl) ?_
    have hPc : va_P (dC, dI) vwCl ([(x, .inr (4, [.ref xs, .ref xp, .int (nI ns), .int (nI np), .ref xl, .ref xr])), (xs, .inl (cS, 3, .inr (.inr (.inr (.inr sA))))), (xp, .inl (cP, 8, .inr (.inr (.inr (.inr pA))))), (xl, .inr (0, [.ref xn, .ref xm])), (xn, .inl (cL, 64, .inr (.inl u))), (xm, .inl (cL, 64, .inr (.inl (fun _ => 0)))), (xr, .inr (2, [.ref xw, .ref xt])), (xw, .inl (cL, 8, .inr (.inl w))), (xt, .inl (cL, 8, .inr (.inl t)))] ++ va_pl L f) H := hP.part [0, 1, 2, 3, 4, 5, 6, 7, 8] rfl
    have hKc := hK.sub (tys' := [(cS, .object "Diffractory$Source"), (cP, .object "Diffractory$Part"), (cL, .long), (cI, .int)]) [0, 1, 2, 3] rfl
    refine va_callq (va_runV (As := [.int (nI i)]) (rest := []) ⟨hx, hb, hml, hown, hts⟩ (c_X4_partAt l dC dI x xs xp xl xn xm xr xw xt cS cP cL cI ta u w t L f sA pA sd pd ed S P ns np i hbn (by omega)) (cwV 1 hts gX4_countExposuresEver_X4_partAt rfl rfl rfl (by decide +kernel) ⟨Nat.le_of_ble_eq_true rfl, Nat.le_of_ble_eq_true rfl⟩) ⟨ax_fbR, va_recv hK hP (ci := 4) (q0 := 0) rfl rfl, ax_prR hPc hKc hS hE⟩ rfl rfl hl.1 rfl (lv_room (Nat.le_of_ble_eq_true rfl)) dX4_countExposuresEver_14 ⟨Nat.le_of_ble_eq_true rfl, Nat.le_of_ble_eq_true rfl⟩) hS (fun _ _ h9 => h9.elim) (fun _ h9 => h9.elim) (fun r_3 u_5 t8 H locs ht hvm hw_4 hB hz1 hk1 hS => ?_)
    have hP := ax_keep hP (fun _ h9 => h9) hk1
    obtain ⟨hokp, hpA, hpL, heL, hfp, hfe⟩ := hbP i (by omega)
    obtain ⟨hk11, hlo9, hhi9, hin2, hdi9, hti9, hex9, hexz⟩ := id hokp
    have hn24 := ax_hi24 hhi9
    refine W.eq (g2 := F0 m 17 ls [.ref (pd i)]) (by rw [hw_4]; rfl) ?_
    refine lv_astore_n (lv' := [(3, .ref (pd i)), (2, .int (nI i)), (1, .int (nI ct)), (0, .ref x)]) hx hb dX4_countExposuresEver_17 rfl hl (by decide) rfl (fun ls hl => ?_)
    refine lv_aload_n hx hb dX4_countExposuresEver_18 rfl (lv_at hl 0 rfl) ?_
    refine lv_ifnull hx hb dX4_countExposuresEver_19 ?_
    refine lv_iload_n hx hb dX4_countExposuresEver_22 rfl (lv_at hl 2 rfl) ?_
    refine lv_aload_n hx hb dX4_countExposuresEver_23 rfl (lv_at hl 0 rfl) ?_
    obtain ⟨k_6, hk_7⟩ := ax_pg (X := [(x, .inr (4, [.ref xs, .ref xp, .int (nI ns), .int (nI np), .ref xl, .ref xr])), (xs, .inl (cS, 3, .inr (.inr (.inr (.inr sA))))), (xp, .inl (cP, 8, .inr (.inr (.inr (.inr pA))))), (xl, .inr (0, [.ref xn, .ref xm])), (xn, .inl (cL, 64, .inr (.inl u))), (xm, .inl (cL, 64, .inr (.inl (fun _ => 0)))), (xr, .inr (2, [.ref xw, .ref xt])), (xw, .inl (cL, 8, .inr (.inl w))), (xt, .inl (cL, 8, .inr (.inl t)))]) (f := f) hpL hfp
    refine va_get (D := (dC, dI)) (ci := 1) (v := .int (nI ((P i).2.2.2.2.1))) (C := RX1) (T := TX1) (N := 6) hx hb hts (by decide +kernel) hown hK hP k_6 hk_7 rfl 4 (by decide) (hts (.fieldLink RX4 182 "Diffractory$Part" "timesExposed" "I") (by decide +kernel)) (fun _ h9 => h9) rfl dX4_countExposuresEver_24 ?_
    refine lv_iadd hx hb dX4_countExposuresEver_27 ?_
    refine ax_i (y := (nI (ct + ((P i).2.2.2.2.1)))) (ax_addN ct ((P i).2.2.2.2.1)) ?_
    refine lv_istore_n (lv' := [(1, .int (nI (ct + ((P i).2.2.2.2.1)))), (3, .ref (pd i)), (2, .int (nI i)), (0, .ref x)]) hx hb dX4_countExposuresEver_28 rfl hl (by decide) rfl (fun ls hl => ?_)
    refine lv_iinc (v := (nI (i + 1))) (lv' := [(2, .int (nI (i + 1))), (1, .int (nI (ct + ((P i).2.2.2.2.1)))), (3, .ref (pd i)), (0, .ref x)]) hx hb dX4_countExposuresEver_29 hl (k := 2) rfl (nI_succ _).symm (by decide) rfl (fun ls hl => ?_)
    refine lv_goto (tgt := 4) hx hb dX4_countExposuresEver_32 (by decide) ?_
    have hl : lv_has ls 4 [(2, .int (nI (i + 1))), (1, .int (nI (ct + ((P i).2.2.2.2.1)))), (0, .ref x)] := lv_sub hl [0, 1, 3] rfl
    exact ih_1 (i + 1, ct + ((P i).2.2.2.2.1)) H locs ls ⟨by omega, by rw [hct]; rfl, by omega, hl, hP, hS⟩ (show np - (i + 1) < np - i by omega)

set_option maxHeartbeats 4000000 in
set_option maxRecDepth 100000 in
theorem c_X4_firstThatCannotBeUndone (l : Launch) (dC : Nat → ClassId) (dI : Nat → Nat → Nat) (x xs xp xl xn xm xr xw xt : Nat) (cS cP cL cI : ClassId) (ta : Nat → Nat) (u : Nat → Int64) (w : Nat → Int64) (t : Nat → Int64) (L : List Nat) (f : Nat → va_E) (sA : Nat → Option Nat) (pA : Nat → Option Nat) (sd : Nat → Nat) (pd : Nat → Nat) (ed : Nat → Nat) (S : Nat → ST) (P : Nat → PT) (ns : Nat) (np : Nat) (hbn : bn cI L f sA pA sd pd ed S P ns np) : Met l yX4_firstThatCannotBeUndone wsX4_firstThatCannotBeUndone ({ frames := 1, cells := 0, slots := 0, locals := 21 }) (va_Pc [.ref x] (ax_R (dC, dI) vwCl ([(x, .inr (4, [.ref xs, .ref xp, .int (nI ns), .int (nI np), .ref xl, .ref xr])), (xs, .inl (cS, 3, .inr (.inr (.inr (.inr sA))))), (xp, .inl (cP, 8, .inr (.inr (.inr (.inr pA))))), (xl, .inr (0, [.ref xn, .ref xm])), (xn, .inl (cL, 64, .inr (.inl u))), (xm, .inl (cL, 64, .inr (.inl (fun _ => 0)))), (xr, .inr (2, [.ref xw, .ref xt])), (xw, .inl (cL, 8, .inr (.inl w))), (xt, .inl (cL, 8, .inr (.inl t)))] ++ va_pl L f) [(cS, .object "Diffractory$Source"), (cP, .object "Diffractory$Part"), (cL, .long), (cI, .int)] ta)) (va_Qi (fun (r : Int32) (u9 : Unit) => r = (fcR P 0 np)) (fun _ _ => True) ax_no) 0 0 ax_no := by
  refine Met.ofW (cc := cX4_firstThatCannotBeUndone) (maxL := 3) (ret := (some .int)) (by decide) rfl ?_
  intro p e s m args below meth c s₁ B hml hv
  obtain ⟨rfl, hP, hK, hE⟩ := hv
  have hx := B.exec
  have hb := B.bytes
  have hr := B.returns
  have hts := atoms_spec (ws := wsX4_firstThatCannotBeUndone) B.pre
  have hown : s.vm.findClass RX4 = some m.cls := findClass_of_methodNamed B.named
  have hlocks := B.notSynchronized
  have hS : va_S ax_no s.heap s.heap [] := va_S.rf
  have hl := lv_entry ([.ref x]) (n := 3) (Nat.le_of_ble_eq_true rfl)
  rw [lg_entry_eq]
  generalize (lg_sl ([.ref x]) ++ List.replicate (3 - (lg_sl ([.ref x])).length) Slot.unset).toArray = ls at hl ⊢
  have hl : lv_has ls 3 [(0, .ref x)] := hl
  have hP : va_P (dC, dI) vwCl ([(x, .inr (4, [.ref xs, .ref xp, .int (nI ns), .int (nI np), .ref xl, .ref xr])), (xs, .inl (cS, 3, .inr (.inr (.inr (.inr sA))))), (xp, .inl (cP, 8, .inr (.inr (.inr (.inr pA))))), (xl, .inr (0, [.ref xn, .ref xm])), (xn, .inl (cL, 64, .inr (.inl u))), (xm, .inl (cL, 64, .inr (.inl (fun _ => 0)))), (xr, .inr (2, [.ref xw, .ref xt])), (xw, .inl (cL, 8, .inr (.inl w))), (xt, .inl (cL, 8, .inr (.inl t)))] ++ va_pl L f) s.heap := hP
  obtain ⟨hns3, hnp8, hbS, hbP, hiS, hiP, hiE⟩ := id hbn
  refine lv_iconst (v := 0) hx hb dX4_firstThatCannotBeUndone_0 (by decide) ?_
  refine lv_istore_n (lv' := [(1, .int 0), (0, .ref x)]) hx hb dX4_firstThatCannotBeUndone_1 rfl hl (by decide) rfl (fun ls hl => ?_)
  refine ax_loop (σ := Nat) (fun z9 H locs ls => (z9 ≤ np) ∧ (fcR P 0 np = fcR P z9 (np - z9)) ∧ lv_has ls 3 [(1, .int (nI z9)), (0, .ref x)] ∧ va_P (dC, dI) vwCl ([(x, .inr (4, [.ref xs, .ref xp, .int (nI ns), .int (nI np), .ref xl, .ref xr])), (xs, .inl (cS, 3, .inr (.inr (.inr (.inr sA))))), (xp, .inl (cP, 8, .inr (.inr (.inr (.inr pA))))), (xl, .inr (0, [.ref xn, .ref xm])), (xn, .inl (cL, 64, .inr (.inl u))), (xm, .inl (cL, 64, .inr (.inl (fun _ => 0)))), (xr, .inr (2, [.ref xw, .ref xt])), (xw, .inl (cL, 8, .inr (.inl w))), (xt, .inl (cL, 8, .inr (.inl t)))] ++ va_pl L f) H ∧ va_S ax_no s.heap H locs) (fun z9 => np - z9) (fun i H locs ls hI ih => ?_) 0 ⟨by omega, rfl, hl, hP, hS⟩
  obtain ⟨hi1, hfc, hl, hP, hS⟩ := hI
  have hi1 : i ≤ np := hi1
  have hfc : fcR P 0 np = fcR P i (np - i) := hfc
  have hl : lv_has ls 3 [(1, .int (nI i)), (0, .ref x)] := hl
  have hP : va_P (dC, dI) vwCl ([(x, .inr (4, [.ref xs, .ref xp, .int (nI ns), .int (nI np), .ref xl, .ref xr])), (xs, .inl (cS, 3, .inr (.inr (.inr (.inr sA))))), (xp, .inl (cP, 8, .inr (.inr (.inr (.inr pA))))), (xl, .inr (0, [.ref xn, .ref xm])), (xn, .inl (cL, 64, .inr (.inl u))), (xm, .inl (cL, 64, .inr (.inl (fun _ => 0)))), (xr, .inr (2, [.ref xw, .ref xt])), (xw, .inl (cL, 8, .inr (.inl w))), (xt, .inl (cL, 8, .inr (.inl t)))] ++ va_pl L f) H := hP
  have ih_1 := ih; clear ih
  refine lv_iload_n hx hb dX4_firstThatCannotBeUndone_2 rfl (lv_at hl 0 rfl) ?_
  refine lv_aload_n hx hb dX4_firstThatCannotBeUndone_3 rfl (lv_at hl 1 rfl) ?_
  refine va_get (D := (dC, dI)) (ci := 4) (v := .int (nI np)) (C := RX4) (T := TX4) (N := 6) hx hb hts (by decide +kernel) hown hK hP 0 rfl rfl 3 (by decide) (hts (.fieldLink RX4 39 "Diffractory" "partCount" "I") (by decide +kernel)) (fun _ h9 => h9) rfl dX4_firstThatCannotBeUndone_4 ?_
  refine lv_icmp_ge (tgt := 42) hx hb dX4_firstThatCannotBeUndone_7 (by decide) (fun c_2 => ?_) (fun c_2 => ?_)
  · have c_2 : ¬ i < np := ax_fgeTN (by omega) (by omega) c_2
    refine lv_iconst (v := (-1)) hx hb dX4_firstThatCannotBeUndone_42 (by decide) ?_
    refine W.widen (k := 0) (n := 0) (Nat.le_of_ble_eq_true rfl) (Nat.le_of_ble_eq_true rfl) ?_
    exact W.iret (v := (-1)) hx hb hr (fun t8 ht hW => ⟨⟨(-1), (), rfl, by rw [hfc, show np - i = 0 by omega]; rfl, trivial⟩, hS.F ht⟩) hS.2.2 dX4_firstThatCannotBeUndone_43
  · have c_2 : i < np := ax_fgeFN (by omega) (by omega) c_2
    refine lv_aload_n hx hb dX4_firstThatCannotBeUndone_10 rfl (lv_at hl 1 rfl) ?_
    refine lv_iload_n hx hb dX4_firstThatCannotBeUndone_11 rfl (lv_at hl 0 rfl) ?_
    have hPc : va_P (dC, dI) vwCl ([(x, .inr (4, [.ref xs, .ref xp, .int (nI ns), .int (nI np), .ref xl, .ref xr])), (xs, .inl (cS, 3, .inr (.inr (.inr (.inr sA))))), (xp, .inl (cP, 8, .inr (.inr (.inr (.inr pA))))), (xl, .inr (0, [.ref xn, .ref xm])), (xn, .inl (cL, 64, .inr (.inl u))), (xm, .inl (cL, 64, .inr (.inl (fun _ => 0)))), (xr, .inr (2, [.ref xw, .ref xt])), (xw, .inl (cL, 8, .inr (.inl w))), (xt, .inl (cL, 8, .inr (.inl t)))] ++ va_pl L f) H := hP.part [0, 1, 2, 3, 4, 5, 6, 7, 8] rfl
    have hKc := hK.sub (tys' := [(cS, .object "Diffractory$Source"), (cP, .object "Diffractory$Part"), (cL, .long), (cI, .int)]) [0, 1, 2, 3] rfl
    refine va_callq (va_runV (As := [.int (nI i)]) (rest := []) ⟨hx, hb, hml, hown, hts⟩ (c_X4_partAt l dC dI x xs xp xl xn xm xr xw xt cS cP cL cI ta u w t L f sA pA sd pd ed S P ns np i hbn (by omega)) (cwV 1 hts gX4_firstThatCannotBeUndone_X4_partAt rfl rfl rfl (by decide +kernel) ⟨Nat.le_of_ble_eq_true rfl, Nat.le_of_ble_eq_true rfl⟩) ⟨ax_fbR, va_recv hK hP (ci := 4) (q0 := 0) rfl rfl, ax_prR hPc hKc hS hE⟩ rfl rfl hl.1 rfl (lv_room (Nat.le_of_ble_eq_true rfl)) dX4_firstThatCannotBeUndone_12 ⟨Nat.le_of_ble_eq_true rfl, Nat.le_of_ble_eq_true rfl⟩) hS (fun _ _ h9 => h9.elim) (fun _ h9 => h9.elim) (fun r_3 u_5 t8 H locs ht hvm hw_4 hB hz1 hk1 hS => ?_)
    have hP := ax_keep hP (fun _ h9 => h9) hk1
    obtain ⟨hokp, hpA, hpL, heL, hfp, hfe⟩ := hbP i (by omega)
    obtain ⟨hk11, hlo9, hhi9, hin2, hdi9, hti9, hex9, hexz⟩ := id hokp
    have hn24 := ax_hi24 hhi9
    refine W.eq (g2 := F0 m 15 ls [.ref (pd i)]) (by rw [hw_4]; rfl) ?_
    refine lv_astore_n (lv' := [(2, .ref (pd i)), (1, .int (nI i)), (0, .ref x)]) hx hb dX4_firstThatCannotBeUndone_15 rfl hl (by decide) rfl (fun ls hl => ?_)
    refine lv_aload_n hx hb dX4_firstThatCannotBeUndone_16 rfl (lv_at hl 0 rfl) ?_
    refine lv_ifnull hx hb dX4_firstThatCannotBeUndone_17 ?_
    refine lv_aload_n hx hb dX4_firstThatCannotBeUndone_20 rfl (lv_at hl 0 rfl) ?_
    obtain ⟨k_6, hk_7⟩ := ax_pg (X := [(x, .inr (4, [.ref xs, .ref xp, .int (nI ns), .int (nI np), .ref xl, .ref xr])), (xs, .inl (cS, 3, .inr (.inr (.inr (.inr sA))))), (xp, .inl (cP, 8, .inr (.inr (.inr (.inr pA))))), (xl, .inr (0, [.ref xn, .ref xm])), (xn, .inl (cL, 64, .inr (.inl u))), (xm, .inl (cL, 64, .inr (.inl (fun _ => 0)))), (xr, .inr (2, [.ref xw, .ref xt])), (xw, .inl (cL, 8, .inr (.inl w))), (xt, .inl (cL, 8, .inr (.inl t)))]) (f := f) hpL hfp
    refine va_get (D := (dC, dI)) (ci := 1) (v := .int (nI ((P i).2.2.1))) (C := RX1) (T := TX1) (N := 6) hx hb hts (by decide +kernel) hown hK hP k_6 hk_7 rfl 2 (by decide) (hts (.fieldLink RX4 101 "Diffractory$Part" "isIn" "Z") (by decide +kernel)) (fun _ h9 => h9) rfl dX4_firstThatCannotBeUndone_21 ?_
    refine lv_if_eq (tgt := 36) hx hb dX4_firstThatCannotBeUndone_24 (by decide) (fun c_8 => ?_) (fun c_8 => ?_)
    · have c_8 : ((P i).2.2.1) = 0 := ax_feqTN (by omega) (by omega) c_8
      refine lv_iinc (v := (nI (i + 1))) (lv' := [(1, .int (nI (i + 1))), (2, .ref (pd i)), (0, .ref x)]) hx hb dX4_firstThatCannotBeUndone_36 hl (k := 1) rfl (nI_succ _).symm (by decide) rfl (fun ls hl => ?_)
      refine lv_goto (tgt := 2) hx hb dX4_firstThatCannotBeUndone_39 (by decide) ?_
      have hl : lv_has ls 3 [(1, .int (nI (i + 1))), (0, .ref x)] := lv_sub hl [0, 2] rfl
      exact ih_1 (i + 1) H locs ls ⟨by omega, by rw [hfc, show np - i = (np - i - 1) + 1 by omega, show np - (i + 1) = np - i - 1 by omega]; exact if_neg (fun q9 => q9.1 c_8), hl, hP, hS⟩ (show np - (i + 1) < np - i by omega)
    · have c_8 : ¬ ((P i).2.2.1) = 0 := ax_feqFN (by omega) (by omega) c_8
      refine lv_aload_n hx hb dX4_firstThatCannotBeUndone_27 rfl (lv_at hl 0 rfl) ?_
      have hPc : va_P (dC, dI) vwCl ([] ++ va_pl L f) H := hP.part [] rfl
      have hKc := hK.sub (tys' := [(cI, .int)]) [3] rfl
      obtain ⟨k_9, hk_10⟩ := ax_pg (X := [(x, .inr (4, [.ref xs, .ref xp, .int (nI ns), .int (nI np), .ref xl, .ref xr])), (xs, .inl (cS, 3, .inr (.inr (.inr (.inr sA))))), (xp, .inl (cP, 8, .inr (.inr (.inr (.inr pA))))), (xl, .inr (0, [.ref xn, .ref xm])), (xn, .inl (cL, 64, .inr (.inl u))), (xm, .inl (cL, 64, .inr (.inl (fun _ => 0)))), (xr, .inr (2, [.ref xw, .ref xt])), (xw, .inl (cL, 8, .inr (.inl w))), (xt, .inl (cL, 8, .inr (.inl t)))]) (f := f) hpL hfp
      refine va_calli (va_runV (As := []) (rest := []) ⟨hx, hb, hml, hown, hts⟩ (c_X1_canBeUndone l dC dI cI ta L f (pd i) (ed i) (P i) hpL heL hfp hfe hokp) (cwV 0 hts gX4_firstThatCannotBeUndone_X1_canBeUndone rfl rfl rfl (by decide +kernel) ⟨Nat.le_of_ble_eq_true rfl, Nat.le_of_ble_eq_true rfl⟩) ⟨ax_fbR, va_recv hK hP (ci := 1) (q0 := k_9) rfl hk_10, ax_prR hPc hKc hS hE⟩ rfl rfl hl.1 rfl (lv_room (Nat.le_of_ble_eq_true rfl)) dX4_firstThatCannotBeUndone_28 ⟨Nat.le_of_ble_eq_true rfl, Nat.le_of_ble_eq_true rfl⟩) hS (fun _ _ h9 => h9.elim) (fun _ h9 => h9.elim) (fun r_11 u_13 t8 H locs ht hvm hw_12 hB hz1 hk1 hS => ?_)
      have hP := ax_keep hP (fun _ h9 => h9) hk1
      have hw_12 : ax_bo r_11 (cbu (P i)) := hw_12
      rcases hw_12 with ⟨hr9, hw_12⟩ | ⟨hr9, hw_12⟩
      · refine ax_i hr9 ?_
        refine lv_if_ne (tgt := 36) hx hb dX4_firstThatCannotBeUndone_31 (by decide) (fun _ => ?_) (fun h9 => absurd h9 (by decide))
        refine lv_iinc (v := (nI (i + 1))) (lv' := [(1, .int (nI (i + 1))), (2, .ref (pd i)), (0, .ref x)]) hx hb dX4_firstThatCannotBeUndone_36 hl (k := 1) rfl (nI_succ _).symm (by decide) rfl (fun ls hl => ?_)
        refine lv_goto (tgt := 2) hx hb dX4_firstThatCannotBeUndone_39 (by decide) ?_
        have hl : lv_has ls 3 [(1, .int (nI (i + 1))), (0, .ref x)] := lv_sub hl [0, 2] rfl
        exact ih_1 (i + 1) H locs ls ⟨by omega, by rw [hfc, show np - i = (np - i - 1) + 1 by omega, show np - (i + 1) = np - i - 1 by omega]; exact if_neg (fun q9 => q9.2 hw_12), hl, hP, hS⟩ (show np - (i + 1) < np - i by omega)
      · refine ax_i hr9 ?_
        refine lv_if_ne (tgt := 36) hx hb dX4_firstThatCannotBeUndone_31 (by decide) (fun h9 => absurd rfl h9) (fun _ => ?_)
        refine lv_iload_n hx hb dX4_firstThatCannotBeUndone_34 rfl (lv_at hl 1 rfl) ?_
        refine W.widen (k := 0) (n := 0) (Nat.le_of_ble_eq_true rfl) (Nat.le_of_ble_eq_true rfl) ?_
        exact W.iret (v := (nI i)) hx hb hr (fun t8 ht hW => ⟨⟨(nI i), (), rfl, by rw [hfc, show np - i = (np - i - 1) + 1 by omega]; exact (if_pos ⟨c_8, hw_12⟩).symm, trivial⟩, hS.F ht⟩) hS.2.2 dX4_firstThatCannotBeUndone_35

set_option maxHeartbeats 4000000 in
set_option maxRecDepth 100000 in
theorem c_X4_many_0 (l : Launch) (dC : Nat → ClassId) (dI : Nat → Nat → Nat) (x xs xp xl xn xm xr xw xt : Nat) (cS cP cL cI : ClassId) (ta : Nat → Nat) (u : Nat → Int64) (w : Nat → Int64) (t : Nat → Int64) (L : List Nat) (f : Nat → va_E) (sA : Nat → Option Nat) (pA : Nat → Option Nat) (sd : Nat → Nat) (pd : Nat → Nat) (ed : Nat → Nat) (S : Nat → ST) (P : Nat → PT) (ns : Nat) (np : Nat) (hbn : bn cI L f sA pA sd pd ed S P ns np) : Met l yX4_many wsX4_many ({ frames := 0, cells := 0, slots := 0, locals := 0 }) (va_Pc [.ref x, .int 0] (ax_R (dC, dI) vwCl ([(x, .inr (4, [.ref xs, .ref xp, .int (nI ns), .int (nI np), .ref xl, .ref xr])), (xs, .inl (cS, 3, .inr (.inr (.inr (.inr sA))))), (xp, .inl (cP, 8, .inr (.inr (.inr (.inr pA))))), (xl, .inr (0, [.ref xn, .ref xm])), (xn, .inl (cL, 64, .inr (.inl u))), (xm, .inl (cL, 64, .inr (.inl (fun _ => 0)))), (xr, .inr (2, [.ref xw, .ref xt])), (xw, .inl (cL, 8, .inr (.inl w))), (xt, .inl (cL, 8, .inr (.inl t)))] ++ va_pl L f) [(cS, .object "Diffractory$Source"), (cP, .object "Diffractory$Part"), (cL, .long), (cI, .int)] ta)) (va_Qi (fun (r : Int32) (u9 : Unit) => r = (nI ns)) (fun _ _ => True) ax_no) 0 0 ax_no := by
  refine Met.ofW (cc := cX4_many) (maxL := 2) (ret := (some .int)) (by decide) rfl ?_
  intro p e s m args below meth c s₁ B hml hv
  obtain ⟨rfl, hP, hK, hE⟩ := hv
  have hx := B.exec
  have hb := B.bytes
  have hr := B.returns
  have hts := atoms_spec (ws := wsX4_many) B.pre
  have hown : s.vm.findClass RX4 = some m.cls := findClass_of_methodNamed B.named
  have hlocks := B.notSynchronized
  have hS : va_S ax_no s.heap s.heap [] := va_S.rf
  have hl := lv_entry ([.ref x, .int 0]) (n := 2) (Nat.le_of_ble_eq_true rfl)
  rw [lg_entry_eq]
  generalize (lg_sl ([.ref x, .int 0]) ++ List.replicate (2 - (lg_sl ([.ref x, .int 0])).length) Slot.unset).toArray = ls at hl ⊢
  have hl : lv_has ls 2 [(0, .ref x), (1, .int 0)] := hl
  have hP : va_P (dC, dI) vwCl ([(x, .inr (4, [.ref xs, .ref xp, .int (nI ns), .int (nI np), .ref xl, .ref xr])), (xs, .inl (cS, 3, .inr (.inr (.inr (.inr sA))))), (xp, .inl (cP, 8, .inr (.inr (.inr (.inr pA))))), (xl, .inr (0, [.ref xn, .ref xm])), (xn, .inl (cL, 64, .inr (.inl u))), (xm, .inl (cL, 64, .inr (.inl (fun _ => 0)))), (xr, .inr (2, [.ref xw, .ref xt])), (xw, .inl (cL, 8, .inr (.inl w))), (xt, .inl (cL, 8, .inr (.inl t)))] ++ va_pl L f) s.heap := hP
  refine lv_iload_n hx hb dX4_many_0 rfl (lv_at hl 1 rfl) ?_
  refine lv_tableIn (tgt := 36) hx hb dX4_many_1 (by decide) (by decide) (by rfl) (by decide) ?_
  refine lv_aload_n hx hb dX4_many_36 rfl (lv_at hl 0 rfl) ?_
  refine va_get (D := (dC, dI)) (ci := 4) (v := .int (nI ns)) (C := RX4) (T := TX4) (N := 6) hx hb hts (by decide +kernel) hown hK hP 0 rfl rfl 2 (by decide) (hts (.fieldLink RX4 35 "Diffractory" "sourceCount" "I") (by decide +kernel)) (fun _ h9 => h9) rfl dX4_many_37 ?_
  refine W.widen (k := 0) (n := 0) (Nat.le_of_ble_eq_true rfl) (Nat.le_of_ble_eq_true rfl) ?_
  exact W.iret (v := (nI ns)) hx hb hr (fun t8 ht hW => ⟨⟨(nI ns), (), rfl, rfl, trivial⟩, hS.F ht⟩) hS.2.2 dX4_many_40

set_option maxHeartbeats 4000000 in
set_option maxRecDepth 100000 in
theorem c_X4_many_1 (l : Launch) (dC : Nat → ClassId) (dI : Nat → Nat → Nat) (x xs xp xl xn xm xr xw xt : Nat) (cS cP cL cI : ClassId) (ta : Nat → Nat) (u : Nat → Int64) (w : Nat → Int64) (t : Nat → Int64) (L : List Nat) (f : Nat → va_E) (sA : Nat → Option Nat) (pA : Nat → Option Nat) (sd : Nat → Nat) (pd : Nat → Nat) (ed : Nat → Nat) (S : Nat → ST) (P : Nat → PT) (ns : Nat) (np : Nat) (hbn : bn cI L f sA pA sd pd ed S P ns np) : Met l yX4_many wsX4_many ({ frames := 0, cells := 0, slots := 0, locals := 0 }) (va_Pc [.ref x, .int 1] (ax_R (dC, dI) vwCl ([(x, .inr (4, [.ref xs, .ref xp, .int (nI ns), .int (nI np), .ref xl, .ref xr])), (xs, .inl (cS, 3, .inr (.inr (.inr (.inr sA))))), (xp, .inl (cP, 8, .inr (.inr (.inr (.inr pA))))), (xl, .inr (0, [.ref xn, .ref xm])), (xn, .inl (cL, 64, .inr (.inl u))), (xm, .inl (cL, 64, .inr (.inl (fun _ => 0)))), (xr, .inr (2, [.ref xw, .ref xt])), (xw, .inl (cL, 8, .inr (.inl w))), (xt, .inl (cL, 8, .inr (.inl t)))] ++ va_pl L f) [(cS, .object "Diffractory$Source"), (cP, .object "Diffractory$Part"), (cL, .long), (cI, .int)] ta)) (va_Qi (fun (r : Int32) (u9 : Unit) => r = (nI np)) (fun _ _ => True) ax_no) 0 0 ax_no := by
  refine Met.ofW (cc := cX4_many) (maxL := 2) (ret := (some .int)) (by decide) rfl ?_
  intro p e s m args below meth c s₁ B hml hv
  obtain ⟨rfl, hP, hK, hE⟩ := hv
  have hx := B.exec
  have hb := B.bytes
  have hr := B.returns
  have hts := atoms_spec (ws := wsX4_many) B.pre
  have hown : s.vm.findClass RX4 = some m.cls := findClass_of_methodNamed B.named
  have hlocks := B.notSynchronized
  have hS : va_S ax_no s.heap s.heap [] := va_S.rf
  have hl := lv_entry ([.ref x, .int 1]) (n := 2) (Nat.le_of_ble_eq_true rfl)
  rw [lg_entry_eq]
  generalize (lg_sl ([.ref x, .int 1]) ++ List.replicate (2 - (lg_sl ([.ref x, .int 1])).length) Slot.unset).toArray = ls at hl ⊢
  have hl : lv_has ls 2 [(0, .ref x), (1, .int 1)] := hl
  have hP : va_P (dC, dI) vwCl ([(x, .inr (4, [.ref xs, .ref xp, .int (nI ns), .int (nI np), .ref xl, .ref xr])), (xs, .inl (cS, 3, .inr (.inr (.inr (.inr sA))))), (xp, .inl (cP, 8, .inr (.inr (.inr (.inr pA))))), (xl, .inr (0, [.ref xn, .ref xm])), (xn, .inl (cL, 64, .inr (.inl u))), (xm, .inl (cL, 64, .inr (.inl (fun _ => 0)))), (xr, .inr (2, [.ref xw, .ref xt])), (xw, .inl (cL, 8, .inr (.inl w))), (xt, .inl (cL, 8, .inr (.inl t)))] ++ va_pl L f) s.heap := hP
  refine lv_iload_n hx hb dX4_many_0 rfl (lv_at hl 1 rfl) ?_
  refine lv_tableIn (tgt := 41) hx hb dX4_many_1 (by decide) (by decide) (by rfl) (by decide) ?_
  refine lv_aload_n hx hb dX4_many_41 rfl (lv_at hl 0 rfl) ?_
  refine va_get (D := (dC, dI)) (ci := 4) (v := .int (nI np)) (C := RX4) (T := TX4) (N := 6) hx hb hts (by decide +kernel) hown hK hP 0 rfl rfl 3 (by decide) (hts (.fieldLink RX4 39 "Diffractory" "partCount" "I") (by decide +kernel)) (fun _ h9 => h9) rfl dX4_many_42 ?_
  refine W.widen (k := 0) (n := 0) (Nat.le_of_ble_eq_true rfl) (Nat.le_of_ble_eq_true rfl) ?_
  exact W.iret (v := (nI np)) hx hb hr (fun t8 ht hW => ⟨⟨(nI np), (), rfl, rfl, trivial⟩, hS.F ht⟩) hS.2.2 dX4_many_45

set_option maxHeartbeats 4000000 in
set_option maxRecDepth 100000 in
theorem c_X4_many_2 (l : Launch) (dC : Nat → ClassId) (dI : Nat → Nat → Nat) (x xs xp xl xn xm xr xw xt : Nat) (cS cP cL cI : ClassId) (ta : Nat → Nat) (u : Nat → Int64) (w : Nat → Int64) (t : Nat → Int64) (L : List Nat) (f : Nat → va_E) (sA : Nat → Option Nat) (pA : Nat → Option Nat) (sd : Nat → Nat) (pd : Nat → Nat) (ed : Nat → Nat) (S : Nat → ST) (P : Nat → PT) (ns : Nat) (np : Nat) (hbn : bn cI L f sA pA sd pd ed S P ns np) : Met l yX4_many wsX4_many ({ frames := 2, cells := 0, slots := 0, locals := 44 }) (va_Pc [.ref x, .int 2] (ax_R (dC, dI) vwCl ([(x, .inr (4, [.ref xs, .ref xp, .int (nI ns), .int (nI np), .ref xl, .ref xr])), (xs, .inl (cS, 3, .inr (.inr (.inr (.inr sA))))), (xp, .inl (cP, 8, .inr (.inr (.inr (.inr pA))))), (xl, .inr (0, [.ref xn, .ref xm])), (xn, .inl (cL, 64, .inr (.inl u))), (xm, .inl (cL, 64, .inr (.inl (fun _ => 0)))), (xr, .inr (2, [.ref xw, .ref xt])), (xw, .inl (cL, 8, .inr (.inl w))), (xt, .inl (cL, 8, .inr (.inl t)))] ++ va_pl L f) [(cS, .object "Diffractory$Source"), (cP, .object "Diffractory$Part"), (cL, .long), (cI, .int)] ta)) (va_Qi (fun (r : Int32) (u9 : Unit) => r = (nI (cinR P np))) (fun _ _ => True) ax_no) 0 0 ax_no := by
  refine Met.ofW (cc := cX4_many) (maxL := 2) (ret := (some .int)) (by decide) rfl ?_
  intro p e s m args below meth c s₁ B hml hv
  obtain ⟨rfl, hP, hK, hE⟩ := hv
  have hx := B.exec
  have hb := B.bytes
  have hr := B.returns
  have hts := atoms_spec (ws := wsX4_many) B.pre
  have hown : s.vm.findClass RX4 = some m.cls := findClass_of_methodNamed B.named
  have hlocks := B.notSynchronized
  have hS : va_S ax_no s.heap s.heap [] := va_S.rf
  have hl := lv_entry ([.ref x, .int 2]) (n := 2) (Nat.le_of_ble_eq_true rfl)
  rw [lg_entry_eq]
  generalize (lg_sl ([.ref x, .int 2]) ++ List.replicate (2 - (lg_sl ([.ref x, .int 2])).length) Slot.unset).toArray = ls at hl ⊢
  have hl : lv_has ls 2 [(0, .ref x), (1, .int 2)] := hl
  have hP : va_P (dC, dI) vwCl ([(x, .inr (4, [.ref xs, .ref xp, .int (nI ns), .int (nI np), .ref xl, .ref xr])), (xs, .inl (cS, 3, .inr (.inr (.inr (.inr sA))))), (xp, .inl (cP, 8, .inr (.inr (.inr (.inr pA))))), (xl, .inr (0, [.ref xn, .ref xm])), (xn, .inl (cL, 64, .inr (.inl u))), (xm, .inl (cL, 64, .inr (.inl (fun _ => 0)))), (xr, .inr (2, [.ref xw, .ref xt])), (xw, .inl (cL, 8, .inr (.inl w))), (xt, .inl (cL, 8, .inr (.inl t)))] ++ va_pl L f) s.heap := hP
  refine lv_iload_n hx hb dX4_many_0 rfl (lv_at hl 1 rfl) ?_
  refine lv_tableIn (tgt := 46) hx hb dX4_many_1 (by decide) (by decide) (by rfl) (by decide) ?_
  refine lv_aload_n hx hb dX4_many_46 rfl (lv_at hl 0 rfl) ?_
  have hPc : va_P (dC, dI) vwCl ([(x, .inr (4, [.ref xs, .ref xp, .int (nI ns), .int (nI np), .ref xl, .ref xr])), (xs, .inl (cS, 3, .inr (.inr (.inr (.inr sA))))), (xp, .inl (cP, 8, .inr (.inr (.inr (.inr pA))))), (xl, .inr (0, [.ref xn, .ref xm])), (xn, .inl (cL, 64, .inr (.inl u))), (xm, .inl (cL, 64, .inr (.inl (fun _ => 0)))), (xr, .inr (2, [.ref xw, .ref xt])), (xw, .inl (cL, 8, .inr (.inl w))), (xt, .inl (cL, 8, .inr (.inl t)))] ++ va_pl L f) s.heap := hP.part [0, 1, 2, 3, 4, 5, 6, 7, 8] rfl
  have hKc := hK.sub (tys' := [(cS, .object "Diffractory$Source"), (cP, .object "Diffractory$Part"), (cL, .long), (cI, .int)]) [0, 1, 2, 3] rfl
  refine va_calli (va_runV (As := []) (rest := []) ⟨hx, hb, hml, hown, hts⟩ (c_X4_countPartsIn l dC dI x xs xp xl xn xm xr xw xt cS cP cL cI ta u w t L f sA pA sd pd ed S P ns np hbn) (cwV 0 hts gX4_many_X4_countPartsIn rfl rfl rfl (by decide +kernel) ⟨Nat.le_of_ble_eq_true rfl, Nat.le_of_ble_eq_true rfl⟩) ⟨ax_fbR, va_recv hK hP (ci := 4) (q0 := 0) rfl rfl, ax_prR hPc hKc hS hE⟩ rfl rfl hl.1 rfl (lv_room (Nat.le_of_ble_eq_true rfl)) dX4_many_47 ⟨Nat.le_of_ble_eq_true rfl, Nat.le_of_ble_eq_true rfl⟩) hS (fun _ _ h9 => h9.elim) (fun _ h9 => h9.elim) (fun r_1 u_3 t8 H locs ht hvm hw_2 hB hz1 hk1 hS => ?_)
  have hP := ax_keep hP (fun _ h9 => h9) hk1
  have hw_2 : r_1 = (nI (cinR P np)) := hw_2
  refine ax_i (y := (nI (cinR P np))) hw_2 ?_
  refine W.widen (k := 0) (n := 0) (Nat.le_of_ble_eq_true rfl) (Nat.le_of_ble_eq_true rfl) ?_
  exact W.iret (v := (nI (cinR P np))) hx hb hr (fun t8 ht hW => ⟨⟨(nI (cinR P np)), (), rfl, rfl, trivial⟩, hS.F ht⟩) hS.2.2 dX4_many_50

set_option maxHeartbeats 4000000 in
set_option maxRecDepth 100000 in
theorem c_X4_many_3 (l : Launch) (dC : Nat → ClassId) (dI : Nat → Nat → Nat) (x xs xp xl xn xm xr xw xt : Nat) (cS cP cL cI : ClassId) (ta : Nat → Nat) (u : Nat → Int64) (w : Nat → Int64) (t : Nat → Int64) (L : List Nat) (f : Nat → va_E) (sA : Nat → Option Nat) (pA : Nat → Option Nat) (sd : Nat → Nat) (pd : Nat → Nat) (ed : Nat → Nat) (S : Nat → ST) (P : Nat → PT) (ns : Nat) (np : Nat) (hbn : bn cI L f sA pA sd pd ed S P ns np) : Met l yX4_many wsX4_many ({ frames := 2, cells := 0, slots := 0, locals := 43 }) (va_Pc [.ref x, .int 3] (ax_R (dC, dI) vwCl ([(x, .inr (4, [.ref xs, .ref xp, .int (nI ns), .int (nI np), .ref xl, .ref xr])), (xs, .inl (cS, 3, .inr (.inr (.inr (.inr sA))))), (xp, .inl (cP, 8, .inr (.inr (.inr (.inr pA))))), (xl, .inr (0, [.ref xn, .ref xm])), (xn, .inl (cL, 64, .inr (.inl u))), (xm, .inl (cL, 64, .inr (.inl (fun _ => 0)))), (xr, .inr (2, [.ref xw, .ref xt])), (xw, .inl (cL, 8, .inr (.inl w))), (xt, .inl (cL, 8, .inr (.inl t)))] ++ va_pl L f) [(cS, .object "Diffractory$Source"), (cP, .object "Diffractory$Part"), (cL, .long), (cI, .int)] ta)) (va_Qi (fun (r : Int32) (u9 : Unit) => r = (fcR P 0 np)) (fun _ _ => True) ax_no) 0 0 ax_no := by
  refine Met.ofW (cc := cX4_many) (maxL := 2) (ret := (some .int)) (by decide) rfl ?_
  intro p e s m args below meth c s₁ B hml hv
  obtain ⟨rfl, hP, hK, hE⟩ := hv
  have hx := B.exec
  have hb := B.bytes
  have hr := B.returns
  have hts := atoms_spec (ws := wsX4_many) B.pre
  have hown : s.vm.findClass RX4 = some m.cls := findClass_of_methodNamed B.named
  have hlocks := B.notSynchronized
  have hS : va_S ax_no s.heap s.heap [] := va_S.rf
  have hl := lv_entry ([.ref x, .int 3]) (n := 2) (Nat.le_of_ble_eq_true rfl)
  rw [lg_entry_eq]
  generalize (lg_sl ([.ref x, .int 3]) ++ List.replicate (2 - (lg_sl ([.ref x, .int 3])).length) Slot.unset).toArray = ls at hl ⊢
  have hl : lv_has ls 2 [(0, .ref x), (1, .int 3)] := hl
  have hP : va_P (dC, dI) vwCl ([(x, .inr (4, [.ref xs, .ref xp, .int (nI ns), .int (nI np), .ref xl, .ref xr])), (xs, .inl (cS, 3, .inr (.inr (.inr (.inr sA))))), (xp, .inl (cP, 8, .inr (.inr (.inr (.inr pA))))), (xl, .inr (0, [.ref xn, .ref xm])), (xn, .inl (cL, 64, .inr (.inl u))), (xm, .inl (cL, 64, .inr (.inl (fun _ => 0)))), (xr, .inr (2, [.ref xw, .ref xt])), (xw, .inl (cL, 8, .inr (.inl w))), (xt, .inl (cL, 8, .inr (.inl t)))] ++ va_pl L f) s.heap := hP
  refine lv_iload_n hx hb dX4_many_0 rfl (lv_at hl 1 rfl) ?_
  refine lv_tableIn (tgt := 51) hx hb dX4_many_1 (by decide) (by decide) (by rfl) (by decide) ?_
  refine lv_aload_n hx hb dX4_many_51 rfl (lv_at hl 0 rfl) ?_
  have hPc : va_P (dC, dI) vwCl ([(x, .inr (4, [.ref xs, .ref xp, .int (nI ns), .int (nI np), .ref xl, .ref xr])), (xs, .inl (cS, 3, .inr (.inr (.inr (.inr sA))))), (xp, .inl (cP, 8, .inr (.inr (.inr (.inr pA))))), (xl, .inr (0, [.ref xn, .ref xm])), (xn, .inl (cL, 64, .inr (.inl u))), (xm, .inl (cL, 64, .inr (.inl (fun _ => 0)))), (xr, .inr (2, [.ref xw, .ref xt])), (xw, .inl (cL, 8, .inr (.inl w))), (xt, .inl (cL, 8, .inr (.inl t)))] ++ va_pl L f) s.heap := hP.part [0, 1, 2, 3, 4, 5, 6, 7, 8] rfl
  have hKc := hK.sub (tys' := [(cS, .object "Diffractory$Source"), (cP, .object "Diffractory$Part"), (cL, .long), (cI, .int)]) [0, 1, 2, 3] rfl
  refine va_calli (va_runV (As := []) (rest := []) ⟨hx, hb, hml, hown, hts⟩ (c_X4_firstThatCannotBeUndone l dC dI x xs xp xl xn xm xr xw xt cS cP cL cI ta u w t L f sA pA sd pd ed S P ns np hbn) (cwV 0 hts gX4_many_X4_firstThatCannotBeUndone rfl rfl rfl (by decide +kernel) ⟨Nat.le_of_ble_eq_true rfl, Nat.le_of_ble_eq_true rfl⟩) ⟨ax_fbR, va_recv hK hP (ci := 4) (q0 := 0) rfl rfl, ax_prR hPc hKc hS hE⟩ rfl rfl hl.1 rfl (lv_room (Nat.le_of_ble_eq_true rfl)) dX4_many_52 ⟨Nat.le_of_ble_eq_true rfl, Nat.le_of_ble_eq_true rfl⟩) hS (fun _ _ h9 => h9.elim) (fun _ h9 => h9.elim) (fun r_1 u_3 t8 H locs ht hvm hw_2 hB hz1 hk1 hS => ?_)
  have hP := ax_keep hP (fun _ h9 => h9) hk1
  have hw_2 : r_1 = (fcR P 0 np) := hw_2
  refine ax_i (y := (fcR P 0 np)) hw_2 ?_
  refine W.widen (k := 0) (n := 0) (Nat.le_of_ble_eq_true rfl) (Nat.le_of_ble_eq_true rfl) ?_
  exact W.iret (v := (fcR P 0 np)) hx hb hr (fun t8 ht hW => ⟨⟨(fcR P 0 np), (), rfl, rfl, trivial⟩, hS.F ht⟩) hS.2.2 dX4_many_55

set_option maxHeartbeats 4000000 in
set_option maxRecDepth 100000 in
theorem c_X4_many_4 (l : Launch) (dC : Nat → ClassId) (dI : Nat → Nat → Nat) (x xs xp xl xn xm xr xw xt : Nat) (cS cP cL cI : ClassId) (ta : Nat → Nat) (u : Nat → Int64) (w : Nat → Int64) (t : Nat → Int64) (L : List Nat) (f : Nat → va_E) (sA : Nat → Option Nat) (pA : Nat → Option Nat) (sd : Nat → Nat) (pd : Nat → Nat) (ed : Nat → Nat) (S : Nat → ST) (P : Nat → PT) (ns : Nat) (np : Nat) (hbn : bn cI L f sA pA sd pd ed S P ns np) : Met l yX4_many wsX4_many ({ frames := 2, cells := 0, slots := 0, locals := 44 }) (va_Pc [.ref x, .int 4] (ax_R (dC, dI) vwCl ([(x, .inr (4, [.ref xs, .ref xp, .int (nI ns), .int (nI np), .ref xl, .ref xr])), (xs, .inl (cS, 3, .inr (.inr (.inr (.inr sA))))), (xp, .inl (cP, 8, .inr (.inr (.inr (.inr pA))))), (xl, .inr (0, [.ref xn, .ref xm])), (xn, .inl (cL, 64, .inr (.inl u))), (xm, .inl (cL, 64, .inr (.inl (fun _ => 0)))), (xr, .inr (2, [.ref xw, .ref xt])), (xw, .inl (cL, 8, .inr (.inl w))), (xt, .inl (cL, 8, .inr (.inl t)))] ++ va_pl L f) [(cS, .object "Diffractory$Source"), (cP, .object "Diffractory$Part"), (cL, .long), (cI, .int)] ta)) (va_Qi (fun (r : Int32) (u9 : Unit) => r = (nI (cexR P np))) (fun _ _ => True) ax_no) 0 0 ax_no := by
  refine Met.ofW (cc := cX4_many) (maxL := 2) (ret := (some .int)) (by decide) rfl ?_
  intro p e s m args below meth c s₁ B hml hv
  obtain ⟨rfl, hP, hK, hE⟩ := hv
  have hx := B.exec
  have hb := B.bytes
  have hr := B.returns
  have hts := atoms_spec (ws := wsX4_many) B.pre
  have hown : s.vm.findClass RX4 = some m.cls := findClass_of_methodNamed B.named
  have hlocks := B.notSynchronized
  have hS : va_S ax_no s.heap s.heap [] := va_S.rf
  have hl := lv_entry ([.ref x, .int 4]) (n := 2) (Nat.le_of_ble_eq_true rfl)
  rw [lg_entry_eq]
  generalize (lg_sl ([.ref x, .int 4]) ++ List.replicate (2 - (lg_sl ([.ref x, .int 4])).length) Slot.unset).toArray = ls at hl ⊢
  have hl : lv_has ls 2 [(0, .ref x), (1, .int 4)] := hl
  have hP : va_P (dC, dI) vwCl ([(x, .inr (4, [.ref xs, .ref xp, .int (nI ns), .int (nI np), .ref xl, .ref xr])), (xs, .inl (cS, 3, .inr (.inr (.inr (.inr sA))))), (xp, .inl (cP, 8, .inr (.inr (.inr (.inr pA))))), (xl, .inr (0, [.ref xn, .ref xm])), (xn, .inl (cL, 64, .inr (.inl u))), (xm, .inl (cL, 64, .inr (.inl (fun _ => 0)))), (xr, .inr (2, [.ref xw, .ref xt])), (xw, .inl (cL, 8, .inr (.inl w))), (xt, .inl (cL, 8, .inr (.inl t)))] ++ va_pl L f) s.heap := hP
  refine lv_iload_n hx hb dX4_many_0 rfl (lv_at hl 1 rfl) ?_
  refine lv_tableIn (tgt := 56) hx hb dX4_many_1 (by decide) (by decide) (by rfl) (by decide) ?_
  refine lv_aload_n hx hb dX4_many_56 rfl (lv_at hl 0 rfl) ?_
  have hPc : va_P (dC, dI) vwCl ([(x, .inr (4, [.ref xs, .ref xp, .int (nI ns), .int (nI np), .ref xl, .ref xr])), (xs, .inl (cS, 3, .inr (.inr (.inr (.inr sA))))), (xp, .inl (cP, 8, .inr (.inr (.inr (.inr pA))))), (xl, .inr (0, [.ref xn, .ref xm])), (xn, .inl (cL, 64, .inr (.inl u))), (xm, .inl (cL, 64, .inr (.inl (fun _ => 0)))), (xr, .inr (2, [.ref xw, .ref xt])), (xw, .inl (cL, 8, .inr (.inl w))), (xt, .inl (cL, 8, .inr (.inl t)))] ++ va_pl L f) s.heap := hP.part [0, 1, 2, 3, 4, 5, 6, 7, 8] rfl
  have hKc := hK.sub (tys' := [(cS, .object "Diffractory$Source"), (cP, .object "Diffractory$Part"), (cL, .long), (cI, .int)]) [0, 1, 2, 3] rfl
  refine va_calli (va_runV (As := []) (rest := []) ⟨hx, hb, hml, hown, hts⟩ (c_X4_countExposuresEver l dC dI x xs xp xl xn xm xr xw xt cS cP cL cI ta u w t L f sA pA sd pd ed S P ns np hbn) (cwV 0 hts gX4_many_X4_countExposuresEver rfl rfl rfl (by decide +kernel) ⟨Nat.le_of_ble_eq_true rfl, Nat.le_of_ble_eq_true rfl⟩) ⟨ax_fbR, va_recv hK hP (ci := 4) (q0 := 0) rfl rfl, ax_prR hPc hKc hS hE⟩ rfl rfl hl.1 rfl (lv_room (Nat.le_of_ble_eq_true rfl)) dX4_many_57 ⟨Nat.le_of_ble_eq_true rfl, Nat.le_of_ble_eq_true rfl⟩) hS (fun _ _ h9 => h9.elim) (fun _ h9 => h9.elim) (fun r_1 u_3 t8 H locs ht hvm hw_2 hB hz1 hk1 hS => ?_)
  have hP := ax_keep hP (fun _ h9 => h9) hk1
  have hw_2 : r_1 = (nI (cexR P np)) := hw_2
  refine ax_i (y := (nI (cexR P np))) hw_2 ?_
  refine W.widen (k := 0) (n := 0) (Nat.le_of_ble_eq_true rfl) (Nat.le_of_ble_eq_true rfl) ?_
  exact W.iret (v := (nI (cexR P np))) hx hb hr (fun t8 ht hW => ⟨⟨(nI (cexR P np)), (), rfl, rfl, trivial⟩, hS.F ht⟩) hS.2.2 dX4_many_60
