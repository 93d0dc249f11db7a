set_option maxHeartbeats 4000000 in
set_option maxRecDepth 100000 in
theorem c_X4_ofPart_0 (l : Launch) (dC : Nat → ClassId) (dI : Nat → Nat → Nat) (x xs xp xl xn xm xr xw xt : Nat) (cS cP cL cI : ClassId) (ta : Nat → Nat) (u : Nat → Int64) (w : Nat → Int64) (t : Nat → Int64) (L : List Nat) (f : Nat → va_E) (sA : Nat → Option Nat) (pA : Nat → Option Nat) (sd : Nat → Nat) (pd : Nat → Nat) (ed : Nat → Nat) (S : Nat → ST) (P : Nat → PT) (ns : Nat) (np : Nat) (i : Nat) (hbn : bn cI L f sA pA sd pd ed S P ns np) (hi : i < np) : Met l yX4_ofPart wsX4_ofPart ({ frames := 1, cells := 0, slots := 0, locals := 21 }) (va_Pc [.ref x, .int (nI i), .int 0] (ax_R (dC, dI) vwCl ([(x, .inr (4, [.ref xs, .ref xp, .int (nI ns), .int (nI np), .ref xl, .ref xr])), (xs, .inl (cS, 3, .inr (.inr (.inr (.inr sA))))), (xp, .inl (cP, 8, .inr (.inr (.inr (.inr pA))))), (xl, .inr (0, [.ref xn, .ref xm])), (xn, .inl (cL, 64, .inr (.inl u))), (xm, .inl (cL, 64, .inr (.inl (fun _ => 0)))), (xr, .inr (2, [.ref xw, .ref xt])), (xw, .inl (cL, 8, .inr (.inl w))), (xt, .inl (cL, 8, .inr (.inl t)))] ++ va_pl L f) [(cS, .object "Diffractory$Source"), (cP, .object "Diffractory$Part"), (cL, .long), (cI, .int)] ta)) (va_Qi (fun (r : Int32) (u9 : Unit) => r = (nI ((P i).1))) (fun _ _ => True) ax_no) 0 0 ax_no := by
  refine Met.ofW (cc := cX4_ofPart) (maxL := 4) (ret := (some .int)) (by decide) rfl ?_
  intro p e s m args below meth c s₁ B hml hv
  obtain ⟨rfl, hP, hK, hE⟩ := hv
  have hx := B.exec
  have hb := B.bytes
  have hr := B.returns
  have hts := atoms_spec (ws := wsX4_ofPart) B.pre
  have hown : s.vm.findClass RX4 = some m.cls := findClass_of_methodNamed B.named
  have hlocks := B.notSynchronized
  have hS : va_S ax_no s.heap s.heap [] := va_S.rf
  have hl := lv_entry ([.ref x, .int (nI i), .int 0]) (n := 4) (Nat.le_of_ble_eq_true rfl)
  rw [lg_entry_eq]
  generalize (lg_sl ([.ref x, .int (nI i), .int 0]) ++ List.replicate (4 - (lg_sl ([.ref x, .int (nI i), .int 0])).length) Slot.unset).toArray = ls at hl ⊢
  have hl : lv_has ls 4 [(0, .ref x), (1, .int (nI i)), (2, .int 0)] := hl
  have hP : va_P (dC, dI) vwCl ([(x, .inr (4, [.ref xs, .ref xp, .int (nI ns), .int (nI np), .ref xl, .ref xr])), (xs, .inl (cS, 3, .inr (.inr (.inr (.inr sA))))), (xp, .inl (cP, 8, .inr (.inr (.inr (.inr pA))))), (xl, .inr (0, [.ref xn, .ref xm])), (xn, .inl (cL, 64, .inr (.inl u))), (xm, .inl (cL, 64, .inr (.inl (fun _ => 0)))), (xr, .inr (2, [.ref xw, .ref xt])), (xw, .inl (cL, 8, .inr (.inl w))), (xt, .inl (cL, 8, .inr (.inl t)))] ++ va_pl L f) s.heap := hP
  obtain ⟨hns3, hnp8, hbS, hbP, hiS, hiP, hiE⟩ := id hbn
  refine lv_aload_n hx hb dX4_ofPart_0 rfl (lv_at hl 0 rfl) ?_
  refine lv_iload_n hx hb dX4_ofPart_1 rfl (lv_at hl 1 rfl) ?_
  have hPc : va_P (dC, dI) vwCl ([(x, .inr (4, [.ref xs, .ref xp, .int (nI ns), .int (nI np), .ref xl, .ref xr])), (xs, .inl (cS, 3, .inr (.inr (.inr (.inr sA))))), (xp, .inl (cP, 8, .inr (.inr (.inr (.inr pA))))), (xl, .inr (0, [.ref xn, .ref xm])), (xn, .inl (cL, 64, .inr (.inl u))), (xm, .inl (cL, 64, .inr (.inl (fun _ => 0)))), (xr, .inr (2, [.ref xw, .ref xt])), (xw, .inl (cL, 8, .inr (.inl w))), (xt, .inl (cL, 8, .inr (.inl t)))] ++ va_pl L f) s.heap := hP.part [0, 1, 2, 3, 4, 5, 6, 7, 8] rfl
  have hKc := hK.sub (tys' := [(cS, .object "Diffractory$Source"), (cP, .object "Diffractory$Part"), (cL, .long), (cI, .int)]) [0, 1, 2, 3] rfl
  refine va_callq (va_runV (As := [.int (nI i)]) (rest := []) ⟨hx, hb, hml, hown, hts⟩ (c_X4_partAt l dC dI x xs xp xl xn xm xr xw xt cS cP cL cI ta u w t L f sA pA sd pd ed S P ns np i hbn (by omega)) (cwV 1 hts gX4_ofPart_X4_partAt rfl rfl rfl (by decide +kernel) ⟨Nat.le_of_ble_eq_true rfl, Nat.le_of_ble_eq_true rfl⟩) ⟨ax_fbR, va_recv hK hP (ci := 4) (q0 := 0) rfl rfl, ax_prR hPc hKc hS hE⟩ rfl rfl hl.1 rfl (lv_room (Nat.le_of_ble_eq_true rfl)) dX4_ofPart_2 ⟨Nat.le_of_ble_eq_true rfl, Nat.le_of_ble_eq_true rfl⟩) hS (fun _ _ h9 => h9.elim) (fun _ h9 => h9.elim) (fun r_1 u_3 t8 H locs ht hvm hw_2 hB hz1 hk1 hS => ?_)
  have hP := ax_keep hP (fun _ h9 => h9) hk1
  obtain ⟨hokp, hpA, hpL, heL, hfp, hfe⟩ := hbP i (by omega)
  obtain ⟨hk11, hlo9, hhi9, hin2, hdi9, hti9, hex9, hexz⟩ := id hokp
  have hn24 := ax_hi24 hhi9
  refine W.eq (g2 := F0 m 5 ls [.ref (pd i)]) (by rw [hw_2]; rfl) ?_
  refine lv_astore_n (lv' := [(3, .ref (pd i)), (0, .ref x), (1, .int (nI i)), (2, .int 0)]) hx hb dX4_ofPart_5 rfl hl (by decide) rfl (fun ls hl => ?_)
  refine lv_aload_n hx hb dX4_ofPart_6 rfl (lv_at hl 0 rfl) ?_
  refine lv_ifnonnull (tgt := 20) hx hb dX4_ofPart_7 (by decide) ?_
  refine lv_iload_n hx hb dX4_ofPart_20 rfl (lv_at hl 3 rfl) ?_
  refine lv_tableIn (tgt := 60) hx hb dX4_ofPart_21 (by decide) (by decide) (by rfl) (by decide) ?_
  refine lv_aload_n hx hb dX4_ofPart_60 rfl (lv_at hl 0 rfl) ?_
  obtain ⟨k_4, hk_5⟩ := ax_pg (X := [(x, .inr (4, [.ref xs, .ref xp, .int (nI ns), .int (nI np), .ref xl, .ref xr])), (xs, .inl (cS, 3, .inr (.inr (.inr (.inr sA))))), (xp, .inl (cP, 8, .inr (.inr (.inr (.inr pA))))), (xl, .inr (0, [.ref xn, .ref xm])), (xn, .inl (cL, 64, .inr (.inl u))), (xm, .inl (cL, 64, .inr (.inl (fun _ => 0)))), (xr, .inr (2, [.ref xw, .ref xt])), (xw, .inl (cL, 8, .inr (.inl w))), (xt, .inl (cL, 8, .inr (.inl t)))]) (f := f) hpL hfp
  refine va_get (D := (dC, dI)) (ci := 1) (v := .int (nI ((P i).1))) (C := RX1) (T := TX1) (N := 6) hx hb hts (by decide +kernel) hown hK hP k_4 hk_5 rfl 0 (by decide) (hts (.fieldLink RX4 93 "Diffractory$Part" "kind" "I") (by decide +kernel)) (fun _ h9 => h9) rfl dX4_ofPart_61 ?_
  refine W.widen (k := 0) (n := 0) (Nat.le_of_ble_eq_true rfl) (Nat.le_of_ble_eq_true rfl) ?_
  exact W.iret (v := (nI ((P i).1))) hx hb hr (fun t8 ht hW => ⟨⟨(nI ((P i).1)), (), rfl, rfl, trivial⟩, hS.F ht⟩) hS.2.2 dX4_ofPart_64

set_option maxHeartbeats 4000000 in
set_option maxRecDepth 100000 in
theorem c_X4_ofPart_1 (l : Launch) (dC : Nat → ClassId) (dI : Nat → Nat → Nat) (x xs xp xl xn xm xr xw xt : Nat) (cS cP cL cI : ClassId) (ta : Nat → Nat) (u : Nat → Int64) (w : Nat → Int64) (t : Nat → Int64) (L : List Nat) (f : Nat → va_E) (sA : Nat → Option Nat) (pA : Nat → Option Nat) (sd : Nat → Nat) (pd : Nat → Nat) (ed : Nat → Nat) (S : Nat → ST) (P : Nat → PT) (ns : Nat) (np : Nat) (i : Nat) (hbn : bn cI L f sA pA sd pd ed S P ns np) (hi : i < np) : Met l yX4_ofPart wsX4_ofPart ({ frames := 1, cells := 0, slots := 0, locals := 21 }) (va_Pc [.ref x, .int (nI i), .int 1] (ax_R (dC, dI) vwCl ([(x, .inr (4, [.ref xs, .ref xp, .int (nI ns), .int (nI np), .ref xl, .ref xr])), (xs, .inl (cS, 3, .inr (.inr (.inr (.inr sA))))), (xp, .inl (cP, 8, .inr (.inr (.inr (.inr pA))))), (xl, .inr (0, [.ref xn, .ref xm])), (xn, .inl (cL, 64, .inr (.inl u))), (xm, .inl (cL, 64, .inr (.inl (fun _ => 0)))), (xr, .inr (2, [.ref xw, .ref xt])), (xw, .inl (cL, 8, .inr (.inl w))), (xt, .inl (cL, 8, .inr (.inl t)))] ++ va_pl L f) [(cS, .object "Diffractory$Source"), (cP, .object "Diffractory$Part"), (cL, .long), (cI, .int)] ta)) (va_Qi (fun (r : Int32) (u9 : Unit) => r = (nI ((P i).2.1))) (fun _ _ => True) ax_no) 0 0 ax_no := by
  refine Met.ofW (cc := cX4_ofPart) (maxL := 4) (ret := (some .int)) (by decide) rfl ?_
  intro p e s m args below meth c s₁ B hml hv
  obtain ⟨rfl, hP, hK, hE⟩ := hv
  have hx := B.exec
  have hb := B.bytes
  have hr := B.returns
  have hts := atoms_spec (ws := wsX4_ofPart) B.pre
  have hown : s.vm.findClass RX4 = some m.cls := findClass_of_methodNamed B.named
  have hlocks := B.notSynchronized
  have hS : va_S ax_no s.heap s.heap [] := va_S.rf
  have hl := lv_entry ([.ref x, .int (nI i), .int 1]) (n := 4) (Nat.le_of_ble_eq_true rfl)
  rw [lg_entry_eq]
  generalize (lg_sl ([.ref x, .int (nI i), .int 1]) ++ List.replicate (4 - (lg_sl ([.ref x, .int (nI i), .int 1])).length) Slot.unset).toArray = ls at hl ⊢
  have hl : lv_has ls 4 [(0, .ref x), (1, .int (nI i)), (2, .int 1)] := hl
  have hP : va_P (dC, dI) vwCl ([(x, .inr (4, [.ref xs, .ref xp, .int (nI ns), .int (nI np), .ref xl, .ref xr])), (xs, .inl (cS, 3, .inr (.inr (.inr (.inr sA))))), (xp, .inl (cP, 8, .inr (.inr (.inr (.inr pA))))), (xl, .inr (0, [.ref xn, .ref xm])), (xn, .inl (cL, 64, .inr (.inl u))), (xm, .inl (cL, 64, .inr (.inl (fun _ => 0)))), (xr, .inr (2, [.ref xw, .ref xt])), (xw, .inl (cL, 8, .inr (.inl w))), (xt, .inl (cL, 8, .inr (.inl t)))] ++ va_pl L f) s.heap := hP
  obtain ⟨hns3, hnp8, hbS, hbP, hiS, hiP, hiE⟩ := id hbn
  refine lv_aload_n hx hb dX4_ofPart_0 rfl (lv_at hl 0 rfl) ?_
  refine lv_iload_n hx hb dX4_ofPart_1 rfl (lv_at hl 1 rfl) ?_
  have hPc : va_P (dC, dI) vwCl ([(x, .inr (4, [.ref xs, .ref xp, .int (nI ns), .int (nI np), .ref xl, .ref xr])), (xs, .inl (cS, 3, .inr (.inr (.inr (.inr sA))))), (xp, .inl (cP, 8, .inr (.inr (.inr (.inr pA))))), (xl, .inr (0, [.ref xn, .ref xm])), (xn, .inl (cL, 64, .inr (.inl u))), (xm, .inl (cL, 64, .inr (.inl (fun _ => 0)))), (xr, .inr (2, [.ref xw, .ref xt])), (xw, .inl (cL, 8, .inr (.inl w))), (xt, .inl (cL, 8, .inr (.inl t)))] ++ va_pl L f) s.heap := hP.part [0, 1, 2, 3, 4, 5, 6, 7, 8] rfl
  have hKc := hK.sub (tys' := [(cS, .object "Diffractory$Source"), (cP, .object "Diffractory$Part"), (cL, .long), (cI, .int)]) [0, 1, 2, 3] rfl
  refine va_callq (va_runV (As := [.int (nI i)]) (rest := []) ⟨hx, hb, hml, hown, hts⟩ (c_X4_partAt l dC dI x xs xp xl xn xm xr xw xt cS cP cL cI ta u w t L f sA pA sd pd ed S P ns np i hbn (by omega)) (cwV 1 hts gX4_ofPart_X4_partAt rfl rfl rfl (by decide +kernel) ⟨Nat.le_of_ble_eq_true rfl, Nat.le_of_ble_eq_true rfl⟩) ⟨ax_fbR, va_recv hK hP (ci := 4) (q0 := 0) rfl rfl, ax_prR hPc hKc hS hE⟩ rfl rfl hl.1 rfl (lv_room (Nat.le_of_ble_eq_true rfl)) dX4_ofPart_2 ⟨Nat.le_of_ble_eq_true rfl, Nat.le_of_ble_eq_true rfl⟩) hS (fun _ _ h9 => h9.elim) (fun _ h9 => h9.elim) (fun r_1 u_3 t8 H locs ht hvm hw_2 hB hz1 hk1 hS => ?_)
  have hP := ax_keep hP (fun _ h9 => h9) hk1
  obtain ⟨hokp, hpA, hpL, heL, hfp, hfe⟩ := hbP i (by omega)
  obtain ⟨hk11, hlo9, hhi9, hin2, hdi9, hti9, hex9, hexz⟩ := id hokp
  have hn24 := ax_hi24 hhi9
  refine W.eq (g2 := F0 m 5 ls [.ref (pd i)]) (by rw [hw_2]; rfl) ?_
  refine lv_astore_n (lv' := [(3, .ref (pd i)), (0, .ref x), (1, .int (nI i)), (2, .int 1)]) hx hb dX4_ofPart_5 rfl hl (by decide) rfl (fun ls hl => ?_)
  refine lv_aload_n hx hb dX4_ofPart_6 rfl (lv_at hl 0 rfl) ?_
  refine lv_ifnonnull (tgt := 20) hx hb dX4_ofPart_7 (by decide) ?_
  refine lv_iload_n hx hb dX4_ofPart_20 rfl (lv_at hl 3 rfl) ?_
  refine lv_tableIn (tgt := 65) hx hb dX4_ofPart_21 (by decide) (by decide) (by rfl) (by decide) ?_
  refine lv_aload_n hx hb dX4_ofPart_65 rfl (lv_at hl 0 rfl) ?_
  obtain ⟨k_4, hk_5⟩ := ax_pg (X := [(x, .inr (4, [.ref xs, .ref xp, .int (nI ns), .int (nI np), .ref xl, .ref xr])), (xs, .inl (cS, 3, .inr (.inr (.inr (.inr sA))))), (xp, .inl (cP, 8, .inr (.inr (.inr (.inr pA))))), (xl, .inr (0, [.ref xn, .ref xm])), (xn, .inl (cL, 64, .inr (.inl u))), (xm, .inl (cL, 64, .inr (.inl (fun _ => 0)))), (xr, .inr (2, [.ref xw, .ref xt])), (xw, .inl (cL, 8, .inr (.inl w))), (xt, .inl (cL, 8, .inr (.inl t)))]) (f := f) hpL hfp
  refine va_get (D := (dC, dI)) (ci := 1) (v := .int (nI ((P i).2.1))) (C := RX1) (T := TX1) (N := 6) hx hb hts (by decide +kernel) hown hK hP k_4 hk_5 rfl 1 (by decide) (hts (.fieldLink RX4 98 "Diffractory$Part" "number" "I") (by decide +kernel)) (fun _ h9 => h9) rfl dX4_ofPart_66 ?_
  refine W.widen (k := 0) (n := 0) (Nat.le_of_ble_eq_true rfl) (Nat.le_of_ble_eq_true rfl) ?_
  exact W.iret (v := (nI ((P i).2.1))) hx hb hr (fun t8 ht hW => ⟨⟨(nI ((P i).2.1)), (), rfl, rfl, trivial⟩, hS.F ht⟩) hS.2.2 dX4_ofPart_69

set_option maxHeartbeats 4000000 in
set_option maxRecDepth 100000 in
theorem c_X4_ofPart_2 (l : Launch) (dC : Nat → ClassId) (dI : Nat → Nat → Nat) (x xs xp xl xn xm xr xw xt : Nat) (cS cP cL cI : ClassId) (ta : Nat → Nat) (u : Nat → Int64) (w : Nat → Int64) (t : Nat → Int64) (L : List Nat) (f : Nat → va_E) (sA : Nat → Option Nat) (pA : Nat → Option Nat) (sd : Nat → Nat) (pd : Nat → Nat) (ed : Nat → Nat) (S : Nat → ST) (P : Nat → PT) (ns : Nat) (np : Nat) (i : Nat) (hbn : bn cI L f sA pA sd pd ed S P ns np) (hi : i < np) : Met l yX4_ofPart wsX4_ofPart ({ frames := 1, cells := 0, slots := 0, locals := 21 }) (va_Pc [.ref x, .int (nI i), .int 2] (ax_R (dC, dI) vwCl ([(x, .inr (4, [.ref xs, .ref xp, .int (nI ns), .int (nI np), .ref xl, .ref xr])), (xs, .inl (cS, 3, .inr (.inr (.inr (.inr sA))))), (xp, .inl (cP, 8, .inr (.inr (.inr (.inr pA))))), (xl, .inr (0, [.ref xn, .ref xm])), (xn, .inl (cL, 64, .inr (.inl u))), (xm, .inl (cL, 64, .inr (.inl (fun _ => 0)))), (xr, .inr (2, [.ref xw, .ref xt])), (xw, .inl (cL, 8, .inr (.inl w))), (xt, .inl (cL, 8, .inr (.inl t)))] ++ va_pl L f) [(cS, .object "Diffractory$Source"), (cP, .object "Diffractory$Part"), (cL, .long), (cI, .int)] ta)) (va_Qi (fun (r : Int32) (u9 : Unit) => r = (nI ((P i).2.2.1))) (fun _ _ => True) ax_no) 0 0 ax_no := by
  refine Met.ofW (cc := cX4_ofPart) (maxL := 4) (ret := (some .int)) (by decide) rfl ?_
  intro p e s m args below meth c s₁ B hml hv
  obtain ⟨rfl, hP, hK, hE⟩ := hv
  have hx := B.exec
  have hb := B.bytes
  have hr := B.returns
  have hts := atoms_spec (ws := wsX4_ofPart) B.pre
  have hown : s.vm.findClass RX4 = some m.cls := findClass_of_methodNamed B.named
  have hlocks := B.notSynchronized
  have hS : va_S ax_no s.heap s.heap [] := va_S.rf
  have hl := lv_entry ([.ref x, .int (nI i), .int 2]) (n := 4) (Nat.le_of_ble_eq_true rfl)
  rw [lg_entry_eq]
  generalize (lg_sl ([.ref x, .int (nI i), .int 2]) ++ List.replicate (4 - (lg_sl ([.ref x, .int (nI i), .int 2])).length) Slot.unset).toArray = ls at hl ⊢
  have hl : lv_has ls 4 [(0, .ref x), (1, .int (nI i)), (2, .int 2)] := hl
  have hP : va_P (dC, dI) vwCl ([(x, .inr (4, [.ref xs, .ref xp, .int (nI ns), .int (nI np), .ref xl, .ref xr])), (xs, .inl (cS, 3, .inr (.inr (.inr (.inr sA))))), (xp, .inl (cP, 8, .inr (.inr (.inr (.inr pA))))), (xl, .inr (0, [.ref xn, .ref xm])), (xn, .inl (cL, 64, .inr (.inl u))), (xm, .inl (cL, 64, .inr (.inl (fun _ => 0)))), (xr, .inr (2, [.ref xw, .ref xt])), (xw, .inl (cL, 8, .inr (.inl w))), (xt, .inl (cL, 8, .inr (.inl t)))] ++ va_pl L f) s.heap := hP
  obtain ⟨hns3, hnp8, hbS, hbP, hiS, hiP, hiE⟩ := id hbn
  refine lv_aload_n hx hb dX4_ofPart_0 rfl (lv_at hl 0 rfl) ?_
  refine lv_iload_n hx hb dX4_ofPart_1 rfl (lv_at hl 1 rfl) ?_
  have hPc : va_P (dC, dI) vwCl ([(x, .inr (4, [.ref xs, .ref xp, .int (nI ns), .int (nI np), .ref xl, .ref xr])), (xs, .inl (cS, 3, .inr (.inr (.inr (.inr sA))))), (xp, .inl (cP, 8, .inr (.inr (.inr (.inr pA))))), (xl, .inr (0, [.ref xn, .ref xm])), (xn, .inl (cL, 64, .inr (.inl u))), (xm, .inl (cL, 64, .inr (.inl (fun _ => 0)))), (xr, .inr (2, [.ref xw, .ref xt])), (xw, .inl (cL, 8, .inr (.inl w))), (xt, .inl (cL, 8, .inr (.inl t)))] ++ va_pl L f) s.heap := hP.part [0, 1, 2, 3, 4, 5, 6, 7, 8] rfl
  have hKc := hK.sub (tys' := [(cS, .object "Diffractory$Source"), (cP, .object "Diffractory$Part"), (cL, .long), (cI, .int)]) [0, 1, 2, 3] rfl
  refine va_callq (va_runV (As := [.int (nI i)]) (rest := []) ⟨hx, hb, hml, hown, hts⟩ (c_X4_partAt l dC dI x xs xp xl xn xm xr xw xt cS cP cL cI ta u w t L f sA pA sd pd ed S P ns np i hbn (by omega)) (cwV 1 hts gX4_ofPart_X4_partAt rfl rfl rfl (by decide +kernel) ⟨Nat.le_of_ble_eq_true rfl, Nat.le_of_ble_eq_true rfl⟩) ⟨ax_fbR, va_recv hK hP (ci := 4) (q0 := 0) rfl rfl, ax_prR hPc hKc hS hE⟩ rfl rfl hl.1 rfl (lv_room (Nat.le_of_ble_eq_true rfl)) dX4_ofPart_2 ⟨Nat.le_of_ble_eq_true rfl, Nat.le_of_ble_eq_true rfl⟩) hS (fun _ _ h9 => h9.elim) (fun _ h9 => h9.elim) (fun r_1 u_3 t8 H locs ht hvm hw_2 hB hz1 hk1 hS => ?_)
  have hP := ax_keep hP (fun _ h9 => h9) hk1
  obtain ⟨hokp, hpA, hpL, heL, hfp, hfe⟩ := hbP i (by omega)
  obtain ⟨hk11, hlo9, hhi9, hin2, hdi9, hti9, hex9, hexz⟩ := id hokp
  have hn24 := ax_hi24 hhi9
  refine W.eq (g2 := F0 m 5 ls [.ref (pd i)]) (by rw [hw_2]; rfl) ?_
  refine lv_astore_n (lv' := [(3, .ref (pd i)), (0, .ref x), (1, .int (nI i)), (2, .int 2)]) hx hb dX4_ofPart_5 rfl hl (by decide) rfl (fun ls hl => ?_)
  refine lv_aload_n hx hb dX4_ofPart_6 rfl (lv_at hl 0 rfl) ?_
  refine lv_ifnonnull (tgt := 20) hx hb dX4_ofPart_7 (by decide) ?_
  refine lv_iload_n hx hb dX4_ofPart_20 rfl (lv_at hl 3 rfl) ?_
  refine lv_tableIn (tgt := 70) hx hb dX4_ofPart_21 (by decide) (by decide) (by rfl) (by decide) ?_
  refine lv_aload_n hx hb dX4_ofPart_70 rfl (lv_at hl 0 rfl) ?_
  obtain ⟨k_4, hk_5⟩ := ax_pg (X := [(x, .inr (4, [.ref xs, .ref xp, .int (nI ns), .int (nI np), .ref xl, .ref xr])), (xs, .inl (cS, 3, .inr (.inr (.inr (.inr sA))))), (xp, .inl (cP, 8, .inr (.inr (.inr (.inr pA))))), (xl, .inr (0, [.ref xn, .ref xm])), (xn, .inl (cL, 64, .inr (.inl u))), (xm, .inl (cL, 64, .inr (.inl (fun _ => 0)))), (xr, .inr (2, [.ref xw, .ref xt])), (xw, .inl (cL, 8, .inr (.inl w))), (xt, .inl (cL, 8, .inr (.inl t)))]) (f := f) hpL hfp
  refine va_get (D := (dC, dI)) (ci := 1) (v := .int (nI ((P i).2.2.1))) (C := RX1) (T := TX1) (N := 6) hx hb hts (by decide +kernel) hown hK hP k_4 hk_5 rfl 2 (by decide) (hts (.fieldLink RX4 101 "Diffractory$Part" "isIn" "Z") (by decide +kernel)) (fun _ h9 => h9) rfl dX4_ofPart_71 ?_
  refine lv_if_eq (tgt := 81) hx hb dX4_ofPart_74 (by decide) (fun c_6 => ?_) (fun c_6 => ?_)
  · have c_6 : ((P i).2.2.1) = 0 := ax_feqTN (by omega) (by omega) c_6
    refine lv_iconst (v := 0) hx hb dX4_ofPart_81 (by decide) ?_
    refine W.widen (k := 0) (n := 0) (Nat.le_of_ble_eq_true rfl) (Nat.le_of_ble_eq_true rfl) ?_
    exact W.iret (v := 0) hx hb hr (fun t8 ht hW => ⟨⟨0, (), rfl, by rw [show (P i).2.2.1 = 0 by omega]; rfl, trivial⟩, hS.F ht⟩) hS.2.2 dX4_ofPart_82
  · have c_6 : ¬ ((P i).2.2.1) = 0 := ax_feqFN (by omega) (by omega) c_6
    refine lv_iconst (v := 1) hx hb dX4_ofPart_77 (by decide) ?_
    refine lv_goto (tgt := 82) hx hb dX4_ofPart_78 (by decide) ?_
    refine W.widen (k := 0) (n := 0) (Nat.le_of_ble_eq_true rfl) (Nat.le_of_ble_eq_true rfl) ?_
    exact W.iret (v := 1) hx hb hr (fun t8 ht hW => ⟨⟨1, (), rfl, by rw [show (P i).2.2.1 = 1 by omega]; rfl, trivial⟩, hS.F ht⟩) hS.2.2 dX4_ofPart_82

set_option maxHeartbeats 4000000 in
set_option maxRecDepth 100000 in
theorem c_X4_ofPart_3 (l : Launch) (dC : Nat → ClassId) (dI : Nat → Nat → Nat) (x xs xp xl xn xm xr xw xt : Nat) (cS cP cL cI : ClassId) (ta : Nat → Nat) (u : Nat → Int64) (w : Nat → Int64) (t : Nat → Int64) (L : List Nat) (f : Nat → va_E) (sA : Nat → Option Nat) (pA : Nat → Option Nat) (sd : Nat → Nat) (pd : Nat → Nat) (ed : Nat → Nat) (S : Nat → ST) (P : Nat → PT) (ns : Nat) (np : Nat) (i : Nat) (hbn : bn cI L f sA pA sd pd ed S P ns np) (hi : i < np) : Met l yX4_ofPart wsX4_ofPart ({ frames := 1, cells := 0, slots := 0, locals := 21 }) (va_Pc [.ref x, .int (nI i), .int 3] (ax_R (dC, dI) vwCl ([(x, .inr (4, [.ref xs, .ref xp, .int (nI ns), .int (nI np), .ref xl, .ref xr])), (xs, .inl (cS, 3, .inr (.inr (.inr (.inr sA))))), (xp, .inl (cP, 8, .inr (.inr (.inr (.inr pA))))), (xl, .inr (0, [.ref xn, .ref xm])), (xn, .inl (cL, 64, .inr (.inl u))), (xm, .inl (cL, 64, .inr (.inl (fun _ => 0)))), (xr, .inr (2, [.ref xw, .ref xt])), (xw, .inl (cL, 8, .inr (.inl w))), (xt, .inl (cL, 8, .inr (.inl t)))] ++ va_pl L f) [(cS, .object "Diffractory$Source"), (cP, .object "Diffractory$Part"), (cL, .long), (cI, .int)] ta)) (va_Qi (fun (r : Int32) (u9 : Unit) => r = (nI ((P i).2.2.2.1))) (fun _ _ => True) ax_no) 0 0 ax_no := by
  refine Met.ofW (cc := cX4_ofPart) (maxL := 4) (ret := (some .int)) (by decide) rfl ?_
  intro p e s m args below meth c s₁ B hml hv
  obtain ⟨rfl, hP, hK, hE⟩ := hv
  have hx := B.exec
  have hb := B.bytes
  have hr := B.returns
  have hts := atoms_spec (ws := wsX4_ofPart) B.pre
  have hown : s.vm.findClass RX4 = some m.cls := findClass_of_methodNamed B.named
  have hlocks := B.notSynchronized
  have hS : va_S ax_no s.heap s.heap [] := va_S.rf
  have hl := lv_entry ([.ref x, .int (nI i), .int 3]) (n := 4) (Nat.le_of_ble_eq_true rfl)
  rw [lg_entry_eq]
  generalize (lg_sl ([.ref x, .int (nI i), .int 3]) ++ List.replicate (4 - (lg_sl ([.ref x, .int (nI i), .int 3])).length) Slot.unset).toArray = ls at hl ⊢
  have hl : lv_has ls 4 [(0, .ref x), (1, .int (nI i)), (2, .int 3)] := hl
  have hP : va_P (dC, dI) vwCl ([(x, .inr (4, [.ref xs, .ref xp, .int (nI ns), .int (nI np), .ref xl, .ref xr])), (xs, .inl (cS, 3, .inr (.inr (.inr (.inr sA))))), (xp, .inl (cP, 8, .inr (.inr (.inr (.inr pA))))), (xl, .inr (0, [.ref xn, .ref xm])), (xn, .inl (cL, 64, .inr (.inl u))), (xm, .inl (cL, 64, .inr (.inl (fun _ => 0)))), (xr, .inr (2, [.ref xw, .ref xt])), (xw, .inl (cL, 8, .inr (.inl w))), (xt, .inl (cL, 8, .inr (.inl t)))] ++ va_pl L f) s.heap := hP
  obtain ⟨hns3, hnp8, hbS, hbP, hiS, hiP, hiE⟩ := id hbn
  refine lv_aload_n hx hb dX4_ofPart_0 rfl (lv_at hl 0 rfl) ?_
  refine lv_iload_n hx hb dX4_ofPart_1 rfl (lv_at hl 1 rfl) ?_
  have hPc : va_P (dC, dI) vwCl ([(x, .inr (4, [.ref xs, .ref xp, .int (nI ns), .int (nI np), .ref xl, .ref xr])), (xs, .inl (cS, 3, .inr (.inr (.inr (.inr sA))))), (xp, .inl (cP, 8, .inr (.inr (.inr (.inr pA))))), (xl, .inr (0, [.ref xn, .ref xm])), (xn, .inl (cL, 64, .inr (.inl u))), (xm, .inl (cL, 64, .inr (.inl (fun _ => 0)))), (xr, .inr (2, [.ref xw, .ref xt])), (xw, .inl (cL, 8, .inr (.inl w))), (xt, .inl (cL, 8, .inr (.inl t)))] ++ va_pl L f) s.heap := hP.part [0, 1, 2, 3, 4, 5, 6, 7, 8] rfl
  have hKc := hK.sub (tys' := [(cS, .object "Diffractory$Source"), (cP, .object "Diffractory$Part"), (cL, .long), (cI, .int)]) [0, 1, 2, 3] rfl
  refine va_callq (va_runV (As := [.int (nI i)]) (rest := []) ⟨hx, hb, hml, hown, hts⟩ (c_X4_partAt l dC dI x xs xp xl xn xm xr xw xt cS cP cL cI ta u w t L f sA pA sd pd ed S P ns np i hbn (by omega)) (cwV 1 hts gX4_ofPart_X4_partAt rfl rfl rfl (by decide +kernel) ⟨Nat.le_of_ble_eq_true rfl, Nat.le_of_ble_eq_true rfl⟩) ⟨ax_fbR, va_recv hK hP (ci := 4) (q0 := 0) rfl rfl, ax_prR hPc hKc hS hE⟩ rfl rfl hl.1 rfl (lv_room (Nat.le_of_ble_eq_true rfl)) dX4_ofPart_2 ⟨Nat.le_of_ble_eq_true rfl, Nat.le_of_ble_eq_true rfl⟩) hS (fun _ _ h9 => h9.elim) (fun _ h9 => h9.elim) (fun r_1 u_3 t8 H locs ht hvm hw_2 hB hz1 hk1 hS => ?_)
  have hP := ax_keep hP (fun _ h9 => h9) hk1
  obtain ⟨hokp, hpA, hpL, heL, hfp, hfe⟩ := hbP i (by omega)
  obtain ⟨hk11, hlo9, hhi9, hin2, hdi9, hti9, hex9, hexz⟩ := id hokp
  have hn24 := ax_hi24 hhi9
  refine W.eq (g2 := F0 m 5 ls [.ref (pd i)]) (by rw [hw_2]; rfl) ?_
  refine lv_astore_n (lv' := [(3, .ref (pd i)), (0, .ref x), (1, .int (nI i)), (2, .int 3)]) hx hb dX4_ofPart_5 rfl hl (by decide) rfl (fun ls hl => ?_)
  refine lv_aload_n hx hb dX4_ofPart_6 rfl (lv_at hl 0 rfl) ?_
  refine lv_ifnonnull (tgt := 20) hx hb dX4_ofPart_7 (by decide) ?_
  refine lv_iload_n hx hb dX4_ofPart_20 rfl (lv_at hl 3 rfl) ?_
  refine lv_tableIn (tgt := 83) hx hb dX4_ofPart_21 (by decide) (by decide) (by rfl) (by decide) ?_
  refine lv_aload_n hx hb dX4_ofPart_83 rfl (lv_at hl 0 rfl) ?_
  obtain ⟨k_4, hk_5⟩ := ax_pg (X := [(x, .inr (4, [.ref xs, .ref xp, .int (nI ns), .int (nI np), .ref xl, .ref xr])), (xs, .inl (cS, 3, .inr (.inr (.inr (.inr sA))))), (xp, .inl (cP, 8, .inr (.inr (.inr (.inr pA))))), (xl, .inr (0, [.ref xn, .ref xm])), (xn, .inl (cL, 64, .inr (.inl u))), (xm, .inl (cL, 64, .inr (.inl (fun _ => 0)))), (xr, .inr (2, [.ref xw, .ref xt])), (xw, .inl (cL, 8, .inr (.inl w))), (xt, .inl (cL, 8, .inr (.inl t)))]) (f := f) hpL hfp
  refine va_get (D := (dC, dI)) (ci := 1) (v := .int (nI ((P i).2.2.2.1))) (C := RX1) (T := TX1) (N := 6) hx hb hts (by decide +kernel) hown hK hP k_4 hk_5 rfl 3 (by decide) (hts (.fieldLink RX4 107 "Diffractory$Part" "dirtyPlaces" "I") (by decide +kernel)) (fun _ h9 => h9) rfl dX4_ofPart_84 ?_
  refine W.widen (k := 0) (n := 0) (Nat.le_of_ble_eq_true rfl) (Nat.le_of_ble_eq_true rfl) ?_
  exact W.iret (v := (nI ((P i).2.2.2.1))) hx hb hr (fun t8 ht hW => ⟨⟨(nI ((P i).2.2.2.1)), (), rfl, rfl, trivial⟩, hS.F ht⟩) hS.2.2 dX4_ofPart_87

set_option maxHeartbeats 4000000 in
set_option maxRecDepth 100000 in
theorem c_X4_ofPart_4 (l : Launch) (dC : Nat → ClassId) (dI : Nat → Nat → Nat) (x xs xp xl xn xm xr xw xt : Nat) (cS cP cL cI : ClassId) (ta : Nat → Nat) (u : Nat → Int64) (w : Nat → Int64) (t : Nat → Int64) (L : List Nat) (f : Nat → va_E) (sA : Nat → Option Nat) (pA : Nat → Option Nat) (sd : Nat → Nat) (pd : Nat → Nat) (ed : Nat → Nat) (S : Nat → ST) (P : Nat → PT) (ns : Nat) (np : Nat) (i : Nat) (hbn : bn cI L f sA pA sd pd ed S P ns np) (hi : i < np) : Met l yX4_ofPart wsX4_ofPart ({ frames := 1, cells := 0, slots := 0, locals := 22 }) (va_Pc [.ref x, .int (nI i), .int 4] (ax_R (dC, dI) vwCl ([(x, .inr (4, [.ref xs, .ref xp, .int (nI ns), .int (nI np), .ref xl, .ref xr])), (xs, .inl (cS, 3, .inr (.inr (.inr (.inr sA))))), (xp, .inl (cP, 8, .inr (.inr (.inr (.inr pA))))), (xl, .inr (0, [.ref xn, .ref xm])), (xn, .inl (cL, 64, .inr (.inl u))), (xm, .inl (cL, 64, .inr (.inl (fun _ => 0)))), (xr, .inr (2, [.ref xw, .ref xt])), (xw, .inl (cL, 8, .inr (.inl w))), (xt, .inl (cL, 8, .inr (.inl t)))] ++ va_pl L f) [(cS, .object "Diffractory$Source"), (cP, .object "Diffractory$Part"), (cL, .long), (cI, .int)] ta)) (va_Qi (fun (r : Int32) (u9 : Unit) => r = (nI (smX (P i).2.2.2.2.2 8))) (fun _ _ => True) ax_no) 0 0 ax_no := by
  refine Met.ofW (cc := cX4_ofPart) (maxL := 4) (ret := (some .int)) (by decide) rfl ?_
  intro p e s m args below meth c s₁ B hml hv
  obtain ⟨rfl, hP, hK, hE⟩ := hv
  have hx := B.exec
  have hb := B.bytes
  have hr := B.returns
  have hts := atoms_spec (ws := wsX4_ofPart) B.pre
  have hown : s.vm.findClass RX4 = some m.cls := findClass_of_methodNamed B.named
  have hlocks := B.notSynchronized
  have hS : va_S ax_no s.heap s.heap [] := va_S.rf
  have hl := lv_entry ([.ref x, .int (nI i), .int 4]) (n := 4) (Nat.le_of_ble_eq_true rfl)
  rw [lg_entry_eq]
  generalize (lg_sl ([.ref x, .int (nI i), .int 4]) ++ List.replicate (4 - (lg_sl ([.ref x, .int (nI i), .int 4])).length) Slot.unset).toArray = ls at hl ⊢
  have hl : lv_has ls 4 [(0, .ref x), (1, .int (nI i)), (2, .int 4)] := hl
  have hP : va_P (dC, dI) vwCl ([(x, .inr (4, [.ref xs, .ref xp, .int (nI ns), .int (nI np), .ref xl, .ref xr])), (xs, .inl (cS, 3, .inr (.inr (.inr (.inr sA))))), (xp, .inl (cP, 8, .inr (.inr (.inr (.inr pA))))), (xl, .inr (0, [.ref xn, .ref xm])), (xn, .inl (cL, 64, .inr (.inl u))), (xm, .inl (cL, 64, .inr (.inl (fun _ => 0)))), (xr, .inr (2, [.ref xw, .ref xt])), (xw, .inl (cL, 8, .inr (.inl w))), (xt, .inl (cL, 8, .inr (.inl t)))] ++ va_pl L f) s.heap := hP
  obtain ⟨hns3, hnp8, hbS, hbP, hiS, hiP, hiE⟩ := id hbn
  refine lv_aload_n hx hb dX4_ofPart_0 rfl (lv_at hl 0 rfl) ?_
  refine lv_iload_n hx hb dX4_ofPart_1 rfl (lv_at hl 1 rfl) ?_
  have hPc : va_P (dC, dI) vwCl ([(x, .inr (4, [.ref xs, .ref xp, .int (nI ns), .int (nI np), .ref xl, .ref xr])), (xs, .inl (cS, 3, .inr (.inr (.inr (.inr sA))))), (xp, .inl (cP, 8, .inr (.inr (.inr (.inr pA))))), (xl, .inr (0, [.ref xn, .ref xm])), (xn, .inl (cL, 64, .inr (.inl u))), (xm, .inl (cL, 64, .inr (.inl (fun _ => 0)))), (xr, .inr (2, [.ref xw, .ref xt])), (xw, .inl (cL, 8, .inr (.inl w))), (xt, .inl (cL, 8, .inr (.inl t)))] ++ va_pl L f) s.heap := hP.part [0, 1, 2, 3, 4, 5, 6, 7, 8] rfl
  have hKc := hK.sub (tys' := [(cS, .object "Diffractory$Source"), (cP, .object "Diffractory$Part"), (cL, .long), (cI, .int)]) [0, 1, 2, 3] rfl
  refine va_callq (va_runV (As := [.int (nI i)]) (rest := []) ⟨hx, hb, hml, hown, hts⟩ (c_X4_partAt l dC dI x xs xp xl xn xm xr xw xt cS cP cL cI ta u w t L f sA pA sd pd ed S P ns np i hbn (by omega)) (cwV 1 hts gX4_ofPart_X4_partAt rfl rfl rfl (by decide +kernel) ⟨Nat.le_of_ble_eq_true rfl, Nat.le_of_ble_eq_true rfl⟩) ⟨ax_fbR, va_recv hK hP (ci := 4) (q0 := 0) rfl rfl, ax_prR hPc hKc hS hE⟩ rfl rfl hl.1 rfl (lv_room (Nat.le_of_ble_eq_true rfl)) dX4_ofPart_2 ⟨Nat.le_of_ble_eq_true rfl, Nat.le_of_ble_eq_true rfl⟩) hS (fun _ _ h9 => h9.elim) (fun _ h9 => h9.elim) (fun r_1 u_3 t8 H locs ht hvm hw_2 hB hz1 hk1 hS => ?_)
  have hP := ax_keep hP (fun _ h9 => h9) hk1
  obtain ⟨hokp, hpA, hpL, heL, hfp, hfe⟩ := hbP i (by omega)
  obtain ⟨hk11, hlo9, hhi9, hin2, hdi9, hti9, hex9, hexz⟩ := id hokp
  have hn24 := ax_hi24 hhi9
  refine W.eq (g2 := F0 m 5 ls [.ref (pd i)]) (by rw [hw_2]; rfl) ?_
  refine lv_astore_n (lv' := [(3, .ref (pd i)), (0, .ref x), (1, .int (nI i)), (2, .int 4)]) hx hb dX4_ofPart_5 rfl hl (by decide) rfl (fun ls hl => ?_)
  refine lv_aload_n hx hb dX4_ofPart_6 rfl (lv_at hl 0 rfl) ?_
  refine lv_ifnonnull (tgt := 20) hx hb dX4_ofPart_7 (by decide) ?_
  refine lv_iload_n hx hb dX4_ofPart_20 rfl (lv_at hl 3 rfl) ?_
  refine lv_tableIn (tgt := 88) hx hb dX4_ofPart_21 (by decide) (by decide) (by rfl) (by decide) ?_
  refine lv_aload_n hx hb dX4_ofPart_88 rfl (lv_at hl 0 rfl) ?_
  have hPc : va_P (dC, dI) vwCl ([] ++ va_pl L f) H := hP.part [] rfl
  have hKc := hK.sub (tys' := [(cI, .int)]) [3] rfl
  obtain ⟨k_4, hk_5⟩ := ax_pg (X := [(x, .inr (4, [.ref xs, .ref xp, .int (nI ns), .int (nI np), .ref xl, .ref xr])), (xs, .inl (cS, 3, .inr (.inr (.inr (.inr sA))))), (xp, .inl (cP, 8, .inr (.inr (.inr (.inr pA))))), (xl, .inr (0, [.ref xn, .ref xm])), (xn, .inl (cL, 64, .inr (.inl u))), (xm, .inl (cL, 64, .inr (.inl (fun _ => 0)))), (xr, .inr (2, [.ref xw, .ref xt])), (xw, .inl (cL, 8, .inr (.inl w))), (xt, .inl (cL, 8, .inr (.inl t)))]) (f := f) hpL hfp
  refine va_calli (va_runV (As := []) (rest := []) ⟨hx, hb, hml, hown, hts⟩ (c_X1_sumOfExposures l dC dI cI ta L f (pd i) (ed i) (P i) hpL heL hfp hfe hokp) (cwV 0 hts gX4_ofPart_X1_sumOfExposures rfl rfl rfl (by decide +kernel) ⟨Nat.le_of_ble_eq_true rfl, Nat.le_of_ble_eq_true rfl⟩) ⟨ax_fbR, va_recv hK hP (ci := 1) (q0 := k_4) rfl hk_5, ax_prR hPc hKc hS hE⟩ rfl rfl hl.1 rfl (lv_room (Nat.le_of_ble_eq_true rfl)) dX4_ofPart_89 ⟨Nat.le_of_ble_eq_true rfl, Nat.le_of_ble_eq_true rfl⟩) hS (fun _ _ h9 => h9.elim) (fun _ h9 => h9.elim) (fun r_6 u_8 t8 H locs ht hvm hw_7 hB hz1 hk1 hS => ?_)
  have hP := ax_keep hP (fun _ h9 => h9) hk1
  have hw_7 : r_6 = (nI (smX (P i).2.2.2.2.2 8)) := hw_7
  refine ax_i (y := (nI (smX (P i).2.2.2.2.2 8))) hw_7 ?_
  refine W.widen (k := 0) (n := 0) (Nat.le_of_ble_eq_true rfl) (Nat.le_of_ble_eq_true rfl) ?_
  exact W.iret (v := (nI (smX (P i).2.2.2.2.2 8))) hx hb hr (fun t8 ht hW => ⟨⟨(nI (smX (P i).2.2.2.2.2 8)), (), rfl, rfl, trivial⟩, hS.F ht⟩) hS.2.2 dX4_ofPart_92

set_option maxHeartbeats 4000000 in
set_option maxRecDepth 100000 in
theorem c_X4_ofPart_5 (l : Launch) (dC : Nat → ClassId) (dI : Nat → Nat → Nat) (x xs xp xl xn xm xr xw xt : Nat) (cS cP cL cI : ClassId) (ta : Nat → Nat) (u : Nat → Int64) (w : Nat → Int64) (t : Nat → Int64) (L : List Nat) (f : Nat → va_E) (sA : Nat → Option Nat) (pA : Nat → Option Nat) (sd : Nat → Nat) (pd : Nat → Nat) (ed : Nat → Nat) (S : Nat → ST) (P : Nat → PT) (ns : Nat) (np : Nat) (i : Nat) (hbn : bn cI L f sA pA sd pd ed S P ns np) (hi : i < np) : Met l yX4_ofPart wsX4_ofPart ({ frames := 1, cells := 0, slots := 0, locals := 21 }) (va_Pc [.ref x, .int (nI i), .int 5] (ax_R (dC, dI) vwCl ([(x, .inr (4, [.ref xs, .ref xp, .int (nI ns), .int (nI np), .ref xl, .ref xr])), (xs, .inl (cS, 3, .inr (.inr (.inr (.inr sA))))), (xp, .inl (cP, 8, .inr (.inr (.inr (.inr pA))))), (xl, .inr (0, [.ref xn, .ref xm])), (xn, .inl (cL, 64, .inr (.inl u))), (xm, .inl (cL, 64, .inr (.inl (fun _ => 0)))), (xr, .inr (2, [.ref xw, .ref xt])), (xw, .inl (cL, 8, .inr (.inl w))), (xt, .inl (cL, 8, .inr (.inl t)))] ++ va_pl L f) [(cS, .object "Diffractory$Source"), (cP, .object "Diffractory$Part"), (cL, .long), (cI, .int)] ta)) (va_Qi (fun (r : Int32) (u9 : Unit) => r = (nI ((P i).2.2.2.2.1))) (fun _ _ => True) ax_no) 0 0 ax_no := by
  refine Met.ofW (cc := cX4_ofPart) (maxL := 4) (ret := (some .int)) (by decide) rfl ?_
  intro p e s m args below meth c s₁ B hml hv
  obtain ⟨rfl, hP, hK, hE⟩ := hv
  have hx := B.exec
  have hb := B.bytes
  have hr := B.returns
  have hts := atoms_spec (ws := wsX4_ofPart) B.pre
  have hown : s.vm.findClass RX4 = some m.cls := findClass_of_methodNamed B.named
  have hlocks := B.notSynchronized
  have hS : va_S ax_no s.heap s.heap [] := va_S.rf
  have hl := lv_entry ([.ref x, .int (nI i), .int 5]) (n := 4) (Nat.le_of_ble_eq_true rfl)
  rw [lg_entry_eq]
  generalize (lg_sl ([.ref x, .int (nI i), .int 5]) ++ List.replicate (4 - (lg_sl ([.ref x, .int (nI i), .int 5])).length) Slot.unset).toArray = ls at hl ⊢
  have hl : lv_has ls 4 [(0, .ref x), (1, .int (nI i)), (2, .int 5)] := hl
  have hP : va_P (dC, dI) vwCl ([(x, .inr (4, [.ref xs, .ref xp, .int (nI ns), .int (nI np), .ref xl, .ref xr])), (xs, .inl (cS, 3, .inr (.inr (.inr (.inr sA))))), (xp, .inl (cP, 8, .inr (.inr (.inr (.inr pA))))), (xl, .inr (0, [.ref xn, .ref xm])), (xn, .inl (cL, 64, .inr (.inl u))), (xm, .inl (cL, 64, .inr (.inl (fun _ => 0)))), (xr, .inr (2, [.ref xw, .ref xt])), (xw, .inl (cL, 8, .inr (.inl w))), (xt, .inl (cL, 8, .inr (.inl t)))] ++ va_pl L f) s.heap := hP
  obtain ⟨hns3, hnp8, hbS, hbP, hiS, hiP, hiE⟩ := id hbn
  refine lv_aload_n hx hb dX4_ofPart_0 rfl (lv_at hl 0 rfl) ?_
  refine lv_iload_n hx hb dX4_ofPart_1 rfl (lv_at hl 1 rfl) ?_
  have hPc : va_P (dC, dI) vwCl ([(x, .inr (4, [.ref xs, .ref xp, .int (nI ns), .int (nI np), .ref xl, .ref xr])), (xs, .inl (cS, 3, .inr (.inr (.inr (.inr sA))))), (xp, .inl (cP, 8, .inr (.inr (.inr (.inr pA))))), (xl, .inr (0, [.ref xn, .ref xm])), (xn, .inl (cL, 64, .inr (.inl u))), (xm, .inl (cL, 64, .inr (.inl (fun _ => 0)))), (xr, .inr (2, [.ref xw, .ref xt])), (xw, .inl (cL, 8, .inr (.inl w))), (xt, .inl (cL, 8, .inr (.inl t)))] ++ va_pl L f) s.heap := hP.part [0, 1, 2, 3, 4, 5, 6, 7, 8] rfl
  have hKc := hK.sub (tys' := [(cS, .object "Diffractory$Source"), (cP, .object "Diffractory$Part"), (cL, .long), (cI, .int)]) [0, 1, 2, 3] rfl
  refine va_callq (va_runV (As := [.int (nI i)]) (rest := []) ⟨hx, hb, hml, hown, hts⟩ (c_X4_partAt l dC dI x xs xp xl xn xm xr xw xt cS cP cL cI ta u w t L f sA pA sd pd ed S P ns np i hbn (by omega)) (cwV 1 hts gX4_ofPart_X4_partAt rfl rfl rfl (by decide +kernel) ⟨Nat.le_of_ble_eq_true rfl, Nat.le_of_ble_eq_true rfl⟩) ⟨ax_fbR, va_recv hK hP (ci := 4) (q0 := 0) rfl rfl, ax_prR hPc hKc hS hE⟩ rfl rfl hl.1 rfl (lv_room (Nat.le_of_ble_eq_true rfl)) dX4_ofPart_2 ⟨Nat.le_of_ble_eq_true rfl, Nat.le_of_ble_eq_true rfl⟩) hS (fun _ _ h9 => h9.elim) (fun _ h9 => h9.elim) (fun r_1 u_3 t8 H locs ht hvm hw_2 hB hz1 hk1 hS => ?_)
  have hP := ax_keep hP (fun _ h9 => h9) hk1
  obtain ⟨hokp, hpA, hpL, heL, hfp, hfe⟩ := hbP i (by omega)
  obtain ⟨hk11, hlo9, hhi9, hin2, hdi9, hti9, hex9, hexz⟩ := id hokp
  have hn24 := ax_hi24 hhi9
  refine W.eq (g2 := F0 m 5 ls [.ref (pd i)]) (by rw [hw_2]; rfl) ?_
  refine lv_astore_n (lv' := [(3, .ref (pd i)), (0, .ref x), (1, .int (nI i)), (2, .int 5)]) hx hb dX4_ofPart_5 rfl hl (by decide) rfl (fun ls hl => ?_)
  refine lv_aload_n hx hb dX4_ofPart_6 rfl (lv_at hl 0 rfl) ?_
  refine lv_ifnonnull (tgt := 20) hx hb dX4_ofPart_7 (by decide) ?_
  refine lv_iload_n hx hb dX4_ofPart_20 rfl (lv_at hl 3 rfl) ?_
  refine lv_tableIn (tgt := 93) hx hb dX4_ofPart_21 (by decide) (by decide) (by rfl) (by decide) ?_
  refine lv_aload_n hx hb dX4_ofPart_93 rfl (lv_at hl 0 rfl) ?_
  obtain ⟨k_4, hk_5⟩ := ax_pg (X := [(x, .inr (4, [.ref xs, .ref xp, .int (nI ns), .int (nI np), .ref xl, .ref xr])), (xs, .inl (cS, 3, .inr (.inr (.inr (.inr sA))))), (xp, .inl (cP, 8, .inr (.inr (.inr (.inr pA))))), (xl, .inr (0, [.ref xn, .ref xm])), (xn, .inl (cL, 64, .inr (.inl u))), (xm, .inl (cL, 64, .inr (.inl (fun _ => 0)))), (xr, .inr (2, [.ref xw, .ref xt])), (xw, .inl (cL, 8, .inr (.inl w))), (xt, .inl (cL, 8, .inr (.inl t)))]) (f := f) hpL hfp
  refine va_get (D := (dC, dI)) (ci := 1) (v := .int (nI ((P i).2.2.2.2.1))) (C := RX1) (T := TX1) (N := 6) hx hb hts (by decide +kernel) hown hK hP k_4 hk_5 rfl 4 (by decide) (hts (.fieldLink RX4 182 "Diffractory$Part" "timesExposed" "I") (by decide +kernel)) (fun _ h9 => h9) rfl dX4_ofPart_94 ?_
  refine W.widen (k := 0) (n := 0) (Nat.le_of_ble_eq_true rfl) (Nat.le_of_ble_eq_true rfl) ?_
  exact W.iret (v := (nI ((P i).2.2.2.2.1))) hx hb hr (fun t8 ht hW => ⟨⟨(nI ((P i).2.2.2.2.1)), (), rfl, rfl, trivial⟩, hS.F ht⟩) hS.2.2 dX4_ofPart_97

set_option maxHeartbeats 4000000 in
set_option maxRecDepth 100000 in
theorem c_X4_exposure (l : Launch) (dC : Nat → ClassId) (dI : Nat → Nat → Nat) (x xs xp xl xn xm xr xw xt : Nat) (cS cP cL cI : ClassId) (ta : Nat → Nat) (u : Nat → Int64) (w : Nat → Int64) (t : Nat → Int64) (L : List Nat) (f : Nat → va_E) (sA : Nat → Option Nat) (pA : Nat → Option Nat) (sd : Nat → Nat) (pd : Nat → Nat) (ed : Nat → Nat) (S : Nat → ST) (P : Nat → PT) (ns : Nat) (np : Nat) (i : Nat) (k : Nat) (hbn : bn cI L f sA pA sd pd ed S P ns np) (hi : i < np) (hk8 : k < 8) : Met l yX4_exposure wsX4_exposure ({ frames := 2, cells := 0, slots := 0, locals := 40 }) (va_Pc [.ref x, .int (nI i), .int (nI k)] (ax_R (dC, dI) vwCl ([(x, .inr (4, [.ref xs, .ref xp, .int (nI ns), .int (nI np), .ref xl, .ref xr])), (xs, .inl (cS, 3, .inr (.inr (.inr (.inr sA))))), (xp, .inl (cP, 8, .inr (.inr (.inr (.inr pA))))), (xl, .inr (0, [.ref xn, .ref xm])), (xn, .inl (cL, 64, .inr (.inl u))), (xm, .inl (cL, 64, .inr (.inl (fun _ => 0)))), (xr, .inr (2, [.ref xw, .ref xt])), (xw, .inl (cL, 8, .inr (.inl w))), (xt, .inl (cL, 8, .inr (.inl t)))] ++ va_pl L f) [(cS, .object "Diffractory$Source"), (cP, .object "Diffractory$Part"), (cL, .long), (cI, .int)] ta)) (va_Qi (fun (r : Int32) (u9 : Unit) => r = (nI ((P i).2.2.2.2.2 k))) (fun _ _ => True) ax_no) 0 0 ax_no := by
  refine Met.ofW (cc := cX4_exposure) (maxL := 4) (ret := (some .int)) (by decide) rfl ?_
  intro p e s m args below meth c s₁ B hml hv
  obtain ⟨rfl, hP, hK, hE⟩ := hv
  have hx := B.exec
  have hb := B.bytes
  have hr := B.returns
  have hts := atoms_spec (ws := wsX4_exposure) B.pre
  have hown : s.vm.findClass RX4 = some m.cls := findClass_of_methodNamed B.named
  have hlocks := B.notSynchronized
  have hS : va_S ax_no s.heap s.heap [] := va_S.rf
  have hl := lv_entry ([.ref x, .int (nI i), .int (nI k)]) (n := 4) (Nat.le_of_ble_eq_true rfl)
  rw [lg_entry_eq]
  generalize (lg_sl ([.ref x, .int (nI i), .int (nI k)]) ++ List.replicate (4 - (lg_sl ([.ref x, .int (nI i), .int (nI k)])).length) Slot.unset).toArray = ls at hl ⊢
  have hl : lv_has ls 4 [(0, .ref x), (1, .int (nI i)), (2, .int (nI k))] := hl
  have hP : va_P (dC, dI) vwCl ([(x, .inr (4, [.ref xs, .ref xp, .int (nI ns), .int (nI np), .ref xl, .ref xr])), (xs, .inl (cS, 3, .inr (.inr (.inr (.inr sA))))), (xp, .inl (cP, 8, .inr (.inr (.inr (.inr pA))))), (xl, .inr (0, [.ref xn, .ref xm])), (xn, .inl (cL, 64, .inr (.inl u))), (xm, .inl (cL, 64, .inr (.inl (fun _ => 0)))), (xr, .inr (2, [.ref xw, .ref xt])), (xw, .inl (cL, 8, .inr (.inl w))), (xt, .inl (cL, 8, .inr (.inl t)))] ++ va_pl L f) s.heap := hP
  obtain ⟨hns3, hnp8, hbS, hbP, hiS, hiP, hiE⟩ := id hbn
  refine lv_aload_n hx hb dX4_exposure_0 rfl (lv_at hl 0 rfl) ?_
  refine lv_iload_n hx hb dX4_exposure_1 rfl (lv_at hl 1 rfl) ?_
  have hPc : va_P (dC, dI) vwCl ([(x, .inr (4, [.ref xs, .ref xp, .int (nI ns), .int (nI np), .ref xl, .ref xr])), (xs, .inl (cS, 3, .inr (.inr (.inr (.inr sA))))), (xp, .inl (cP, 8, .inr (.inr (.inr (.inr pA))))), (xl, .inr (0, [.ref xn, .ref xm])), (xn, .inl (cL, 64, .inr (.inl u))), (xm, .inl (cL, 64, .inr (.inl (fun _ => 0)))), (xr, .inr (2, [.ref xw, .ref xt])), (xw, .inl (cL, 8, .inr (.inl w))), (xt, .inl (cL, 8, .inr (.inl t)))] ++ va_pl L f) s.heap := hP.part [0, 1, 2, 3, 4, 5, 6, 7, 8] rfl
  have hKc := hK.sub (tys' := [(cS, .object "Diffractory$Source"), (cP, .object "Diffractory$Part"), (cL, .long), (cI, .int)]) [0, 1, 2, 3] rfl
  refine va_callq (va_runV (As := [.int (nI i)]) (rest := []) ⟨hx, hb, hml, hown, hts⟩ (c_X4_partAt l dC dI x xs xp xl xn xm xr xw xt cS cP cL cI ta u w t L f sA pA sd pd ed S P ns np i hbn (by omega)) (cwV 1 hts gX4_exposure_X4_partAt rfl rfl rfl (by decide +kernel) ⟨Nat.le_of_ble_eq_true rfl, Nat.le_of_ble_eq_true rfl⟩) ⟨ax_fbR, va_recv hK hP (ci := 4) (q0 := 0) rfl rfl, ax_prR hPc hKc hS hE⟩ rfl rfl hl.1 rfl (lv_room (Nat.le_of_ble_eq_true rfl)) dX4_exposure_2 ⟨Nat.le_of_ble_eq_true rfl, Nat.le_of_ble_eq_true rfl⟩) hS (fun _ _ h9 => h9.elim) (fun _ h9 => h9.elim) (fun r_1 u_3 t8 H locs ht hvm hw_2 hB hz1 hk1 hS => ?_)
  have hP := ax_keep hP (fun _ h9 => h9) hk1
  obtain ⟨hokp, hpA, hpL, heL, hfp, hfe⟩ := hbP i (by omega)
  obtain ⟨hk11, hlo9, hhi9, hin2, hdi9, hti9, hex9, hexz⟩ := id hokp
  have hn24 := ax_hi24 hhi9
  refine W.eq (g2 := F0 m 5 ls [.ref (pd i)]) (by rw [hw_2]; rfl) ?_
  refine lv_astore_n (lv' := [(3, .ref (pd i)), (0, .ref x), (1, .int (nI i)), (2, .int (nI k))]) hx hb dX4_exposure_5 rfl hl (by decide) rfl (fun ls hl => ?_)
  refine lv_aload_n hx hb dX4_exposure_6 rfl (lv_at hl 0 rfl) ?_
  refine lv_ifnonnull (tgt := 20) hx hb dX4_exposure_7 (by decide) ?_
  refine lv_iload_n hx hb dX4_exposure_20 rfl (lv_at hl 3 rfl) ?_
  refine va_callv (va_runS (As := [.int (nI k)]) (rest := []) ⟨hx, hb, hml, hown, hts⟩ (c_X4_checkPlace l k (by omega)) (va_cwS 1 hts gX4_exposure_X4_checkPlace rfl rfl rfl (by decide +kernel) ⟨Nat.le_of_ble_eq_true rfl, Nat.le_of_ble_eq_true rfl⟩) ⟨ax_fbP, ax_prP⟩ rfl rfl hl.1 rfl (lv_room (Nat.le_of_ble_eq_true rfl)) dX4_exposure_21 ⟨Nat.le_of_ble_eq_true rfl, Nat.le_of_ble_eq_true rfl⟩) hS (fun _ _ h9 => h9.elim) (fun _ h9 => h9.elim) (fun u_6 t8 H locs ht hvm hw_5 hB hz1 hk1 hS => ?_)
  have hP := ax_keep hP (fun _ h9 => h9) hk1
  refine lv_aload_n hx hb dX4_exposure_24 rfl (lv_at hl 0 rfl) ?_
  obtain ⟨k_7, hk_8⟩ := ax_pg (X := [(x, .inr (4, [.ref xs, .ref xp, .int (nI ns), .int (nI np), .ref xl, .ref xr])), (xs, .inl (cS, 3, .inr (.inr (.inr (.inr sA))))), (xp, .inl (cP, 8, .inr (.inr (.inr (.inr pA))))), (xl, .inr (0, [.ref xn, .ref xm])), (xn, .inl (cL, 64, .inr (.inl u))), (xm, .inl (cL, 64, .inr (.inl (fun _ => 0)))), (xr, .inr (2, [.ref xw, .ref xt])), (xw, .inl (cL, 8, .inr (.inl w))), (xt, .inl (cL, 8, .inr (.inl t)))]) (f := f) hpL hfp
  refine va_get (D := (dC, dI)) (ci := 1) (v := .ref (ed i)) (C := RX1) (T := TX1) (N := 6) hx hb hts (by decide +kernel) hown hK hP k_7 hk_8 rfl 5 (by decide) (hts (.fieldLink RX4 187 "Diffractory$Part" "exposures" "[I") (by decide +kernel)) (fun _ h9 => h9) rfl dX4_exposure_25 ?_
  refine lv_iload_n hx hb dX4_exposure_28 rfl (lv_at hl 3 rfl) ?_
  have hx9k := hex9 k (by omega)
  obtain ⟨k_9, hk_10⟩ := ax_pg (X := [(x, .inr (4, [.ref xs, .ref xp, .int (nI ns), .int (nI np), .ref xl, .ref xr])), (xs, .inl (cS, 3, .inr (.inr (.inr (.inr sA))))), (xp, .inl (cP, 8, .inr (.inr (.inr (.inr pA))))), (xl, .inr (0, [.ref xn, .ref xm])), (xn, .inl (cL, 64, .inr (.inl u))), (xm, .inl (cL, 64, .inr (.inl (fun _ => 0)))), (xr, .inr (2, [.ref xw, .ref xt])), (xw, .inl (cL, 8, .inr (.inl w))), (xt, .inl (cL, 8, .inr (.inl t)))]) (f := f) heL hfe
  refine va_iald hx hb hK hP k_9 3 hk_10 rfl (ax_in (by omega) (by omega)) dX4_exposure_29 ?_
  refine ax_i (y := (nI (((P i).2.2.2.2.2) k))) (by rw [nI_clamp (n := k) (by omega)]; rfl) ?_
  refine W.widen (k := 0) (n := 0) (Nat.le_of_ble_eq_true rfl) (Nat.le_of_ble_eq_true rfl) ?_
  exact W.iret (v := (nI (((P i).2.2.2.2.2) k))) hx hb hr (fun t8 ht hW => ⟨⟨(nI (((P i).2.2.2.2.2) k)), (), rfl, rfl, trivial⟩, hS.F ht⟩) hS.2.2 dX4_exposure_30

set_option maxHeartbeats 4000000 in
set_option maxRecDepth 100000 in
theorem c_X4_ofSource_0 (l : Launch) (dC : Nat → ClassId) (dI : Nat → Nat → Nat) (x xs xp xl xn xm xr xw xt : Nat) (cS cP cL cI : ClassId) (ta : Nat → Nat) (u : Nat → Int64) (w : Nat → Int64) (t : Nat → Int64) (L : List Nat) (f : Nat → va_E) (sA : Nat → Option Nat) (pA : Nat → Option Nat) (sd : Nat → Nat) (pd : Nat → Nat) (ed : Nat → Nat) (S : Nat → ST) (P : Nat → PT) (ns : Nat) (np : Nat) (i : Nat) (hbn : bn cI L f sA pA sd pd ed S P ns np) (hi : i < ns) : Met l yX4_ofSource wsX4_ofSource ({ frames := 1, cells := 0, slots := 0, locals := 21 }) (va_Pc [.ref x, .int (nI i), .int 0] (ax_R (dC, dI) vwCl ([(x, .inr (4, [.ref xs, .ref xp, .int (nI ns), .int (nI np), .ref xl, .ref xr])), (xs, .inl (cS, 3, .inr (.inr (.inr (.inr sA))))), (xp, .inl (cP, 8, .inr (.inr (.inr (.inr pA))))), (xl, .inr (0, [.ref xn, .ref xm])), (xn, .inl (cL, 64, .inr (.inl u))), (xm, .inl (cL, 64, .inr (.inl (fun _ => 0)))), (xr, .inr (2, [.ref xw, .ref xt])), (xw, .inl (cL, 8, .inr (.inl w))), (xt, .inl (cL, 8, .inr (.inl t)))] ++ va_pl L f) [(cS, .object "Diffractory$Source"), (cP, .object "Diffractory$Part"), (cL, .long), (cI, .int)] ta)) (va_Qi (fun (r : Int32) (u9 : Unit) => r = (nI ((S i).1))) (fun _ _ => True) ax_no) 0 0 ax_no := by
  refine Met.ofW (cc := cX4_ofSource) (maxL := 4) (ret := (some .int)) (by decide) rfl ?_
  intro p e s m args below meth c s₁ B hml hv
  obtain ⟨rfl, hP, hK, hE⟩ := hv
  have hx := B.exec
  have hb := B.bytes
  have hr := B.returns
  have hts := atoms_spec (ws := wsX4_ofSource) B.pre
  have hown : s.vm.findClass RX4 = some m.cls := findClass_of_methodNamed B.named
  have hlocks := B.notSynchronized
  have hS : va_S ax_no s.heap s.heap [] := va_S.rf
  have hl := lv_entry ([.ref x, .int (nI i), .int 0]) (n := 4) (Nat.le_of_ble_eq_true rfl)
  rw [lg_entry_eq]
  generalize (lg_sl ([.ref x, .int (nI i), .int 0]) ++ List.replicate (4 - (lg_sl ([.ref x, .int (nI i), .int 0])).length) Slot.unset).toArray = ls at hl ⊢
  have hl : lv_has ls 4 [(0, .ref x), (1, .int (nI i)), (2, .int 0)] := hl
  have hP : va_P (dC, dI) vwCl ([(x, .inr (4, [.ref xs, .ref xp, .int (nI ns), .int (nI np), .ref xl, .ref xr])), (xs, .inl (cS, 3, .inr (.inr (.inr (.inr sA))))), (xp, .inl (cP, 8, .inr (.inr (.inr (.inr pA))))), (xl, .inr (0, [.ref xn, .ref xm])), (xn, .inl (cL, 64, .inr (.inl u))), (xm, .inl (cL, 64, .inr (.inl (fun _ => 0)))), (xr, .inr (2, [.ref xw, .ref xt])), (xw, .inl (cL, 8, .inr (.inl w))), (xt, .inl (cL, 8, .inr (.inl t)))] ++ va_pl L f) s.heap := hP
  obtain ⟨hns3, hnp8, hbS, hbP, hiS, hiP, hiE⟩ := id hbn
  refine lv_aload_n hx hb dX4_ofSource_0 rfl (lv_at hl 0 rfl) ?_
  refine lv_iload_n hx hb dX4_ofSource_1 rfl (lv_at hl 1 rfl) ?_
  have hPc : va_P (dC, dI) vwCl ([(x, .inr (4, [.ref xs, .ref xp, .int (nI ns), .int (nI np), .ref xl, .ref xr])), (xs, .inl (cS, 3, .inr (.inr (.inr (.inr sA))))), (xp, .inl (cP, 8, .inr (.inr (.inr (.inr pA))))), (xl, .inr (0, [.ref xn, .ref xm])), (xn, .inl (cL, 64, .inr (.inl u))), (xm, .inl (cL, 64, .inr (.inl (fun _ => 0)))), (xr, .inr (2, [.ref xw, .ref xt])), (xw, .inl (cL, 8, .inr (.inl w))), (xt, .inl (cL, 8, .inr (.inl t)))] ++ va_pl L f) s.heap := hP.part [0, 1, 2, 3, 4, 5, 6, 7, 8] rfl
  have hKc := hK.sub (tys' := [(cS, .object "Diffractory$Source"), (cP, .object "Diffractory$Part"), (cL, .long), (cI, .int)]) [0, 1, 2, 3] rfl
  refine va_callq (va_runV (As := [.int (nI i)]) (rest := []) ⟨hx, hb, hml, hown, hts⟩ (c_X4_sourceAt l dC dI x xs xp xl xn xm xr xw xt cS cP cL cI ta u w t L f sA pA sd pd ed S P ns np i hbn (by omega)) (cwV 1 hts gX4_ofSource_X4_sourceAt rfl rfl rfl (by decide +kernel) ⟨Nat.le_of_ble_eq_true rfl, Nat.le_of_ble_eq_true rfl⟩) ⟨ax_fbR, va_recv hK hP (ci := 4) (q0 := 0) rfl rfl, ax_prR hPc hKc hS hE⟩ rfl rfl hl.1 rfl (lv_room (Nat.le_of_ble_eq_true rfl)) dX4_ofSource_2 ⟨Nat.le_of_ble_eq_true rfl, Nat.le_of_ble_eq_true rfl⟩) hS (fun _ _ h9 => h9.elim) (fun _ h9 => h9.elim) (fun r_1 u_3 t8 H locs ht hvm hw_2 hB hz1 hk1 hS => ?_)
  have hP := ax_keep hP (fun _ h9 => h9) hk1
  obtain ⟨hoks, hsA, hsL, hfs⟩ := hbS i (by omega)
  obtain ⟨hpl8, hph8, hs1, hs9⟩ := id hoks
  refine W.eq (g2 := F0 m 5 ls [.ref (sd i)]) (by rw [hw_2]; rfl) ?_
  refine lv_astore_n (lv' := [(3, .ref (sd i)), (0, .ref x), (1, .int (nI i)), (2, .int 0)]) hx hb dX4_ofSource_5 rfl hl (by decide) rfl (fun ls hl => ?_)
  refine lv_aload_n hx hb dX4_ofSource_6 rfl (lv_at hl 0 rfl) ?_
  refine lv_ifnonnull (tgt := 20) hx hb dX4_ofSource_7 (by decide) ?_
  refine lv_iload_n hx hb dX4_ofSource_20 rfl (lv_at hl 3 rfl) ?_
  refine lv_tableIn (tgt := 48) hx hb dX4_ofSource_21 (by decide) (by decide) (by rfl) (by decide) ?_
  refine lv_aload_n hx hb dX4_ofSource_48 rfl (lv_at hl 0 rfl) ?_
  obtain ⟨k_4, hk_5⟩ := ax_pg (X := [(x, .inr (4, [.ref xs, .ref xp, .int (nI ns), .int (nI np), .ref xl, .ref xr])), (xs, .inl (cS, 3, .inr (.inr (.inr (.inr sA))))), (xp, .inl (cP, 8, .inr (.inr (.inr (.inr pA))))), (xl, .inr (0, [.ref xn, .ref xm])), (xn, .inl (cL, 64, .inr (.inl u))), (xm, .inl (cL, 64, .inr (.inl (fun _ => 0)))), (xr, .inr (2, [.ref xw, .ref xt])), (xw, .inl (cL, 8, .inr (.inl w))), (xt, .inl (cL, 8, .inr (.inl t)))]) (f := f) hsL hfs
  refine va_get (D := (dC, dI)) (ci := 3) (v := .int (nI ((S i).1))) (C := RX3) (T := TX3) (N := 3) hx hb hts (by decide +kernel) hown hK hP k_4 hk_5 rfl 0 (by decide) (hts (.fieldLink RX4 67 "Diffractory$Source" "place" "I") (by decide +kernel)) (fun _ h9 => h9) rfl dX4_ofSource_49 ?_
  refine W.widen (k := 0) (n := 0) (Nat.le_of_ble_eq_true rfl) (Nat.le_of_ble_eq_true rfl) ?_
  exact W.iret (v := (nI ((S i).1))) hx hb hr (fun t8 ht hW => ⟨⟨(nI ((S i).1)), (), rfl, rfl, trivial⟩, hS.F ht⟩) hS.2.2 dX4_ofSource_52

set_option maxHeartbeats 4000000 in
set_option maxRecDepth 100000 in
theorem c_X4_ofSource_1 (l : Launch) (dC : Nat → ClassId) (dI : Nat → Nat → Nat) (x xs xp xl xn xm xr xw xt : Nat) (cS cP cL cI : ClassId) (ta : Nat → Nat) (u : Nat → Int64) (w : Nat → Int64) (t : Nat → Int64) (L : List Nat) (f : Nat → va_E) (sA : Nat → Option Nat) (pA : Nat → Option Nat) (sd : Nat → Nat) (pd : Nat → Nat) (ed : Nat → Nat) (S : Nat → ST) (P : Nat → PT) (ns : Nat) (np : Nat) (i : Nat) (hbn : bn cI L f sA pA sd pd ed S P ns np) (hi : i < ns) : Met l yX4_ofSource wsX4_ofSource ({ frames := 1, cells := 0, slots := 0, locals := 21 }) (va_Pc [.ref x, .int (nI i), .int 1] (ax_R (dC, dI) vwCl ([(x, .inr (4, [.ref xs, .ref xp, .int (nI ns), .int (nI np), .ref xl, .ref xr])), (xs, .inl (cS, 3, .inr (.inr (.inr (.inr sA))))), (xp, .inl (cP, 8, .inr (.inr (.inr (.inr pA))))), (xl, .inr (0, [.ref xn, .ref xm])), (xn, .inl (cL, 64, .inr (.inl u))), (xm, .inl (cL, 64, .inr (.inl (fun _ => 0)))), (xr, .inr (2, [.ref xw, .ref xt])), (xw, .inl (cL, 8, .inr (.inl w))), (xt, .inl (cL, 8, .inr (.inl t)))] ++ va_pl L f) [(cS, .object "Diffractory$Source"), (cP, .object "Diffractory$Part"), (cL, .long), (cI, .int)] ta)) (va_Qi (fun (r : Int32) (u9 : Unit) => r = (nI ((S i).2.1))) (fun _ _ => True) ax_no) 0 0 ax_no := by
  refine Met.ofW (cc := cX4_ofSource) (maxL := 4) (ret := (some .int)) (by decide) rfl ?_
  intro p e s m args below meth c s₁ B hml hv
  obtain ⟨rfl, hP, hK, hE⟩ := hv
  have hx := B.exec
  have hb := B.bytes
  have hr := B.returns
  have hts := atoms_spec (ws := wsX4_ofSource) B.pre
  have hown : s.vm.findClass RX4 = some m.cls := findClass_of_methodNamed B.named
  have hlocks := B.notSynchronized
  have hS : va_S ax_no s.heap s.heap [] := va_S.rf
  have hl := lv_entry ([.ref x, .int (nI i), .int 1]) (n := 4) (Nat.le_of_ble_eq_true rfl)
  rw [lg_entry_eq]
  generalize (lg_sl ([.ref x, .int (nI i), .int 1]) ++ List.replicate (4 - (lg_sl ([.ref x, .int (nI i), .int 1])).length) Slot.unset).toArray = ls at hl ⊢
  have hl : lv_has ls 4 [(0, .ref x), (1, .int (nI i)), (2, .int 1)] := hl
  have hP : va_P (dC, dI) vwCl ([(x, .inr (4, [.ref xs, .ref xp, .int (nI ns), .int (nI np), .ref xl, .ref xr])), (xs, .inl (cS, 3, .inr (.inr (.inr (.inr sA))))), (xp, .inl (cP, 8, .inr (.inr (.inr (.inr pA))))), (xl, .inr (0, [.ref xn, .ref xm])), (xn, .inl (cL, 64, .inr (.inl u))), (xm, .inl (cL, 64, .inr (.inl (fun _ => 0)))), (xr, .inr (2, [.ref xw, .ref xt])), (xw, .inl (cL, 8, .inr (.inl w))), (xt, .inl (cL, 8, .inr (.inl t)))] ++ va_pl L f) s.heap := hP
  obtain ⟨hns3, hnp8, hbS, hbP, hiS, hiP, hiE⟩ := id hbn
  refine lv_aload_n hx hb dX4_ofSource_0 rfl (lv_at hl 0 rfl) ?_
  refine lv_iload_n hx hb dX4_ofSource_1 rfl (lv_at hl 1 rfl) ?_
  have hPc : va_P (dC, dI) vwCl ([(x, .inr (4, [.ref xs, .ref xp, .int (nI ns), .int (nI np), .ref xl, .ref xr])), (xs, .inl (cS, 3, .inr (.inr (.inr (.inr sA))))), (xp, .inl (cP, 8, .inr (.inr (.inr (.inr pA))))), (xl, .inr (0, [.ref xn, .ref xm])), (xn, .inl (cL, 64, .inr (.inl u))), (xm, .inl (cL, 64, .inr (.inl (fun _ => 0)))), (xr, .inr (2, [.ref xw, .ref xt])), (xw, .inl (cL, 8, .inr (.inl w))), (xt, .inl (cL, 8, .inr (.inl t)))] ++ va_pl L f) s.heap := hP.part [0, 1, 2, 3, 4, 5, 6, 7, 8] rfl
  have hKc := hK.sub (tys' := [(cS, .object "Diffractory$Source"), (cP, .object "Diffractory$Part"), (cL, .long), (cI, .int)]) [0, 1, 2, 3] rfl
  refine va_callq (va_runV (As := [.int (nI i)]) (rest := []) ⟨hx, hb, hml, hown, hts⟩ (c_X4_sourceAt l dC dI x xs xp xl xn xm xr xw xt cS cP cL cI ta u w t L f sA pA sd pd ed S P ns np i hbn (by omega)) (cwV 1 hts gX4_ofSource_X4_sourceAt rfl rfl rfl (by decide +kernel) ⟨Nat.le_of_ble_eq_true rfl, Nat.le_of_ble_eq_true rfl⟩) ⟨ax_fbR, va_recv hK hP (ci := 4) (q0 := 0) rfl rfl, ax_prR hPc hKc hS hE⟩ rfl rfl hl.1 rfl (lv_room (Nat.le_of_ble_eq_true rfl)) dX4_ofSource_2 ⟨Nat.le_of_ble_eq_true rfl, Nat.le_of_ble_eq_true rfl⟩) hS (fun _ _ h9 => h9.elim) (fun _ h9 => h9.elim) (fun r_1 u_3 t8 H locs ht hvm hw_2 hB hz1 hk1 hS => ?_)
  have hP := ax_keep hP (fun _ h9 => h9) hk1
  obtain ⟨hoks, hsA, hsL, hfs⟩ := hbS i (by omega)
  obtain ⟨hpl8, hph8, hs1, hs9⟩ := id hoks
  refine W.eq (g2 := F0 m 5 ls [.ref (sd i)]) (by rw [hw_2]; rfl) ?_
  refine lv_astore_n (lv' := [(3, .ref (sd i)), (0, .ref x), (1, .int (nI i)), (2, .int 1)]) hx hb dX4_ofSource_5 rfl hl (by decide) rfl (fun ls hl => ?_)
  refine lv_aload_n hx hb dX4_ofSource_6 rfl (lv_at hl 0 rfl) ?_
  refine lv_ifnonnull (tgt := 20) hx hb dX4_ofSource_7 (by decide) ?_
  refine lv_iload_n hx hb dX4_ofSource_20 rfl (lv_at hl 3 rfl) ?_
  refine lv_tableIn (tgt := 53) hx hb dX4_ofSource_21 (by decide) (by decide) (by rfl) (by decide) ?_
  refine lv_aload_n hx hb dX4_ofSource_53 rfl (lv_at hl 0 rfl) ?_
  obtain ⟨k_4, hk_5⟩ := ax_pg (X := [(x, .inr (4, [.ref xs, .ref xp, .int (nI ns), .int (nI np), .ref xl, .ref xr])), (xs, .inl (cS, 3, .inr (.inr (.inr (.inr sA))))), (xp, .inl (cP, 8, .inr (.inr (.inr (.inr pA))))), (xl, .inr (0, [.ref xn, .ref xm])), (xn, .inl (cL, 64, .inr (.inl u))), (xm, .inl (cL, 64, .inr (.inl (fun _ => 0)))), (xr, .inr (2, [.ref xw, .ref xt])), (xw, .inl (cL, 8, .inr (.inl w))), (xt, .inl (cL, 8, .inr (.inl t)))]) (f := f) hsL hfs
  refine va_get (D := (dC, dI)) (ci := 3) (v := .int (nI ((S i).2.1))) (C := RX3) (T := TX3) (N := 3) hx hb hts (by decide +kernel) hown hK hP k_4 hk_5 rfl 1 (by decide) (hts (.fieldLink RX4 70 "Diffractory$Source" "phase" "I") (by decide +kernel)) (fun _ h9 => h9) rfl dX4_ofSource_54 ?_
  refine W.widen (k := 0) (n := 0) (Nat.le_of_ble_eq_true rfl) (Nat.le_of_ble_eq_true rfl) ?_
  exact W.iret (v := (nI ((S i).2.1))) hx hb hr (fun t8 ht hW => ⟨⟨(nI ((S i).2.1)), (), rfl, rfl, trivial⟩, hS.F ht⟩) hS.2.2 dX4_ofSource_57

set_option maxHeartbeats 4000000 in
set_option maxRecDepth 100000 in
theorem c_X4_ofSource_2 (l : Launch) (dC : Nat → ClassId) (dI : Nat → Nat → Nat) (x xs xp xl xn xm xr xw xt : Nat) (cS cP cL cI : ClassId) (ta : Nat → Nat) (u : Nat → Int64) (w : Nat → Int64) (t : Nat → Int64) (L : List Nat) (f : Nat → va_E) (sA : Nat → Option Nat) (pA : Nat → Option Nat) (sd : Nat → Nat) (pd : Nat → Nat) (ed : Nat → Nat) (S : Nat → ST) (P : Nat → PT) (ns : Nat) (np : Nat) (i : Nat) (hbn : bn cI L f sA pA sd pd ed S P ns np) (hi : i < ns) : Met l yX4_ofSource wsX4_ofSource ({ frames := 1, cells := 0, slots := 0, locals := 21 }) (va_Pc [.ref x, .int (nI i), .int 2] (ax_R (dC, dI) vwCl ([(x, .inr (4, [.ref xs, .ref xp, .int (nI ns), .int (nI np), .ref xl, .ref xr])), (xs, .inl (cS, 3, .inr (.inr (.inr (.inr sA))))), (xp, .inl (cP, 8, .inr (.inr (.inr (.inr pA))))), (xl, .inr (0, [.ref xn, .ref xm])), (xn, .inl (cL, 64, .inr (.inl u))), (xm, .inl (cL, 64, .inr (.inl (fun _ => 0)))), (xr, .inr (2, [.ref xw, .ref xt])), (xw, .inl (cL, 8, .inr (.inl w))), (xt, .inl (cL, 8, .inr (.inl t)))] ++ va_pl L f) [(cS, .object "Diffractory$Source"), (cP, .object "Diffractory$Part"), (cL, .long), (cI, .int)] ta)) (va_Qi (fun (r : Int32) (u9 : Unit) => r = (nI ((S i).2.2))) (fun _ _ => True) ax_no) 0 0 ax_no := by
  refine Met.ofW (cc := cX4_ofSource) (maxL := 4) (ret := (some .int)) (by decide) rfl ?_
  intro p e s m args below meth c s₁ B hml hv
  obtain ⟨rfl, hP, hK, hE⟩ := hv
  have hx := B.exec
  have hb := B.bytes
  have hr := B.returns
  have hts := atoms_spec (ws := wsX4_ofSource) B.pre
  have hown : s.vm.findClass RX4 = some m.cls := findClass_of_methodNamed B.named
  have hlocks := B.notSynchronized
  have hS : va_S ax_no s.heap s.heap [] := va_S.rf
  have hl := lv_entry ([.ref x, .int (nI i), .int 2]) (n := 4) (Nat.le_of_ble_eq_true rfl)
  rw [lg_entry_eq]
  generalize (lg_sl ([.ref x, .int (nI i), .int 2]) ++ List.replicate (4 - (lg_sl ([.ref x, .int (nI i), .int 2])).length) Slot.unset).toArray = ls at hl ⊢
  have hl : lv_has ls 4 [(0, .ref x), (1, .int (nI i)), (2, .int 2)] := hl
  have hP : va_P (dC, dI) vwCl ([(x, .inr (4, [.ref xs, .ref xp, .int (nI ns), .int (nI np), .ref xl, .ref xr])), (xs, .inl (cS, 3, .inr (.inr (.inr (.inr sA))))), (xp, .inl (cP, 8, .inr (.inr (.inr (.inr pA))))), (xl, .inr (0, [.ref xn, .ref xm])), (xn, .inl (cL, 64, .inr (.inl u))), (xm, .inl (cL, 64, .inr (.inl (fun _ => 0)))), (xr, .inr (2, [.ref xw, .ref xt])), (xw, .inl (cL, 8, .inr (.inl w))), (xt, .inl (cL, 8, .inr (.inl t)))] ++ va_pl L f) s.heap := hP
  obtain ⟨hns3, hnp8, hbS, hbP, hiS, hiP, hiE⟩ := id hbn
  refine lv_aload_n hx hb dX4_ofSource_0 rfl (lv_at hl 0 rfl) ?_
  refine lv_iload_n hx hb dX4_ofSource_1 rfl (lv_at hl 1 rfl) ?_
  have hPc : va_P (dC, dI) vwCl ([(x, .inr (4, [.ref xs, .ref xp, .int (nI ns), .int (nI np), .ref xl, .ref xr])), (xs, .inl (cS, 3, .inr (.inr (.inr (.inr sA))))), (xp, .inl (cP, 8, .inr (.inr (.inr (.inr pA))))), (xl, .inr (0, [.ref xn, .ref xm])), (xn, .inl (cL, 64, .inr (.inl u))), (xm, .inl (cL, 64, .inr (.inl (fun _ => 0)))), (xr, .inr (2, [.ref xw, .ref xt])), (xw, .inl (cL, 8, .inr (.inl w))), (xt, .inl (cL, 8, .inr (.inl t)))] ++ va_pl L f) s.heap := hP.part [0, 1, 2, 3, 4, 5, 6, 7, 8] rfl
  have hKc := hK.sub (tys' := [(cS, .object "Diffractory$Source"), (cP, .object "Diffractory$Part"), (cL, .long), (cI, .int)]) [0, 1, 2, 3] rfl
  refine va_callq (va_runV (As := [.int (nI i)]) (rest := []) ⟨hx, hb, hml, hown, hts⟩ (c_X4_sourceAt l dC dI x xs xp xl xn xm xr xw xt cS cP cL cI ta u w t L f sA pA sd pd ed S P ns np i hbn (by omega)) (cwV 1 hts gX4_ofSource_X4_sourceAt rfl rfl rfl (by decide +kernel) ⟨Nat.le_of_ble_eq_true rfl, Nat.le_of_ble_eq_true rfl⟩) ⟨ax_fbR, va_recv hK hP (ci := 4) (q0 := 0) rfl rfl, ax_prR hPc hKc hS hE⟩ rfl rfl hl.1 rfl (lv_room (Nat.le_of_ble_eq_true rfl)) dX4_ofSource_2 ⟨Nat.le_of_ble_eq_true rfl, Nat.le_of_ble_eq_true rfl⟩) hS (fun _ _ h9 => h9.elim) (fun _ h9 => h9.elim) (fun r_1 u_3 t8 H locs ht hvm hw_2 hB hz1 hk1 hS => ?_)
  have hP := ax_keep hP (fun _ h9 => h9) hk1
  obtain ⟨hoks, hsA, hsL, hfs⟩ := hbS i (by omega)
  obtain ⟨hpl8, hph8, hs1, hs9⟩ := id hoks
  refine W.eq (g2 := F0 m 5 ls [.ref (sd i)]) (by rw [hw_2]; rfl) ?_
  refine lv_astore_n (lv' := [(3, .ref (sd i)), (0, .ref x), (1, .int (nI i)), (2, .int 2)]) hx hb dX4_ofSource_5 rfl hl (by decide) rfl (fun ls hl => ?_)
  refine lv_aload_n hx hb dX4_ofSource_6 rfl (lv_at hl 0 rfl) ?_
  refine lv_ifnonnull (tgt := 20) hx hb dX4_ofSource_7 (by decide) ?_
  refine lv_iload_n hx hb dX4_ofSource_20 rfl (lv_at hl 3 rfl) ?_
  refine lv_tableIn (tgt := 58) hx hb dX4_ofSource_21 (by decide) (by decide) (by rfl) (by decide) ?_
  refine lv_aload_n hx hb dX4_ofSource_58 rfl (lv_at hl 0 rfl) ?_
  obtain ⟨k_4, hk_5⟩ := ax_pg (X := [(x, .inr (4, [.ref xs, .ref xp, .int (nI ns), .int (nI np), .ref xl, .ref xr])), (xs, .inl (cS, 3, .inr (.inr (.inr (.inr sA))))), (xp, .inl (cP, 8, .inr (.inr (.inr (.inr pA))))), (xl, .inr (0, [.ref xn, .ref xm])), (xn, .inl (cL, 64, .inr (.inl u))), (xm, .inl (cL, 64, .inr (.inl (fun _ => 0)))), (xr, .inr (2, [.ref xw, .ref xt])), (xw, .inl (cL, 8, .inr (.inl w))), (xt, .inl (cL, 8, .inr (.inl t)))]) (f := f) hsL hfs
  refine va_get (D := (dC, dI)) (ci := 3) (v := .int (nI ((S i).2.2))) (C := RX3) (T := TX3) (N := 3) hx hb hts (by decide +kernel) hown hK hP k_4 hk_5 rfl 2 (by decide) (hts (.fieldLink RX4 64 "Diffractory$Source" "strength" "I") (by decide +kernel)) (fun _ h9 => h9) rfl dX4_ofSource_59 ?_
  refine W.widen (k := 0) (n := 0) (Nat.le_of_ble_eq_true rfl) (Nat.le_of_ble_eq_true rfl) ?_
  exact W.iret (v := (nI ((S i).2.2))) hx hb hr (fun t8 ht hW => ⟨⟨(nI ((S i).2.2)), (), rfl, rfl, trivial⟩, hS.F ht⟩) hS.2.2 dX4_ofSource_62

set_option maxHeartbeats 4000000 in
set_option maxRecDepth 100000 in
theorem c_X4_loses (l : Launch) (dC : Nat → ClassId) (dI : Nat → Nat → Nat) (x xs xp xl xn xm xr xw xt : Nat) (cS cP cL cI : ClassId) (ta : Nat → Nat) (sz : Nat) (u : Nat → Int64) (w : Nat → Int64) (t : Nat → Int64) (L : List Nat) (f : Nat → va_E) (sA : Nat → Option Nat) (pA : Nat → Option Nat) (sd : Nat → Nat) (pd : Nat → Nat) (ed : Nat → Nat) (S : Nat → ST) (P : Nat → PT) (ns : Nat) (np : Nat) (i : Nat) (hbn : bn cI L f sA pA sd pd ed S P ns np) (hi : i < np) : Met l yX4_loses wsX4_loses ({ frames := 6, cells := 0, slots := 0, locals := 138 }) (va_Pc [.ref x, .int (nI i)] (ax_W (dC, dI) vwCl ([(x, .inr (4, [.ref xs, .ref xp, .int (nI ns), .int (nI np), .ref xl, .ref xr])), (xs, .inl (cS, 3, .inr (.inr (.inr (.inr sA))))), (xp, .inl (cP, 8, .inr (.inr (.inr (.inr pA))))), (xl, .inr (0, [.ref xn, .ref xm])), (xn, .inl (cL, 64, .inr (.inl u))), (xm, .inl (cL, 64, .inr (.inl (fun _ => 0)))), (xr, .inr (2, [.ref xw, .ref xt])), (xw, .inl (cL, 8, .inr (.inl w))), (xt, .inl (cL, 8, .inr (.inl t)))] ++ va_pl L f) [(cS, .object "Diffractory$Source"), (cP, .object "Diffractory$Part"), (cL, .long), (cI, .int)] ta sz)) (va_Ql (fun (r : Int64) (u9 : Nat × Nat × (Nat → Int64) × (Nat → Int64) × (Nat → Int64)) => r = (lsF S P i ns)) (fun (u9 : Nat × Nat × (Nat → Int64) × (Nat → Int64) × (Nat → Int64)) (t9 : State) => va_P (dC, dI) vwCl ([(x, .inr (4, [.ref xs, .ref xp, .int (nI ns), .int (nI np), .ref xl, .ref xr])), (xs, .inl (cS, 3, .inr (.inr (.inr (.inr sA))))), (xp, .inl (cP, 8, .inr (.inr (.inr (.inr pA))))), (xl, .inr (0, [.ref u9.1, .ref u9.2.1])), (u9.1, .inl (cL, 64, .inr (.inl u9.2.2.1))), (u9.2.1, .inl (cL, 64, .inr (.inl (fun _ => 0)))), (xr, .inr (2, [.ref xw, .ref xt])), (xw, .inl (cL, 8, .inr (.inl u9.2.2.2.1))), (xt, .inl (cL, 8, .inr (.inl u9.2.2.2.2)))] ++ va_pl L f) t9.heap ∧ va_K (dC, dI) vwCl [(cS, .object "Diffractory$Source"), (cP, .object "Diffractory$Part"), (cL, .long), (cI, .int)] t9 ∧ va_D (va_A ([(x, .inr (4, [.ref xs, .ref xp, .int (nI ns), .int (nI np), .ref xl, .ref xr])), (xs, .inl (cS, 3, .inr (.inr (.inr (.inr sA))))), (xp, .inl (cP, 8, .inr (.inr (.inr (.inr pA))))), (xl, .inr (0, [.ref xn, .ref xm])), (xn, .inl (cL, 64, .inr (.inl u))), (xm, .inl (cL, 64, .inr (.inl (fun _ => 0)))), (xr, .inr (2, [.ref xw, .ref xt])), (xw, .inl (cL, 8, .inr (.inl w))), (xt, .inl (cL, 8, .inr (.inl t)))] ++ va_pl L f) sz) ([(x, .inr (4, [.ref xs, .ref xp, .int (nI ns), .int (nI np), .ref xl, .ref xr])), (xs, .inl (cS, 3, .inr (.inr (.inr (.inr sA))))), (xp, .inl (cP, 8, .inr (.inr (.inr (.inr pA))))), (xl, .inr (0, [.ref u9.1, .ref u9.2.1])), (u9.1, .inl (cL, 64, .inr (.inl u9.2.2.1))), (u9.2.1, .inl (cL, 64, .inr (.inl (fun _ => 0)))), (xr, .inr (2, [.ref xw, .ref xt])), (xw, .inl (cL, 8, .inr (.inl u9.2.2.2.1))), (xt, .inl (cL, 8, .inr (.inl u9.2.2.2.2)))] ++ va_pl L f)) (va_A ([(x, .inr (4, [.ref xs, .ref xp, .int (nI ns), .int (nI np), .ref xl, .ref xr])), (xs, .inl (cS, 3, .inr (.inr (.inr (.inr sA))))), (xp, .inl (cP, 8, .inr (.inr (.inr (.inr pA))))), (xl, .inr (0, [.ref xn, .ref xm])), (xn, .inl (cL, 64, .inr (.inl u))), (xm, .inl (cL, 64, .inr (.inl (fun _ => 0)))), (xr, .inr (2, [.ref xw, .ref xt])), (xw, .inl (cL, 8, .inr (.inl w))), (xt, .inl (cL, 8, .inr (.inl t)))] ++ va_pl L f) sz)) 0 0 (va_A ([(x, .inr (4, [.ref xs, .ref xp, .int (nI ns), .int (nI np), .ref xl, .ref xr])), (xs, .inl (cS, 3, .inr (.inr (.inr (.inr sA))))), (xp, .inl (cP, 8, .inr (.inr (.inr (.inr pA))))), (xl, .inr (0, [.ref xn, .ref xm])), (xn, .inl (cL, 64, .inr (.inl u))), (xm, .inl (cL, 64, .inr (.inl (fun _ => 0)))), (xr, .inr (2, [.ref xw, .ref xt])), (xw, .inl (cL, 8, .inr (.inl w))), (xt, .inl (cL, 8, .inr (.inl t)))] ++ va_pl L f) sz) := by
  refine Met.ofW (cc := cX4_loses) (maxL := 5) (ret := (some .long)) (by decide) rfl ?_
  intro p e s m args below meth c s₁ B hml hv
  obtain ⟨rfl, hsz, hP, hK, hD0, hE⟩ := hv
  have hx := B.exec
  have hb := B.bytes
  have hr := B.returns
  have hts := atoms_spec (ws := wsX4_loses) B.pre
  have hown : s.vm.findClass RX4 = some m.cls := findClass_of_methodNamed B.named
  have hlocks := B.notSynchronized
  subst hsz
  have hD := hD0.self (sz := s.heap.size)
  generalize hAe : va_A ([(x, .inr (4, [.ref xs, .ref xp, .int (nI ns), .int (nI np), .ref xl, .ref xr])), (xs, .inl (cS, 3, .inr (.inr (.inr (.inr sA))))), (xp, .inl (cP, 8, .inr (.inr (.inr (.inr pA))))), (xl, .inr (0, [.ref xn, .ref xm])), (xn, .inl (cL, 64, .inr (.inl u))), (xm, .inl (cL, 64, .inr (.inl (fun _ => 0)))), (xr, .inr (2, [.ref xw, .ref xt])), (xw, .inl (cL, 8, .inr (.inl w))), (xt, .inl (cL, 8, .inr (.inl t)))] ++ va_pl L f) s.heap.size = A at hD hE ⊢
  have hA : ∀ q : Nat, s.heap.size ≤ q → A q := fun q h => by rw [← hAe]; exact Or.inr h
  have hS : va_S A s.heap s.heap [] := va_S.rf
  have hl := lv_entry ([.ref x, .int (nI i)]) (n := 5) (Nat.le_of_ble_eq_true rfl)
  rw [lg_entry_eq]
  generalize (lg_sl ([.ref x, .int (nI i)]) ++ List.replicate (5 - (lg_sl ([.ref x, .int (nI i)])).length) Slot.unset).toArray = ls at hl ⊢
  have hl : lv_has ls 5 [(0, .ref x), (1, .int (nI i))] := hl
  have hP : va_P (dC, dI) vwCl ([(x, .inr (4, [.ref xs, .ref xp, .int (nI ns), .int (nI np), .ref xl, .ref xr])), (xs, .inl (cS, 3, .inr (.inr (.inr (.inr sA))))), (xp, .inl (cP, 8, .inr (.inr (.inr (.inr pA))))), (xl, .inr (0, [.ref xn, .ref xm])), (xn, .inl (cL, 64, .inr (.inl u))), (xm, .inl (cL, 64, .inr (.inl (fun _ => 0)))), (xr, .inr (2, [.ref xw, .ref xt])), (xw, .inl (cL, 8, .inr (.inl w))), (xt, .inl (cL, 8, .inr (.inl t)))] ++ va_pl L f) s.heap := hP
  obtain ⟨hns3, hnp8, hbS, hbP, hiS, hiP, hiE⟩ := id hbn
  refine lv_aload_n hx hb dX4_loses_0 rfl (lv_at hl 0 rfl) ?_
  refine lv_iload_n hx hb dX4_loses_1 rfl (lv_at hl 1 rfl) ?_
  have hPc : va_P (dC, dI) vwCl ([(x, .inr (4, [.ref xs, .ref xp, .int (nI ns), .int (nI np), .ref xl, .ref xr])), (xs, .inl (cS, 3, .inr (.inr (.inr (.inr sA))))), (xp, .inl (cP, 8, .inr (.inr (.inr (.inr pA))))), (xl, .inr (0, [.ref xn, .ref xm])), (xn, .inl (cL, 64, .inr (.inl u))), (xm, .inl (cL, 64, .inr (.inl (fun _ => 0)))), (xr, .inr (2, [.ref xw, .ref xt])), (xw, .inl (cL, 8, .inr (.inl w))), (xt, .inl (cL, 8, .inr (.inl t)))] ++ va_pl L f) s.heap := hP.part [0, 1, 2, 3, 4, 5, 6, 7, 8] rfl
  have hKc := hK.sub (tys' := [(cS, .object "Diffractory$Source"), (cP, .object "Diffractory$Part"), (cL, .long), (cI, .int)]) [0, 1, 2, 3] rfl
  refine va_callq (va_runV (As := [.int (nI i)]) (rest := []) ⟨hx, hb, hml, hown, hts⟩ (c_X4_partAt l dC dI x xs xp xl xn xm xr xw xt cS cP cL cI ta u w t L f sA pA sd pd ed S P ns np i hbn (by omega)) (cwV 1 hts gX4_loses_X4_partAt rfl rfl rfl (by decide +kernel) ⟨Nat.le_of_ble_eq_true rfl, Nat.le_of_ble_eq_true rfl⟩) ⟨ax_fbR, va_recv hK hP (ci := 4) (q0 := 0) rfl rfl, ax_prR hPc hKc hS hE⟩ rfl rfl hl.1 rfl (lv_room (Nat.le_of_ble_eq_true rfl)) dX4_loses_2 ⟨Nat.le_of_ble_eq_true rfl, Nat.le_of_ble_eq_true rfl⟩) hS (fun _ _ h9 => h9.elim) (fun _ h9 => h9.elim) (fun r_1 u_3 t8 H locs ht hvm hw_2 hB hz1 hk1 hS => ?_)
  have hP := ax_keep hP (fun _ h9 => h9) hk1
  obtain ⟨hokp, hpA, hpL, heL, hfp, hfe⟩ := hbP i (by omega)
  obtain ⟨hk11, hlo9, hhi9, hin2, hdi9, hti9, hex9, hexz⟩ := id hokp
  have hn24 := ax_hi24 hhi9
  refine W.eq (g2 := F0 m 5 ls [.ref (pd i)]) (by rw [hw_2]; rfl) ?_
  refine lv_astore_n (lv' := [(2, .ref (pd i)), (0, .ref x), (1, .int (nI i))]) hx hb dX4_loses_5 rfl hl (by decide) rfl (fun ls hl => ?_)
  refine lv_aload_n hx hb dX4_loses_6 rfl (lv_at hl 0 rfl) ?_
  refine lv_ifnonnull (tgt := 20) hx hb dX4_loses_7 (by decide) ?_
  refine lv_aload_n hx hb dX4_loses_20 rfl (lv_at hl 0 rfl) ?_
  obtain ⟨k_4, hk_5⟩ := ax_pg (X := [(x, .inr (4, [.ref xs, .ref xp, .int (nI ns), .int (nI np), .ref xl, .ref xr])), (xs, .inl (cS, 3, .inr (.inr (.inr (.inr sA))))), (xp, .inl (cP, 8, .inr (.inr (.inr (.inr pA))))), (xl, .inr (0, [.ref xn, .ref xm])), (xn, .inl (cL, 64, .inr (.inl u))), (xm, .inl (cL, 64, .inr (.inl (fun _ => 0)))), (xr, .inr (2, [.ref xw, .ref xt])), (xw, .inl (cL, 8, .inr (.inl w))), (xt, .inl (cL, 8, .inr (.inl t)))]) (f := f) hpL hfp
  refine va_get (D := (dC, dI)) (ci := 1) (v := .int (nI ((P i).2.2.1))) (C := RX1) (T := TX1) (N := 6) hx hb hts (by decide +kernel) hown hK hP k_4 hk_5 rfl 2 (by decide) (hts (.fieldLink RX4 101 "Diffractory$Part" "isIn" "Z") (by decide +kernel)) (fun _ h9 => h9) rfl dX4_loses_21 ?_
  refine lv_if_ne (tgt := 29) hx hb dX4_loses_24 (by decide) (fun c_6 => ?_) (fun c_6 => ?_)
  · have c_6 : ¬ ((P i).2.2.1) = 0 := ax_fneTN (by omega) (by omega) c_6
    refine lv_aload_n hx hb dX4_loses_29 rfl (lv_at hl 1 rfl) ?_
    refine lv_iload_n hx hb dX4_loses_30 rfl (lv_at hl 2 rfl) ?_
    refine lv_iconst (v := 1) hx hb dX4_loses_31 (by decide) ?_
    refine lv_isub hx hb dX4_loses_32 ?_
    have hPc : va_P (dC, dI) vwCl ([(x, .inr (4, [.ref xs, .ref xp, .int (nI ns), .int (nI np), .ref xl, .ref xr])), (xs, .inl (cS, 3, .inr (.inr (.inr (.inr sA))))), (xp, .inl (cP, 8, .inr (.inr (.inr (.inr pA))))), (xl, .inr (0, [.ref xn, .ref xm])), (xn, .inl (cL, 64, .inr (.inl u))), (xm, .inl (cL, 64, .inr (.inl (fun _ => 0)))), (xr, .inr (2, [.ref xw, .ref xt])), (xw, .inl (cL, 8, .inr (.inl w))), (xt, .inl (cL, 8, .inr (.inl t)))] ++ va_pl L f) H := hP.part [0, 1, 2, 3, 4, 5, 6, 7, 8] rfl
    have hKc := hK.sub (tys' := [(cS, .object "Diffractory$Source"), (cP, .object "Diffractory$Part"), (cL, .long), (cI, .int)]) [0, 1, 2, 3] rfl
    have hDc : va_D A ([(x, .inr (4, [.ref xs, .ref xp, .int (nI ns), .int (nI np), .ref xl, .ref xr])), (xs, .inl (cS, 3, .inr (.inr (.inr (.inr sA))))), (xp, .inl (cP, 8, .inr (.inr (.inr (.inr pA))))), (xl, .inr (0, [.ref xn, .ref xm])), (xn, .inl (cL, 64, .inr (.inl u))), (xm, .inl (cL, 64, .inr (.inl (fun _ => 0)))), (xr, .inr (2, [.ref xw, .ref xt])), (xw, .inl (cL, 8, .inr (.inl w))), (xt, .inl (cL, 8, .inr (.inl t)))] ++ va_pl L f) := hD.part [0, 1, 2, 3, 4, 5, 6, 7, 8] (by decide) rfl
    have hFc : ∀ q, va_A ([(x, .inr (4, [.ref xs, .ref xp, .int (nI ns), .int (nI np), .ref xl, .ref xr])), (xs, .inl (cS, 3, .inr (.inr (.inr (.inr sA))))), (xp, .inl (cP, 8, .inr (.inr (.inr (.inr pA))))), (xl, .inr (0, [.ref xn, .ref xm])), (xn, .inl (cL, 64, .inr (.inl u))), (xm, .inl (cL, 64, .inr (.inl (fun _ => 0)))), (xr, .inr (2, [.ref xw, .ref xt])), (xw, .inl (cL, 8, .inr (.inl w))), (xt, .inl (cL, 8, .inr (.inl t)))] ++ va_pl L f) H.size q → A q := va_freeP hD hS hA [0, 1, 2, 3, 4, 5, 6, 7, 8] rfl
    refine va_callv (va_runV (As := [.int ((nI i) - 1)]) (rest := []) ⟨hx, hb, hml, hown, hts⟩ (c_X4_shineAll l dC dI x xs xp xl xn xm xr xw xt cS cP cL cI ta H.size u w t L f sA pA sd pd ed S P ns np ((nI i) - 1) i hbn (ax_m1T (by omega)) (by omega)) (cwV 1 hts gX4_loses_X4_shineAll rfl rfl rfl (by decide +kernel) ⟨Nat.le_of_ble_eq_true rfl, Nat.le_of_ble_eq_true rfl⟩) ⟨ax_fbW, va_recv hK hP (ci := 4) (q0 := 0) rfl rfl, ax_prW hPc hKc hDc hS hFc hE⟩ rfl rfl hl.1 rfl (lv_room (Nat.le_of_ble_eq_true rfl)) dX4_loses_33 ⟨Nat.le_of_ble_eq_true rfl, Nat.le_of_ble_eq_true rfl⟩) hS (fun q _ h9 => hFc q h9) hFc (fun u_9 t8 H locs ht hvm hw_8 hB hz1 hk1 hS => ?_)
    obtain ⟨n1_10, m1_11, u1_12⟩ := u_9
    obtain ⟨hP1, hK1, hD1⟩ := hB
    rw [ht] at hP1
    have hK1 := va_K.moved hvm.symm hK1
    obtain ⟨hP, hD⟩ := va_joinP (X := [(x, .inr (4, [.ref xs, .ref xp, .int (nI ns), .int (nI np), .ref xl, .ref xr])), (xs, .inl (cS, 3, .inr (.inr (.inr (.inr sA))))), (xp, .inl (cP, 8, .inr (.inr (.inr (.inr pA))))), (xl, .inr (0, [.ref xn, .ref xm])), (xn, .inl (cL, 64, .inr (.inl u))), (xm, .inl (cL, 64, .inr (.inl (fun _ => 0)))), (xr, .inr (2, [.ref xw, .ref xt])), (xw, .inl (cL, 8, .inr (.inl w))), (xt, .inl (cL, 8, .inr (.inl t)))]) (cx := [(x, .inr (4, [.ref xs, .ref xp, .int (nI ns), .int (nI np), .ref xl, .ref xr])), (xs, .inl (cS, 3, .inr (.inr (.inr (.inr sA))))), (xp, .inl (cP, 8, .inr (.inr (.inr (.inr pA))))), (xl, .inr (0, [.ref xn, .ref xm])), (xn, .inl (cL, 64, .inr (.inl u))), (xm, .inl (cL, 64, .inr (.inl (fun _ => 0)))), (xr, .inr (2, [.ref xw, .ref xt])), (xw, .inl (cL, 8, .inr (.inl w))), (xt, .inl (cL, 8, .inr (.inl t)))]) (wr := []) (rx := [(x, .inr (4, [.ref xs, .ref xp, .int (nI ns), .int (nI np), .ref xl, .ref xr])), (xs, .inl (cS, 3, .inr (.inr (.inr (.inr sA))))), (xp, .inl (cP, 8, .inr (.inr (.inr (.inr pA))))), (xl, .inr (0, [.ref n1_10, .ref m1_11])), (n1_10, .inl (cL, 64, .inr (.inl u1_12))), (m1_11, .inl (cL, 64, .inr (.inl (fun _ => 0)))), (xr, .inr (2, [.ref xw, .ref xt])), (xw, .inl (cL, 8, .inr (.inl (wN S P i ns)))), (xt, .inl (cL, 8, .inr (.inl (tN S P i ns))))]) (pl := va_pl L f) (pl1 := va_pl L f) hP hD [0, 1, 2, 3, 4, 5, 6, 7, 8] [] rfl rfl (by decide) (by decide) hk1 hFc hP1 hD1
    have hP : va_P (dC, dI) vwCl ([(x, .inr (4, [.ref xs, .ref xp, .int (nI ns), .int (nI np), .ref xl, .ref xr])), (xs, .inl (cS, 3, .inr (.inr (.inr (.inr sA))))), (xp, .inl (cP, 8, .inr (.inr (.inr (.inr pA))))), (xl, .inr (0, [.ref n1_10, .ref m1_11])), (n1_10, .inl (cL, 64, .inr (.inl u1_12))), (m1_11, .inl (cL, 64, .inr (.inl (fun _ => 0)))), (xr, .inr (2, [.ref xw, .ref xt])), (xw, .inl (cL, 8, .inr (.inl (wN S P i ns)))), (xt, .inl (cL, 8, .inr (.inl (tN S P i ns))))] ++ va_pl L f) H := hP
    have hD : va_D A ([(x, .inr (4, [.ref xs, .ref xp, .int (nI ns), .int (nI np), .ref xl, .ref xr])), (xs, .inl (cS, 3, .inr (.inr (.inr (.inr sA))))), (xp, .inl (cP, 8, .inr (.inr (.inr (.inr pA))))), (xl, .inr (0, [.ref n1_10, .ref m1_11])), (n1_10, .inl (cL, 64, .inr (.inl u1_12))), (m1_11, .inl (cL, 64, .inr (.inl (fun _ => 0)))), (xr, .inr (2, [.ref xw, .ref xt])), (xw, .inl (cL, 8, .inr (.inl (wN S P i ns)))), (xt, .inl (cL, 8, .inr (.inl (tN S P i ns))))] ++ va_pl L f) := hD
    refine lv_aload_n hx hb dX4_loses_36 rfl (lv_at hl 1 rfl) ?_
    refine va_get (D := (dC, dI)) (ci := 4) (v := .ref xr) (C := RX4) (T := TX4) (N := 6) hx hb hts (by decide +kernel) hown hK hP 0 rfl rfl 5 (by decide) (hts (.fieldLink RX4 31 "Diffractory" "row" "LDiffractory$Row;") (by decide +kernel)) (fun _ h9 => h9) rfl dX4_loses_37 ?_
    have hPc := hP.sub (ws' := [(xr, .inr (2, [.ref xw, .ref xt])), (xw, .inl (cL, 8, .inr (.inl (wN S P i ns)))), (xt, .inl (cL, 8, .inr (.inl (tN S P i ns))))]) [6, 7, 8] rfl
    have hKc := hK.sub (tys' := [(cL, .long)]) [2] rfl
    refine va_calll (va_runV (As := []) (rest := []) ⟨hx, hb, hml, hown, hts⟩ (c_X2_sumOfWholes l dC dI xr xw xt cL ta (wN S P i ns) (tN S P i ns)) (cwV 0 hts gX4_loses_X2_sumOfWholes rfl rfl rfl (by decide +kernel) ⟨Nat.le_of_ble_eq_true rfl, Nat.le_of_ble_eq_true rfl⟩) ⟨ax_fbR, va_recv hK hP (ci := 2) (q0 := 6) rfl rfl, ax_prR hPc hKc hS hE⟩ rfl rfl hl.1 rfl (lv_room (Nat.le_of_ble_eq_true rfl)) dX4_loses_40 ⟨Nat.le_of_ble_eq_true rfl, Nat.le_of_ble_eq_true rfl⟩) hS (fun _ _ h9 => h9.elim) (fun _ h9 => h9.elim) (fun r_14 u_16 t8 H locs ht hvm hw_15 hB hz1 hk1 hS => ?_)
    have hP := ax_keep hP (fun _ h9 => h9) hk1
    have hw_15 : r_14 = (smR (wN S P i ns) 8) := hw_15
    refine ax_l (y := (smR (wN S P i ns) 8)) hw_15 ?_
    refine lv_lstore_n (lv' := [(3, .long (smR (wN S P i ns) 8)), (2, .ref (pd i)), (0, .ref x), (1, .int (nI i))]) hx hb dX4_loses_43 rfl hl (by decide) rfl (fun ls hl => ?_)
    refine lv_aload_n hx hb dX4_loses_44 rfl (lv_at hl 2 rfl) ?_
    refine lv_iload_n hx hb dX4_loses_45 rfl (lv_at hl 3 rfl) ?_
    have hPc : va_P (dC, dI) vwCl ([(x, .inr (4, [.ref xs, .ref xp, .int (nI ns), .int (nI np), .ref xl, .ref xr])), (xs, .inl (cS, 3, .inr (.inr (.inr (.inr sA))))), (xp, .inl (cP, 8, .inr (.inr (.inr (.inr pA))))), (xl, .inr (0, [.ref n1_10, .ref m1_11])), (n1_10, .inl (cL, 64, .inr (.inl u1_12))), (m1_11, .inl (cL, 64, .inr (.inl (fun _ => 0)))), (xr, .inr (2, [.ref xw, .ref xt])), (xw, .inl (cL, 8, .inr (.inl (wN S P i ns)))), (xt, .inl (cL, 8, .inr (.inl (tN S P i ns))))] ++ va_pl L f) H := hP.part [0, 1, 2, 3, 4, 5, 6, 7, 8] rfl
    have hKc := hK.sub (tys' := [(cS, .object "Diffractory$Source"), (cP, .object "Diffractory$Part"), (cL, .long), (cI, .int)]) [0, 1, 2, 3] rfl
    have hDc : va_D A ([(x, .inr (4, [.ref xs, .ref xp, .int (nI ns), .int (nI np), .ref xl, .ref xr])), (xs, .inl (cS, 3, .inr (.inr (.inr (.inr sA))))), (xp, .inl (cP, 8, .inr (.inr (.inr (.inr pA))))), (xl, .inr (0, [.ref n1_10, .ref m1_11])), (n1_10, .inl (cL, 64, .inr (.inl u1_12))), (m1_11, .inl (cL, 64, .inr (.inl (fun _ => 0)))), (xr, .inr (2, [.ref xw, .ref xt])), (xw, .inl (cL, 8, .inr (.inl (wN S P i ns)))), (xt, .inl (cL, 8, .inr (.inl (tN S P i ns))))] ++ va_pl L f) := hD.part [0, 1, 2, 3, 4, 5, 6, 7, 8] (by decide) rfl
    have hFc : ∀ q, va_A ([(x, .inr (4, [.ref xs, .ref xp, .int (nI ns), .int (nI np), .ref xl, .ref xr])), (xs, .inl (cS, 3, .inr (.inr (.inr (.inr sA))))), (xp, .inl (cP, 8, .inr (.inr (.inr (.inr pA))))), (xl, .inr (0, [.ref n1_10, .ref m1_11])), (n1_10, .inl (cL, 64, .inr (.inl u1_12))), (m1_11, .inl (cL, 64, .inr (.inl (fun _ => 0)))), (xr, .inr (2, [.ref xw, .ref xt])), (xw, .inl (cL, 8, .inr (.inl (wN S P i ns)))), (xt, .inl (cL, 8, .inr (.inl (tN S P i ns))))] ++ va_pl L f) H.size q → A q := va_freeP hD hS hA [0, 1, 2, 3, 4, 5, 6, 7, 8] rfl
    refine va_callv (va_runV (As := [.int (nI i)]) (rest := []) ⟨hx, hb, hml, hown, hts⟩ (c_X4_shineAll l dC dI x xs xp xl n1_10 m1_11 xr xw xt cS cP cL cI ta H.size u1_12 (wN S P i ns) (tN S P i ns) L f sA pA sd pd ed S P ns np (nI i) (i + 1) hbn (by rw [nI_toInt (by omega)]; omega) (by omega)) (cwV 1 hts gX4_loses_X4_shineAll rfl rfl rfl (by decide +kernel) ⟨Nat.le_of_ble_eq_true rfl, Nat.le_of_ble_eq_true rfl⟩) ⟨ax_fbW, va_recv hK hP (ci := 4) (q0 := 0) rfl rfl, ax_prW hPc hKc hDc hS hFc hE⟩ rfl rfl hl.1 rfl (lv_room (Nat.le_of_ble_eq_true rfl)) dX4_loses_46 ⟨Nat.le_of_ble_eq_true rfl, Nat.le_of_ble_eq_true rfl⟩) hS (fun q _ h9 => hFc q h9) hFc (fun u_19 t8 H locs ht hvm hw_18 hB hz1 hk1 hS => ?_)
    obtain ⟨n1_20, m1_21, u1_22⟩ := u_19
    obtain ⟨hP1, hK1, hD1⟩ := hB
    rw [ht] at hP1
    have hK1 := va_K.moved hvm.symm hK1
    obtain ⟨hP, hD⟩ := va_joinP (X := [(x, .inr (4, [.ref xs, .ref xp, .int (nI ns), .int (nI np), .ref xl, .ref xr])), (xs, .inl (cS, 3, .inr (.inr (.inr (.inr sA))))), (xp, .inl (cP, 8, .inr (.inr (.inr (.inr pA))))), (xl, .inr (0, [.ref n1_10, .ref m1_11])), (n1_10, .inl (cL, 64, .inr (.inl u1_12))), (m1_11, .inl (cL, 64, .inr (.inl (fun _ => 0)))), (xr, .inr (2, [.ref xw, .ref xt])), (xw, .inl (cL, 8, .inr (.inl (wN S P i ns)))), (xt, .inl (cL, 8, .inr (.inl (tN S P i ns))))]) (cx := [(x, .inr (4, [.ref xs, .ref xp, .int (nI ns), .int (nI np), .ref xl, .ref xr])), (xs, .inl (cS, 3, .inr (.inr (.inr (.inr sA))))), (xp, .inl (cP, 8, .inr (.inr (.inr (.inr pA))))), (xl, .inr (0, [.ref n1_10, .ref m1_11])), (n1_10, .inl (cL, 64, .inr (.inl u1_12))), (m1_11, .inl (cL, 64, .inr (.inl (fun _ => 0)))), (xr, .inr (2, [.ref xw, .ref xt])), (xw, .inl (cL, 8, .inr (.inl (wN S P i ns)))), (xt, .inl (cL, 8, .inr (.inl (tN S P i ns))))]) (wr := []) (rx := [(x, .inr (4, [.ref xs, .ref xp, .int (nI ns), .int (nI np), .ref xl, .ref xr])), (xs, .inl (cS, 3, .inr (.inr (.inr (.inr sA))))), (xp, .inl (cP, 8, .inr (.inr (.inr (.inr pA))))), (xl, .inr (0, [.ref n1_20, .ref m1_21])), (n1_20, .inl (cL, 64, .inr (.inl u1_22))), (m1_21, .inl (cL, 64, .inr (.inl (fun _ => 0)))), (xr, .inr (2, [.ref xw, .ref xt])), (xw, .inl (cL, 8, .inr (.inl (wN S P (i + 1) ns)))), (xt, .inl (cL, 8, .inr (.inl (tN S P (i + 1) ns))))]) (pl := va_pl L f) (pl1 := va_pl L f) hP hD [0, 1, 2, 3, 4, 5, 6, 7, 8] [] rfl rfl (by decide) (by decide) hk1 hFc hP1 hD1
    have hP : va_P (dC, dI) vwCl ([(x, .inr (4, [.ref xs, .ref xp, .int (nI ns), .int (nI np), .ref xl, .ref xr])), (xs, .inl (cS, 3, .inr (.inr (.inr (.inr sA))))), (xp, .inl (cP, 8, .inr (.inr (.inr (.inr pA))))), (xl, .inr (0, [.ref n1_20, .ref m1_21])), (n1_20, .inl (cL, 64, .inr (.inl u1_22))), (m1_21, .inl (cL, 64, .inr (.inl (fun _ => 0)))), (xr, .inr (2, [.ref xw, .ref xt])), (xw, .inl (cL, 8, .inr (.inl (wN S P (i + 1) ns)))), (xt, .inl (cL, 8, .inr (.inl (tN S P (i + 1) ns))))] ++ va_pl L f) H := hP
    have hD : va_D A ([(x, .inr (4, [.ref xs, .ref xp, .int (nI ns), .int (nI np), .ref xl, .ref xr])), (xs, .inl (cS, 3, .inr (.inr (.inr (.inr sA))))), (xp, .inl (cP, 8, .inr (.inr (.inr (.inr pA))))), (xl, .inr (0, [.ref n1_20, .ref m1_21])), (n1_20, .inl (cL, 64, .inr (.inl u1_22))), (m1_21, .inl (cL, 64, .inr (.inl (fun _ => 0)))), (xr, .inr (2, [.ref xw, .ref xt])), (xw, .inl (cL, 8, .inr (.inl (wN S P (i + 1) ns)))), (xt, .inl (cL, 8, .inr (.inl (tN S P (i + 1) ns))))] ++ va_pl L f) := hD
    refine lv_aload_n hx hb dX4_loses_49 rfl (lv_at hl 1 rfl) ?_
    have hPc : va_P (dC, dI) vwCl ([] ++ va_pl L f) H := hP.part [] rfl
    have hKc := hK.sub (tys' := [(cI, .int)]) [3] rfl
    obtain ⟨k_24, hk_25⟩ := ax_pg (X := [(x, .inr (4, [.ref xs, .ref xp, .int (nI ns), .int (nI np), .ref xl, .ref xr])), (xs, .inl (cS, 3, .inr (.inr (.inr (.inr sA))))), (xp, .inl (cP, 8, .inr (.inr (.inr (.inr pA))))), (xl, .inr (0, [.ref n1_20, .ref m1_21])), (n1_20, .inl (cL, 64, .inr (.inl u1_22))), (m1_21, .inl (cL, 64, .inr (.inl (fun _ => 0)))), (xr, .inr (2, [.ref xw, .ref xt])), (xw, .inl (cL, 8, .inr (.inl (wN S P (i + 1) ns)))), (xt, .inl (cL, 8, .inr (.inl (tN S P (i + 1) ns))))]) (f := f) hpL hfp
    refine va_calll (va_runV (As := []) (rest := []) ⟨hx, hb, hml, hown, hts⟩ (c_X1_lossFactor l dC dI cI ta L f (pd i) (ed i) (P i) hpL heL hfp hfe hokp) (cwV 0 hts gX4_loses_X1_lossFactor rfl rfl rfl (by decide +kernel) ⟨Nat.le_of_ble_eq_true rfl, Nat.le_of_ble_eq_true rfl⟩) ⟨ax_fbR, va_recv hK hP (ci := 1) (q0 := k_24) rfl hk_25, ax_prR hPc hKc hS hE⟩ rfl rfl hl.1 rfl (lv_room (Nat.le_of_ble_eq_true rfl)) dX4_loses_50 ⟨Nat.le_of_ble_eq_true rfl, Nat.le_of_ble_eq_true rfl⟩) hS (fun _ _ h9 => h9.elim) (fun _ h9 => h9.elim) (fun r_26 u_28 t8 H locs ht hvm hw_27 hB hz1 hk1 hS => ?_)
    have hP := ax_keep hP (fun _ h9 => h9) hk1
    have hw_27 : r_26 = ((nI (lfn (P i))).toInt64) := hw_27
    refine ax_l (y := ((nI (lfn (P i))).toInt64)) hw_27 ?_
    refine lv_lload_n hx hb dX4_loses_53 rfl (lv_at hl 0 rfl) ?_
    refine lv_lmul hx hb dX4_loses_54 ?_
    refine lv_aload_n hx hb dX4_loses_55 rfl (lv_at hl 2 rfl) ?_
    refine va_get (D := (dC, dI)) (ci := 4) (v := .ref xr) (C := RX4) (T := TX4) (N := 6) hx hb hts (by decide +kernel) hown hK hP 0 rfl rfl 5 (by decide) (hts (.fieldLink RX4 31 "Diffractory" "row" "LDiffractory$Row;") (by decide +kernel)) (fun _ h9 => h9) rfl dX4_loses_56 ?_
    have hPc := hP.sub (ws' := [(xr, .inr (2, [.ref xw, .ref xt])), (xw, .inl (cL, 8, .inr (.inl (wN S P (i + 1) ns)))), (xt, .inl (cL, 8, .inr (.inl (tN S P (i + 1) ns))))]) [6, 7, 8] rfl
    have hKc := hK.sub (tys' := [(cL, .long)]) [2] rfl
    refine va_calll (va_runV (As := []) (rest := [.long (((nI (lfn (P i))).toInt64) * (smR (wN S P i ns) 8))]) ⟨hx, hb, hml, hown, hts⟩ (c_X2_sumOfWholes l dC dI xr xw xt cL ta (wN S P (i + 1) ns) (tN S P (i + 1) ns)) (cwV 0 hts gX4_loses_X2_sumOfWholes rfl rfl rfl (by decide +kernel) ⟨Nat.le_of_ble_eq_true rfl, Nat.le_of_ble_eq_true rfl⟩) ⟨ax_fbR, va_recv hK hP (ci := 2) (q0 := 6) rfl rfl, ax_prR hPc hKc hS hE⟩ rfl rfl hl.1 rfl (lv_room (Nat.le_of_ble_eq_true rfl)) dX4_loses_59 ⟨Nat.le_of_ble_eq_true rfl, Nat.le_of_ble_eq_true rfl⟩) hS (fun _ _ h9 => h9.elim) (fun _ h9 => h9.elim) (fun r_29 u_31 t8 H locs ht hvm hw_30 hB hz1 hk1 hS => ?_)
    have hP := ax_keep hP (fun _ h9 => h9) hk1
    have hw_30 : r_29 = (smR (wN S P (i + 1) ns) 8) := hw_30
    refine ax_l (y := (smR (wN S P (i + 1) ns) 8)) hw_30 ?_
    refine lv_lsub hx hb dX4_loses_62 ?_
    refine W.widen (k := 0) (n := 0) (Nat.le_of_ble_eq_true rfl) (Nat.le_of_ble_eq_true rfl) ?_
    have hP9 : va_P (dC, dI) vwCl ([(x, .inr (4, [.ref xs, .ref xp, .int (nI ns), .int (nI np), .ref xl, .ref xr])), (xs, .inl (cS, 3, .inr (.inr (.inr (.inr sA))))), (xp, .inl (cP, 8, .inr (.inr (.inr (.inr pA))))), (xl, .inr (0, [.ref n1_20, .ref m1_21])), (n1_20, .inl (cL, 64, .inr (.inl u1_22))), (m1_21, .inl (cL, 64, .inr (.inl (fun _ => 0)))), (xr, .inr (2, [.ref xw, .ref xt])), (xw, .inl (cL, 8, .inr (.inl (wN S P (i + 1) ns)))), (xt, .inl (cL, 8, .inr (.inl (tN S P (i + 1) ns))))] ++ va_pl L f) H := hP.part [0, 1, 2, 3, 4, 5, 6, 7, 8] rfl
    have hD9 : va_D A ([(x, .inr (4, [.ref xs, .ref xp, .int (nI ns), .int (nI np), .ref xl, .ref xr])), (xs, .inl (cS, 3, .inr (.inr (.inr (.inr sA))))), (xp, .inl (cP, 8, .inr (.inr (.inr (.inr pA))))), (xl, .inr (0, [.ref n1_20, .ref m1_21])), (n1_20, .inl (cL, 64, .inr (.inl u1_22))), (m1_21, .inl (cL, 64, .inr (.inl (fun _ => 0)))), (xr, .inr (2, [.ref xw, .ref xt])), (xw, .inl (cL, 8, .inr (.inl (wN S P (i + 1) ns)))), (xt, .inl (cL, 8, .inr (.inl (tN S P (i + 1) ns))))] ++ va_pl L f) := hD.part [0, 1, 2, 3, 4, 5, 6, 7, 8] (by decide) rfl
    have hK9 := hK.sub (tys' := [(cS, .object "Diffractory$Source"), (cP, .object "Diffractory$Part"), (cL, .long), (cI, .int)]) [0, 1, 2, 3] rfl
    exact W.lret (v := ((((nI (lfn (P i))).toInt64) * (smR (wN S P i ns) 8)) - (smR (wN S P (i + 1) ns) 8))) hx hb hr (fun t8 ht hW => ⟨⟨((((nI (lfn (P i))).toInt64) * (smR (wN S P i ns) 8)) - (smR (wN S P (i + 1) ns) 8)), (n1_20, m1_21, u1_22, (wN S P (i + 1) ns), (tN S P (i + 1) ns)), rfl, by unfold lsF; rw [if_neg c_6], by rw [ht]; exact hP9, va_K.moved hW.alike hK9, hD9⟩, hS.F ht⟩) hS.2.2 dX4_loses_63
  · have c_6 : ((P i).2.2.1) = 0 := ax_fneFN (by omega) (by omega) c_6
    refine lv_lconst (v := 0) hx hb dX4_loses_27 (by decide) ?_
    refine W.widen (k := 0) (n := 0) (Nat.le_of_ble_eq_true rfl) (Nat.le_of_ble_eq_true rfl) ?_
    have hP9 : va_P (dC, dI) vwCl ([(x, .inr (4, [.ref xs, .ref xp, .int (nI ns), .int (nI np), .ref xl, .ref xr])), (xs, .inl (cS, 3, .inr (.inr (.inr (.inr sA))))), (xp, .inl (cP, 8, .inr (.inr (.inr (.inr pA))))), (xl, .inr (0, [.ref xn, .ref xm])), (xn, .inl (cL, 64, .inr (.inl u))), (xm, .inl (cL, 64, .inr (.inl (fun _ => 0)))), (xr, .inr (2, [.ref xw, .ref xt])), (xw, .inl (cL, 8, .inr (.inl w))), (xt, .inl (cL, 8, .inr (.inl t)))] ++ va_pl L f) H := hP.part [0, 1, 2, 3, 4, 5, 6, 7, 8] rfl
    have hD9 : va_D A ([(x, .inr (4, [.ref xs, .ref xp, .int (nI ns), .int (nI np), .ref xl, .ref xr])), (xs, .inl (cS, 3, .inr (.inr (.inr (.inr sA))))), (xp, .inl (cP, 8, .inr (.inr (.inr (.inr pA))))), (xl, .inr (0, [.ref xn, .ref xm])), (xn, .inl (cL, 64, .inr (.inl u))), (xm, .inl (cL, 64, .inr (.inl (fun _ => 0)))), (xr, .inr (2, [.ref xw, .ref xt])), (xw, .inl (cL, 8, .inr (.inl w))), (xt, .inl (cL, 8, .inr (.inl t)))] ++ va_pl L f) := hD.part [0, 1, 2, 3, 4, 5, 6, 7, 8] (by decide) rfl
    have hK9 := hK.sub (tys' := [(cS, .object "Diffractory$Source"), (cP, .object "Diffractory$Part"), (cL, .long), (cI, .int)]) [0, 1, 2, 3] rfl
    exact W.lret (v := 0) hx hb hr (fun t8 ht hW => ⟨⟨0, (xn, xm, u, w, t), rfl, by unfold lsF; rw [if_pos c_6], by rw [ht]; exact hP9, va_K.moved hW.alike hK9, hD9⟩, hS.F ht⟩) hS.2.2 dX4_loses_28

set_option maxHeartbeats 4000000 in
set_option maxRecDepth 100000 in
theorem c_X4_alone (l : Launch) (dC : Nat → ClassId) (dI : Nat → Nat → Nat) (x xs xp xl xn xm xr xw xt : Nat) (cS cP cL cI : ClassId) (ta : Nat → Nat) (sz : Nat) (u : Nat → Int64) (w : Nat → Int64) (t : Nat → Int64) (L : List Nat) (f : Nat → va_E) (sA : Nat → Option Nat) (pA : Nat → Option Nat) (sd : Nat → Nat) (pd : Nat → Nat) (ed : Nat → Nat) (S : Nat → ST) (P : Nat → PT) (ns : Nat) (np : Nat) (i : Nat) (hbn : bn cI L f sA pA sd pd ed S P ns np) (hi : i < ns) : Met l yX4_alone wsX4_alone ({ frames := 5, cells := 0, slots := 0, locals := 115 }) (va_Pc [.ref x, .int (nI i)] (ax_W (dC, dI) vwCl ([(x, .inr (4, [.ref xs, .ref xp, .int (nI ns), .int (nI np), .ref xl, .ref xr])), (xs, .inl (cS, 3, .inr (.inr (.inr (.inr sA))))), (xp, .inl (cP, 8, .inr (.inr (.inr (.inr pA))))), (xl, .inr (0, [.ref xn, .ref xm])), (xn, .inl (cL, 64, .inr (.inl u))), (xm, .inl (cL, 64, .inr (.inl (fun _ => 0)))), (xr, .inr (2, [.ref xw, .ref xt])), (xw, .inl (cL, 8, .inr (.inl w))), (xt, .inl (cL, 8, .inr (.inl t)))] ++ va_pl L f) [(cS, .object "Diffractory$Source"), (cP, .object "Diffractory$Part"), (cL, .long), (cI, .int)] ta sz)) (va_Qi (fun (r : Int32) (u9 : Nat × Nat × (Nat → Int64) × (Nat → Int64) × (Nat → Int64)) => r = (nI (aln S P np i))) (fun (u9 : Nat × Nat × (Nat → Int64) × (Nat → Int64) × (Nat → Int64)) (t9 : State) => va_P (dC, dI) vwCl ([(x, .inr (4, [.ref xs, .ref xp, .int (nI ns), .int (nI np), .ref xl, .ref xr])), (xs, .inl (cS, 3, .inr (.inr (.inr (.inr sA))))), (xp, .inl (cP, 8, .inr (.inr (.inr (.inr pA))))), (xl, .inr (0, [.ref u9.1, .ref u9.2.1])), (u9.1, .inl (cL, 64, .inr (.inl u9.2.2.1))), (u9.2.1, .inl (cL, 64, .inr (.inl (fun _ => 0)))), (xr, .inr (2, [.ref xw, .ref xt])), (xw, .inl (cL, 8, .inr (.inl u9.2.2.2.1))), (xt, .inl (cL, 8, .inr (.inl u9.2.2.2.2)))] ++ va_pl L f) t9.heap ∧ va_K (dC, dI) vwCl [(cS, .object "Diffractory$Source"), (cP, .object "Diffractory$Part"), (cL, .long), (cI, .int)] t9 ∧ va_D (va_A ([(x, .inr (4, [.ref xs, .ref xp, .int (nI ns), .int (nI np), .ref xl, .ref xr])), (xs, .inl (cS, 3, .inr (.inr (.inr (.inr sA))))), (xp, .inl (cP, 8, .inr (.inr (.inr (.inr pA))))), (xl, .inr (0, [.ref xn, .ref xm])), (xn, .inl (cL, 64, .inr (.inl u))), (xm, .inl (cL, 64, .inr (.inl (fun _ => 0)))), (xr, .inr (2, [.ref xw, .ref xt])), (xw, .inl (cL, 8, .inr (.inl w))), (xt, .inl (cL, 8, .inr (.inl t)))] ++ va_pl L f) sz) ([(x, .inr (4, [.ref xs, .ref xp, .int (nI ns), .int (nI np), .ref xl, .ref xr])), (xs, .inl (cS, 3, .inr (.inr (.inr (.inr sA))))), (xp, .inl (cP, 8, .inr (.inr (.inr (.inr pA))))), (xl, .inr (0, [.ref u9.1, .ref u9.2.1])), (u9.1, .inl (cL, 64, .inr (.inl u9.2.2.1))), (u9.2.1, .inl (cL, 64, .inr (.inl (fun _ => 0)))), (xr, .inr (2, [.ref xw, .ref xt])), (xw, .inl (cL, 8, .inr (.inl u9.2.2.2.1))), (xt, .inl (cL, 8, .inr (.inl u9.2.2.2.2)))] ++ va_pl L f)) (va_A ([(x, .inr (4, [.ref xs, .ref xp, .int (nI ns), .int (nI np), .ref xl, .ref xr])), (xs, .inl (cS, 3, .inr (.inr (.inr (.inr sA))))), (xp, .inl (cP, 8, .inr (.inr (.inr (.inr pA))))), (xl, .inr (0, [.ref xn, .ref xm])), (xn, .inl (cL, 64, .inr (.inl u))), (xm, .inl (cL, 64, .inr (.inl (fun _ => 0)))), (xr, .inr (2, [.ref xw, .ref xt])), (xw, .inl (cL, 8, .inr (.inl w))), (xt, .inl (cL, 8, .inr (.inl t)))] ++ va_pl L f) sz)) 0 0 (va_A ([(x, .inr (4, [.ref xs, .ref xp, .int (nI ns), .int (nI np), .ref xl, .ref xr])), (xs, .inl (cS, 3, .inr (.inr (.inr (.inr sA))))), (xp, .inl (cP, 8, .inr (.inr (.inr (.inr pA))))), (xl, .inr (0, [.ref xn, .ref xm])), (xn, .inl (cL, 64, .inr (.inl u))), (xm, .inl (cL, 64, .inr (.inl (fun _ => 0)))), (xr, .inr (2, [.ref xw, .ref xt])), (xw, .inl (cL, 8, .inr (.inl w))), (xt, .inl (cL, 8, .inr (.inl t)))] ++ va_pl L f) sz) := by
  refine Met.ofW (cc := cX4_alone) (maxL := 3) (ret := (some .int)) (by decide) rfl ?_
  intro p e s m args below meth c s₁ B hml hv
  obtain ⟨rfl, hsz, hP, hK, hD0, hE⟩ := hv
  have hx := B.exec
  have hb := B.bytes
  have hr := B.returns
  have hts := atoms_spec (ws := wsX4_alone) B.pre
  have hown : s.vm.findClass RX4 = some m.cls := findClass_of_methodNamed B.named
  have hlocks := B.notSynchronized
  subst hsz
  have hD := hD0.self (sz := s.heap.size)
  generalize hAe : va_A ([(x, .inr (4, [.ref xs, .ref xp, .int (nI ns), .int (nI np), .ref xl, .ref xr])), (xs, .inl (cS, 3, .inr (.inr (.inr (.inr sA))))), (xp, .inl (cP, 8, .inr (.inr (.inr (.inr pA))))), (xl, .inr (0, [.ref xn, .ref xm])), (xn, .inl (cL, 64, .inr (.inl u))), (xm, .inl (cL, 64, .inr (.inl (fun _ => 0)))), (xr, .inr (2, [.ref xw, .ref xt])), (xw, .inl (cL, 8, .inr (.inl w))), (xt, .inl (cL, 8, .inr (.inl t)))] ++ va_pl L f) s.heap.size = A at hD hE ⊢
  have hA : ∀ q : Nat, s.heap.size ≤ q → A q := fun q h => by rw [← hAe]; exact Or.inr h
  have hS : va_S A s.heap s.heap [] := va_S.rf
  have hl := lv_entry ([.ref x, .int (nI i)]) (n := 3) (Nat.le_of_ble_eq_true rfl)
  rw [lg_entry_eq]
  generalize (lg_sl ([.ref x, .int (nI i)]) ++ List.replicate (3 - (lg_sl ([.ref x, .int (nI i)])).length) Slot.unset).toArray = ls at hl ⊢
  have hl : lv_has ls 3 [(0, .ref x), (1, .int (nI i))] := hl
  have hP : va_P (dC, dI) vwCl ([(x, .inr (4, [.ref xs, .ref xp, .int (nI ns), .int (nI np), .ref xl, .ref xr])), (xs, .inl (cS, 3, .inr (.inr (.inr (.inr sA))))), (xp, .inl (cP, 8, .inr (.inr (.inr (.inr pA))))), (xl, .inr (0, [.ref xn, .ref xm])), (xn, .inl (cL, 64, .inr (.inl u))), (xm, .inl (cL, 64, .inr (.inl (fun _ => 0)))), (xr, .inr (2, [.ref xw, .ref xt])), (xw, .inl (cL, 8, .inr (.inl w))), (xt, .inl (cL, 8, .inr (.inl t)))] ++ va_pl L f) s.heap := hP
  obtain ⟨hns3, hnp8, hbS, hbP, hiS, hiP, hiE⟩ := id hbn
  refine lv_aload_n hx hb dX4_alone_0 rfl (lv_at hl 0 rfl) ?_
  refine lv_iload_n hx hb dX4_alone_1 rfl (lv_at hl 1 rfl) ?_
  have hPc : va_P (dC, dI) vwCl ([(x, .inr (4, [.ref xs, .ref xp, .int (nI ns), .int (nI np), .ref xl, .ref xr])), (xs, .inl (cS, 3, .inr (.inr (.inr (.inr sA))))), (xp, .inl (cP, 8, .inr (.inr (.inr (.inr pA))))), (xl, .inr (0, [.ref xn, .ref xm])), (xn, .inl (cL, 64, .inr (.inl u))), (xm, .inl (cL, 64, .inr (.inl (fun _ => 0)))), (xr, .inr (2, [.ref xw, .ref xt])), (xw, .inl (cL, 8, .inr (.inl w))), (xt, .inl (cL, 8, .inr (.inl t)))] ++ va_pl L f) s.heap := hP.part [0, 1, 2, 3, 4, 5, 6, 7, 8] rfl
  have hKc := hK.sub (tys' := [(cS, .object "Diffractory$Source"), (cP, .object "Diffractory$Part"), (cL, .long), (cI, .int)]) [0, 1, 2, 3] rfl
  refine va_callq (va_runV (As := [.int (nI i)]) (rest := []) ⟨hx, hb, hml, hown, hts⟩ (c_X4_sourceAt l dC dI x xs xp xl xn xm xr xw xt cS cP cL cI ta u w t L f sA pA sd pd ed S P ns np i hbn (by omega)) (cwV 1 hts gX4_alone_X4_sourceAt rfl rfl rfl (by decide +kernel) ⟨Nat.le_of_ble_eq_true rfl, Nat.le_of_ble_eq_true rfl⟩) ⟨ax_fbR, va_recv hK hP (ci := 4) (q0 := 0) rfl rfl, ax_prR hPc hKc hS hE⟩ rfl rfl hl.1 rfl (lv_room (Nat.le_of_ble_eq_true rfl)) dX4_alone_2 ⟨Nat.le_of_ble_eq_true rfl, Nat.le_of_ble_eq_true rfl⟩) hS (fun _ _ h9 => h9.elim) (fun _ h9 => h9.elim) (fun r_1 u_3 t8 H locs ht hvm hw_2 hB hz1 hk1 hS => ?_)
  have hP := ax_keep hP (fun _ h9 => h9) hk1
  obtain ⟨hoks, hsA, hsL, hfs⟩ := hbS i (by omega)
  obtain ⟨hpl8, hph8, hs1, hs9⟩ := id hoks
  refine W.eq (g2 := F0 m 5 ls [.ref (sd i)]) (by rw [hw_2]; rfl) ?_
  refine lv_astore_n (lv' := [(2, .ref (sd i)), (0, .ref x), (1, .int (nI i))]) hx hb dX4_alone_5 rfl hl (by decide) rfl (fun ls hl => ?_)
  refine lv_aload_n hx hb dX4_alone_6 rfl (lv_at hl 0 rfl) ?_
  refine lv_ifnonnull (tgt := 20) hx hb dX4_alone_7 (by decide) ?_
  refine lv_aload_n hx hb dX4_alone_20 rfl (lv_at hl 1 rfl) ?_
  refine lv_aload_n hx hb dX4_alone_21 rfl (lv_at hl 0 rfl) ?_
  refine lv_aload_n hx hb dX4_alone_22 rfl (lv_at hl 1 rfl) ?_
  refine va_get (D := (dC, dI)) (ci := 4) (v := .int (nI np)) (C := RX4) (T := TX4) (N := 6) hx hb hts (by decide +kernel) hown hK hP 0 rfl rfl 3 (by decide) (hts (.fieldLink RX4 39 "Diffractory" "partCount" "I") (by decide +kernel)) (fun _ h9 => h9) rfl dX4_alone_23 ?_
  refine lv_iconst (v := 1) hx hb dX4_alone_26 (by decide) ?_
  refine lv_isub hx hb dX4_alone_27 ?_
  have hPc : va_P (dC, dI) vwCl ([(x, .inr (4, [.ref xs, .ref xp, .int (nI ns), .int (nI np), .ref xl, .ref xr])), (xs, .inl (cS, 3, .inr (.inr (.inr (.inr sA))))), (xp, .inl (cP, 8, .inr (.inr (.inr (.inr pA))))), (xl, .inr (0, [.ref xn, .ref xm])), (xn, .inl (cL, 64, .inr (.inl u))), (xm, .inl (cL, 64, .inr (.inl (fun _ => 0)))), (xr, .inr (2, [.ref xw, .ref xt])), (xw, .inl (cL, 8, .inr (.inl w))), (xt, .inl (cL, 8, .inr (.inl t)))] ++ va_pl L f) H := hP.part [0, 1, 2, 3, 4, 5, 6, 7, 8] rfl
  have hKc := hK.sub (tys' := [(cS, .object "Diffractory$Source"), (cP, .object "Diffractory$Part"), (cL, .long), (cI, .int)]) [0, 1, 2, 3] rfl
  have hDc : va_D A ([(x, .inr (4, [.ref xs, .ref xp, .int (nI ns), .int (nI np), .ref xl, .ref xr])), (xs, .inl (cS, 3, .inr (.inr (.inr (.inr sA))))), (xp, .inl (cP, 8, .inr (.inr (.inr (.inr pA))))), (xl, .inr (0, [.ref xn, .ref xm])), (xn, .inl (cL, 64, .inr (.inl u))), (xm, .inl (cL, 64, .inr (.inl (fun _ => 0)))), (xr, .inr (2, [.ref xw, .ref xt])), (xw, .inl (cL, 8, .inr (.inl w))), (xt, .inl (cL, 8, .inr (.inl t)))] ++ va_pl L f) := hD.part [0, 1, 2, 3, 4, 5, 6, 7, 8] (by decide) rfl
  have hFc : ∀ q, va_A ([(x, .inr (4, [.ref xs, .ref xp, .int (nI ns), .int (nI np), .ref xl, .ref xr])), (xs, .inl (cS, 3, .inr (.inr (.inr (.inr sA))))), (xp, .inl (cP, 8, .inr (.inr (.inr (.inr pA))))), (xl, .inr (0, [.ref xn, .ref xm])), (xn, .inl (cL, 64, .inr (.inl u))), (xm, .inl (cL, 64, .inr (.inl (fun _ => 0)))), (xr, .inr (2, [.ref xw, .ref xt])), (xw, .inl (cL, 8, .inr (.inl w))), (xt, .inl (cL, 8, .inr (.inl t)))] ++ va_pl L f) H.size q → A q := va_freeP hD hS hA [0, 1, 2, 3, 4, 5, 6, 7, 8] rfl
  refine va_callv (va_runV (As := [.ref (sd i), .int ((nI np) - 1)]) (rest := []) ⟨hx, hb, hml, hown, hts⟩ (c_X4_shineOne l dC dI x xs xp xl xn xm xr xw xt cS cP cL cI ta H.size u w t L f sA pA sd pd ed S P ns np (sd i) (S i) ((nI np) - 1) np hbn hsL hfs hoks (ax_m1T (by omega)) (Nat.le_refl _)) (cwV 2 hts gX4_alone_X4_shineOne rfl rfl rfl (by decide +kernel) ⟨Nat.le_of_ble_eq_true rfl, Nat.le_of_ble_eq_true rfl⟩) ⟨ax_fbW, va_recv hK hP (ci := 4) (q0 := 0) rfl rfl, ax_prW hPc hKc hDc hS hFc hE⟩ rfl rfl hl.1 rfl (lv_room (Nat.le_of_ble_eq_true rfl)) dX4_alone_28 ⟨Nat.le_of_ble_eq_true rfl, Nat.le_of_ble_eq_true rfl⟩) hS (fun q _ h9 => hFc q h9) hFc (fun u_6 t8 H locs ht hvm hw_5 hB hz1 hk1 hS => ?_)
  obtain ⟨n1_7, m1_8⟩ := u_6
  obtain ⟨hP1, hK1, hD1⟩ := hB
  rw [ht] at hP1
  have hK1 := va_K.moved hvm.symm hK1
  obtain ⟨hP, hD⟩ := va_joinP (X := [(x, .inr (4, [.ref xs, .ref xp, .int (nI ns), .int (nI np), .ref xl, .ref xr])), (xs, .inl (cS, 3, .inr (.inr (.inr (.inr sA))))), (xp, .inl (cP, 8, .inr (.inr (.inr (.inr pA))))), (xl, .inr (0, [.ref xn, .ref xm])), (xn, .inl (cL, 64, .inr (.inl u))), (xm, .inl (cL, 64, .inr (.inl (fun _ => 0)))), (xr, .inr (2, [.ref xw, .ref xt])), (xw, .inl (cL, 8, .inr (.inl w))), (xt, .inl (cL, 8, .inr (.inl t)))]) (cx := [(x, .inr (4, [.ref xs, .ref xp, .int (nI ns), .int (nI np), .ref xl, .ref xr])), (xs, .inl (cS, 3, .inr (.inr (.inr (.inr sA))))), (xp, .inl (cP, 8, .inr (.inr (.inr (.inr pA))))), (xl, .inr (0, [.ref xn, .ref xm])), (xn, .inl (cL, 64, .inr (.inl u))), (xm, .inl (cL, 64, .inr (.inl (fun _ => 0)))), (xr, .inr (2, [.ref xw, .ref xt])), (xw, .inl (cL, 8, .inr (.inl w))), (xt, .inl (cL, 8, .inr (.inl t)))]) (wr := []) (rx := [(x, .inr (4, [.ref xs, .ref xp, .int (nI ns), .int (nI np), .ref xl, .ref xr])), (xs, .inl (cS, 3, .inr (.inr (.inr (.inr sA))))), (xp, .inl (cP, 8, .inr (.inr (.inr (.inr pA))))), (xl, .inr (0, [.ref n1_7, .ref m1_8])), (n1_7, .inl (cL, 64, .inr (.inl (ltN (S i) P np)))), (m1_8, .inl (cL, 64, .inr (.inl (fun _ => 0)))), (xr, .inr (2, [.ref xw, .ref xt])), (xw, .inl (cL, 8, .inr (.inl w))), (xt, .inl (cL, 8, .inr (.inl t)))]) (pl := va_pl L f) (pl1 := va_pl L f) hP hD [0, 1, 2, 3, 4, 5, 6, 7, 8] [] rfl rfl (by decide) (by decide) hk1 hFc hP1 hD1
  have hP : va_P (dC, dI) vwCl ([(x, .inr (4, [.ref xs, .ref xp, .int (nI ns), .int (nI np), .ref xl, .ref xr])), (xs, .inl (cS, 3, .inr (.inr (.inr (.inr sA))))), (xp, .inl (cP, 8, .inr (.inr (.inr (.inr pA))))), (xl, .inr (0, [.ref n1_7, .ref m1_8])), (n1_7, .inl (cL, 64, .inr (.inl (ltN (S i) P np)))), (m1_8, .inl (cL, 64, .inr (.inl (fun _ => 0)))), (xr, .inr (2, [.ref xw, .ref xt])), (xw, .inl (cL, 8, .inr (.inl w))), (xt, .inl (cL, 8, .inr (.inl t)))] ++ va_pl L f) H := hP
  have hD : va_D A ([(x, .inr (4, [.ref xs, .ref xp, .int (nI ns), .int (nI np), .ref xl, .ref xr])), (xs, .inl (cS, 3, .inr (.inr (.inr (.inr sA))))), (xp, .inl (cP, 8, .inr (.inr (.inr (.inr pA))))), (xl, .inr (0, [.ref n1_7, .ref m1_8])), (n1_7, .inl (cL, 64, .inr (.inl (ltN (S i) P np)))), (m1_8, .inl (cL, 64, .inr (.inl (fun _ => 0)))), (xr, .inr (2, [.ref xw, .ref xt])), (xw, .inl (cL, 8, .inr (.inl w))), (xt, .inl (cL, 8, .inr (.inl t)))] ++ va_pl L f) := hD
  refine lv_aload_n hx hb dX4_alone_31 rfl (lv_at hl 1 rfl) ?_
  refine va_get (D := (dC, dI)) (ci := 4) (v := .ref xr) (C := RX4) (T := TX4) (N := 6) hx hb hts (by decide +kernel) hown hK hP 0 rfl rfl 5 (by decide) (hts (.fieldLink RX4 31 "Diffractory" "row" "LDiffractory$Row;") (by decide +kernel)) (fun _ h9 => h9) rfl dX4_alone_32 ?_
  have hPc := hP.sub (ws' := [(xr, .inr (2, [.ref xw, .ref xt])), (xw, .inl (cL, 8, .inr (.inl w))), (xt, .inl (cL, 8, .inr (.inl t)))]) [6, 7, 8] rfl
  have hKc := hK.sub (tys' := [(cL, .long)]) [2] rfl
  have hDc := hD.sub (ws' := [(xr, .inr (2, [.ref xw, .ref xt])), (xw, .inl (cL, 8, .inr (.inl w))), (xt, .inl (cL, 8, .inr (.inl t)))]) [6, 7, 8] (by decide) rfl
  have hFc := va_free (wc := [(xr, .inr (2, [.ref xw, .ref xt])), (xw, .inl (cL, 8, .inr (.inl w))), (xt, .inl (cL, 8, .inr (.inl t)))]) hD hS hA [6, 7, 8] rfl
  refine va_callv (va_runV (As := []) (rest := []) ⟨hx, hb, hml, hown, hts⟩ (c_X2_wipe l dC dI xr xw xt cL ta H.size w t) (cwV 0 hts gX4_alone_X2_wipe rfl rfl rfl (by decide +kernel) ⟨Nat.le_of_ble_eq_true rfl, Nat.le_of_ble_eq_true rfl⟩) ⟨ax_fbW, va_recv hK hP (ci := 2) (q0 := 6) rfl rfl, ax_prW hPc hKc hDc hS hFc hE⟩ rfl rfl hl.1 rfl (lv_room (Nat.le_of_ble_eq_true rfl)) dX4_alone_35 ⟨Nat.le_of_ble_eq_true rfl, Nat.le_of_ble_eq_true rfl⟩) hS (fun q _ h9 => hFc q h9) hFc (fun u_12 t8 H locs ht hvm hw_11 hB hz1 hk1 hS => ?_)
  obtain ⟨hP1, hK1, hD1⟩ := hB
  rw [ht] at hP1
  have hK1 := va_K.moved hvm.symm hK1
  obtain ⟨hP, hD⟩ := va_joinQ (X := [(x, .inr (4, [.ref xs, .ref xp, .int (nI ns), .int (nI np), .ref xl, .ref xr])), (xs, .inl (cS, 3, .inr (.inr (.inr (.inr sA))))), (xp, .inl (cP, 8, .inr (.inr (.inr (.inr pA))))), (xl, .inr (0, [.ref n1_7, .ref m1_8])), (n1_7, .inl (cL, 64, .inr (.inl (ltN (S i) P np)))), (m1_8, .inl (cL, 64, .inr (.inl (fun _ => 0)))), (xr, .inr (2, [.ref xw, .ref xt])), (xw, .inl (cL, 8, .inr (.inl w))), (xt, .inl (cL, 8, .inr (.inl t)))]) (cx := [(xr, .inr (2, [.ref xw, .ref xt])), (xw, .inl (cL, 8, .inr (.inl w))), (xt, .inl (cL, 8, .inr (.inl t)))]) (wr := [(x, .inr (4, [.ref xs, .ref xp, .int (nI ns), .int (nI np), .ref xl, .ref xr])), (xs, .inl (cS, 3, .inr (.inr (.inr (.inr sA))))), (xp, .inl (cP, 8, .inr (.inr (.inr (.inr pA))))), (xl, .inr (0, [.ref n1_7, .ref m1_8])), (n1_7, .inl (cL, 64, .inr (.inl (ltN (S i) P np)))), (m1_8, .inl (cL, 64, .inr (.inl (fun _ => 0))))]) (w1 := [(xr, .inr (2, [.ref xw, .ref xt])), (xw, .inl (cL, 8, .inr (.inl (fun _ => 0)))), (xt, .inl (cL, 8, .inr (.inl (fun _ => 0))))]) (pl := va_pl L f) hP hD [6, 7, 8] [0, 1, 2, 3, 4, 5] rfl rfl (by decide) (by decide) hk1 hFc hP1 hD1
  have hP : va_P (dC, dI) vwCl ([(x, .inr (4, [.ref xs, .ref xp, .int (nI ns), .int (nI np), .ref xl, .ref xr])), (xs, .inl (cS, 3, .inr (.inr (.inr (.inr sA))))), (xp, .inl (cP, 8, .inr (.inr (.inr (.inr pA))))), (xl, .inr (0, [.ref n1_7, .ref m1_8])), (n1_7, .inl (cL, 64, .inr (.inl (ltN (S i) P np)))), (m1_8, .inl (cL, 64, .inr (.inl (fun _ => 0)))), (xr, .inr (2, [.ref xw, .ref xt])), (xw, .inl (cL, 8, .inr (.inl (fun _ => 0)))), (xt, .inl (cL, 8, .inr (.inl (fun _ => 0))))] ++ va_pl L f) H := hP
  have hD : va_D A ([(x, .inr (4, [.ref xs, .ref xp, .int (nI ns), .int (nI np), .ref xl, .ref xr])), (xs, .inl (cS, 3, .inr (.inr (.inr (.inr sA))))), (xp, .inl (cP, 8, .inr (.inr (.inr (.inr pA))))), (xl, .inr (0, [.ref n1_7, .ref m1_8])), (n1_7, .inl (cL, 64, .inr (.inl (ltN (S i) P np)))), (m1_8, .inl (cL, 64, .inr (.inl (fun _ => 0)))), (xr, .inr (2, [.ref xw, .ref xt])), (xw, .inl (cL, 8, .inr (.inl (fun _ => 0)))), (xt, .inl (cL, 8, .inr (.inl (fun _ => 0))))] ++ va_pl L f) := hD
  refine lv_aload_n hx hb dX4_alone_38 rfl (lv_at hl 1 rfl) ?_
  refine va_get (D := (dC, dI)) (ci := 4) (v := .ref xr) (C := RX4) (T := TX4) (N := 6) hx hb hts (by decide +kernel) hown hK hP 0 rfl rfl 5 (by decide) (hts (.fieldLink RX4 31 "Diffractory" "row" "LDiffractory$Row;") (by decide +kernel)) (fun _ h9 => h9) rfl dX4_alone_39 ?_
  refine lv_aload_n hx hb dX4_alone_42 rfl (lv_at hl 1 rfl) ?_
  refine va_get (D := (dC, dI)) (ci := 4) (v := .ref xl) (C := RX4) (T := TX4) (N := 6) hx hb hts (by decide +kernel) hown hK hP 0 rfl rfl 4 (by decide) (hts (.fieldLink RX4 24 "Diffractory" "light" "LDiffractory$Light;") (by decide +kernel)) (fun _ h9 => h9) rfl dX4_alone_43 ?_
  have hPc := hP.sub (ws' := [(xr, .inr (2, [.ref xw, .ref xt])), (xw, .inl (cL, 8, .inr (.inl (fun _ => 0)))), (xt, .inl (cL, 8, .inr (.inl (fun _ => 0)))), (xl, .inr (0, [.ref n1_7, .ref m1_8])), (n1_7, .inl (cL, 64, .inr (.inl (ltN (S i) P np)))), (m1_8, .inl (cL, 64, .inr (.inl (fun _ => 0))))]) [6, 7, 8, 3, 4, 5] rfl
  have hKc := hK.sub (tys' := [(cL, .long)]) [2] rfl
  have hDc := hD.sub (ws' := [(xr, .inr (2, [.ref xw, .ref xt])), (xw, .inl (cL, 8, .inr (.inl (fun _ => 0)))), (xt, .inl (cL, 8, .inr (.inl (fun _ => 0)))), (xl, .inr (0, [.ref n1_7, .ref m1_8])), (n1_7, .inl (cL, 64, .inr (.inl (ltN (S i) P np)))), (m1_8, .inl (cL, 64, .inr (.inl (fun _ => 0))))]) [6, 7, 8, 3, 4, 5] (by decide) rfl
  have hFc := va_free (wc := [(xr, .inr (2, [.ref xw, .ref xt])), (xw, .inl (cL, 8, .inr (.inl (fun _ => 0)))), (xt, .inl (cL, 8, .inr (.inl (fun _ => 0)))), (xl, .inr (0, [.ref n1_7, .ref m1_8])), (n1_7, .inl (cL, 64, .inr (.inl (ltN (S i) P np)))), (m1_8, .inl (cL, 64, .inr (.inl (fun _ => 0))))]) hD hS hA [6, 7, 8, 3, 4, 5] rfl
  refine va_callv (va_runV (As := [.ref xl]) (rest := []) ⟨hx, hb, hml, hown, hts⟩ (c_X2_add l dC dI xr xw xt xl n1_7 m1_8 cL ta H.size (fun _ => 0) (fun _ => 0) (ltN (S i) P np) (fun _ => 0)) (cwV 1 hts gX4_alone_X2_add rfl rfl rfl (by decide +kernel) ⟨Nat.le_of_ble_eq_true rfl, Nat.le_of_ble_eq_true rfl⟩) ⟨ax_fbW, va_recv hK hP (ci := 2) (q0 := 6) rfl rfl, ax_prW hPc hKc hDc hS hFc hE⟩ rfl rfl hl.1 rfl (lv_room (Nat.le_of_ble_eq_true rfl)) dX4_alone_46 ⟨Nat.le_of_ble_eq_true rfl, Nat.le_of_ble_eq_true rfl⟩) hS (fun q _ h9 => hFc q h9) hFc (fun u_16 t8 H locs ht hvm hw_15 hB hz1 hk1 hS => ?_)
  obtain ⟨hP1, hK1, hD1⟩ := hB
  rw [ht] at hP1
  have hK1 := va_K.moved hvm.symm hK1
  obtain ⟨hP, hD⟩ := va_joinQ (X := [(x, .inr (4, [.ref xs, .ref xp, .int (nI ns), .int (nI np), .ref xl, .ref xr])), (xs, .inl (cS, 3, .inr (.inr (.inr (.inr sA))))), (xp, .inl (cP, 8, .inr (.inr (.inr (.inr pA))))), (xl, .inr (0, [.ref n1_7, .ref m1_8])), (n1_7, .inl (cL, 64, .inr (.inl (ltN (S i) P np)))), (m1_8, .inl (cL, 64, .inr (.inl (fun _ => 0)))), (xr, .inr (2, [.ref xw, .ref xt])), (xw, .inl (cL, 8, .inr (.inl (fun _ => 0)))), (xt, .inl (cL, 8, .inr (.inl (fun _ => 0))))]) (cx := [(xr, .inr (2, [.ref xw, .ref xt])), (xw, .inl (cL, 8, .inr (.inl (fun _ => 0)))), (xt, .inl (cL, 8, .inr (.inl (fun _ => 0)))), (xl, .inr (0, [.ref n1_7, .ref m1_8])), (n1_7, .inl (cL, 64, .inr (.inl (ltN (S i) P np)))), (m1_8, .inl (cL, 64, .inr (.inl (fun _ => 0))))]) (wr := [(x, .inr (4, [.ref xs, .ref xp, .int (nI ns), .int (nI np), .ref xl, .ref xr])), (xs, .inl (cS, 3, .inr (.inr (.inr (.inr sA))))), (xp, .inl (cP, 8, .inr (.inr (.inr (.inr pA)))))]) (w1 := [(xr, .inr (2, [.ref xw, .ref xt])), (xw, .inl (cL, 8, .inr (.inl (fun j => (fun _ => 0) j + whR (ltN (S i) P np) j 8)))), (xt, .inl (cL, 8, .inr (.inl (fun j => (fun _ => 0) j + rtt (ltN (S i) P np) j)))), (xl, .inr (0, [.ref n1_7, .ref m1_8])), (n1_7, .inl (cL, 64, .inr (.inl (ltN (S i) P np)))), (m1_8, .inl (cL, 64, .inr (.inl (fun _ => 0))))]) (pl := va_pl L f) hP hD [6, 7, 8, 3, 4, 5] [0, 1, 2] rfl rfl (by decide) (by decide) hk1 hFc hP1 hD1
  have hP : va_P (dC, dI) vwCl ([(x, .inr (4, [.ref xs, .ref xp, .int (nI ns), .int (nI np), .ref xl, .ref xr])), (xs, .inl (cS, 3, .inr (.inr (.inr (.inr sA))))), (xp, .inl (cP, 8, .inr (.inr (.inr (.inr pA))))), (xr, .inr (2, [.ref xw, .ref xt])), (xw, .inl (cL, 8, .inr (.inl (fun j => (fun _ => 0) j + whR (ltN (S i) P np) j 8)))), (xt, .inl (cL, 8, .inr (.inl (fun j => (fun _ => 0) j + rtt (ltN (S i) P np) j)))), (xl, .inr (0, [.ref n1_7, .ref m1_8])), (n1_7, .inl (cL, 64, .inr (.inl (ltN (S i) P np)))), (m1_8, .inl (cL, 64, .inr (.inl (fun _ => 0))))] ++ va_pl L f) H := hP
  have hD : va_D A ([(x, .inr (4, [.ref xs, .ref xp, .int (nI ns), .int (nI np), .ref xl, .ref xr])), (xs, .inl (cS, 3, .inr (.inr (.inr (.inr sA))))), (xp, .inl (cP, 8, .inr (.inr (.inr (.inr pA))))), (xr, .inr (2, [.ref xw, .ref xt])), (xw, .inl (cL, 8, .inr (.inl (fun j => (fun _ => 0) j + whR (ltN (S i) P np) j 8)))), (xt, .inl (cL, 8, .inr (.inl (fun j => (fun _ => 0) j + rtt (ltN (S i) P np) j)))), (xl, .inr (0, [.ref n1_7, .ref m1_8])), (n1_7, .inl (cL, 64, .inr (.inl (ltN (S i) P np)))), (m1_8, .inl (cL, 64, .inr (.inl (fun _ => 0))))] ++ va_pl L f) := hD
  refine lv_aload_n hx hb dX4_alone_49 rfl (lv_at hl 1 rfl) ?_
  refine va_get (D := (dC, dI)) (ci := 4) (v := .ref xr) (C := RX4) (T := TX4) (N := 6) hx hb hts (by decide +kernel) hown hK hP 0 rfl rfl 5 (by decide) (hts (.fieldLink RX4 31 "Diffractory" "row" "LDiffractory$Row;") (by decide +kernel)) (fun _ h9 => h9) rfl dX4_alone_50 ?_
  have hPc := hP.sub (ws' := [(xr, .inr (2, [.ref xw, .ref xt])), (xw, .inl (cL, 8, .inr (.inl (fun j => (fun _ => 0) j + whR (ltN (S i) P np) j 8)))), (xt, .inl (cL, 8, .inr (.inl (fun j => (fun _ => 0) j + rtt (ltN (S i) P np) j))))]) [3, 4, 5] rfl
  have hKc := hK.sub (tys' := [(cL, .long)]) [2] rfl
  refine va_calli (va_runV (As := []) (rest := []) ⟨hx, hb, hml, hown, hts⟩ (c_X2_placeOfGreatest l dC dI xr xw xt cL ta (fun j => (fun _ => 0) j + whR (ltN (S i) P np) j 8) (fun j => (fun _ => 0) j + rtt (ltN (S i) P np) j)) (cwV 0 hts gX4_alone_X2_placeOfGreatest rfl rfl rfl (by decide +kernel) ⟨Nat.le_of_ble_eq_true rfl, Nat.le_of_ble_eq_true rfl⟩) ⟨ax_fbR, va_recv hK hP (ci := 2) (q0 := 3) rfl rfl, ax_prR hPc hKc hS hE⟩ rfl rfl hl.1 rfl (lv_room (Nat.le_of_ble_eq_true rfl)) dX4_alone_53 ⟨Nat.le_of_ble_eq_true rfl, Nat.le_of_ble_eq_true rfl⟩) hS (fun _ _ h9 => h9.elim) (fun _ h9 => h9.elim) (fun r_18 u_20 t8 H locs ht hvm hw_19 hB hz1 hk1 hS => ?_)
  have hP := ax_keep hP (fun _ h9 => h9) hk1
  have hw_19 : r_18 = (nI (pgR (fun j => (fun _ => 0) j + whR (ltN (S i) P np) j 8) (fun j => (fun _ => 0) j + rtt (ltN (S i) P np) j) 8)) := hw_19
  refine ax_i (y := (nI (pgR (fun j => (fun _ => 0) j + whR (ltN (S i) P np) j 8) (fun j => (fun _ => 0) j + rtt (ltN (S i) P np) j) 8))) hw_19 ?_
  refine W.widen (k := 0) (n := 0) (Nat.le_of_ble_eq_true rfl) (Nat.le_of_ble_eq_true rfl) ?_
  have hP9 : va_P (dC, dI) vwCl ([(x, .inr (4, [.ref xs, .ref xp, .int (nI ns), .int (nI np), .ref xl, .ref xr])), (xs, .inl (cS, 3, .inr (.inr (.inr (.inr sA))))), (xp, .inl (cP, 8, .inr (.inr (.inr (.inr pA))))), (xl, .inr (0, [.ref n1_7, .ref m1_8])), (n1_7, .inl (cL, 64, .inr (.inl (ltN (S i) P np)))), (m1_8, .inl (cL, 64, .inr (.inl (fun _ => 0)))), (xr, .inr (2, [.ref xw, .ref xt])), (xw, .inl (cL, 8, .inr (.inl (fun j => (fun _ => 0) j + whR (ltN (S i) P np) j 8)))), (xt, .inl (cL, 8, .inr (.inl (fun j => (fun _ => 0) j + rtt (ltN (S i) P np) j))))] ++ va_pl L f) H := hP.part [0, 1, 2, 6, 7, 8, 3, 4, 5] rfl
  have hD9 : va_D A ([(x, .inr (4, [.ref xs, .ref xp, .int (nI ns), .int (nI np), .ref xl, .ref xr])), (xs, .inl (cS, 3, .inr (.inr (.inr (.inr sA))))), (xp, .inl (cP, 8, .inr (.inr (.inr (.inr pA))))), (xl, .inr (0, [.ref n1_7, .ref m1_8])), (n1_7, .inl (cL, 64, .inr (.inl (ltN (S i) P np)))), (m1_8, .inl (cL, 64, .inr (.inl (fun _ => 0)))), (xr, .inr (2, [.ref xw, .ref xt])), (xw, .inl (cL, 8, .inr (.inl (fun j => (fun _ => 0) j + whR (ltN (S i) P np) j 8)))), (xt, .inl (cL, 8, .inr (.inl (fun j => (fun _ => 0) j + rtt (ltN (S i) P np) j))))] ++ va_pl L f) := hD.part [0, 1, 2, 6, 7, 8, 3, 4, 5] (by decide) rfl
  have hK9 := hK.sub (tys' := [(cS, .object "Diffractory$Source"), (cP, .object "Diffractory$Part"), (cL, .long), (cI, .int)]) [0, 1, 2, 3] rfl
  exact W.iret (v := (nI (pgR (fun j => (fun _ => 0) j + whR (ltN (S i) P np) j 8) (fun j => (fun _ => 0) j + rtt (ltN (S i) P np) j) 8))) hx hb hr (fun t8 ht hW => ⟨⟨(nI (pgR (fun j => (fun _ => 0) j + whR (ltN (S i) P np) j 8) (fun j => (fun _ => 0) j + rtt (ltN (S i) P np) j) 8)), (n1_7, m1_8, (ltN (S i) P np), (fun j => (fun _ => 0) j + whR (ltN (S i) P np) j 8), (fun j => (fun _ => 0) j + rtt (ltN (S i) P np) j)), rfl, rfl, by rw [ht]; exact hP9, va_K.moved hW.alike hK9, hD9⟩, hS.F ht⟩) hS.2.2 dX4_alone_56
