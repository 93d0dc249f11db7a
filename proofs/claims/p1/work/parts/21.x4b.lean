set_option maxHeartbeats 4000000 in
set_option maxRecDepth 100000 in
theorem c_X4_sourceAt (l : Launch) (dC : Nat → ClassId) (dI : Nat → Nat → Nat) (x xs xp xl xn xm xr xw xt : Nat) (cS cP cn cm cw ct : ClassId) (sa ta : Nat → Nat) (p0 : Int32) : Met l yX4_sourceAt wsX4_sourceAt ({ frames := 8, cells := 0, slots := 0, locals := 200 }) (va_Pc [.ref x, .int p0] (ax_R (dC, dI) vwCl [(x, .inr (8, [.ref xs, .ref xp, .int 0, .int 0, .ref xl, .ref xr])), (xs, .inl (cS, 3, .inr (.inr (.inr (.inr (fun _ => none)))))), (xp, .inl (cP, 8, .inr (.inr (.inr (.inr (fun _ => none)))))), (xl, .inr (4, [.ref xn, .ref xm])), (xn, .inl (cn, 64, .inr (.inl (fun _ => 0)))), (xm, .inl (cm, 64, .inr (.inl (fun _ => 0)))), (xr, .inr (6, [.ref xw, .ref xt])), (xw, .inl (cw, 8, .inr (.inl (fun _ => 0)))), (xt, .inl (ct, 8, .inr (.inl (fun _ => 0))))] [(cS, .object "Diffractory$Source"), (cP, .object "Diffractory$Part"), (cn, .long), (cm, .long), (cw, .long), (ct, .long)] sa ta)) (va_Qq (fun (r : Option Nat) (u : Unit) => r = none) (fun _ _ => True) ax_no) 0 0 ax_no := by
  refine Met.ofW (cc := cX4_sourceAt) (maxL := 2) (ret := (some (.object "Diffractory$Source"))) (by decide) rfl ?_
  intro p e s m args below meth c s₁ B hml hv
  obtain ⟨rfl, hP, hK, hE⟩ := hv
  have hx := B.exec
  have hb := B.bytes
  have hr := B.returns
  have hts := atoms_spec (ws := wsX4_sourceAt) B.pre
  have hown : s.vm.findClass RX4 = some m.cls := findClass_of_methodNamed B.named
  have hlocks := B.notSynchronized
  have hS : va_S ax_no s.heap s.heap [] := va_S.rf
  have hl := lv_entry ([.ref x, .int p0]) (n := 2) (Nat.le_of_ble_eq_true rfl)
  rw [lg_entry_eq]
  generalize (lg_sl ([.ref x, .int p0]) ++ List.replicate (2 - (lg_sl ([.ref x, .int p0])).length) Slot.unset).toArray = ls at hl ⊢
  have hl : lv_has ls 2 [(0, .ref x), (1, .int p0)] := hl
  have hP : va_P (dC, dI) vwCl [(x, .inr (8, [.ref xs, .ref xp, .int 0, .int 0, .ref xl, .ref xr])), (xs, .inl (cS, 3, .inr (.inr (.inr (.inr (fun _ => none)))))), (xp, .inl (cP, 8, .inr (.inr (.inr (.inr (fun _ => none)))))), (xl, .inr (4, [.ref xn, .ref xm])), (xn, .inl (cn, 64, .inr (.inl (fun _ => 0)))), (xm, .inl (cm, 64, .inr (.inl (fun _ => 0)))), (xr, .inr (6, [.ref xw, .ref xt])), (xw, .inl (cw, 8, .inr (.inl (fun _ => 0)))), (xt, .inl (ct, 8, .inr (.inl (fun _ => 0))))] s.heap := hP
  refine lv_iload_n hx hb dX4_sourceAt_0 rfl (lv_at hl 1 rfl) ?_
  refine lv_if_lt (tgt := 26) hx hb dX4_sourceAt_1 (by decide) (fun c_1 => ?_) (fun c_1 => ?_)
  · have c_1 : p0.toInt < 0 := (ax_lt _ _).mp c_1
    refine lv_null hx hb dX4_sourceAt_26 ?_
    refine W.widen (k := 0) (n := 0) (Nat.le_of_ble_eq_true rfl) (Nat.le_of_ble_eq_true rfl) ?_
    exact W.aret (v := .null) (rt := (.object "Diffractory$Source")) hx hb hr (by first | exact Or.inl ⟨_, rfl⟩ | exact Or.inr ⟨_, rfl⟩) (by first | exact Or.inl rfl | exact Or.inr ⟨_, rfl⟩) (fun t ht hW => ⟨⟨none, (), rfl, rfl, trivial⟩, hS.F ht⟩) hS.2.2 dX4_sourceAt_27
  · have c_1 : ¬ p0.toInt < 0 := fun h9 => c_1 ((ax_lt _ _).mpr h9)
    refine lv_iload_n hx hb dX4_sourceAt_4 rfl (lv_at hl 1 rfl) ?_
    refine lv_aload_n hx hb dX4_sourceAt_5 rfl (lv_at hl 0 rfl) ?_
    refine va_get (D := (dC, dI)) (ci := 8) (v := .int 0) (C := RX4) (T := TX4) (N := 6) hx hb hts (by decide +kernel) hown hK hP 0 rfl rfl 2 (by decide) (hts (.fieldLink RX4 35 "Diffractory" "sourceCount" "I") (by decide +kernel)) (fun _ h9 => h9) rfl dX4_sourceAt_6 ?_
    refine lv_icmp_ge (tgt := 26) hx hb dX4_sourceAt_9 (by decide) (fun c_2 => ?_) (fun c_2 => ?_)
    · have c_2 : 0 ≤ p0.toInt := (ax_le _ _).mp c_2
      refine lv_null hx hb dX4_sourceAt_26 ?_
      refine W.widen (k := 0) (n := 0) (Nat.le_of_ble_eq_true rfl) (Nat.le_of_ble_eq_true rfl) ?_
      exact W.aret (v := .null) (rt := (.object "Diffractory$Source")) hx hb hr (by first | exact Or.inl ⟨_, rfl⟩ | exact Or.inr ⟨_, rfl⟩) (by first | exact Or.inl rfl | exact Or.inr ⟨_, rfl⟩) (fun t ht hW => ⟨⟨none, (), rfl, rfl, trivial⟩, hS.F ht⟩) hS.2.2 dX4_sourceAt_27
    · have c_2 : ¬ 0 ≤ p0.toInt := fun h9 => c_2 ((ax_le _ _).mpr h9)
      exfalso
      omega

set_option maxHeartbeats 4000000 in
set_option maxRecDepth 100000 in
theorem c_X4_partAt (l : Launch) (dC : Nat → ClassId) (dI : Nat → Nat → Nat) (x xs xp xl xn xm xr xw xt : Nat) (cS cP cn cm cw ct : ClassId) (sa ta : Nat → Nat) (p0 : Int32) : Met l yX4_partAt wsX4_partAt ({ frames := 8, cells := 0, slots := 0, locals := 200 }) (va_Pc [.ref x, .int p0] (ax_R (dC, dI) vwCl [(x, .inr (8, [.ref xs, .ref xp, .int 0, .int 0, .ref xl, .ref xr])), (xs, .inl (cS, 3, .inr (.inr (.inr (.inr (fun _ => none)))))), (xp, .inl (cP, 8, .inr (.inr (.inr (.inr (fun _ => none)))))), (xl, .inr (4, [.ref xn, .ref xm])), (xn, .inl (cn, 64, .inr (.inl (fun _ => 0)))), (xm, .inl (cm, 64, .inr (.inl (fun _ => 0)))), (xr, .inr (6, [.ref xw, .ref xt])), (xw, .inl (cw, 8, .inr (.inl (fun _ => 0)))), (xt, .inl (ct, 8, .inr (.inl (fun _ => 0))))] [(cS, .object "Diffractory$Source"), (cP, .object "Diffractory$Part"), (cn, .long), (cm, .long), (cw, .long), (ct, .long)] sa ta)) (va_Qq (fun (r : Option Nat) (u : Unit) => r = none) (fun _ _ => True) ax_no) 0 0 ax_no := by
  refine Met.ofW (cc := cX4_partAt) (maxL := 2) (ret := (some (.object "Diffractory$Part"))) (by decide) rfl ?_
  intro p e s m args below meth c s₁ B hml hv
  obtain ⟨rfl, hP, hK, hE⟩ := hv
  have hx := B.exec
  have hb := B.bytes
  have hr := B.returns
  have hts := atoms_spec (ws := wsX4_partAt) B.pre
  have hown : s.vm.findClass RX4 = some m.cls := findClass_of_methodNamed B.named
  have hlocks := B.notSynchronized
  have hS : va_S ax_no s.heap s.heap [] := va_S.rf
  have hl := lv_entry ([.ref x, .int p0]) (n := 2) (Nat.le_of_ble_eq_true rfl)
  rw [lg_entry_eq]
  generalize (lg_sl ([.ref x, .int p0]) ++ List.replicate (2 - (lg_sl ([.ref x, .int p0])).length) Slot.unset).toArray = ls at hl ⊢
  have hl : lv_has ls 2 [(0, .ref x), (1, .int p0)] := hl
  have hP : va_P (dC, dI) vwCl [(x, .inr (8, [.ref xs, .ref xp, .int 0, .int 0, .ref xl, .ref xr])), (xs, .inl (cS, 3, .inr (.inr (.inr (.inr (fun _ => none)))))), (xp, .inl (cP, 8, .inr (.inr (.inr (.inr (fun _ => none)))))), (xl, .inr (4, [.ref xn, .ref xm])), (xn, .inl (cn, 64, .inr (.inl (fun _ => 0)))), (xm, .inl (cm, 64, .inr (.inl (fun _ => 0)))), (xr, .inr (6, [.ref xw, .ref xt])), (xw, .inl (cw, 8, .inr (.inl (fun _ => 0)))), (xt, .inl (ct, 8, .inr (.inl (fun _ => 0))))] s.heap := hP
  refine lv_iload_n hx hb dX4_partAt_0 rfl (lv_at hl 1 rfl) ?_
  refine lv_if_lt (tgt := 27) hx hb dX4_partAt_1 (by decide) (fun c_1 => ?_) (fun c_1 => ?_)
  · have c_1 : p0.toInt < 0 := (ax_lt _ _).mp c_1
    refine lv_null hx hb dX4_partAt_27 ?_
    refine W.widen (k := 0) (n := 0) (Nat.le_of_ble_eq_true rfl) (Nat.le_of_ble_eq_true rfl) ?_
    exact W.aret (v := .null) (rt := (.object "Diffractory$Part")) hx hb hr (by first | exact Or.inl ⟨_, rfl⟩ | exact Or.inr ⟨_, rfl⟩) (by first | exact Or.inl rfl | exact Or.inr ⟨_, rfl⟩) (fun t ht hW => ⟨⟨none, (), rfl, rfl, trivial⟩, hS.F ht⟩) hS.2.2 dX4_partAt_28
  · have c_1 : ¬ p0.toInt < 0 := fun h9 => c_1 ((ax_lt _ _).mpr h9)
    refine lv_iload_n hx hb dX4_partAt_4 rfl (lv_at hl 1 rfl) ?_
    refine lv_aload_n hx hb dX4_partAt_5 rfl (lv_at hl 0 rfl) ?_
    refine va_get (D := (dC, dI)) (ci := 8) (v := .int 0) (C := RX4) (T := TX4) (N := 6) hx hb hts (by decide +kernel) hown hK hP 0 rfl rfl 3 (by decide) (hts (.fieldLink RX4 39 "Diffractory" "partCount" "I") (by decide +kernel)) (fun _ h9 => h9) rfl dX4_partAt_6 ?_
    refine lv_icmp_ge (tgt := 27) hx hb dX4_partAt_9 (by decide) (fun c_2 => ?_) (fun c_2 => ?_)
    · have c_2 : 0 ≤ p0.toInt := (ax_le _ _).mp c_2
      refine lv_null hx hb dX4_partAt_27 ?_
      refine W.widen (k := 0) (n := 0) (Nat.le_of_ble_eq_true rfl) (Nat.le_of_ble_eq_true rfl) ?_
      exact W.aret (v := .null) (rt := (.object "Diffractory$Part")) hx hb hr (by first | exact Or.inl ⟨_, rfl⟩ | exact Or.inr ⟨_, rfl⟩) (by first | exact Or.inl rfl | exact Or.inr ⟨_, rfl⟩) (fun t ht hW => ⟨⟨none, (), rfl, rfl, trivial⟩, hS.F ht⟩) hS.2.2 dX4_partAt_28
    · have c_2 : ¬ 0 ≤ p0.toInt := fun h9 => c_2 ((ax_le _ _).mpr h9)
      exfalso
      omega

set_option maxHeartbeats 4000000 in
set_option maxRecDepth 100000 in
theorem c_X4_checkBehind (l : Launch) (hlt : l.stackTraces = false) (dC : Nat → ClassId) (dI : Nat → Nat → Nat) (x xs xp xl xn xm xr xw xt : Nat) (cS cP cn cm cw ct : ClassId) (sa ta : Nat → Nat) (p0 : Int32) : vx_Met l yX4_checkBehind wsX4_checkBehind ({ frames := 8, cells := 1, slots := 6, locals := 200 }) (va_Pc [.ref x, .int p0] (ax_R (dC, dI) vwCl [(x, .inr (8, [.ref xs, .ref xp, .int 0, .int 0, .ref xl, .ref xr])), (xs, .inl (cS, 3, .inr (.inr (.inr (.inr (fun _ => none)))))), (xp, .inl (cP, 8, .inr (.inr (.inr (.inr (fun _ => none)))))), (xl, .inr (4, [.ref xn, .ref xm])), (xn, .inl (cn, 64, .inr (.inl (fun _ => 0)))), (xm, .inl (cm, 64, .inr (.inl (fun _ => 0)))), (xr, .inr (6, [.ref xw, .ref xt])), (xw, .inl (cw, 8, .inr (.inl (fun _ => 0)))), (xt, .inl (ct, 8, .inr (.inl (fun _ => 0))))] [(cS, .object "Diffractory$Source"), (cP, .object "Diffractory$Part"), (cn, .long), (cm, .long), (cw, .long), (ct, .long)] sa ta)) (va_Qv (fun (u : Unit) => p0.toInt = -1) (fun _ _ => True) ax_no) (vx_X (fun _ : Unit => ¬ p0.toInt = -1) (fun E _ _ => E = "java/lang/IndexOutOfBoundsException") ax_no) 1 6 ax_no := by
  refine vx_ofW (cc := cX4_checkBehind) (maxL := 2) (ret := none) (by decide) rfl ?_
  intro p e s m args below meth c s₁ B hml hnt hv
  obtain ⟨rfl, hP, hK, hE⟩ := hv
  have hx := B.exec
  have hb := B.bytes
  have hr := B.returns
  have hts := atoms_spec (ws := wsX4_checkBehind) B.pre
  have hown : s.vm.findClass RX4 = some m.cls := findClass_of_methodNamed B.named
  have hlocks := B.notSynchronized
  have hS : va_S ax_no s.heap s.heap [] := va_S.rf
  have hl := lv_entry ([.ref x, .int p0]) (n := 2) (Nat.le_of_ble_eq_true rfl)
  rw [lg_entry_eq]
  generalize (lg_sl ([.ref x, .int p0]) ++ List.replicate (2 - (lg_sl ([.ref x, .int p0])).length) Slot.unset).toArray = ls at hl ⊢
  have hl : lv_has ls 2 [(0, .ref x), (1, .int p0)] := hl
  have hP : va_P (dC, dI) vwCl [(x, .inr (8, [.ref xs, .ref xp, .int 0, .int 0, .ref xl, .ref xr])), (xs, .inl (cS, 3, .inr (.inr (.inr (.inr (fun _ => none)))))), (xp, .inl (cP, 8, .inr (.inr (.inr (.inr (fun _ => none)))))), (xl, .inr (4, [.ref xn, .ref xm])), (xn, .inl (cn, 64, .inr (.inl (fun _ => 0)))), (xm, .inl (cm, 64, .inr (.inl (fun _ => 0)))), (xr, .inr (6, [.ref xw, .ref xt])), (xw, .inl (cw, 8, .inr (.inl (fun _ => 0)))), (xt, .inl (ct, 8, .inr (.inl (fun _ => 0))))] s.heap := hP
  refine lv_iload_n hx hb dX4_checkBehind_0 rfl (lv_at hl 1 rfl) ?_
  refine lv_iconst (v := (-1)) hx hb dX4_checkBehind_1 (by decide) ?_
  refine lv_icmp_lt (tgt := 13) hx hb dX4_checkBehind_2 (by decide) (fun c_1 => ?_) (fun c_1 => ?_)
  · have c_1 : p0.toInt < (-1) := (ax_lt _ _).mp c_1
    exact vx_throwS hx hb hlt (own := RX4) (cls := "java/lang/IndexOutOfBoundsException") (names := ["java/lang/RuntimeException", "java/lang/Exception"]) hown (by decide +kernel) (by decide +kernel) (hts (.classLink RX4 59 "java/lang/IndexOutOfBoundsException") (by decide +kernel)) (hts (.initialized "java/lang/IndexOutOfBoundsException") (by decide +kernel)) hE.s91 (ax_hat63 hE (fun w h9 => hts w (by first | exact List.mem_cons_of_mem _ (List.mem_append_right _ h9) | exact List.mem_cons_of_mem _ (List.mem_append_left _ (List.mem_append_right _ h9)) | exact List.mem_cons_of_mem _ (List.mem_append_left _ (List.mem_append_left _ (List.mem_append_right _ h9))) | exact List.mem_cons_of_mem _ (List.mem_append_left _ (List.mem_append_left _ (List.mem_append_left _ (List.mem_append_right _ h9)))) | exact List.mem_cons_of_mem _ (List.mem_append_left _ (List.mem_append_left _ (List.mem_append_left _ (List.mem_append_left _ (List.mem_append_right _ h9)))))))) ax_gd63 hE.zU hE.zN hS (hl.1.trans hml.symm) dX4_checkBehind_13 dX4_checkBehind_16 dX4_checkBehind_17 dX4_checkBehind_19 dX4_checkBehind_22 (fun x h9 => (hnt x h9).elim) (Nat.le_of_ble_eq_true rfl) (Nat.le_of_ble_eq_true rfl) (Nat.le_of_ble_eq_true rfl) (Nat.le_of_ble_eq_true rfl) hlocks (fun t hal hz1 hk1 => ⟨(), by first | trivial | omega, rfl, ax_vaF hS hz1 hk1⟩) hS.2.2 (Nat.le_of_ble_eq_true rfl) (Nat.le_of_ble_eq_true rfl)
  · have c_1 : ¬ p0.toInt < (-1) := fun h9 => c_1 ((ax_lt _ _).mpr h9)
    refine lv_iload_n hx hb dX4_checkBehind_5 rfl (lv_at hl 1 rfl) ?_
    refine lv_aload_n hx hb dX4_checkBehind_6 rfl (lv_at hl 0 rfl) ?_
    refine va_get (D := (dC, dI)) (ci := 8) (v := .int 0) (C := RX4) (T := TX4) (N := 6) hx hb hts (by decide +kernel) hown hK hP 0 rfl rfl 3 (by decide) (hts (.fieldLink RX4 39 "Diffractory" "partCount" "I") (by decide +kernel)) (fun _ h9 => h9) rfl dX4_checkBehind_7 ?_
    refine lv_icmp_lt (tgt := 23) hx hb dX4_checkBehind_10 (by decide) (fun c_2 => ?_) (fun c_2 => ?_)
    · have c_2 : p0.toInt < 0 := (ax_lt _ _).mp c_2
      refine W.widen (k := 1) (n := 6) (Nat.le_of_ble_eq_true rfl) (Nat.le_of_ble_eq_true rfl) ?_
      refine vx_ret ?_
      exact W.vret hx hb hr (fun t ht hW => ⟨⟨(), rfl, by omega, trivial⟩, hS.F ht⟩) hS.2.2 dX4_checkBehind_23
    · have c_2 : ¬ p0.toInt < 0 := fun h9 => c_2 ((ax_lt _ _).mpr h9)
      exact vx_throwS hx hb hlt (own := RX4) (cls := "java/lang/IndexOutOfBoundsException") (names := ["java/lang/RuntimeException", "java/lang/Exception"]) hown (by decide +kernel) (by decide +kernel) (hts (.classLink RX4 59 "java/lang/IndexOutOfBoundsException") (by decide +kernel)) (hts (.initialized "java/lang/IndexOutOfBoundsException") (by decide +kernel)) hE.s91 (ax_hat63 hE (fun w h9 => hts w (by first | exact List.mem_cons_of_mem _ (List.mem_append_right _ h9) | exact List.mem_cons_of_mem _ (List.mem_append_left _ (List.mem_append_right _ h9)) | exact List.mem_cons_of_mem _ (List.mem_append_left _ (List.mem_append_left _ (List.mem_append_right _ h9))) | exact List.mem_cons_of_mem _ (List.mem_append_left _ (List.mem_append_left _ (List.mem_append_left _ (List.mem_append_right _ h9)))) | exact List.mem_cons_of_mem _ (List.mem_append_left _ (List.mem_append_left _ (List.mem_append_left _ (List.mem_append_left _ (List.mem_append_right _ h9)))))))) ax_gd63 hE.zU hE.zN hS (hl.1.trans hml.symm) dX4_checkBehind_13 dX4_checkBehind_16 dX4_checkBehind_17 dX4_checkBehind_19 dX4_checkBehind_22 (fun x h9 => (hnt x h9).elim) (Nat.le_of_ble_eq_true rfl) (Nat.le_of_ble_eq_true rfl) (Nat.le_of_ble_eq_true rfl) (Nat.le_of_ble_eq_true rfl) hlocks (fun t hal hz1 hk1 => ⟨(), by first | trivial | omega, rfl, ax_vaF hS hz1 hk1⟩) hS.2.2 (Nat.le_of_ble_eq_true rfl) (Nat.le_of_ble_eq_true rfl)

set_option maxHeartbeats 4000000 in
set_option maxRecDepth 100000 in
theorem c_X4_countPartsIn (l : Launch) (dC : Nat → ClassId) (dI : Nat → Nat → Nat) (x xs xp xl xn xm xr xw xt : Nat) (cS cP cn cm cw ct : ClassId) (sa ta : Nat → Nat) : Met l yX4_countPartsIn wsX4_countPartsIn ({ frames := 8, cells := 0, slots := 0, locals := 200 }) (va_Pc [.ref x] (ax_R (dC, dI) vwCl [(x, .inr (8, [.ref xs, .ref xp, .int 0, .int 0, .ref xl, .ref xr])), (xs, .inl (cS, 3, .inr (.inr (.inr (.inr (fun _ => none)))))), (xp, .inl (cP, 8, .inr (.inr (.inr (.inr (fun _ => none)))))), (xl, .inr (4, [.ref xn, .ref xm])), (xn, .inl (cn, 64, .inr (.inl (fun _ => 0)))), (xm, .inl (cm, 64, .inr (.inl (fun _ => 0)))), (xr, .inr (6, [.ref xw, .ref xt])), (xw, .inl (cw, 8, .inr (.inl (fun _ => 0)))), (xt, .inl (ct, 8, .inr (.inl (fun _ => 0))))] [(cS, .object "Diffractory$Source"), (cP, .object "Diffractory$Part"), (cn, .long), (cm, .long), (cw, .long), (ct, .long)] sa ta)) (va_Qi (fun (r : Int32) (u : Unit) => r = 0) (fun _ _ => True) ax_no) 0 0 ax_no := by
  refine Met.ofW (cc := cX4_countPartsIn) (maxL := 4) (ret := (some .int)) (by decide) rfl ?_
  intro p e s m args below meth c s₁ B hml hv
  obtain ⟨rfl, hP, hK, hE⟩ := hv
  have hx := B.exec
  have hb := B.bytes
  have hr := B.returns
  have hts := atoms_spec (ws := wsX4_countPartsIn) B.pre
  have hown : s.vm.findClass RX4 = some m.cls := findClass_of_methodNamed B.named
  have hlocks := B.notSynchronized
  have hS : va_S ax_no s.heap s.heap [] := va_S.rf
  have hl := lv_entry ([.ref x]) (n := 4) (Nat.le_of_ble_eq_true rfl)
  rw [lg_entry_eq]
  generalize (lg_sl ([.ref x]) ++ List.replicate (4 - (lg_sl ([.ref x])).length) Slot.unset).toArray = ls at hl ⊢
  have hl : lv_has ls 4 [(0, .ref x)] := hl
  have hP : va_P (dC, dI) vwCl [(x, .inr (8, [.ref xs, .ref xp, .int 0, .int 0, .ref xl, .ref xr])), (xs, .inl (cS, 3, .inr (.inr (.inr (.inr (fun _ => none)))))), (xp, .inl (cP, 8, .inr (.inr (.inr (.inr (fun _ => none)))))), (xl, .inr (4, [.ref xn, .ref xm])), (xn, .inl (cn, 64, .inr (.inl (fun _ => 0)))), (xm, .inl (cm, 64, .inr (.inl (fun _ => 0)))), (xr, .inr (6, [.ref xw, .ref xt])), (xw, .inl (cw, 8, .inr (.inl (fun _ => 0)))), (xt, .inl (ct, 8, .inr (.inl (fun _ => 0))))] s.heap := hP
  refine lv_iconst (v := 0) hx hb dX4_countPartsIn_0 (by decide) ?_
  refine lv_istore_n (lv' := [(1, .int 0), (0, .ref x)]) hx hb dX4_countPartsIn_1 rfl hl (by decide) rfl (fun ls hl => ?_)
  refine lv_iconst (v := 0) hx hb dX4_countPartsIn_2 (by decide) ?_
  refine lv_istore_n (lv' := [(2, .int 0), (1, .int 0), (0, .ref x)]) hx hb dX4_countPartsIn_3 rfl hl (by decide) rfl (fun ls hl => ?_)
  refine lv_iload_n hx hb dX4_countPartsIn_4 rfl (lv_at hl 0 rfl) ?_
  refine lv_aload_n hx hb dX4_countPartsIn_5 rfl (lv_at hl 2 rfl) ?_
  refine va_get (D := (dC, dI)) (ci := 8) (v := .int 0) (C := RX4) (T := TX4) (N := 6) hx hb hts (by decide +kernel) hown hK hP 0 rfl rfl 3 (by decide) (hts (.fieldLink RX4 39 "Diffractory" "partCount" "I") (by decide +kernel)) (fun _ h9 => h9) rfl dX4_countPartsIn_6 ?_
  refine lv_icmp_ge (tgt := 38) hx hb dX4_countPartsIn_9 (by decide) (fun _ => ?_) (fun h9 => absurd (by decide) h9)
  refine lv_iload_n hx hb dX4_countPartsIn_38 rfl (lv_at hl 1 rfl) ?_
  refine W.widen (k := 0) (n := 0) (Nat.le_of_ble_eq_true rfl) (Nat.le_of_ble_eq_true rfl) ?_
  exact W.iret (v := 0) hx hb hr (fun t ht hW => ⟨⟨0, (), rfl, rfl, trivial⟩, hS.F ht⟩) hS.2.2 dX4_countPartsIn_39

set_option maxHeartbeats 4000000 in
set_option maxRecDepth 100000 in
theorem c_X4_firstThatCannotBeUndone (l : Launch) (dC : Nat → ClassId) (dI : Nat → Nat → Nat) (x xs xp xl xn xm xr xw xt : Nat) (cS cP cn cm cw ct : ClassId) (sa ta : Nat → Nat) : Met l yX4_firstThatCannotBeUndone wsX4_firstThatCannotBeUndone ({ frames := 8, cells := 0, slots := 0, locals := 200 }) (va_Pc [.ref x] (ax_R (dC, dI) vwCl [(x, .inr (8, [.ref xs, .ref xp, .int 0, .int 0, .ref xl, .ref xr])), (xs, .inl (cS, 3, .inr (.inr (.inr (.inr (fun _ => none)))))), (xp, .inl (cP, 8, .inr (.inr (.inr (.inr (fun _ => none)))))), (xl, .inr (4, [.ref xn, .ref xm])), (xn, .inl (cn, 64, .inr (.inl (fun _ => 0)))), (xm, .inl (cm, 64, .inr (.inl (fun _ => 0)))), (xr, .inr (6, [.ref xw, .ref xt])), (xw, .inl (cw, 8, .inr (.inl (fun _ => 0)))), (xt, .inl (ct, 8, .inr (.inl (fun _ => 0))))] [(cS, .object "Diffractory$Source"), (cP, .object "Diffractory$Part"), (cn, .long), (cm, .long), (cw, .long), (ct, .long)] sa ta)) (va_Qi (fun (r : Int32) (u : Unit) => r = (-1)) (fun _ _ => True) ax_no) 0 0 ax_no := by
  refine Met.ofW (cc := cX4_firstThatCannotBeUndone) (maxL := 3) (ret := (some .int)) (by decide) rfl ?_
  intro p e s m args below meth c s₁ B hml hv
  obtain ⟨rfl, hP, hK, hE⟩ := hv
  have hx := B.exec
  have hb := B.bytes
  have hr := B.returns
  have hts := atoms_spec (ws := wsX4_firstThatCannotBeUndone) B.pre
  have hown : s.vm.findClass RX4 = some m.cls := findClass_of_methodNamed B.named
  have hlocks := B.notSynchronized
  have hS : va_S ax_no s.heap s.heap [] := va_S.rf
  have hl := lv_entry ([.ref x]) (n := 3) (Nat.le_of_ble_eq_true rfl)
  rw [lg_entry_eq]
  generalize (lg_sl ([.ref x]) ++ List.replicate (3 - (lg_sl ([.ref x])).length) Slot.unset).toArray = ls at hl ⊢
  have hl : lv_has ls 3 [(0, .ref x)] := hl
  have hP : va_P (dC, dI) vwCl [(x, .inr (8, [.ref xs, .ref xp, .int 0, .int 0, .ref xl, .ref xr])), (xs, .inl (cS, 3, .inr (.inr (.inr (.inr (fun _ => none)))))), (xp, .inl (cP, 8, .inr (.inr (.inr (.inr (fun _ => none)))))), (xl, .inr (4, [.ref xn, .ref xm])), (xn, .inl (cn, 64, .inr (.inl (fun _ => 0)))), (xm, .inl (cm, 64, .inr (.inl (fun _ => 0)))), (xr, .inr (6, [.ref xw, .ref xt])), (xw, .inl (cw, 8, .inr (.inl (fun _ => 0)))), (xt, .inl (ct, 8, .inr (.inl (fun _ => 0))))] s.heap := hP
  refine lv_iconst (v := 0) hx hb dX4_firstThatCannotBeUndone_0 (by decide) ?_
  refine lv_istore_n (lv' := [(1, .int 0), (0, .ref x)]) hx hb dX4_firstThatCannotBeUndone_1 rfl hl (by decide) rfl (fun ls hl => ?_)
  refine lv_iload_n hx hb dX4_firstThatCannotBeUndone_2 rfl (lv_at hl 0 rfl) ?_
  refine lv_aload_n hx hb dX4_firstThatCannotBeUndone_3 rfl (lv_at hl 1 rfl) ?_
  refine va_get (D := (dC, dI)) (ci := 8) (v := .int 0) (C := RX4) (T := TX4) (N := 6) hx hb hts (by decide +kernel) hown hK hP 0 rfl rfl 3 (by decide) (hts (.fieldLink RX4 39 "Diffractory" "partCount" "I") (by decide +kernel)) (fun _ h9 => h9) rfl dX4_firstThatCannotBeUndone_4 ?_
  refine lv_icmp_ge (tgt := 42) hx hb dX4_firstThatCannotBeUndone_7 (by decide) (fun _ => ?_) (fun h9 => absurd (by decide) h9)
  refine lv_iconst (v := (-1)) hx hb dX4_firstThatCannotBeUndone_42 (by decide) ?_
  refine W.widen (k := 0) (n := 0) (Nat.le_of_ble_eq_true rfl) (Nat.le_of_ble_eq_true rfl) ?_
  exact W.iret (v := (-1)) hx hb hr (fun t ht hW => ⟨⟨(-1), (), rfl, rfl, trivial⟩, hS.F ht⟩) hS.2.2 dX4_firstThatCannotBeUndone_43

set_option maxHeartbeats 4000000 in
set_option maxRecDepth 100000 in
theorem c_X4_countExposuresEver (l : Launch) (dC : Nat → ClassId) (dI : Nat → Nat → Nat) (x xs xp xl xn xm xr xw xt : Nat) (cS cP cn cm cw ct : ClassId) (sa ta : Nat → Nat) : Met l yX4_countExposuresEver wsX4_countExposuresEver ({ frames := 8, cells := 0, slots := 0, locals := 200 }) (va_Pc [.ref x] (ax_R (dC, dI) vwCl [(x, .inr (8, [.ref xs, .ref xp, .int 0, .int 0, .ref xl, .ref xr])), (xs, .inl (cS, 3, .inr (.inr (.inr (.inr (fun _ => none)))))), (xp, .inl (cP, 8, .inr (.inr (.inr (.inr (fun _ => none)))))), (xl, .inr (4, [.ref xn, .ref xm])), (xn, .inl (cn, 64, .inr (.inl (fun _ => 0)))), (xm, .inl (cm, 64, .inr (.inl (fun _ => 0)))), (xr, .inr (6, [.ref xw, .ref xt])), (xw, .inl (cw, 8, .inr (.inl (fun _ => 0)))), (xt, .inl (ct, 8, .inr (.inl (fun _ => 0))))] [(cS, .object "Diffractory$Source"), (cP, .object "Diffractory$Part"), (cn, .long), (cm, .long), (cw, .long), (ct, .long)] sa ta)) (va_Qi (fun (r : Int32) (u : Unit) => r = 0) (fun _ _ => True) ax_no) 0 0 ax_no := by
  refine Met.ofW (cc := cX4_countExposuresEver) (maxL := 4) (ret := (some .int)) (by decide) rfl ?_
  intro p e s m args below meth c s₁ B hml hv
  obtain ⟨rfl, hP, hK, hE⟩ := hv
  have hx := B.exec
  have hb := B.bytes
  have hr := B.returns
  have hts := atoms_spec (ws := wsX4_countExposuresEver) B.pre
  have hown : s.vm.findClass RX4 = some m.cls := findClass_of_methodNamed B.named
  have hlocks := B.notSynchronized
  have hS : va_S ax_no s.heap s.heap [] := va_S.rf
  have hl := lv_entry ([.ref x]) (n := 4) (Nat.le_of_ble_eq_true rfl)
  rw [lg_entry_eq]
  generalize (lg_sl ([.ref x]) ++ List.replicate (4 - (lg_sl ([.ref x])).length) Slot.unset).toArray = ls at hl ⊢
  have hl : lv_has ls 4 [(0, .ref x)] := hl
  have hP : va_P (dC, dI) vwCl [(x, .inr (8, [.ref xs, .ref xp, .int 0, .int 0, .ref xl, .ref xr])), (xs, .inl (cS, 3, .inr (.inr (.inr (.inr (fun _ => none)))))), (xp, .inl (cP, 8, .inr (.inr (.inr (.inr (fun _ => none)))))), (xl, .inr (4, [.ref xn, .ref xm])), (xn, .inl (cn, 64, .inr (.inl (fun _ => 0)))), (xm, .inl (cm, 64, .inr (.inl (fun _ => 0)))), (xr, .inr (6, [.ref xw, .ref xt])), (xw, .inl (cw, 8, .inr (.inl (fun _ => 0)))), (xt, .inl (ct, 8, .inr (.inl (fun _ => 0))))] s.heap := hP
  refine lv_iconst (v := 0) hx hb dX4_countExposuresEver_0 (by decide) ?_
  refine lv_istore_n (lv' := [(1, .int 0), (0, .ref x)]) hx hb dX4_countExposuresEver_1 rfl hl (by decide) rfl (fun ls hl => ?_)
  refine lv_iconst (v := 0) hx hb dX4_countExposuresEver_2 (by decide) ?_
  refine lv_istore_n (lv' := [(2, .int 0), (1, .int 0), (0, .ref x)]) hx hb dX4_countExposuresEver_3 rfl hl (by decide) rfl (fun ls hl => ?_)
  refine lv_iload_n hx hb dX4_countExposuresEver_4 rfl (lv_at hl 0 rfl) ?_
  refine lv_aload_n hx hb dX4_countExposuresEver_5 rfl (lv_at hl 2 rfl) ?_
  refine va_get (D := (dC, dI)) (ci := 8) (v := .int 0) (C := RX4) (T := TX4) (N := 6) hx hb hts (by decide +kernel) hown hK hP 0 rfl rfl 3 (by decide) (hts (.fieldLink RX4 39 "Diffractory" "partCount" "I") (by decide +kernel)) (fun _ h9 => h9) rfl dX4_countExposuresEver_6 ?_
  refine lv_icmp_ge (tgt := 35) hx hb dX4_countExposuresEver_9 (by decide) (fun _ => ?_) (fun h9 => absurd (by decide) h9)
  refine lv_iload_n hx hb dX4_countExposuresEver_35 rfl (lv_at hl 1 rfl) ?_
  refine W.widen (k := 0) (n := 0) (Nat.le_of_ble_eq_true rfl) (Nat.le_of_ble_eq_true rfl) ?_
  exact W.iret (v := 0) hx hb hr (fun t ht hW => ⟨⟨0, (), rfl, rfl, trivial⟩, hS.F ht⟩) hS.2.2 dX4_countExposuresEver_36

set_option maxHeartbeats 4000000 in
set_option maxRecDepth 100000 in
theorem c_X4_many (l : Launch) (hlt : l.stackTraces = false) (dC : Nat → ClassId) (dI : Nat → Nat → Nat) (x xs xp xl xn xm xr xw xt : Nat) (cS cP cn cm cw ct : ClassId) (sa ta : Nat → Nat) (p0 : Int32) : vx_Met l yX4_many wsX4_many ({ frames := 16, cells := 1, slots := 6, locals := 400 }) (va_Pc [.ref x, .int p0] (ax_R (dC, dI) vwCl [(x, .inr (8, [.ref xs, .ref xp, .int 0, .int 0, .ref xl, .ref xr])), (xs, .inl (cS, 3, .inr (.inr (.inr (.inr (fun _ => none)))))), (xp, .inl (cP, 8, .inr (.inr (.inr (.inr (fun _ => none)))))), (xl, .inr (4, [.ref xn, .ref xm])), (xn, .inl (cn, 64, .inr (.inl (fun _ => 0)))), (xm, .inl (cm, 64, .inr (.inl (fun _ => 0)))), (xr, .inr (6, [.ref xw, .ref xt])), (xw, .inl (cw, 8, .inr (.inl (fun _ => 0)))), (xt, .inl (ct, 8, .inr (.inl (fun _ => 0))))] [(cS, .object "Diffractory$Source"), (cP, .object "Diffractory$Part"), (cn, .long), (cm, .long), (cw, .long), (ct, .long)] sa ta)) (va_Qi (fun (r : Int32) (u : Unit) => (0 ≤ p0.toInt ∧ p0.toInt ≤ 4) ∧ r = if p0.toInt = 3 then -1 else 0) (fun _ _ => True) ax_no) (vx_X (fun _ : Unit => ¬ (0 ≤ p0.toInt ∧ p0.toInt ≤ 4)) (fun E _ _ => E = "java/lang/IllegalArgumentException") ax_no) 1 6 ax_no := by
  refine vx_ofW (cc := cX4_many) (maxL := 2) (ret := (some .int)) (by decide) rfl ?_
  intro p e s m args below meth c s₁ B hml hnt hv
  obtain ⟨rfl, hP, hK, hE⟩ := hv
  have hx := B.exec
  have hb := B.bytes
  have hr := B.returns
  have hts := atoms_spec (ws := wsX4_many) B.pre
  have hown : s.vm.findClass RX4 = some m.cls := findClass_of_methodNamed B.named
  have hlocks := B.notSynchronized
  have hS : va_S ax_no s.heap s.heap [] := va_S.rf
  have hl := lv_entry ([.ref x, .int p0]) (n := 2) (Nat.le_of_ble_eq_true rfl)
  rw [lg_entry_eq]
  generalize (lg_sl ([.ref x, .int p0]) ++ List.replicate (2 - (lg_sl ([.ref x, .int p0])).length) Slot.unset).toArray = ls at hl ⊢
  have hl : lv_has ls 2 [(0, .ref x), (1, .int p0)] := hl
  have hP : va_P (dC, dI) vwCl [(x, .inr (8, [.ref xs, .ref xp, .int 0, .int 0, .ref xl, .ref xr])), (xs, .inl (cS, 3, .inr (.inr (.inr (.inr (fun _ => none)))))), (xp, .inl (cP, 8, .inr (.inr (.inr (.inr (fun _ => none)))))), (xl, .inr (4, [.ref xn, .ref xm])), (xn, .inl (cn, 64, .inr (.inl (fun _ => 0)))), (xm, .inl (cm, 64, .inr (.inl (fun _ => 0)))), (xr, .inr (6, [.ref xw, .ref xt])), (xw, .inl (cw, 8, .inr (.inl (fun _ => 0)))), (xt, .inl (ct, 8, .inr (.inl (fun _ => 0))))] s.heap := hP
  refine lv_iload_n hx hb dX4_many_0 rfl (lv_at hl 1 rfl) ?_
  by_cases h0 : p0.toInt < 0 ∨ 4 < p0.toInt
  · refine lv_tableOut (tgt := 61) hx hb dX4_many_1 h0 (by decide) ?_
    exact vx_throwS hx hb hlt (own := RX4) (cls := "java/lang/IllegalArgumentException") (names := ["java/lang/RuntimeException", "java/lang/Exception"]) hown (by decide +kernel) (by decide +kernel) (hts (.classLink RX4 77 "java/lang/IllegalArgumentException") (by decide +kernel)) (hts (.initialized "java/lang/IllegalArgumentException") (by decide +kernel)) hE.s202 (ax_hat81 hE (fun w h9 => hts w (by first | exact List.mem_cons_of_mem _ (List.mem_append_right _ h9) | exact List.mem_cons_of_mem _ (List.mem_append_left _ (List.mem_append_right _ h9)) | exact List.mem_cons_of_mem _ (List.mem_append_left _ (List.mem_append_left _ (List.mem_append_right _ h9))) | exact List.mem_cons_of_mem _ (List.mem_append_left _ (List.mem_append_left _ (List.mem_append_left _ (List.mem_append_right _ h9)))) | exact List.mem_cons_of_mem _ (List.mem_append_left _ (List.mem_append_left _ (List.mem_append_left _ (List.mem_append_left _ (List.mem_append_right _ h9)))))))) ax_gd81 hE.zU hE.zN hS (hl.1.trans hml.symm) dX4_many_61 dX4_many_64 dX4_many_65 dX4_many_67 dX4_many_70 (fun x h9 => (hnt x h9).elim) (Nat.le_of_ble_eq_true rfl) (Nat.le_of_ble_eq_true rfl) (Nat.le_of_ble_eq_true rfl) (Nat.le_of_ble_eq_true rfl) hlocks (fun t hal hz1 hk1 => ⟨(), by first | trivial | omega, rfl, ax_vaF hS hz1 hk1⟩) hS.2.2 (Nat.le_of_ble_eq_true rfl) (Nat.le_of_ble_eq_true rfl)
  · have hq9 : p0.toInt = 0 ∨ p0.toInt = 1 ∨ p0.toInt = 2 ∨ p0.toInt = 3 ∨ p0.toInt = 4 := by omega
    rcases hq9 with hq9 | hq9 | hq9 | hq9 | hq9
    · refine lv_tableIn (tgt := 36) hx hb dX4_many_1 (by omega) (by omega) (by rw [hq9]; rfl) (by decide) ?_
      refine lv_aload_n hx hb dX4_many_36 rfl (lv_at hl 0 rfl) ?_
      refine va_get (D := (dC, dI)) (ci := 8) (v := .int 0) (C := RX4) (T := TX4) (N := 6) hx hb hts (by decide +kernel) hown hK hP 0 rfl rfl 2 (by decide) (hts (.fieldLink RX4 35 "Diffractory" "sourceCount" "I") (by decide +kernel)) (fun _ h9 => h9) rfl dX4_many_37 ?_
      refine W.widen (k := 1) (n := 6) (Nat.le_of_ble_eq_true rfl) (Nat.le_of_ble_eq_true rfl) ?_
      refine vx_ret ?_
      exact W.iret (v := 0) hx hb hr (fun t ht hW => ⟨⟨0, (), rfl, ⟨by omega, (if_neg (by omega)).symm⟩, trivial⟩, hS.F ht⟩) hS.2.2 dX4_many_40
    · refine lv_tableIn (tgt := 41) hx hb dX4_many_1 (by omega) (by omega) (by rw [hq9]; rfl) (by decide) ?_
      refine lv_aload_n hx hb dX4_many_41 rfl (lv_at hl 0 rfl) ?_
      refine va_get (D := (dC, dI)) (ci := 8) (v := .int 0) (C := RX4) (T := TX4) (N := 6) hx hb hts (by decide +kernel) hown hK hP 0 rfl rfl 3 (by decide) (hts (.fieldLink RX4 39 "Diffractory" "partCount" "I") (by decide +kernel)) (fun _ h9 => h9) rfl dX4_many_42 ?_
      refine W.widen (k := 1) (n := 6) (Nat.le_of_ble_eq_true rfl) (Nat.le_of_ble_eq_true rfl) ?_
      refine vx_ret ?_
      exact W.iret (v := 0) hx hb hr (fun t ht hW => ⟨⟨0, (), rfl, ⟨by omega, (if_neg (by omega)).symm⟩, trivial⟩, hS.F ht⟩) hS.2.2 dX4_many_45
    · refine lv_tableIn (tgt := 46) hx hb dX4_many_1 (by omega) (by omega) (by rw [hq9]; rfl) (by decide) ?_
      refine lv_aload_n hx hb dX4_many_46 rfl (lv_at hl 0 rfl) ?_
      have hPc := hP.sub (ws' := [(x, .inr (8, [.ref xs, .ref xp, .int 0, .int 0, .ref xl, .ref xr])), (xs, .inl (cS, 3, .inr (.inr (.inr (.inr (fun _ => none)))))), (xp, .inl (cP, 8, .inr (.inr (.inr (.inr (fun _ => none)))))), (xl, .inr (4, [.ref xn, .ref xm])), (xn, .inl (cn, 64, .inr (.inl (fun _ => 0)))), (xm, .inl (cm, 64, .inr (.inl (fun _ => 0)))), (xr, .inr (6, [.ref xw, .ref xt])), (xw, .inl (cw, 8, .inr (.inl (fun _ => 0)))), (xt, .inl (ct, 8, .inr (.inl (fun _ => 0))))]) [0, 1, 2, 3, 4, 5, 6, 7, 8] rfl
      have hKc := hK.sub (tys' := [(cS, .object "Diffractory$Source"), (cP, .object "Diffractory$Part"), (cn, .long), (cm, .long), (cw, .long), (ct, .long)]) [0, 1, 2, 3, 4, 5] rfl
      refine va_calli (va_runV (As := []) (rest := []) ⟨hx, hb, hml, hown, hts⟩ (c_X4_countPartsIn l dC dI x xs xp xl xn xm xr xw xt cS cP cn cm cw ct sa ta) (cwV 0 hts gX4_many_X4_countPartsIn rfl rfl rfl (by decide +kernel) ⟨Nat.le_of_ble_eq_true rfl, Nat.le_of_ble_eq_true rfl⟩) ⟨ax_fbR, va_recv hK hP (ci := 8) (q0 := 0) rfl rfl, ax_prR hPc hKc hS hE⟩ rfl rfl hl.1 rfl (lv_room (Nat.le_of_ble_eq_true rfl)) dX4_many_47 ⟨Nat.le_of_ble_eq_true rfl, Nat.le_of_ble_eq_true rfl⟩) hS (fun _ _ h9 => h9.elim) (fun _ h9 => h9.elim) (fun r_1 u_3  t H locs ht hvm hw_2 hB hz1 hk1 hS => ?_)
      have hP := ax_keep hP (fun _ h9 => h9) hk1
      refine ax_i (y := 0) hw_2 ?_
      refine W.widen (k := 1) (n := 6) (Nat.le_of_ble_eq_true rfl) (Nat.le_of_ble_eq_true rfl) ?_
      refine vx_ret ?_
      exact W.iret (v := 0) hx hb hr (fun t ht hW => ⟨⟨0, (), rfl, ⟨by omega, (if_neg (by omega)).symm⟩, trivial⟩, hS.F ht⟩) hS.2.2 dX4_many_50
    · refine lv_tableIn (tgt := 51) hx hb dX4_many_1 (by omega) (by omega) (by rw [hq9]; rfl) (by decide) ?_
      refine lv_aload_n hx hb dX4_many_51 rfl (lv_at hl 0 rfl) ?_
      have hPc := hP.sub (ws' := [(x, .inr (8, [.ref xs, .ref xp, .int 0, .int 0, .ref xl, .ref xr])), (xs, .inl (cS, 3, .inr (.inr (.inr (.inr (fun _ => none)))))), (xp, .inl (cP, 8, .inr (.inr (.inr (.inr (fun _ => none)))))), (xl, .inr (4, [.ref xn, .ref xm])), (xn, .inl (cn, 64, .inr (.inl (fun _ => 0)))), (xm, .inl (cm, 64, .inr (.inl (fun _ => 0)))), (xr, .inr (6, [.ref xw, .ref xt])), (xw, .inl (cw, 8, .inr (.inl (fun _ => 0)))), (xt, .inl (ct, 8, .inr (.inl (fun _ => 0))))]) [0, 1, 2, 3, 4, 5, 6, 7, 8] rfl
      have hKc := hK.sub (tys' := [(cS, .object "Diffractory$Source"), (cP, .object "Diffractory$Part"), (cn, .long), (cm, .long), (cw, .long), (ct, .long)]) [0, 1, 2, 3, 4, 5] rfl
      refine va_calli (va_runV (As := []) (rest := []) ⟨hx, hb, hml, hown, hts⟩ (c_X4_firstThatCannotBeUndone l dC dI x xs xp xl xn xm xr xw xt cS cP cn cm cw ct sa ta) (cwV 0 hts gX4_many_X4_firstThatCannotBeUndone rfl rfl rfl (by decide +kernel) ⟨Nat.le_of_ble_eq_true rfl, Nat.le_of_ble_eq_true rfl⟩) ⟨ax_fbR, va_recv hK hP (ci := 8) (q0 := 0) rfl rfl, ax_prR hPc hKc hS hE⟩ rfl rfl hl.1 rfl (lv_room (Nat.le_of_ble_eq_true rfl)) dX4_many_52 ⟨Nat.le_of_ble_eq_true rfl, Nat.le_of_ble_eq_true rfl⟩) hS (fun _ _ h9 => h9.elim) (fun _ h9 => h9.elim) (fun r_4 u_6  t H locs ht hvm hw_5 hB hz1 hk1 hS => ?_)
      have hP := ax_keep hP (fun _ h9 => h9) hk1
      refine ax_i (y := (-1)) hw_5 ?_
      refine W.widen (k := 1) (n := 6) (Nat.le_of_ble_eq_true rfl) (Nat.le_of_ble_eq_true rfl) ?_
      refine vx_ret ?_
      exact W.iret (v := (-1)) hx hb hr (fun t ht hW => ⟨⟨(-1), (), rfl, ⟨by omega, (if_pos hq9).symm⟩, trivial⟩, hS.F ht⟩) hS.2.2 dX4_many_55
    · refine lv_tableIn (tgt := 56) hx hb dX4_many_1 (by omega) (by omega) (by rw [hq9]; rfl) (by decide) ?_
      refine lv_aload_n hx hb dX4_many_56 rfl (lv_at hl 0 rfl) ?_
      have hPc := hP.sub (ws' := [(x, .inr (8, [.ref xs, .ref xp, .int 0, .int 0, .ref xl, .ref xr])), (xs, .inl (cS, 3, .inr (.inr (.inr (.inr (fun _ => none)))))), (xp, .inl (cP, 8, .inr (.inr (.inr (.inr (fun _ => none)))))), (xl, .inr (4, [.ref xn, .ref xm])), (xn, .inl (cn, 64, .inr (.inl (fun _ => 0)))), (xm, .inl (cm, 64, .inr (.inl (fun _ => 0)))), (xr, .inr (6, [.ref xw, .ref xt])), (xw, .inl (cw, 8, .inr (.inl (fun _ => 0)))), (xt, .inl (ct, 8, .inr (.inl (fun _ => 0))))]) [0, 1, 2, 3, 4, 5, 6, 7, 8] rfl
      have hKc := hK.sub (tys' := [(cS, .object "Diffractory$Source"), (cP, .object "Diffractory$Part"), (cn, .long), (cm, .long), (cw, .long), (ct, .long)]) [0, 1, 2, 3, 4, 5] rfl
      refine va_calli (va_runV (As := []) (rest := []) ⟨hx, hb, hml, hown, hts⟩ (c_X4_countExposuresEver l dC dI x xs xp xl xn xm xr xw xt cS cP cn cm cw ct sa ta) (cwV 0 hts gX4_many_X4_countExposuresEver rfl rfl rfl (by decide +kernel) ⟨Nat.le_of_ble_eq_true rfl, Nat.le_of_ble_eq_true rfl⟩) ⟨ax_fbR, va_recv hK hP (ci := 8) (q0 := 0) rfl rfl, ax_prR hPc hKc hS hE⟩ rfl rfl hl.1 rfl (lv_room (Nat.le_of_ble_eq_true rfl)) dX4_many_57 ⟨Nat.le_of_ble_eq_true rfl, Nat.le_of_ble_eq_true rfl⟩) hS (fun _ _ h9 => h9.elim) (fun _ h9 => h9.elim) (fun r_7 u_9  t H locs ht hvm hw_8 hB hz1 hk1 hS => ?_)
      have hP := ax_keep hP (fun _ h9 => h9) hk1
      refine ax_i (y := 0) hw_8 ?_
      refine W.widen (k := 1) (n := 6) (Nat.le_of_ble_eq_true rfl) (Nat.le_of_ble_eq_true rfl) ?_
      refine vx_ret ?_
      exact W.iret (v := 0) hx hb hr (fun t ht hW => ⟨⟨0, (), rfl, ⟨by omega, (if_neg (by omega)).symm⟩, trivial⟩, hS.F ht⟩) hS.2.2 dX4_many_60
