set_option maxHeartbeats 4000000 in
set_option maxRecDepth 100000 in
theorem c_X0_init (l : Launch) (dC : Nat → ClassId) (dI : Nat → Nat → Nat) (ja : Nat) (sa ta : Nat → Nat) (sz : Nat) : Met l yX0_init wsX0_init ({ frames := 8, cells := 2, slots := 128, locals := 200 }) (va_Pc [.ref ja] (ax_W (dC, dI) vwCl [(ja, .inr (4, [.null, .null]))] [] sa ta sz)) (va_Qv (fun (u : Nat × Nat × ClassId × ClassId) => True) (fun (u : Nat × Nat × ClassId × ClassId) (t : State) => va_P (dC, dI) vwCl [(ja, .inr (4, [.ref (u.1), .ref (u.2.1)])), ((u.1), .inl ((u.2.2.1), 64, .inr (.inl (fun _ => 0)))), ((u.2.1), .inl ((u.2.2.2), 64, .inr (.inl (fun _ => 0))))] t.heap ∧ va_K (dC, dI) vwCl [((u.2.2.1), .long), ((u.2.2.2), .long)] t ∧ va_D (va_A [(ja, .inr (4, [.null, .null]))] sz) [(ja, .inr (4, [.ref (u.1), .ref (u.2.1)])), ((u.1), .inl ((u.2.2.1), 64, .inr (.inl (fun _ => 0)))), ((u.2.1), .inl ((u.2.2.2), 64, .inr (.inl (fun _ => 0))))]) (va_A [(ja, .inr (4, [.null, .null]))] sz)) 2 128 (va_A [(ja, .inr (4, [.null, .null]))] sz) := by
  refine Met.ofW (cc := cX0_init) (maxL := 1) (ret := none) (by decide) rfl ?_
  intro p e s m args below meth c s₁ B hml hv
  obtain ⟨rfl, hsz, hP, hK, hD0, hE⟩ := hv
  have hx := B.exec
  have hb := B.bytes
  have hr := B.returns
  have hts := atoms_spec (ws := wsX0_init) B.pre
  have hown : s.vm.findClass RX0 = some m.cls := findClass_of_methodNamed B.named
  have hlocks := B.notSynchronized
  have hin : meth.name = "<init>" := (name_of_methodNamed B.named B.method).1
  subst hsz
  have hD := hD0.self (sz := s.heap.size)
  generalize hAe : va_A [(ja, .inr (4, [.null, .null]))] s.heap.size = A at hD hE ⊢
  have hA : ∀ q : Nat, s.heap.size ≤ q → A q := fun q h => by rw [← hAe]; exact Or.inr h
  have hS : va_S A s.heap s.heap [] := va_S.rf
  have hl := lv_entry ([.ref ja]) (n := 1) (Nat.le_of_ble_eq_true rfl)
  rw [lg_entry_eq]
  generalize (lg_sl ([.ref ja]) ++ List.replicate (1 - (lg_sl ([.ref ja])).length) Slot.unset).toArray = ls at hl ⊢
  have hl : lv_has ls 1 [(0, .ref ja)] := hl
  have hP : va_P (dC, dI) vwCl [(ja, .inr (4, [.null, .null]))] s.heap := hP
  refine lv_aload_n hx hb dX0_init_0 rfl (lv_at hl 0 rfl) ?_
  refine W.objInit hx hb hown (hts (.methodLink RX0 5 objectInit) (by decide +kernel)) (hts (.instanceMethod objectInit) (by decide +kernel)) (hts (.code objectInit ⟨#[0xb1]⟩ 1 none) (by decide +kernel)) rfl (by rw [hml]; exact hl.1) rfl dX0_init_1 (Nat.le_of_ble_eq_true rfl) (Nat.le_of_ble_eq_true rfl) ?_
  refine W.eq (g2 := F0 m 4 ls []) rfl ?_
  refine lv_aload_n hx hb dX0_init_4 rfl (lv_at hl 0 rfl) ?_
  refine lv_bipush (v := 64) hx hb dX0_init_5 (by decide) ?_
  refine va_newa (atype := .long) (ty := .long) (N' := 64) (a0 := (64, .inr (.inl (fun _ => 0)))) hx hb (hts (.arrayClass .long) (by decide +kernel)) rfl hK hP hD hS hA (fun _ => rfl) (by decide) (by decide) (by decide) (Nat.le_of_ble_eq_true rfl) (Nat.le_of_ble_eq_true rfl) dX0_init_7 (fun q_1 cA_2 H hK hP hD hS => ?_)
  have hP : va_P (dC, dI) vwCl [(ja, .inr (4, [.null, .null])), (q_1, .inl (cA_2, 64, .inr (.inl (fun _ => 0))))] H := hP
  have hD : va_D A [(ja, .inr (4, [.null, .null])), (q_1, .inl (cA_2, 64, .inr (.inl (fun _ => 0))))] := hD
  have hK : va_K (dC, dI) vwCl [(cA_2, .long)] s := hK
  refine va_put (D := (dC, dI)) (ci := 4) (v := .ref q_1) (ty := .array .long) (C := RX0) (T := TX0) (N := 2) hx hb hts (by decide +kernel) tyX0 tyX0_ok nmX0 hown hK hP hD hS 0 rfl rfl 0 (by decide) (hts (.fieldLink RX0 11 "Diffractory$Light" "now" "[J") (by decide +kernel)) (fun _ h9 => h9) rfl (by decide +kernel) rfl rfl (Nat.le_of_ble_eq_true rfl) dX0_init_9 (fun H locs hP hD hS => ?_)
  have hP : va_P (dC, dI) vwCl [(ja, .inr (4, [.ref q_1, .null])), (q_1, .inl (cA_2, 64, .inr (.inl (fun _ => 0))))] H := hP
  have hD : va_D A [(ja, .inr (4, [.ref q_1, .null])), (q_1, .inl (cA_2, 64, .inr (.inl (fun _ => 0))))] := hD
  refine lv_aload_n hx hb dX0_init_12 rfl (lv_at hl 0 rfl) ?_
  refine lv_bipush (v := 64) hx hb dX0_init_13 (by decide) ?_
  refine va_newa (atype := .long) (ty := .long) (N' := 64) (a0 := (64, .inr (.inl (fun _ => 0)))) hx hb (hts (.arrayClass .long) (by decide +kernel)) rfl hK hP hD hS hA (fun _ => rfl) (by decide) (by decide) (by decide) (Nat.le_of_ble_eq_true rfl) (Nat.le_of_ble_eq_true rfl) dX0_init_15 (fun q_3 cA_4 H hK hP hD hS => ?_)
  have hP : va_P (dC, dI) vwCl [(ja, .inr (4, [.ref q_1, .null])), (q_1, .inl (cA_2, 64, .inr (.inl (fun _ => 0)))), (q_3, .inl (cA_4, 64, .inr (.inl (fun _ => 0))))] H := hP
  have hD : va_D A [(ja, .inr (4, [.ref q_1, .null])), (q_1, .inl (cA_2, 64, .inr (.inl (fun _ => 0)))), (q_3, .inl (cA_4, 64, .inr (.inl (fun _ => 0))))] := hD
  have hK : va_K (dC, dI) vwCl [(cA_2, .long), (cA_4, .long)] s := hK
  refine va_put (D := (dC, dI)) (ci := 4) (v := .ref q_3) (ty := .array .long) (C := RX0) (T := TX0) (N := 2) hx hb hts (by decide +kernel) tyX0 tyX0_ok nmX0 hown hK hP hD hS 0 rfl rfl 1 (by decide) (hts (.fieldLink RX0 15 "Diffractory$Light" "next" "[J") (by decide +kernel)) (fun _ h9 => h9) rfl (by decide +kernel) rfl rfl (Nat.le_of_ble_eq_true rfl) dX0_init_17 (fun H locs hP hD hS => ?_)
  have hP : va_P (dC, dI) vwCl [(ja, .inr (4, [.ref q_1, .ref q_3])), (q_1, .inl (cA_2, 64, .inr (.inl (fun _ => 0)))), (q_3, .inl (cA_4, 64, .inr (.inl (fun _ => 0))))] H := hP
  have hD : va_D A [(ja, .inr (4, [.ref q_1, .ref q_3])), (q_1, .inl (cA_2, 64, .inr (.inl (fun _ => 0)))), (q_3, .inl (cA_4, 64, .inr (.inl (fun _ => 0))))] := hD
  refine W.widen (k := 2) (n := 128) (Nat.le_of_ble_eq_true rfl) (Nat.le_of_ble_eq_true rfl) ?_
  have hP9 := hP.sub (ws' := [(ja, .inr (4, [.ref q_1, .ref q_3])), (q_1, .inl (cA_2, 64, .inr (.inl (fun _ => 0)))), (q_3, .inl (cA_4, 64, .inr (.inl (fun _ => 0))))]) [0, 1, 2] rfl
  have hD9 := hD.sub (ws' := [(ja, .inr (4, [.ref q_1, .ref q_3])), (q_1, .inl (cA_2, 64, .inr (.inl (fun _ => 0)))), (q_3, .inl (cA_4, 64, .inr (.inl (fun _ => 0))))]) [0, 1, 2] (by decide) rfl
  have hK9 := hK.sub (tys' := [(cA_2, .long), (cA_4, .long)]) [0, 1] rfl
  exact W.vret hx hb hr (fun t ht hW => ⟨⟨(q_1, q_3, cA_2, cA_4), rfl, trivial, by rw [ht]; exact hP9, va_K.moved hW.alike hK9, hD9⟩, hS.F ht⟩) hS.2.2 dX0_init_20

set_option maxHeartbeats 4000000 in
set_option maxRecDepth 100000 in
theorem c_X2_init (l : Launch) (dC : Nat → ClassId) (dI : Nat → Nat → Nat) (ja : Nat) (sa ta : Nat → Nat) (sz : Nat) : Met l yX2_init wsX2_init ({ frames := 8, cells := 2, slots := 16, locals := 200 }) (va_Pc [.ref ja] (ax_W (dC, dI) vwCl [(ja, .inr (6, [.null, .null]))] [] sa ta sz)) (va_Qv (fun (u : Nat × Nat × ClassId × ClassId) => True) (fun (u : Nat × Nat × ClassId × ClassId) (t : State) => va_P (dC, dI) vwCl [(ja, .inr (6, [.ref (u.1), .ref (u.2.1)])), ((u.1), .inl ((u.2.2.1), 8, .inr (.inl (fun _ => 0)))), ((u.2.1), .inl ((u.2.2.2), 8, .inr (.inl (fun _ => 0))))] t.heap ∧ va_K (dC, dI) vwCl [((u.2.2.1), .long), ((u.2.2.2), .long)] t ∧ va_D (va_A [(ja, .inr (6, [.null, .null]))] sz) [(ja, .inr (6, [.ref (u.1), .ref (u.2.1)])), ((u.1), .inl ((u.2.2.1), 8, .inr (.inl (fun _ => 0)))), ((u.2.1), .inl ((u.2.2.2), 8, .inr (.inl (fun _ => 0))))]) (va_A [(ja, .inr (6, [.null, .null]))] sz)) 2 16 (va_A [(ja, .inr (6, [.null, .null]))] sz) := by
  refine Met.ofW (cc := cX2_init) (maxL := 1) (ret := none) (by decide) rfl ?_
  intro p e s m args below meth c s₁ B hml hv
  obtain ⟨rfl, hsz, hP, hK, hD0, hE⟩ := hv
  have hx := B.exec
  have hb := B.bytes
  have hr := B.returns
  have hts := atoms_spec (ws := wsX2_init) B.pre
  have hown : s.vm.findClass RX2 = some m.cls := findClass_of_methodNamed B.named
  have hlocks := B.notSynchronized
  have hin : meth.name = "<init>" := (name_of_methodNamed B.named B.method).1
  subst hsz
  have hD := hD0.self (sz := s.heap.size)
  generalize hAe : va_A [(ja, .inr (6, [.null, .null]))] s.heap.size = A at hD hE ⊢
  have hA : ∀ q : Nat, s.heap.size ≤ q → A q := fun q h => by rw [← hAe]; exact Or.inr h
  have hS : va_S A s.heap s.heap [] := va_S.rf
  have hl := lv_entry ([.ref ja]) (n := 1) (Nat.le_of_ble_eq_true rfl)
  rw [lg_entry_eq]
  generalize (lg_sl ([.ref ja]) ++ List.replicate (1 - (lg_sl ([.ref ja])).length) Slot.unset).toArray = ls at hl ⊢
  have hl : lv_has ls 1 [(0, .ref ja)] := hl
  have hP : va_P (dC, dI) vwCl [(ja, .inr (6, [.null, .null]))] s.heap := hP
  refine lv_aload_n hx hb dX2_init_0 rfl (lv_at hl 0 rfl) ?_
  refine W.objInit hx hb hown (hts (.methodLink RX2 3 objectInit) (by decide +kernel)) (hts (.instanceMethod objectInit) (by decide +kernel)) (hts (.code objectInit ⟨#[0xb1]⟩ 1 none) (by decide +kernel)) rfl (by rw [hml]; exact hl.1) rfl dX2_init_1 (Nat.le_of_ble_eq_true rfl) (Nat.le_of_ble_eq_true rfl) ?_
  refine W.eq (g2 := F0 m 4 ls []) rfl ?_
  refine lv_aload_n hx hb dX2_init_4 rfl (lv_at hl 0 rfl) ?_
  refine lv_bipush (v := 8) hx hb dX2_init_5 (by decide) ?_
  refine va_newa (atype := .long) (ty := .long) (N' := 8) (a0 := (8, .inr (.inl (fun _ => 0)))) hx hb (hts (.arrayClass .long) (by decide +kernel)) rfl hK hP hD hS hA (fun _ => rfl) (by decide) (by decide) (by decide) (Nat.le_of_ble_eq_true rfl) (Nat.le_of_ble_eq_true rfl) dX2_init_7 (fun q_1 cA_2 H hK hP hD hS => ?_)
  have hP : va_P (dC, dI) vwCl [(ja, .inr (6, [.null, .null])), (q_1, .inl (cA_2, 8, .inr (.inl (fun _ => 0))))] H := hP
  have hD : va_D A [(ja, .inr (6, [.null, .null])), (q_1, .inl (cA_2, 8, .inr (.inl (fun _ => 0))))] := hD
  have hK : va_K (dC, dI) vwCl [(cA_2, .long)] s := hK
  refine va_putF (D := (dC, dI)) (ci := 6) (v := .ref q_1) (ty := .array .long) (C := RX2) (T := TX2) (N := 2) hx hb hts (by decide +kernel) tyX2 tyX2_ok nmX2 hown hK hP hD hS 0 rfl rfl 0 (by decide) (hts (.fieldLink RX2 9 "Diffractory$Row" "wholes" "[J") (by decide +kernel)) (fun _ h9 => h9) rfl hin rfl (by decide +kernel) rfl rfl (Nat.le_of_ble_eq_true rfl) dX2_init_9 (fun H locs hP hD hS => ?_)
  have hP : va_P (dC, dI) vwCl [(ja, .inr (6, [.ref q_1, .null])), (q_1, .inl (cA_2, 8, .inr (.inl (fun _ => 0))))] H := hP
  have hD : va_D A [(ja, .inr (6, [.ref q_1, .null])), (q_1, .inl (cA_2, 8, .inr (.inl (fun _ => 0))))] := hD
  refine lv_aload_n hx hb dX2_init_12 rfl (lv_at hl 0 rfl) ?_
  refine lv_bipush (v := 8) hx hb dX2_init_13 (by decide) ?_
  refine va_newa (atype := .long) (ty := .long) (N' := 8) (a0 := (8, .inr (.inl (fun _ => 0)))) hx hb (hts (.arrayClass .long) (by decide +kernel)) rfl hK hP hD hS hA (fun _ => rfl) (by decide) (by decide) (by decide) (Nat.le_of_ble_eq_true rfl) (Nat.le_of_ble_eq_true rfl) dX2_init_15 (fun q_3 cA_4 H hK hP hD hS => ?_)
  have hP : va_P (dC, dI) vwCl [(ja, .inr (6, [.ref q_1, .null])), (q_1, .inl (cA_2, 8, .inr (.inl (fun _ => 0)))), (q_3, .inl (cA_4, 8, .inr (.inl (fun _ => 0))))] H := hP
  have hD : va_D A [(ja, .inr (6, [.ref q_1, .null])), (q_1, .inl (cA_2, 8, .inr (.inl (fun _ => 0)))), (q_3, .inl (cA_4, 8, .inr (.inl (fun _ => 0))))] := hD
  have hK : va_K (dC, dI) vwCl [(cA_2, .long), (cA_4, .long)] s := hK
  refine va_putF (D := (dC, dI)) (ci := 6) (v := .ref q_3) (ty := .array .long) (C := RX2) (T := TX2) (N := 2) hx hb hts (by decide +kernel) tyX2 tyX2_ok nmX2 hown hK hP hD hS 0 rfl rfl 1 (by decide) (hts (.fieldLink RX2 15 "Diffractory$Row" "roots" "[J") (by decide +kernel)) (fun _ h9 => h9) rfl hin rfl (by decide +kernel) rfl rfl (Nat.le_of_ble_eq_true rfl) dX2_init_17 (fun H locs hP hD hS => ?_)
  have hP : va_P (dC, dI) vwCl [(ja, .inr (6, [.ref q_1, .ref q_3])), (q_1, .inl (cA_2, 8, .inr (.inl (fun _ => 0)))), (q_3, .inl (cA_4, 8, .inr (.inl (fun _ => 0))))] H := hP
  have hD : va_D A [(ja, .inr (6, [.ref q_1, .ref q_3])), (q_1, .inl (cA_2, 8, .inr (.inl (fun _ => 0)))), (q_3, .inl (cA_4, 8, .inr (.inl (fun _ => 0))))] := hD
  refine W.widen (k := 2) (n := 16) (Nat.le_of_ble_eq_true rfl) (Nat.le_of_ble_eq_true rfl) ?_
  have hP9 := hP.sub (ws' := [(ja, .inr (6, [.ref q_1, .ref q_3])), (q_1, .inl (cA_2, 8, .inr (.inl (fun _ => 0)))), (q_3, .inl (cA_4, 8, .inr (.inl (fun _ => 0))))]) [0, 1, 2] rfl
  have hD9 := hD.sub (ws' := [(ja, .inr (6, [.ref q_1, .ref q_3])), (q_1, .inl (cA_2, 8, .inr (.inl (fun _ => 0)))), (q_3, .inl (cA_4, 8, .inr (.inl (fun _ => 0))))]) [0, 1, 2] (by decide) rfl
  have hK9 := hK.sub (tys' := [(cA_2, .long), (cA_4, .long)]) [0, 1] rfl
  exact W.vret hx hb hr (fun t ht hW => ⟨⟨(q_1, q_3, cA_2, cA_4), rfl, trivial, by rw [ht]; exact hP9, va_K.moved hW.alike hK9, hD9⟩, hS.F ht⟩) hS.2.2 dX2_init_20

set_option maxHeartbeats 4000000 in
set_option maxRecDepth 100000 in
theorem c_X3_init (l : Launch) (dC : Nat → ClassId) (dI : Nat → Nat → Nat) (ja : Nat) (sa ta : Nat → Nat) (sz : Nat) (p0 : Int32) (p1 : Int32) (p2 : Int32) : Met l yX3_init wsX3_init ({ frames := 8, cells := 0, slots := 0, locals := 200 }) (va_Pc [.ref ja, .int p0, .int p1, .int p2] (ax_W (dC, dI) vwCl [(ja, .inr (7, [.int 0, .int 0, .int 0]))] [] sa ta sz)) (va_Qv (fun (u : Unit) => True) (fun (u : Unit) (t : State) => va_P (dC, dI) vwCl [(ja, .inr (7, [.int p0, .int p1, .int p2]))] t.heap ∧ va_K (dC, dI) vwCl [] t ∧ va_D (va_A [(ja, .inr (7, [.int 0, .int 0, .int 0]))] sz) [(ja, .inr (7, [.int p0, .int p1, .int p2]))]) (va_A [(ja, .inr (7, [.int 0, .int 0, .int 0]))] sz)) 0 0 (va_A [(ja, .inr (7, [.int 0, .int 0, .int 0]))] sz) := by
  refine Met.ofW (cc := cX3_init) (maxL := 4) (ret := none) (by decide) rfl ?_
  intro p e s m args below meth c s₁ B hml hv
  obtain ⟨rfl, hsz, hP, hK, hD0, hE⟩ := hv
  have hx := B.exec
  have hb := B.bytes
  have hr := B.returns
  have hts := atoms_spec (ws := wsX3_init) B.pre
  have hown : s.vm.findClass RX3 = some m.cls := findClass_of_methodNamed B.named
  have hlocks := B.notSynchronized
  have hin : meth.name = "<init>" := (name_of_methodNamed B.named B.method).1
  subst hsz
  have hD := hD0.self (sz := s.heap.size)
  generalize hAe : va_A [(ja, .inr (7, [.int 0, .int 0, .int 0]))] s.heap.size = A at hD hE ⊢
  have hA : ∀ q : Nat, s.heap.size ≤ q → A q := fun q h => by rw [← hAe]; exact Or.inr h
  have hS : va_S A s.heap s.heap [] := va_S.rf
  have hl := lv_entry ([.ref ja, .int p0, .int p1, .int p2]) (n := 4) (Nat.le_of_ble_eq_true rfl)
  rw [lg_entry_eq]
  generalize (lg_sl ([.ref ja, .int p0, .int p1, .int p2]) ++ List.replicate (4 - (lg_sl ([.ref ja, .int p0, .int p1, .int p2])).length) Slot.unset).toArray = ls at hl ⊢
  have hl : lv_has ls 4 [(0, .ref ja), (1, .int p0), (2, .int p1), (3, .int p2)] := hl
  have hP : va_P (dC, dI) vwCl [(ja, .inr (7, [.int 0, .int 0, .int 0]))] s.heap := hP
  refine lv_aload_n hx hb dX3_init_0 rfl (lv_at hl 0 rfl) ?_
  refine W.objInit hx hb hown (hts (.methodLink RX3 1 objectInit) (by decide +kernel)) (hts (.instanceMethod objectInit) (by decide +kernel)) (hts (.code objectInit ⟨#[0xb1]⟩ 1 none) (by decide +kernel)) rfl (by rw [hml]; exact hl.1) rfl dX3_init_1 (Nat.le_of_ble_eq_true rfl) (Nat.le_of_ble_eq_true rfl) ?_
  refine W.eq (g2 := F0 m 4 ls []) rfl ?_
  refine lv_aload_n hx hb dX3_init_4 rfl (lv_at hl 0 rfl) ?_
  refine lv_iload_n hx hb dX3_init_5 rfl (lv_at hl 1 rfl) ?_
  refine va_put (D := (dC, dI)) (ci := 7) (v := .int p0) (ty := .int) (C := RX3) (T := TX3) (N := 3) hx hb hts (by decide +kernel) tyX3 tyX3_ok nmX3 hown hK hP hD hS 0 rfl rfl 0 (by decide) (hts (.fieldLink RX3 7 "Diffractory$Source" "place" "I") (by decide +kernel)) (fun _ h9 => h9) rfl (by decide +kernel) rfl rfl (Nat.le_of_ble_eq_true rfl) dX3_init_6 (fun H locs hP hD hS => ?_)
  have hP : va_P (dC, dI) vwCl [(ja, .inr (7, [.int p0, .int 0, .int 0]))] H := hP
  have hD : va_D A [(ja, .inr (7, [.int p0, .int 0, .int 0]))] := hD
  refine lv_aload_n hx hb dX3_init_9 rfl (lv_at hl 0 rfl) ?_
  refine lv_iload_n hx hb dX3_init_10 rfl (lv_at hl 2 rfl) ?_
  refine va_put (D := (dC, dI)) (ci := 7) (v := .int p1) (ty := .int) (C := RX3) (T := TX3) (N := 3) hx hb hts (by decide +kernel) tyX3 tyX3_ok nmX3 hown hK hP hD hS 0 rfl rfl 1 (by decide) (hts (.fieldLink RX3 13 "Diffractory$Source" "phase" "I") (by decide +kernel)) (fun _ h9 => h9) rfl (by decide +kernel) rfl rfl (Nat.le_of_ble_eq_true rfl) dX3_init_11 (fun H locs hP hD hS => ?_)
  have hP : va_P (dC, dI) vwCl [(ja, .inr (7, [.int p0, .int p1, .int 0]))] H := hP
  have hD : va_D A [(ja, .inr (7, [.int p0, .int p1, .int 0]))] := hD
  refine lv_aload_n hx hb dX3_init_14 rfl (lv_at hl 0 rfl) ?_
  refine lv_iload_n hx hb dX3_init_15 rfl (lv_at hl 3 rfl) ?_
  refine va_put (D := (dC, dI)) (ci := 7) (v := .int p2) (ty := .int) (C := RX3) (T := TX3) (N := 3) hx hb hts (by decide +kernel) tyX3 tyX3_ok nmX3 hown hK hP hD hS 0 rfl rfl 2 (by decide) (hts (.fieldLink RX3 16 "Diffractory$Source" "strength" "I") (by decide +kernel)) (fun _ h9 => h9) rfl (by decide +kernel) rfl rfl (Nat.le_of_ble_eq_true rfl) dX3_init_16 (fun H locs hP hD hS => ?_)
  have hP : va_P (dC, dI) vwCl [(ja, .inr (7, [.int p0, .int p1, .int p2]))] H := hP
  have hD : va_D A [(ja, .inr (7, [.int p0, .int p1, .int p2]))] := hD
  refine W.widen (k := 0) (n := 0) (Nat.le_of_ble_eq_true rfl) (Nat.le_of_ble_eq_true rfl) ?_
  have hP9 := hP.sub (ws' := [(ja, .inr (7, [.int p0, .int p1, .int p2]))]) [0] rfl
  have hD9 := hD.sub (ws' := [(ja, .inr (7, [.int p0, .int p1, .int p2]))]) [0] (by decide) rfl
  have hK9 := hK.sub (tys' := []) [] rfl
  exact W.vret hx hb hr (fun t ht hW => ⟨⟨(), rfl, trivial, by rw [ht]; exact hP9, va_K.moved hW.alike hK9, hD9⟩, hS.F ht⟩) hS.2.2 dX3_init_19

set_option maxHeartbeats 4000000 in
set_option maxRecDepth 100000 in
theorem c_X1_init (l : Launch) (dC : Nat → ClassId) (dI : Nat → Nat → Nat) (ja : Nat) (sa ta : Nat → Nat) (sz : Nat) (p0 : Int32) (p1 : Int32) : Met l yX1_init wsX1_init ({ frames := 8, cells := 1, slots := 8, locals := 200 }) (va_Pc [.ref ja, .int p0, .int p1] (ax_W (dC, dI) vwCl [(ja, .inr (5, [.int 0, .int 0, .int 0, .int 0, .int 0, .null]))] [] sa ta sz)) (va_Qv (fun (u : Nat × ClassId) => True) (fun (u : Nat × ClassId) (t : State) => va_P (dC, dI) vwCl [(ja, .inr (5, [.int p0, .int p1, .int 1, .int 0, .int 0, .ref (u.1)])), ((u.1), .inl ((u.2), 8, .inl (fun _ => 0)))] t.heap ∧ va_K (dC, dI) vwCl [((u.2), .int)] t ∧ va_D (va_A [(ja, .inr (5, [.int 0, .int 0, .int 0, .int 0, .int 0, .null]))] sz) [(ja, .inr (5, [.int p0, .int p1, .int 1, .int 0, .int 0, .ref (u.1)])), ((u.1), .inl ((u.2), 8, .inl (fun _ => 0)))]) (va_A [(ja, .inr (5, [.int 0, .int 0, .int 0, .int 0, .int 0, .null]))] sz)) 1 8 (va_A [(ja, .inr (5, [.int 0, .int 0, .int 0, .int 0, .int 0, .null]))] sz) := by
  refine Met.ofW (cc := cX1_init) (maxL := 3) (ret := none) (by decide) rfl ?_
  intro p e s m args below meth c s₁ B hml hv
  obtain ⟨rfl, hsz, hP, hK, hD0, hE⟩ := hv
  have hx := B.exec
  have hb := B.bytes
  have hr := B.returns
  have hts := atoms_spec (ws := wsX1_init) B.pre
  have hown : s.vm.findClass RX1 = some m.cls := findClass_of_methodNamed B.named
  have hlocks := B.notSynchronized
  have hin : meth.name = "<init>" := (name_of_methodNamed B.named B.method).1
  subst hsz
  have hD := hD0.self (sz := s.heap.size)
  generalize hAe : va_A [(ja, .inr (5, [.int 0, .int 0, .int 0, .int 0, .int 0, .null]))] s.heap.size = A at hD hE ⊢
  have hA : ∀ q : Nat, s.heap.size ≤ q → A q := fun q h => by rw [← hAe]; exact Or.inr h
  have hS : va_S A s.heap s.heap [] := va_S.rf
  have hl := lv_entry ([.ref ja, .int p0, .int p1]) (n := 3) (Nat.le_of_ble_eq_true rfl)
  rw [lg_entry_eq]
  generalize (lg_sl ([.ref ja, .int p0, .int p1]) ++ List.replicate (3 - (lg_sl ([.ref ja, .int p0, .int p1])).length) Slot.unset).toArray = ls at hl ⊢
  have hl : lv_has ls 3 [(0, .ref ja), (1, .int p0), (2, .int p1)] := hl
  have hP : va_P (dC, dI) vwCl [(ja, .inr (5, [.int 0, .int 0, .int 0, .int 0, .int 0, .null]))] s.heap := hP
  refine lv_aload_n hx hb dX1_init_0 rfl (lv_at hl 0 rfl) ?_
  refine W.objInit hx hb hown (hts (.methodLink RX1 3 objectInit) (by decide +kernel)) (hts (.instanceMethod objectInit) (by decide +kernel)) (hts (.code objectInit ⟨#[0xb1]⟩ 1 none) (by decide +kernel)) rfl (by rw [hml]; exact hl.1) rfl dX1_init_1 (Nat.le_of_ble_eq_true rfl) (Nat.le_of_ble_eq_true rfl) ?_
  refine W.eq (g2 := F0 m 4 ls []) rfl ?_
  refine lv_aload_n hx hb dX1_init_4 rfl (lv_at hl 0 rfl) ?_
  refine lv_iconst (v := 1) hx hb dX1_init_5 (by decide) ?_
  refine va_put (D := (dC, dI)) (ci := 5) (v := .int 1) (ty := .boolean) (C := RX1) (T := TX1) (N := 6) hx hb hts (by decide +kernel) tyX1 tyX1_ok nmX1 hown hK hP hD hS 0 rfl rfl 2 (by decide) (hts (.fieldLink RX1 9 "Diffractory$Part" "isIn" "Z") (by decide +kernel)) (fun _ h9 => h9) rfl (by decide +kernel) rfl rfl (Nat.le_of_ble_eq_true rfl) dX1_init_6 (fun H locs hP hD hS => ?_)
  have hP : va_P (dC, dI) vwCl [(ja, .inr (5, [.int 0, .int 0, .int 1, .int 0, .int 0, .null]))] H := hP
  have hD : va_D A [(ja, .inr (5, [.int 0, .int 0, .int 1, .int 0, .int 0, .null]))] := hD
  refine lv_aload_n hx hb dX1_init_9 rfl (lv_at hl 0 rfl) ?_
  refine lv_iconst (v := 0) hx hb dX1_init_10 (by decide) ?_
  refine va_put (D := (dC, dI)) (ci := 5) (v := .int 0) (ty := .int) (C := RX1) (T := TX1) (N := 6) hx hb hts (by decide +kernel) tyX1 tyX1_ok nmX1 hown hK hP hD hS 0 rfl rfl 3 (by decide) (hts (.fieldLink RX1 15 "Diffractory$Part" "dirtyPlaces" "I") (by decide +kernel)) (fun _ h9 => h9) rfl (by decide +kernel) rfl rfl (Nat.le_of_ble_eq_true rfl) dX1_init_11 (fun H locs hP hD hS => ?_)
  have hP : va_P (dC, dI) vwCl [(ja, .inr (5, [.int 0, .int 0, .int 1, .int 0, .int 0, .null]))] H := hP
  have hD : va_D A [(ja, .inr (5, [.int 0, .int 0, .int 1, .int 0, .int 0, .null]))] := hD
  refine lv_aload_n hx hb dX1_init_14 rfl (lv_at hl 0 rfl) ?_
  refine lv_iconst (v := 0) hx hb dX1_init_15 (by decide) ?_
  refine va_put (D := (dC, dI)) (ci := 5) (v := .int 0) (ty := .int) (C := RX1) (T := TX1) (N := 6) hx hb hts (by decide +kernel) tyX1 tyX1_ok nmX1 hown hK hP hD hS 0 rfl rfl 4 (by decide) (hts (.fieldLink RX1 19 "Diffractory$Part" "timesExposed" "I") (by decide +kernel)) (fun _ h9 => h9) rfl (by decide +kernel) rfl rfl (Nat.le_of_ble_eq_true rfl) dX1_init_16 (fun H locs hP hD hS => ?_)
  have hP : va_P (dC, dI) vwCl [(ja, .inr (5, [.int 0, .int 0, .int 1, .int 0, .int 0, .null]))] H := hP
  have hD : va_D A [(ja, .inr (5, [.int 0, .int 0, .int 1, .int 0, .int 0, .null]))] := hD
  refine lv_aload_n hx hb dX1_init_19 rfl (lv_at hl 0 rfl) ?_
  refine lv_bipush (v := 8) hx hb dX1_init_20 (by decide) ?_
  refine va_newa (atype := .int) (ty := .int) (N' := 8) (a0 := (8, .inl (fun _ => 0))) hx hb (hts (.arrayClass .int) (by decide +kernel)) rfl hK hP hD hS hA (fun _ => rfl) (by decide) (by decide) (by decide) (Nat.le_of_ble_eq_true rfl) (Nat.le_of_ble_eq_true rfl) dX1_init_22 (fun q_1 cA_2 H hK hP hD hS => ?_)
  have hP : va_P (dC, dI) vwCl [(ja, .inr (5, [.int 0, .int 0, .int 1, .int 0, .int 0, .null])), (q_1, .inl (cA_2, 8, .inl (fun _ => 0)))] H := hP
  have hD : va_D A [(ja, .inr (5, [.int 0, .int 0, .int 1, .int 0, .int 0, .null])), (q_1, .inl (cA_2, 8, .inl (fun _ => 0)))] := hD
  have hK : va_K (dC, dI) vwCl [(cA_2, .int)] s := hK
  refine va_putF (D := (dC, dI)) (ci := 5) (v := .ref q_1) (ty := .array .int) (C := RX1) (T := TX1) (N := 6) hx hb hts (by decide +kernel) tyX1 tyX1_ok nmX1 hown hK hP hD hS 0 rfl rfl 5 (by decide) (hts (.fieldLink RX1 22 "Diffractory$Part" "exposures" "[I") (by decide +kernel)) (fun _ h9 => h9) rfl hin rfl (by decide +kernel) rfl rfl (Nat.le_of_ble_eq_true rfl) dX1_init_24 (fun H locs hP hD hS => ?_)
  have hP : va_P (dC, dI) vwCl [(ja, .inr (5, [.int 0, .int 0, .int 1, .int 0, .int 0, .ref q_1])), (q_1, .inl (cA_2, 8, .inl (fun _ => 0)))] H := hP
  have hD : va_D A [(ja, .inr (5, [.int 0, .int 0, .int 1, .int 0, .int 0, .ref q_1])), (q_1, .inl (cA_2, 8, .inl (fun _ => 0)))] := hD
  refine lv_aload_n hx hb dX1_init_27 rfl (lv_at hl 0 rfl) ?_
  refine lv_iload_n hx hb dX1_init_28 rfl (lv_at hl 1 rfl) ?_
  refine va_putF (D := (dC, dI)) (ci := 5) (v := .int p0) (ty := .int) (C := RX1) (T := TX1) (N := 6) hx hb hts (by decide +kernel) tyX1 tyX1_ok nmX1 hown hK hP hD hS 0 rfl rfl 0 (by decide) (hts (.fieldLink RX1 26 "Diffractory$Part" "kind" "I") (by decide +kernel)) (fun _ h9 => h9) rfl hin rfl (by decide +kernel) rfl rfl (Nat.le_of_ble_eq_true rfl) dX1_init_29 (fun H locs hP hD hS => ?_)
  have hP : va_P (dC, dI) vwCl [(ja, .inr (5, [.int p0, .int 0, .int 1, .int 0, .int 0, .ref q_1])), (q_1, .inl (cA_2, 8, .inl (fun _ => 0)))] H := hP
  have hD : va_D A [(ja, .inr (5, [.int p0, .int 0, .int 1, .int 0, .int 0, .ref q_1])), (q_1, .inl (cA_2, 8, .inl (fun _ => 0)))] := hD
  refine lv_aload_n hx hb dX1_init_32 rfl (lv_at hl 0 rfl) ?_
  refine lv_iload_n hx hb dX1_init_33 rfl (lv_at hl 2 rfl) ?_
  refine va_put (D := (dC, dI)) (ci := 5) (v := .int p1) (ty := .int) (C := RX1) (T := TX1) (N := 6) hx hb hts (by decide +kernel) tyX1 tyX1_ok nmX1 hown hK hP hD hS 0 rfl rfl 1 (by decide) (hts (.fieldLink RX1 29 "Diffractory$Part" "number" "I") (by decide +kernel)) (fun _ h9 => h9) rfl (by decide +kernel) rfl rfl (Nat.le_of_ble_eq_true rfl) dX1_init_34 (fun H locs hP hD hS => ?_)
  have hP : va_P (dC, dI) vwCl [(ja, .inr (5, [.int p0, .int p1, .int 1, .int 0, .int 0, .ref q_1])), (q_1, .inl (cA_2, 8, .inl (fun _ => 0)))] H := hP
  have hD : va_D A [(ja, .inr (5, [.int p0, .int p1, .int 1, .int 0, .int 0, .ref q_1])), (q_1, .inl (cA_2, 8, .inl (fun _ => 0)))] := hD
  refine W.widen (k := 1) (n := 8) (Nat.le_of_ble_eq_true rfl) (Nat.le_of_ble_eq_true rfl) ?_
  have hP9 := hP.sub (ws' := [(ja, .inr (5, [.int p0, .int p1, .int 1, .int 0, .int 0, .ref q_1])), (q_1, .inl (cA_2, 8, .inl (fun _ => 0)))]) [0, 1] rfl
  have hD9 := hD.sub (ws' := [(ja, .inr (5, [.int p0, .int p1, .int 1, .int 0, .int 0, .ref q_1])), (q_1, .inl (cA_2, 8, .inl (fun _ => 0)))]) [0, 1] (by decide) rfl
  have hK9 := hK.sub (tys' := [(cA_2, .int)]) [0] rfl
  exact W.vret hx hb hr (fun t ht hW => ⟨⟨(q_1, cA_2), rfl, trivial, by rw [ht]; exact hP9, va_K.moved hW.alike hK9, hD9⟩, hS.F ht⟩) hS.2.2 dX1_init_37

set_option maxHeartbeats 4000000 in
set_option maxRecDepth 100000 in
theorem c_X4_init (l : Launch) (dC : Nat → ClassId) (dI : Nat → Nat → Nat) (x : Nat) (sa ta : Nat → Nat) (sz : Nat) : Met l yX4_init wsX4_init ({ frames := 16, cells := 8, slots := 159, locals := 400 }) (va_Pc [.ref x] (ax_W (dC, dI) vwCl [(x, .inr (8, [.null, .null, .int 0, .int 0, .null, .null]))] [] sa ta sz)) (va_Qv (fun (u : Nat × Nat × Nat × Nat × Nat × Nat × Nat × Nat × ClassId × ClassId × ClassId × ClassId × ClassId × ClassId) => True) (fun (u : Nat × Nat × Nat × Nat × Nat × Nat × Nat × Nat × ClassId × ClassId × ClassId × ClassId × ClassId × ClassId) (t : State) => va_P (dC, dI) vwCl [(x, .inr (8, [.ref (u.1), .ref (u.2.1), .int 0, .int 0, .ref (u.2.2.1), .ref (u.2.2.2.2.2.1)])), ((u.1), .inl ((u.2.2.2.2.2.2.2.2.1), 3, .inr (.inr (.inr (.inr (fun _ => none)))))), ((u.2.1), .inl ((u.2.2.2.2.2.2.2.2.2.1), 8, .inr (.inr (.inr (.inr (fun _ => none)))))), ((u.2.2.1), .inr (4, [.ref (u.2.2.2.1), .ref (u.2.2.2.2.1)])), ((u.2.2.2.1), .inl ((u.2.2.2.2.2.2.2.2.2.2.1), 64, .inr (.inl (fun _ => 0)))), ((u.2.2.2.2.1), .inl ((u.2.2.2.2.2.2.2.2.2.2.2.1), 64, .inr (.inl (fun _ => 0)))), ((u.2.2.2.2.2.1), .inr (6, [.ref (u.2.2.2.2.2.2.1), .ref (u.2.2.2.2.2.2.2.1)])), ((u.2.2.2.2.2.2.1), .inl ((u.2.2.2.2.2.2.2.2.2.2.2.2.1), 8, .inr (.inl (fun _ => 0)))), ((u.2.2.2.2.2.2.2.1), .inl ((u.2.2.2.2.2.2.2.2.2.2.2.2.2), 8, .inr (.inl (fun _ => 0))))] t.heap ∧ va_K (dC, dI) vwCl [((u.2.2.2.2.2.2.2.2.1), .object "Diffractory$Source"), ((u.2.2.2.2.2.2.2.2.2.1), .object "Diffractory$Part"), ((u.2.2.2.2.2.2.2.2.2.2.1), .long), ((u.2.2.2.2.2.2.2.2.2.2.2.1), .long), ((u.2.2.2.2.2.2.2.2.2.2.2.2.1), .long), ((u.2.2.2.2.2.2.2.2.2.2.2.2.2), .long)] t ∧ va_D (va_A [(x, .inr (8, [.null, .null, .int 0, .int 0, .null, .null]))] sz) [(x, .inr (8, [.ref (u.1), .ref (u.2.1), .int 0, .int 0, .ref (u.2.2.1), .ref (u.2.2.2.2.2.1)])), ((u.1), .inl ((u.2.2.2.2.2.2.2.2.1), 3, .inr (.inr (.inr (.inr (fun _ => none)))))), ((u.2.1), .inl ((u.2.2.2.2.2.2.2.2.2.1), 8, .inr (.inr (.inr (.inr (fun _ => none)))))), ((u.2.2.1), .inr (4, [.ref (u.2.2.2.1), .ref (u.2.2.2.2.1)])), ((u.2.2.2.1), .inl ((u.2.2.2.2.2.2.2.2.2.2.1), 64, .inr (.inl (fun _ => 0)))), ((u.2.2.2.2.1), .inl ((u.2.2.2.2.2.2.2.2.2.2.2.1), 64, .inr (.inl (fun _ => 0)))), ((u.2.2.2.2.2.1), .inr (6, [.ref (u.2.2.2.2.2.2.1), .ref (u.2.2.2.2.2.2.2.1)])), ((u.2.2.2.2.2.2.1), .inl ((u.2.2.2.2.2.2.2.2.2.2.2.2.1), 8, .inr (.inl (fun _ => 0)))), ((u.2.2.2.2.2.2.2.1), .inl ((u.2.2.2.2.2.2.2.2.2.2.2.2.2), 8, .inr (.inl (fun _ => 0))))]) (va_A [(x, .inr (8, [.null, .null, .int 0, .int 0, .null, .null]))] sz)) 8 159 (va_A [(x, .inr (8, [.null, .null, .int 0, .int 0, .null, .null]))] sz) := by
  refine Met.ofW (cc := cX4_init) (maxL := 1) (ret := none) (by decide) rfl ?_
  intro p e s m args below meth c s₁ B hml hv
  obtain ⟨rfl, hsz, hP, hK, hD0, hE⟩ := hv
  have hx := B.exec
  have hb := B.bytes
  have hr := B.returns
  have hts := atoms_spec (ws := wsX4_init) B.pre
  have hown : s.vm.findClass RX4 = some m.cls := findClass_of_methodNamed B.named
  have hlocks := B.notSynchronized
  have hin : meth.name = "<init>" := (name_of_methodNamed B.named B.method).1
  subst hsz
  have hD := hD0.self (sz := s.heap.size)
  generalize hAe : va_A [(x, .inr (8, [.null, .null, .int 0, .int 0, .null, .null]))] s.heap.size = A at hD hE ⊢
  have hA : ∀ q : Nat, s.heap.size ≤ q → A q := fun q h => by rw [← hAe]; exact Or.inr h
  have hS : va_S A s.heap s.heap [] := va_S.rf
  have hl := lv_entry ([.ref x]) (n := 1) (Nat.le_of_ble_eq_true rfl)
  rw [lg_entry_eq]
  generalize (lg_sl ([.ref x]) ++ List.replicate (1 - (lg_sl ([.ref x])).length) Slot.unset).toArray = ls at hl ⊢
  have hl : lv_has ls 1 [(0, .ref x)] := hl
  have hP : va_P (dC, dI) vwCl [(x, .inr (8, [.null, .null, .int 0, .int 0, .null, .null]))] s.heap := hP
  refine lv_aload_n hx hb dX4_init_0 rfl (lv_at hl 0 rfl) ?_
  refine W.objInit hx hb hown (hts (.methodLink RX4 1 objectInit) (by decide +kernel)) (hts (.instanceMethod objectInit) (by decide +kernel)) (hts (.code objectInit ⟨#[0xb1]⟩ 1 none) (by decide +kernel)) rfl (by rw [hml]; exact hl.1) rfl dX4_init_1 (Nat.le_of_ble_eq_true rfl) (Nat.le_of_ble_eq_true rfl) ?_
  refine W.eq (g2 := F0 m 4 ls []) rfl ?_
  refine lv_aload_n hx hb dX4_init_4 rfl (lv_at hl 0 rfl) ?_
  refine lv_iconst (v := 3) hx hb dX4_init_5 (by decide) ?_
  refine va_newq (C := "Diffractory$Source") (N' := 3) hx hb hown (hts (.classLink RX4 9 "Diffractory$Source") (by decide +kernel)) (hE.a0) hK hP hD hS hA (by decide) (by decide) (by decide) (Nat.le_of_ble_eq_true rfl) (Nat.le_of_ble_eq_true rfl) dX4_init_6 (fun q_1 cA_2 H hK hP hD hS => ?_)
  have hP : va_P (dC, dI) vwCl [(x, .inr (8, [.null, .null, .int 0, .int 0, .null, .null])), (q_1, .inl (cA_2, 3, .inr (.inr (.inr (.inr (fun _ => none))))))] H := hP
  have hD : va_D A [(x, .inr (8, [.null, .null, .int 0, .int 0, .null, .null])), (q_1, .inl (cA_2, 3, .inr (.inr (.inr (.inr (fun _ => none))))))] := hD
  have hK : va_K (dC, dI) vwCl [(cA_2, .object "Diffractory$Source")] s := hK
  refine va_putF (D := (dC, dI)) (ci := 8) (v := .ref q_1) (ty := .array (.object "Diffractory$Source")) (C := RX4) (T := TX4) (N := 6) hx hb hts (by decide +kernel) tyX4 tyX4_ok nmX4 hown hK hP hD hS 0 rfl rfl 0 (by decide) (hts (.fieldLink RX4 11 "Diffractory" "sources" "[LDiffractory$Source;") (by decide +kernel)) (fun _ h9 => h9) rfl hin rfl (by decide +kernel) rfl rfl (Nat.le_of_ble_eq_true rfl) dX4_init_9 (fun H locs hP hD hS => ?_)
  have hP : va_P (dC, dI) vwCl [(x, .inr (8, [.ref q_1, .null, .int 0, .int 0, .null, .null])), (q_1, .inl (cA_2, 3, .inr (.inr (.inr (.inr (fun _ => none))))))] H := hP
  have hD : va_D A [(x, .inr (8, [.ref q_1, .null, .int 0, .int 0, .null, .null])), (q_1, .inl (cA_2, 3, .inr (.inr (.inr (.inr (fun _ => none))))))] := hD
  refine lv_aload_n hx hb dX4_init_12 rfl (lv_at hl 0 rfl) ?_
  refine lv_bipush (v := 8) hx hb dX4_init_13 (by decide) ?_
  refine va_newq (C := "Diffractory$Part") (N' := 8) hx hb hown (hts (.classLink RX4 15 "Diffractory$Part") (by decide +kernel)) (hE.a1) hK hP hD hS hA (by decide) (by decide) (by decide) (Nat.le_of_ble_eq_true rfl) (Nat.le_of_ble_eq_true rfl) dX4_init_15 (fun q_3 cA_4 H hK hP hD hS => ?_)
  have hP : va_P (dC, dI) vwCl [(x, .inr (8, [.ref q_1, .null, .int 0, .int 0, .null, .null])), (q_1, .inl (cA_2, 3, .inr (.inr (.inr (.inr (fun _ => none)))))), (q_3, .inl (cA_4, 8, .inr (.inr (.inr (.inr (fun _ => none))))))] H := hP
  have hD : va_D A [(x, .inr (8, [.ref q_1, .null, .int 0, .int 0, .null, .null])), (q_1, .inl (cA_2, 3, .inr (.inr (.inr (.inr (fun _ => none)))))), (q_3, .inl (cA_4, 8, .inr (.inr (.inr (.inr (fun _ => none))))))] := hD
  have hK : va_K (dC, dI) vwCl [(cA_2, .object "Diffractory$Source"), (cA_4, .object "Diffractory$Part")] s := hK
  refine va_putF (D := (dC, dI)) (ci := 8) (v := .ref q_3) (ty := .array (.object "Diffractory$Part")) (C := RX4) (T := TX4) (N := 6) hx hb hts (by decide +kernel) tyX4 tyX4_ok nmX4 hown hK hP hD hS 0 rfl rfl 1 (by decide) (hts (.fieldLink RX4 17 "Diffractory" "parts" "[LDiffractory$Part;") (by decide +kernel)) (fun _ h9 => h9) rfl hin rfl (by decide +kernel) rfl rfl (Nat.le_of_ble_eq_true rfl) dX4_init_18 (fun H locs hP hD hS => ?_)
  have hP : va_P (dC, dI) vwCl [(x, .inr (8, [.ref q_1, .ref q_3, .int 0, .int 0, .null, .null])), (q_1, .inl (cA_2, 3, .inr (.inr (.inr (.inr (fun _ => none)))))), (q_3, .inl (cA_4, 8, .inr (.inr (.inr (.inr (fun _ => none))))))] H := hP
  have hD : va_D A [(x, .inr (8, [.ref q_1, .ref q_3, .int 0, .int 0, .null, .null])), (q_1, .inl (cA_2, 3, .inr (.inr (.inr (.inr (fun _ => none)))))), (q_3, .inl (cA_4, 8, .inr (.inr (.inr (.inr (fun _ => none))))))] := hD
  refine lv_aload_n hx hb dX4_init_21 rfl (lv_at hl 0 rfl) ?_
  refine va_new (ci := 4) (fs := [.null, .null]) (C := RX0) (T := TX0) (N := 2) hx hb hts (by decide +kernel) tyX0 tyX0_ok hown (hts (.classLink RX4 21 RX0) (by decide +kernel)) (hts (.instantiable RX0 2) (by decide +kernel)) (hts (.initialized RX0) (by decide +kernel)) hK hP hD hS hA rfl (fun j hj => by rcases (show j = 0 ∨ j = 1 by omega) with rfl | rfl <;> rfl) (Nat.le_of_ble_eq_true rfl) (Nat.le_of_ble_eq_true rfl) dX4_init_22 (fun q_5 H hP hD hS => ?_)
  have hP : va_P (dC, dI) vwCl [(x, .inr (8, [.ref q_1, .ref q_3, .int 0, .int 0, .null, .null])), (q_1, .inl (cA_2, 3, .inr (.inr (.inr (.inr (fun _ => none)))))), (q_3, .inl (cA_4, 8, .inr (.inr (.inr (.inr (fun _ => none)))))), (q_5, .inr (4, [.null, .null]))] H := hP
  have hD : va_D A [(x, .inr (8, [.ref q_1, .ref q_3, .int 0, .int 0, .null, .null])), (q_1, .inl (cA_2, 3, .inr (.inr (.inr (.inr (fun _ => none)))))), (q_3, .inl (cA_4, 8, .inr (.inr (.inr (.inr (fun _ => none)))))), (q_5, .inr (4, [.null, .null]))] := hD
  refine lv_dup hx hb dX4_init_25 rfl ?_
  have hPc := hP.sub (ws' := [(q_5, .inr (4, [.null, .null]))]) [3] rfl
  have hKc := hK.sub (tys' := []) [] rfl
  have hDc := hD.sub (ws' := [(q_5, .inr (4, [.null, .null]))]) [3] (by decide) rfl
  have hFc := va_free (wc := [(q_5, .inr (4, [.null, .null]))]) hD hS hA [3] rfl
  refine va_callv (va_runIN (As := []) (rest := [.ref q_5, .ref x]) ⟨hx, hb, hml, hown, hts⟩ (c_X0_init l dC dI q_5 sa ta H.size) ⟨va_cnB 0 hts gX4_init_X0_init_n23 rfl rfl rfl hE.n0 (hts (.initialized RX0) (by decide +kernel)) (by decide +kernel) ⟨Nat.le_of_ble_eq_true rfl, Nat.le_of_ble_eq_true rfl⟩, rfl, hts (.instanceMethod yX0_init) (by decide +kernel)⟩ ⟨ax_fbW, ax_prW hPc hKc hDc hS hFc hE⟩ rfl rfl hl.1 rfl (lv_room (Nat.le_of_ble_eq_true rfl)) dX4_init_26 ⟨Nat.le_of_ble_eq_true rfl, Nat.le_of_ble_eq_true rfl⟩) hS (fun q _ h9 => hFc q h9) hFc (fun u_8  t H locs ht hvm hw_7 hB hz1 hk1 hS => ?_)
  obtain ⟨qa_9, qb_10, ca_11, cb_12⟩ := u_8
  obtain ⟨hP1, hK1, hD1⟩ := hB
  rw [ht] at hP1
  have hK1 := va_K.moved hvm.symm hK1
  obtain ⟨hP, hD⟩ := va_join (wr := [(x, .inr (8, [.ref q_1, .ref q_3, .int 0, .int 0, .null, .null])), (q_1, .inl (cA_2, 3, .inr (.inr (.inr (.inr (fun _ => none)))))), (q_3, .inl (cA_4, 8, .inr (.inr (.inr (.inr (fun _ => none))))))]) (w1 := [(q_5, .inr (4, [.ref qa_9, .ref qb_10])), (qa_9, .inl (ca_11, 64, .inr (.inl (fun _ => 0)))), (qb_10, .inl (cb_12, 64, .inr (.inl (fun _ => 0))))]) hP hD [3] [0, 1, 2] rfl rfl (by decide) (by decide) hk1 hFc hP1 hD1
  have hK := hK.app hK1
  have hK := hK.sub (tys' := [(cA_2, .object "Diffractory$Source"), (cA_4, .object "Diffractory$Part"), (ca_11, .long), (cb_12, .long)]) [0, 1, 2, 3] rfl
  have hP : va_P (dC, dI) vwCl [(x, .inr (8, [.ref q_1, .ref q_3, .int 0, .int 0, .null, .null])), (q_1, .inl (cA_2, 3, .inr (.inr (.inr (.inr (fun _ => none)))))), (q_3, .inl (cA_4, 8, .inr (.inr (.inr (.inr (fun _ => none)))))), (q_5, .inr (4, [.ref qa_9, .ref qb_10])), (qa_9, .inl (ca_11, 64, .inr (.inl (fun _ => 0)))), (qb_10, .inl (cb_12, 64, .inr (.inl (fun _ => 0))))] H := hP
  have hD : va_D A [(x, .inr (8, [.ref q_1, .ref q_3, .int 0, .int 0, .null, .null])), (q_1, .inl (cA_2, 3, .inr (.inr (.inr (.inr (fun _ => none)))))), (q_3, .inl (cA_4, 8, .inr (.inr (.inr (.inr (fun _ => none)))))), (q_5, .inr (4, [.ref qa_9, .ref qb_10])), (qa_9, .inl (ca_11, 64, .inr (.inl (fun _ => 0)))), (qb_10, .inl (cb_12, 64, .inr (.inl (fun _ => 0))))] := hD
  refine va_putF (D := (dC, dI)) (ci := 8) (v := .ref q_5) (ty := .object "Diffractory$Light") (C := RX4) (T := TX4) (N := 6) hx hb hts (by decide +kernel) tyX4 tyX4_ok nmX4 hown hK hP hD hS 0 rfl rfl 4 (by decide) (hts (.fieldLink RX4 24 "Diffractory" "light" "LDiffractory$Light;") (by decide +kernel)) (fun _ h9 => h9) rfl hin rfl (by decide +kernel) rfl rfl (Nat.le_of_ble_eq_true rfl) dX4_init_29 (fun H locs hP hD hS => ?_)
  have hP : va_P (dC, dI) vwCl [(x, .inr (8, [.ref q_1, .ref q_3, .int 0, .int 0, .ref q_5, .null])), (q_1, .inl (cA_2, 3, .inr (.inr (.inr (.inr (fun _ => none)))))), (q_3, .inl (cA_4, 8, .inr (.inr (.inr (.inr (fun _ => none)))))), (q_5, .inr (4, [.ref qa_9, .ref qb_10])), (qa_9, .inl (ca_11, 64, .inr (.inl (fun _ => 0)))), (qb_10, .inl (cb_12, 64, .inr (.inl (fun _ => 0))))] H := hP
  have hD : va_D A [(x, .inr (8, [.ref q_1, .ref q_3, .int 0, .int 0, .ref q_5, .null])), (q_1, .inl (cA_2, 3, .inr (.inr (.inr (.inr (fun _ => none)))))), (q_3, .inl (cA_4, 8, .inr (.inr (.inr (.inr (fun _ => none)))))), (q_5, .inr (4, [.ref qa_9, .ref qb_10])), (qa_9, .inl (ca_11, 64, .inr (.inl (fun _ => 0)))), (qb_10, .inl (cb_12, 64, .inr (.inl (fun _ => 0))))] := hD
  refine lv_aload_n hx hb dX4_init_32 rfl (lv_at hl 0 rfl) ?_
  refine va_new (ci := 6) (fs := [.null, .null]) (C := RX2) (T := TX2) (N := 2) hx hb hts (by decide +kernel) tyX2 tyX2_ok hown (hts (.classLink RX4 28 RX2) (by decide +kernel)) (hts (.instantiable RX2 2) (by decide +kernel)) (hts (.initialized RX2) (by decide +kernel)) hK hP hD hS hA rfl (fun j hj => by rcases (show j = 0 ∨ j = 1 by omega) with rfl | rfl <;> rfl) (Nat.le_of_ble_eq_true rfl) (Nat.le_of_ble_eq_true rfl) dX4_init_33 (fun q_13 H hP hD hS => ?_)
  have hP : va_P (dC, dI) vwCl [(x, .inr (8, [.ref q_1, .ref q_3, .int 0, .int 0, .ref q_5, .null])), (q_1, .inl (cA_2, 3, .inr (.inr (.inr (.inr (fun _ => none)))))), (q_3, .inl (cA_4, 8, .inr (.inr (.inr (.inr (fun _ => none)))))), (q_5, .inr (4, [.ref qa_9, .ref qb_10])), (qa_9, .inl (ca_11, 64, .inr (.inl (fun _ => 0)))), (qb_10, .inl (cb_12, 64, .inr (.inl (fun _ => 0)))), (q_13, .inr (6, [.null, .null]))] H := hP
  have hD : va_D A [(x, .inr (8, [.ref q_1, .ref q_3, .int 0, .int 0, .ref q_5, .null])), (q_1, .inl (cA_2, 3, .inr (.inr (.inr (.inr (fun _ => none)))))), (q_3, .inl (cA_4, 8, .inr (.inr (.inr (.inr (fun _ => none)))))), (q_5, .inr (4, [.ref qa_9, .ref qb_10])), (qa_9, .inl (ca_11, 64, .inr (.inl (fun _ => 0)))), (qb_10, .inl (cb_12, 64, .inr (.inl (fun _ => 0)))), (q_13, .inr (6, [.null, .null]))] := hD
  refine lv_dup hx hb dX4_init_36 rfl ?_
  have hPc := hP.sub (ws' := [(q_13, .inr (6, [.null, .null]))]) [6] rfl
  have hKc := hK.sub (tys' := []) [] rfl
  have hDc := hD.sub (ws' := [(q_13, .inr (6, [.null, .null]))]) [6] (by decide) rfl
  have hFc := va_free (wc := [(q_13, .inr (6, [.null, .null]))]) hD hS hA [6] rfl
  refine va_callv (va_runIN (As := []) (rest := [.ref q_13, .ref x]) ⟨hx, hb, hml, hown, hts⟩ (c_X2_init l dC dI q_13 sa ta H.size) ⟨va_cnB 0 hts gX4_init_X2_init_n30 rfl rfl rfl hE.n1 (hts (.initialized RX2) (by decide +kernel)) (by decide +kernel) ⟨Nat.le_of_ble_eq_true rfl, Nat.le_of_ble_eq_true rfl⟩, rfl, hts (.instanceMethod yX2_init) (by decide +kernel)⟩ ⟨ax_fbW, ax_prW hPc hKc hDc hS hFc hE⟩ rfl rfl hl.1 rfl (lv_room (Nat.le_of_ble_eq_true rfl)) dX4_init_37 ⟨Nat.le_of_ble_eq_true rfl, Nat.le_of_ble_eq_true rfl⟩) hS (fun q _ h9 => hFc q h9) hFc (fun u_16  t H locs ht hvm hw_15 hB hz1 hk1 hS => ?_)
  obtain ⟨qa_17, qb_18, ca_19, cb_20⟩ := u_16
  obtain ⟨hP1, hK1, hD1⟩ := hB
  rw [ht] at hP1
  have hK1 := va_K.moved hvm.symm hK1
  obtain ⟨hP, hD⟩ := va_join (wr := [(x, .inr (8, [.ref q_1, .ref q_3, .int 0, .int 0, .ref q_5, .null])), (q_1, .inl (cA_2, 3, .inr (.inr (.inr (.inr (fun _ => none)))))), (q_3, .inl (cA_4, 8, .inr (.inr (.inr (.inr (fun _ => none)))))), (q_5, .inr (4, [.ref qa_9, .ref qb_10])), (qa_9, .inl (ca_11, 64, .inr (.inl (fun _ => 0)))), (qb_10, .inl (cb_12, 64, .inr (.inl (fun _ => 0))))]) (w1 := [(q_13, .inr (6, [.ref qa_17, .ref qb_18])), (qa_17, .inl (ca_19, 8, .inr (.inl (fun _ => 0)))), (qb_18, .inl (cb_20, 8, .inr (.inl (fun _ => 0))))]) hP hD [6] [0, 1, 2, 3, 4, 5] rfl rfl (by decide) (by decide) hk1 hFc hP1 hD1
  have hK := hK.app hK1
  have hK := hK.sub (tys' := [(cA_2, .object "Diffractory$Source"), (cA_4, .object "Diffractory$Part"), (ca_11, .long), (cb_12, .long), (ca_19, .long), (cb_20, .long)]) [0, 1, 2, 3, 4, 5] rfl
  have hP : va_P (dC, dI) vwCl [(x, .inr (8, [.ref q_1, .ref q_3, .int 0, .int 0, .ref q_5, .null])), (q_1, .inl (cA_2, 3, .inr (.inr (.inr (.inr (fun _ => none)))))), (q_3, .inl (cA_4, 8, .inr (.inr (.inr (.inr (fun _ => none)))))), (q_5, .inr (4, [.ref qa_9, .ref qb_10])), (qa_9, .inl (ca_11, 64, .inr (.inl (fun _ => 0)))), (qb_10, .inl (cb_12, 64, .inr (.inl (fun _ => 0)))), (q_13, .inr (6, [.ref qa_17, .ref qb_18])), (qa_17, .inl (ca_19, 8, .inr (.inl (fun _ => 0)))), (qb_18, .inl (cb_20, 8, .inr (.inl (fun _ => 0))))] H := hP
  have hD : va_D A [(x, .inr (8, [.ref q_1, .ref q_3, .int 0, .int 0, .ref q_5, .null])), (q_1, .inl (cA_2, 3, .inr (.inr (.inr (.inr (fun _ => none)))))), (q_3, .inl (cA_4, 8, .inr (.inr (.inr (.inr (fun _ => none)))))), (q_5, .inr (4, [.ref qa_9, .ref qb_10])), (qa_9, .inl (ca_11, 64, .inr (.inl (fun _ => 0)))), (qb_10, .inl (cb_12, 64, .inr (.inl (fun _ => 0)))), (q_13, .inr (6, [.ref qa_17, .ref qb_18])), (qa_17, .inl (ca_19, 8, .inr (.inl (fun _ => 0)))), (qb_18, .inl (cb_20, 8, .inr (.inl (fun _ => 0))))] := hD
  refine va_putF (D := (dC, dI)) (ci := 8) (v := .ref q_13) (ty := .object "Diffractory$Row") (C := RX4) (T := TX4) (N := 6) hx hb hts (by decide +kernel) tyX4 tyX4_ok nmX4 hown hK hP hD hS 0 rfl rfl 5 (by decide) (hts (.fieldLink RX4 31 "Diffractory" "row" "LDiffractory$Row;") (by decide +kernel)) (fun _ h9 => h9) rfl hin rfl (by decide +kernel) rfl rfl (Nat.le_of_ble_eq_true rfl) dX4_init_40 (fun H locs hP hD hS => ?_)
  have hP : va_P (dC, dI) vwCl [(x, .inr (8, [.ref q_1, .ref q_3, .int 0, .int 0, .ref q_5, .ref q_13])), (q_1, .inl (cA_2, 3, .inr (.inr (.inr (.inr (fun _ => none)))))), (q_3, .inl (cA_4, 8, .inr (.inr (.inr (.inr (fun _ => none)))))), (q_5, .inr (4, [.ref qa_9, .ref qb_10])), (qa_9, .inl (ca_11, 64, .inr (.inl (fun _ => 0)))), (qb_10, .inl (cb_12, 64, .inr (.inl (fun _ => 0)))), (q_13, .inr (6, [.ref qa_17, .ref qb_18])), (qa_17, .inl (ca_19, 8, .inr (.inl (fun _ => 0)))), (qb_18, .inl (cb_20, 8, .inr (.inl (fun _ => 0))))] H := hP
  have hD : va_D A [(x, .inr (8, [.ref q_1, .ref q_3, .int 0, .int 0, .ref q_5, .ref q_13])), (q_1, .inl (cA_2, 3, .inr (.inr (.inr (.inr (fun _ => none)))))), (q_3, .inl (cA_4, 8, .inr (.inr (.inr (.inr (fun _ => none)))))), (q_5, .inr (4, [.ref qa_9, .ref qb_10])), (qa_9, .inl (ca_11, 64, .inr (.inl (fun _ => 0)))), (qb_10, .inl (cb_12, 64, .inr (.inl (fun _ => 0)))), (q_13, .inr (6, [.ref qa_17, .ref qb_18])), (qa_17, .inl (ca_19, 8, .inr (.inl (fun _ => 0)))), (qb_18, .inl (cb_20, 8, .inr (.inl (fun _ => 0))))] := hD
  refine lv_aload_n hx hb dX4_init_43 rfl (lv_at hl 0 rfl) ?_
  refine lv_iconst (v := 0) hx hb dX4_init_44 (by decide) ?_
  refine va_put (D := (dC, dI)) (ci := 8) (v := .int 0) (ty := .int) (C := RX4) (T := TX4) (N := 6) hx hb hts (by decide +kernel) tyX4 tyX4_ok nmX4 hown hK hP hD hS 0 rfl rfl 2 (by decide) (hts (.fieldLink RX4 35 "Diffractory" "sourceCount" "I") (by decide +kernel)) (fun _ h9 => h9) rfl (by decide +kernel) rfl rfl (Nat.le_of_ble_eq_true rfl) dX4_init_45 (fun H locs hP hD hS => ?_)
  have hP : va_P (dC, dI) vwCl [(x, .inr (8, [.ref q_1, .ref q_3, .int 0, .int 0, .ref q_5, .ref q_13])), (q_1, .inl (cA_2, 3, .inr (.inr (.inr (.inr (fun _ => none)))))), (q_3, .inl (cA_4, 8, .inr (.inr (.inr (.inr (fun _ => none)))))), (q_5, .inr (4, [.ref qa_9, .ref qb_10])), (qa_9, .inl (ca_11, 64, .inr (.inl (fun _ => 0)))), (qb_10, .inl (cb_12, 64, .inr (.inl (fun _ => 0)))), (q_13, .inr (6, [.ref qa_17, .ref qb_18])), (qa_17, .inl (ca_19, 8, .inr (.inl (fun _ => 0)))), (qb_18, .inl (cb_20, 8, .inr (.inl (fun _ => 0))))] H := hP
  have hD : va_D A [(x, .inr (8, [.ref q_1, .ref q_3, .int 0, .int 0, .ref q_5, .ref q_13])), (q_1, .inl (cA_2, 3, .inr (.inr (.inr (.inr (fun _ => none)))))), (q_3, .inl (cA_4, 8, .inr (.inr (.inr (.inr (fun _ => none)))))), (q_5, .inr (4, [.ref qa_9, .ref qb_10])), (qa_9, .inl (ca_11, 64, .inr (.inl (fun _ => 0)))), (qb_10, .inl (cb_12, 64, .inr (.inl (fun _ => 0)))), (q_13, .inr (6, [.ref qa_17, .ref qb_18])), (qa_17, .inl (ca_19, 8, .inr (.inl (fun _ => 0)))), (qb_18, .inl (cb_20, 8, .inr (.inl (fun _ => 0))))] := hD
  refine lv_aload_n hx hb dX4_init_48 rfl (lv_at hl 0 rfl) ?_
  refine lv_iconst (v := 0) hx hb dX4_init_49 (by decide) ?_
  refine va_put (D := (dC, dI)) (ci := 8) (v := .int 0) (ty := .int) (C := RX4) (T := TX4) (N := 6) hx hb hts (by decide +kernel) tyX4 tyX4_ok nmX4 hown hK hP hD hS 0 rfl rfl 3 (by decide) (hts (.fieldLink RX4 39 "Diffractory" "partCount" "I") (by decide +kernel)) (fun _ h9 => h9) rfl (by decide +kernel) rfl rfl (Nat.le_of_ble_eq_true rfl) dX4_init_50 (fun H locs hP hD hS => ?_)
  have hP : va_P (dC, dI) vwCl [(x, .inr (8, [.ref q_1, .ref q_3, .int 0, .int 0, .ref q_5, .ref q_13])), (q_1, .inl (cA_2, 3, .inr (.inr (.inr (.inr (fun _ => none)))))), (q_3, .inl (cA_4, 8, .inr (.inr (.inr (.inr (fun _ => none)))))), (q_5, .inr (4, [.ref qa_9, .ref qb_10])), (qa_9, .inl (ca_11, 64, .inr (.inl (fun _ => 0)))), (qb_10, .inl (cb_12, 64, .inr (.inl (fun _ => 0)))), (q_13, .inr (6, [.ref qa_17, .ref qb_18])), (qa_17, .inl (ca_19, 8, .inr (.inl (fun _ => 0)))), (qb_18, .inl (cb_20, 8, .inr (.inl (fun _ => 0))))] H := hP
  have hD : va_D A [(x, .inr (8, [.ref q_1, .ref q_3, .int 0, .int 0, .ref q_5, .ref q_13])), (q_1, .inl (cA_2, 3, .inr (.inr (.inr (.inr (fun _ => none)))))), (q_3, .inl (cA_4, 8, .inr (.inr (.inr (.inr (fun _ => none)))))), (q_5, .inr (4, [.ref qa_9, .ref qb_10])), (qa_9, .inl (ca_11, 64, .inr (.inl (fun _ => 0)))), (qb_10, .inl (cb_12, 64, .inr (.inl (fun _ => 0)))), (q_13, .inr (6, [.ref qa_17, .ref qb_18])), (qa_17, .inl (ca_19, 8, .inr (.inl (fun _ => 0)))), (qb_18, .inl (cb_20, 8, .inr (.inl (fun _ => 0))))] := hD
  refine W.widen (k := 8) (n := 159) (Nat.le_of_ble_eq_true rfl) (Nat.le_of_ble_eq_true rfl) ?_
  have hP9 := hP.sub (ws' := [(x, .inr (8, [.ref q_1, .ref q_3, .int 0, .int 0, .ref q_5, .ref q_13])), (q_1, .inl (cA_2, 3, .inr (.inr (.inr (.inr (fun _ => none)))))), (q_3, .inl (cA_4, 8, .inr (.inr (.inr (.inr (fun _ => none)))))), (q_5, .inr (4, [.ref qa_9, .ref qb_10])), (qa_9, .inl (ca_11, 64, .inr (.inl (fun _ => 0)))), (qb_10, .inl (cb_12, 64, .inr (.inl (fun _ => 0)))), (q_13, .inr (6, [.ref qa_17, .ref qb_18])), (qa_17, .inl (ca_19, 8, .inr (.inl (fun _ => 0)))), (qb_18, .inl (cb_20, 8, .inr (.inl (fun _ => 0))))]) [0, 1, 2, 3, 4, 5, 6, 7, 8] rfl
  have hD9 := hD.sub (ws' := [(x, .inr (8, [.ref q_1, .ref q_3, .int 0, .int 0, .ref q_5, .ref q_13])), (q_1, .inl (cA_2, 3, .inr (.inr (.inr (.inr (fun _ => none)))))), (q_3, .inl (cA_4, 8, .inr (.inr (.inr (.inr (fun _ => none)))))), (q_5, .inr (4, [.ref qa_9, .ref qb_10])), (qa_9, .inl (ca_11, 64, .inr (.inl (fun _ => 0)))), (qb_10, .inl (cb_12, 64, .inr (.inl (fun _ => 0)))), (q_13, .inr (6, [.ref qa_17, .ref qb_18])), (qa_17, .inl (ca_19, 8, .inr (.inl (fun _ => 0)))), (qb_18, .inl (cb_20, 8, .inr (.inl (fun _ => 0))))]) [0, 1, 2, 3, 4, 5, 6, 7, 8] (by decide) rfl
  have hK9 := hK.sub (tys' := [(cA_2, .object "Diffractory$Source"), (cA_4, .object "Diffractory$Part"), (ca_11, .long), (cb_12, .long), (ca_19, .long), (cb_20, .long)]) [0, 1, 2, 3, 4, 5] rfl
  exact W.vret hx hb hr (fun t ht hW => ⟨⟨(q_1, q_3, q_5, qa_9, qb_10, q_13, qa_17, qb_18, cA_2, cA_4, ca_11, cb_12, ca_19, cb_20), rfl, trivial, by rw [ht]; exact hP9, va_K.moved hW.alike hK9, hD9⟩, hS.F ht⟩) hS.2.2 dX4_init_53

set_option maxHeartbeats 4000000 in
set_option maxRecDepth 100000 in
theorem c_X4_shineAll (l : Launch) (dC : Nat → ClassId) (dI : Nat → Nat → Nat) (x xs xp xl xn xm xr xw xt : Nat) (cS cP cn cm cw ct : ClassId) (sa ta : Nat → Nat) (sz : Nat) (p0 : Int32) : Met l yX4_shineAll wsX4_shineAll ({ frames := 24, cells := 0, slots := 0, locals := 600 }) (va_Pc [.ref x, .int p0] (ax_W (dC, dI) vwCl [(x, .inr (8, [.ref xs, .ref xp, .int 0, .int 0, .ref xl, .ref xr])), (xs, .inl (cS, 3, .inr (.inr (.inr (.inr (fun _ => none)))))), (xp, .inl (cP, 8, .inr (.inr (.inr (.inr (fun _ => none)))))), (xl, .inr (4, [.ref xn, .ref xm])), (xn, .inl (cn, 64, .inr (.inl (fun _ => 0)))), (xm, .inl (cm, 64, .inr (.inl (fun _ => 0)))), (xr, .inr (6, [.ref xw, .ref xt])), (xw, .inl (cw, 8, .inr (.inl (fun _ => 0)))), (xt, .inl (ct, 8, .inr (.inl (fun _ => 0))))] [(cS, .object "Diffractory$Source"), (cP, .object "Diffractory$Part"), (cn, .long), (cm, .long), (cw, .long), (ct, .long)] sa ta sz)) (va_Qv (fun (u : Unit) => True) (fun (u : Unit) (t : State) => va_P (dC, dI) vwCl [(x, .inr (8, [.ref xs, .ref xp, .int 0, .int 0, .ref xl, .ref xr])), (xs, .inl (cS, 3, .inr (.inr (.inr (.inr (fun _ => none)))))), (xp, .inl (cP, 8, .inr (.inr (.inr (.inr (fun _ => none)))))), (xl, .inr (4, [.ref xn, .ref xm])), (xn, .inl (cn, 64, .inr (.inl (fun _ => 0)))), (xm, .inl (cm, 64, .inr (.inl (fun _ => 0)))), (xr, .inr (6, [.ref xw, .ref xt])), (xw, .inl (cw, 8, .inr (.inl (fun _ => 0)))), (xt, .inl (ct, 8, .inr (.inl (fun _ => 0))))] t.heap ∧ va_K (dC, dI) vwCl [(cS, .object "Diffractory$Source"), (cP, .object "Diffractory$Part"), (cn, .long), (cm, .long), (cw, .long), (ct, .long)] t ∧ va_D (va_A [(x, .inr (8, [.ref xs, .ref xp, .int 0, .int 0, .ref xl, .ref xr])), (xs, .inl (cS, 3, .inr (.inr (.inr (.inr (fun _ => none)))))), (xp, .inl (cP, 8, .inr (.inr (.inr (.inr (fun _ => none)))))), (xl, .inr (4, [.ref xn, .ref xm])), (xn, .inl (cn, 64, .inr (.inl (fun _ => 0)))), (xm, .inl (cm, 64, .inr (.inl (fun _ => 0)))), (xr, .inr (6, [.ref xw, .ref xt])), (xw, .inl (cw, 8, .inr (.inl (fun _ => 0)))), (xt, .inl (ct, 8, .inr (.inl (fun _ => 0))))] sz) [(x, .inr (8, [.ref xs, .ref xp, .int 0, .int 0, .ref xl, .ref xr])), (xs, .inl (cS, 3, .inr (.inr (.inr (.inr (fun _ => none)))))), (xp, .inl (cP, 8, .inr (.inr (.inr (.inr (fun _ => none)))))), (xl, .inr (4, [.ref xn, .ref xm])), (xn, .inl (cn, 64, .inr (.inl (fun _ => 0)))), (xm, .inl (cm, 64, .inr (.inl (fun _ => 0)))), (xr, .inr (6, [.ref xw, .ref xt])), (xw, .inl (cw, 8, .inr (.inl (fun _ => 0)))), (xt, .inl (ct, 8, .inr (.inl (fun _ => 0))))]) (va_A [(x, .inr (8, [.ref xs, .ref xp, .int 0, .int 0, .ref xl, .ref xr])), (xs, .inl (cS, 3, .inr (.inr (.inr (.inr (fun _ => none)))))), (xp, .inl (cP, 8, .inr (.inr (.inr (.inr (fun _ => none)))))), (xl, .inr (4, [.ref xn, .ref xm])), (xn, .inl (cn, 64, .inr (.inl (fun _ => 0)))), (xm, .inl (cm, 64, .inr (.inl (fun _ => 0)))), (xr, .inr (6, [.ref xw, .ref xt])), (xw, .inl (cw, 8, .inr (.inl (fun _ => 0)))), (xt, .inl (ct, 8, .inr (.inl (fun _ => 0))))] sz)) 0 0 (va_A [(x, .inr (8, [.ref xs, .ref xp, .int 0, .int 0, .ref xl, .ref xr])), (xs, .inl (cS, 3, .inr (.inr (.inr (.inr (fun _ => none)))))), (xp, .inl (cP, 8, .inr (.inr (.inr (.inr (fun _ => none)))))), (xl, .inr (4, [.ref xn, .ref xm])), (xn, .inl (cn, 64, .inr (.inl (fun _ => 0)))), (xm, .inl (cm, 64, .inr (.inl (fun _ => 0)))), (xr, .inr (6, [.ref xw, .ref xt])), (xw, .inl (cw, 8, .inr (.inl (fun _ => 0)))), (xt, .inl (ct, 8, .inr (.inl (fun _ => 0))))] sz) := by
  refine Met.ofW (cc := cX4_shineAll) (maxL := 4) (ret := none) (by decide) rfl ?_
  intro p e s m args below meth c s₁ B hml hv
  obtain ⟨rfl, hsz, hP, hK, hD0, hE⟩ := hv
  have hx := B.exec
  have hb := B.bytes
  have hr := B.returns
  have hts := atoms_spec (ws := wsX4_shineAll) B.pre
  have hown : s.vm.findClass RX4 = some m.cls := findClass_of_methodNamed B.named
  have hlocks := B.notSynchronized
  subst hsz
  have hD := hD0.self (sz := s.heap.size)
  generalize hAe : va_A [(x, .inr (8, [.ref xs, .ref xp, .int 0, .int 0, .ref xl, .ref xr])), (xs, .inl (cS, 3, .inr (.inr (.inr (.inr (fun _ => none)))))), (xp, .inl (cP, 8, .inr (.inr (.inr (.inr (fun _ => none)))))), (xl, .inr (4, [.ref xn, .ref xm])), (xn, .inl (cn, 64, .inr (.inl (fun _ => 0)))), (xm, .inl (cm, 64, .inr (.inl (fun _ => 0)))), (xr, .inr (6, [.ref xw, .ref xt])), (xw, .inl (cw, 8, .inr (.inl (fun _ => 0)))), (xt, .inl (ct, 8, .inr (.inl (fun _ => 0))))] s.heap.size = A at hD hE ⊢
  have hA : ∀ q : Nat, s.heap.size ≤ q → A q := fun q h => by rw [← hAe]; exact Or.inr h
  have hS : va_S A s.heap s.heap [] := va_S.rf
  have hl := lv_entry ([.ref x, .int p0]) (n := 4) (Nat.le_of_ble_eq_true rfl)
  rw [lg_entry_eq]
  generalize (lg_sl ([.ref x, .int p0]) ++ List.replicate (4 - (lg_sl ([.ref x, .int p0])).length) Slot.unset).toArray = ls at hl ⊢
  have hl : lv_has ls 4 [(0, .ref x), (1, .int p0)] := hl
  have hP : va_P (dC, dI) vwCl [(x, .inr (8, [.ref xs, .ref xp, .int 0, .int 0, .ref xl, .ref xr])), (xs, .inl (cS, 3, .inr (.inr (.inr (.inr (fun _ => none)))))), (xp, .inl (cP, 8, .inr (.inr (.inr (.inr (fun _ => none)))))), (xl, .inr (4, [.ref xn, .ref xm])), (xn, .inl (cn, 64, .inr (.inl (fun _ => 0)))), (xm, .inl (cm, 64, .inr (.inl (fun _ => 0)))), (xr, .inr (6, [.ref xw, .ref xt])), (xw, .inl (cw, 8, .inr (.inl (fun _ => 0)))), (xt, .inl (ct, 8, .inr (.inl (fun _ => 0))))] s.heap := hP
  refine lv_aload_n hx hb dX4_shineAll_0 rfl (lv_at hl 0 rfl) ?_
  refine va_get (D := (dC, dI)) (ci := 8) (v := .ref xr) (C := RX4) (T := TX4) (N := 6) hx hb hts (by decide +kernel) hown hK hP 0 rfl rfl 5 (by decide) (hts (.fieldLink RX4 31 "Diffractory" "row" "LDiffractory$Row;") (by decide +kernel)) (fun _ h9 => h9) rfl dX4_shineAll_1 ?_
  have hPc := hP.sub (ws' := [(xr, .inr (6, [.ref xw, .ref xt])), (xw, .inl (cw, 8, .inr (.inl (fun _ => 0)))), (xt, .inl (ct, 8, .inr (.inl (fun _ => 0))))]) [6, 7, 8] rfl
  have hKc := hK.sub (tys' := [(cw, .long), (ct, .long)]) [4, 5] rfl
  have hDc := hD.sub (ws' := [(xr, .inr (6, [.ref xw, .ref xt])), (xw, .inl (cw, 8, .inr (.inl (fun _ => 0)))), (xt, .inl (ct, 8, .inr (.inl (fun _ => 0))))]) [6, 7, 8] (by decide) rfl
  have hFc := va_free (wc := [(xr, .inr (6, [.ref xw, .ref xt])), (xw, .inl (cw, 8, .inr (.inl (fun _ => 0)))), (xt, .inl (ct, 8, .inr (.inl (fun _ => 0))))]) hD hS hA [6, 7, 8] rfl
  refine va_callv (va_runV (As := []) (rest := []) ⟨hx, hb, hml, hown, hts⟩ (c_X2_wipe l dC dI xr xw xt cw ct sa ta s.heap.size) (cwV 0 hts gX4_shineAll_X2_wipe rfl rfl rfl (by decide +kernel) ⟨Nat.le_of_ble_eq_true rfl, Nat.le_of_ble_eq_true rfl⟩) ⟨ax_fbW, va_recv hK hP (ci := 6) (q0 := 6) rfl rfl, ax_prW hPc hKc hDc hS hFc hE⟩ rfl rfl hl.1 rfl (lv_room (Nat.le_of_ble_eq_true rfl)) dX4_shineAll_4 ⟨Nat.le_of_ble_eq_true rfl, Nat.le_of_ble_eq_true rfl⟩) hS (fun q _ h9 => hFc q h9) hFc (fun u_3  t H locs ht hvm hw_2 hB hz1 hk1 hS => ?_)
  obtain ⟨hP1, hK1, hD1⟩ := hB
  rw [ht] at hP1
  have hK1 := va_K.moved hvm.symm hK1
  obtain ⟨hP, hD⟩ := va_join (wr := [(x, .inr (8, [.ref xs, .ref xp, .int 0, .int 0, .ref xl, .ref xr])), (xs, .inl (cS, 3, .inr (.inr (.inr (.inr (fun _ => none)))))), (xp, .inl (cP, 8, .inr (.inr (.inr (.inr (fun _ => none)))))), (xl, .inr (4, [.ref xn, .ref xm])), (xn, .inl (cn, 64, .inr (.inl (fun _ => 0)))), (xm, .inl (cm, 64, .inr (.inl (fun _ => 0))))]) (w1 := [(xr, .inr (6, [.ref xw, .ref xt])), (xw, .inl (cw, 8, .inr (.inl (fun _ => 0)))), (xt, .inl (ct, 8, .inr (.inl (fun _ => 0))))]) hP hD [6, 7, 8] [0, 1, 2, 3, 4, 5] rfl rfl (by decide) (by decide) hk1 hFc hP1 hD1
  have hP : va_P (dC, dI) vwCl [(x, .inr (8, [.ref xs, .ref xp, .int 0, .int 0, .ref xl, .ref xr])), (xs, .inl (cS, 3, .inr (.inr (.inr (.inr (fun _ => none)))))), (xp, .inl (cP, 8, .inr (.inr (.inr (.inr (fun _ => none)))))), (xl, .inr (4, [.ref xn, .ref xm])), (xn, .inl (cn, 64, .inr (.inl (fun _ => 0)))), (xm, .inl (cm, 64, .inr (.inl (fun _ => 0)))), (xr, .inr (6, [.ref xw, .ref xt])), (xw, .inl (cw, 8, .inr (.inl (fun _ => 0)))), (xt, .inl (ct, 8, .inr (.inl (fun _ => 0))))] H := hP
  have hD : va_D A [(x, .inr (8, [.ref xs, .ref xp, .int 0, .int 0, .ref xl, .ref xr])), (xs, .inl (cS, 3, .inr (.inr (.inr (.inr (fun _ => none)))))), (xp, .inl (cP, 8, .inr (.inr (.inr (.inr (fun _ => none)))))), (xl, .inr (4, [.ref xn, .ref xm])), (xn, .inl (cn, 64, .inr (.inl (fun _ => 0)))), (xm, .inl (cm, 64, .inr (.inl (fun _ => 0)))), (xr, .inr (6, [.ref xw, .ref xt])), (xw, .inl (cw, 8, .inr (.inl (fun _ => 0)))), (xt, .inl (ct, 8, .inr (.inl (fun _ => 0))))] := hD
  refine lv_iconst (v := 0) hx hb dX4_shineAll_7 (by decide) ?_
  refine lv_istore_n (lv' := [(2, .int 0), (0, .ref x), (1, .int p0)]) hx hb dX4_shineAll_8 rfl hl (by decide) rfl (fun ls hl => ?_)
  refine lv_iload_n hx hb dX4_shineAll_9 rfl (lv_at hl 0 rfl) ?_
  refine lv_aload_n hx hb dX4_shineAll_10 rfl (lv_at hl 1 rfl) ?_
  refine va_get (D := (dC, dI)) (ci := 8) (v := .int 0) (C := RX4) (T := TX4) (N := 6) hx hb hts (by decide +kernel) hown hK hP 0 rfl rfl 2 (by decide) (hts (.fieldLink RX4 35 "Diffractory" "sourceCount" "I") (by decide +kernel)) (fun _ h9 => h9) rfl dX4_shineAll_11 ?_
  refine lv_icmp_ge (tgt := 50) hx hb dX4_shineAll_14 (by decide) (fun _ => ?_) (fun h9 => absurd (by decide) h9)
  refine W.widen (k := 0) (n := 0) (Nat.le_of_ble_eq_true rfl) (Nat.le_of_ble_eq_true rfl) ?_
  have hP9 := hP.sub (ws' := [(x, .inr (8, [.ref xs, .ref xp, .int 0, .int 0, .ref xl, .ref xr])), (xs, .inl (cS, 3, .inr (.inr (.inr (.inr (fun _ => none)))))), (xp, .inl (cP, 8, .inr (.inr (.inr (.inr (fun _ => none)))))), (xl, .inr (4, [.ref xn, .ref xm])), (xn, .inl (cn, 64, .inr (.inl (fun _ => 0)))), (xm, .inl (cm, 64, .inr (.inl (fun _ => 0)))), (xr, .inr (6, [.ref xw, .ref xt])), (xw, .inl (cw, 8, .inr (.inl (fun _ => 0)))), (xt, .inl (ct, 8, .inr (.inl (fun _ => 0))))]) [0, 1, 2, 3, 4, 5, 6, 7, 8] rfl
  have hD9 := hD.sub (ws' := [(x, .inr (8, [.ref xs, .ref xp, .int 0, .int 0, .ref xl, .ref xr])), (xs, .inl (cS, 3, .inr (.inr (.inr (.inr (fun _ => none)))))), (xp, .inl (cP, 8, .inr (.inr (.inr (.inr (fun _ => none)))))), (xl, .inr (4, [.ref xn, .ref xm])), (xn, .inl (cn, 64, .inr (.inl (fun _ => 0)))), (xm, .inl (cm, 64, .inr (.inl (fun _ => 0)))), (xr, .inr (6, [.ref xw, .ref xt])), (xw, .inl (cw, 8, .inr (.inl (fun _ => 0)))), (xt, .inl (ct, 8, .inr (.inl (fun _ => 0))))]) [0, 1, 2, 3, 4, 5, 6, 7, 8] (by decide) rfl
  have hK9 := hK.sub (tys' := [(cS, .object "Diffractory$Source"), (cP, .object "Diffractory$Part"), (cn, .long), (cm, .long), (cw, .long), (ct, .long)]) [0, 1, 2, 3, 4, 5] rfl
  exact W.vret hx hb hr (fun t ht hW => ⟨⟨(), rfl, trivial, by rw [ht]; exact hP9, va_K.moved hW.alike hK9, hD9⟩, hS.F ht⟩) hS.2.2 dX4_shineAll_50
