set_option maxHeartbeats 4000000 in
set_option maxRecDepth 100000 in
theorem c_Jxa1e45_init_da8c8 (l : Launch) (dC : Nat → ClassId) (dI : Nat → Nat → Nat) (ja : Nat) (sa ta : Nat → Nat) (sz : Nat) : Met l yJxa1e45_init_da8c8 wsJxa1e45_init_da8c8 ({ frames := 8, cells := 0, slots := 0, locals := 200 }) (va_Pc [.ref ja] (ax_W (dC, dI) vwCl [(ja, .inr (3, [.int 0, .null, .int 0]))] [] sa ta sz)) (va_Qv (fun (u : Unit) => True) (fun (u : Unit) (t : State) => va_P (dC, dI) vwCl [(ja, .inr (3, [.int 0, .null, .int 0]))] t.heap ∧ va_K (dC, dI) vwCl [] t ∧ va_D (va_A [(ja, .inr (3, [.int 0, .null, .int 0]))] sz) [(ja, .inr (3, [.int 0, .null, .int 0]))]) (va_A [(ja, .inr (3, [.int 0, .null, .int 0]))] sz)) 0 0 (va_A [(ja, .inr (3, [.int 0, .null, .int 0]))] sz) := by
  refine Met.ofW (cc := cJxa1e45_init_da8c8) (maxL := 1) (ret := none) (by decide) rfl ?_
  intro p e s m args below meth c s₁ B hml hv
  obtain ⟨rfl, hsz, hP, hK, hD0, hE⟩ := hv
  have hx := B.exec
  have hb := B.bytes
  have hr := B.returns
  have hts := atoms_spec (ws := wsJxa1e45_init_da8c8) B.pre
  have hown : s.vm.findClass RJxa1e45 = some m.cls := findClass_of_methodNamed B.named
  have hlocks := B.notSynchronized
  have hin : meth.name = "<init>" := (name_of_methodNamed B.named B.method).1
  subst hsz
  have hD := hD0.self (sz := s.heap.size)
  generalize hAe : va_A [(ja, .inr (3, [.int 0, .null, .int 0]))] s.heap.size = A at hD hE ⊢
  have hA : ∀ q : Nat, s.heap.size ≤ q → A q := fun q h => by rw [← hAe]; exact Or.inr h
  have hS : va_S A s.heap s.heap [] := va_S.rf
  have hl := lv_entry ([.ref ja]) (n := 1) (Nat.le_of_ble_eq_true rfl)
  rw [lg_entry_eq]
  generalize (lg_sl ([.ref ja]) ++ List.replicate (1 - (lg_sl ([.ref ja])).length) Slot.unset).toArray = ls at hl ⊢
  have hl : lv_has ls 1 [(0, .ref ja)] := hl
  have hP : va_P (dC, dI) vwCl [(ja, .inr (3, [.int 0, .null, .int 0]))] s.heap := hP
  refine lv_aload_n hx hb dJxa1e45_init_da8c8_0 rfl (lv_at hl 0 rfl) ?_
  refine W.objInit hx hb hown (hts (.methodLink RJxa1e45 1 objectInit) (by decide +kernel)) (hts (.instanceMethod objectInit) (by decide +kernel)) (hts (.code objectInit ⟨#[0xb1]⟩ 1 none) (by decide +kernel)) rfl (by rw [hml]; exact hl.1) rfl dJxa1e45_init_da8c8_1 (Nat.le_of_ble_eq_true rfl) (Nat.le_of_ble_eq_true rfl) ?_
  refine W.eq (g2 := F0 m 4 ls []) rfl ?_
  refine W.widen (k := 0) (n := 0) (Nat.le_of_ble_eq_true rfl) (Nat.le_of_ble_eq_true rfl) ?_
  have hP9 := hP.sub (ws' := [(ja, .inr (3, [.int 0, .null, .int 0]))]) [0] rfl
  have hD9 := hD.sub (ws' := [(ja, .inr (3, [.int 0, .null, .int 0]))]) [0] (by decide) rfl
  have hK9 := hK.sub (tys' := []) [] rfl
  exact W.vret hx hb hr (fun t ht hW => ⟨⟨(), rfl, trivial, by rw [ht]; exact hP9, va_K.moved hW.alike hK9, hD9⟩, hS.F ht⟩) hS.2.2 dJxa1e45_init_da8c8_4

set_option maxHeartbeats 4000000 in
set_option maxRecDepth 100000 in
theorem c_Jxc12de_init_da8c8 (l : Launch) (dC : Nat → ClassId) (dI : Nat → Nat → Nat) (ja : Nat) (sa ta : Nat → Nat) (sz : Nat) : Met l yJxc12de_init_da8c8 wsJxc12de_init_da8c8 ({ frames := 16, cells := 0, slots := 0, locals := 400 }) (va_Pc [.ref ja] (ax_W (dC, dI) vwCl [(ja, .inr (3, [.int 0, .null, .int 0]))] [] sa ta sz)) (va_Qv (fun (u : Unit) => True) (fun (u : Unit) (t : State) => va_P (dC, dI) vwCl [(ja, .inr (3, [.int 0, .null, .int 0]))] t.heap ∧ va_K (dC, dI) vwCl [] t ∧ va_D (va_A [(ja, .inr (3, [.int 0, .null, .int 0]))] sz) [(ja, .inr (3, [.int 0, .null, .int 0]))]) (va_A [(ja, .inr (3, [.int 0, .null, .int 0]))] sz)) 0 0 (va_A [(ja, .inr (3, [.int 0, .null, .int 0]))] sz) := by
  refine Met.ofW (cc := cJxc12de_init_da8c8) (maxL := 1) (ret := none) (by decide) rfl ?_
  intro p e s m args below meth c s₁ B hml hv
  obtain ⟨rfl, hsz, hP, hK, hD0, hE⟩ := hv
  have hx := B.exec
  have hb := B.bytes
  have hr := B.returns
  have hts := atoms_spec (ws := wsJxc12de_init_da8c8) B.pre
  have hown : s.vm.findClass RJxc12de = some m.cls := findClass_of_methodNamed B.named
  have hlocks := B.notSynchronized
  have hin : meth.name = "<init>" := (name_of_methodNamed B.named B.method).1
  subst hsz
  have hD := hD0.self (sz := s.heap.size)
  generalize hAe : va_A [(ja, .inr (3, [.int 0, .null, .int 0]))] s.heap.size = A at hD hE ⊢
  have hA : ∀ q : Nat, s.heap.size ≤ q → A q := fun q h => by rw [← hAe]; exact Or.inr h
  have hS : va_S A s.heap s.heap [] := va_S.rf
  have hl := lv_entry ([.ref ja]) (n := 1) (Nat.le_of_ble_eq_true rfl)
  rw [lg_entry_eq]
  generalize (lg_sl ([.ref ja]) ++ List.replicate (1 - (lg_sl ([.ref ja])).length) Slot.unset).toArray = ls at hl ⊢
  have hl : lv_has ls 1 [(0, .ref ja)] := hl
  have hP : va_P (dC, dI) vwCl [(ja, .inr (3, [.int 0, .null, .int 0]))] s.heap := hP
  refine lv_aload_n hx hb dJxc12de_init_da8c8_0 rfl (lv_at hl 0 rfl) ?_
  have hPc := hP.sub (ws' := [(ja, .inr (3, [.int 0, .null, .int 0]))]) [0] rfl
  have hKc := hK.sub (tys' := []) [] rfl
  have hDc := hD.sub (ws' := [(ja, .inr (3, [.int 0, .null, .int 0]))]) [0] (by decide) rfl
  have hFc := va_free (wc := [(ja, .inr (3, [.int 0, .null, .int 0]))]) hD hS hA [0] rfl
  refine va_callv (va_runI (As := []) (rest := []) ⟨hx, hb, hml, hown, hts⟩ (c_Jxa1e45_init_da8c8 l dC dI ja sa ta s.heap.size) (cwI 0 hts gJxc12de_init_da8c8_Jxa1e45_init_da8c8 rfl rfl rfl (hts (.initialized RJxa1e45) (by decide +kernel)) (hts (.methodLink RJxc12de 1 yJxa1e45_init_da8c8) (by decide +kernel)) (hts (.instanceMethod yJxa1e45_init_da8c8) (by decide +kernel)) rfl (by decide +kernel) ⟨Nat.le_of_ble_eq_true rfl, Nat.le_of_ble_eq_true rfl⟩) ⟨ax_fbW, ax_prW hPc hKc hDc hS hFc hE⟩ rfl rfl hl.1 rfl (lv_room (Nat.le_of_ble_eq_true rfl)) dJxc12de_init_da8c8_1 ⟨Nat.le_of_ble_eq_true rfl, Nat.le_of_ble_eq_true rfl⟩) hS (fun q _ h9 => hFc q h9) hFc (fun u_3  t H locs ht hvm hw_2 hB hz1 hk1 hS => ?_)
  obtain ⟨hP1, hK1, hD1⟩ := hB
  rw [ht] at hP1
  have hK1 := va_K.moved hvm.symm hK1
  obtain ⟨hP, hD⟩ := va_join (wr := []) (w1 := [(ja, .inr (3, [.int 0, .null, .int 0]))]) hP hD [0] [] rfl rfl (by decide) (by decide) hk1 hFc hP1 hD1
  have hP : va_P (dC, dI) vwCl [(ja, .inr (3, [.int 0, .null, .int 0]))] H := hP
  have hD : va_D A [(ja, .inr (3, [.int 0, .null, .int 0]))] := hD
  refine lv_aload_n hx hb dJxc12de_init_da8c8_4 rfl (lv_at hl 0 rfl) ?_
  refine lv_iconst (v := 0) hx hb dJxc12de_init_da8c8_5 (by decide) ?_
  refine va_put (D := (dC, dI)) (ci := 3) (v := .int 0) (ty := .int) (C := RJx4a65c) (T := TJx4a65c) (N := 3) hx hb hts (by decide +kernel) tyJx4a65c tyJx4a65c_ok nmJx4a65c hown hK hP hD hS 0 rfl rfl 0 (by decide) (hts (.fieldLink RJxc12de 7 "java/util/AbstractList" "modCount" "I") (by decide +kernel)) (fun _ h9 => h9) rfl (by decide +kernel) rfl rfl (Nat.le_of_ble_eq_true rfl) dJxc12de_init_da8c8_6 (fun H locs hP hD hS => ?_)
  have hP : va_P (dC, dI) vwCl [(ja, .inr (3, [.int 0, .null, .int 0]))] H := hP
  have hD : va_D A [(ja, .inr (3, [.int 0, .null, .int 0]))] := hD
  refine W.widen (k := 0) (n := 0) (Nat.le_of_ble_eq_true rfl) (Nat.le_of_ble_eq_true rfl) ?_
  have hP9 := hP.sub (ws' := [(ja, .inr (3, [.int 0, .null, .int 0]))]) [0] rfl
  have hD9 := hD.sub (ws' := [(ja, .inr (3, [.int 0, .null, .int 0]))]) [0] (by decide) rfl
  have hK9 := hK.sub (tys' := []) [] rfl
  exact W.vret hx hb hr (fun t ht hW => ⟨⟨(), rfl, trivial, by rw [ht]; exact hP9, va_K.moved hW.alike hK9, hD9⟩, hS.F ht⟩) hS.2.2 dJxc12de_init_da8c8_9

set_option maxHeartbeats 4000000 in
set_option maxRecDepth 100000 in
theorem c_Jx4a65c_init_da8c8 (l : Launch) (dC : Nat → ClassId) (dI : Nat → Nat → Nat) (ja : Nat) (sa ta : Nat → Nat) (sz : Nat) : Met l yJx4a65c_init_da8c8 wsJx4a65c_init_da8c8 ({ frames := 24, cells := 0, slots := 0, locals := 600 }) (va_Pc [.ref ja] (ax_W (dC, dI) vwCl [(ja, .inr (3, [.int 0, .null, .int 0]))] [] sa ta sz)) (va_Qv (fun (u : Unit) => True) (fun (u : Unit) (t : State) => va_P (dC, dI) vwCl [(ja, .inr (3, [.int 0, .ref (ta 4), .int 0]))] t.heap ∧ va_K (dC, dI) vwCl [] t ∧ va_D (va_A [(ja, .inr (3, [.int 0, .null, .int 0]))] sz) [(ja, .inr (3, [.int 0, .ref (ta 4), .int 0]))]) (va_A [(ja, .inr (3, [.int 0, .null, .int 0]))] sz)) 0 0 (va_A [(ja, .inr (3, [.int 0, .null, .int 0]))] sz) := by
  refine Met.ofW (cc := cJx4a65c_init_da8c8) (maxL := 1) (ret := none) (by decide) rfl ?_
  intro p e s m args below meth c s₁ B hml hv
  obtain ⟨rfl, hsz, hP, hK, hD0, hE⟩ := hv
  have hx := B.exec
  have hb := B.bytes
  have hr := B.returns
  have hts := atoms_spec (ws := wsJx4a65c_init_da8c8) B.pre
  have hown : s.vm.findClass RJx4a65c = some m.cls := findClass_of_methodNamed B.named
  have hlocks := B.notSynchronized
  have hin : meth.name = "<init>" := (name_of_methodNamed B.named B.method).1
  subst hsz
  have hD := hD0.self (sz := s.heap.size)
  generalize hAe : va_A [(ja, .inr (3, [.int 0, .null, .int 0]))] s.heap.size = A at hD hE ⊢
  have hA : ∀ q : Nat, s.heap.size ≤ q → A q := fun q h => by rw [← hAe]; exact Or.inr h
  have hS : va_S A s.heap s.heap [] := va_S.rf
  have hl := lv_entry ([.ref ja]) (n := 1) (Nat.le_of_ble_eq_true rfl)
  rw [lg_entry_eq]
  generalize (lg_sl ([.ref ja]) ++ List.replicate (1 - (lg_sl ([.ref ja])).length) Slot.unset).toArray = ls at hl ⊢
  have hl : lv_has ls 1 [(0, .ref ja)] := hl
  have hP : va_P (dC, dI) vwCl [(ja, .inr (3, [.int 0, .null, .int 0]))] s.heap := hP
  refine lv_aload_n hx hb dJx4a65c_init_da8c8_0 rfl (lv_at hl 0 rfl) ?_
  have hPc := hP.sub (ws' := [(ja, .inr (3, [.int 0, .null, .int 0]))]) [0] rfl
  have hKc := hK.sub (tys' := []) [] rfl
  have hDc := hD.sub (ws' := [(ja, .inr (3, [.int 0, .null, .int 0]))]) [0] (by decide) rfl
  have hFc := va_free (wc := [(ja, .inr (3, [.int 0, .null, .int 0]))]) hD hS hA [0] rfl
  refine va_callv (va_runI (As := []) (rest := []) ⟨hx, hb, hml, hown, hts⟩ (c_Jxc12de_init_da8c8 l dC dI ja sa ta s.heap.size) (cwI 0 hts gJx4a65c_init_da8c8_Jxc12de_init_da8c8 rfl rfl rfl (hts (.initialized RJxc12de) (by decide +kernel)) (hts (.methodLink RJx4a65c 1 yJxc12de_init_da8c8) (by decide +kernel)) (hts (.instanceMethod yJxc12de_init_da8c8) (by decide +kernel)) rfl (by decide +kernel) ⟨Nat.le_of_ble_eq_true rfl, Nat.le_of_ble_eq_true rfl⟩) ⟨ax_fbW, ax_prW hPc hKc hDc hS hFc hE⟩ rfl rfl hl.1 rfl (lv_room (Nat.le_of_ble_eq_true rfl)) dJx4a65c_init_da8c8_1 ⟨Nat.le_of_ble_eq_true rfl, Nat.le_of_ble_eq_true rfl⟩) hS (fun q _ h9 => hFc q h9) hFc (fun u_3  t H locs ht hvm hw_2 hB hz1 hk1 hS => ?_)
  obtain ⟨hP1, hK1, hD1⟩ := hB
  rw [ht] at hP1
  have hK1 := va_K.moved hvm.symm hK1
  obtain ⟨hP, hD⟩ := va_join (wr := []) (w1 := [(ja, .inr (3, [.int 0, .null, .int 0]))]) hP hD [0] [] rfl rfl (by decide) (by decide) hk1 hFc hP1 hD1
  have hP : va_P (dC, dI) vwCl [(ja, .inr (3, [.int 0, .null, .int 0]))] H := hP
  have hD : va_D A [(ja, .inr (3, [.int 0, .null, .int 0]))] := hD
  refine lv_aload_n hx hb dJx4a65c_init_da8c8_4 rfl (lv_at hl 0 rfl) ?_
  refine va_gets hx hb hE.z4 hS hown (hts (.fieldLink RJx4a65c 39 "java/util/ArrayList" "DEFAULTCAPACITY_EMPTY_ELEMENTDATA" "[Ljava/lang/Object;") (by decide +kernel)) (fun _ h9 => h9) dJx4a65c_init_da8c8_5 ?_
  refine va_put (D := (dC, dI)) (ci := 3) (v := .ref (ta 4)) (ty := .array (.object "java/lang/Object")) (C := RJx4a65c) (T := TJx4a65c) (N := 3) hx hb hts (by decide +kernel) tyJx4a65c tyJx4a65c_ok nmJx4a65c hown hK hP hD hS 0 rfl rfl 1 (by decide) (hts (.fieldLink RJx4a65c 9 "java/util/ArrayList" "elementData" "[Ljava/lang/Object;") (by decide +kernel)) (fun _ h9 => h9) rfl (by decide +kernel) rfl rfl (Nat.le_of_ble_eq_true rfl) dJx4a65c_init_da8c8_8 (fun H locs hP hD hS => ?_)
  have hP : va_P (dC, dI) vwCl [(ja, .inr (3, [.int 0, .ref (ta 4), .int 0]))] H := hP
  have hD : va_D A [(ja, .inr (3, [.int 0, .ref (ta 4), .int 0]))] := hD
  refine W.widen (k := 0) (n := 0) (Nat.le_of_ble_eq_true rfl) (Nat.le_of_ble_eq_true rfl) ?_
  have hP9 := hP.sub (ws' := [(ja, .inr (3, [.int 0, .ref (ta 4), .int 0]))]) [0] rfl
  have hD9 := hD.sub (ws' := [(ja, .inr (3, [.int 0, .ref (ta 4), .int 0]))]) [0] (by decide) rfl
  have hK9 := hK.sub (tys' := []) [] rfl
  exact W.vret hx hb hr (fun t ht hW => ⟨⟨(), rfl, trivial, by rw [ht]; exact hP9, va_K.moved hW.alike hK9, hD9⟩, hS.F ht⟩) hS.2.2 dJx4a65c_init_da8c8_11

set_option maxHeartbeats 4000000 in
set_option maxRecDepth 100000 in
theorem c_Jx4a65c_size_8abf5 (l : Launch) (dC : Nat → ClassId) (dI : Nat → Nat → Nat) (ja jd : Nat) (sa ta : Nat → Nat) (jm : Int32) (js : Int32) : Met l yJx4a65c_size_8abf5 wsJx4a65c_size_8abf5 ({ frames := 8, cells := 0, slots := 0, locals := 200 }) (va_Pc [.ref ja] (ax_R (dC, dI) vwCl [(ja, .inr (3, [.int jm, .ref jd, .int js]))] [] sa ta)) (va_Qi (fun (r : Int32) (u : Unit) => r = js) (fun _ _ => True) ax_no) 0 0 ax_no := by
  refine Met.ofW (cc := cJx4a65c_size_8abf5) (maxL := 1) (ret := (some .int)) (by decide) rfl ?_
  intro p e s m args below meth c s₁ B hml hv
  obtain ⟨rfl, hP, hK, hE⟩ := hv
  have hx := B.exec
  have hb := B.bytes
  have hr := B.returns
  have hts := atoms_spec (ws := wsJx4a65c_size_8abf5) B.pre
  have hown : s.vm.findClass RJx4a65c = some m.cls := findClass_of_methodNamed B.named
  have hlocks := B.notSynchronized
  have hS : va_S ax_no s.heap s.heap [] := va_S.rf
  have hl := lv_entry ([.ref ja]) (n := 1) (Nat.le_of_ble_eq_true rfl)
  rw [lg_entry_eq]
  generalize (lg_sl ([.ref ja]) ++ List.replicate (1 - (lg_sl ([.ref ja])).length) Slot.unset).toArray = ls at hl ⊢
  have hl : lv_has ls 1 [(0, .ref ja)] := hl
  have hP : va_P (dC, dI) vwCl [(ja, .inr (3, [.int jm, .ref jd, .int js]))] s.heap := hP
  refine lv_aload_n hx hb dJx4a65c_size_8abf5_0 rfl (lv_at hl 0 rfl) ?_
  refine va_get (D := (dC, dI)) (ci := 3) (v := .int js) (C := RJx4a65c) (T := TJx4a65c) (N := 3) hx hb hts (by decide +kernel) hown hK hP 0 rfl rfl 2 (by decide) (hts (.fieldLink RJx4a65c 48 "java/util/ArrayList" "size" "I") (by decide +kernel)) (fun _ h9 => h9) rfl dJx4a65c_size_8abf5_1 ?_
  refine W.widen (k := 0) (n := 0) (Nat.le_of_ble_eq_true rfl) (Nat.le_of_ble_eq_true rfl) ?_
  exact W.iret (v := js) hx hb hr (fun t ht hW => ⟨⟨js, (), rfl, rfl, trivial⟩, hS.F ht⟩) hS.2.2 dJx4a65c_size_8abf5_4

set_option maxHeartbeats 4000000 in
set_option maxRecDepth 100000 in
theorem c_Jx4a65c_grow_92f84 (l : Launch) (dC : Nat → ClassId) (dI : Nat → Nat → Nat) (ja : Nat) (sa ta : Nat → Nat) (sz : Nat) : Met l yJx4a65c_grow_92f84 wsJx4a65c_grow_92f84 ({ frames := 8, cells := 1, slots := 10, locals := 200 }) (va_Pc [.ref ja, .int 1] (ax_W (dC, dI) vwCl [(ja, .inr (3, [.int 1, .ref (ta 4), .int 0]))] [] sa ta sz)) (va_Qr (fun (u : ClassId) => True) (fun (u : ClassId) (a : Nat) (t : State) => va_P (dC, dI) vwCl [(ja, .inr (3, [.int 1, .ref a, .int 0])), (a, .inl (u, 10, .inr (.inr (.inr (.inr (fun _ => none))))))] t.heap ∧ va_K (dC, dI) vwCl [(u, .object "java/lang/Object")] t ∧ va_D (va_A [(ja, .inr (3, [.int 1, .ref (ta 4), .int 0]))] sz) [(ja, .inr (3, [.int 1, .ref a, .int 0])), (a, .inl (u, 10, .inr (.inr (.inr (.inr (fun _ => none))))))]) (va_A [(ja, .inr (3, [.int 1, .ref (ta 4), .int 0]))] sz)) 1 10 (va_A [(ja, .inr (3, [.int 1, .ref (ta 4), .int 0]))] sz) := by
  refine Met.ofW (cc := cJx4a65c_grow_92f84) (maxL := 4) (ret := (some (.array (.object "java/lang/Object")))) (by decide) rfl ?_
  intro p e s m args below meth c s₁ B hml hv
  obtain ⟨rfl, hsz, hP, hK, hD0, hE⟩ := hv
  have hx := B.exec
  have hb := B.bytes
  have hr := B.returns
  have hts := atoms_spec (ws := wsJx4a65c_grow_92f84) B.pre
  have hown : s.vm.findClass RJx4a65c = some m.cls := findClass_of_methodNamed B.named
  have hlocks := B.notSynchronized
  subst hsz
  have hD := hD0.self (sz := s.heap.size)
  generalize hAe : va_A [(ja, .inr (3, [.int 1, .ref (ta 4), .int 0]))] s.heap.size = A at hD hE ⊢
  have hA : ∀ q : Nat, s.heap.size ≤ q → A q := fun q h => by rw [← hAe]; exact Or.inr h
  have hS : va_S A s.heap s.heap [] := va_S.rf
  have hl := lv_entry ([.ref ja, .int 1]) (n := 4) (Nat.le_of_ble_eq_true rfl)
  rw [lg_entry_eq]
  generalize (lg_sl ([.ref ja, .int 1]) ++ List.replicate (4 - (lg_sl ([.ref ja, .int 1])).length) Slot.unset).toArray = ls at hl ⊢
  have hl : lv_has ls 4 [(0, .ref ja), (1, .int 1)] := hl
  have hP : va_P (dC, dI) vwCl [(ja, .inr (3, [.int 1, .ref (ta 4), .int 0]))] s.heap := hP
  refine lv_aload_n hx hb dJx4a65c_grow_92f84_0 rfl (lv_at hl 0 rfl) ?_
  refine va_get (D := (dC, dI)) (ci := 3) (v := .ref (ta 4)) (C := RJx4a65c) (T := TJx4a65c) (N := 3) hx hb hts (by decide +kernel) hown hK hP 0 rfl rfl 1 (by decide) (hts (.fieldLink RJx4a65c 9 "java/util/ArrayList" "elementData" "[Ljava/lang/Object;") (by decide +kernel)) (fun _ h9 => h9) rfl dJx4a65c_grow_92f84_1 ?_
  refine va_tlen (v := 0) hx hb hE.t4 hS (by decide) dJx4a65c_grow_92f84_4 ?_
  refine lv_istore_n (lv' := [(2, .int 0), (0, .ref ja), (1, .int 1)]) hx hb dJx4a65c_grow_92f84_5 rfl hl (by decide) rfl (fun ls hl => ?_)
  refine lv_iload_n hx hb dJx4a65c_grow_92f84_6 rfl (lv_at hl 0 rfl) ?_
  refine lv_if_gt (tgt := 20) hx hb dJx4a65c_grow_92f84_7 (by decide) (fun h9 => absurd h9 (by decide)) (fun _ => ?_)
  refine lv_aload_n hx hb dJx4a65c_grow_92f84_10 rfl (lv_at hl 1 rfl) ?_
  refine va_get (D := (dC, dI)) (ci := 3) (v := .ref (ta 4)) (C := RJx4a65c) (T := TJx4a65c) (N := 3) hx hb hts (by decide +kernel) hown hK hP 0 rfl rfl 1 (by decide) (hts (.fieldLink RJx4a65c 9 "java/util/ArrayList" "elementData" "[Ljava/lang/Object;") (by decide +kernel)) (fun _ h9 => h9) rfl dJx4a65c_grow_92f84_11 ?_
  refine va_gets hx hb hE.z4 hS hown (hts (.fieldLink RJx4a65c 39 "java/util/ArrayList" "DEFAULTCAPACITY_EMPTY_ELEMENTDATA" "[Ljava/lang/Object;") (by decide +kernel)) (fun _ h9 => h9) dJx4a65c_grow_92f84_14 ?_
  refine W.eq (g2 := F0 m 17 ls (va_rf (some (ta 4)) :: va_rf (some (ta 4)) :: [])) rfl ?_
  refine lv_acmp_eq (tgt := 45) hx hb dJx4a65c_grow_92f84_17 (by decide) (fun _ => ?_) (fun h9 => absurd rfl h9)
  refine lv_aload_n hx hb dJx4a65c_grow_92f84_45 rfl (lv_at hl 1 rfl) ?_
  refine lv_bipush (v := 10) hx hb dJx4a65c_grow_92f84_46 (by decide) ?_
  refine lv_iload_n hx hb dJx4a65c_grow_92f84_48 rfl (lv_at hl 2 rfl) ?_
  refine va_mmax hx hb (hml.trans hl.1.symm) hown (hts (.methodLink RJx4a65c 79 Lib.Math.max.name) (by decide +kernel)) (hts (.static Lib.Math.max.name) (by decide +kernel)) (hts (.initialized "java/lang/Math") (by decide +kernel)) (hts (.code Lib.Math.max.name Lib.Math.max.code 2 (some .int)) (by decide +kernel)) (Nat.le_of_ble_eq_true rfl) (Nat.le_of_ble_eq_true rfl) (Nat.le_of_ble_eq_true rfl) (Nat.le_of_ble_eq_true rfl) dJx4a65c_grow_92f84_49 ?_
  refine ax_i (y := 10) (by decide) ?_
  refine va_newq (C := "java/lang/Object") (N' := 10) hx hb hown (hts (.classLink RJx4a65c 7 "java/lang/Object") (by decide +kernel)) (hE.a2) hK hP hD hS hA (by decide) (by decide) (by decide) (Nat.le_of_ble_eq_true rfl) (Nat.le_of_ble_eq_true rfl) dJx4a65c_grow_92f84_52 (fun q_1 cA_2 H hK hP hD hS => ?_)
  have hP : va_P (dC, dI) vwCl [(ja, .inr (3, [.int 1, .ref (ta 4), .int 0])), (q_1, .inl (cA_2, 10, .inr (.inr (.inr (.inr (fun _ => none))))))] H := hP
  have hD : va_D A [(ja, .inr (3, [.int 1, .ref (ta 4), .int 0])), (q_1, .inl (cA_2, 10, .inr (.inr (.inr (.inr (fun _ => none))))))] := hD
  have hK : va_K (dC, dI) vwCl [(cA_2, .object "java/lang/Object")] s := hK
  refine lv_dup_x1 hx hb dJx4a65c_grow_92f84_55 rfl rfl ?_
  refine va_put (D := (dC, dI)) (ci := 3) (v := .ref q_1) (ty := .array (.object "java/lang/Object")) (C := RJx4a65c) (T := TJx4a65c) (N := 3) hx hb hts (by decide +kernel) tyJx4a65c tyJx4a65c_ok nmJx4a65c hown hK hP hD hS 0 rfl rfl 1 (by decide) (hts (.fieldLink RJx4a65c 9 "java/util/ArrayList" "elementData" "[Ljava/lang/Object;") (by decide +kernel)) (fun _ h9 => h9) rfl (by decide +kernel) rfl rfl (Nat.le_of_ble_eq_true rfl) dJx4a65c_grow_92f84_56 (fun H locs hP hD hS => ?_)
  have hP : va_P (dC, dI) vwCl [(ja, .inr (3, [.int 1, .ref q_1, .int 0])), (q_1, .inl (cA_2, 10, .inr (.inr (.inr (.inr (fun _ => none))))))] H := hP
  have hD : va_D A [(ja, .inr (3, [.int 1, .ref q_1, .int 0])), (q_1, .inl (cA_2, 10, .inr (.inr (.inr (.inr (fun _ => none))))))] := hD
  refine W.widen (k := 1) (n := 10) (Nat.le_of_ble_eq_true rfl) (Nat.le_of_ble_eq_true rfl) ?_
  have hP9 := hP.sub (ws' := [(ja, .inr (3, [.int 1, .ref q_1, .int 0])), (q_1, .inl (cA_2, 10, .inr (.inr (.inr (.inr (fun _ => none))))))]) [0, 1] rfl
  have hD9 := hD.sub (ws' := [(ja, .inr (3, [.int 1, .ref q_1, .int 0])), (q_1, .inl (cA_2, 10, .inr (.inr (.inr (.inr (fun _ => none))))))]) [0, 1] (by decide) rfl
  have hK9 := hK.sub (tys' := [(cA_2, .object "java/lang/Object")]) [0] rfl
  exact W.aret (v := .ref q_1) (rt := (.array (.object "java/lang/Object"))) hx hb hr (by first | exact Or.inl ⟨_, rfl⟩ | exact Or.inr ⟨_, rfl⟩) (by first | exact Or.inl rfl | exact Or.inr ⟨_, rfl⟩) (fun t ht hW => ⟨⟨cA_2, q_1, rfl, trivial, by rw [ht]; exact hP9, va_K.moved hW.alike hK9, hD9⟩, hS.F ht⟩) hS.2.2 dJx4a65c_grow_92f84_59

set_option maxHeartbeats 4000000 in
set_option maxRecDepth 100000 in
theorem c_Jx4a65c_grow_d5877 (l : Launch) (dC : Nat → ClassId) (dI : Nat → Nat → Nat) (ja : Nat) (sa ta : Nat → Nat) (sz : Nat) : Met l yJx4a65c_grow_d5877 wsJx4a65c_grow_d5877 ({ frames := 16, cells := 1, slots := 10, locals := 400 }) (va_Pc [.ref ja] (ax_W (dC, dI) vwCl [(ja, .inr (3, [.int 1, .ref (ta 4), .int 0]))] [] sa ta sz)) (va_Qr (fun (u : ClassId) => True) (fun (u : ClassId) (a : Nat) (t : State) => va_P (dC, dI) vwCl [(ja, .inr (3, [.int 1, .ref a, .int 0])), (a, .inl (u, 10, .inr (.inr (.inr (.inr (fun _ => none))))))] t.heap ∧ va_K (dC, dI) vwCl [(u, .object "java/lang/Object")] t ∧ va_D (va_A [(ja, .inr (3, [.int 1, .ref (ta 4), .int 0]))] sz) [(ja, .inr (3, [.int 1, .ref a, .int 0])), (a, .inl (u, 10, .inr (.inr (.inr (.inr (fun _ => none))))))]) (va_A [(ja, .inr (3, [.int 1, .ref (ta 4), .int 0]))] sz)) 1 10 (va_A [(ja, .inr (3, [.int 1, .ref (ta 4), .int 0]))] sz) := by
  refine Met.ofW (cc := cJx4a65c_grow_d5877) (maxL := 1) (ret := (some (.array (.object "java/lang/Object")))) (by decide) rfl ?_
  intro p e s m args below meth c s₁ B hml hv
  obtain ⟨rfl, hsz, hP, hK, hD0, hE⟩ := hv
  have hx := B.exec
  have hb := B.bytes
  have hr := B.returns
  have hts := atoms_spec (ws := wsJx4a65c_grow_d5877) B.pre
  have hown : s.vm.findClass RJx4a65c = some m.cls := findClass_of_methodNamed B.named
  have hlocks := B.notSynchronized
  subst hsz
  have hD := hD0.self (sz := s.heap.size)
  generalize hAe : va_A [(ja, .inr (3, [.int 1, .ref (ta 4), .int 0]))] s.heap.size = A at hD hE ⊢
  have hA : ∀ q : Nat, s.heap.size ≤ q → A q := fun q h => by rw [← hAe]; exact Or.inr h
  have hS : va_S A s.heap s.heap [] := va_S.rf
  have hl := lv_entry ([.ref ja]) (n := 1) (Nat.le_of_ble_eq_true rfl)
  rw [lg_entry_eq]
  generalize (lg_sl ([.ref ja]) ++ List.replicate (1 - (lg_sl ([.ref ja])).length) Slot.unset).toArray = ls at hl ⊢
  have hl : lv_has ls 1 [(0, .ref ja)] := hl
  have hP : va_P (dC, dI) vwCl [(ja, .inr (3, [.int 1, .ref (ta 4), .int 0]))] s.heap := hP
  refine lv_aload_n hx hb dJx4a65c_grow_d5877_0 rfl (lv_at hl 0 rfl) ?_
  refine lv_aload_n hx hb dJx4a65c_grow_d5877_1 rfl (lv_at hl 0 rfl) ?_
  refine va_get (D := (dC, dI)) (ci := 3) (v := .int 0) (C := RJx4a65c) (T := TJx4a65c) (N := 3) hx hb hts (by decide +kernel) hown hK hP 0 rfl rfl 2 (by decide) (hts (.fieldLink RJx4a65c 48 "java/util/ArrayList" "size" "I") (by decide +kernel)) (fun _ h9 => h9) rfl dJx4a65c_grow_d5877_2 ?_
  refine lv_iconst (v := 1) hx hb dJx4a65c_grow_d5877_5 (by decide) ?_
  refine lv_iadd hx hb dJx4a65c_grow_d5877_6 ?_
  refine ax_i (y := 1) (by decide) ?_
  have hPc := hP.sub (ws' := [(ja, .inr (3, [.int 1, .ref (ta 4), .int 0]))]) [0] rfl
  have hKc := hK.sub (tys' := []) [] rfl
  have hDc := hD.sub (ws' := [(ja, .inr (3, [.int 1, .ref (ta 4), .int 0]))]) [0] (by decide) rfl
  have hFc := va_free (wc := [(ja, .inr (3, [.int 1, .ref (ta 4), .int 0]))]) hD hS hA [0] rfl
  refine va_callr (va_runV (As := [.int 1]) (rest := []) ⟨hx, hb, hml, hown, hts⟩ (c_Jx4a65c_grow_92f84 l dC dI ja sa ta s.heap.size) (cwV 1 hts gJx4a65c_grow_d5877_Jx4a65c_grow_92f84 rfl rfl rfl (by decide +kernel) ⟨Nat.le_of_ble_eq_true rfl, Nat.le_of_ble_eq_true rfl⟩) ⟨ax_fbW, va_recv hK hP (ci := 3) (q0 := 0) rfl rfl, ax_prW hPc hKc hDc hS hFc hE⟩ rfl rfl hl.1 rfl (lv_room (Nat.le_of_ble_eq_true rfl)) dJx4a65c_grow_d5877_7 ⟨Nat.le_of_ble_eq_true rfl, Nat.le_of_ble_eq_true rfl⟩) hS (fun q _ h9 => hFc q h9) hFc (fun u_3  r_1 t H locs ht hvm hw_2 hB hz1 hk1 hS => ?_)
  obtain ⟨qA_4, rfl⟩ : ∃ z, z = u_3 := ⟨_, rfl⟩
  obtain ⟨hP1, hK1, hD1⟩ := hB
  rw [ht] at hP1
  have hK1 := va_K.moved hvm.symm hK1
  obtain ⟨hP, hD⟩ := va_join (wr := []) (w1 := [(ja, .inr (3, [.int 1, .ref r_1, .int 0])), (r_1, .inl (qA_4, 10, .inr (.inr (.inr (.inr (fun _ => none))))))]) hP hD [0] [] rfl rfl (by decide) (by decide) hk1 hFc hP1 hD1
  have hK := hK.app hK1
  have hK := hK.sub (tys' := [(qA_4, .object "java/lang/Object")]) [0] rfl
  have hP : va_P (dC, dI) vwCl [(ja, .inr (3, [.int 1, .ref r_1, .int 0])), (r_1, .inl (qA_4, 10, .inr (.inr (.inr (.inr (fun _ => none))))))] H := hP
  have hD : va_D A [(ja, .inr (3, [.int 1, .ref r_1, .int 0])), (r_1, .inl (qA_4, 10, .inr (.inr (.inr (.inr (fun _ => none))))))] := hD
  refine W.widen (k := 1) (n := 10) (Nat.le_of_ble_eq_true rfl) (Nat.le_of_ble_eq_true rfl) ?_
  have hP9 := hP.sub (ws' := [(ja, .inr (3, [.int 1, .ref r_1, .int 0])), (r_1, .inl (qA_4, 10, .inr (.inr (.inr (.inr (fun _ => none))))))]) [0, 1] rfl
  have hD9 := hD.sub (ws' := [(ja, .inr (3, [.int 1, .ref r_1, .int 0])), (r_1, .inl (qA_4, 10, .inr (.inr (.inr (.inr (fun _ => none))))))]) [0, 1] (by decide) rfl
  have hK9 := hK.sub (tys' := [(qA_4, .object "java/lang/Object")]) [0] rfl
  exact W.aret (v := .ref r_1) (rt := (.array (.object "java/lang/Object"))) hx hb hr (by first | exact Or.inl ⟨_, rfl⟩ | exact Or.inr ⟨_, rfl⟩) (by first | exact Or.inl rfl | exact Or.inr ⟨_, rfl⟩) (fun t ht hW => ⟨⟨qA_4, r_1, rfl, trivial, by rw [ht]; exact hP9, va_K.moved hW.alike hK9, hD9⟩, hS.F ht⟩) hS.2.2 dJx4a65c_grow_d5877_10

set_option maxHeartbeats 4000000 in
set_option maxRecDepth 100000 in
theorem c_Jx4a65c_add_72be8_6 (l : Launch) (dC : Nat → ClassId) (dI : Nat → Nat → Nat) (ja el : Nat) (sa ta : Nat → Nat) (sz : Nat) (e0 : Int32) (e1 : Int32) (e2 : Int32) : Met l yJx4a65c_add_72be8 wsJx4a65c_add_72be8 ({ frames := 24, cells := 1, slots := 10, locals := 600 }) (va_Pc [.ref ja, .ref el, .ref (ta 4), .int 0] (ax_W (dC, dI) vwCl [(ja, .inr (3, [.int 1, .ref (ta 4), .int 0])), (el, .inr (10, [.int e0, .int e1, .int e2]))] [] sa ta sz)) (va_Qv (fun (u : Nat) => True) (fun (u : Nat) (t : State) => va_P (dC, dI) vwCl [(ja, .inr (3, [.int 1, .ref u, .int 1])), (el, .inr (10, [.int e0, .int e1, .int e2]))] t.heap ∧ va_K (dC, dI) vwCl [] t ∧ va_D (va_A [(ja, .inr (3, [.int 1, .ref (ta 4), .int 0])), (el, .inr (10, [.int e0, .int e1, .int e2]))] sz) [(ja, .inr (3, [.int 1, .ref u, .int 1])), (el, .inr (10, [.int e0, .int e1, .int e2]))]) (va_A [(ja, .inr (3, [.int 1, .ref (ta 4), .int 0])), (el, .inr (10, [.int e0, .int e1, .int e2]))] sz)) 1 10 (va_A [(ja, .inr (3, [.int 1, .ref (ta 4), .int 0])), (el, .inr (10, [.int e0, .int e1, .int e2]))] sz) := by
  refine Met.ofW (cc := cJx4a65c_add_72be8) (maxL := 4) (ret := none) (by decide) rfl ?_
  intro p e s m args below meth c s₁ B hml hv
  obtain ⟨rfl, hsz, hP, hK, hD0, hE⟩ := hv
  have hx := B.exec
  have hb := B.bytes
  have hr := B.returns
  have hts := atoms_spec (ws := wsJx4a65c_add_72be8) B.pre
  have hown : s.vm.findClass RJx4a65c = some m.cls := findClass_of_methodNamed B.named
  have hlocks := B.notSynchronized
  subst hsz
  have hD := hD0.self (sz := s.heap.size)
  generalize hAe : va_A [(ja, .inr (3, [.int 1, .ref (ta 4), .int 0])), (el, .inr (10, [.int e0, .int e1, .int e2]))] s.heap.size = A at hD hE ⊢
  have hA : ∀ q : Nat, s.heap.size ≤ q → A q := fun q h => by rw [← hAe]; exact Or.inr h
  have hS : va_S A s.heap s.heap [] := va_S.rf
  have hl := lv_entry ([.ref ja, .ref el, .ref (ta 4), .int 0]) (n := 4) (Nat.le_of_ble_eq_true rfl)
  rw [lg_entry_eq]
  generalize (lg_sl ([.ref ja, .ref el, .ref (ta 4), .int 0]) ++ List.replicate (4 - (lg_sl ([.ref ja, .ref el, .ref (ta 4), .int 0])).length) Slot.unset).toArray = ls at hl ⊢
  have hl : lv_has ls 4 [(0, .ref ja), (1, .ref el), (2, .ref (ta 4)), (3, .int 0)] := hl
  have hP : va_P (dC, dI) vwCl [(ja, .inr (3, [.int 1, .ref (ta 4), .int 0])), (el, .inr (10, [.int e0, .int e1, .int e2]))] s.heap := hP
  refine lv_iload_n hx hb dJx4a65c_add_72be8_0 rfl (lv_at hl 3 rfl) ?_
  refine lv_aload_n hx hb dJx4a65c_add_72be8_1 rfl (lv_at hl 2 rfl) ?_
  refine va_tlen (v := 0) hx hb hE.t4 hS (by decide) dJx4a65c_add_72be8_2 ?_
  refine lv_icmp_ne (tgt := 11) hx hb dJx4a65c_add_72be8_3 (by decide) (fun h9 => absurd rfl h9) (fun _ => ?_)
  refine lv_aload_n hx hb dJx4a65c_add_72be8_6 rfl (lv_at hl 0 rfl) ?_
  have hPc := hP.sub (ws' := [(ja, .inr (3, [.int 1, .ref (ta 4), .int 0]))]) [0] rfl
  have hKc := hK.sub (tys' := []) [] rfl
  have hDc := hD.sub (ws' := [(ja, .inr (3, [.int 1, .ref (ta 4), .int 0]))]) [0] (by decide) rfl
  have hFc := va_free (wc := [(ja, .inr (3, [.int 1, .ref (ta 4), .int 0]))]) hD hS hA [0] rfl
  refine va_callr (va_runV (As := []) (rest := []) ⟨hx, hb, hml, hown, hts⟩ (c_Jx4a65c_grow_d5877 l dC dI ja sa ta s.heap.size) (cwV 0 hts gJx4a65c_add_72be8_Jx4a65c_grow_d5877 rfl rfl rfl (by decide +kernel) ⟨Nat.le_of_ble_eq_true rfl, Nat.le_of_ble_eq_true rfl⟩) ⟨ax_fbW, va_recv hK hP (ci := 3) (q0 := 0) rfl rfl, ax_prW hPc hKc hDc hS hFc hE⟩ rfl rfl hl.1 rfl (lv_room (Nat.le_of_ble_eq_true rfl)) dJx4a65c_add_72be8_7 ⟨Nat.le_of_ble_eq_true rfl, Nat.le_of_ble_eq_true rfl⟩) hS (fun q _ h9 => hFc q h9) hFc (fun u_3  r_1 t H locs ht hvm hw_2 hB hz1 hk1 hS => ?_)
  obtain ⟨qA_4, rfl⟩ : ∃ z, z = u_3 := ⟨_, rfl⟩
  obtain ⟨hP1, hK1, hD1⟩ := hB
  rw [ht] at hP1
  have hK1 := va_K.moved hvm.symm hK1
  obtain ⟨hP, hD⟩ := va_join (wr := [(el, .inr (10, [.int e0, .int e1, .int e2]))]) (w1 := [(ja, .inr (3, [.int 1, .ref r_1, .int 0])), (r_1, .inl (qA_4, 10, .inr (.inr (.inr (.inr (fun _ => none))))))]) hP hD [0] [1] rfl rfl (by decide) (by decide) hk1 hFc hP1 hD1
  have hK := hK.app hK1
  have hK := hK.sub (tys' := [(qA_4, .object "java/lang/Object")]) [0] rfl
  have hP : va_P (dC, dI) vwCl [(el, .inr (10, [.int e0, .int e1, .int e2])), (ja, .inr (3, [.int 1, .ref r_1, .int 0])), (r_1, .inl (qA_4, 10, .inr (.inr (.inr (.inr (fun _ => none))))))] H := hP
  have hD : va_D A [(el, .inr (10, [.int e0, .int e1, .int e2])), (ja, .inr (3, [.int 1, .ref r_1, .int 0])), (r_1, .inl (qA_4, 10, .inr (.inr (.inr (.inr (fun _ => none))))))] := hD
  refine lv_astore_n (lv' := [(2, .ref r_1), (0, .ref ja), (1, .ref el), (3, .int 0)]) hx hb dJx4a65c_add_72be8_10 rfl hl (by decide) rfl (fun ls hl => ?_)
  refine lv_aload_n hx hb dJx4a65c_add_72be8_11 rfl (lv_at hl 0 rfl) ?_
  refine lv_iload_n hx hb dJx4a65c_add_72be8_12 rfl (lv_at hl 3 rfl) ?_
  refine lv_aload_n hx hb dJx4a65c_add_72be8_13 rfl (lv_at hl 2 rfl) ?_
  refine va_astqO (D := (dC, dI)) (cl := vwCl) hx hb hK hP hD hS 2 0 0 10 rfl rfl hE.c3 rfl rfl (by unfold vp_in; decide) dJx4a65c_add_72be8_14 (fun H locs hP hD hS => ?_)
  have hP : va_P (dC, dI) vwCl [(el, .inr (10, [.int e0, .int e1, .int e2])), (ja, .inr (3, [.int 1, .ref r_1, .int 0])), (r_1, .inl (qA_4, 10, .inr (.inr (.inr (.inr (va_up (fun _ => none) (0 : Int32).toNatClampNeg (some el)))))))] H := hP
  have hD : va_D A [(el, .inr (10, [.int e0, .int e1, .int e2])), (ja, .inr (3, [.int 1, .ref r_1, .int 0])), (r_1, .inl (qA_4, 10, .inr (.inr (.inr (.inr (va_up (fun _ => none) (0 : Int32).toNatClampNeg (some el)))))))] := hD
  refine lv_aload_n hx hb dJx4a65c_add_72be8_15 rfl (lv_at hl 1 rfl) ?_
  refine lv_iload_n hx hb dJx4a65c_add_72be8_16 rfl (lv_at hl 3 rfl) ?_
  refine lv_iconst (v := 1) hx hb dJx4a65c_add_72be8_17 (by decide) ?_
  refine lv_iadd hx hb dJx4a65c_add_72be8_18 ?_
  refine ax_i (y := 1) (by decide) ?_
  refine va_put (D := (dC, dI)) (ci := 3) (v := .int 1) (ty := .int) (C := RJx4a65c) (T := TJx4a65c) (N := 3) hx hb hts (by decide +kernel) tyJx4a65c tyJx4a65c_ok nmJx4a65c hown hK hP hD hS 1 rfl rfl 2 (by decide) (hts (.fieldLink RJx4a65c 48 "java/util/ArrayList" "size" "I") (by decide +kernel)) (fun _ h9 => h9) rfl (by decide +kernel) rfl rfl (Nat.le_of_ble_eq_true rfl) dJx4a65c_add_72be8_19 (fun H locs hP hD hS => ?_)
  have hP : va_P (dC, dI) vwCl [(el, .inr (10, [.int e0, .int e1, .int e2])), (ja, .inr (3, [.int 1, .ref r_1, .int 1])), (r_1, .inl (qA_4, 10, .inr (.inr (.inr (.inr (va_up (fun _ => none) (0 : Int32).toNatClampNeg (some el)))))))] H := hP
  have hD : va_D A [(el, .inr (10, [.int e0, .int e1, .int e2])), (ja, .inr (3, [.int 1, .ref r_1, .int 1])), (r_1, .inl (qA_4, 10, .inr (.inr (.inr (.inr (va_up (fun _ => none) (0 : Int32).toNatClampNeg (some el)))))))] := hD
  refine W.widen (k := 1) (n := 10) (Nat.le_of_ble_eq_true rfl) (Nat.le_of_ble_eq_true rfl) ?_
  have hP9 := hP.sub (ws' := [(ja, .inr (3, [.int 1, .ref r_1, .int 1])), (el, .inr (10, [.int e0, .int e1, .int e2]))]) [1, 0] rfl
  have hD9 := hD.sub (ws' := [(ja, .inr (3, [.int 1, .ref r_1, .int 1])), (el, .inr (10, [.int e0, .int e1, .int e2]))]) [1, 0] (by decide) rfl
  have hK9 := hK.sub (tys' := []) [] rfl
  exact W.vret hx hb hr (fun t ht hW => ⟨⟨r_1, rfl, trivial, by rw [ht]; exact hP9, va_K.moved hW.alike hK9, hD9⟩, hS.F ht⟩) hS.2.2 dJx4a65c_add_72be8_22

set_option maxHeartbeats 4000000 in
set_option maxRecDepth 100000 in
theorem c_Jx4a65c_add_9ea2d_6 (l : Launch) (dC : Nat → ClassId) (dI : Nat → Nat → Nat) (ja el : Nat) (sa ta : Nat → Nat) (sz : Nat) (e0 : Int32) (e1 : Int32) (e2 : Int32) : Met l yJx4a65c_add_9ea2d wsJx4a65c_add_9ea2d ({ frames := 32, cells := 1, slots := 10, locals := 800 }) (va_Pc [.ref ja, .ref el] (ax_W (dC, dI) vwCl [(ja, .inr (3, [.int 0, .ref (ta 4), .int 0])), (el, .inr (10, [.int e0, .int e1, .int e2]))] [] sa ta sz)) (va_Qi (fun (r : Int32) (u : Nat) => True) (fun (u : Nat) (t : State) => va_P (dC, dI) vwCl [(ja, .inr (3, [.int 1, .ref u, .int 1])), (el, .inr (10, [.int e0, .int e1, .int e2]))] t.heap ∧ va_K (dC, dI) vwCl [] t ∧ va_D (va_A [(ja, .inr (3, [.int 0, .ref (ta 4), .int 0])), (el, .inr (10, [.int e0, .int e1, .int e2]))] sz) [(ja, .inr (3, [.int 1, .ref u, .int 1])), (el, .inr (10, [.int e0, .int e1, .int e2]))]) (va_A [(ja, .inr (3, [.int 0, .ref (ta 4), .int 0])), (el, .inr (10, [.int e0, .int e1, .int e2]))] sz)) 1 10 (va_A [(ja, .inr (3, [.int 0, .ref (ta 4), .int 0])), (el, .inr (10, [.int e0, .int e1, .int e2]))] sz) := by
  refine Met.ofW (cc := cJx4a65c_add_9ea2d) (maxL := 2) (ret := (some .boolean)) (by decide) rfl ?_
  intro p e s m args below meth c s₁ B hml hv
  obtain ⟨rfl, hsz, hP, hK, hD0, hE⟩ := hv
  have hx := B.exec
  have hb := B.bytes
  have hr := B.returns
  have hts := atoms_spec (ws := wsJx4a65c_add_9ea2d) B.pre
  have hown : s.vm.findClass RJx4a65c = some m.cls := findClass_of_methodNamed B.named
  have hlocks := B.notSynchronized
  subst hsz
  have hD := hD0.self (sz := s.heap.size)
  generalize hAe : va_A [(ja, .inr (3, [.int 0, .ref (ta 4), .int 0])), (el, .inr (10, [.int e0, .int e1, .int e2]))] s.heap.size = A at hD hE ⊢
  have hA : ∀ q : Nat, s.heap.size ≤ q → A q := fun q h => by rw [← hAe]; exact Or.inr h
  have hS : va_S A s.heap s.heap [] := va_S.rf
  have hl := lv_entry ([.ref ja, .ref el]) (n := 2) (Nat.le_of_ble_eq_true rfl)
  rw [lg_entry_eq]
  generalize (lg_sl ([.ref ja, .ref el]) ++ List.replicate (2 - (lg_sl ([.ref ja, .ref el])).length) Slot.unset).toArray = ls at hl ⊢
  have hl : lv_has ls 2 [(0, .ref ja), (1, .ref el)] := hl
  have hP : va_P (dC, dI) vwCl [(ja, .inr (3, [.int 0, .ref (ta 4), .int 0])), (el, .inr (10, [.int e0, .int e1, .int e2]))] s.heap := hP
  refine lv_aload_n hx hb dJx4a65c_add_9ea2d_0 rfl (lv_at hl 0 rfl) ?_
  refine lv_dup hx hb dJx4a65c_add_9ea2d_1 rfl ?_
  refine va_get (D := (dC, dI)) (ci := 3) (v := .int 0) (C := RJx4a65c) (T := TJx4a65c) (N := 3) hx hb hts (by decide +kernel) hown hK hP 0 rfl rfl 0 (by decide) (hts (.fieldLink RJx4a65c 63 "java/util/ArrayList" "modCount" "I") (by decide +kernel)) (u_same (hts (.sameField "java/util/ArrayList" "java/util/AbstractList" "modCount" "I") (by decide +kernel))) rfl dJx4a65c_add_9ea2d_2 ?_
  refine lv_iconst (v := 1) hx hb dJx4a65c_add_9ea2d_5 (by decide) ?_
  refine lv_iadd hx hb dJx4a65c_add_9ea2d_6 ?_
  refine ax_i (y := 1) (by decide) ?_
  refine va_put (D := (dC, dI)) (ci := 3) (v := .int 1) (ty := .int) (C := RJx4a65c) (T := TJx4a65c) (N := 3) hx hb hts (by decide +kernel) tyJx4a65c tyJx4a65c_ok nmJx4a65c hown hK hP hD hS 0 rfl rfl 0 (by decide) (hts (.fieldLink RJx4a65c 63 "java/util/ArrayList" "modCount" "I") (by decide +kernel)) (u_same (hts (.sameField "java/util/ArrayList" "java/util/AbstractList" "modCount" "I") (by decide +kernel))) rfl (by decide +kernel) rfl rfl (Nat.le_of_ble_eq_true rfl) dJx4a65c_add_9ea2d_7 (fun H locs hP hD hS => ?_)
  have hP : va_P (dC, dI) vwCl [(ja, .inr (3, [.int 1, .ref (ta 4), .int 0])), (el, .inr (10, [.int e0, .int e1, .int e2]))] H := hP
  have hD : va_D A [(ja, .inr (3, [.int 1, .ref (ta 4), .int 0])), (el, .inr (10, [.int e0, .int e1, .int e2]))] := hD
  refine lv_aload_n hx hb dJx4a65c_add_9ea2d_10 rfl (lv_at hl 0 rfl) ?_
  refine lv_aload_n hx hb dJx4a65c_add_9ea2d_11 rfl (lv_at hl 1 rfl) ?_
  refine lv_aload_n hx hb dJx4a65c_add_9ea2d_12 rfl (lv_at hl 0 rfl) ?_
  refine va_get (D := (dC, dI)) (ci := 3) (v := .ref (ta 4)) (C := RJx4a65c) (T := TJx4a65c) (N := 3) hx hb hts (by decide +kernel) hown hK hP 0 rfl rfl 1 (by decide) (hts (.fieldLink RJx4a65c 9 "java/util/ArrayList" "elementData" "[Ljava/lang/Object;") (by decide +kernel)) (fun _ h9 => h9) rfl dJx4a65c_add_9ea2d_13 ?_
  refine lv_aload_n hx hb dJx4a65c_add_9ea2d_16 rfl (lv_at hl 0 rfl) ?_
  refine va_get (D := (dC, dI)) (ci := 3) (v := .int 0) (C := RJx4a65c) (T := TJx4a65c) (N := 3) hx hb hts (by decide +kernel) hown hK hP 0 rfl rfl 2 (by decide) (hts (.fieldLink RJx4a65c 48 "java/util/ArrayList" "size" "I") (by decide +kernel)) (fun _ h9 => h9) rfl dJx4a65c_add_9ea2d_17 ?_
  have hPc := hP.sub (ws' := [(ja, .inr (3, [.int 1, .ref (ta 4), .int 0])), (el, .inr (10, [.int e0, .int e1, .int e2]))]) [0, 1] rfl
  have hKc := hK.sub (tys' := []) [] rfl
  have hDc := hD.sub (ws' := [(ja, .inr (3, [.int 1, .ref (ta 4), .int 0])), (el, .inr (10, [.int e0, .int e1, .int e2]))]) [0, 1] (by decide) rfl
  have hFc := va_free (wc := [(ja, .inr (3, [.int 1, .ref (ta 4), .int 0])), (el, .inr (10, [.int e0, .int e1, .int e2]))]) hD hS hA [0, 1] rfl
  refine va_callv (va_runV (As := [.ref el, .ref (ta 4), .int 0]) (rest := []) ⟨hx, hb, hml, hown, hts⟩ (c_Jx4a65c_add_72be8_6 l dC dI ja el sa ta H.size e0 e1 e2) (cwV 3 hts gJx4a65c_add_9ea2d_Jx4a65c_add_72be8 rfl rfl rfl (by decide +kernel) ⟨Nat.le_of_ble_eq_true rfl, Nat.le_of_ble_eq_true rfl⟩) ⟨ax_fbW, va_recv hK hP (ci := 3) (q0 := 0) rfl rfl, ax_prW hPc hKc hDc hS hFc hE⟩ rfl rfl hl.1 rfl (lv_room (Nat.le_of_ble_eq_true rfl)) dJx4a65c_add_9ea2d_20 ⟨Nat.le_of_ble_eq_true rfl, Nat.le_of_ble_eq_true rfl⟩) hS (fun q _ h9 => hFc q h9) hFc (fun u_3  t H locs ht hvm hw_2 hB hz1 hk1 hS => ?_)
  obtain ⟨qn_4, rfl⟩ : ∃ z, z = u_3 := ⟨_, rfl⟩
  obtain ⟨hP1, hK1, hD1⟩ := hB
  rw [ht] at hP1
  have hK1 := va_K.moved hvm.symm hK1
  obtain ⟨hP, hD⟩ := va_join (wr := []) (w1 := [(ja, .inr (3, [.int 1, .ref qn_4, .int 1])), (el, .inr (10, [.int e0, .int e1, .int e2]))]) hP hD [0, 1] [] rfl rfl (by decide) (by decide) hk1 hFc hP1 hD1
  have hP : va_P (dC, dI) vwCl [(ja, .inr (3, [.int 1, .ref qn_4, .int 1])), (el, .inr (10, [.int e0, .int e1, .int e2]))] H := hP
  have hD : va_D A [(ja, .inr (3, [.int 1, .ref qn_4, .int 1])), (el, .inr (10, [.int e0, .int e1, .int e2]))] := hD
  refine lv_iconst (v := 1) hx hb dJx4a65c_add_9ea2d_23 (by decide) ?_
  refine W.widen (k := 1) (n := 10) (Nat.le_of_ble_eq_true rfl) (Nat.le_of_ble_eq_true rfl) ?_
  have hP9 := hP.sub (ws' := [(ja, .inr (3, [.int 1, .ref qn_4, .int 1])), (el, .inr (10, [.int e0, .int e1, .int e2]))]) [0, 1] rfl
  have hD9 := hD.sub (ws' := [(ja, .inr (3, [.int 1, .ref qn_4, .int 1])), (el, .inr (10, [.int e0, .int e1, .int e2]))]) [0, 1] (by decide) rfl
  have hK9 := hK.sub (tys' := []) [] rfl
  exact W.zret (v := 1) (ty := .boolean) hx hb hr (by decide +kernel) (fun t ht hW => ⟨⟨1, qn_4, rfl, trivial, by rw [ht]; exact hP9, va_K.moved hW.alike hK9, hD9⟩, hS.F ht⟩) hS.2.2 dJx4a65c_add_9ea2d_24

set_option maxHeartbeats 4000000 in
set_option maxRecDepth 100000 in
theorem c_Jx4a65c_add_72be8_5 (l : Launch) (dC : Nat → ClassId) (dI : Nat → Nat → Nat) (ja el eq : Nat) (sa ta : Nat → Nat) (sz : Nat) (e0 : Int32) (e1 : Int32) : Met l yJx4a65c_add_72be8 wsJx4a65c_add_72be8 ({ frames := 24, cells := 1, slots := 10, locals := 600 }) (va_Pc [.ref ja, .ref el, .ref (ta 4), .int 0] (ax_W (dC, dI) vwCl [(ja, .inr (3, [.int 1, .ref (ta 4), .int 0])), (el, .inr (9, [.int e0, .int e1, .int 1, .int 0, .int 0, .ref eq]))] [] sa ta sz)) (va_Qv (fun (u : Nat) => True) (fun (u : Nat) (t : State) => va_P (dC, dI) vwCl [(ja, .inr (3, [.int 1, .ref u, .int 1])), (el, .inr (9, [.int e0, .int e1, .int 1, .int 0, .int 0, .ref eq]))] t.heap ∧ va_K (dC, dI) vwCl [] t ∧ va_D (va_A [(ja, .inr (3, [.int 1, .ref (ta 4), .int 0])), (el, .inr (9, [.int e0, .int e1, .int 1, .int 0, .int 0, .ref eq]))] sz) [(ja, .inr (3, [.int 1, .ref u, .int 1])), (el, .inr (9, [.int e0, .int e1, .int 1, .int 0, .int 0, .ref eq]))]) (va_A [(ja, .inr (3, [.int 1, .ref (ta 4), .int 0])), (el, .inr (9, [.int e0, .int e1, .int 1, .int 0, .int 0, .ref eq]))] sz)) 1 10 (va_A [(ja, .inr (3, [.int 1, .ref (ta 4), .int 0])), (el, .inr (9, [.int e0, .int e1, .int 1, .int 0, .int 0, .ref eq]))] sz) := by
  refine Met.ofW (cc := cJx4a65c_add_72be8) (maxL := 4) (ret := none) (by decide) rfl ?_
  intro p e s m args below meth c s₁ B hml hv
  obtain ⟨rfl, hsz, hP, hK, hD0, hE⟩ := hv
  have hx := B.exec
  have hb := B.bytes
  have hr := B.returns
  have hts := atoms_spec (ws := wsJx4a65c_add_72be8) B.pre
  have hown : s.vm.findClass RJx4a65c = some m.cls := findClass_of_methodNamed B.named
  have hlocks := B.notSynchronized
  subst hsz
  have hD := hD0.self (sz := s.heap.size)
  generalize hAe : va_A [(ja, .inr (3, [.int 1, .ref (ta 4), .int 0])), (el, .inr (9, [.int e0, .int e1, .int 1, .int 0, .int 0, .ref eq]))] s.heap.size = A at hD hE ⊢
  have hA : ∀ q : Nat, s.heap.size ≤ q → A q := fun q h => by rw [← hAe]; exact Or.inr h
  have hS : va_S A s.heap s.heap [] := va_S.rf
  have hl := lv_entry ([.ref ja, .ref el, .ref (ta 4), .int 0]) (n := 4) (Nat.le_of_ble_eq_true rfl)
  rw [lg_entry_eq]
  generalize (lg_sl ([.ref ja, .ref el, .ref (ta 4), .int 0]) ++ List.replicate (4 - (lg_sl ([.ref ja, .ref el, .ref (ta 4), .int 0])).length) Slot.unset).toArray = ls at hl ⊢
  have hl : lv_has ls 4 [(0, .ref ja), (1, .ref el), (2, .ref (ta 4)), (3, .int 0)] := hl
  have hP : va_P (dC, dI) vwCl [(ja, .inr (3, [.int 1, .ref (ta 4), .int 0])), (el, .inr (9, [.int e0, .int e1, .int 1, .int 0, .int 0, .ref eq]))] s.heap := hP
  refine lv_iload_n hx hb dJx4a65c_add_72be8_0 rfl (lv_at hl 3 rfl) ?_
  refine lv_aload_n hx hb dJx4a65c_add_72be8_1 rfl (lv_at hl 2 rfl) ?_
  refine va_tlen (v := 0) hx hb hE.t4 hS (by decide) dJx4a65c_add_72be8_2 ?_
  refine lv_icmp_ne (tgt := 11) hx hb dJx4a65c_add_72be8_3 (by decide) (fun h9 => absurd rfl h9) (fun _ => ?_)
  refine lv_aload_n hx hb dJx4a65c_add_72be8_6 rfl (lv_at hl 0 rfl) ?_
  have hPc := hP.sub (ws' := [(ja, .inr (3, [.int 1, .ref (ta 4), .int 0]))]) [0] rfl
  have hKc := hK.sub (tys' := []) [] rfl
  have hDc := hD.sub (ws' := [(ja, .inr (3, [.int 1, .ref (ta 4), .int 0]))]) [0] (by decide) rfl
  have hFc := va_free (wc := [(ja, .inr (3, [.int 1, .ref (ta 4), .int 0]))]) hD hS hA [0] rfl
  refine va_callr (va_runV (As := []) (rest := []) ⟨hx, hb, hml, hown, hts⟩ (c_Jx4a65c_grow_d5877 l dC dI ja sa ta s.heap.size) (cwV 0 hts gJx4a65c_add_72be8_Jx4a65c_grow_d5877 rfl rfl rfl (by decide +kernel) ⟨Nat.le_of_ble_eq_true rfl, Nat.le_of_ble_eq_true rfl⟩) ⟨ax_fbW, va_recv hK hP (ci := 3) (q0 := 0) rfl rfl, ax_prW hPc hKc hDc hS hFc hE⟩ rfl rfl hl.1 rfl (lv_room (Nat.le_of_ble_eq_true rfl)) dJx4a65c_add_72be8_7 ⟨Nat.le_of_ble_eq_true rfl, Nat.le_of_ble_eq_true rfl⟩) hS (fun q _ h9 => hFc q h9) hFc (fun u_3  r_1 t H locs ht hvm hw_2 hB hz1 hk1 hS => ?_)
  obtain ⟨qA_4, rfl⟩ : ∃ z, z = u_3 := ⟨_, rfl⟩
  obtain ⟨hP1, hK1, hD1⟩ := hB
  rw [ht] at hP1
  have hK1 := va_K.moved hvm.symm hK1
  obtain ⟨hP, hD⟩ := va_join (wr := [(el, .inr (9, [.int e0, .int e1, .int 1, .int 0, .int 0, .ref eq]))]) (w1 := [(ja, .inr (3, [.int 1, .ref r_1, .int 0])), (r_1, .inl (qA_4, 10, .inr (.inr (.inr (.inr (fun _ => none))))))]) hP hD [0] [1] rfl rfl (by decide) (by decide) hk1 hFc hP1 hD1
  have hK := hK.app hK1
  have hK := hK.sub (tys' := [(qA_4, .object "java/lang/Object")]) [0] rfl
  have hP : va_P (dC, dI) vwCl [(el, .inr (9, [.int e0, .int e1, .int 1, .int 0, .int 0, .ref eq])), (ja, .inr (3, [.int 1, .ref r_1, .int 0])), (r_1, .inl (qA_4, 10, .inr (.inr (.inr (.inr (fun _ => none))))))] H := hP
  have hD : va_D A [(el, .inr (9, [.int e0, .int e1, .int 1, .int 0, .int 0, .ref eq])), (ja, .inr (3, [.int 1, .ref r_1, .int 0])), (r_1, .inl (qA_4, 10, .inr (.inr (.inr (.inr (fun _ => none))))))] := hD
  refine lv_astore_n (lv' := [(2, .ref r_1), (0, .ref ja), (1, .ref el), (3, .int 0)]) hx hb dJx4a65c_add_72be8_10 rfl hl (by decide) rfl (fun ls hl => ?_)
  refine lv_aload_n hx hb dJx4a65c_add_72be8_11 rfl (lv_at hl 0 rfl) ?_
  refine lv_iload_n hx hb dJx4a65c_add_72be8_12 rfl (lv_at hl 3 rfl) ?_
  refine lv_aload_n hx hb dJx4a65c_add_72be8_13 rfl (lv_at hl 2 rfl) ?_
  refine va_astqO (D := (dC, dI)) (cl := vwCl) hx hb hK hP hD hS 2 0 0 9 rfl rfl hE.c4 rfl rfl (by unfold vp_in; decide) dJx4a65c_add_72be8_14 (fun H locs hP hD hS => ?_)
  have hP : va_P (dC, dI) vwCl [(el, .inr (9, [.int e0, .int e1, .int 1, .int 0, .int 0, .ref eq])), (ja, .inr (3, [.int 1, .ref r_1, .int 0])), (r_1, .inl (qA_4, 10, .inr (.inr (.inr (.inr (va_up (fun _ => none) (0 : Int32).toNatClampNeg (some el)))))))] H := hP
  have hD : va_D A [(el, .inr (9, [.int e0, .int e1, .int 1, .int 0, .int 0, .ref eq])), (ja, .inr (3, [.int 1, .ref r_1, .int 0])), (r_1, .inl (qA_4, 10, .inr (.inr (.inr (.inr (va_up (fun _ => none) (0 : Int32).toNatClampNeg (some el)))))))] := hD
  refine lv_aload_n hx hb dJx4a65c_add_72be8_15 rfl (lv_at hl 1 rfl) ?_
  refine lv_iload_n hx hb dJx4a65c_add_72be8_16 rfl (lv_at hl 3 rfl) ?_
  refine lv_iconst (v := 1) hx hb dJx4a65c_add_72be8_17 (by decide) ?_
  refine lv_iadd hx hb dJx4a65c_add_72be8_18 ?_
  refine ax_i (y := 1) (by decide) ?_
  refine va_put (D := (dC, dI)) (ci := 3) (v := .int 1) (ty := .int) (C := RJx4a65c) (T := TJx4a65c) (N := 3) hx hb hts (by decide +kernel) tyJx4a65c tyJx4a65c_ok nmJx4a65c hown hK hP hD hS 1 rfl rfl 2 (by decide) (hts (.fieldLink RJx4a65c 48 "java/util/ArrayList" "size" "I") (by decide +kernel)) (fun _ h9 => h9) rfl (by decide +kernel) rfl rfl (Nat.le_of_ble_eq_true rfl) dJx4a65c_add_72be8_19 (fun H locs hP hD hS => ?_)
  have hP : va_P (dC, dI) vwCl [(el, .inr (9, [.int e0, .int e1, .int 1, .int 0, .int 0, .ref eq])), (ja, .inr (3, [.int 1, .ref r_1, .int 1])), (r_1, .inl (qA_4, 10, .inr (.inr (.inr (.inr (va_up (fun _ => none) (0 : Int32).toNatClampNeg (some el)))))))] H := hP
  have hD : va_D A [(el, .inr (9, [.int e0, .int e1, .int 1, .int 0, .int 0, .ref eq])), (ja, .inr (3, [.int 1, .ref r_1, .int 1])), (r_1, .inl (qA_4, 10, .inr (.inr (.inr (.inr (va_up (fun _ => none) (0 : Int32).toNatClampNeg (some el)))))))] := hD
  refine W.widen (k := 1) (n := 10) (Nat.le_of_ble_eq_true rfl) (Nat.le_of_ble_eq_true rfl) ?_
  have hP9 := hP.sub (ws' := [(ja, .inr (3, [.int 1, .ref r_1, .int 1])), (el, .inr (9, [.int e0, .int e1, .int 1, .int 0, .int 0, .ref eq]))]) [1, 0] rfl
  have hD9 := hD.sub (ws' := [(ja, .inr (3, [.int 1, .ref r_1, .int 1])), (el, .inr (9, [.int e0, .int e1, .int 1, .int 0, .int 0, .ref eq]))]) [1, 0] (by decide) rfl
  have hK9 := hK.sub (tys' := []) [] rfl
  exact W.vret hx hb hr (fun t ht hW => ⟨⟨r_1, rfl, trivial, by rw [ht]; exact hP9, va_K.moved hW.alike hK9, hD9⟩, hS.F ht⟩) hS.2.2 dJx4a65c_add_72be8_22

set_option maxHeartbeats 4000000 in
set_option maxRecDepth 100000 in
theorem c_Jx4a65c_add_9ea2d_5 (l : Launch) (dC : Nat → ClassId) (dI : Nat → Nat → Nat) (ja el eq : Nat) (sa ta : Nat → Nat) (sz : Nat) (e0 : Int32) (e1 : Int32) : Met l yJx4a65c_add_9ea2d wsJx4a65c_add_9ea2d ({ frames := 32, cells := 1, slots := 10, locals := 800 }) (va_Pc [.ref ja, .ref el] (ax_W (dC, dI) vwCl [(ja, .inr (3, [.int 0, .ref (ta 4), .int 0])), (el, .inr (9, [.int e0, .int e1, .int 1, .int 0, .int 0, .ref eq]))] [] sa ta sz)) (va_Qi (fun (r : Int32) (u : Nat) => True) (fun (u : Nat) (t : State) => va_P (dC, dI) vwCl [(ja, .inr (3, [.int 1, .ref u, .int 1])), (el, .inr (9, [.int e0, .int e1, .int 1, .int 0, .int 0, .ref eq]))] t.heap ∧ va_K (dC, dI) vwCl [] t ∧ va_D (va_A [(ja, .inr (3, [.int 0, .ref (ta 4), .int 0])), (el, .inr (9, [.int e0, .int e1, .int 1, .int 0, .int 0, .ref eq]))] sz) [(ja, .inr (3, [.int 1, .ref u, .int 1])), (el, .inr (9, [.int e0, .int e1, .int 1, .int 0, .int 0, .ref eq]))]) (va_A [(ja, .inr (3, [.int 0, .ref (ta 4), .int 0])), (el, .inr (9, [.int e0, .int e1, .int 1, .int 0, .int 0, .ref eq]))] sz)) 1 10 (va_A [(ja, .inr (3, [.int 0, .ref (ta 4), .int 0])), (el, .inr (9, [.int e0, .int e1, .int 1, .int 0, .int 0, .ref eq]))] sz) := by
  refine Met.ofW (cc := cJx4a65c_add_9ea2d) (maxL := 2) (ret := (some .boolean)) (by decide) rfl ?_
  intro p e s m args below meth c s₁ B hml hv
  obtain ⟨rfl, hsz, hP, hK, hD0, hE⟩ := hv
  have hx := B.exec
  have hb := B.bytes
  have hr := B.returns
  have hts := atoms_spec (ws := wsJx4a65c_add_9ea2d) B.pre
  have hown : s.vm.findClass RJx4a65c = some m.cls := findClass_of_methodNamed B.named
  have hlocks := B.notSynchronized
  subst hsz
  have hD := hD0.self (sz := s.heap.size)
  generalize hAe : va_A [(ja, .inr (3, [.int 0, .ref (ta 4), .int 0])), (el, .inr (9, [.int e0, .int e1, .int 1, .int 0, .int 0, .ref eq]))] s.heap.size = A at hD hE ⊢
  have hA : ∀ q : Nat, s.heap.size ≤ q → A q := fun q h => by rw [← hAe]; exact Or.inr h
  have hS : va_S A s.heap s.heap [] := va_S.rf
  have hl := lv_entry ([.ref ja, .ref el]) (n := 2) (Nat.le_of_ble_eq_true rfl)
  rw [lg_entry_eq]
  generalize (lg_sl ([.ref ja, .ref el]) ++ List.replicate (2 - (lg_sl ([.ref ja, .ref el])).length) Slot.unset).toArray = ls at hl ⊢
  have hl : lv_has ls 2 [(0, .ref ja), (1, .ref el)] := hl
  have hP : va_P (dC, dI) vwCl [(ja, .inr (3, [.int 0, .ref (ta 4), .int 0])), (el, .inr (9, [.int e0, .int e1, .int 1, .int 0, .int 0, .ref eq]))] s.heap := hP
  refine lv_aload_n hx hb dJx4a65c_add_9ea2d_0 rfl (lv_at hl 0 rfl) ?_
  refine lv_dup hx hb dJx4a65c_add_9ea2d_1 rfl ?_
  refine va_get (D := (dC, dI)) (ci := 3) (v := .int 0) (C := RJx4a65c) (T := TJx4a65c) (N := 3) hx hb hts (by decide +kernel) hown hK hP 0 rfl rfl 0 (by decide) (hts (.fieldLink RJx4a65c 63 "java/util/ArrayList" "modCount" "I") (by decide +kernel)) (u_same (hts (.sameField "java/util/ArrayList" "java/util/AbstractList" "modCount" "I") (by decide +kernel))) rfl dJx4a65c_add_9ea2d_2 ?_
  refine lv_iconst (v := 1) hx hb dJx4a65c_add_9ea2d_5 (by decide) ?_
  refine lv_iadd hx hb dJx4a65c_add_9ea2d_6 ?_
  refine ax_i (y := 1) (by decide) ?_
  refine va_put (D := (dC, dI)) (ci := 3) (v := .int 1) (ty := .int) (C := RJx4a65c) (T := TJx4a65c) (N := 3) hx hb hts (by decide +kernel) tyJx4a65c tyJx4a65c_ok nmJx4a65c hown hK hP hD hS 0 rfl rfl 0 (by decide) (hts (.fieldLink RJx4a65c 63 "java/util/ArrayList" "modCount" "I") (by decide +kernel)) (u_same (hts (.sameField "java/util/ArrayList" "java/util/AbstractList" "modCount" "I") (by decide +kernel))) rfl (by decide +kernel) rfl rfl (Nat.le_of_ble_eq_true rfl) dJx4a65c_add_9ea2d_7 (fun H locs hP hD hS => ?_)
  have hP : va_P (dC, dI) vwCl [(ja, .inr (3, [.int 1, .ref (ta 4), .int 0])), (el, .inr (9, [.int e0, .int e1, .int 1, .int 0, .int 0, .ref eq]))] H := hP
  have hD : va_D A [(ja, .inr (3, [.int 1, .ref (ta 4), .int 0])), (el, .inr (9, [.int e0, .int e1, .int 1, .int 0, .int 0, .ref eq]))] := hD
  refine lv_aload_n hx hb dJx4a65c_add_9ea2d_10 rfl (lv_at hl 0 rfl) ?_
  refine lv_aload_n hx hb dJx4a65c_add_9ea2d_11 rfl (lv_at hl 1 rfl) ?_
  refine lv_aload_n hx hb dJx4a65c_add_9ea2d_12 rfl (lv_at hl 0 rfl) ?_
  refine va_get (D := (dC, dI)) (ci := 3) (v := .ref (ta 4)) (C := RJx4a65c) (T := TJx4a65c) (N := 3) hx hb hts (by decide +kernel) hown hK hP 0 rfl rfl 1 (by decide) (hts (.fieldLink RJx4a65c 9 "java/util/ArrayList" "elementData" "[Ljava/lang/Object;") (by decide +kernel)) (fun _ h9 => h9) rfl dJx4a65c_add_9ea2d_13 ?_
  refine lv_aload_n hx hb dJx4a65c_add_9ea2d_16 rfl (lv_at hl 0 rfl) ?_
  refine va_get (D := (dC, dI)) (ci := 3) (v := .int 0) (C := RJx4a65c) (T := TJx4a65c) (N := 3) hx hb hts (by decide +kernel) hown hK hP 0 rfl rfl 2 (by decide) (hts (.fieldLink RJx4a65c 48 "java/util/ArrayList" "size" "I") (by decide +kernel)) (fun _ h9 => h9) rfl dJx4a65c_add_9ea2d_17 ?_
  have hPc := hP.sub (ws' := [(ja, .inr (3, [.int 1, .ref (ta 4), .int 0])), (el, .inr (9, [.int e0, .int e1, .int 1, .int 0, .int 0, .ref eq]))]) [0, 1] rfl
  have hKc := hK.sub (tys' := []) [] rfl
  have hDc := hD.sub (ws' := [(ja, .inr (3, [.int 1, .ref (ta 4), .int 0])), (el, .inr (9, [.int e0, .int e1, .int 1, .int 0, .int 0, .ref eq]))]) [0, 1] (by decide) rfl
  have hFc := va_free (wc := [(ja, .inr (3, [.int 1, .ref (ta 4), .int 0])), (el, .inr (9, [.int e0, .int e1, .int 1, .int 0, .int 0, .ref eq]))]) hD hS hA [0, 1] rfl
  refine va_callv (va_runV (As := [.ref el, .ref (ta 4), .int 0]) (rest := []) ⟨hx, hb, hml, hown, hts⟩ (c_Jx4a65c_add_72be8_5 l dC dI ja el eq sa ta H.size e0 e1) (cwV 3 hts gJx4a65c_add_9ea2d_Jx4a65c_add_72be8 rfl rfl rfl (by decide +kernel) ⟨Nat.le_of_ble_eq_true rfl, Nat.le_of_ble_eq_true rfl⟩) ⟨ax_fbW, va_recv hK hP (ci := 3) (q0 := 0) rfl rfl, ax_prW hPc hKc hDc hS hFc hE⟩ rfl rfl hl.1 rfl (lv_room (Nat.le_of_ble_eq_true rfl)) dJx4a65c_add_9ea2d_20 ⟨Nat.le_of_ble_eq_true rfl, Nat.le_of_ble_eq_true rfl⟩) hS (fun q _ h9 => hFc q h9) hFc (fun u_3  t H locs ht hvm hw_2 hB hz1 hk1 hS => ?_)
  obtain ⟨qn_4, rfl⟩ : ∃ z, z = u_3 := ⟨_, rfl⟩
  obtain ⟨hP1, hK1, hD1⟩ := hB
  rw [ht] at hP1
  have hK1 := va_K.moved hvm.symm hK1
  obtain ⟨hP, hD⟩ := va_join (wr := []) (w1 := [(ja, .inr (3, [.int 1, .ref qn_4, .int 1])), (el, .inr (9, [.int e0, .int e1, .int 1, .int 0, .int 0, .ref eq]))]) hP hD [0, 1] [] rfl rfl (by decide) (by decide) hk1 hFc hP1 hD1
  have hP : va_P (dC, dI) vwCl [(ja, .inr (3, [.int 1, .ref qn_4, .int 1])), (el, .inr (9, [.int e0, .int e1, .int 1, .int 0, .int 0, .ref eq]))] H := hP
  have hD : va_D A [(ja, .inr (3, [.int 1, .ref qn_4, .int 1])), (el, .inr (9, [.int e0, .int e1, .int 1, .int 0, .int 0, .ref eq]))] := hD
  refine lv_iconst (v := 1) hx hb dJx4a65c_add_9ea2d_23 (by decide) ?_
  refine W.widen (k := 1) (n := 10) (Nat.le_of_ble_eq_true rfl) (Nat.le_of_ble_eq_true rfl) ?_
  have hP9 := hP.sub (ws' := [(ja, .inr (3, [.int 1, .ref qn_4, .int 1])), (el, .inr (9, [.int e0, .int e1, .int 1, .int 0, .int 0, .ref eq]))]) [0, 1] rfl
  have hD9 := hD.sub (ws' := [(ja, .inr (3, [.int 1, .ref qn_4, .int 1])), (el, .inr (9, [.int e0, .int e1, .int 1, .int 0, .int 0, .ref eq]))]) [0, 1] (by decide) rfl
  have hK9 := hK.sub (tys' := []) [] rfl
  exact W.zret (v := 1) (ty := .boolean) hx hb hr (by decide +kernel) (fun t ht hW => ⟨⟨1, qn_4, rfl, trivial, by rw [ht]; exact hP9, va_K.moved hW.alike hK9, hD9⟩, hS.F ht⟩) hS.2.2 dJx4a65c_add_9ea2d_24
