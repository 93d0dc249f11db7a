set_option maxHeartbeats 4000000 in
set_option maxRecDepth 100000 in
theorem c_X7_first (l : Launch) (dC : Nat → ClassId) (dI : Nat → Nat → Nat) (y ys yp : Nat) (sa ta : Nat → Nat) (sz : Nat) (th : Int32) : Met l yX7_first wsX7_first ({ frames := 16, cells := 2, slots := 4, locals := 400 }) (va_Pc [.ref y, .int (-1)] (ax_W (dC, dI) vwCl [(y, .inr (11, [.int th, .ref ys, .ref yp, .int 0])), (ys, .inr (3, [.int 0, .ref (ta 4), .int 0])), (yp, .inr (3, [.int 0, .ref (ta 4), .int 0]))] [] sa ta sz)) (va_Qr (fun (u : ClassId) => True) (fun (u : ClassId) (a : Nat) (t : State) => va_P (dC, dI) vwCl [(y, .inr (11, [.int th, .ref ys, .ref yp, .int 0])), (ys, .inr (3, [.int 0, .ref (ta 4), .int 0])), (yp, .inr (3, [.int 0, .ref (ta 4), .int 0])), (a, .inl (u, 0, .inr (.inl (fun _ => 0))))] t.heap ∧ va_K (dC, dI) vwCl [(u, .long)] t ∧ va_D (va_A [(y, .inr (11, [.int th, .ref ys, .ref yp, .int 0])), (ys, .inr (3, [.int 0, .ref (ta 4), .int 0])), (yp, .inr (3, [.int 0, .ref (ta 4), .int 0]))] sz) [(y, .inr (11, [.int th, .ref ys, .ref yp, .int 0])), (ys, .inr (3, [.int 0, .ref (ta 4), .int 0])), (yp, .inr (3, [.int 0, .ref (ta 4), .int 0])), (a, .inl (u, 0, .inr (.inl (fun _ => 0))))]) (va_A [(y, .inr (11, [.int th, .ref ys, .ref yp, .int 0])), (ys, .inr (3, [.int 0, .ref (ta 4), .int 0])), (yp, .inr (3, [.int 0, .ref (ta 4), .int 0]))] sz)) 2 4 (va_A [(y, .inr (11, [.int th, .ref ys, .ref yp, .int 0])), (ys, .inr (3, [.int 0, .ref (ta 4), .int 0])), (yp, .inr (3, [.int 0, .ref (ta 4), .int 0]))] sz) := by
  refine Met.ofW (cc := cX7_first) (maxL := 6) (ret := (some (.array .long))) (by decide) rfl ?_
  intro p e s m args below meth c s₁ B hml hv
  obtain ⟨rfl, hsz, hP, hK, hD0, hE⟩ := hv
  have hx := B.exec
  have hb := B.bytes
  have hr := B.returns
  have hts := atoms_spec (ws := wsX7_first) B.pre
  have hown : s.vm.findClass RX7 = some m.cls := findClass_of_methodNamed B.named
  have hlocks := B.notSynchronized
  subst hsz
  have hD := hD0.self (sz := s.heap.size)
  generalize hAe : va_A [(y, .inr (11, [.int th, .ref ys, .ref yp, .int 0])), (ys, .inr (3, [.int 0, .ref (ta 4), .int 0])), (yp, .inr (3, [.int 0, .ref (ta 4), .int 0]))] s.heap.size = A at hD hE ⊢
  have hA : ∀ q : Nat, s.heap.size ≤ q → A q := fun q h => by rw [← hAe]; exact Or.inr h
  have hS : va_S A s.heap s.heap [] := va_S.rf
  have hl := lv_entry ([.ref y, .int (-1)]) (n := 6) (Nat.le_of_ble_eq_true rfl)
  rw [lg_entry_eq]
  generalize (lg_sl ([.ref y, .int (-1)]) ++ List.replicate (6 - (lg_sl ([.ref y, .int (-1)])).length) Slot.unset).toArray = ls at hl ⊢
  have hl : lv_has ls 6 [(0, .ref y), (1, .int (-1))] := hl
  have hP : va_P (dC, dI) vwCl [(y, .inr (11, [.int th, .ref ys, .ref yp, .int 0])), (ys, .inr (3, [.int 0, .ref (ta 4), .int 0])), (yp, .inr (3, [.int 0, .ref (ta 4), .int 0]))] s.heap := hP
  refine lv_aload_n hx hb dX7_first_0 rfl (lv_at hl 0 rfl) ?_
  refine va_get (D := (dC, dI)) (ci := 11) (v := .ref ys) (C := RX7) (T := TX7) (N := 4) hx hb hts (by decide +kernel) hown hK hP 0 rfl rfl 1 (by decide) (hts (.fieldLink RX7 10 "DiffractoryModel" "sources" "Ljava/util/ArrayList;") (by decide +kernel)) (fun _ h9 => h9) rfl dX7_first_1 ?_
  have hPc := hP.sub (ws' := [(ys, .inr (3, [.int 0, .ref (ta 4), .int 0]))]) [1] rfl
  have hKc := hK.sub (tys' := []) [] rfl
  refine va_calli (va_runV (As := []) (rest := []) ⟨hx, hb, hml, hown, hts⟩ (c_Jx4a65c_size_8abf5 l dC dI ys (ta 4) sa ta 0 0) (cwV 0 hts gX7_first_Jx4a65c_size_8abf5 rfl rfl rfl (by decide +kernel) ⟨Nat.le_of_ble_eq_true rfl, Nat.le_of_ble_eq_true rfl⟩) ⟨ax_fbR, va_recv hK hP (ci := 3) (q0 := 1) rfl rfl, ax_prR hPc hKc hS hE⟩ rfl rfl hl.1 rfl (lv_room (Nat.le_of_ble_eq_true rfl)) dX7_first_4 ⟨Nat.le_of_ble_eq_true rfl, Nat.le_of_ble_eq_true rfl⟩) hS (fun _ _ h9 => h9.elim) (fun _ h9 => h9.elim) (fun r_1 u_3  t H locs ht hvm hw_2 hB hz1 hk1 hS => ?_)
  have hP := ax_keep hP (fun _ h9 => h9) hk1
  refine ax_i (y := 0) hw_2 ?_
  refine lv_bipush (v := 64) hx hb dX7_first_7 (by decide) ?_
  refine lv_imul hx hb dX7_first_9 ?_
  refine ax_i (y := 0) (by decide) ?_
  refine va_newa (atype := .long) (ty := .long) (N' := 0) (a0 := (0, .inr (.inl (fun _ => 0)))) hx hb (hts (.arrayClass .long) (by decide +kernel)) rfl hK hP hD hS hA (fun _ => rfl) (by decide) (by decide) (by decide) (Nat.le_of_ble_eq_true rfl) (Nat.le_of_ble_eq_true rfl) dX7_first_10 (fun q_4 cA_5 H hK hP hD hS => ?_)
  have hP : va_P (dC, dI) vwCl [(y, .inr (11, [.int th, .ref ys, .ref yp, .int 0])), (ys, .inr (3, [.int 0, .ref (ta 4), .int 0])), (yp, .inr (3, [.int 0, .ref (ta 4), .int 0])), (q_4, .inl (cA_5, 0, .inr (.inl (fun _ => 0))))] H := hP
  have hD : va_D A [(y, .inr (11, [.int th, .ref ys, .ref yp, .int 0])), (ys, .inr (3, [.int 0, .ref (ta 4), .int 0])), (yp, .inr (3, [.int 0, .ref (ta 4), .int 0])), (q_4, .inl (cA_5, 0, .inr (.inl (fun _ => 0))))] := hD
  have hK : va_K (dC, dI) vwCl [(cA_5, .long)] s := hK
  refine lv_astore_n (lv' := [(2, .ref q_4), (0, .ref y), (1, .int (-1))]) hx hb dX7_first_12 rfl hl (by decide) rfl (fun ls hl => ?_)
  refine lv_iconst (v := 4) hx hb dX7_first_13 (by decide) ?_
  refine va_newa (atype := .long) (ty := .long) (N' := 4) (a0 := (4, .inr (.inl (fun _ => 0)))) hx hb (hts (.arrayClass .long) (by decide +kernel)) rfl hK hP hD hS hA (fun _ => rfl) (by decide) (by decide) (by decide) (Nat.le_of_ble_eq_true rfl) (Nat.le_of_ble_eq_true rfl) dX7_first_14 (fun q_6 cA_7 H hK hP hD hS => ?_)
  have hP : va_P (dC, dI) vwCl [(y, .inr (11, [.int th, .ref ys, .ref yp, .int 0])), (ys, .inr (3, [.int 0, .ref (ta 4), .int 0])), (yp, .inr (3, [.int 0, .ref (ta 4), .int 0])), (q_4, .inl (cA_5, 0, .inr (.inl (fun _ => 0)))), (q_6, .inl (cA_7, 4, .inr (.inl (fun _ => 0))))] H := hP
  have hD : va_D A [(y, .inr (11, [.int th, .ref ys, .ref yp, .int 0])), (ys, .inr (3, [.int 0, .ref (ta 4), .int 0])), (yp, .inr (3, [.int 0, .ref (ta 4), .int 0])), (q_4, .inl (cA_5, 0, .inr (.inl (fun _ => 0)))), (q_6, .inl (cA_7, 4, .inr (.inl (fun _ => 0))))] := hD
  have hK : va_K (dC, dI) vwCl [(cA_5, .long), (cA_7, .long)] s := hK
  refine lv_dup hx hb dX7_first_16 rfl ?_
  refine lv_iconst (v := 0) hx hb dX7_first_17 (by decide) ?_
  refine lv_lconst (v := 1) hx hb dX7_first_18 (by decide) ?_
  refine va_last hx hb hK hP hD hS 4 1 rfl rfl (by unfold vp_in; decide) dX7_first_19 (fun H locs hP hD hS => ?_)
  have hP : va_P (dC, dI) vwCl [(y, .inr (11, [.int th, .ref ys, .ref yp, .int 0])), (ys, .inr (3, [.int 0, .ref (ta 4), .int 0])), (yp, .inr (3, [.int 0, .ref (ta 4), .int 0])), (q_4, .inl (cA_5, 0, .inr (.inl (fun _ => 0)))), (q_6, .inl (cA_7, 4, .inr (.inl (vp_updL (fun _ => 0) (0 : Int32).toNatClampNeg 1))))] H := hP
  have hD : va_D A [(y, .inr (11, [.int th, .ref ys, .ref yp, .int 0])), (ys, .inr (3, [.int 0, .ref (ta 4), .int 0])), (yp, .inr (3, [.int 0, .ref (ta 4), .int 0])), (q_4, .inl (cA_5, 0, .inr (.inl (fun _ => 0)))), (q_6, .inl (cA_7, 4, .inr (.inl (vp_updL (fun _ => 0) (0 : Int32).toNatClampNeg 1))))] := hD
  refine lv_dup hx hb dX7_first_20 rfl ?_
  refine lv_iconst (v := 1) hx hb dX7_first_21 (by decide) ?_
  refine lv_lconst (v := 0) hx hb dX7_first_22 (by decide) ?_
  refine va_last hx hb hK hP hD hS 4 1 rfl rfl (by unfold vp_in; decide) dX7_first_23 (fun H locs hP hD hS => ?_)
  have hP : va_P (dC, dI) vwCl [(y, .inr (11, [.int th, .ref ys, .ref yp, .int 0])), (ys, .inr (3, [.int 0, .ref (ta 4), .int 0])), (yp, .inr (3, [.int 0, .ref (ta 4), .int 0])), (q_4, .inl (cA_5, 0, .inr (.inl (fun _ => 0)))), (q_6, .inl (cA_7, 4, .inr (.inl (vp_updL (vp_updL (fun _ => 0) (0 : Int32).toNatClampNeg 1) (1 : Int32).toNatClampNeg 0))))] H := hP
  have hD : va_D A [(y, .inr (11, [.int th, .ref ys, .ref yp, .int 0])), (ys, .inr (3, [.int 0, .ref (ta 4), .int 0])), (yp, .inr (3, [.int 0, .ref (ta 4), .int 0])), (q_4, .inl (cA_5, 0, .inr (.inl (fun _ => 0)))), (q_6, .inl (cA_7, 4, .inr (.inl (vp_updL (vp_updL (fun _ => 0) (0 : Int32).toNatClampNeg 1) (1 : Int32).toNatClampNeg 0))))] := hD
  refine lv_dup hx hb dX7_first_24 rfl ?_
  refine lv_iconst (v := 2) hx hb dX7_first_25 (by decide) ?_
  refine lv_lconst (v := 0) hx hb dX7_first_26 (by decide) ?_
  refine va_last hx hb hK hP hD hS 4 1 rfl rfl (by unfold vp_in; decide) dX7_first_27 (fun H locs hP hD hS => ?_)
  have hP : va_P (dC, dI) vwCl [(y, .inr (11, [.int th, .ref ys, .ref yp, .int 0])), (ys, .inr (3, [.int 0, .ref (ta 4), .int 0])), (yp, .inr (3, [.int 0, .ref (ta 4), .int 0])), (q_4, .inl (cA_5, 0, .inr (.inl (fun _ => 0)))), (q_6, .inl (cA_7, 4, .inr (.inl (vp_updL (vp_updL (vp_updL (fun _ => 0) (0 : Int32).toNatClampNeg 1) (1 : Int32).toNatClampNeg 0) (2 : Int32).toNatClampNeg 0))))] H := hP
  have hD : va_D A [(y, .inr (11, [.int th, .ref ys, .ref yp, .int 0])), (ys, .inr (3, [.int 0, .ref (ta 4), .int 0])), (yp, .inr (3, [.int 0, .ref (ta 4), .int 0])), (q_4, .inl (cA_5, 0, .inr (.inl (fun _ => 0)))), (q_6, .inl (cA_7, 4, .inr (.inl (vp_updL (vp_updL (vp_updL (fun _ => 0) (0 : Int32).toNatClampNeg 1) (1 : Int32).toNatClampNeg 0) (2 : Int32).toNatClampNeg 0))))] := hD
  refine lv_dup hx hb dX7_first_28 rfl ?_
  refine lv_iconst (v := 3) hx hb dX7_first_29 (by decide) ?_
  refine lv_lconst (v := 0) hx hb dX7_first_30 (by decide) ?_
  refine va_last hx hb hK hP hD hS 4 1 rfl rfl (by unfold vp_in; decide) dX7_first_31 (fun H locs hP hD hS => ?_)
  have hP : va_P (dC, dI) vwCl [(y, .inr (11, [.int th, .ref ys, .ref yp, .int 0])), (ys, .inr (3, [.int 0, .ref (ta 4), .int 0])), (yp, .inr (3, [.int 0, .ref (ta 4), .int 0])), (q_4, .inl (cA_5, 0, .inr (.inl (fun _ => 0)))), (q_6, .inl (cA_7, 4, .inr (.inl (vp_updL (vp_updL (vp_updL (vp_updL (fun _ => 0) (0 : Int32).toNatClampNeg 1) (1 : Int32).toNatClampNeg 0) (2 : Int32).toNatClampNeg 0) (3 : Int32).toNatClampNeg 0))))] H := hP
  have hD : va_D A [(y, .inr (11, [.int th, .ref ys, .ref yp, .int 0])), (ys, .inr (3, [.int 0, .ref (ta 4), .int 0])), (yp, .inr (3, [.int 0, .ref (ta 4), .int 0])), (q_4, .inl (cA_5, 0, .inr (.inl (fun _ => 0)))), (q_6, .inl (cA_7, 4, .inr (.inl (vp_updL (vp_updL (vp_updL (vp_updL (fun _ => 0) (0 : Int32).toNatClampNeg 1) (1 : Int32).toNatClampNeg 0) (2 : Int32).toNatClampNeg 0) (3 : Int32).toNatClampNeg 0))))] := hD
  refine lv_astore_n (lv' := [(3, .ref q_6), (2, .ref q_4), (0, .ref y), (1, .int (-1))]) hx hb dX7_first_32 rfl hl (by decide) rfl (fun ls hl => ?_)
  refine lv_iconst (v := 0) hx hb dX7_first_33 (by decide) ?_
  refine lv_istore (lv' := [(4, .int 0), (3, .ref q_6), (2, .ref q_4), (0, .ref y), (1, .int (-1))]) hx hb dX7_first_34 hl (by decide) rfl (fun ls hl => ?_)
  refine lv_iload hx hb dX7_first_36 (lv_at hl 0 rfl) ?_
  refine lv_aload_n hx hb dX7_first_38 rfl (lv_at hl 3 rfl) ?_
  refine va_get (D := (dC, dI)) (ci := 11) (v := .ref ys) (C := RX7) (T := TX7) (N := 4) hx hb hts (by decide +kernel) hown hK hP 0 rfl rfl 1 (by decide) (hts (.fieldLink RX7 10 "DiffractoryModel" "sources" "Ljava/util/ArrayList;") (by decide +kernel)) (fun _ h9 => h9) rfl dX7_first_39 ?_
  have hPc := hP.sub (ws' := [(ys, .inr (3, [.int 0, .ref (ta 4), .int 0]))]) [1] rfl
  have hKc := hK.sub (tys' := []) [] rfl
  refine va_calli (va_runV (As := []) (rest := [.int 0]) ⟨hx, hb, hml, hown, hts⟩ (c_Jx4a65c_size_8abf5 l dC dI ys (ta 4) sa ta 0 0) (cwV 0 hts gX7_first_Jx4a65c_size_8abf5 rfl rfl rfl (by decide +kernel) ⟨Nat.le_of_ble_eq_true rfl, Nat.le_of_ble_eq_true rfl⟩) ⟨ax_fbR, va_recv hK hP (ci := 3) (q0 := 1) rfl rfl, ax_prR hPc hKc hS hE⟩ rfl rfl hl.1 rfl (lv_room (Nat.le_of_ble_eq_true rfl)) dX7_first_42 ⟨Nat.le_of_ble_eq_true rfl, Nat.le_of_ble_eq_true rfl⟩) hS (fun _ _ h9 => h9.elim) (fun _ h9 => h9.elim) (fun r_8 u_10  t H locs ht hvm hw_9 hB hz1 hk1 hS => ?_)
  have hP := ax_keep hP (fun _ h9 => h9) hk1
  refine ax_i (y := 0) hw_9 ?_
  refine lv_icmp_ge (tgt := 106) hx hb dX7_first_45 (by decide) (fun _ => ?_) (fun h9 => absurd (by decide) h9)
  refine lv_aload_n hx hb dX7_first_106 rfl (lv_at hl 2 rfl) ?_
  refine W.widen (k := 2) (n := 4) (Nat.le_of_ble_eq_true rfl) (Nat.le_of_ble_eq_true rfl) ?_
  have hP9 := hP.sub (ws' := [(y, .inr (11, [.int th, .ref ys, .ref yp, .int 0])), (ys, .inr (3, [.int 0, .ref (ta 4), .int 0])), (yp, .inr (3, [.int 0, .ref (ta 4), .int 0])), (q_4, .inl (cA_5, 0, .inr (.inl (fun _ => 0))))]) [0, 1, 2, 3] rfl
  have hD9 := hD.sub (ws' := [(y, .inr (11, [.int th, .ref ys, .ref yp, .int 0])), (ys, .inr (3, [.int 0, .ref (ta 4), .int 0])), (yp, .inr (3, [.int 0, .ref (ta 4), .int 0])), (q_4, .inl (cA_5, 0, .inr (.inl (fun _ => 0))))]) [0, 1, 2, 3] (by decide) rfl
  have hK9 := hK.sub (tys' := [(cA_5, .long)]) [0] rfl
  exact W.aret (v := .ref q_4) (rt := (.array .long)) hx hb hr (by first | exact Or.inl ⟨_, rfl⟩ | exact Or.inr ⟨_, rfl⟩) (by first | exact Or.inl rfl | exact Or.inr ⟨_, rfl⟩) (fun t ht hW => ⟨⟨cA_5, q_4, rfl, trivial, by rw [ht]; exact hP9, va_K.moved hW.alike hK9, hD9⟩, hS.F ht⟩) hS.2.2 dX7_first_107

set_option maxHeartbeats 4000000 in
set_option maxRecDepth 100000 in
theorem c_X7_behind (l : Launch) (dC : Nat → ClassId) (dI : Nat → Nat → Nat) (y ys yp : Nat) (sa ta : Nat → Nat) (sz : Nat) (th : Int32) (p0 : Int32) (hk : p0.toInt = -1) : Met l yX7_behind wsX7_behind ({ frames := 24, cells := 2, slots := 4, locals := 600 }) (va_Pc [.ref y, .int p0, .int (-1)] (ax_W (dC, dI) vwCl [(y, .inr (11, [.int th, .ref ys, .ref yp, .int 0])), (ys, .inr (3, [.int 0, .ref (ta 4), .int 0])), (yp, .inr (3, [.int 0, .ref (ta 4), .int 0]))] [] sa ta sz)) (va_Qr (fun (u : ClassId) => True) (fun (u : ClassId) (a : Nat) (t : State) => va_P (dC, dI) vwCl [(y, .inr (11, [.int th, .ref ys, .ref yp, .int 0])), (ys, .inr (3, [.int 0, .ref (ta 4), .int 0])), (yp, .inr (3, [.int 0, .ref (ta 4), .int 0])), (a, .inl (u, 0, .inr (.inl (fun _ => 0))))] t.heap ∧ va_K (dC, dI) vwCl [(u, .long)] t ∧ va_D (va_A [(y, .inr (11, [.int th, .ref ys, .ref yp, .int 0])), (ys, .inr (3, [.int 0, .ref (ta 4), .int 0])), (yp, .inr (3, [.int 0, .ref (ta 4), .int 0]))] sz) [(y, .inr (11, [.int th, .ref ys, .ref yp, .int 0])), (ys, .inr (3, [.int 0, .ref (ta 4), .int 0])), (yp, .inr (3, [.int 0, .ref (ta 4), .int 0])), (a, .inl (u, 0, .inr (.inl (fun _ => 0))))]) (va_A [(y, .inr (11, [.int th, .ref ys, .ref yp, .int 0])), (ys, .inr (3, [.int 0, .ref (ta 4), .int 0])), (yp, .inr (3, [.int 0, .ref (ta 4), .int 0]))] sz)) 2 4 (va_A [(y, .inr (11, [.int th, .ref ys, .ref yp, .int 0])), (ys, .inr (3, [.int 0, .ref (ta 4), .int 0])), (yp, .inr (3, [.int 0, .ref (ta 4), .int 0]))] sz) := by
  refine Met.ofW (cc := cX7_behind) (maxL := 5) (ret := (some (.array .long))) (by decide) rfl ?_
  intro p e s m args below meth c s₁ B hml hv
  obtain ⟨rfl, hsz, hP, hK, hD0, hE⟩ := hv
  have hx := B.exec
  have hb := B.bytes
  have hr := B.returns
  have hts := atoms_spec (ws := wsX7_behind) B.pre
  have hown : s.vm.findClass RX7 = some m.cls := findClass_of_methodNamed B.named
  have hlocks := B.notSynchronized
  subst hsz
  have hD := hD0.self (sz := s.heap.size)
  generalize hAe : va_A [(y, .inr (11, [.int th, .ref ys, .ref yp, .int 0])), (ys, .inr (3, [.int 0, .ref (ta 4), .int 0])), (yp, .inr (3, [.int 0, .ref (ta 4), .int 0]))] s.heap.size = A at hD hE ⊢
  have hA : ∀ q : Nat, s.heap.size ≤ q → A q := fun q h => by rw [← hAe]; exact Or.inr h
  have hS : va_S A s.heap s.heap [] := va_S.rf
  have hl := lv_entry ([.ref y, .int p0, .int (-1)]) (n := 5) (Nat.le_of_ble_eq_true rfl)
  rw [lg_entry_eq]
  generalize (lg_sl ([.ref y, .int p0, .int (-1)]) ++ List.replicate (5 - (lg_sl ([.ref y, .int p0, .int (-1)])).length) Slot.unset).toArray = ls at hl ⊢
  have hl : lv_has ls 5 [(0, .ref y), (1, .int p0), (2, .int (-1))] := hl
  have hP : va_P (dC, dI) vwCl [(y, .inr (11, [.int th, .ref ys, .ref yp, .int 0])), (ys, .inr (3, [.int 0, .ref (ta 4), .int 0])), (yp, .inr (3, [.int 0, .ref (ta 4), .int 0]))] s.heap := hP
  refine lv_aload_n hx hb dX7_behind_0 rfl (lv_at hl 0 rfl) ?_
  refine lv_iload_n hx hb dX7_behind_1 rfl (lv_at hl 2 rfl) ?_
  have hPc := hP.sub (ws' := [(y, .inr (11, [.int th, .ref ys, .ref yp, .int 0])), (ys, .inr (3, [.int 0, .ref (ta 4), .int 0])), (yp, .inr (3, [.int 0, .ref (ta 4), .int 0]))]) [0, 1, 2] rfl
  have hKc := hK.sub (tys' := []) [] rfl
  have hDc := hD.sub (ws' := [(y, .inr (11, [.int th, .ref ys, .ref yp, .int 0])), (ys, .inr (3, [.int 0, .ref (ta 4), .int 0])), (yp, .inr (3, [.int 0, .ref (ta 4), .int 0]))]) [0, 1, 2] (by decide) rfl
  have hFc := va_free (wc := [(y, .inr (11, [.int th, .ref ys, .ref yp, .int 0])), (ys, .inr (3, [.int 0, .ref (ta 4), .int 0])), (yp, .inr (3, [.int 0, .ref (ta 4), .int 0]))]) hD hS hA [0, 1, 2] rfl
  refine va_callr (va_runV (As := [.int (-1)]) (rest := []) ⟨hx, hb, hml, hown, hts⟩ (c_X7_first l dC dI y ys yp sa ta s.heap.size th) (cwV 1 hts gX7_behind_X7_first rfl rfl rfl (by decide +kernel) ⟨Nat.le_of_ble_eq_true rfl, Nat.le_of_ble_eq_true rfl⟩) ⟨ax_fbW, va_recv hK hP (ci := 11) (q0 := 0) rfl rfl, ax_prW hPc hKc hDc hS hFc hE⟩ rfl rfl hl.1 rfl (lv_room (Nat.le_of_ble_eq_true rfl)) dX7_behind_2 ⟨Nat.le_of_ble_eq_true rfl, Nat.le_of_ble_eq_true rfl⟩) hS (fun q _ h9 => hFc q h9) hFc (fun u_3  r_1 t H locs ht hvm hw_2 hB hz1 hk1 hS => ?_)
  obtain ⟨qA_4, rfl⟩ : ∃ z, z = u_3 := ⟨_, rfl⟩
  obtain ⟨hP1, hK1, hD1⟩ := hB
  rw [ht] at hP1
  have hK1 := va_K.moved hvm.symm hK1
  obtain ⟨hP, hD⟩ := va_join (wr := []) (w1 := [(y, .inr (11, [.int th, .ref ys, .ref yp, .int 0])), (ys, .inr (3, [.int 0, .ref (ta 4), .int 0])), (yp, .inr (3, [.int 0, .ref (ta 4), .int 0])), (r_1, .inl (qA_4, 0, .inr (.inl (fun _ => 0))))]) hP hD [0, 1, 2] [] rfl rfl (by decide) (by decide) hk1 hFc hP1 hD1
  have hK := hK.app hK1
  have hK := hK.sub (tys' := [(qA_4, .long)]) [0] rfl
  have hP : va_P (dC, dI) vwCl [(y, .inr (11, [.int th, .ref ys, .ref yp, .int 0])), (ys, .inr (3, [.int 0, .ref (ta 4), .int 0])), (yp, .inr (3, [.int 0, .ref (ta 4), .int 0])), (r_1, .inl (qA_4, 0, .inr (.inl (fun _ => 0))))] H := hP
  have hD : va_D A [(y, .inr (11, [.int th, .ref ys, .ref yp, .int 0])), (ys, .inr (3, [.int 0, .ref (ta 4), .int 0])), (yp, .inr (3, [.int 0, .ref (ta 4), .int 0])), (r_1, .inl (qA_4, 0, .inr (.inl (fun _ => 0))))] := hD
  refine lv_astore_n (lv' := [(3, .ref r_1), (0, .ref y), (1, .int p0), (2, .int (-1))]) hx hb dX7_behind_5 rfl hl (by decide) rfl (fun ls hl => ?_)
  refine lv_iconst (v := 0) hx hb dX7_behind_6 (by decide) ?_
  refine lv_istore (lv' := [(4, .int 0), (3, .ref r_1), (0, .ref y), (1, .int p0), (2, .int (-1))]) hx hb dX7_behind_7 hl (by decide) rfl (fun ls hl => ?_)
  refine lv_iload hx hb dX7_behind_9 (lv_at hl 0 rfl) ?_
  refine lv_iload_n hx hb dX7_behind_11 rfl (lv_at hl 3 rfl) ?_
  refine lv_icmp_gt (tgt := 39) hx hb dX7_behind_12 (by decide) (fun _ => ?_) (fun h9 => absurd ((ax_lt p0 0).mpr (show p0.toInt < 0 by omega)) h9)
  refine lv_aload_n hx hb dX7_behind_39 rfl (lv_at hl 1 rfl) ?_
  refine W.widen (k := 2) (n := 4) (Nat.le_of_ble_eq_true rfl) (Nat.le_of_ble_eq_true rfl) ?_
  have hP9 := hP.sub (ws' := [(y, .inr (11, [.int th, .ref ys, .ref yp, .int 0])), (ys, .inr (3, [.int 0, .ref (ta 4), .int 0])), (yp, .inr (3, [.int 0, .ref (ta 4), .int 0])), (r_1, .inl (qA_4, 0, .inr (.inl (fun _ => 0))))]) [0, 1, 2, 3] rfl
  have hD9 := hD.sub (ws' := [(y, .inr (11, [.int th, .ref ys, .ref yp, .int 0])), (ys, .inr (3, [.int 0, .ref (ta 4), .int 0])), (yp, .inr (3, [.int 0, .ref (ta 4), .int 0])), (r_1, .inl (qA_4, 0, .inr (.inl (fun _ => 0))))]) [0, 1, 2, 3] (by decide) rfl
  have hK9 := hK.sub (tys' := [(qA_4, .long)]) [0] rfl
  exact W.aret (v := .ref r_1) (rt := (.array .long)) hx hb hr (by first | exact Or.inl ⟨_, rfl⟩ | exact Or.inr ⟨_, rfl⟩) (by first | exact Or.inl rfl | exact Or.inr ⟨_, rfl⟩) (fun t ht hW => ⟨⟨qA_4, r_1, rfl, trivial, by rw [ht]; exact hP9, va_K.moved hW.alike hK9, hD9⟩, hS.F ht⟩) hS.2.2 dX7_behind_40

set_option maxHeartbeats 4000000 in
set_option maxRecDepth 100000 in
theorem c_X7_behind_ (l : Launch) (dC : Nat → ClassId) (dI : Nat → Nat → Nat) (y ys yp : Nat) (sa ta : Nat → Nat) (sz : Nat) (th : Int32) (p0 : Int32) (hk : p0.toInt = -1) : Met l yX7_behind_ wsX7_behind_ ({ frames := 32, cells := 2, slots := 4, locals := 800 }) (va_Pc [.ref y, .int p0] (ax_W (dC, dI) vwCl [(y, .inr (11, [.int th, .ref ys, .ref yp, .int 0])), (ys, .inr (3, [.int 0, .ref (ta 4), .int 0])), (yp, .inr (3, [.int 0, .ref (ta 4), .int 0]))] [] sa ta sz)) (va_Qr (fun (u : ClassId) => True) (fun (u : ClassId) (a : Nat) (t : State) => va_P (dC, dI) vwCl [(y, .inr (11, [.int th, .ref ys, .ref yp, .int 0])), (ys, .inr (3, [.int 0, .ref (ta 4), .int 0])), (yp, .inr (3, [.int 0, .ref (ta 4), .int 0])), (a, .inl (u, 0, .inr (.inl (fun _ => 0))))] t.heap ∧ va_K (dC, dI) vwCl [(u, .long)] t ∧ va_D (va_A [(y, .inr (11, [.int th, .ref ys, .ref yp, .int 0])), (ys, .inr (3, [.int 0, .ref (ta 4), .int 0])), (yp, .inr (3, [.int 0, .ref (ta 4), .int 0]))] sz) [(y, .inr (11, [.int th, .ref ys, .ref yp, .int 0])), (ys, .inr (3, [.int 0, .ref (ta 4), .int 0])), (yp, .inr (3, [.int 0, .ref (ta 4), .int 0])), (a, .inl (u, 0, .inr (.inl (fun _ => 0))))]) (va_A [(y, .inr (11, [.int th, .ref ys, .ref yp, .int 0])), (ys, .inr (3, [.int 0, .ref (ta 4), .int 0])), (yp, .inr (3, [.int 0, .ref (ta 4), .int 0]))] sz)) 2 4 (va_A [(y, .inr (11, [.int th, .ref ys, .ref yp, .int 0])), (ys, .inr (3, [.int 0, .ref (ta 4), .int 0])), (yp, .inr (3, [.int 0, .ref (ta 4), .int 0]))] sz) := by
  refine Met.ofW (cc := cX7_behind_) (maxL := 2) (ret := (some (.array .long))) (by decide) rfl ?_
  intro p e s m args below meth c s₁ B hml hv
  obtain ⟨rfl, hsz, hP, hK, hD0, hE⟩ := hv
  have hx := B.exec
  have hb := B.bytes
  have hr := B.returns
  have hts := atoms_spec (ws := wsX7_behind_) B.pre
  have hown : s.vm.findClass RX7 = some m.cls := findClass_of_methodNamed B.named
  have hlocks := B.notSynchronized
  subst hsz
  have hD := hD0.self (sz := s.heap.size)
  generalize hAe : va_A [(y, .inr (11, [.int th, .ref ys, .ref yp, .int 0])), (ys, .inr (3, [.int 0, .ref (ta 4), .int 0])), (yp, .inr (3, [.int 0, .ref (ta 4), .int 0]))] s.heap.size = A at hD hE ⊢
  have hA : ∀ q : Nat, s.heap.size ≤ q → A q := fun q h => by rw [← hAe]; exact Or.inr h
  have hS : va_S A s.heap s.heap [] := va_S.rf
  have hl := lv_entry ([.ref y, .int p0]) (n := 2) (Nat.le_of_ble_eq_true rfl)
  rw [lg_entry_eq]
  generalize (lg_sl ([.ref y, .int p0]) ++ List.replicate (2 - (lg_sl ([.ref y, .int p0])).length) Slot.unset).toArray = ls at hl ⊢
  have hl : lv_has ls 2 [(0, .ref y), (1, .int p0)] := hl
  have hP : va_P (dC, dI) vwCl [(y, .inr (11, [.int th, .ref ys, .ref yp, .int 0])), (ys, .inr (3, [.int 0, .ref (ta 4), .int 0])), (yp, .inr (3, [.int 0, .ref (ta 4), .int 0]))] s.heap := hP
  refine lv_aload_n hx hb dX7_behind__0 rfl (lv_at hl 0 rfl) ?_
  refine lv_iload_n hx hb dX7_behind__1 rfl (lv_at hl 1 rfl) ?_
  refine lv_iconst (v := (-1)) hx hb dX7_behind__2 (by decide) ?_
  have hPc := hP.sub (ws' := [(y, .inr (11, [.int th, .ref ys, .ref yp, .int 0])), (ys, .inr (3, [.int 0, .ref (ta 4), .int 0])), (yp, .inr (3, [.int 0, .ref (ta 4), .int 0]))]) [0, 1, 2] rfl
  have hKc := hK.sub (tys' := []) [] rfl
  have hDc := hD.sub (ws' := [(y, .inr (11, [.int th, .ref ys, .ref yp, .int 0])), (ys, .inr (3, [.int 0, .ref (ta 4), .int 0])), (yp, .inr (3, [.int 0, .ref (ta 4), .int 0]))]) [0, 1, 2] (by decide) rfl
  have hFc := va_free (wc := [(y, .inr (11, [.int th, .ref ys, .ref yp, .int 0])), (ys, .inr (3, [.int 0, .ref (ta 4), .int 0])), (yp, .inr (3, [.int 0, .ref (ta 4), .int 0]))]) hD hS hA [0, 1, 2] rfl
  refine va_callr (va_runV (As := [.int p0, .int (-1)]) (rest := []) ⟨hx, hb, hml, hown, hts⟩ (c_X7_behind l dC dI y ys yp sa ta s.heap.size th p0 (by omega)) (cwV 2 hts gX7_behind__X7_behind rfl rfl rfl (by decide +kernel) ⟨Nat.le_of_ble_eq_true rfl, Nat.le_of_ble_eq_true rfl⟩) ⟨ax_fbW, va_recv hK hP (ci := 11) (q0 := 0) rfl rfl, ax_prW hPc hKc hDc hS hFc hE⟩ rfl rfl hl.1 rfl (lv_room (Nat.le_of_ble_eq_true rfl)) dX7_behind__3 ⟨Nat.le_of_ble_eq_true rfl, Nat.le_of_ble_eq_true rfl⟩) hS (fun q _ h9 => hFc q h9) hFc (fun u_3  r_1 t H locs ht hvm hw_2 hB hz1 hk1 hS => ?_)
  obtain ⟨qA_4, rfl⟩ : ∃ z, z = u_3 := ⟨_, rfl⟩
  obtain ⟨hP1, hK1, hD1⟩ := hB
  rw [ht] at hP1
  have hK1 := va_K.moved hvm.symm hK1
  obtain ⟨hP, hD⟩ := va_join (wr := []) (w1 := [(y, .inr (11, [.int th, .ref ys, .ref yp, .int 0])), (ys, .inr (3, [.int 0, .ref (ta 4), .int 0])), (yp, .inr (3, [.int 0, .ref (ta 4), .int 0])), (r_1, .inl (qA_4, 0, .inr (.inl (fun _ => 0))))]) hP hD [0, 1, 2] [] rfl rfl (by decide) (by decide) hk1 hFc hP1 hD1
  have hK := hK.app hK1
  have hK := hK.sub (tys' := [(qA_4, .long)]) [0] rfl
  have hP : va_P (dC, dI) vwCl [(y, .inr (11, [.int th, .ref ys, .ref yp, .int 0])), (ys, .inr (3, [.int 0, .ref (ta 4), .int 0])), (yp, .inr (3, [.int 0, .ref (ta 4), .int 0])), (r_1, .inl (qA_4, 0, .inr (.inl (fun _ => 0))))] H := hP
  have hD : va_D A [(y, .inr (11, [.int th, .ref ys, .ref yp, .int 0])), (ys, .inr (3, [.int 0, .ref (ta 4), .int 0])), (yp, .inr (3, [.int 0, .ref (ta 4), .int 0])), (r_1, .inl (qA_4, 0, .inr (.inl (fun _ => 0))))] := hD
  refine W.widen (k := 2) (n := 4) (Nat.le_of_ble_eq_true rfl) (Nat.le_of_ble_eq_true rfl) ?_
  have hP9 := hP.sub (ws' := [(y, .inr (11, [.int th, .ref ys, .ref yp, .int 0])), (ys, .inr (3, [.int 0, .ref (ta 4), .int 0])), (yp, .inr (3, [.int 0, .ref (ta 4), .int 0])), (r_1, .inl (qA_4, 0, .inr (.inl (fun _ => 0))))]) [0, 1, 2, 3] rfl
  have hD9 := hD.sub (ws' := [(y, .inr (11, [.int th, .ref ys, .ref yp, .int 0])), (ys, .inr (3, [.int 0, .ref (ta 4), .int 0])), (yp, .inr (3, [.int 0, .ref (ta 4), .int 0])), (r_1, .inl (qA_4, 0, .inr (.inl (fun _ => 0))))]) [0, 1, 2, 3] (by decide) rfl
  have hK9 := hK.sub (tys' := [(qA_4, .long)]) [0] rfl
  exact W.aret (v := .ref r_1) (rt := (.array .long)) hx hb hr (by first | exact Or.inl ⟨_, rfl⟩ | exact Or.inr ⟨_, rfl⟩) (by first | exact Or.inl rfl | exact Or.inr ⟨_, rfl⟩) (fun t ht hW => ⟨⟨qA_4, r_1, rfl, trivial, by rw [ht]; exact hP9, va_K.moved hW.alike hK9, hD9⟩, hS.F ht⟩) hS.2.2 dX7_behind__6

set_option maxHeartbeats 4000000 in
set_option maxRecDepth 100000 in
theorem c_X7_whole_ (l : Launch) (dC : Nat → ClassId) (dI : Nat → Nat → Nat) (y ys yp : Nat) (sa ta : Nat → Nat) (th : Int32) (p0 : Int32) (ja : Nat) : Met l yX7_whole_ wsX7_whole_ ({ frames := 16, cells := 0, slots := 0, locals := 400 }) (va_Pc [.ref y, .int p0, .ref ja] (ax_R (dC, dI) vwCl [(y, .inr (11, [.int th, .ref ys, .ref yp, .int 0])), (ys, .inr (3, [.int 0, .ref (ta 4), .int 0])), (yp, .inr (3, [.int 0, .ref (ta 4), .int 0]))] [] sa ta)) (va_Ql (fun (r : Int64) (u : Unit) => r = 0) (fun _ _ => True) ax_no) 0 0 ax_no := by
  refine Met.ofW (cc := cX7_whole_) (maxL := 6) (ret := (some .long)) (by decide) rfl ?_
  intro p e s m args below meth c s₁ B hml hv
  obtain ⟨rfl, hP, hK, hE⟩ := hv
  have hx := B.exec
  have hb := B.bytes
  have hr := B.returns
  have hts := atoms_spec (ws := wsX7_whole_) B.pre
  have hown : s.vm.findClass RX7 = some m.cls := findClass_of_methodNamed B.named
  have hlocks := B.notSynchronized
  have hS : va_S ax_no s.heap s.heap [] := va_S.rf
  have hl := lv_entry ([.ref y, .int p0, .ref ja]) (n := 6) (Nat.le_of_ble_eq_true rfl)
  rw [lg_entry_eq]
  generalize (lg_sl ([.ref y, .int p0, .ref ja]) ++ List.replicate (6 - (lg_sl ([.ref y, .int p0, .ref ja])).length) Slot.unset).toArray = ls at hl ⊢
  have hl : lv_has ls 6 [(0, .ref y), (1, .int p0), (2, .ref ja)] := hl
  have hP : va_P (dC, dI) vwCl [(y, .inr (11, [.int th, .ref ys, .ref yp, .int 0])), (ys, .inr (3, [.int 0, .ref (ta 4), .int 0])), (yp, .inr (3, [.int 0, .ref (ta 4), .int 0]))] s.heap := hP
  refine lv_lconst (v := 0) hx hb dX7_whole__0 (by decide) ?_
  refine lv_lstore_n (lv' := [(3, .long 0), (0, .ref y), (1, .int p0), (2, .ref ja)]) hx hb dX7_whole__1 rfl hl (by decide) rfl (fun ls hl => ?_)
  refine lv_iconst (v := 0) hx hb dX7_whole__2 (by decide) ?_
  refine lv_istore (lv' := [(5, .int 0), (3, .long 0), (0, .ref y), (1, .int p0), (2, .ref ja)]) hx hb dX7_whole__3 hl (by decide) rfl (fun ls hl => ?_)
  refine lv_iload hx hb dX7_whole__5 (lv_at hl 0 rfl) ?_
  refine lv_aload_n hx hb dX7_whole__7 rfl (lv_at hl 2 rfl) ?_
  refine va_get (D := (dC, dI)) (ci := 11) (v := .ref ys) (C := RX7) (T := TX7) (N := 4) hx hb hts (by decide +kernel) hown hK hP 0 rfl rfl 1 (by decide) (hts (.fieldLink RX7 10 "DiffractoryModel" "sources" "Ljava/util/ArrayList;") (by decide +kernel)) (fun _ h9 => h9) rfl dX7_whole__8 ?_
  have hPc := hP.sub (ws' := [(ys, .inr (3, [.int 0, .ref (ta 4), .int 0]))]) [1] rfl
  have hKc := hK.sub (tys' := []) [] rfl
  refine va_calli (va_runV (As := []) (rest := [.int 0]) ⟨hx, hb, hml, hown, hts⟩ (c_Jx4a65c_size_8abf5 l dC dI ys (ta 4) sa ta 0 0) (cwV 0 hts gX7_whole__Jx4a65c_size_8abf5 rfl rfl rfl (by decide +kernel) ⟨Nat.le_of_ble_eq_true rfl, Nat.le_of_ble_eq_true rfl⟩) ⟨ax_fbR, va_recv hK hP (ci := 3) (q0 := 1) rfl rfl, ax_prR hPc hKc hS hE⟩ rfl rfl hl.1 rfl (lv_room (Nat.le_of_ble_eq_true rfl)) dX7_whole__11 ⟨Nat.le_of_ble_eq_true rfl, Nat.le_of_ble_eq_true rfl⟩) hS (fun _ _ h9 => h9.elim) (fun _ h9 => h9.elim) (fun r_1 u_3  t H locs ht hvm hw_2 hB hz1 hk1 hS => ?_)
  have hP := ax_keep hP (fun _ h9 => h9) hk1
  refine ax_i (y := 0) hw_2 ?_
  refine lv_icmp_ge (tgt := 49) hx hb dX7_whole__14 (by decide) (fun _ => ?_) (fun h9 => absurd (by decide) h9)
  refine lv_lload_n hx hb dX7_whole__49 rfl (lv_at hl 1 rfl) ?_
  refine W.widen (k := 0) (n := 0) (Nat.le_of_ble_eq_true rfl) (Nat.le_of_ble_eq_true rfl) ?_
  exact W.lret (v := 0) hx hb hr (fun t ht hW => ⟨⟨0, (), rfl, rfl, trivial⟩, hS.F ht⟩) hS.2.2 dX7_whole__50

set_option maxHeartbeats 4000000 in
set_option maxRecDepth 100000 in
theorem c_X7_root_ (l : Launch) (dC : Nat → ClassId) (dI : Nat → Nat → Nat) (y ys yp : Nat) (sa ta : Nat → Nat) (th : Int32) (p0 : Int32) (ja : Nat) : Met l yX7_root_ wsX7_root_ ({ frames := 16, cells := 0, slots := 0, locals := 400 }) (va_Pc [.ref y, .int p0, .ref ja] (ax_R (dC, dI) vwCl [(y, .inr (11, [.int th, .ref ys, .ref yp, .int 0])), (ys, .inr (3, [.int 0, .ref (ta 4), .int 0])), (yp, .inr (3, [.int 0, .ref (ta 4), .int 0]))] [] sa ta)) (va_Ql (fun (r : Int64) (u : Unit) => r = 0) (fun _ _ => True) ax_no) 0 0 ax_no := by
  refine Met.ofW (cc := cX7_root_) (maxL := 6) (ret := (some .long)) (by decide) rfl ?_
  intro p e s m args below meth c s₁ B hml hv
  obtain ⟨rfl, hP, hK, hE⟩ := hv
  have hx := B.exec
  have hb := B.bytes
  have hr := B.returns
  have hts := atoms_spec (ws := wsX7_root_) B.pre
  have hown : s.vm.findClass RX7 = some m.cls := findClass_of_methodNamed B.named
  have hlocks := B.notSynchronized
  have hS : va_S ax_no s.heap s.heap [] := va_S.rf
  have hl := lv_entry ([.ref y, .int p0, .ref ja]) (n := 6) (Nat.le_of_ble_eq_true rfl)
  rw [lg_entry_eq]
  generalize (lg_sl ([.ref y, .int p0, .ref ja]) ++ List.replicate (6 - (lg_sl ([.ref y, .int p0, .ref ja])).length) Slot.unset).toArray = ls at hl ⊢
  have hl : lv_has ls 6 [(0, .ref y), (1, .int p0), (2, .ref ja)] := hl
  have hP : va_P (dC, dI) vwCl [(y, .inr (11, [.int th, .ref ys, .ref yp, .int 0])), (ys, .inr (3, [.int 0, .ref (ta 4), .int 0])), (yp, .inr (3, [.int 0, .ref (ta 4), .int 0]))] s.heap := hP
  refine lv_lconst (v := 0) hx hb dX7_root__0 (by decide) ?_
  refine lv_lstore_n (lv' := [(3, .long 0), (0, .ref y), (1, .int p0), (2, .ref ja)]) hx hb dX7_root__1 rfl hl (by decide) rfl (fun ls hl => ?_)
  refine lv_iconst (v := 0) hx hb dX7_root__2 (by decide) ?_
  refine lv_istore (lv' := [(5, .int 0), (3, .long 0), (0, .ref y), (1, .int p0), (2, .ref ja)]) hx hb dX7_root__3 hl (by decide) rfl (fun ls hl => ?_)
  refine lv_iload hx hb dX7_root__5 (lv_at hl 0 rfl) ?_
  refine lv_aload_n hx hb dX7_root__7 rfl (lv_at hl 2 rfl) ?_
  refine va_get (D := (dC, dI)) (ci := 11) (v := .ref ys) (C := RX7) (T := TX7) (N := 4) hx hb hts (by decide +kernel) hown hK hP 0 rfl rfl 1 (by decide) (hts (.fieldLink RX7 10 "DiffractoryModel" "sources" "Ljava/util/ArrayList;") (by decide +kernel)) (fun _ h9 => h9) rfl dX7_root__8 ?_
  have hPc := hP.sub (ws' := [(ys, .inr (3, [.int 0, .ref (ta 4), .int 0]))]) [1] rfl
  have hKc := hK.sub (tys' := []) [] rfl
  refine va_calli (va_runV (As := []) (rest := [.int 0]) ⟨hx, hb, hml, hown, hts⟩ (c_Jx4a65c_size_8abf5 l dC dI ys (ta 4) sa ta 0 0) (cwV 0 hts gX7_root__Jx4a65c_size_8abf5 rfl rfl rfl (by decide +kernel) ⟨Nat.le_of_ble_eq_true rfl, Nat.le_of_ble_eq_true rfl⟩) ⟨ax_fbR, va_recv hK hP (ci := 3) (q0 := 1) rfl rfl, ax_prR hPc hKc hS hE⟩ rfl rfl hl.1 rfl (lv_room (Nat.le_of_ble_eq_true rfl)) dX7_root__11 ⟨Nat.le_of_ble_eq_true rfl, Nat.le_of_ble_eq_true rfl⟩) hS (fun _ _ h9 => h9.elim) (fun _ h9 => h9.elim) (fun r_1 u_3  t H locs ht hvm hw_2 hB hz1 hk1 hS => ?_)
  have hP := ax_keep hP (fun _ h9 => h9) hk1
  refine ax_i (y := 0) hw_2 ?_
  refine lv_icmp_ge (tgt := 49) hx hb dX7_root__14 (by decide) (fun _ => ?_) (fun h9 => absurd (by decide) h9)
  refine lv_lload_n hx hb dX7_root__49 rfl (lv_at hl 1 rfl) ?_
  refine W.widen (k := 0) (n := 0) (Nat.le_of_ble_eq_true rfl) (Nat.le_of_ble_eq_true rfl) ?_
  exact W.lret (v := 0) hx hb hr (fun t ht hW => ⟨⟨0, (), rfl, rfl, trivial⟩, hS.F ht⟩) hS.2.2 dX7_root__50

set_option maxHeartbeats 4000000 in
set_option maxRecDepth 100000 in
theorem c_X7_value (l : Launch) (dC : Nat → ClassId) (dI : Nat → Nat → Nat) (y ys yp : Nat) (sa ta : Nat → Nat) (th : Int32) (p0 : Int32) (ja : Nat) : Met l yX7_value wsX7_value ({ frames := 24, cells := 0, slots := 0, locals := 600 }) (va_Pc [.ref y, .int p0, .ref ja] (ax_R (dC, dI) vwCl [(y, .inr (11, [.int th, .ref ys, .ref yp, .int 0])), (ys, .inr (3, [.int 0, .ref (ta 4), .int 0])), (yp, .inr (3, [.int 0, .ref (ta 4), .int 0]))] [] sa ta)) (va_Qd (fun (r : UInt64) (u : Unit) => r = 0) (fun _ _ => True) ax_no) 0 0 ax_no := by
  refine Met.ofW (cc := cX7_value) (maxL := 3) (ret := (some .double)) (by decide) rfl ?_
  intro p e s m args below meth c s₁ B hml hv
  obtain ⟨rfl, hP, hK, hE⟩ := hv
  have hx := B.exec
  have hb := B.bytes
  have hr := B.returns
  have hts := atoms_spec (ws := wsX7_value) B.pre
  have hown : s.vm.findClass RX7 = some m.cls := findClass_of_methodNamed B.named
  have hlocks := B.notSynchronized
  have hS : va_S ax_no s.heap s.heap [] := va_S.rf
  have hl := lv_entry ([.ref y, .int p0, .ref ja]) (n := 3) (Nat.le_of_ble_eq_true rfl)
  rw [lg_entry_eq]
  generalize (lg_sl ([.ref y, .int p0, .ref ja]) ++ List.replicate (3 - (lg_sl ([.ref y, .int p0, .ref ja])).length) Slot.unset).toArray = ls at hl ⊢
  have hl : lv_has ls 3 [(0, .ref y), (1, .int p0), (2, .ref ja)] := hl
  have hP : va_P (dC, dI) vwCl [(y, .inr (11, [.int th, .ref ys, .ref yp, .int 0])), (ys, .inr (3, [.int 0, .ref (ta 4), .int 0])), (yp, .inr (3, [.int 0, .ref (ta 4), .int 0]))] s.heap := hP
  refine lv_aload_n hx hb dX7_value_0 rfl (lv_at hl 0 rfl) ?_
  refine lv_iload_n hx hb dX7_value_1 rfl (lv_at hl 1 rfl) ?_
  refine lv_aload_n hx hb dX7_value_2 rfl (lv_at hl 2 rfl) ?_
  have hPc := hP.sub (ws' := [(y, .inr (11, [.int th, .ref ys, .ref yp, .int 0])), (ys, .inr (3, [.int 0, .ref (ta 4), .int 0])), (yp, .inr (3, [.int 0, .ref (ta 4), .int 0]))]) [0, 1, 2] rfl
  have hKc := hK.sub (tys' := []) [] rfl
  refine va_calll (va_runV (As := [.int p0, .ref ja]) (rest := []) ⟨hx, hb, hml, hown, hts⟩ (c_X7_whole_ l dC dI y ys yp sa ta th p0 ja) (cwV 2 hts gX7_value_X7_whole_ rfl rfl rfl (by decide +kernel) ⟨Nat.le_of_ble_eq_true rfl, Nat.le_of_ble_eq_true rfl⟩) ⟨ax_fbR, va_recv hK hP (ci := 11) (q0 := 0) rfl rfl, ax_prR hPc hKc hS hE⟩ rfl rfl hl.1 rfl (lv_room (Nat.le_of_ble_eq_true rfl)) dX7_value_3 ⟨Nat.le_of_ble_eq_true rfl, Nat.le_of_ble_eq_true rfl⟩) hS (fun _ _ h9 => h9.elim) (fun _ h9 => h9.elim) (fun r_1 u_3  t H locs ht hvm hw_2 hB hz1 hk1 hS => ?_)
  have hP := ax_keep hP (fun _ h9 => h9) hk1
  refine ax_l (y := 0) hw_2 ?_
  refine lv_l2d hx hb dX7_value_6 ?_
  refine ax_d (y := 0) (by decide +kernel) ?_
  refine lv_ldc2d (v := 4609047870845172685) hx hb hown (hts (.constantDouble RX7 121 4609047870845172685) (by decide +kernel)) dX7_value_7 ?_
  refine lv_aload_n hx hb dX7_value_10 rfl (lv_at hl 0 rfl) ?_
  refine lv_iload_n hx hb dX7_value_11 rfl (lv_at hl 1 rfl) ?_
  refine lv_aload_n hx hb dX7_value_12 rfl (lv_at hl 2 rfl) ?_
  have hPc := hP.sub (ws' := [(y, .inr (11, [.int th, .ref ys, .ref yp, .int 0])), (ys, .inr (3, [.int 0, .ref (ta 4), .int 0])), (yp, .inr (3, [.int 0, .ref (ta 4), .int 0]))]) [0, 1, 2] rfl
  have hKc := hK.sub (tys' := []) [] rfl
  refine va_calll (va_runV (As := [.int p0, .ref ja]) (rest := [.double 4609047870845172685, .double 0]) ⟨hx, hb, hml, hown, hts⟩ (c_X7_root_ l dC dI y ys yp sa ta th p0 ja) (cwV 2 hts gX7_value_X7_root_ rfl rfl rfl (by decide +kernel) ⟨Nat.le_of_ble_eq_true rfl, Nat.le_of_ble_eq_true rfl⟩) ⟨ax_fbR, va_recv hK hP (ci := 11) (q0 := 0) rfl rfl, ax_prR hPc hKc hS hE⟩ rfl rfl hl.1 rfl (lv_room (Nat.le_of_ble_eq_true rfl)) dX7_value_13 ⟨Nat.le_of_ble_eq_true rfl, Nat.le_of_ble_eq_true rfl⟩) hS (fun _ _ h9 => h9.elim) (fun _ h9 => h9.elim) (fun r_4 u_6  t H locs ht hvm hw_5 hB hz1 hk1 hS => ?_)
  have hP := ax_keep hP (fun _ h9 => h9) hk1
  refine ax_l (y := 0) hw_5 ?_
  refine lv_l2d hx hb dX7_value_16 ?_
  refine ax_d (y := 0) (by decide +kernel) ?_
  refine lv_dmul hx hb dX7_value_17 (by unfold vf_n64; decide +kernel) ?_
  refine ax_d (y := 0) (by decide +kernel) ?_
  refine lv_dadd hx hb dX7_value_18 (by unfold vf_n64; decide +kernel) ?_
  refine ax_d (y := 0) (by decide +kernel) ?_
  refine W.widen (k := 0) (n := 0) (Nat.le_of_ble_eq_true rfl) (Nat.le_of_ble_eq_true rfl) ?_
  exact W.dret (v := 0) hx hb hr (fun t ht hW => ⟨⟨0, (), rfl, rfl, trivial⟩, hS.F ht⟩) hS.2.2 dX7_value_19

set_option maxHeartbeats 4000000 in
set_option maxRecDepth 100000 in
theorem c_X7_power_0 (l : Launch) (dC : Nat → ClassId) (dI : Nat → Nat → Nat) (y ys yp : Nat) (sa ta : Nat → Nat) (th : Int32) (ja : Nat) : Met l yX7_power wsX7_power ({ frames := 24, cells := 0, slots := 0, locals := 600 }) (va_Pc [.ref y, .ref ja, .int 0] (ax_R (dC, dI) vwCl [(y, .inr (11, [.int th, .ref ys, .ref yp, .int 0])), (ys, .inr (3, [.int 0, .ref (ta 4), .int 0])), (yp, .inr (3, [.int 0, .ref (ta 4), .int 0]))] [] sa ta)) (va_Ql (fun (r : Int64) (u : Unit) => r = 0) (fun _ _ => True) ax_no) 0 0 ax_no := by
  refine Met.ofW (cc := cX7_power) (maxL := 6) (ret := (some .long)) (by decide) rfl ?_
  intro p e s m args below meth c s₁ B hml hv
  obtain ⟨rfl, hP, hK, hE⟩ := hv
  have hx := B.exec
  have hb := B.bytes
  have hr := B.returns
  have hts := atoms_spec (ws := wsX7_power) B.pre
  have hown : s.vm.findClass RX7 = some m.cls := findClass_of_methodNamed B.named
  have hlocks := B.notSynchronized
  have hS : va_S ax_no s.heap s.heap [] := va_S.rf
  have hl := lv_entry ([.ref y, .ref ja, .int 0]) (n := 6) (Nat.le_of_ble_eq_true rfl)
  rw [lg_entry_eq]
  generalize (lg_sl ([.ref y, .ref ja, .int 0]) ++ List.replicate (6 - (lg_sl ([.ref y, .ref ja, .int 0])).length) Slot.unset).toArray = ls at hl ⊢
  have hl : lv_has ls 6 [(0, .ref y), (1, .ref ja), (2, .int 0)] := hl
  have hP : va_P (dC, dI) vwCl [(y, .inr (11, [.int th, .ref ys, .ref yp, .int 0])), (ys, .inr (3, [.int 0, .ref (ta 4), .int 0])), (yp, .inr (3, [.int 0, .ref (ta 4), .int 0]))] s.heap := hP
  refine lv_lconst (v := 0) hx hb dX7_power_0 (by decide) ?_
  refine lv_lstore_n (lv' := [(3, .long 0), (0, .ref y), (1, .ref ja), (2, .int 0)]) hx hb dX7_power_1 rfl hl (by decide) rfl (fun ls hl => ?_)
  refine lv_iconst (v := 0) hx hb dX7_power_2 (by decide) ?_
  refine lv_istore (lv' := [(5, .int 0), (3, .long 0), (0, .ref y), (1, .ref ja), (2, .int 0)]) hx hb dX7_power_3 hl (by decide) rfl (fun ls hl => ?_)
  refine lv_iload hx hb dX7_power_5 (lv_at hl 0 rfl) ?_
  refine lv_bipush (v := 8) hx hb dX7_power_7 (by decide) ?_
  refine lv_icmp_ge (tgt := 42) hx hb dX7_power_9 (by decide) (fun h9 => absurd h9 (by decide)) (fun _ => ?_)
  refine lv_lload_n hx hb dX7_power_12 rfl (lv_at hl 1 rfl) ?_
  refine lv_iload_n hx hb dX7_power_13 rfl (lv_at hl 4 rfl) ?_
  refine lv_if_eq (tgt := 27) hx hb dX7_power_14 (by decide) (fun _ => ?_) (fun h9 => absurd (by decide) h9)
  refine lv_aload_n hx hb dX7_power_27 rfl (lv_at hl 2 rfl) ?_
  refine lv_iload hx hb dX7_power_28 (lv_at hl 0 rfl) ?_
  refine lv_aload_n hx hb dX7_power_30 rfl (lv_at hl 3 rfl) ?_
  have hPc := hP.sub (ws' := [(y, .inr (11, [.int th, .ref ys, .ref yp, .int 0])), (ys, .inr (3, [.int 0, .ref (ta 4), .int 0])), (yp, .inr (3, [.int 0, .ref (ta 4), .int 0]))]) [0, 1, 2] rfl
  have hKc := hK.sub (tys' := []) [] rfl
  refine va_calll (va_runV (As := [.int 0, .ref ja]) (rest := [.long 0]) ⟨hx, hb, hml, hown, hts⟩ (c_X7_whole_ l dC dI y ys yp sa ta th 0 ja) (cwV 2 hts gX7_power_X7_whole_ rfl rfl rfl (by decide +kernel) ⟨Nat.le_of_ble_eq_true rfl, Nat.le_of_ble_eq_true rfl⟩) ⟨ax_fbR, va_recv hK hP (ci := 11) (q0 := 0) rfl rfl, ax_prR hPc hKc hS hE⟩ rfl rfl hl.1 rfl (lv_room (Nat.le_of_ble_eq_true rfl)) dX7_power_31 ⟨Nat.le_of_ble_eq_true rfl, Nat.le_of_ble_eq_true rfl⟩) hS (fun _ _ h9 => h9.elim) (fun _ h9 => h9.elim) (fun r_1 u_3  t H locs ht hvm hw_2 hB hz1 hk1 hS => ?_)
  have hP := ax_keep hP (fun _ h9 => h9) hk1
  refine ax_l (y := 0) hw_2 ?_
  refine lv_ladd hx hb dX7_power_34 ?_
  refine ax_l (y := 0) (by decide) ?_
  refine lv_lstore_n (lv' := [(3, .long 0), (5, .int 0), (0, .ref y), (1, .ref ja), (2, .int 0)]) hx hb dX7_power_35 rfl hl (by decide) rfl (fun ls hl => ?_)
  refine lv_iinc (v := 1) (lv' := [(5, .int 1), (3, .long 0), (0, .ref y), (1, .ref ja), (2, .int 0)]) hx hb dX7_power_36 hl (k := 1) rfl (by decide) (by decide) rfl (fun ls hl => ?_)
  refine lv_goto (tgt := 5) hx hb dX7_power_39 (by decide) ?_
  refine lv_iload hx hb dX7_power_5 (lv_at hl 0 rfl) ?_
  refine lv_bipush (v := 8) hx hb dX7_power_7 (by decide) ?_
  refine lv_icmp_ge (tgt := 42) hx hb dX7_power_9 (by decide) (fun h9 => absurd h9 (by decide)) (fun _ => ?_)
  refine lv_lload_n hx hb dX7_power_12 rfl (lv_at hl 1 rfl) ?_
  refine lv_iload_n hx hb dX7_power_13 rfl (lv_at hl 4 rfl) ?_
  refine lv_if_eq (tgt := 27) hx hb dX7_power_14 (by decide) (fun _ => ?_) (fun h9 => absurd (by decide) h9)
  refine lv_aload_n hx hb dX7_power_27 rfl (lv_at hl 2 rfl) ?_
  refine lv_iload hx hb dX7_power_28 (lv_at hl 0 rfl) ?_
  refine lv_aload_n hx hb dX7_power_30 rfl (lv_at hl 3 rfl) ?_
  have hPc := hP.sub (ws' := [(y, .inr (11, [.int th, .ref ys, .ref yp, .int 0])), (ys, .inr (3, [.int 0, .ref (ta 4), .int 0])), (yp, .inr (3, [.int 0, .ref (ta 4), .int 0]))]) [0, 1, 2] rfl
  have hKc := hK.sub (tys' := []) [] rfl
  refine va_calll (va_runV (As := [.int 1, .ref ja]) (rest := [.long 0]) ⟨hx, hb, hml, hown, hts⟩ (c_X7_whole_ l dC dI y ys yp sa ta th 1 ja) (cwV 2 hts gX7_power_X7_whole_ rfl rfl rfl (by decide +kernel) ⟨Nat.le_of_ble_eq_true rfl, Nat.le_of_ble_eq_true rfl⟩) ⟨ax_fbR, va_recv hK hP (ci := 11) (q0 := 0) rfl rfl, ax_prR hPc hKc hS hE⟩ rfl rfl hl.1 rfl (lv_room (Nat.le_of_ble_eq_true rfl)) dX7_power_31 ⟨Nat.le_of_ble_eq_true rfl, Nat.le_of_ble_eq_true rfl⟩) hS (fun _ _ h9 => h9.elim) (fun _ h9 => h9.elim) (fun r_4 u_6  t H locs ht hvm hw_5 hB hz1 hk1 hS => ?_)
  have hP := ax_keep hP (fun _ h9 => h9) hk1
  refine ax_l (y := 0) hw_5 ?_
  refine lv_ladd hx hb dX7_power_34 ?_
  refine ax_l (y := 0) (by decide) ?_
  refine lv_lstore_n (lv' := [(3, .long 0), (5, .int 1), (0, .ref y), (1, .ref ja), (2, .int 0)]) hx hb dX7_power_35 rfl hl (by decide) rfl (fun ls hl => ?_)
  refine lv_iinc (v := 2) (lv' := [(5, .int 2), (3, .long 0), (0, .ref y), (1, .ref ja), (2, .int 0)]) hx hb dX7_power_36 hl (k := 1) rfl (by decide) (by decide) rfl (fun ls hl => ?_)
  refine lv_goto (tgt := 5) hx hb dX7_power_39 (by decide) ?_
  refine lv_iload hx hb dX7_power_5 (lv_at hl 0 rfl) ?_
  refine lv_bipush (v := 8) hx hb dX7_power_7 (by decide) ?_
  refine lv_icmp_ge (tgt := 42) hx hb dX7_power_9 (by decide) (fun h9 => absurd h9 (by decide)) (fun _ => ?_)
  refine lv_lload_n hx hb dX7_power_12 rfl (lv_at hl 1 rfl) ?_
  refine lv_iload_n hx hb dX7_power_13 rfl (lv_at hl 4 rfl) ?_
  refine lv_if_eq (tgt := 27) hx hb dX7_power_14 (by decide) (fun _ => ?_) (fun h9 => absurd (by decide) h9)
  refine lv_aload_n hx hb dX7_power_27 rfl (lv_at hl 2 rfl) ?_
  refine lv_iload hx hb dX7_power_28 (lv_at hl 0 rfl) ?_
  refine lv_aload_n hx hb dX7_power_30 rfl (lv_at hl 3 rfl) ?_
  have hPc := hP.sub (ws' := [(y, .inr (11, [.int th, .ref ys, .ref yp, .int 0])), (ys, .inr (3, [.int 0, .ref (ta 4), .int 0])), (yp, .inr (3, [.int 0, .ref (ta 4), .int 0]))]) [0, 1, 2] rfl
  have hKc := hK.sub (tys' := []) [] rfl
  refine va_calll (va_runV (As := [.int 2, .ref ja]) (rest := [.long 0]) ⟨hx, hb, hml, hown, hts⟩ (c_X7_whole_ l dC dI y ys yp sa ta th 2 ja) (cwV 2 hts gX7_power_X7_whole_ rfl rfl rfl (by decide +kernel) ⟨Nat.le_of_ble_eq_true rfl, Nat.le_of_ble_eq_true rfl⟩) ⟨ax_fbR, va_recv hK hP (ci := 11) (q0 := 0) rfl rfl, ax_prR hPc hKc hS hE⟩ rfl rfl hl.1 rfl (lv_room (Nat.le_of_ble_eq_true rfl)) dX7_power_31 ⟨Nat.le_of_ble_eq_true rfl, Nat.le_of_ble_eq_true rfl⟩) hS (fun _ _ h9 => h9.elim) (fun _ h9 => h9.elim) (fun r_7 u_9  t H locs ht hvm hw_8 hB hz1 hk1 hS => ?_)
  have hP := ax_keep hP (fun _ h9 => h9) hk1
  refine ax_l (y := 0) hw_8 ?_
  refine lv_ladd hx hb dX7_power_34 ?_
  refine ax_l (y := 0) (by decide) ?_
  refine lv_lstore_n (lv' := [(3, .long 0), (5, .int 2), (0, .ref y), (1, .ref ja), (2, .int 0)]) hx hb dX7_power_35 rfl hl (by decide) rfl (fun ls hl => ?_)
  refine lv_iinc (v := 3) (lv' := [(5, .int 3), (3, .long 0), (0, .ref y), (1, .ref ja), (2, .int 0)]) hx hb dX7_power_36 hl (k := 1) rfl (by decide) (by decide) rfl (fun ls hl => ?_)
  refine lv_goto (tgt := 5) hx hb dX7_power_39 (by decide) ?_
  refine lv_iload hx hb dX7_power_5 (lv_at hl 0 rfl) ?_
  refine lv_bipush (v := 8) hx hb dX7_power_7 (by decide) ?_
  refine lv_icmp_ge (tgt := 42) hx hb dX7_power_9 (by decide) (fun h9 => absurd h9 (by decide)) (fun _ => ?_)
  refine lv_lload_n hx hb dX7_power_12 rfl (lv_at hl 1 rfl) ?_
  refine lv_iload_n hx hb dX7_power_13 rfl (lv_at hl 4 rfl) ?_
  refine lv_if_eq (tgt := 27) hx hb dX7_power_14 (by decide) (fun _ => ?_) (fun h9 => absurd (by decide) h9)
  refine lv_aload_n hx hb dX7_power_27 rfl (lv_at hl 2 rfl) ?_
  refine lv_iload hx hb dX7_power_28 (lv_at hl 0 rfl) ?_
  refine lv_aload_n hx hb dX7_power_30 rfl (lv_at hl 3 rfl) ?_
  have hPc := hP.sub (ws' := [(y, .inr (11, [.int th, .ref ys, .ref yp, .int 0])), (ys, .inr (3, [.int 0, .ref (ta 4), .int 0])), (yp, .inr (3, [.int 0, .ref (ta 4), .int 0]))]) [0, 1, 2] rfl
  have hKc := hK.sub (tys' := []) [] rfl
  refine va_calll (va_runV (As := [.int 3, .ref ja]) (rest := [.long 0]) ⟨hx, hb, hml, hown, hts⟩ (c_X7_whole_ l dC dI y ys yp sa ta th 3 ja) (cwV 2 hts gX7_power_X7_whole_ rfl rfl rfl (by decide +kernel) ⟨Nat.le_of_ble_eq_true rfl, Nat.le_of_ble_eq_true rfl⟩) ⟨ax_fbR, va_recv hK hP (ci := 11) (q0 := 0) rfl rfl, ax_prR hPc hKc hS hE⟩ rfl rfl hl.1 rfl (lv_room (Nat.le_of_ble_eq_true rfl)) dX7_power_31 ⟨Nat.le_of_ble_eq_true rfl, Nat.le_of_ble_eq_true rfl⟩) hS (fun _ _ h9 => h9.elim) (fun _ h9 => h9.elim) (fun r_10 u_12  t H locs ht hvm hw_11 hB hz1 hk1 hS => ?_)
  have hP := ax_keep hP (fun _ h9 => h9) hk1
  refine ax_l (y := 0) hw_11 ?_
  refine lv_ladd hx hb dX7_power_34 ?_
  refine ax_l (y := 0) (by decide) ?_
  refine lv_lstore_n (lv' := [(3, .long 0), (5, .int 3), (0, .ref y), (1, .ref ja), (2, .int 0)]) hx hb dX7_power_35 rfl hl (by decide) rfl (fun ls hl => ?_)
  refine lv_iinc (v := 4) (lv' := [(5, .int 4), (3, .long 0), (0, .ref y), (1, .ref ja), (2, .int 0)]) hx hb dX7_power_36 hl (k := 1) rfl (by decide) (by decide) rfl (fun ls hl => ?_)
  refine lv_goto (tgt := 5) hx hb dX7_power_39 (by decide) ?_
  refine lv_iload hx hb dX7_power_5 (lv_at hl 0 rfl) ?_
  refine lv_bipush (v := 8) hx hb dX7_power_7 (by decide) ?_
  refine lv_icmp_ge (tgt := 42) hx hb dX7_power_9 (by decide) (fun h9 => absurd h9 (by decide)) (fun _ => ?_)
  refine lv_lload_n hx hb dX7_power_12 rfl (lv_at hl 1 rfl) ?_
  refine lv_iload_n hx hb dX7_power_13 rfl (lv_at hl 4 rfl) ?_
  refine lv_if_eq (tgt := 27) hx hb dX7_power_14 (by decide) (fun _ => ?_) (fun h9 => absurd (by decide) h9)
  refine lv_aload_n hx hb dX7_power_27 rfl (lv_at hl 2 rfl) ?_
  refine lv_iload hx hb dX7_power_28 (lv_at hl 0 rfl) ?_
  refine lv_aload_n hx hb dX7_power_30 rfl (lv_at hl 3 rfl) ?_
  have hPc := hP.sub (ws' := [(y, .inr (11, [.int th, .ref ys, .ref yp, .int 0])), (ys, .inr (3, [.int 0, .ref (ta 4), .int 0])), (yp, .inr (3, [.int 0, .ref (ta 4), .int 0]))]) [0, 1, 2] rfl
  have hKc := hK.sub (tys' := []) [] rfl
  refine va_calll (va_runV (As := [.int 4, .ref ja]) (rest := [.long 0]) ⟨hx, hb, hml, hown, hts⟩ (c_X7_whole_ l dC dI y ys yp sa ta th 4 ja) (cwV 2 hts gX7_power_X7_whole_ rfl rfl rfl (by decide +kernel) ⟨Nat.le_of_ble_eq_true rfl, Nat.le_of_ble_eq_true rfl⟩) ⟨ax_fbR, va_recv hK hP (ci := 11) (q0 := 0) rfl rfl, ax_prR hPc hKc hS hE⟩ rfl rfl hl.1 rfl (lv_room (Nat.le_of_ble_eq_true rfl)) dX7_power_31 ⟨Nat.le_of_ble_eq_true rfl, Nat.le_of_ble_eq_true rfl⟩) hS (fun _ _ h9 => h9.elim) (fun _ h9 => h9.elim) (fun r_13 u_15  t H locs ht hvm hw_14 hB hz1 hk1 hS => ?_)
  have hP := ax_keep hP (fun _ h9 => h9) hk1
  refine ax_l (y := 0) hw_14 ?_
  refine lv_ladd hx hb dX7_power_34 ?_
  refine ax_l (y := 0) (by decide) ?_
  refine lv_lstore_n (lv' := [(3, .long 0), (5, .int 4), (0, .ref y), (1, .ref ja), (2, .int 0)]) hx hb dX7_power_35 rfl hl (by decide) rfl (fun ls hl => ?_)
  refine lv_iinc (v := 5) (lv' := [(5, .int 5), (3, .long 0), (0, .ref y), (1, .ref ja), (2, .int 0)]) hx hb dX7_power_36 hl (k := 1) rfl (by decide) (by decide) rfl (fun ls hl => ?_)
  refine lv_goto (tgt := 5) hx hb dX7_power_39 (by decide) ?_
  refine lv_iload hx hb dX7_power_5 (lv_at hl 0 rfl) ?_
  refine lv_bipush (v := 8) hx hb dX7_power_7 (by decide) ?_
  refine lv_icmp_ge (tgt := 42) hx hb dX7_power_9 (by decide) (fun h9 => absurd h9 (by decide)) (fun _ => ?_)
  refine lv_lload_n hx hb dX7_power_12 rfl (lv_at hl 1 rfl) ?_
  refine lv_iload_n hx hb dX7_power_13 rfl (lv_at hl 4 rfl) ?_
  refine lv_if_eq (tgt := 27) hx hb dX7_power_14 (by decide) (fun _ => ?_) (fun h9 => absurd (by decide) h9)
  refine lv_aload_n hx hb dX7_power_27 rfl (lv_at hl 2 rfl) ?_
  refine lv_iload hx hb dX7_power_28 (lv_at hl 0 rfl) ?_
  refine lv_aload_n hx hb dX7_power_30 rfl (lv_at hl 3 rfl) ?_
  have hPc := hP.sub (ws' := [(y, .inr (11, [.int th, .ref ys, .ref yp, .int 0])), (ys, .inr (3, [.int 0, .ref (ta 4), .int 0])), (yp, .inr (3, [.int 0, .ref (ta 4), .int 0]))]) [0, 1, 2] rfl
  have hKc := hK.sub (tys' := []) [] rfl
  refine va_calll (va_runV (As := [.int 5, .ref ja]) (rest := [.long 0]) ⟨hx, hb, hml, hown, hts⟩ (c_X7_whole_ l dC dI y ys yp sa ta th 5 ja) (cwV 2 hts gX7_power_X7_whole_ rfl rfl rfl (by decide +kernel) ⟨Nat.le_of_ble_eq_true rfl, Nat.le_of_ble_eq_true rfl⟩) ⟨ax_fbR, va_recv hK hP (ci := 11) (q0 := 0) rfl rfl, ax_prR hPc hKc hS hE⟩ rfl rfl hl.1 rfl (lv_room (Nat.le_of_ble_eq_true rfl)) dX7_power_31 ⟨Nat.le_of_ble_eq_true rfl, Nat.le_of_ble_eq_true rfl⟩) hS (fun _ _ h9 => h9.elim) (fun _ h9 => h9.elim) (fun r_16 u_18  t H locs ht hvm hw_17 hB hz1 hk1 hS => ?_)
  have hP := ax_keep hP (fun _ h9 => h9) hk1
  refine ax_l (y := 0) hw_17 ?_
  refine lv_ladd hx hb dX7_power_34 ?_
  refine ax_l (y := 0) (by decide) ?_
  refine lv_lstore_n (lv' := [(3, .long 0), (5, .int 5), (0, .ref y), (1, .ref ja), (2, .int 0)]) hx hb dX7_power_35 rfl hl (by decide) rfl (fun ls hl => ?_)
  refine lv_iinc (v := 6) (lv' := [(5, .int 6), (3, .long 0), (0, .ref y), (1, .ref ja), (2, .int 0)]) hx hb dX7_power_36 hl (k := 1) rfl (by decide) (by decide) rfl (fun ls hl => ?_)
  refine lv_goto (tgt := 5) hx hb dX7_power_39 (by decide) ?_
  refine lv_iload hx hb dX7_power_5 (lv_at hl 0 rfl) ?_
  refine lv_bipush (v := 8) hx hb dX7_power_7 (by decide) ?_
  refine lv_icmp_ge (tgt := 42) hx hb dX7_power_9 (by decide) (fun h9 => absurd h9 (by decide)) (fun _ => ?_)
  refine lv_lload_n hx hb dX7_power_12 rfl (lv_at hl 1 rfl) ?_
  refine lv_iload_n hx hb dX7_power_13 rfl (lv_at hl 4 rfl) ?_
  refine lv_if_eq (tgt := 27) hx hb dX7_power_14 (by decide) (fun _ => ?_) (fun h9 => absurd (by decide) h9)
  refine lv_aload_n hx hb dX7_power_27 rfl (lv_at hl 2 rfl) ?_
  refine lv_iload hx hb dX7_power_28 (lv_at hl 0 rfl) ?_
  refine lv_aload_n hx hb dX7_power_30 rfl (lv_at hl 3 rfl) ?_
  have hPc := hP.sub (ws' := [(y, .inr (11, [.int th, .ref ys, .ref yp, .int 0])), (ys, .inr (3, [.int 0, .ref (ta 4), .int 0])), (yp, .inr (3, [.int 0, .ref (ta 4), .int 0]))]) [0, 1, 2] rfl
  have hKc := hK.sub (tys' := []) [] rfl
  refine va_calll (va_runV (As := [.int 6, .ref ja]) (rest := [.long 0]) ⟨hx, hb, hml, hown, hts⟩ (c_X7_whole_ l dC dI y ys yp sa ta th 6 ja) (cwV 2 hts gX7_power_X7_whole_ rfl rfl rfl (by decide +kernel) ⟨Nat.le_of_ble_eq_true rfl, Nat.le_of_ble_eq_true rfl⟩) ⟨ax_fbR, va_recv hK hP (ci := 11) (q0 := 0) rfl rfl, ax_prR hPc hKc hS hE⟩ rfl rfl hl.1 rfl (lv_room (Nat.le_of_ble_eq_true rfl)) dX7_power_31 ⟨Nat.le_of_ble_eq_true rfl, Nat.le_of_ble_eq_true rfl⟩) hS (fun _ _ h9 => h9.elim) (fun _ h9 => h9.elim) (fun r_19 u_21  t H locs ht hvm hw_20 hB hz1 hk1 hS => ?_)
  have hP := ax_keep hP (fun _ h9 => h9) hk1
  refine ax_l (y := 0) hw_20 ?_
  refine lv_ladd hx hb dX7_power_34 ?_
  refine ax_l (y := 0) (by decide) ?_
  refine lv_lstore_n (lv' := [(3, .long 0), (5, .int 6), (0, .ref y), (1, .ref ja), (2, .int 0)]) hx hb dX7_power_35 rfl hl (by decide) rfl (fun ls hl => ?_)
  refine lv_iinc (v := 7) (lv' := [(5, .int 7), (3, .long 0), (0, .ref y), (1, .ref ja), (2, .int 0)]) hx hb dX7_power_36 hl (k := 1) rfl (by decide) (by decide) rfl (fun ls hl => ?_)
  refine lv_goto (tgt := 5) hx hb dX7_power_39 (by decide) ?_
  refine lv_iload hx hb dX7_power_5 (lv_at hl 0 rfl) ?_
  refine lv_bipush (v := 8) hx hb dX7_power_7 (by decide) ?_
  refine lv_icmp_ge (tgt := 42) hx hb dX7_power_9 (by decide) (fun h9 => absurd h9 (by decide)) (fun _ => ?_)
  refine lv_lload_n hx hb dX7_power_12 rfl (lv_at hl 1 rfl) ?_
  refine lv_iload_n hx hb dX7_power_13 rfl (lv_at hl 4 rfl) ?_
  refine lv_if_eq (tgt := 27) hx hb dX7_power_14 (by decide) (fun _ => ?_) (fun h9 => absurd (by decide) h9)
  refine lv_aload_n hx hb dX7_power_27 rfl (lv_at hl 2 rfl) ?_
  refine lv_iload hx hb dX7_power_28 (lv_at hl 0 rfl) ?_
  refine lv_aload_n hx hb dX7_power_30 rfl (lv_at hl 3 rfl) ?_
  have hPc := hP.sub (ws' := [(y, .inr (11, [.int th, .ref ys, .ref yp, .int 0])), (ys, .inr (3, [.int 0, .ref (ta 4), .int 0])), (yp, .inr (3, [.int 0, .ref (ta 4), .int 0]))]) [0, 1, 2] rfl
  have hKc := hK.sub (tys' := []) [] rfl
  refine va_calll (va_runV (As := [.int 7, .ref ja]) (rest := [.long 0]) ⟨hx, hb, hml, hown, hts⟩ (c_X7_whole_ l dC dI y ys yp sa ta th 7 ja) (cwV 2 hts gX7_power_X7_whole_ rfl rfl rfl (by decide +kernel) ⟨Nat.le_of_ble_eq_true rfl, Nat.le_of_ble_eq_true rfl⟩) ⟨ax_fbR, va_recv hK hP (ci := 11) (q0 := 0) rfl rfl, ax_prR hPc hKc hS hE⟩ rfl rfl hl.1 rfl (lv_room (Nat.le_of_ble_eq_true rfl)) dX7_power_31 ⟨Nat.le_of_ble_eq_true rfl, Nat.le_of_ble_eq_true rfl⟩) hS (fun _ _ h9 => h9.elim) (fun _ h9 => h9.elim) (fun r_22 u_24  t H locs ht hvm hw_23 hB hz1 hk1 hS => ?_)
  have hP := ax_keep hP (fun _ h9 => h9) hk1
  refine ax_l (y := 0) hw_23 ?_
  refine lv_ladd hx hb dX7_power_34 ?_
  refine ax_l (y := 0) (by decide) ?_
  refine lv_lstore_n (lv' := [(3, .long 0), (5, .int 7), (0, .ref y), (1, .ref ja), (2, .int 0)]) hx hb dX7_power_35 rfl hl (by decide) rfl (fun ls hl => ?_)
  refine lv_iinc (v := 8) (lv' := [(5, .int 8), (3, .long 0), (0, .ref y), (1, .ref ja), (2, .int 0)]) hx hb dX7_power_36 hl (k := 1) rfl (by decide) (by decide) rfl (fun ls hl => ?_)
  refine lv_goto (tgt := 5) hx hb dX7_power_39 (by decide) ?_
  refine lv_iload hx hb dX7_power_5 (lv_at hl 0 rfl) ?_
  refine lv_bipush (v := 8) hx hb dX7_power_7 (by decide) ?_
  refine lv_icmp_ge (tgt := 42) hx hb dX7_power_9 (by decide) (fun _ => ?_) (fun h9 => absurd (by decide) h9)
  refine lv_lload_n hx hb dX7_power_42 rfl (lv_at hl 1 rfl) ?_
  refine W.widen (k := 0) (n := 0) (Nat.le_of_ble_eq_true rfl) (Nat.le_of_ble_eq_true rfl) ?_
  exact W.lret (v := 0) hx hb hr (fun t ht hW => ⟨⟨0, (), rfl, rfl, trivial⟩, hS.F ht⟩) hS.2.2 dX7_power_43

set_option maxHeartbeats 4000000 in
set_option maxRecDepth 100000 in
theorem c_X7_power_1 (l : Launch) (dC : Nat → ClassId) (dI : Nat → Nat → Nat) (y ys yp : Nat) (sa ta : Nat → Nat) (th : Int32) (ja : Nat) : Met l yX7_power wsX7_power ({ frames := 24, cells := 0, slots := 0, locals := 600 }) (va_Pc [.ref y, .ref ja, .int 1] (ax_R (dC, dI) vwCl [(y, .inr (11, [.int th, .ref ys, .ref yp, .int 0])), (ys, .inr (3, [.int 0, .ref (ta 4), .int 0])), (yp, .inr (3, [.int 0, .ref (ta 4), .int 0]))] [] sa ta)) (va_Ql (fun (r : Int64) (u : Unit) => r = 0) (fun _ _ => True) ax_no) 0 0 ax_no := by
  refine Met.ofW (cc := cX7_power) (maxL := 6) (ret := (some .long)) (by decide) rfl ?_
  intro p e s m args below meth c s₁ B hml hv
  obtain ⟨rfl, hP, hK, hE⟩ := hv
  have hx := B.exec
  have hb := B.bytes
  have hr := B.returns
  have hts := atoms_spec (ws := wsX7_power) B.pre
  have hown : s.vm.findClass RX7 = some m.cls := findClass_of_methodNamed B.named
  have hlocks := B.notSynchronized
  have hS : va_S ax_no s.heap s.heap [] := va_S.rf
  have hl := lv_entry ([.ref y, .ref ja, .int 1]) (n := 6) (Nat.le_of_ble_eq_true rfl)
  rw [lg_entry_eq]
  generalize (lg_sl ([.ref y, .ref ja, .int 1]) ++ List.replicate (6 - (lg_sl ([.ref y, .ref ja, .int 1])).length) Slot.unset).toArray = ls at hl ⊢
  have hl : lv_has ls 6 [(0, .ref y), (1, .ref ja), (2, .int 1)] := hl
  have hP : va_P (dC, dI) vwCl [(y, .inr (11, [.int th, .ref ys, .ref yp, .int 0])), (ys, .inr (3, [.int 0, .ref (ta 4), .int 0])), (yp, .inr (3, [.int 0, .ref (ta 4), .int 0]))] s.heap := hP
  refine lv_lconst (v := 0) hx hb dX7_power_0 (by decide) ?_
  refine lv_lstore_n (lv' := [(3, .long 0), (0, .ref y), (1, .ref ja), (2, .int 1)]) hx hb dX7_power_1 rfl hl (by decide) rfl (fun ls hl => ?_)
  refine lv_iconst (v := 0) hx hb dX7_power_2 (by decide) ?_
  refine lv_istore (lv' := [(5, .int 0), (3, .long 0), (0, .ref y), (1, .ref ja), (2, .int 1)]) hx hb dX7_power_3 hl (by decide) rfl (fun ls hl => ?_)
  refine lv_iload hx hb dX7_power_5 (lv_at hl 0 rfl) ?_
  refine lv_bipush (v := 8) hx hb dX7_power_7 (by decide) ?_
  refine lv_icmp_ge (tgt := 42) hx hb dX7_power_9 (by decide) (fun h9 => absurd h9 (by decide)) (fun _ => ?_)
  refine lv_lload_n hx hb dX7_power_12 rfl (lv_at hl 1 rfl) ?_
  refine lv_iload_n hx hb dX7_power_13 rfl (lv_at hl 4 rfl) ?_
  refine lv_if_eq (tgt := 27) hx hb dX7_power_14 (by decide) (fun h9 => absurd h9 (by decide)) (fun _ => ?_)
  refine lv_aload_n hx hb dX7_power_17 rfl (lv_at hl 2 rfl) ?_
  refine lv_iload hx hb dX7_power_18 (lv_at hl 0 rfl) ?_
  refine lv_aload_n hx hb dX7_power_20 rfl (lv_at hl 3 rfl) ?_
  have hPc := hP.sub (ws' := [(y, .inr (11, [.int th, .ref ys, .ref yp, .int 0])), (ys, .inr (3, [.int 0, .ref (ta 4), .int 0])), (yp, .inr (3, [.int 0, .ref (ta 4), .int 0]))]) [0, 1, 2] rfl
  have hKc := hK.sub (tys' := []) [] rfl
  refine va_calll (va_runV (As := [.int 0, .ref ja]) (rest := [.long 0]) ⟨hx, hb, hml, hown, hts⟩ (c_X7_root_ l dC dI y ys yp sa ta th 0 ja) (cwV 2 hts gX7_power_X7_root_ rfl rfl rfl (by decide +kernel) ⟨Nat.le_of_ble_eq_true rfl, Nat.le_of_ble_eq_true rfl⟩) ⟨ax_fbR, va_recv hK hP (ci := 11) (q0 := 0) rfl rfl, ax_prR hPc hKc hS hE⟩ rfl rfl hl.1 rfl (lv_room (Nat.le_of_ble_eq_true rfl)) dX7_power_21 ⟨Nat.le_of_ble_eq_true rfl, Nat.le_of_ble_eq_true rfl⟩) hS (fun _ _ h9 => h9.elim) (fun _ h9 => h9.elim) (fun r_1 u_3  t H locs ht hvm hw_2 hB hz1 hk1 hS => ?_)
  have hP := ax_keep hP (fun _ h9 => h9) hk1
  refine ax_l (y := 0) hw_2 ?_
  refine lv_goto (tgt := 34) hx hb dX7_power_24 (by decide) ?_
  refine lv_ladd hx hb dX7_power_34 ?_
  refine ax_l (y := 0) (by decide) ?_
  refine lv_lstore_n (lv' := [(3, .long 0), (5, .int 0), (0, .ref y), (1, .ref ja), (2, .int 1)]) hx hb dX7_power_35 rfl hl (by decide) rfl (fun ls hl => ?_)
  refine lv_iinc (v := 1) (lv' := [(5, .int 1), (3, .long 0), (0, .ref y), (1, .ref ja), (2, .int 1)]) hx hb dX7_power_36 hl (k := 1) rfl (by decide) (by decide) rfl (fun ls hl => ?_)
  refine lv_goto (tgt := 5) hx hb dX7_power_39 (by decide) ?_
  refine lv_iload hx hb dX7_power_5 (lv_at hl 0 rfl) ?_
  refine lv_bipush (v := 8) hx hb dX7_power_7 (by decide) ?_
  refine lv_icmp_ge (tgt := 42) hx hb dX7_power_9 (by decide) (fun h9 => absurd h9 (by decide)) (fun _ => ?_)
  refine lv_lload_n hx hb dX7_power_12 rfl (lv_at hl 1 rfl) ?_
  refine lv_iload_n hx hb dX7_power_13 rfl (lv_at hl 4 rfl) ?_
  refine lv_if_eq (tgt := 27) hx hb dX7_power_14 (by decide) (fun h9 => absurd h9 (by decide)) (fun _ => ?_)
  refine lv_aload_n hx hb dX7_power_17 rfl (lv_at hl 2 rfl) ?_
  refine lv_iload hx hb dX7_power_18 (lv_at hl 0 rfl) ?_
  refine lv_aload_n hx hb dX7_power_20 rfl (lv_at hl 3 rfl) ?_
  have hPc := hP.sub (ws' := [(y, .inr (11, [.int th, .ref ys, .ref yp, .int 0])), (ys, .inr (3, [.int 0, .ref (ta 4), .int 0])), (yp, .inr (3, [.int 0, .ref (ta 4), .int 0]))]) [0, 1, 2] rfl
  have hKc := hK.sub (tys' := []) [] rfl
  refine va_calll (va_runV (As := [.int 1, .ref ja]) (rest := [.long 0]) ⟨hx, hb, hml, hown, hts⟩ (c_X7_root_ l dC dI y ys yp sa ta th 1 ja) (cwV 2 hts gX7_power_X7_root_ rfl rfl rfl (by decide +kernel) ⟨Nat.le_of_ble_eq_true rfl, Nat.le_of_ble_eq_true rfl⟩) ⟨ax_fbR, va_recv hK hP (ci := 11) (q0 := 0) rfl rfl, ax_prR hPc hKc hS hE⟩ rfl rfl hl.1 rfl (lv_room (Nat.le_of_ble_eq_true rfl)) dX7_power_21 ⟨Nat.le_of_ble_eq_true rfl, Nat.le_of_ble_eq_true rfl⟩) hS (fun _ _ h9 => h9.elim) (fun _ h9 => h9.elim) (fun r_4 u_6  t H locs ht hvm hw_5 hB hz1 hk1 hS => ?_)
  have hP := ax_keep hP (fun _ h9 => h9) hk1
  refine ax_l (y := 0) hw_5 ?_
  refine lv_goto (tgt := 34) hx hb dX7_power_24 (by decide) ?_
  refine lv_ladd hx hb dX7_power_34 ?_
  refine ax_l (y := 0) (by decide) ?_
  refine lv_lstore_n (lv' := [(3, .long 0), (5, .int 1), (0, .ref y), (1, .ref ja), (2, .int 1)]) hx hb dX7_power_35 rfl hl (by decide) rfl (fun ls hl => ?_)
  refine lv_iinc (v := 2) (lv' := [(5, .int 2), (3, .long 0), (0, .ref y), (1, .ref ja), (2, .int 1)]) hx hb dX7_power_36 hl (k := 1) rfl (by decide) (by decide) rfl (fun ls hl => ?_)
  refine lv_goto (tgt := 5) hx hb dX7_power_39 (by decide) ?_
  refine lv_iload hx hb dX7_power_5 (lv_at hl 0 rfl) ?_
  refine lv_bipush (v := 8) hx hb dX7_power_7 (by decide) ?_
  refine lv_icmp_ge (tgt := 42) hx hb dX7_power_9 (by decide) (fun h9 => absurd h9 (by decide)) (fun _ => ?_)
  refine lv_lload_n hx hb dX7_power_12 rfl (lv_at hl 1 rfl) ?_
  refine lv_iload_n hx hb dX7_power_13 rfl (lv_at hl 4 rfl) ?_
  refine lv_if_eq (tgt := 27) hx hb dX7_power_14 (by decide) (fun h9 => absurd h9 (by decide)) (fun _ => ?_)
  refine lv_aload_n hx hb dX7_power_17 rfl (lv_at hl 2 rfl) ?_
  refine lv_iload hx hb dX7_power_18 (lv_at hl 0 rfl) ?_
  refine lv_aload_n hx hb dX7_power_20 rfl (lv_at hl 3 rfl) ?_
  have hPc := hP.sub (ws' := [(y, .inr (11, [.int th, .ref ys, .ref yp, .int 0])), (ys, .inr (3, [.int 0, .ref (ta 4), .int 0])), (yp, .inr (3, [.int 0, .ref (ta 4), .int 0]))]) [0, 1, 2] rfl
  have hKc := hK.sub (tys' := []) [] rfl
  refine va_calll (va_runV (As := [.int 2, .ref ja]) (rest := [.long 0]) ⟨hx, hb, hml, hown, hts⟩ (c_X7_root_ l dC dI y ys yp sa ta th 2 ja) (cwV 2 hts gX7_power_X7_root_ rfl rfl rfl (by decide +kernel) ⟨Nat.le_of_ble_eq_true rfl, Nat.le_of_ble_eq_true rfl⟩) ⟨ax_fbR, va_recv hK hP (ci := 11) (q0 := 0) rfl rfl, ax_prR hPc hKc hS hE⟩ rfl rfl hl.1 rfl (lv_room (Nat.le_of_ble_eq_true rfl)) dX7_power_21 ⟨Nat.le_of_ble_eq_true rfl, Nat.le_of_ble_eq_true rfl⟩) hS (fun _ _ h9 => h9.elim) (fun _ h9 => h9.elim) (fun r_7 u_9  t H locs ht hvm hw_8 hB hz1 hk1 hS => ?_)
  have hP := ax_keep hP (fun _ h9 => h9) hk1
  refine ax_l (y := 0) hw_8 ?_
  refine lv_goto (tgt := 34) hx hb dX7_power_24 (by decide) ?_
  refine lv_ladd hx hb dX7_power_34 ?_
  refine ax_l (y := 0) (by decide) ?_
  refine lv_lstore_n (lv' := [(3, .long 0), (5, .int 2), (0, .ref y), (1, .ref ja), (2, .int 1)]) hx hb dX7_power_35 rfl hl (by decide) rfl (fun ls hl => ?_)
  refine lv_iinc (v := 3) (lv' := [(5, .int 3), (3, .long 0), (0, .ref y), (1, .ref ja), (2, .int 1)]) hx hb dX7_power_36 hl (k := 1) rfl (by decide) (by decide) rfl (fun ls hl => ?_)
  refine lv_goto (tgt := 5) hx hb dX7_power_39 (by decide) ?_
  refine lv_iload hx hb dX7_power_5 (lv_at hl 0 rfl) ?_
  refine lv_bipush (v := 8) hx hb dX7_power_7 (by decide) ?_
  refine lv_icmp_ge (tgt := 42) hx hb dX7_power_9 (by decide) (fun h9 => absurd h9 (by decide)) (fun _ => ?_)
  refine lv_lload_n hx hb dX7_power_12 rfl (lv_at hl 1 rfl) ?_
  refine lv_iload_n hx hb dX7_power_13 rfl (lv_at hl 4 rfl) ?_
  refine lv_if_eq (tgt := 27) hx hb dX7_power_14 (by decide) (fun h9 => absurd h9 (by decide)) (fun _ => ?_)
  refine lv_aload_n hx hb dX7_power_17 rfl (lv_at hl 2 rfl) ?_
  refine lv_iload hx hb dX7_power_18 (lv_at hl 0 rfl) ?_
  refine lv_aload_n hx hb dX7_power_20 rfl (lv_at hl 3 rfl) ?_
  have hPc := hP.sub (ws' := [(y, .inr (11, [.int th, .ref ys, .ref yp, .int 0])), (ys, .inr (3, [.int 0, .ref (ta 4), .int 0])), (yp, .inr (3, [.int 0, .ref (ta 4), .int 0]))]) [0, 1, 2] rfl
  have hKc := hK.sub (tys' := []) [] rfl
  refine va_calll (va_runV (As := [.int 3, .ref ja]) (rest := [.long 0]) ⟨hx, hb, hml, hown, hts⟩ (c_X7_root_ l dC dI y ys yp sa ta th 3 ja) (cwV 2 hts gX7_power_X7_root_ rfl rfl rfl (by decide +kernel) ⟨Nat.le_of_ble_eq_true rfl, Nat.le_of_ble_eq_true rfl⟩) ⟨ax_fbR, va_recv hK hP (ci := 11) (q0 := 0) rfl rfl, ax_prR hPc hKc hS hE⟩ rfl rfl hl.1 rfl (lv_room (Nat.le_of_ble_eq_true rfl)) dX7_power_21 ⟨Nat.le_of_ble_eq_true rfl, Nat.le_of_ble_eq_true rfl⟩) hS (fun _ _ h9 => h9.elim) (fun _ h9 => h9.elim) (fun r_10 u_12  t H locs ht hvm hw_11 hB hz1 hk1 hS => ?_)
  have hP := ax_keep hP (fun _ h9 => h9) hk1
  refine ax_l (y := 0) hw_11 ?_
  refine lv_goto (tgt := 34) hx hb dX7_power_24 (by decide) ?_
  refine lv_ladd hx hb dX7_power_34 ?_
  refine ax_l (y := 0) (by decide) ?_
  refine lv_lstore_n (lv' := [(3, .long 0), (5, .int 3), (0, .ref y), (1, .ref ja), (2, .int 1)]) hx hb dX7_power_35 rfl hl (by decide) rfl (fun ls hl => ?_)
  refine lv_iinc (v := 4) (lv' := [(5, .int 4), (3, .long 0), (0, .ref y), (1, .ref ja), (2, .int 1)]) hx hb dX7_power_36 hl (k := 1) rfl (by decide) (by decide) rfl (fun ls hl => ?_)
  refine lv_goto (tgt := 5) hx hb dX7_power_39 (by decide) ?_
  refine lv_iload hx hb dX7_power_5 (lv_at hl 0 rfl) ?_
  refine lv_bipush (v := 8) hx hb dX7_power_7 (by decide) ?_
  refine lv_icmp_ge (tgt := 42) hx hb dX7_power_9 (by decide) (fun h9 => absurd h9 (by decide)) (fun _ => ?_)
  refine lv_lload_n hx hb dX7_power_12 rfl (lv_at hl 1 rfl) ?_
  refine lv_iload_n hx hb dX7_power_13 rfl (lv_at hl 4 rfl) ?_
  refine lv_if_eq (tgt := 27) hx hb dX7_power_14 (by decide) (fun h9 => absurd h9 (by decide)) (fun _ => ?_)
  refine lv_aload_n hx hb dX7_power_17 rfl (lv_at hl 2 rfl) ?_
  refine lv_iload hx hb dX7_power_18 (lv_at hl 0 rfl) ?_
  refine lv_aload_n hx hb dX7_power_20 rfl (lv_at hl 3 rfl) ?_
  have hPc := hP.sub (ws' := [(y, .inr (11, [.int th, .ref ys, .ref yp, .int 0])), (ys, .inr (3, [.int 0, .ref (ta 4), .int 0])), (yp, .inr (3, [.int 0, .ref (ta 4), .int 0]))]) [0, 1, 2] rfl
  have hKc := hK.sub (tys' := []) [] rfl
  refine va_calll (va_runV (As := [.int 4, .ref ja]) (rest := [.long 0]) ⟨hx, hb, hml, hown, hts⟩ (c_X7_root_ l dC dI y ys yp sa ta th 4 ja) (cwV 2 hts gX7_power_X7_root_ rfl rfl rfl (by decide +kernel) ⟨Nat.le_of_ble_eq_true rfl, Nat.le_of_ble_eq_true rfl⟩) ⟨ax_fbR, va_recv hK hP (ci := 11) (q0 := 0) rfl rfl, ax_prR hPc hKc hS hE⟩ rfl rfl hl.1 rfl (lv_room (Nat.le_of_ble_eq_true rfl)) dX7_power_21 ⟨Nat.le_of_ble_eq_true rfl, Nat.le_of_ble_eq_true rfl⟩) hS (fun _ _ h9 => h9.elim) (fun _ h9 => h9.elim) (fun r_13 u_15  t H locs ht hvm hw_14 hB hz1 hk1 hS => ?_)
  have hP := ax_keep hP (fun _ h9 => h9) hk1
  refine ax_l (y := 0) hw_14 ?_
  refine lv_goto (tgt := 34) hx hb dX7_power_24 (by decide) ?_
  refine lv_ladd hx hb dX7_power_34 ?_
  refine ax_l (y := 0) (by decide) ?_
  refine lv_lstore_n (lv' := [(3, .long 0), (5, .int 4), (0, .ref y), (1, .ref ja), (2, .int 1)]) hx hb dX7_power_35 rfl hl (by decide) rfl (fun ls hl => ?_)
  refine lv_iinc (v := 5) (lv' := [(5, .int 5), (3, .long 0), (0, .ref y), (1, .ref ja), (2, .int 1)]) hx hb dX7_power_36 hl (k := 1) rfl (by decide) (by decide) rfl (fun ls hl => ?_)
  refine lv_goto (tgt := 5) hx hb dX7_power_39 (by decide) ?_
  refine lv_iload hx hb dX7_power_5 (lv_at hl 0 rfl) ?_
  refine lv_bipush (v := 8) hx hb dX7_power_7 (by decide) ?_
  refine lv_icmp_ge (tgt := 42) hx hb dX7_power_9 (by decide) (fun h9 => absurd h9 (by decide)) (fun _ => ?_)
  refine lv_lload_n hx hb dX7_power_12 rfl (lv_at hl 1 rfl) ?_
  refine lv_iload_n hx hb dX7_power_13 rfl (lv_at hl 4 rfl) ?_
  refine lv_if_eq (tgt := 27) hx hb dX7_power_14 (by decide) (fun h9 => absurd h9 (by decide)) (fun _ => ?_)
  refine lv_aload_n hx hb dX7_power_17 rfl (lv_at hl 2 rfl) ?_
  refine lv_iload hx hb dX7_power_18 (lv_at hl 0 rfl) ?_
  refine lv_aload_n hx hb dX7_power_20 rfl (lv_at hl 3 rfl) ?_
  have hPc := hP.sub (ws' := [(y, .inr (11, [.int th, .ref ys, .ref yp, .int 0])), (ys, .inr (3, [.int 0, .ref (ta 4), .int 0])), (yp, .inr (3, [.int 0, .ref (ta 4), .int 0]))]) [0, 1, 2] rfl
  have hKc := hK.sub (tys' := []) [] rfl
  refine va_calll (va_runV (As := [.int 5, .ref ja]) (rest := [.long 0]) ⟨hx, hb, hml, hown, hts⟩ (c_X7_root_ l dC dI y ys yp sa ta th 5 ja) (cwV 2 hts gX7_power_X7_root_ rfl rfl rfl (by decide +kernel) ⟨Nat.le_of_ble_eq_true rfl, Nat.le_of_ble_eq_true rfl⟩) ⟨ax_fbR, va_recv hK hP (ci := 11) (q0 := 0) rfl rfl, ax_prR hPc hKc hS hE⟩ rfl rfl hl.1 rfl (lv_room (Nat.le_of_ble_eq_true rfl)) dX7_power_21 ⟨Nat.le_of_ble_eq_true rfl, Nat.le_of_ble_eq_true rfl⟩) hS (fun _ _ h9 => h9.elim) (fun _ h9 => h9.elim) (fun r_16 u_18  t H locs ht hvm hw_17 hB hz1 hk1 hS => ?_)
  have hP := ax_keep hP (fun _ h9 => h9) hk1
  refine ax_l (y := 0) hw_17 ?_
  refine lv_goto (tgt := 34) hx hb dX7_power_24 (by decide) ?_
  refine lv_ladd hx hb dX7_power_34 ?_
  refine ax_l (y := 0) (by decide) ?_
  refine lv_lstore_n (lv' := [(3, .long 0), (5, .int 5), (0, .ref y), (1, .ref ja), (2, .int 1)]) hx hb dX7_power_35 rfl hl (by decide) rfl (fun ls hl => ?_)
  refine lv_iinc (v := 6) (lv' := [(5, .int 6), (3, .long 0), (0, .ref y), (1, .ref ja), (2, .int 1)]) hx hb dX7_power_36 hl (k := 1) rfl (by decide) (by decide) rfl (fun ls hl => ?_)
  refine lv_goto (tgt := 5) hx hb dX7_power_39 (by decide) ?_
  refine lv_iload hx hb dX7_power_5 (lv_at hl 0 rfl) ?_
  refine lv_bipush (v := 8) hx hb dX7_power_7 (by decide) ?_
  refine lv_icmp_ge (tgt := 42) hx hb dX7_power_9 (by decide) (fun h9 => absurd h9 (by decide)) (fun _ => ?_)
  refine lv_lload_n hx hb dX7_power_12 rfl (lv_at hl 1 rfl) ?_
  refine lv_iload_n hx hb dX7_power_13 rfl (lv_at hl 4 rfl) ?_
  refine lv_if_eq (tgt := 27) hx hb dX7_power_14 (by decide) (fun h9 => absurd h9 (by decide)) (fun _ => ?_)
  refine lv_aload_n hx hb dX7_power_17 rfl (lv_at hl 2 rfl) ?_
  refine lv_iload hx hb dX7_power_18 (lv_at hl 0 rfl) ?_
  refine lv_aload_n hx hb dX7_power_20 rfl (lv_at hl 3 rfl) ?_
  have hPc := hP.sub (ws' := [(y, .inr (11, [.int th, .ref ys, .ref yp, .int 0])), (ys, .inr (3, [.int 0, .ref (ta 4), .int 0])), (yp, .inr (3, [.int 0, .ref (ta 4), .int 0]))]) [0, 1, 2] rfl
  have hKc := hK.sub (tys' := []) [] rfl
  refine va_calll (va_runV (As := [.int 6, .ref ja]) (rest := [.long 0]) ⟨hx, hb, hml, hown, hts⟩ (c_X7_root_ l dC dI y ys yp sa ta th 6 ja) (cwV 2 hts gX7_power_X7_root_ rfl rfl rfl (by decide +kernel) ⟨Nat.le_of_ble_eq_true rfl, Nat.le_of_ble_eq_true rfl⟩) ⟨ax_fbR, va_recv hK hP (ci := 11) (q0 := 0) rfl rfl, ax_prR hPc hKc hS hE⟩ rfl rfl hl.1 rfl (lv_room (Nat.le_of_ble_eq_true rfl)) dX7_power_21 ⟨Nat.le_of_ble_eq_true rfl, Nat.le_of_ble_eq_true rfl⟩) hS (fun _ _ h9 => h9.elim) (fun _ h9 => h9.elim) (fun r_19 u_21  t H locs ht hvm hw_20 hB hz1 hk1 hS => ?_)
  have hP := ax_keep hP (fun _ h9 => h9) hk1
  refine ax_l (y := 0) hw_20 ?_
  refine lv_goto (tgt := 34) hx hb dX7_power_24 (by decide) ?_
  refine lv_ladd hx hb dX7_power_34 ?_
  refine ax_l (y := 0) (by decide) ?_
  refine lv_lstore_n (lv' := [(3, .long 0), (5, .int 6), (0, .ref y), (1, .ref ja), (2, .int 1)]) hx hb dX7_power_35 rfl hl (by decide) rfl (fun ls hl => ?_)
  refine lv_iinc (v := 7) (lv' := [(5, .int 7), (3, .long 0), (0, .ref y), (1, .ref ja), (2, .int 1)]) hx hb dX7_power_36 hl (k := 1) rfl (by decide) (by decide) rfl (fun ls hl => ?_)
  refine lv_goto (tgt := 5) hx hb dX7_power_39 (by decide) ?_
  refine lv_iload hx hb dX7_power_5 (lv_at hl 0 rfl) ?_
  refine lv_bipush (v := 8) hx hb dX7_power_7 (by decide) ?_
  refine lv_icmp_ge (tgt := 42) hx hb dX7_power_9 (by decide) (fun h9 => absurd h9 (by decide)) (fun _ => ?_)
  refine lv_lload_n hx hb dX7_power_12 rfl (lv_at hl 1 rfl) ?_
  refine lv_iload_n hx hb dX7_power_13 rfl (lv_at hl 4 rfl) ?_
  refine lv_if_eq (tgt := 27) hx hb dX7_power_14 (by decide) (fun h9 => absurd h9 (by decide)) (fun _ => ?_)
  refine lv_aload_n hx hb dX7_power_17 rfl (lv_at hl 2 rfl) ?_
  refine lv_iload hx hb dX7_power_18 (lv_at hl 0 rfl) ?_
  refine lv_aload_n hx hb dX7_power_20 rfl (lv_at hl 3 rfl) ?_
  have hPc := hP.sub (ws' := [(y, .inr (11, [.int th, .ref ys, .ref yp, .int 0])), (ys, .inr (3, [.int 0, .ref (ta 4), .int 0])), (yp, .inr (3, [.int 0, .ref (ta 4), .int 0]))]) [0, 1, 2] rfl
  have hKc := hK.sub (tys' := []) [] rfl
  refine va_calll (va_runV (As := [.int 7, .ref ja]) (rest := [.long 0]) ⟨hx, hb, hml, hown, hts⟩ (c_X7_root_ l dC dI y ys yp sa ta th 7 ja) (cwV 2 hts gX7_power_X7_root_ rfl rfl rfl (by decide +kernel) ⟨Nat.le_of_ble_eq_true rfl, Nat.le_of_ble_eq_true rfl⟩) ⟨ax_fbR, va_recv hK hP (ci := 11) (q0 := 0) rfl rfl, ax_prR hPc hKc hS hE⟩ rfl rfl hl.1 rfl (lv_room (Nat.le_of_ble_eq_true rfl)) dX7_power_21 ⟨Nat.le_of_ble_eq_true rfl, Nat.le_of_ble_eq_true rfl⟩) hS (fun _ _ h9 => h9.elim) (fun _ h9 => h9.elim) (fun r_22 u_24  t H locs ht hvm hw_23 hB hz1 hk1 hS => ?_)
  have hP := ax_keep hP (fun _ h9 => h9) hk1
  refine ax_l (y := 0) hw_23 ?_
  refine lv_goto (tgt := 34) hx hb dX7_power_24 (by decide) ?_
  refine lv_ladd hx hb dX7_power_34 ?_
  refine ax_l (y := 0) (by decide) ?_
  refine lv_lstore_n (lv' := [(3, .long 0), (5, .int 7), (0, .ref y), (1, .ref ja), (2, .int 1)]) hx hb dX7_power_35 rfl hl (by decide) rfl (fun ls hl => ?_)
  refine lv_iinc (v := 8) (lv' := [(5, .int 8), (3, .long 0), (0, .ref y), (1, .ref ja), (2, .int 1)]) hx hb dX7_power_36 hl (k := 1) rfl (by decide) (by decide) rfl (fun ls hl => ?_)
  refine lv_goto (tgt := 5) hx hb dX7_power_39 (by decide) ?_
  refine lv_iload hx hb dX7_power_5 (lv_at hl 0 rfl) ?_
  refine lv_bipush (v := 8) hx hb dX7_power_7 (by decide) ?_
  refine lv_icmp_ge (tgt := 42) hx hb dX7_power_9 (by decide) (fun _ => ?_) (fun h9 => absurd (by decide) h9)
  refine lv_lload_n hx hb dX7_power_42 rfl (lv_at hl 1 rfl) ?_
  refine W.widen (k := 0) (n := 0) (Nat.le_of_ble_eq_true rfl) (Nat.le_of_ble_eq_true rfl) ?_
  exact W.lret (v := 0) hx hb hr (fun t ht hW => ⟨⟨0, (), rfl, rfl, trivial⟩, hS.F ht⟩) hS.2.2 dX7_power_43

set_option maxHeartbeats 4000000 in
set_option maxRecDepth 100000 in
theorem c_X7_brightest (l : Launch) (dC : Nat → ClassId) (dI : Nat → Nat → Nat) (y ys yp : Nat) (sa ta : Nat → Nat) (th : Int32) (ja : Nat) : Met l yX7_brightest wsX7_brightest ({ frames := 32, cells := 0, slots := 0, locals := 800 }) (va_Pc [.ref y, .ref ja] (ax_R (dC, dI) vwCl [(y, .inr (11, [.int th, .ref ys, .ref yp, .int 0])), (ys, .inr (3, [.int 0, .ref (ta 4), .int 0])), (yp, .inr (3, [.int 0, .ref (ta 4), .int 0]))] [] sa ta)) (va_Qi (fun (r : Int32) (u : Unit) => r = 0) (fun _ _ => True) ax_no) 0 0 ax_no := by
  refine Met.ofW (cc := cX7_brightest) (maxL := 4) (ret := (some .int)) (by decide) rfl ?_
  intro p e s m args below meth c s₁ B hml hv
  obtain ⟨rfl, hP, hK, hE⟩ := hv
  have hx := B.exec
  have hb := B.bytes
  have hr := B.returns
  have hts := atoms_spec (ws := wsX7_brightest) B.pre
  have hown : s.vm.findClass RX7 = some m.cls := findClass_of_methodNamed B.named
  have hlocks := B.notSynchronized
  have hS : va_S ax_no s.heap s.heap [] := va_S.rf
  have hl := lv_entry ([.ref y, .ref ja]) (n := 4) (Nat.le_of_ble_eq_true rfl)
  rw [lg_entry_eq]
  generalize (lg_sl ([.ref y, .ref ja]) ++ List.replicate (4 - (lg_sl ([.ref y, .ref ja])).length) Slot.unset).toArray = ls at hl ⊢
  have hl : lv_has ls 4 [(0, .ref y), (1, .ref ja)] := hl
  have hP : va_P (dC, dI) vwCl [(y, .inr (11, [.int th, .ref ys, .ref yp, .int 0])), (ys, .inr (3, [.int 0, .ref (ta 4), .int 0])), (yp, .inr (3, [.int 0, .ref (ta 4), .int 0]))] s.heap := hP
  refine lv_iconst (v := 0) hx hb dX7_brightest_0 (by decide) ?_
  refine lv_istore_n (lv' := [(2, .int 0), (0, .ref y), (1, .ref ja)]) hx hb dX7_brightest_1 rfl hl (by decide) rfl (fun ls hl => ?_)
  refine lv_iconst (v := 1) hx hb dX7_brightest_2 (by decide) ?_
  refine lv_istore_n (lv' := [(3, .int 1), (2, .int 0), (0, .ref y), (1, .ref ja)]) hx hb dX7_brightest_3 rfl hl (by decide) rfl (fun ls hl => ?_)
  refine lv_iload_n hx hb dX7_brightest_4 rfl (lv_at hl 0 rfl) ?_
  refine lv_bipush (v := 8) hx hb dX7_brightest_5 (by decide) ?_
  refine lv_icmp_ge (tgt := 34) hx hb dX7_brightest_7 (by decide) (fun h9 => absurd h9 (by decide)) (fun _ => ?_)
  refine lv_aload_n hx hb dX7_brightest_10 rfl (lv_at hl 2 rfl) ?_
  refine lv_iload_n hx hb dX7_brightest_11 rfl (lv_at hl 0 rfl) ?_
  refine lv_aload_n hx hb dX7_brightest_12 rfl (lv_at hl 3 rfl) ?_
  have hPc := hP.sub (ws' := [(y, .inr (11, [.int th, .ref ys, .ref yp, .int 0])), (ys, .inr (3, [.int 0, .ref (ta 4), .int 0])), (yp, .inr (3, [.int 0, .ref (ta 4), .int 0]))]) [0, 1, 2] rfl
  have hKc := hK.sub (tys' := []) [] rfl
  refine va_calld (va_runV (As := [.int 1, .ref ja]) (rest := []) ⟨hx, hb, hml, hown, hts⟩ (c_X7_value l dC dI y ys yp sa ta th 1 ja) (cwV 2 hts gX7_brightest_X7_value rfl rfl rfl (by decide +kernel) ⟨Nat.le_of_ble_eq_true rfl, Nat.le_of_ble_eq_true rfl⟩) ⟨ax_fbR, va_recv hK hP (ci := 11) (q0 := 0) rfl rfl, ax_prR hPc hKc hS hE⟩ rfl rfl hl.1 rfl (lv_room (Nat.le_of_ble_eq_true rfl)) dX7_brightest_13 ⟨Nat.le_of_ble_eq_true rfl, Nat.le_of_ble_eq_true rfl⟩) hS (fun _ _ h9 => h9.elim) (fun _ h9 => h9.elim) (fun r_1 u_3  t H locs ht hvm hw_2 hB hz1 hk1 hS => ?_)
  have hP := ax_keep hP (fun _ h9 => h9) hk1
  refine ax_d (y := 0) hw_2 ?_
  refine lv_aload_n hx hb dX7_brightest_16 rfl (lv_at hl 2 rfl) ?_
  refine lv_iload_n hx hb dX7_brightest_17 rfl (lv_at hl 1 rfl) ?_
  refine lv_aload_n hx hb dX7_brightest_18 rfl (lv_at hl 3 rfl) ?_
  have hPc := hP.sub (ws' := [(y, .inr (11, [.int th, .ref ys, .ref yp, .int 0])), (ys, .inr (3, [.int 0, .ref (ta 4), .int 0])), (yp, .inr (3, [.int 0, .ref (ta 4), .int 0]))]) [0, 1, 2] rfl
  have hKc := hK.sub (tys' := []) [] rfl
  refine va_calld (va_runV (As := [.int 0, .ref ja]) (rest := [.double 0]) ⟨hx, hb, hml, hown, hts⟩ (c_X7_value l dC dI y ys yp sa ta th 0 ja) (cwV 2 hts gX7_brightest_X7_value rfl rfl rfl (by decide +kernel) ⟨Nat.le_of_ble_eq_true rfl, Nat.le_of_ble_eq_true rfl⟩) ⟨ax_fbR, va_recv hK hP (ci := 11) (q0 := 0) rfl rfl, ax_prR hPc hKc hS hE⟩ rfl rfl hl.1 rfl (lv_room (Nat.le_of_ble_eq_true rfl)) dX7_brightest_19 ⟨Nat.le_of_ble_eq_true rfl, Nat.le_of_ble_eq_true rfl⟩) hS (fun _ _ h9 => h9.elim) (fun _ h9 => h9.elim) (fun r_4 u_6  t H locs ht hvm hw_5 hB hz1 hk1 hS => ?_)
  have hP := ax_keep hP (fun _ h9 => h9) hk1
  refine ax_d (y := 0) hw_5 ?_
  refine lv_dcmp hx hb dX7_brightest_22 ?_
  refine ax_i (y := 0) (by decide +kernel) ?_
  refine lv_if_le (tgt := 28) hx hb dX7_brightest_23 (by decide) (fun _ => ?_) (fun h9 => absurd (by decide) h9)
  refine lv_iinc (v := 2) (lv' := [(3, .int 2), (2, .int 0), (0, .ref y), (1, .ref ja)]) hx hb dX7_brightest_28 hl (k := 0) rfl (by decide) (by decide) rfl (fun ls hl => ?_)
  refine lv_goto (tgt := 4) hx hb dX7_brightest_31 (by decide) ?_
  refine lv_iload_n hx hb dX7_brightest_4 rfl (lv_at hl 0 rfl) ?_
  refine lv_bipush (v := 8) hx hb dX7_brightest_5 (by decide) ?_
  refine lv_icmp_ge (tgt := 34) hx hb dX7_brightest_7 (by decide) (fun h9 => absurd h9 (by decide)) (fun _ => ?_)
  refine lv_aload_n hx hb dX7_brightest_10 rfl (lv_at hl 2 rfl) ?_
  refine lv_iload_n hx hb dX7_brightest_11 rfl (lv_at hl 0 rfl) ?_
  refine lv_aload_n hx hb dX7_brightest_12 rfl (lv_at hl 3 rfl) ?_
  have hPc := hP.sub (ws' := [(y, .inr (11, [.int th, .ref ys, .ref yp, .int 0])), (ys, .inr (3, [.int 0, .ref (ta 4), .int 0])), (yp, .inr (3, [.int 0, .ref (ta 4), .int 0]))]) [0, 1, 2] rfl
  have hKc := hK.sub (tys' := []) [] rfl
  refine va_calld (va_runV (As := [.int 2, .ref ja]) (rest := []) ⟨hx, hb, hml, hown, hts⟩ (c_X7_value l dC dI y ys yp sa ta th 2 ja) (cwV 2 hts gX7_brightest_X7_value rfl rfl rfl (by decide +kernel) ⟨Nat.le_of_ble_eq_true rfl, Nat.le_of_ble_eq_true rfl⟩) ⟨ax_fbR, va_recv hK hP (ci := 11) (q0 := 0) rfl rfl, ax_prR hPc hKc hS hE⟩ rfl rfl hl.1 rfl (lv_room (Nat.le_of_ble_eq_true rfl)) dX7_brightest_13 ⟨Nat.le_of_ble_eq_true rfl, Nat.le_of_ble_eq_true rfl⟩) hS (fun _ _ h9 => h9.elim) (fun _ h9 => h9.elim) (fun r_7 u_9  t H locs ht hvm hw_8 hB hz1 hk1 hS => ?_)
  have hP := ax_keep hP (fun _ h9 => h9) hk1
  refine ax_d (y := 0) hw_8 ?_
  refine lv_aload_n hx hb dX7_brightest_16 rfl (lv_at hl 2 rfl) ?_
  refine lv_iload_n hx hb dX7_brightest_17 rfl (lv_at hl 1 rfl) ?_
  refine lv_aload_n hx hb dX7_brightest_18 rfl (lv_at hl 3 rfl) ?_
  have hPc := hP.sub (ws' := [(y, .inr (11, [.int th, .ref ys, .ref yp, .int 0])), (ys, .inr (3, [.int 0, .ref (ta 4), .int 0])), (yp, .inr (3, [.int 0, .ref (ta 4), .int 0]))]) [0, 1, 2] rfl
  have hKc := hK.sub (tys' := []) [] rfl
  refine va_calld (va_runV (As := [.int 0, .ref ja]) (rest := [.double 0]) ⟨hx, hb, hml, hown, hts⟩ (c_X7_value l dC dI y ys yp sa ta th 0 ja) (cwV 2 hts gX7_brightest_X7_value rfl rfl rfl (by decide +kernel) ⟨Nat.le_of_ble_eq_true rfl, Nat.le_of_ble_eq_true rfl⟩) ⟨ax_fbR, va_recv hK hP (ci := 11) (q0 := 0) rfl rfl, ax_prR hPc hKc hS hE⟩ rfl rfl hl.1 rfl (lv_room (Nat.le_of_ble_eq_true rfl)) dX7_brightest_19 ⟨Nat.le_of_ble_eq_true rfl, Nat.le_of_ble_eq_true rfl⟩) hS (fun _ _ h9 => h9.elim) (fun _ h9 => h9.elim) (fun r_10 u_12  t H locs ht hvm hw_11 hB hz1 hk1 hS => ?_)
  have hP := ax_keep hP (fun _ h9 => h9) hk1
  refine ax_d (y := 0) hw_11 ?_
  refine lv_dcmp hx hb dX7_brightest_22 ?_
  refine ax_i (y := 0) (by decide +kernel) ?_
  refine lv_if_le (tgt := 28) hx hb dX7_brightest_23 (by decide) (fun _ => ?_) (fun h9 => absurd (by decide) h9)
  refine lv_iinc (v := 3) (lv' := [(3, .int 3), (2, .int 0), (0, .ref y), (1, .ref ja)]) hx hb dX7_brightest_28 hl (k := 0) rfl (by decide) (by decide) rfl (fun ls hl => ?_)
  refine lv_goto (tgt := 4) hx hb dX7_brightest_31 (by decide) ?_
  refine lv_iload_n hx hb dX7_brightest_4 rfl (lv_at hl 0 rfl) ?_
  refine lv_bipush (v := 8) hx hb dX7_brightest_5 (by decide) ?_
  refine lv_icmp_ge (tgt := 34) hx hb dX7_brightest_7 (by decide) (fun h9 => absurd h9 (by decide)) (fun _ => ?_)
  refine lv_aload_n hx hb dX7_brightest_10 rfl (lv_at hl 2 rfl) ?_
  refine lv_iload_n hx hb dX7_brightest_11 rfl (lv_at hl 0 rfl) ?_
  refine lv_aload_n hx hb dX7_brightest_12 rfl (lv_at hl 3 rfl) ?_
  have hPc := hP.sub (ws' := [(y, .inr (11, [.int th, .ref ys, .ref yp, .int 0])), (ys, .inr (3, [.int 0, .ref (ta 4), .int 0])), (yp, .inr (3, [.int 0, .ref (ta 4), .int 0]))]) [0, 1, 2] rfl
  have hKc := hK.sub (tys' := []) [] rfl
  refine va_calld (va_runV (As := [.int 3, .ref ja]) (rest := []) ⟨hx, hb, hml, hown, hts⟩ (c_X7_value l dC dI y ys yp sa ta th 3 ja) (cwV 2 hts gX7_brightest_X7_value rfl rfl rfl (by decide +kernel) ⟨Nat.le_of_ble_eq_true rfl, Nat.le_of_ble_eq_true rfl⟩) ⟨ax_fbR, va_recv hK hP (ci := 11) (q0 := 0) rfl rfl, ax_prR hPc hKc hS hE⟩ rfl rfl hl.1 rfl (lv_room (Nat.le_of_ble_eq_true rfl)) dX7_brightest_13 ⟨Nat.le_of_ble_eq_true rfl, Nat.le_of_ble_eq_true rfl⟩) hS (fun _ _ h9 => h9.elim) (fun _ h9 => h9.elim) (fun r_13 u_15  t H locs ht hvm hw_14 hB hz1 hk1 hS => ?_)
  have hP := ax_keep hP (fun _ h9 => h9) hk1
  refine ax_d (y := 0) hw_14 ?_
  refine lv_aload_n hx hb dX7_brightest_16 rfl (lv_at hl 2 rfl) ?_
  refine lv_iload_n hx hb dX7_brightest_17 rfl (lv_at hl 1 rfl) ?_
  refine lv_aload_n hx hb dX7_brightest_18 rfl (lv_at hl 3 rfl) ?_
  have hPc := hP.sub (ws' := [(y, .inr (11, [.int th, .ref ys, .ref yp, .int 0])), (ys, .inr (3, [.int 0, .ref (ta 4), .int 0])), (yp, .inr (3, [.int 0, .ref (ta 4), .int 0]))]) [0, 1, 2] rfl
  have hKc := hK.sub (tys' := []) [] rfl
  refine va_calld (va_runV (As := [.int 0, .ref ja]) (rest := [.double 0]) ⟨hx, hb, hml, hown, hts⟩ (c_X7_value l dC dI y ys yp sa ta th 0 ja) (cwV 2 hts gX7_brightest_X7_value rfl rfl rfl (by decide +kernel) ⟨Nat.le_of_ble_eq_true rfl, Nat.le_of_ble_eq_true rfl⟩) ⟨ax_fbR, va_recv hK hP (ci := 11) (q0 := 0) rfl rfl, ax_prR hPc hKc hS hE⟩ rfl rfl hl.1 rfl (lv_room (Nat.le_of_ble_eq_true rfl)) dX7_brightest_19 ⟨Nat.le_of_ble_eq_true rfl, Nat.le_of_ble_eq_true rfl⟩) hS (fun _ _ h9 => h9.elim) (fun _ h9 => h9.elim) (fun r_16 u_18  t H locs ht hvm hw_17 hB hz1 hk1 hS => ?_)
  have hP := ax_keep hP (fun _ h9 => h9) hk1
  refine ax_d (y := 0) hw_17 ?_
  refine lv_dcmp hx hb dX7_brightest_22 ?_
  refine ax_i (y := 0) (by decide +kernel) ?_
  refine lv_if_le (tgt := 28) hx hb dX7_brightest_23 (by decide) (fun _ => ?_) (fun h9 => absurd (by decide) h9)
  refine lv_iinc (v := 4) (lv' := [(3, .int 4), (2, .int 0), (0, .ref y), (1, .ref ja)]) hx hb dX7_brightest_28 hl (k := 0) rfl (by decide) (by decide) rfl (fun ls hl => ?_)
  refine lv_goto (tgt := 4) hx hb dX7_brightest_31 (by decide) ?_
  refine lv_iload_n hx hb dX7_brightest_4 rfl (lv_at hl 0 rfl) ?_
  refine lv_bipush (v := 8) hx hb dX7_brightest_5 (by decide) ?_
  refine lv_icmp_ge (tgt := 34) hx hb dX7_brightest_7 (by decide) (fun h9 => absurd h9 (by decide)) (fun _ => ?_)
  refine lv_aload_n hx hb dX7_brightest_10 rfl (lv_at hl 2 rfl) ?_
  refine lv_iload_n hx hb dX7_brightest_11 rfl (lv_at hl 0 rfl) ?_
  refine lv_aload_n hx hb dX7_brightest_12 rfl (lv_at hl 3 rfl) ?_
  have hPc := hP.sub (ws' := [(y, .inr (11, [.int th, .ref ys, .ref yp, .int 0])), (ys, .inr (3, [.int 0, .ref (ta 4), .int 0])), (yp, .inr (3, [.int 0, .ref (ta 4), .int 0]))]) [0, 1, 2] rfl
  have hKc := hK.sub (tys' := []) [] rfl
  refine va_calld (va_runV (As := [.int 4, .ref ja]) (rest := []) ⟨hx, hb, hml, hown, hts⟩ (c_X7_value l dC dI y ys yp sa ta th 4 ja) (cwV 2 hts gX7_brightest_X7_value rfl rfl rfl (by decide +kernel) ⟨Nat.le_of_ble_eq_true rfl, Nat.le_of_ble_eq_true rfl⟩) ⟨ax_fbR, va_recv hK hP (ci := 11) (q0 := 0) rfl rfl, ax_prR hPc hKc hS hE⟩ rfl rfl hl.1 rfl (lv_room (Nat.le_of_ble_eq_true rfl)) dX7_brightest_13 ⟨Nat.le_of_ble_eq_true rfl, Nat.le_of_ble_eq_true rfl⟩) hS (fun _ _ h9 => h9.elim) (fun _ h9 => h9.elim) (fun r_19 u_21  t H locs ht hvm hw_20 hB hz1 hk1 hS => ?_)
  have hP := ax_keep hP (fun _ h9 => h9) hk1
  refine ax_d (y := 0) hw_20 ?_
  refine lv_aload_n hx hb dX7_brightest_16 rfl (lv_at hl 2 rfl) ?_
  refine lv_iload_n hx hb dX7_brightest_17 rfl (lv_at hl 1 rfl) ?_
  refine lv_aload_n hx hb dX7_brightest_18 rfl (lv_at hl 3 rfl) ?_
  have hPc := hP.sub (ws' := [(y, .inr (11, [.int th, .ref ys, .ref yp, .int 0])), (ys, .inr (3, [.int 0, .ref (ta 4), .int 0])), (yp, .inr (3, [.int 0, .ref (ta 4), .int 0]))]) [0, 1, 2] rfl
  have hKc := hK.sub (tys' := []) [] rfl
  refine va_calld (va_runV (As := [.int 0, .ref ja]) (rest := [.double 0]) ⟨hx, hb, hml, hown, hts⟩ (c_X7_value l dC dI y ys yp sa ta th 0 ja) (cwV 2 hts gX7_brightest_X7_value rfl rfl rfl (by decide +kernel) ⟨Nat.le_of_ble_eq_true rfl, Nat.le_of_ble_eq_true rfl⟩) ⟨ax_fbR, va_recv hK hP (ci := 11) (q0 := 0) rfl rfl, ax_prR hPc hKc hS hE⟩ rfl rfl hl.1 rfl (lv_room (Nat.le_of_ble_eq_true rfl)) dX7_brightest_19 ⟨Nat.le_of_ble_eq_true rfl, Nat.le_of_ble_eq_true rfl⟩) hS (fun _ _ h9 => h9.elim) (fun _ h9 => h9.elim) (fun r_22 u_24  t H locs ht hvm hw_23 hB hz1 hk1 hS => ?_)
  have hP := ax_keep hP (fun _ h9 => h9) hk1
  refine ax_d (y := 0) hw_23 ?_
  refine lv_dcmp hx hb dX7_brightest_22 ?_
  refine ax_i (y := 0) (by decide +kernel) ?_
  refine lv_if_le (tgt := 28) hx hb dX7_brightest_23 (by decide) (fun _ => ?_) (fun h9 => absurd (by decide) h9)
  refine lv_iinc (v := 5) (lv' := [(3, .int 5), (2, .int 0), (0, .ref y), (1, .ref ja)]) hx hb dX7_brightest_28 hl (k := 0) rfl (by decide) (by decide) rfl (fun ls hl => ?_)
  refine lv_goto (tgt := 4) hx hb dX7_brightest_31 (by decide) ?_
  refine lv_iload_n hx hb dX7_brightest_4 rfl (lv_at hl 0 rfl) ?_
  refine lv_bipush (v := 8) hx hb dX7_brightest_5 (by decide) ?_
  refine lv_icmp_ge (tgt := 34) hx hb dX7_brightest_7 (by decide) (fun h9 => absurd h9 (by decide)) (fun _ => ?_)
  refine lv_aload_n hx hb dX7_brightest_10 rfl (lv_at hl 2 rfl) ?_
  refine lv_iload_n hx hb dX7_brightest_11 rfl (lv_at hl 0 rfl) ?_
  refine lv_aload_n hx hb dX7_brightest_12 rfl (lv_at hl 3 rfl) ?_
  have hPc := hP.sub (ws' := [(y, .inr (11, [.int th, .ref ys, .ref yp, .int 0])), (ys, .inr (3, [.int 0, .ref (ta 4), .int 0])), (yp, .inr (3, [.int 0, .ref (ta 4), .int 0]))]) [0, 1, 2] rfl
  have hKc := hK.sub (tys' := []) [] rfl
  refine va_calld (va_runV (As := [.int 5, .ref ja]) (rest := []) ⟨hx, hb, hml, hown, hts⟩ (c_X7_value l dC dI y ys yp sa ta th 5 ja) (cwV 2 hts gX7_brightest_X7_value rfl rfl rfl (by decide +kernel) ⟨Nat.le_of_ble_eq_true rfl, Nat.le_of_ble_eq_true rfl⟩) ⟨ax_fbR, va_recv hK hP (ci := 11) (q0 := 0) rfl rfl, ax_prR hPc hKc hS hE⟩ rfl rfl hl.1 rfl (lv_room (Nat.le_of_ble_eq_true rfl)) dX7_brightest_13 ⟨Nat.le_of_ble_eq_true rfl, Nat.le_of_ble_eq_true rfl⟩) hS (fun _ _ h9 => h9.elim) (fun _ h9 => h9.elim) (fun r_25 u_27  t H locs ht hvm hw_26 hB hz1 hk1 hS => ?_)
  have hP := ax_keep hP (fun _ h9 => h9) hk1
  refine ax_d (y := 0) hw_26 ?_
  refine lv_aload_n hx hb dX7_brightest_16 rfl (lv_at hl 2 rfl) ?_
  refine lv_iload_n hx hb dX7_brightest_17 rfl (lv_at hl 1 rfl) ?_
  refine lv_aload_n hx hb dX7_brightest_18 rfl (lv_at hl 3 rfl) ?_
  have hPc := hP.sub (ws' := [(y, .inr (11, [.int th, .ref ys, .ref yp, .int 0])), (ys, .inr (3, [.int 0, .ref (ta 4), .int 0])), (yp, .inr (3, [.int 0, .ref (ta 4), .int 0]))]) [0, 1, 2] rfl
  have hKc := hK.sub (tys' := []) [] rfl
  refine va_calld (va_runV (As := [.int 0, .ref ja]) (rest := [.double 0]) ⟨hx, hb, hml, hown, hts⟩ (c_X7_value l dC dI y ys yp sa ta th 0 ja) (cwV 2 hts gX7_brightest_X7_value rfl rfl rfl (by decide +kernel) ⟨Nat.le_of_ble_eq_true rfl, Nat.le_of_ble_eq_true rfl⟩) ⟨ax_fbR, va_recv hK hP (ci := 11) (q0 := 0) rfl rfl, ax_prR hPc hKc hS hE⟩ rfl rfl hl.1 rfl (lv_room (Nat.le_of_ble_eq_true rfl)) dX7_brightest_19 ⟨Nat.le_of_ble_eq_true rfl, Nat.le_of_ble_eq_true rfl⟩) hS (fun _ _ h9 => h9.elim) (fun _ h9 => h9.elim) (fun r_28 u_30  t H locs ht hvm hw_29 hB hz1 hk1 hS => ?_)
  have hP := ax_keep hP (fun _ h9 => h9) hk1
  refine ax_d (y := 0) hw_29 ?_
  refine lv_dcmp hx hb dX7_brightest_22 ?_
  refine ax_i (y := 0) (by decide +kernel) ?_
  refine lv_if_le (tgt := 28) hx hb dX7_brightest_23 (by decide) (fun _ => ?_) (fun h9 => absurd (by decide) h9)
  refine lv_iinc (v := 6) (lv' := [(3, .int 6), (2, .int 0), (0, .ref y), (1, .ref ja)]) hx hb dX7_brightest_28 hl (k := 0) rfl (by decide) (by decide) rfl (fun ls hl => ?_)
  refine lv_goto (tgt := 4) hx hb dX7_brightest_31 (by decide) ?_
  refine lv_iload_n hx hb dX7_brightest_4 rfl (lv_at hl 0 rfl) ?_
  refine lv_bipush (v := 8) hx hb dX7_brightest_5 (by decide) ?_
  refine lv_icmp_ge (tgt := 34) hx hb dX7_brightest_7 (by decide) (fun h9 => absurd h9 (by decide)) (fun _ => ?_)
  refine lv_aload_n hx hb dX7_brightest_10 rfl (lv_at hl 2 rfl) ?_
  refine lv_iload_n hx hb dX7_brightest_11 rfl (lv_at hl 0 rfl) ?_
  refine lv_aload_n hx hb dX7_brightest_12 rfl (lv_at hl 3 rfl) ?_
  have hPc := hP.sub (ws' := [(y, .inr (11, [.int th, .ref ys, .ref yp, .int 0])), (ys, .inr (3, [.int 0, .ref (ta 4), .int 0])), (yp, .inr (3, [.int 0, .ref (ta 4), .int 0]))]) [0, 1, 2] rfl
  have hKc := hK.sub (tys' := []) [] rfl
  refine va_calld (va_runV (As := [.int 6, .ref ja]) (rest := []) ⟨hx, hb, hml, hown, hts⟩ (c_X7_value l dC dI y ys yp sa ta th 6 ja) (cwV 2 hts gX7_brightest_X7_value rfl rfl rfl (by decide +kernel) ⟨Nat.le_of_ble_eq_true rfl, Nat.le_of_ble_eq_true rfl⟩) ⟨ax_fbR, va_recv hK hP (ci := 11) (q0 := 0) rfl rfl, ax_prR hPc hKc hS hE⟩ rfl rfl hl.1 rfl (lv_room (Nat.le_of_ble_eq_true rfl)) dX7_brightest_13 ⟨Nat.le_of_ble_eq_true rfl, Nat.le_of_ble_eq_true rfl⟩) hS (fun _ _ h9 => h9.elim) (fun _ h9 => h9.elim) (fun r_31 u_33  t H locs ht hvm hw_32 hB hz1 hk1 hS => ?_)
  have hP := ax_keep hP (fun _ h9 => h9) hk1
  refine ax_d (y := 0) hw_32 ?_
  refine lv_aload_n hx hb dX7_brightest_16 rfl (lv_at hl 2 rfl) ?_
  refine lv_iload_n hx hb dX7_brightest_17 rfl (lv_at hl 1 rfl) ?_
  refine lv_aload_n hx hb dX7_brightest_18 rfl (lv_at hl 3 rfl) ?_
  have hPc := hP.sub (ws' := [(y, .inr (11, [.int th, .ref ys, .ref yp, .int 0])), (ys, .inr (3, [.int 0, .ref (ta 4), .int 0])), (yp, .inr (3, [.int 0, .ref (ta 4), .int 0]))]) [0, 1, 2] rfl
  have hKc := hK.sub (tys' := []) [] rfl
  refine va_calld (va_runV (As := [.int 0, .ref ja]) (rest := [.double 0]) ⟨hx, hb, hml, hown, hts⟩ (c_X7_value l dC dI y ys yp sa ta th 0 ja) (cwV 2 hts gX7_brightest_X7_value rfl rfl rfl (by decide +kernel) ⟨Nat.le_of_ble_eq_true rfl, Nat.le_of_ble_eq_true rfl⟩) ⟨ax_fbR, va_recv hK hP (ci := 11) (q0 := 0) rfl rfl, ax_prR hPc hKc hS hE⟩ rfl rfl hl.1 rfl (lv_room (Nat.le_of_ble_eq_true rfl)) dX7_brightest_19 ⟨Nat.le_of_ble_eq_true rfl, Nat.le_of_ble_eq_true rfl⟩) hS (fun _ _ h9 => h9.elim) (fun _ h9 => h9.elim) (fun r_34 u_36  t H locs ht hvm hw_35 hB hz1 hk1 hS => ?_)
  have hP := ax_keep hP (fun _ h9 => h9) hk1
  refine ax_d (y := 0) hw_35 ?_
  refine lv_dcmp hx hb dX7_brightest_22 ?_
  refine ax_i (y := 0) (by decide +kernel) ?_
  refine lv_if_le (tgt := 28) hx hb dX7_brightest_23 (by decide) (fun _ => ?_) (fun h9 => absurd (by decide) h9)
  refine lv_iinc (v := 7) (lv' := [(3, .int 7), (2, .int 0), (0, .ref y), (1, .ref ja)]) hx hb dX7_brightest_28 hl (k := 0) rfl (by decide) (by decide) rfl (fun ls hl => ?_)
  refine lv_goto (tgt := 4) hx hb dX7_brightest_31 (by decide) ?_
  refine lv_iload_n hx hb dX7_brightest_4 rfl (lv_at hl 0 rfl) ?_
  refine lv_bipush (v := 8) hx hb dX7_brightest_5 (by decide) ?_
  refine lv_icmp_ge (tgt := 34) hx hb dX7_brightest_7 (by decide) (fun h9 => absurd h9 (by decide)) (fun _ => ?_)
  refine lv_aload_n hx hb dX7_brightest_10 rfl (lv_at hl 2 rfl) ?_
  refine lv_iload_n hx hb dX7_brightest_11 rfl (lv_at hl 0 rfl) ?_
  refine lv_aload_n hx hb dX7_brightest_12 rfl (lv_at hl 3 rfl) ?_
  have hPc := hP.sub (ws' := [(y, .inr (11, [.int th, .ref ys, .ref yp, .int 0])), (ys, .inr (3, [.int 0, .ref (ta 4), .int 0])), (yp, .inr (3, [.int 0, .ref (ta 4), .int 0]))]) [0, 1, 2] rfl
  have hKc := hK.sub (tys' := []) [] rfl
  refine va_calld (va_runV (As := [.int 7, .ref ja]) (rest := []) ⟨hx, hb, hml, hown, hts⟩ (c_X7_value l dC dI y ys yp sa ta th 7 ja) (cwV 2 hts gX7_brightest_X7_value rfl rfl rfl (by decide +kernel) ⟨Nat.le_of_ble_eq_true rfl, Nat.le_of_ble_eq_true rfl⟩) ⟨ax_fbR, va_recv hK hP (ci := 11) (q0 := 0) rfl rfl, ax_prR hPc hKc hS hE⟩ rfl rfl hl.1 rfl (lv_room (Nat.le_of_ble_eq_true rfl)) dX7_brightest_13 ⟨Nat.le_of_ble_eq_true rfl, Nat.le_of_ble_eq_true rfl⟩) hS (fun _ _ h9 => h9.elim) (fun _ h9 => h9.elim) (fun r_37 u_39  t H locs ht hvm hw_38 hB hz1 hk1 hS => ?_)
  have hP := ax_keep hP (fun _ h9 => h9) hk1
  refine ax_d (y := 0) hw_38 ?_
  refine lv_aload_n hx hb dX7_brightest_16 rfl (lv_at hl 2 rfl) ?_
  refine lv_iload_n hx hb dX7_brightest_17 rfl (lv_at hl 1 rfl) ?_
  refine lv_aload_n hx hb dX7_brightest_18 rfl (lv_at hl 3 rfl) ?_
  have hPc := hP.sub (ws' := [(y, .inr (11, [.int th, .ref ys, .ref yp, .int 0])), (ys, .inr (3, [.int 0, .ref (ta 4), .int 0])), (yp, .inr (3, [.int 0, .ref (ta 4), .int 0]))]) [0, 1, 2] rfl
  have hKc := hK.sub (tys' := []) [] rfl
  refine va_calld (va_runV (As := [.int 0, .ref ja]) (rest := [.double 0]) ⟨hx, hb, hml, hown, hts⟩ (c_X7_value l dC dI y ys yp sa ta th 0 ja) (cwV 2 hts gX7_brightest_X7_value rfl rfl rfl (by decide +kernel) ⟨Nat.le_of_ble_eq_true rfl, Nat.le_of_ble_eq_true rfl⟩) ⟨ax_fbR, va_recv hK hP (ci := 11) (q0 := 0) rfl rfl, ax_prR hPc hKc hS hE⟩ rfl rfl hl.1 rfl (lv_room (Nat.le_of_ble_eq_true rfl)) dX7_brightest_19 ⟨Nat.le_of_ble_eq_true rfl, Nat.le_of_ble_eq_true rfl⟩) hS (fun _ _ h9 => h9.elim) (fun _ h9 => h9.elim) (fun r_40 u_42  t H locs ht hvm hw_41 hB hz1 hk1 hS => ?_)
  have hP := ax_keep hP (fun _ h9 => h9) hk1
  refine ax_d (y := 0) hw_41 ?_
  refine lv_dcmp hx hb dX7_brightest_22 ?_
  refine ax_i (y := 0) (by decide +kernel) ?_
  refine lv_if_le (tgt := 28) hx hb dX7_brightest_23 (by decide) (fun _ => ?_) (fun h9 => absurd (by decide) h9)
  refine lv_iinc (v := 8) (lv' := [(3, .int 8), (2, .int 0), (0, .ref y), (1, .ref ja)]) hx hb dX7_brightest_28 hl (k := 0) rfl (by decide) (by decide) rfl (fun ls hl => ?_)
  refine lv_goto (tgt := 4) hx hb dX7_brightest_31 (by decide) ?_
  refine lv_iload_n hx hb dX7_brightest_4 rfl (lv_at hl 0 rfl) ?_
  refine lv_bipush (v := 8) hx hb dX7_brightest_5 (by decide) ?_
  refine lv_icmp_ge (tgt := 34) hx hb dX7_brightest_7 (by decide) (fun _ => ?_) (fun h9 => absurd (by decide) h9)
  refine lv_iload_n hx hb dX7_brightest_34 rfl (lv_at hl 1 rfl) ?_
  refine W.widen (k := 0) (n := 0) (Nat.le_of_ble_eq_true rfl) (Nat.le_of_ble_eq_true rfl) ?_
  exact W.iret (v := 0) hx hb hr (fun t ht hW => ⟨⟨0, (), rfl, rfl, trivial⟩, hS.F ht⟩) hS.2.2 dX7_brightest_35

set_option maxHeartbeats 4000000 in
set_option maxRecDepth 100000 in
theorem c_X7_dark (l : Launch) (dC : Nat → ClassId) (dI : Nat → Nat → Nat) (y ys yp : Nat) (sa ta : Nat → Nat) (th : Int32) (ja : Nat) : Met l yX7_dark wsX7_dark ({ frames := 24, cells := 0, slots := 0, locals := 600 }) (va_Pc [.ref y, .ref ja] (ax_R (dC, dI) vwCl [(y, .inr (11, [.int th, .ref ys, .ref yp, .int 0])), (ys, .inr (3, [.int 0, .ref (ta 4), .int 0])), (yp, .inr (3, [.int 0, .ref (ta 4), .int 0]))] [] sa ta)) (va_Qi (fun (r : Int32) (u : Unit) => r = 255) (fun _ _ => True) ax_no) 0 0 ax_no := by
  refine Met.ofW (cc := cX7_dark) (maxL := 4) (ret := (some .int)) (by decide) rfl ?_
  intro p e s m args below meth c s₁ B hml hv
  obtain ⟨rfl, hP, hK, hE⟩ := hv
  have hx := B.exec
  have hb := B.bytes
  have hr := B.returns
  have hts := atoms_spec (ws := wsX7_dark) B.pre
  have hown : s.vm.findClass RX7 = some m.cls := findClass_of_methodNamed B.named
  have hlocks := B.notSynchronized
  have hS : va_S ax_no s.heap s.heap [] := va_S.rf
  have hl := lv_entry ([.ref y, .ref ja]) (n := 4) (Nat.le_of_ble_eq_true rfl)
  rw [lg_entry_eq]
  generalize (lg_sl ([.ref y, .ref ja]) ++ List.replicate (4 - (lg_sl ([.ref y, .ref ja])).length) Slot.unset).toArray = ls at hl ⊢
  have hl : lv_has ls 4 [(0, .ref y), (1, .ref ja)] := hl
  have hP : va_P (dC, dI) vwCl [(y, .inr (11, [.int th, .ref ys, .ref yp, .int 0])), (ys, .inr (3, [.int 0, .ref (ta 4), .int 0])), (yp, .inr (3, [.int 0, .ref (ta 4), .int 0]))] s.heap := hP
  refine lv_iconst (v := 0) hx hb dX7_dark_0 (by decide) ?_
  refine lv_istore_n (lv' := [(2, .int 0), (0, .ref y), (1, .ref ja)]) hx hb dX7_dark_1 rfl hl (by decide) rfl (fun ls hl => ?_)
  refine lv_iconst (v := 0) hx hb dX7_dark_2 (by decide) ?_
  refine lv_istore_n (lv' := [(3, .int 0), (2, .int 0), (0, .ref y), (1, .ref ja)]) hx hb dX7_dark_3 rfl hl (by decide) rfl (fun ls hl => ?_)
  refine lv_iload_n hx hb dX7_dark_4 rfl (lv_at hl 0 rfl) ?_
  refine lv_bipush (v := 8) hx hb dX7_dark_5 (by decide) ?_
  refine lv_icmp_ge (tgt := 48) hx hb dX7_dark_7 (by decide) (fun h9 => absurd h9 (by decide)) (fun _ => ?_)
  refine lv_iload_n hx hb dX7_dark_10 rfl (lv_at hl 1 rfl) ?_
  refine lv_aload_n hx hb dX7_dark_11 rfl (lv_at hl 2 rfl) ?_
  refine lv_iload_n hx hb dX7_dark_12 rfl (lv_at hl 0 rfl) ?_
  refine lv_aload_n hx hb dX7_dark_13 rfl (lv_at hl 3 rfl) ?_
  have hPc := hP.sub (ws' := [(y, .inr (11, [.int th, .ref ys, .ref yp, .int 0])), (ys, .inr (3, [.int 0, .ref (ta 4), .int 0])), (yp, .inr (3, [.int 0, .ref (ta 4), .int 0]))]) [0, 1, 2] rfl
  have hKc := hK.sub (tys' := []) [] rfl
  refine va_calll (va_runV (As := [.int 0, .ref ja]) (rest := [.int 0]) ⟨hx, hb, hml, hown, hts⟩ (c_X7_whole_ l dC dI y ys yp sa ta th 0 ja) (cwV 2 hts gX7_dark_X7_whole_ rfl rfl rfl (by decide +kernel) ⟨Nat.le_of_ble_eq_true rfl, Nat.le_of_ble_eq_true rfl⟩) ⟨ax_fbR, va_recv hK hP (ci := 11) (q0 := 0) rfl rfl, ax_prR hPc hKc hS hE⟩ rfl rfl hl.1 rfl (lv_room (Nat.le_of_ble_eq_true rfl)) dX7_dark_14 ⟨Nat.le_of_ble_eq_true rfl, Nat.le_of_ble_eq_true rfl⟩) hS (fun _ _ h9 => h9.elim) (fun _ h9 => h9.elim) (fun r_1 u_3  t H locs ht hvm hw_2 hB hz1 hk1 hS => ?_)
  have hP := ax_keep hP (fun _ h9 => h9) hk1
  refine ax_l (y := 0) hw_2 ?_
  refine lv_lconst (v := 0) hx hb dX7_dark_17 (by decide) ?_
  refine W.lcmp hx hb dX7_dark_18 ?_
  refine ax_i (y := 0) (by decide) ?_
  refine lv_if_ne (tgt := 39) hx hb dX7_dark_19 (by decide) (fun h9 => absurd rfl h9) (fun _ => ?_)
  refine lv_aload_n hx hb dX7_dark_22 rfl (lv_at hl 2 rfl) ?_
  refine lv_iload_n hx hb dX7_dark_23 rfl (lv_at hl 0 rfl) ?_
  refine lv_aload_n hx hb dX7_dark_24 rfl (lv_at hl 3 rfl) ?_
  have hPc := hP.sub (ws' := [(y, .inr (11, [.int th, .ref ys, .ref yp, .int 0])), (ys, .inr (3, [.int 0, .ref (ta 4), .int 0])), (yp, .inr (3, [.int 0, .ref (ta 4), .int 0]))]) [0, 1, 2] rfl
  have hKc := hK.sub (tys' := []) [] rfl
  refine va_calll (va_runV (As := [.int 0, .ref ja]) (rest := [.int 0]) ⟨hx, hb, hml, hown, hts⟩ (c_X7_root_ l dC dI y ys yp sa ta th 0 ja) (cwV 2 hts gX7_dark_X7_root_ rfl rfl rfl (by decide +kernel) ⟨Nat.le_of_ble_eq_true rfl, Nat.le_of_ble_eq_true rfl⟩) ⟨ax_fbR, va_recv hK hP (ci := 11) (q0 := 0) rfl rfl, ax_prR hPc hKc hS hE⟩ rfl rfl hl.1 rfl (lv_room (Nat.le_of_ble_eq_true rfl)) dX7_dark_25 ⟨Nat.le_of_ble_eq_true rfl, Nat.le_of_ble_eq_true rfl⟩) hS (fun _ _ h9 => h9.elim) (fun _ h9 => h9.elim) (fun r_4 u_6  t H locs ht hvm hw_5 hB hz1 hk1 hS => ?_)
  have hP := ax_keep hP (fun _ h9 => h9) hk1
  refine ax_l (y := 0) hw_5 ?_
  refine lv_lconst (v := 0) hx hb dX7_dark_28 (by decide) ?_
  refine W.lcmp hx hb dX7_dark_29 ?_
  refine ax_i (y := 0) (by decide) ?_
  refine lv_if_ne (tgt := 39) hx hb dX7_dark_30 (by decide) (fun h9 => absurd rfl h9) (fun _ => ?_)
  refine lv_iconst (v := 1) hx hb dX7_dark_33 (by decide) ?_
  refine lv_iload_n hx hb dX7_dark_34 rfl (lv_at hl 0 rfl) ?_
  refine lv_ishl hx hb dX7_dark_35 ?_
  refine ax_i (y := 1) (by decide) ?_
  refine lv_goto (tgt := 40) hx hb dX7_dark_36 (by decide) ?_
  refine lv_ior hx hb dX7_dark_40 ?_
  refine ax_i (y := 1) (by decide) ?_
  refine lv_istore_n (lv' := [(2, .int 1), (3, .int 0), (0, .ref y), (1, .ref ja)]) hx hb dX7_dark_41 rfl hl (by decide) rfl (fun ls hl => ?_)
  refine lv_iinc (v := 1) (lv' := [(3, .int 1), (2, .int 1), (0, .ref y), (1, .ref ja)]) hx hb dX7_dark_42 hl (k := 1) rfl (by decide) (by decide) rfl (fun ls hl => ?_)
  refine lv_goto (tgt := 4) hx hb dX7_dark_45 (by decide) ?_
  refine lv_iload_n hx hb dX7_dark_4 rfl (lv_at hl 0 rfl) ?_
  refine lv_bipush (v := 8) hx hb dX7_dark_5 (by decide) ?_
  refine lv_icmp_ge (tgt := 48) hx hb dX7_dark_7 (by decide) (fun h9 => absurd h9 (by decide)) (fun _ => ?_)
  refine lv_iload_n hx hb dX7_dark_10 rfl (lv_at hl 1 rfl) ?_
  refine lv_aload_n hx hb dX7_dark_11 rfl (lv_at hl 2 rfl) ?_
  refine lv_iload_n hx hb dX7_dark_12 rfl (lv_at hl 0 rfl) ?_
  refine lv_aload_n hx hb dX7_dark_13 rfl (lv_at hl 3 rfl) ?_
  have hPc := hP.sub (ws' := [(y, .inr (11, [.int th, .ref ys, .ref yp, .int 0])), (ys, .inr (3, [.int 0, .ref (ta 4), .int 0])), (yp, .inr (3, [.int 0, .ref (ta 4), .int 0]))]) [0, 1, 2] rfl
  have hKc := hK.sub (tys' := []) [] rfl
  refine va_calll (va_runV (As := [.int 1, .ref ja]) (rest := [.int 1]) ⟨hx, hb, hml, hown, hts⟩ (c_X7_whole_ l dC dI y ys yp sa ta th 1 ja) (cwV 2 hts gX7_dark_X7_whole_ rfl rfl rfl (by decide +kernel) ⟨Nat.le_of_ble_eq_true rfl, Nat.le_of_ble_eq_true rfl⟩) ⟨ax_fbR, va_recv hK hP (ci := 11) (q0 := 0) rfl rfl, ax_prR hPc hKc hS hE⟩ rfl rfl hl.1 rfl (lv_room (Nat.le_of_ble_eq_true rfl)) dX7_dark_14 ⟨Nat.le_of_ble_eq_true rfl, Nat.le_of_ble_eq_true rfl⟩) hS (fun _ _ h9 => h9.elim) (fun _ h9 => h9.elim) (fun r_7 u_9  t H locs ht hvm hw_8 hB hz1 hk1 hS => ?_)
  have hP := ax_keep hP (fun _ h9 => h9) hk1
  refine ax_l (y := 0) hw_8 ?_
  refine lv_lconst (v := 0) hx hb dX7_dark_17 (by decide) ?_
  refine W.lcmp hx hb dX7_dark_18 ?_
  refine ax_i (y := 0) (by decide) ?_
  refine lv_if_ne (tgt := 39) hx hb dX7_dark_19 (by decide) (fun h9 => absurd rfl h9) (fun _ => ?_)
  refine lv_aload_n hx hb dX7_dark_22 rfl (lv_at hl 2 rfl) ?_
  refine lv_iload_n hx hb dX7_dark_23 rfl (lv_at hl 0 rfl) ?_
  refine lv_aload_n hx hb dX7_dark_24 rfl (lv_at hl 3 rfl) ?_
  have hPc := hP.sub (ws' := [(y, .inr (11, [.int th, .ref ys, .ref yp, .int 0])), (ys, .inr (3, [.int 0, .ref (ta 4), .int 0])), (yp, .inr (3, [.int 0, .ref (ta 4), .int 0]))]) [0, 1, 2] rfl
  have hKc := hK.sub (tys' := []) [] rfl
  refine va_calll (va_runV (As := [.int 1, .ref ja]) (rest := [.int 1]) ⟨hx, hb, hml, hown, hts⟩ (c_X7_root_ l dC dI y ys yp sa ta th 1 ja) (cwV 2 hts gX7_dark_X7_root_ rfl rfl rfl (by decide +kernel) ⟨Nat.le_of_ble_eq_true rfl, Nat.le_of_ble_eq_true rfl⟩) ⟨ax_fbR, va_recv hK hP (ci := 11) (q0 := 0) rfl rfl, ax_prR hPc hKc hS hE⟩ rfl rfl hl.1 rfl (lv_room (Nat.le_of_ble_eq_true rfl)) dX7_dark_25 ⟨Nat.le_of_ble_eq_true rfl, Nat.le_of_ble_eq_true rfl⟩) hS (fun _ _ h9 => h9.elim) (fun _ h9 => h9.elim) (fun r_10 u_12  t H locs ht hvm hw_11 hB hz1 hk1 hS => ?_)
  have hP := ax_keep hP (fun _ h9 => h9) hk1
  refine ax_l (y := 0) hw_11 ?_
  refine lv_lconst (v := 0) hx hb dX7_dark_28 (by decide) ?_
  refine W.lcmp hx hb dX7_dark_29 ?_
  refine ax_i (y := 0) (by decide) ?_
  refine lv_if_ne (tgt := 39) hx hb dX7_dark_30 (by decide) (fun h9 => absurd rfl h9) (fun _ => ?_)
  refine lv_iconst (v := 1) hx hb dX7_dark_33 (by decide) ?_
  refine lv_iload_n hx hb dX7_dark_34 rfl (lv_at hl 0 rfl) ?_
  refine lv_ishl hx hb dX7_dark_35 ?_
  refine ax_i (y := 2) (by decide) ?_
  refine lv_goto (tgt := 40) hx hb dX7_dark_36 (by decide) ?_
  refine lv_ior hx hb dX7_dark_40 ?_
  refine ax_i (y := 3) (by decide) ?_
  refine lv_istore_n (lv' := [(2, .int 3), (3, .int 1), (0, .ref y), (1, .ref ja)]) hx hb dX7_dark_41 rfl hl (by decide) rfl (fun ls hl => ?_)
  refine lv_iinc (v := 2) (lv' := [(3, .int 2), (2, .int 3), (0, .ref y), (1, .ref ja)]) hx hb dX7_dark_42 hl (k := 1) rfl (by decide) (by decide) rfl (fun ls hl => ?_)
  refine lv_goto (tgt := 4) hx hb dX7_dark_45 (by decide) ?_
  refine lv_iload_n hx hb dX7_dark_4 rfl (lv_at hl 0 rfl) ?_
  refine lv_bipush (v := 8) hx hb dX7_dark_5 (by decide) ?_
  refine lv_icmp_ge (tgt := 48) hx hb dX7_dark_7 (by decide) (fun h9 => absurd h9 (by decide)) (fun _ => ?_)
  refine lv_iload_n hx hb dX7_dark_10 rfl (lv_at hl 1 rfl) ?_
  refine lv_aload_n hx hb dX7_dark_11 rfl (lv_at hl 2 rfl) ?_
  refine lv_iload_n hx hb dX7_dark_12 rfl (lv_at hl 0 rfl) ?_
  refine lv_aload_n hx hb dX7_dark_13 rfl (lv_at hl 3 rfl) ?_
  have hPc := hP.sub (ws' := [(y, .inr (11, [.int th, .ref ys, .ref yp, .int 0])), (ys, .inr (3, [.int 0, .ref (ta 4), .int 0])), (yp, .inr (3, [.int 0, .ref (ta 4), .int 0]))]) [0, 1, 2] rfl
  have hKc := hK.sub (tys' := []) [] rfl
  refine va_calll (va_runV (As := [.int 2, .ref ja]) (rest := [.int 3]) ⟨hx, hb, hml, hown, hts⟩ (c_X7_whole_ l dC dI y ys yp sa ta th 2 ja) (cwV 2 hts gX7_dark_X7_whole_ rfl rfl rfl (by decide +kernel) ⟨Nat.le_of_ble_eq_true rfl, Nat.le_of_ble_eq_true rfl⟩) ⟨ax_fbR, va_recv hK hP (ci := 11) (q0 := 0) rfl rfl, ax_prR hPc hKc hS hE⟩ rfl rfl hl.1 rfl (lv_room (Nat.le_of_ble_eq_true rfl)) dX7_dark_14 ⟨Nat.le_of_ble_eq_true rfl, Nat.le_of_ble_eq_true rfl⟩) hS (fun _ _ h9 => h9.elim) (fun _ h9 => h9.elim) (fun r_13 u_15  t H locs ht hvm hw_14 hB hz1 hk1 hS => ?_)
  have hP := ax_keep hP (fun _ h9 => h9) hk1
  refine ax_l (y := 0) hw_14 ?_
  refine lv_lconst (v := 0) hx hb dX7_dark_17 (by decide) ?_
  refine W.lcmp hx hb dX7_dark_18 ?_
  refine ax_i (y := 0) (by decide) ?_
  refine lv_if_ne (tgt := 39) hx hb dX7_dark_19 (by decide) (fun h9 => absurd rfl h9) (fun _ => ?_)
  refine lv_aload_n hx hb dX7_dark_22 rfl (lv_at hl 2 rfl) ?_
  refine lv_iload_n hx hb dX7_dark_23 rfl (lv_at hl 0 rfl) ?_
  refine lv_aload_n hx hb dX7_dark_24 rfl (lv_at hl 3 rfl) ?_
  have hPc := hP.sub (ws' := [(y, .inr (11, [.int th, .ref ys, .ref yp, .int 0])), (ys, .inr (3, [.int 0, .ref (ta 4), .int 0])), (yp, .inr (3, [.int 0, .ref (ta 4), .int 0]))]) [0, 1, 2] rfl
  have hKc := hK.sub (tys' := []) [] rfl
  refine va_calll (va_runV (As := [.int 2, .ref ja]) (rest := [.int 3]) ⟨hx, hb, hml, hown, hts⟩ (c_X7_root_ l dC dI y ys yp sa ta th 2 ja) (cwV 2 hts gX7_dark_X7_root_ rfl rfl rfl (by decide +kernel) ⟨Nat.le_of_ble_eq_true rfl, Nat.le_of_ble_eq_true rfl⟩) ⟨ax_fbR, va_recv hK hP (ci := 11) (q0 := 0) rfl rfl, ax_prR hPc hKc hS hE⟩ rfl rfl hl.1 rfl (lv_room (Nat.le_of_ble_eq_true rfl)) dX7_dark_25 ⟨Nat.le_of_ble_eq_true rfl, Nat.le_of_ble_eq_true rfl⟩) hS (fun _ _ h9 => h9.elim) (fun _ h9 => h9.elim) (fun r_16 u_18  t H locs ht hvm hw_17 hB hz1 hk1 hS => ?_)
  have hP := ax_keep hP (fun _ h9 => h9) hk1
  refine ax_l (y := 0) hw_17 ?_
  refine lv_lconst (v := 0) hx hb dX7_dark_28 (by decide) ?_
  refine W.lcmp hx hb dX7_dark_29 ?_
  refine ax_i (y := 0) (by decide) ?_
  refine lv_if_ne (tgt := 39) hx hb dX7_dark_30 (by decide) (fun h9 => absurd rfl h9) (fun _ => ?_)
  refine lv_iconst (v := 1) hx hb dX7_dark_33 (by decide) ?_
  refine lv_iload_n hx hb dX7_dark_34 rfl (lv_at hl 0 rfl) ?_
  refine lv_ishl hx hb dX7_dark_35 ?_
  refine ax_i (y := 4) (by decide) ?_
  refine lv_goto (tgt := 40) hx hb dX7_dark_36 (by decide) ?_
  refine lv_ior hx hb dX7_dark_40 ?_
  refine ax_i (y := 7) (by decide) ?_
  refine lv_istore_n (lv' := [(2, .int 7), (3, .int 2), (0, .ref y), (1, .ref ja)]) hx hb dX7_dark_41 rfl hl (by decide) rfl (fun ls hl => ?_)
  refine lv_iinc (v := 3) (lv' := [(3, .int 3), (2, .int 7), (0, .ref y), (1, .ref ja)]) hx hb dX7_dark_42 hl (k := 1) rfl (by decide) (by decide) rfl (fun ls hl => ?_)
  refine lv_goto (tgt := 4) hx hb dX7_dark_45 (by decide) ?_
  refine lv_iload_n hx hb dX7_dark_4 rfl (lv_at hl 0 rfl) ?_
  refine lv_bipush (v := 8) hx hb dX7_dark_5 (by decide) ?_
  refine lv_icmp_ge (tgt := 48) hx hb dX7_dark_7 (by decide) (fun h9 => absurd h9 (by decide)) (fun _ => ?_)
  refine lv_iload_n hx hb dX7_dark_10 rfl (lv_at hl 1 rfl) ?_
  refine lv_aload_n hx hb dX7_dark_11 rfl (lv_at hl 2 rfl) ?_
  refine lv_iload_n hx hb dX7_dark_12 rfl (lv_at hl 0 rfl) ?_
  refine lv_aload_n hx hb dX7_dark_13 rfl (lv_at hl 3 rfl) ?_
  have hPc := hP.sub (ws' := [(y, .inr (11, [.int th, .ref ys, .ref yp, .int 0])), (ys, .inr (3, [.int 0, .ref (ta 4), .int 0])), (yp, .inr (3, [.int 0, .ref (ta 4), .int 0]))]) [0, 1, 2] rfl
  have hKc := hK.sub (tys' := []) [] rfl
  refine va_calll (va_runV (As := [.int 3, .ref ja]) (rest := [.int 7]) ⟨hx, hb, hml, hown, hts⟩ (c_X7_whole_ l dC dI y ys yp sa ta th 3 ja) (cwV 2 hts gX7_dark_X7_whole_ rfl rfl rfl (by decide +kernel) ⟨Nat.le_of_ble_eq_true rfl, Nat.le_of_ble_eq_true rfl⟩) ⟨ax_fbR, va_recv hK hP (ci := 11) (q0 := 0) rfl rfl, ax_prR hPc hKc hS hE⟩ rfl rfl hl.1 rfl (lv_room (Nat.le_of_ble_eq_true rfl)) dX7_dark_14 ⟨Nat.le_of_ble_eq_true rfl, Nat.le_of_ble_eq_true rfl⟩) hS (fun _ _ h9 => h9.elim) (fun _ h9 => h9.elim) (fun r_19 u_21  t H locs ht hvm hw_20 hB hz1 hk1 hS => ?_)
  have hP := ax_keep hP (fun _ h9 => h9) hk1
  refine ax_l (y := 0) hw_20 ?_
  refine lv_lconst (v := 0) hx hb dX7_dark_17 (by decide) ?_
  refine W.lcmp hx hb dX7_dark_18 ?_
  refine ax_i (y := 0) (by decide) ?_
  refine lv_if_ne (tgt := 39) hx hb dX7_dark_19 (by decide) (fun h9 => absurd rfl h9) (fun _ => ?_)
  refine lv_aload_n hx hb dX7_dark_22 rfl (lv_at hl 2 rfl) ?_
  refine lv_iload_n hx hb dX7_dark_23 rfl (lv_at hl 0 rfl) ?_
  refine lv_aload_n hx hb dX7_dark_24 rfl (lv_at hl 3 rfl) ?_
  have hPc := hP.sub (ws' := [(y, .inr (11, [.int th, .ref ys, .ref yp, .int 0])), (ys, .inr (3, [.int 0, .ref (ta 4), .int 0])), (yp, .inr (3, [.int 0, .ref (ta 4), .int 0]))]) [0, 1, 2] rfl
  have hKc := hK.sub (tys' := []) [] rfl
  refine va_calll (va_runV (As := [.int 3, .ref ja]) (rest := [.int 7]) ⟨hx, hb, hml, hown, hts⟩ (c_X7_root_ l dC dI y ys yp sa ta th 3 ja) (cwV 2 hts gX7_dark_X7_root_ rfl rfl rfl (by decide +kernel) ⟨Nat.le_of_ble_eq_true rfl, Nat.le_of_ble_eq_true rfl⟩) ⟨ax_fbR, va_recv hK hP (ci := 11) (q0 := 0) rfl rfl, ax_prR hPc hKc hS hE⟩ rfl rfl hl.1 rfl (lv_room (Nat.le_of_ble_eq_true rfl)) dX7_dark_25 ⟨Nat.le_of_ble_eq_true rfl, Nat.le_of_ble_eq_true rfl⟩) hS (fun _ _ h9 => h9.elim) (fun _ h9 => h9.elim) (fun r_22 u_24  t H locs ht hvm hw_23 hB hz1 hk1 hS => ?_)
  have hP := ax_keep hP (fun _ h9 => h9) hk1
  refine ax_l (y := 0) hw_23 ?_
  refine lv_lconst (v := 0) hx hb dX7_dark_28 (by decide) ?_
  refine W.lcmp hx hb dX7_dark_29 ?_
  refine ax_i (y := 0) (by decide) ?_
  refine lv_if_ne (tgt := 39) hx hb dX7_dark_30 (by decide) (fun h9 => absurd rfl h9) (fun _ => ?_)
  refine lv_iconst (v := 1) hx hb dX7_dark_33 (by decide) ?_
  refine lv_iload_n hx hb dX7_dark_34 rfl (lv_at hl 0 rfl) ?_
  refine lv_ishl hx hb dX7_dark_35 ?_
  refine ax_i (y := 8) (by decide) ?_
  refine lv_goto (tgt := 40) hx hb dX7_dark_36 (by decide) ?_
  refine lv_ior hx hb dX7_dark_40 ?_
  refine ax_i (y := 15) (by decide) ?_
  refine lv_istore_n (lv' := [(2, .int 15), (3, .int 3), (0, .ref y), (1, .ref ja)]) hx hb dX7_dark_41 rfl hl (by decide) rfl (fun ls hl => ?_)
  refine lv_iinc (v := 4) (lv' := [(3, .int 4), (2, .int 15), (0, .ref y), (1, .ref ja)]) hx hb dX7_dark_42 hl (k := 1) rfl (by decide) (by decide) rfl (fun ls hl => ?_)
  refine lv_goto (tgt := 4) hx hb dX7_dark_45 (by decide) ?_
  refine lv_iload_n hx hb dX7_dark_4 rfl (lv_at hl 0 rfl) ?_
  refine lv_bipush (v := 8) hx hb dX7_dark_5 (by decide) ?_
  refine lv_icmp_ge (tgt := 48) hx hb dX7_dark_7 (by decide) (fun h9 => absurd h9 (by decide)) (fun _ => ?_)
  refine lv_iload_n hx hb dX7_dark_10 rfl (lv_at hl 1 rfl) ?_
  refine lv_aload_n hx hb dX7_dark_11 rfl (lv_at hl 2 rfl) ?_
  refine lv_iload_n hx hb dX7_dark_12 rfl (lv_at hl 0 rfl) ?_
  refine lv_aload_n hx hb dX7_dark_13 rfl (lv_at hl 3 rfl) ?_
  have hPc := hP.sub (ws' := [(y, .inr (11, [.int th, .ref ys, .ref yp, .int 0])), (ys, .inr (3, [.int 0, .ref (ta 4), .int 0])), (yp, .inr (3, [.int 0, .ref (ta 4), .int 0]))]) [0, 1, 2] rfl
  have hKc := hK.sub (tys' := []) [] rfl
  refine va_calll (va_runV (As := [.int 4, .ref ja]) (rest := [.int 15]) ⟨hx, hb, hml, hown, hts⟩ (c_X7_whole_ l dC dI y ys yp sa ta th 4 ja) (cwV 2 hts gX7_dark_X7_whole_ rfl rfl rfl (by decide +kernel) ⟨Nat.le_of_ble_eq_true rfl, Nat.le_of_ble_eq_true rfl⟩) ⟨ax_fbR, va_recv hK hP (ci := 11) (q0 := 0) rfl rfl, ax_prR hPc hKc hS hE⟩ rfl rfl hl.1 rfl (lv_room (Nat.le_of_ble_eq_true rfl)) dX7_dark_14 ⟨Nat.le_of_ble_eq_true rfl, Nat.le_of_ble_eq_true rfl⟩) hS (fun _ _ h9 => h9.elim) (fun _ h9 => h9.elim) (fun r_25 u_27  t H locs ht hvm hw_26 hB hz1 hk1 hS => ?_)
  have hP := ax_keep hP (fun _ h9 => h9) hk1
  refine ax_l (y := 0) hw_26 ?_
  refine lv_lconst (v := 0) hx hb dX7_dark_17 (by decide) ?_
  refine W.lcmp hx hb dX7_dark_18 ?_
  refine ax_i (y := 0) (by decide) ?_
  refine lv_if_ne (tgt := 39) hx hb dX7_dark_19 (by decide) (fun h9 => absurd rfl h9) (fun _ => ?_)
  refine lv_aload_n hx hb dX7_dark_22 rfl (lv_at hl 2 rfl) ?_
  refine lv_iload_n hx hb dX7_dark_23 rfl (lv_at hl 0 rfl) ?_
  refine lv_aload_n hx hb dX7_dark_24 rfl (lv_at hl 3 rfl) ?_
  have hPc := hP.sub (ws' := [(y, .inr (11, [.int th, .ref ys, .ref yp, .int 0])), (ys, .inr (3, [.int 0, .ref (ta 4), .int 0])), (yp, .inr (3, [.int 0, .ref (ta 4), .int 0]))]) [0, 1, 2] rfl
  have hKc := hK.sub (tys' := []) [] rfl
  refine va_calll (va_runV (As := [.int 4, .ref ja]) (rest := [.int 15]) ⟨hx, hb, hml, hown, hts⟩ (c_X7_root_ l dC dI y ys yp sa ta th 4 ja) (cwV 2 hts gX7_dark_X7_root_ rfl rfl rfl (by decide +kernel) ⟨Nat.le_of_ble_eq_true rfl, Nat.le_of_ble_eq_true rfl⟩) ⟨ax_fbR, va_recv hK hP (ci := 11) (q0 := 0) rfl rfl, ax_prR hPc hKc hS hE⟩ rfl rfl hl.1 rfl (lv_room (Nat.le_of_ble_eq_true rfl)) dX7_dark_25 ⟨Nat.le_of_ble_eq_true rfl, Nat.le_of_ble_eq_true rfl⟩) hS (fun _ _ h9 => h9.elim) (fun _ h9 => h9.elim) (fun r_28 u_30  t H locs ht hvm hw_29 hB hz1 hk1 hS => ?_)
  have hP := ax_keep hP (fun _ h9 => h9) hk1
  refine ax_l (y := 0) hw_29 ?_
  refine lv_lconst (v := 0) hx hb dX7_dark_28 (by decide) ?_
  refine W.lcmp hx hb dX7_dark_29 ?_
  refine ax_i (y := 0) (by decide) ?_
  refine lv_if_ne (tgt := 39) hx hb dX7_dark_30 (by decide) (fun h9 => absurd rfl h9) (fun _ => ?_)
  refine lv_iconst (v := 1) hx hb dX7_dark_33 (by decide) ?_
  refine lv_iload_n hx hb dX7_dark_34 rfl (lv_at hl 0 rfl) ?_
  refine lv_ishl hx hb dX7_dark_35 ?_
  refine ax_i (y := 16) (by decide) ?_
  refine lv_goto (tgt := 40) hx hb dX7_dark_36 (by decide) ?_
  refine lv_ior hx hb dX7_dark_40 ?_
  refine ax_i (y := 31) (by decide) ?_
  refine lv_istore_n (lv' := [(2, .int 31), (3, .int 4), (0, .ref y), (1, .ref ja)]) hx hb dX7_dark_41 rfl hl (by decide) rfl (fun ls hl => ?_)
  refine lv_iinc (v := 5) (lv' := [(3, .int 5), (2, .int 31), (0, .ref y), (1, .ref ja)]) hx hb dX7_dark_42 hl (k := 1) rfl (by decide) (by decide) rfl (fun ls hl => ?_)
  refine lv_goto (tgt := 4) hx hb dX7_dark_45 (by decide) ?_
  refine lv_iload_n hx hb dX7_dark_4 rfl (lv_at hl 0 rfl) ?_
  refine lv_bipush (v := 8) hx hb dX7_dark_5 (by decide) ?_
  refine lv_icmp_ge (tgt := 48) hx hb dX7_dark_7 (by decide) (fun h9 => absurd h9 (by decide)) (fun _ => ?_)
  refine lv_iload_n hx hb dX7_dark_10 rfl (lv_at hl 1 rfl) ?_
  refine lv_aload_n hx hb dX7_dark_11 rfl (lv_at hl 2 rfl) ?_
  refine lv_iload_n hx hb dX7_dark_12 rfl (lv_at hl 0 rfl) ?_
  refine lv_aload_n hx hb dX7_dark_13 rfl (lv_at hl 3 rfl) ?_
  have hPc := hP.sub (ws' := [(y, .inr (11, [.int th, .ref ys, .ref yp, .int 0])), (ys, .inr (3, [.int 0, .ref (ta 4), .int 0])), (yp, .inr (3, [.int 0, .ref (ta 4), .int 0]))]) [0, 1, 2] rfl
  have hKc := hK.sub (tys' := []) [] rfl
  refine va_calll (va_runV (As := [.int 5, .ref ja]) (rest := [.int 31]) ⟨hx, hb, hml, hown, hts⟩ (c_X7_whole_ l dC dI y ys yp sa ta th 5 ja) (cwV 2 hts gX7_dark_X7_whole_ rfl rfl rfl (by decide +kernel) ⟨Nat.le_of_ble_eq_true rfl, Nat.le_of_ble_eq_true rfl⟩) ⟨ax_fbR, va_recv hK hP (ci := 11) (q0 := 0) rfl rfl, ax_prR hPc hKc hS hE⟩ rfl rfl hl.1 rfl (lv_room (Nat.le_of_ble_eq_true rfl)) dX7_dark_14 ⟨Nat.le_of_ble_eq_true rfl, Nat.le_of_ble_eq_true rfl⟩) hS (fun _ _ h9 => h9.elim) (fun _ h9 => h9.elim) (fun r_31 u_33  t H locs ht hvm hw_32 hB hz1 hk1 hS => ?_)
  have hP := ax_keep hP (fun _ h9 => h9) hk1
  refine ax_l (y := 0) hw_32 ?_
  refine lv_lconst (v := 0) hx hb dX7_dark_17 (by decide) ?_
  refine W.lcmp hx hb dX7_dark_18 ?_
  refine ax_i (y := 0) (by decide) ?_
  refine lv_if_ne (tgt := 39) hx hb dX7_dark_19 (by decide) (fun h9 => absurd rfl h9) (fun _ => ?_)
  refine lv_aload_n hx hb dX7_dark_22 rfl (lv_at hl 2 rfl) ?_
  refine lv_iload_n hx hb dX7_dark_23 rfl (lv_at hl 0 rfl) ?_
  refine lv_aload_n hx hb dX7_dark_24 rfl (lv_at hl 3 rfl) ?_
  have hPc := hP.sub (ws' := [(y, .inr (11, [.int th, .ref ys, .ref yp, .int 0])), (ys, .inr (3, [.int 0, .ref (ta 4), .int 0])), (yp, .inr (3, [.int 0, .ref (ta 4), .int 0]))]) [0, 1, 2] rfl
  have hKc := hK.sub (tys' := []) [] rfl
  refine va_calll (va_runV (As := [.int 5, .ref ja]) (rest := [.int 31]) ⟨hx, hb, hml, hown, hts⟩ (c_X7_root_ l dC dI y ys yp sa ta th 5 ja) (cwV 2 hts gX7_dark_X7_root_ rfl rfl rfl (by decide +kernel) ⟨Nat.le_of_ble_eq_true rfl, Nat.le_of_ble_eq_true rfl⟩) ⟨ax_fbR, va_recv hK hP (ci := 11) (q0 := 0) rfl rfl, ax_prR hPc hKc hS hE⟩ rfl rfl hl.1 rfl (lv_room (Nat.le_of_ble_eq_true rfl)) dX7_dark_25 ⟨Nat.le_of_ble_eq_true rfl, Nat.le_of_ble_eq_true rfl⟩) hS (fun _ _ h9 => h9.elim) (fun _ h9 => h9.elim) (fun r_34 u_36  t H locs ht hvm hw_35 hB hz1 hk1 hS => ?_)
  have hP := ax_keep hP (fun _ h9 => h9) hk1
  refine ax_l (y := 0) hw_35 ?_
  refine lv_lconst (v := 0) hx hb dX7_dark_28 (by decide) ?_
  refine W.lcmp hx hb dX7_dark_29 ?_
  refine ax_i (y := 0) (by decide) ?_
  refine lv_if_ne (tgt := 39) hx hb dX7_dark_30 (by decide) (fun h9 => absurd rfl h9) (fun _ => ?_)
  refine lv_iconst (v := 1) hx hb dX7_dark_33 (by decide) ?_
  refine lv_iload_n hx hb dX7_dark_34 rfl (lv_at hl 0 rfl) ?_
  refine lv_ishl hx hb dX7_dark_35 ?_
  refine ax_i (y := 32) (by decide) ?_
  refine lv_goto (tgt := 40) hx hb dX7_dark_36 (by decide) ?_
  refine lv_ior hx hb dX7_dark_40 ?_
  refine ax_i (y := 63) (by decide) ?_
  refine lv_istore_n (lv' := [(2, .int 63), (3, .int 5), (0, .ref y), (1, .ref ja)]) hx hb dX7_dark_41 rfl hl (by decide) rfl (fun ls hl => ?_)
  refine lv_iinc (v := 6) (lv' := [(3, .int 6), (2, .int 63), (0, .ref y), (1, .ref ja)]) hx hb dX7_dark_42 hl (k := 1) rfl (by decide) (by decide) rfl (fun ls hl => ?_)
  refine lv_goto (tgt := 4) hx hb dX7_dark_45 (by decide) ?_
  refine lv_iload_n hx hb dX7_dark_4 rfl (lv_at hl 0 rfl) ?_
  refine lv_bipush (v := 8) hx hb dX7_dark_5 (by decide) ?_
  refine lv_icmp_ge (tgt := 48) hx hb dX7_dark_7 (by decide) (fun h9 => absurd h9 (by decide)) (fun _ => ?_)
  refine lv_iload_n hx hb dX7_dark_10 rfl (lv_at hl 1 rfl) ?_
  refine lv_aload_n hx hb dX7_dark_11 rfl (lv_at hl 2 rfl) ?_
  refine lv_iload_n hx hb dX7_dark_12 rfl (lv_at hl 0 rfl) ?_
  refine lv_aload_n hx hb dX7_dark_13 rfl (lv_at hl 3 rfl) ?_
  have hPc := hP.sub (ws' := [(y, .inr (11, [.int th, .ref ys, .ref yp, .int 0])), (ys, .inr (3, [.int 0, .ref (ta 4), .int 0])), (yp, .inr (3, [.int 0, .ref (ta 4), .int 0]))]) [0, 1, 2] rfl
  have hKc := hK.sub (tys' := []) [] rfl
  refine va_calll (va_runV (As := [.int 6, .ref ja]) (rest := [.int 63]) ⟨hx, hb, hml, hown, hts⟩ (c_X7_whole_ l dC dI y ys yp sa ta th 6 ja) (cwV 2 hts gX7_dark_X7_whole_ rfl rfl rfl (by decide +kernel) ⟨Nat.le_of_ble_eq_true rfl, Nat.le_of_ble_eq_true rfl⟩) ⟨ax_fbR, va_recv hK hP (ci := 11) (q0 := 0) rfl rfl, ax_prR hPc hKc hS hE⟩ rfl rfl hl.1 rfl (lv_room (Nat.le_of_ble_eq_true rfl)) dX7_dark_14 ⟨Nat.le_of_ble_eq_true rfl, Nat.le_of_ble_eq_true rfl⟩) hS (fun _ _ h9 => h9.elim) (fun _ h9 => h9.elim) (fun r_37 u_39  t H locs ht hvm hw_38 hB hz1 hk1 hS => ?_)
  have hP := ax_keep hP (fun _ h9 => h9) hk1
  refine ax_l (y := 0) hw_38 ?_
  refine lv_lconst (v := 0) hx hb dX7_dark_17 (by decide) ?_
  refine W.lcmp hx hb dX7_dark_18 ?_
  refine ax_i (y := 0) (by decide) ?_
  refine lv_if_ne (tgt := 39) hx hb dX7_dark_19 (by decide) (fun h9 => absurd rfl h9) (fun _ => ?_)
  refine lv_aload_n hx hb dX7_dark_22 rfl (lv_at hl 2 rfl) ?_
  refine lv_iload_n hx hb dX7_dark_23 rfl (lv_at hl 0 rfl) ?_
  refine lv_aload_n hx hb dX7_dark_24 rfl (lv_at hl 3 rfl) ?_
  have hPc := hP.sub (ws' := [(y, .inr (11, [.int th, .ref ys, .ref yp, .int 0])), (ys, .inr (3, [.int 0, .ref (ta 4), .int 0])), (yp, .inr (3, [.int 0, .ref (ta 4), .int 0]))]) [0, 1, 2] rfl
  have hKc := hK.sub (tys' := []) [] rfl
  refine va_calll (va_runV (As := [.int 6, .ref ja]) (rest := [.int 63]) ⟨hx, hb, hml, hown, hts⟩ (c_X7_root_ l dC dI y ys yp sa ta th 6 ja) (cwV 2 hts gX7_dark_X7_root_ rfl rfl rfl (by decide +kernel) ⟨Nat.le_of_ble_eq_true rfl, Nat.le_of_ble_eq_true rfl⟩) ⟨ax_fbR, va_recv hK hP (ci := 11) (q0 := 0) rfl rfl, ax_prR hPc hKc hS hE⟩ rfl rfl hl.1 rfl (lv_room (Nat.le_of_ble_eq_true rfl)) dX7_dark_25 ⟨Nat.le_of_ble_eq_true rfl, Nat.le_of_ble_eq_true rfl⟩) hS (fun _ _ h9 => h9.elim) (fun _ h9 => h9.elim) (fun r_40 u_42  t H locs ht hvm hw_41 hB hz1 hk1 hS => ?_)
  have hP := ax_keep hP (fun _ h9 => h9) hk1
  refine ax_l (y := 0) hw_41 ?_
  refine lv_lconst (v := 0) hx hb dX7_dark_28 (by decide) ?_
  refine W.lcmp hx hb dX7_dark_29 ?_
  refine ax_i (y := 0) (by decide) ?_
  refine lv_if_ne (tgt := 39) hx hb dX7_dark_30 (by decide) (fun h9 => absurd rfl h9) (fun _ => ?_)
  refine lv_iconst (v := 1) hx hb dX7_dark_33 (by decide) ?_
  refine lv_iload_n hx hb dX7_dark_34 rfl (lv_at hl 0 rfl) ?_
  refine lv_ishl hx hb dX7_dark_35 ?_
  refine ax_i (y := 64) (by decide) ?_
  refine lv_goto (tgt := 40) hx hb dX7_dark_36 (by decide) ?_
  refine lv_ior hx hb dX7_dark_40 ?_
  refine ax_i (y := 127) (by decide) ?_
  refine lv_istore_n (lv' := [(2, .int 127), (3, .int 6), (0, .ref y), (1, .ref ja)]) hx hb dX7_dark_41 rfl hl (by decide) rfl (fun ls hl => ?_)
  refine lv_iinc (v := 7) (lv' := [(3, .int 7), (2, .int 127), (0, .ref y), (1, .ref ja)]) hx hb dX7_dark_42 hl (k := 1) rfl (by decide) (by decide) rfl (fun ls hl => ?_)
  refine lv_goto (tgt := 4) hx hb dX7_dark_45 (by decide) ?_
  refine lv_iload_n hx hb dX7_dark_4 rfl (lv_at hl 0 rfl) ?_
  refine lv_bipush (v := 8) hx hb dX7_dark_5 (by decide) ?_
  refine lv_icmp_ge (tgt := 48) hx hb dX7_dark_7 (by decide) (fun h9 => absurd h9 (by decide)) (fun _ => ?_)
  refine lv_iload_n hx hb dX7_dark_10 rfl (lv_at hl 1 rfl) ?_
  refine lv_aload_n hx hb dX7_dark_11 rfl (lv_at hl 2 rfl) ?_
  refine lv_iload_n hx hb dX7_dark_12 rfl (lv_at hl 0 rfl) ?_
  refine lv_aload_n hx hb dX7_dark_13 rfl (lv_at hl 3 rfl) ?_
  have hPc := hP.sub (ws' := [(y, .inr (11, [.int th, .ref ys, .ref yp, .int 0])), (ys, .inr (3, [.int 0, .ref (ta 4), .int 0])), (yp, .inr (3, [.int 0, .ref (ta 4), .int 0]))]) [0, 1, 2] rfl
  have hKc := hK.sub (tys' := []) [] rfl
  refine va_calll (va_runV (As := [.int 7, .ref ja]) (rest := [.int 127]) ⟨hx, hb, hml, hown, hts⟩ (c_X7_whole_ l dC dI y ys yp sa ta th 7 ja) (cwV 2 hts gX7_dark_X7_whole_ rfl rfl rfl (by decide +kernel) ⟨Nat.le_of_ble_eq_true rfl, Nat.le_of_ble_eq_true rfl⟩) ⟨ax_fbR, va_recv hK hP (ci := 11) (q0 := 0) rfl rfl, ax_prR hPc hKc hS hE⟩ rfl rfl hl.1 rfl (lv_room (Nat.le_of_ble_eq_true rfl)) dX7_dark_14 ⟨Nat.le_of_ble_eq_true rfl, Nat.le_of_ble_eq_true rfl⟩) hS (fun _ _ h9 => h9.elim) (fun _ h9 => h9.elim) (fun r_43 u_45  t H locs ht hvm hw_44 hB hz1 hk1 hS => ?_)
  have hP := ax_keep hP (fun _ h9 => h9) hk1
  refine ax_l (y := 0) hw_44 ?_
  refine lv_lconst (v := 0) hx hb dX7_dark_17 (by decide) ?_
  refine W.lcmp hx hb dX7_dark_18 ?_
  refine ax_i (y := 0) (by decide) ?_
  refine lv_if_ne (tgt := 39) hx hb dX7_dark_19 (by decide) (fun h9 => absurd rfl h9) (fun _ => ?_)
  refine lv_aload_n hx hb dX7_dark_22 rfl (lv_at hl 2 rfl) ?_
  refine lv_iload_n hx hb dX7_dark_23 rfl (lv_at hl 0 rfl) ?_
  refine lv_aload_n hx hb dX7_dark_24 rfl (lv_at hl 3 rfl) ?_
  have hPc := hP.sub (ws' := [(y, .inr (11, [.int th, .ref ys, .ref yp, .int 0])), (ys, .inr (3, [.int 0, .ref (ta 4), .int 0])), (yp, .inr (3, [.int 0, .ref (ta 4), .int 0]))]) [0, 1, 2] rfl
  have hKc := hK.sub (tys' := []) [] rfl
  refine va_calll (va_runV (As := [.int 7, .ref ja]) (rest := [.int 127]) ⟨hx, hb, hml, hown, hts⟩ (c_X7_root_ l dC dI y ys yp sa ta th 7 ja) (cwV 2 hts gX7_dark_X7_root_ rfl rfl rfl (by decide +kernel) ⟨Nat.le_of_ble_eq_true rfl, Nat.le_of_ble_eq_true rfl⟩) ⟨ax_fbR, va_recv hK hP (ci := 11) (q0 := 0) rfl rfl, ax_prR hPc hKc hS hE⟩ rfl rfl hl.1 rfl (lv_room (Nat.le_of_ble_eq_true rfl)) dX7_dark_25 ⟨Nat.le_of_ble_eq_true rfl, Nat.le_of_ble_eq_true rfl⟩) hS (fun _ _ h9 => h9.elim) (fun _ h9 => h9.elim) (fun r_46 u_48  t H locs ht hvm hw_47 hB hz1 hk1 hS => ?_)
  have hP := ax_keep hP (fun _ h9 => h9) hk1
  refine ax_l (y := 0) hw_47 ?_
  refine lv_lconst (v := 0) hx hb dX7_dark_28 (by decide) ?_
  refine W.lcmp hx hb dX7_dark_29 ?_
  refine ax_i (y := 0) (by decide) ?_
  refine lv_if_ne (tgt := 39) hx hb dX7_dark_30 (by decide) (fun h9 => absurd rfl h9) (fun _ => ?_)
  refine lv_iconst (v := 1) hx hb dX7_dark_33 (by decide) ?_
  refine lv_iload_n hx hb dX7_dark_34 rfl (lv_at hl 0 rfl) ?_
  refine lv_ishl hx hb dX7_dark_35 ?_
  refine ax_i (y := 128) (by decide) ?_
  refine lv_goto (tgt := 40) hx hb dX7_dark_36 (by decide) ?_
  refine lv_ior hx hb dX7_dark_40 ?_
  refine ax_i (y := 255) (by decide) ?_
  refine lv_istore_n (lv' := [(2, .int 255), (3, .int 7), (0, .ref y), (1, .ref ja)]) hx hb dX7_dark_41 rfl hl (by decide) rfl (fun ls hl => ?_)
  refine lv_iinc (v := 8) (lv' := [(3, .int 8), (2, .int 255), (0, .ref y), (1, .ref ja)]) hx hb dX7_dark_42 hl (k := 1) rfl (by decide) (by decide) rfl (fun ls hl => ?_)
  refine lv_goto (tgt := 4) hx hb dX7_dark_45 (by decide) ?_
  refine lv_iload_n hx hb dX7_dark_4 rfl (lv_at hl 0 rfl) ?_
  refine lv_bipush (v := 8) hx hb dX7_dark_5 (by decide) ?_
  refine lv_icmp_ge (tgt := 48) hx hb dX7_dark_7 (by decide) (fun _ => ?_) (fun h9 => absurd (by decide) h9)
  refine lv_iload_n hx hb dX7_dark_48 rfl (lv_at hl 1 rfl) ?_
  refine W.widen (k := 0) (n := 0) (Nat.le_of_ble_eq_true rfl) (Nat.le_of_ble_eq_true rfl) ?_
  exact W.iret (v := 255) hx hb hr (fun t ht hW => ⟨⟨255, (), rfl, rfl, trivial⟩, hS.F ht⟩) hS.2.2 dX7_dark_49

set_option maxHeartbeats 4000000 in
set_option maxRecDepth 100000 in
theorem c_X7_period (l : Launch) (dC : Nat → ClassId) (dI : Nat → Nat → Nat) (y ys yp : Nat) (sa ta : Nat → Nat) (th : Int32) (ja : Nat) : Met l yX7_period wsX7_period ({ frames := 24, cells := 0, slots := 0, locals := 600 }) (va_Pc [.ref y, .ref ja] (ax_R (dC, dI) vwCl [(y, .inr (11, [.int th, .ref ys, .ref yp, .int 0])), (ys, .inr (3, [.int 0, .ref (ta 4), .int 0])), (yp, .inr (3, [.int 0, .ref (ta 4), .int 0]))] [] sa ta)) (va_Qi (fun (r : Int32) (u : Unit) => r = 1) (fun _ _ => True) ax_no) 0 0 ax_no := by
  refine Met.ofW (cc := cX7_period) (maxL := 6) (ret := (some .int)) (by decide) rfl ?_
  intro p e s m args below meth c s₁ B hml hv
  obtain ⟨rfl, hP, hK, hE⟩ := hv
  have hx := B.exec
  have hb := B.bytes
  have hr := B.returns
  have hts := atoms_spec (ws := wsX7_period) B.pre
  have hown : s.vm.findClass RX7 = some m.cls := findClass_of_methodNamed B.named
  have hlocks := B.notSynchronized
  have hS : va_S ax_no s.heap s.heap [] := va_S.rf
  have hl := lv_entry ([.ref y, .ref ja]) (n := 6) (Nat.le_of_ble_eq_true rfl)
  rw [lg_entry_eq]
  generalize (lg_sl ([.ref y, .ref ja]) ++ List.replicate (6 - (lg_sl ([.ref y, .ref ja])).length) Slot.unset).toArray = ls at hl ⊢
  have hl : lv_has ls 6 [(0, .ref y), (1, .ref ja)] := hl
  have hP : va_P (dC, dI) vwCl [(y, .inr (11, [.int th, .ref ys, .ref yp, .int 0])), (ys, .inr (3, [.int 0, .ref (ta 4), .int 0])), (yp, .inr (3, [.int 0, .ref (ta 4), .int 0]))] s.heap := hP
  refine lv_iconst (v := 1) hx hb dX7_period_0 (by decide) ?_
  refine lv_istore_n (lv' := [(2, .int 1), (0, .ref y), (1, .ref ja)]) hx hb dX7_period_1 rfl hl (by decide) rfl (fun ls hl => ?_)
  refine lv_iload_n hx hb dX7_period_2 rfl (lv_at hl 0 rfl) ?_
  refine lv_bipush (v := 8) hx hb dX7_period_3 (by decide) ?_
  refine lv_icmp_ge (tgt := 91) hx hb dX7_period_5 (by decide) (fun h9 => absurd h9 (by decide)) (fun _ => ?_)
  refine lv_iconst (v := 1) hx hb dX7_period_8 (by decide) ?_
  refine lv_istore_n (lv' := [(3, .int 1), (2, .int 1), (0, .ref y), (1, .ref ja)]) hx hb dX7_period_9 rfl hl (by decide) rfl (fun ls hl => ?_)
  refine lv_iconst (v := 0) hx hb dX7_period_10 (by decide) ?_
  refine lv_istore (lv' := [(4, .int 0), (3, .int 1), (2, .int 1), (0, .ref y), (1, .ref ja)]) hx hb dX7_period_11 hl (by decide) rfl (fun ls hl => ?_)
  refine lv_iload hx hb dX7_period_13 (lv_at hl 0 rfl) ?_
  refine lv_bipush (v := 8) hx hb dX7_period_15 (by decide) ?_
  refine lv_icmp_ge (tgt := 79) hx hb dX7_period_17 (by decide) (fun h9 => absurd h9 (by decide)) (fun _ => ?_)
  refine lv_iload hx hb dX7_period_20 (lv_at hl 0 rfl) ?_
  refine lv_iload_n hx hb dX7_period_22 rfl (lv_at hl 2 rfl) ?_
  refine lv_iadd hx hb dX7_period_23 ?_
  refine ax_i (y := 1) (by decide) ?_
  refine lv_bipush (v := 8) hx hb dX7_period_24 (by decide) ?_
  refine lv_irem hx hb dX7_period_26 (by decide) ?_
  refine ax_i (y := 1) (by decide) ?_
  refine lv_istore (lv' := [(5, .int 1), (4, .int 0), (3, .int 1), (2, .int 1), (0, .ref y), (1, .ref ja)]) hx hb dX7_period_27 hl (by decide) rfl (fun ls hl => ?_)
  refine lv_iload_n hx hb dX7_period_29 rfl (lv_at hl 2 rfl) ?_
  refine lv_aload_n hx hb dX7_period_30 rfl (lv_at hl 4 rfl) ?_
  refine lv_iload hx hb dX7_period_31 (lv_at hl 1 rfl) ?_
  refine lv_aload_n hx hb dX7_period_33 rfl (lv_at hl 5 rfl) ?_
  have hPc := hP.sub (ws' := [(y, .inr (11, [.int th, .ref ys, .ref yp, .int 0])), (ys, .inr (3, [.int 0, .ref (ta 4), .int 0])), (yp, .inr (3, [.int 0, .ref (ta 4), .int 0]))]) [0, 1, 2] rfl
  have hKc := hK.sub (tys' := []) [] rfl
  refine va_calll (va_runV (As := [.int 0, .ref ja]) (rest := [.int 1]) ⟨hx, hb, hml, hown, hts⟩ (c_X7_whole_ l dC dI y ys yp sa ta th 0 ja) (cwV 2 hts gX7_period_X7_whole_ rfl rfl rfl (by decide +kernel) ⟨Nat.le_of_ble_eq_true rfl, Nat.le_of_ble_eq_true rfl⟩) ⟨ax_fbR, va_recv hK hP (ci := 11) (q0 := 0) rfl rfl, ax_prR hPc hKc hS hE⟩ rfl rfl hl.1 rfl (lv_room (Nat.le_of_ble_eq_true rfl)) dX7_period_34 ⟨Nat.le_of_ble_eq_true rfl, Nat.le_of_ble_eq_true rfl⟩) hS (fun _ _ h9 => h9.elim) (fun _ h9 => h9.elim) (fun r_1 u_3  t H locs ht hvm hw_2 hB hz1 hk1 hS => ?_)
  have hP := ax_keep hP (fun _ h9 => h9) hk1
  refine ax_l (y := 0) hw_2 ?_
  refine lv_aload_n hx hb dX7_period_37 rfl (lv_at hl 4 rfl) ?_
  refine lv_iload hx hb dX7_period_38 (lv_at hl 0 rfl) ?_
  refine lv_aload_n hx hb dX7_period_40 rfl (lv_at hl 5 rfl) ?_
  have hPc := hP.sub (ws' := [(y, .inr (11, [.int th, .ref ys, .ref yp, .int 0])), (ys, .inr (3, [.int 0, .ref (ta 4), .int 0])), (yp, .inr (3, [.int 0, .ref (ta 4), .int 0]))]) [0, 1, 2] rfl
  have hKc := hK.sub (tys' := []) [] rfl
  refine va_calll (va_runV (As := [.int 1, .ref ja]) (rest := [.long 0, .int 1]) ⟨hx, hb, hml, hown, hts⟩ (c_X7_whole_ l dC dI y ys yp sa ta th 1 ja) (cwV 2 hts gX7_period_X7_whole_ rfl rfl rfl (by decide +kernel) ⟨Nat.le_of_ble_eq_true rfl, Nat.le_of_ble_eq_true rfl⟩) ⟨ax_fbR, va_recv hK hP (ci := 11) (q0 := 0) rfl rfl, ax_prR hPc hKc hS hE⟩ rfl rfl hl.1 rfl (lv_room (Nat.le_of_ble_eq_true rfl)) dX7_period_41 ⟨Nat.le_of_ble_eq_true rfl, Nat.le_of_ble_eq_true rfl⟩) hS (fun _ _ h9 => h9.elim) (fun _ h9 => h9.elim) (fun r_4 u_6  t H locs ht hvm hw_5 hB hz1 hk1 hS => ?_)
  have hP := ax_keep hP (fun _ h9 => h9) hk1
  refine ax_l (y := 0) hw_5 ?_
  refine W.lcmp hx hb dX7_period_44 ?_
  refine ax_i (y := 0) (by decide) ?_
  refine lv_if_ne (tgt := 70) hx hb dX7_period_45 (by decide) (fun h9 => absurd rfl h9) (fun _ => ?_)
  refine lv_aload_n hx hb dX7_period_48 rfl (lv_at hl 4 rfl) ?_
  refine lv_iload hx hb dX7_period_49 (lv_at hl 1 rfl) ?_
  refine lv_aload_n hx hb dX7_period_51 rfl (lv_at hl 5 rfl) ?_
  have hPc := hP.sub (ws' := [(y, .inr (11, [.int th, .ref ys, .ref yp, .int 0])), (ys, .inr (3, [.int 0, .ref (ta 4), .int 0])), (yp, .inr (3, [.int 0, .ref (ta 4), .int 0]))]) [0, 1, 2] rfl
  have hKc := hK.sub (tys' := []) [] rfl
  refine va_calll (va_runV (As := [.int 0, .ref ja]) (rest := [.int 1]) ⟨hx, hb, hml, hown, hts⟩ (c_X7_root_ l dC dI y ys yp sa ta th 0 ja) (cwV 2 hts gX7_period_X7_root_ rfl rfl rfl (by decide +kernel) ⟨Nat.le_of_ble_eq_true rfl, Nat.le_of_ble_eq_true rfl⟩) ⟨ax_fbR, va_recv hK hP (ci := 11) (q0 := 0) rfl rfl, ax_prR hPc hKc hS hE⟩ rfl rfl hl.1 rfl (lv_room (Nat.le_of_ble_eq_true rfl)) dX7_period_52 ⟨Nat.le_of_ble_eq_true rfl, Nat.le_of_ble_eq_true rfl⟩) hS (fun _ _ h9 => h9.elim) (fun _ h9 => h9.elim) (fun r_7 u_9  t H locs ht hvm hw_8 hB hz1 hk1 hS => ?_)
  have hP := ax_keep hP (fun _ h9 => h9) hk1
  refine ax_l (y := 0) hw_8 ?_
  refine lv_aload_n hx hb dX7_period_55 rfl (lv_at hl 4 rfl) ?_
  refine lv_iload hx hb dX7_period_56 (lv_at hl 0 rfl) ?_
  refine lv_aload_n hx hb dX7_period_58 rfl (lv_at hl 5 rfl) ?_
  have hPc := hP.sub (ws' := [(y, .inr (11, [.int th, .ref ys, .ref yp, .int 0])), (ys, .inr (3, [.int 0, .ref (ta 4), .int 0])), (yp, .inr (3, [.int 0, .ref (ta 4), .int 0]))]) [0, 1, 2] rfl
  have hKc := hK.sub (tys' := []) [] rfl
  refine va_calll (va_runV (As := [.int 1, .ref ja]) (rest := [.long 0, .int 1]) ⟨hx, hb, hml, hown, hts⟩ (c_X7_root_ l dC dI y ys yp sa ta th 1 ja) (cwV 2 hts gX7_period_X7_root_ rfl rfl rfl (by decide +kernel) ⟨Nat.le_of_ble_eq_true rfl, Nat.le_of_ble_eq_true rfl⟩) ⟨ax_fbR, va_recv hK hP (ci := 11) (q0 := 0) rfl rfl, ax_prR hPc hKc hS hE⟩ rfl rfl hl.1 rfl (lv_room (Nat.le_of_ble_eq_true rfl)) dX7_period_59 ⟨Nat.le_of_ble_eq_true rfl, Nat.le_of_ble_eq_true rfl⟩) hS (fun _ _ h9 => h9.elim) (fun _ h9 => h9.elim) (fun r_10 u_12  t H locs ht hvm hw_11 hB hz1 hk1 hS => ?_)
  have hP := ax_keep hP (fun _ h9 => h9) hk1
  refine ax_l (y := 0) hw_11 ?_
  refine W.lcmp hx hb dX7_period_62 ?_
  refine ax_i (y := 0) (by decide) ?_
  refine lv_if_ne (tgt := 70) hx hb dX7_period_63 (by decide) (fun h9 => absurd rfl h9) (fun _ => ?_)
  refine lv_iconst (v := 1) hx hb dX7_period_66 (by decide) ?_
  refine lv_goto (tgt := 71) hx hb dX7_period_67 (by decide) ?_
  refine lv_iand hx hb dX7_period_71 ?_
  refine ax_i (y := 1) (by decide) ?_
  refine lv_istore_n (lv' := [(3, .int 1), (5, .int 1), (4, .int 0), (2, .int 1), (0, .ref y), (1, .ref ja)]) hx hb dX7_period_72 rfl hl (by decide) rfl (fun ls hl => ?_)
  refine lv_iinc (v := 1) (lv' := [(4, .int 1), (3, .int 1), (5, .int 1), (2, .int 1), (0, .ref y), (1, .ref ja)]) hx hb dX7_period_73 hl (k := 2) rfl (by decide) (by decide) rfl (fun ls hl => ?_)
  refine lv_goto (tgt := 13) hx hb dX7_period_76 (by decide) ?_
  refine lv_iload hx hb dX7_period_13 (lv_at hl 0 rfl) ?_
  refine lv_bipush (v := 8) hx hb dX7_period_15 (by decide) ?_
  refine lv_icmp_ge (tgt := 79) hx hb dX7_period_17 (by decide) (fun h9 => absurd h9 (by decide)) (fun _ => ?_)
  refine lv_iload hx hb dX7_period_20 (lv_at hl 0 rfl) ?_
  refine lv_iload_n hx hb dX7_period_22 rfl (lv_at hl 3 rfl) ?_
  refine lv_iadd hx hb dX7_period_23 ?_
  refine ax_i (y := 2) (by decide) ?_
  refine lv_bipush (v := 8) hx hb dX7_period_24 (by decide) ?_
  refine lv_irem hx hb dX7_period_26 (by decide) ?_
  refine ax_i (y := 2) (by decide) ?_
  refine lv_istore (lv' := [(5, .int 2), (4, .int 1), (3, .int 1), (2, .int 1), (0, .ref y), (1, .ref ja)]) hx hb dX7_period_27 hl (by decide) rfl (fun ls hl => ?_)
  refine lv_iload_n hx hb dX7_period_29 rfl (lv_at hl 2 rfl) ?_
  refine lv_aload_n hx hb dX7_period_30 rfl (lv_at hl 4 rfl) ?_
  refine lv_iload hx hb dX7_period_31 (lv_at hl 1 rfl) ?_
  refine lv_aload_n hx hb dX7_period_33 rfl (lv_at hl 5 rfl) ?_
  have hPc := hP.sub (ws' := [(y, .inr (11, [.int th, .ref ys, .ref yp, .int 0])), (ys, .inr (3, [.int 0, .ref (ta 4), .int 0])), (yp, .inr (3, [.int 0, .ref (ta 4), .int 0]))]) [0, 1, 2] rfl
  have hKc := hK.sub (tys' := []) [] rfl
  refine va_calll (va_runV (As := [.int 1, .ref ja]) (rest := [.int 1]) ⟨hx, hb, hml, hown, hts⟩ (c_X7_whole_ l dC dI y ys yp sa ta th 1 ja) (cwV 2 hts gX7_period_X7_whole_ rfl rfl rfl (by decide +kernel) ⟨Nat.le_of_ble_eq_true rfl, Nat.le_of_ble_eq_true rfl⟩) ⟨ax_fbR, va_recv hK hP (ci := 11) (q0 := 0) rfl rfl, ax_prR hPc hKc hS hE⟩ rfl rfl hl.1 rfl (lv_room (Nat.le_of_ble_eq_true rfl)) dX7_period_34 ⟨Nat.le_of_ble_eq_true rfl, Nat.le_of_ble_eq_true rfl⟩) hS (fun _ _ h9 => h9.elim) (fun _ h9 => h9.elim) (fun r_13 u_15  t H locs ht hvm hw_14 hB hz1 hk1 hS => ?_)
  have hP := ax_keep hP (fun _ h9 => h9) hk1
  refine ax_l (y := 0) hw_14 ?_
  refine lv_aload_n hx hb dX7_period_37 rfl (lv_at hl 4 rfl) ?_
  refine lv_iload hx hb dX7_period_38 (lv_at hl 0 rfl) ?_
  refine lv_aload_n hx hb dX7_period_40 rfl (lv_at hl 5 rfl) ?_
  have hPc := hP.sub (ws' := [(y, .inr (11, [.int th, .ref ys, .ref yp, .int 0])), (ys, .inr (3, [.int 0, .ref (ta 4), .int 0])), (yp, .inr (3, [.int 0, .ref (ta 4), .int 0]))]) [0, 1, 2] rfl
  have hKc := hK.sub (tys' := []) [] rfl
  refine va_calll (va_runV (As := [.int 2, .ref ja]) (rest := [.long 0, .int 1]) ⟨hx, hb, hml, hown, hts⟩ (c_X7_whole_ l dC dI y ys yp sa ta th 2 ja) (cwV 2 hts gX7_period_X7_whole_ rfl rfl rfl (by decide +kernel) ⟨Nat.le_of_ble_eq_true rfl, Nat.le_of_ble_eq_true rfl⟩) ⟨ax_fbR, va_recv hK hP (ci := 11) (q0 := 0) rfl rfl, ax_prR hPc hKc hS hE⟩ rfl rfl hl.1 rfl (lv_room (Nat.le_of_ble_eq_true rfl)) dX7_period_41 ⟨Nat.le_of_ble_eq_true rfl, Nat.le_of_ble_eq_true rfl⟩) hS (fun _ _ h9 => h9.elim) (fun _ h9 => h9.elim) (fun r_16 u_18  t H locs ht hvm hw_17 hB hz1 hk1 hS => ?_)
  have hP := ax_keep hP (fun _ h9 => h9) hk1
  refine ax_l (y := 0) hw_17 ?_
  refine W.lcmp hx hb dX7_period_44 ?_
  refine ax_i (y := 0) (by decide) ?_
  refine lv_if_ne (tgt := 70) hx hb dX7_period_45 (by decide) (fun h9 => absurd rfl h9) (fun _ => ?_)
  refine lv_aload_n hx hb dX7_period_48 rfl (lv_at hl 4 rfl) ?_
  refine lv_iload hx hb dX7_period_49 (lv_at hl 1 rfl) ?_
  refine lv_aload_n hx hb dX7_period_51 rfl (lv_at hl 5 rfl) ?_
  have hPc := hP.sub (ws' := [(y, .inr (11, [.int th, .ref ys, .ref yp, .int 0])), (ys, .inr (3, [.int 0, .ref (ta 4), .int 0])), (yp, .inr (3, [.int 0, .ref (ta 4), .int 0]))]) [0, 1, 2] rfl
  have hKc := hK.sub (tys' := []) [] rfl
  refine va_calll (va_runV (As := [.int 1, .ref ja]) (rest := [.int 1]) ⟨hx, hb, hml, hown, hts⟩ (c_X7_root_ l dC dI y ys yp sa ta th 1 ja) (cwV 2 hts gX7_period_X7_root_ rfl rfl rfl (by decide +kernel) ⟨Nat.le_of_ble_eq_true rfl, Nat.le_of_ble_eq_true rfl⟩) ⟨ax_fbR, va_recv hK hP (ci := 11) (q0 := 0) rfl rfl, ax_prR hPc hKc hS hE⟩ rfl rfl hl.1 rfl (lv_room (Nat.le_of_ble_eq_true rfl)) dX7_period_52 ⟨Nat.le_of_ble_eq_true rfl, Nat.le_of_ble_eq_true rfl⟩) hS (fun _ _ h9 => h9.elim) (fun _ h9 => h9.elim) (fun r_19 u_21  t H locs ht hvm hw_20 hB hz1 hk1 hS => ?_)
  have hP := ax_keep hP (fun _ h9 => h9) hk1
  refine ax_l (y := 0) hw_20 ?_
  refine lv_aload_n hx hb dX7_period_55 rfl (lv_at hl 4 rfl) ?_
  refine lv_iload hx hb dX7_period_56 (lv_at hl 0 rfl) ?_
  refine lv_aload_n hx hb dX7_period_58 rfl (lv_at hl 5 rfl) ?_
  have hPc := hP.sub (ws' := [(y, .inr (11, [.int th, .ref ys, .ref yp, .int 0])), (ys, .inr (3, [.int 0, .ref (ta 4), .int 0])), (yp, .inr (3, [.int 0, .ref (ta 4), .int 0]))]) [0, 1, 2] rfl
  have hKc := hK.sub (tys' := []) [] rfl
  refine va_calll (va_runV (As := [.int 2, .ref ja]) (rest := [.long 0, .int 1]) ⟨hx, hb, hml, hown, hts⟩ (c_X7_root_ l dC dI y ys yp sa ta th 2 ja) (cwV 2 hts gX7_period_X7_root_ rfl rfl rfl (by decide +kernel) ⟨Nat.le_of_ble_eq_true rfl, Nat.le_of_ble_eq_true rfl⟩) ⟨ax_fbR, va_recv hK hP (ci := 11) (q0 := 0) rfl rfl, ax_prR hPc hKc hS hE⟩ rfl rfl hl.1 rfl (lv_room (Nat.le_of_ble_eq_true rfl)) dX7_period_59 ⟨Nat.le_of_ble_eq_true rfl, Nat.le_of_ble_eq_true rfl⟩) hS (fun _ _ h9 => h9.elim) (fun _ h9 => h9.elim) (fun r_22 u_24  t H locs ht hvm hw_23 hB hz1 hk1 hS => ?_)
  have hP := ax_keep hP (fun _ h9 => h9) hk1
  refine ax_l (y := 0) hw_23 ?_
  refine W.lcmp hx hb dX7_period_62 ?_
  refine ax_i (y := 0) (by decide) ?_
  refine lv_if_ne (tgt := 70) hx hb dX7_period_63 (by decide) (fun h9 => absurd rfl h9) (fun _ => ?_)
  refine lv_iconst (v := 1) hx hb dX7_period_66 (by decide) ?_
  refine lv_goto (tgt := 71) hx hb dX7_period_67 (by decide) ?_
  refine lv_iand hx hb dX7_period_71 ?_
  refine ax_i (y := 1) (by decide) ?_
  refine lv_istore_n (lv' := [(3, .int 1), (5, .int 2), (4, .int 1), (2, .int 1), (0, .ref y), (1, .ref ja)]) hx hb dX7_period_72 rfl hl (by decide) rfl (fun ls hl => ?_)
  refine lv_iinc (v := 2) (lv' := [(4, .int 2), (3, .int 1), (5, .int 2), (2, .int 1), (0, .ref y), (1, .ref ja)]) hx hb dX7_period_73 hl (k := 2) rfl (by decide) (by decide) rfl (fun ls hl => ?_)
  refine lv_goto (tgt := 13) hx hb dX7_period_76 (by decide) ?_
  refine lv_iload hx hb dX7_period_13 (lv_at hl 0 rfl) ?_
  refine lv_bipush (v := 8) hx hb dX7_period_15 (by decide) ?_
  refine lv_icmp_ge (tgt := 79) hx hb dX7_period_17 (by decide) (fun h9 => absurd h9 (by decide)) (fun _ => ?_)
  refine lv_iload hx hb dX7_period_20 (lv_at hl 0 rfl) ?_
  refine lv_iload_n hx hb dX7_period_22 rfl (lv_at hl 3 rfl) ?_
  refine lv_iadd hx hb dX7_period_23 ?_
  refine ax_i (y := 3) (by decide) ?_
  refine lv_bipush (v := 8) hx hb dX7_period_24 (by decide) ?_
  refine lv_irem hx hb dX7_period_26 (by decide) ?_
  refine ax_i (y := 3) (by decide) ?_
  refine lv_istore (lv' := [(5, .int 3), (4, .int 2), (3, .int 1), (2, .int 1), (0, .ref y), (1, .ref ja)]) hx hb dX7_period_27 hl (by decide) rfl (fun ls hl => ?_)
  refine lv_iload_n hx hb dX7_period_29 rfl (lv_at hl 2 rfl) ?_
  refine lv_aload_n hx hb dX7_period_30 rfl (lv_at hl 4 rfl) ?_
  refine lv_iload hx hb dX7_period_31 (lv_at hl 1 rfl) ?_
  refine lv_aload_n hx hb dX7_period_33 rfl (lv_at hl 5 rfl) ?_
  have hPc := hP.sub (ws' := [(y, .inr (11, [.int th, .ref ys, .ref yp, .int 0])), (ys, .inr (3, [.int 0, .ref (ta 4), .int 0])), (yp, .inr (3, [.int 0, .ref (ta 4), .int 0]))]) [0, 1, 2] rfl
  have hKc := hK.sub (tys' := []) [] rfl
  refine va_calll (va_runV (As := [.int 2, .ref ja]) (rest := [.int 1]) ⟨hx, hb, hml, hown, hts⟩ (c_X7_whole_ l dC dI y ys yp sa ta th 2 ja) (cwV 2 hts gX7_period_X7_whole_ rfl rfl rfl (by decide +kernel) ⟨Nat.le_of_ble_eq_true rfl, Nat.le_of_ble_eq_true rfl⟩) ⟨ax_fbR, va_recv hK hP (ci := 11) (q0 := 0) rfl rfl, ax_prR hPc hKc hS hE⟩ rfl rfl hl.1 rfl (lv_room (Nat.le_of_ble_eq_true rfl)) dX7_period_34 ⟨Nat.le_of_ble_eq_true rfl, Nat.le_of_ble_eq_true rfl⟩) hS (fun _ _ h9 => h9.elim) (fun _ h9 => h9.elim) (fun r_25 u_27  t H locs ht hvm hw_26 hB hz1 hk1 hS => ?_)
  have hP := ax_keep hP (fun _ h9 => h9) hk1
  refine ax_l (y := 0) hw_26 ?_
  refine lv_aload_n hx hb dX7_period_37 rfl (lv_at hl 4 rfl) ?_
  refine lv_iload hx hb dX7_period_38 (lv_at hl 0 rfl) ?_
  refine lv_aload_n hx hb dX7_period_40 rfl (lv_at hl 5 rfl) ?_
  have hPc := hP.sub (ws' := [(y, .inr (11, [.int th, .ref ys, .ref yp, .int 0])), (ys, .inr (3, [.int 0, .ref (ta 4), .int 0])), (yp, .inr (3, [.int 0, .ref (ta 4), .int 0]))]) [0, 1, 2] rfl
  have hKc := hK.sub (tys' := []) [] rfl
  refine va_calll (va_runV (As := [.int 3, .ref ja]) (rest := [.long 0, .int 1]) ⟨hx, hb, hml, hown, hts⟩ (c_X7_whole_ l dC dI y ys yp sa ta th 3 ja) (cwV 2 hts gX7_period_X7_whole_ rfl rfl rfl (by decide +kernel) ⟨Nat.le_of_ble_eq_true rfl, Nat.le_of_ble_eq_true rfl⟩) ⟨ax_fbR, va_recv hK hP (ci := 11) (q0 := 0) rfl rfl, ax_prR hPc hKc hS hE⟩ rfl rfl hl.1 rfl (lv_room (Nat.le_of_ble_eq_true rfl)) dX7_period_41 ⟨Nat.le_of_ble_eq_true rfl, Nat.le_of_ble_eq_true rfl⟩) hS (fun _ _ h9 => h9.elim) (fun _ h9 => h9.elim) (fun r_28 u_30  t H locs ht hvm hw_29 hB hz1 hk1 hS => ?_)
  have hP := ax_keep hP (fun _ h9 => h9) hk1
  refine ax_l (y := 0) hw_29 ?_
  refine W.lcmp hx hb dX7_period_44 ?_
  refine ax_i (y := 0) (by decide) ?_
  refine lv_if_ne (tgt := 70) hx hb dX7_period_45 (by decide) (fun h9 => absurd rfl h9) (fun _ => ?_)
  refine lv_aload_n hx hb dX7_period_48 rfl (lv_at hl 4 rfl) ?_
  refine lv_iload hx hb dX7_period_49 (lv_at hl 1 rfl) ?_
  refine lv_aload_n hx hb dX7_period_51 rfl (lv_at hl 5 rfl) ?_
  have hPc := hP.sub (ws' := [(y, .inr (11, [.int th, .ref ys, .ref yp, .int 0])), (ys, .inr (3, [.int 0, .ref (ta 4), .int 0])), (yp, .inr (3, [.int 0, .ref (ta 4), .int 0]))]) [0, 1, 2] rfl
  have hKc := hK.sub (tys' := []) [] rfl
  refine va_calll (va_runV (As := [.int 2, .ref ja]) (rest := [.int 1]) ⟨hx, hb, hml, hown, hts⟩ (c_X7_root_ l dC dI y ys yp sa ta th 2 ja) (cwV 2 hts gX7_period_X7_root_ rfl rfl rfl (by decide +kernel) ⟨Nat.le_of_ble_eq_true rfl, Nat.le_of_ble_eq_true rfl⟩) ⟨ax_fbR, va_recv hK hP (ci := 11) (q0 := 0) rfl rfl, ax_prR hPc hKc hS hE⟩ rfl rfl hl.1 rfl (lv_room (Nat.le_of_ble_eq_true rfl)) dX7_period_52 ⟨Nat.le_of_ble_eq_true rfl, Nat.le_of_ble_eq_true rfl⟩) hS (fun _ _ h9 => h9.elim) (fun _ h9 => h9.elim) (fun r_31 u_33  t H locs ht hvm hw_32 hB hz1 hk1 hS => ?_)
  have hP := ax_keep hP (fun _ h9 => h9) hk1
  refine ax_l (y := 0) hw_32 ?_
  refine lv_aload_n hx hb dX7_period_55 rfl (lv_at hl 4 rfl) ?_
  refine lv_iload hx hb dX7_period_56 (lv_at hl 0 rfl) ?_
  refine lv_aload_n hx hb dX7_period_58 rfl (lv_at hl 5 rfl) ?_
  have hPc := hP.sub (ws' := [(y, .inr (11, [.int th, .ref ys, .ref yp, .int 0])), (ys, .inr (3, [.int 0, .ref (ta 4), .int 0])), (yp, .inr (3, [.int 0, .ref (ta 4), .int 0]))]) [0, 1, 2] rfl
  have hKc := hK.sub (tys' := []) [] rfl
  refine va_calll (va_runV (As := [.int 3, .ref ja]) (rest := [.long 0, .int 1]) ⟨hx, hb, hml, hown, hts⟩ (c_X7_root_ l dC dI y ys yp sa ta th 3 ja) (cwV 2 hts gX7_period_X7_root_ rfl rfl rfl (by decide +kernel) ⟨Nat.le_of_ble_eq_true rfl, Nat.le_of_ble_eq_true rfl⟩) ⟨ax_fbR, va_recv hK hP (ci := 11) (q0 := 0) rfl rfl, ax_prR hPc hKc hS hE⟩ rfl rfl hl.1 rfl (lv_room (Nat.le_of_ble_eq_true rfl)) dX7_period_59 ⟨Nat.le_of_ble_eq_true rfl, Nat.le_of_ble_eq_true rfl⟩) hS (fun _ _ h9 => h9.elim) (fun _ h9 => h9.elim) (fun r_34 u_36  t H locs ht hvm hw_35 hB hz1 hk1 hS => ?_)
  have hP := ax_keep hP (fun _ h9 => h9) hk1
  refine ax_l (y := 0) hw_35 ?_
  refine W.lcmp hx hb dX7_period_62 ?_
  refine ax_i (y := 0) (by decide) ?_
  refine lv_if_ne (tgt := 70) hx hb dX7_period_63 (by decide) (fun h9 => absurd rfl h9) (fun _ => ?_)
  refine lv_iconst (v := 1) hx hb dX7_period_66 (by decide) ?_
  refine lv_goto (tgt := 71) hx hb dX7_period_67 (by decide) ?_
  refine lv_iand hx hb dX7_period_71 ?_
  refine ax_i (y := 1) (by decide) ?_
  refine lv_istore_n (lv' := [(3, .int 1), (5, .int 3), (4, .int 2), (2, .int 1), (0, .ref y), (1, .ref ja)]) hx hb dX7_period_72 rfl hl (by decide) rfl (fun ls hl => ?_)
  refine lv_iinc (v := 3) (lv' := [(4, .int 3), (3, .int 1), (5, .int 3), (2, .int 1), (0, .ref y), (1, .ref ja)]) hx hb dX7_period_73 hl (k := 2) rfl (by decide) (by decide) rfl (fun ls hl => ?_)
  refine lv_goto (tgt := 13) hx hb dX7_period_76 (by decide) ?_
  refine lv_iload hx hb dX7_period_13 (lv_at hl 0 rfl) ?_
  refine lv_bipush (v := 8) hx hb dX7_period_15 (by decide) ?_
  refine lv_icmp_ge (tgt := 79) hx hb dX7_period_17 (by decide) (fun h9 => absurd h9 (by decide)) (fun _ => ?_)
  refine lv_iload hx hb dX7_period_20 (lv_at hl 0 rfl) ?_
  refine lv_iload_n hx hb dX7_period_22 rfl (lv_at hl 3 rfl) ?_
  refine lv_iadd hx hb dX7_period_23 ?_
  refine ax_i (y := 4) (by decide) ?_
  refine lv_bipush (v := 8) hx hb dX7_period_24 (by decide) ?_
  refine lv_irem hx hb dX7_period_26 (by decide) ?_
  refine ax_i (y := 4) (by decide) ?_
  refine lv_istore (lv' := [(5, .int 4), (4, .int 3), (3, .int 1), (2, .int 1), (0, .ref y), (1, .ref ja)]) hx hb dX7_period_27 hl (by decide) rfl (fun ls hl => ?_)
  refine lv_iload_n hx hb dX7_period_29 rfl (lv_at hl 2 rfl) ?_
  refine lv_aload_n hx hb dX7_period_30 rfl (lv_at hl 4 rfl) ?_
  refine lv_iload hx hb dX7_period_31 (lv_at hl 1 rfl) ?_
  refine lv_aload_n hx hb dX7_period_33 rfl (lv_at hl 5 rfl) ?_
  have hPc := hP.sub (ws' := [(y, .inr (11, [.int th, .ref ys, .ref yp, .int 0])), (ys, .inr (3, [.int 0, .ref (ta 4), .int 0])), (yp, .inr (3, [.int 0, .ref (ta 4), .int 0]))]) [0, 1, 2] rfl
  have hKc := hK.sub (tys' := []) [] rfl
  refine va_calll (va_runV (As := [.int 3, .ref ja]) (rest := [.int 1]) ⟨hx, hb, hml, hown, hts⟩ (c_X7_whole_ l dC dI y ys yp sa ta th 3 ja) (cwV 2 hts gX7_period_X7_whole_ rfl rfl rfl (by decide +kernel) ⟨Nat.le_of_ble_eq_true rfl, Nat.le_of_ble_eq_true rfl⟩) ⟨ax_fbR, va_recv hK hP (ci := 11) (q0 := 0) rfl rfl, ax_prR hPc hKc hS hE⟩ rfl rfl hl.1 rfl (lv_room (Nat.le_of_ble_eq_true rfl)) dX7_period_34 ⟨Nat.le_of_ble_eq_true rfl, Nat.le_of_ble_eq_true rfl⟩) hS (fun _ _ h9 => h9.elim) (fun _ h9 => h9.elim) (fun r_37 u_39  t H locs ht hvm hw_38 hB hz1 hk1 hS => ?_)
  have hP := ax_keep hP (fun _ h9 => h9) hk1
  refine ax_l (y := 0) hw_38 ?_
  refine lv_aload_n hx hb dX7_period_37 rfl (lv_at hl 4 rfl) ?_
  refine lv_iload hx hb dX7_period_38 (lv_at hl 0 rfl) ?_
  refine lv_aload_n hx hb dX7_period_40 rfl (lv_at hl 5 rfl) ?_
  have hPc := hP.sub (ws' := [(y, .inr (11, [.int th, .ref ys, .ref yp, .int 0])), (ys, .inr (3, [.int 0, .ref (ta 4), .int 0])), (yp, .inr (3, [.int 0, .ref (ta 4), .int 0]))]) [0, 1, 2] rfl
  have hKc := hK.sub (tys' := []) [] rfl
  refine va_calll (va_runV (As := [.int 4, .ref ja]) (rest := [.long 0, .int 1]) ⟨hx, hb, hml, hown, hts⟩ (c_X7_whole_ l dC dI y ys yp sa ta th 4 ja) (cwV 2 hts gX7_period_X7_whole_ rfl rfl rfl (by decide +kernel) ⟨Nat.le_of_ble_eq_true rfl, Nat.le_of_ble_eq_true rfl⟩) ⟨ax_fbR, va_recv hK hP (ci := 11) (q0 := 0) rfl rfl, ax_prR hPc hKc hS hE⟩ rfl rfl hl.1 rfl (lv_room (Nat.le_of_ble_eq_true rfl)) dX7_period_41 ⟨Nat.le_of_ble_eq_true rfl, Nat.le_of_ble_eq_true rfl⟩) hS (fun _ _ h9 => h9.elim) (fun _ h9 => h9.elim) (fun r_40 u_42  t H locs ht hvm hw_41 hB hz1 hk1 hS => ?_)
  have hP := ax_keep hP (fun _ h9 => h9) hk1
  refine ax_l (y := 0) hw_41 ?_
  refine W.lcmp hx hb dX7_period_44 ?_
  refine ax_i (y := 0) (by decide) ?_
  refine lv_if_ne (tgt := 70) hx hb dX7_period_45 (by decide) (fun h9 => absurd rfl h9) (fun _ => ?_)
  refine lv_aload_n hx hb dX7_period_48 rfl (lv_at hl 4 rfl) ?_
  refine lv_iload hx hb dX7_period_49 (lv_at hl 1 rfl) ?_
  refine lv_aload_n hx hb dX7_period_51 rfl (lv_at hl 5 rfl) ?_
  have hPc := hP.sub (ws' := [(y, .inr (11, [.int th, .ref ys, .ref yp, .int 0])), (ys, .inr (3, [.int 0, .ref (ta 4), .int 0])), (yp, .inr (3, [.int 0, .ref (ta 4), .int 0]))]) [0, 1, 2] rfl
  have hKc := hK.sub (tys' := []) [] rfl
  refine va_calll (va_runV (As := [.int 3, .ref ja]) (rest := [.int 1]) ⟨hx, hb, hml, hown, hts⟩ (c_X7_root_ l dC dI y ys yp sa ta th 3 ja) (cwV 2 hts gX7_period_X7_root_ rfl rfl rfl (by decide +kernel) ⟨Nat.le_of_ble_eq_true rfl, Nat.le_of_ble_eq_true rfl⟩) ⟨ax_fbR, va_recv hK hP (ci := 11) (q0 := 0) rfl rfl, ax_prR hPc hKc hS hE⟩ rfl rfl hl.1 rfl (lv_room (Nat.le_of_ble_eq_true rfl)) dX7_period_52 ⟨Nat.le_of_ble_eq_true rfl, Nat.le_of_ble_eq_true rfl⟩) hS (fun _ _ h9 => h9.elim) (fun _ h9 => h9.elim) (fun r_43 u_45  t H locs ht hvm hw_44 hB hz1 hk1 hS => ?_)
  have hP := ax_keep hP (fun _ h9 => h9) hk1
  refine ax_l (y := 0) hw_44 ?_
  refine lv_aload_n hx hb dX7_period_55 rfl (lv_at hl 4 rfl) ?_
  refine lv_iload hx hb dX7_period_56 (lv_at hl 0 rfl) ?_
  refine lv_aload_n hx hb dX7_period_58 rfl (lv_at hl 5 rfl) ?_
  have hPc := hP.sub (ws' := [(y, .inr (11, [.int th, .ref ys, .ref yp, .int 0])), (ys, .inr (3, [.int 0, .ref (ta 4), .int 0])), (yp, .inr (3, [.int 0, .ref (ta 4), .int 0]))]) [0, 1, 2] rfl
  have hKc := hK.sub (tys' := []) [] rfl
  refine va_calll (va_runV (As := [.int 4, .ref ja]) (rest := [.long 0, .int 1]) ⟨hx, hb, hml, hown, hts⟩ (c_X7_root_ l dC dI y ys yp sa ta th 4 ja) (cwV 2 hts gX7_period_X7_root_ rfl rfl rfl (by decide +kernel) ⟨Nat.le_of_ble_eq_true rfl, Nat.le_of_ble_eq_true rfl⟩) ⟨ax_fbR, va_recv hK hP (ci := 11) (q0 := 0) rfl rfl, ax_prR hPc hKc hS hE⟩ rfl rfl hl.1 rfl (lv_room (Nat.le_of_ble_eq_true rfl)) dX7_period_59 ⟨Nat.le_of_ble_eq_true rfl, Nat.le_of_ble_eq_true rfl⟩) hS (fun _ _ h9 => h9.elim) (fun _ h9 => h9.elim) (fun r_46 u_48  t H locs ht hvm hw_47 hB hz1 hk1 hS => ?_)
  have hP := ax_keep hP (fun _ h9 => h9) hk1
  refine ax_l (y := 0) hw_47 ?_
  refine W.lcmp hx hb dX7_period_62 ?_
  refine ax_i (y := 0) (by decide) ?_
  refine lv_if_ne (tgt := 70) hx hb dX7_period_63 (by decide) (fun h9 => absurd rfl h9) (fun _ => ?_)
  refine lv_iconst (v := 1) hx hb dX7_period_66 (by decide) ?_
  refine lv_goto (tgt := 71) hx hb dX7_period_67 (by decide) ?_
  refine lv_iand hx hb dX7_period_71 ?_
  refine ax_i (y := 1) (by decide) ?_
  refine lv_istore_n (lv' := [(3, .int 1), (5, .int 4), (4, .int 3), (2, .int 1), (0, .ref y), (1, .ref ja)]) hx hb dX7_period_72 rfl hl (by decide) rfl (fun ls hl => ?_)
  refine lv_iinc (v := 4) (lv' := [(4, .int 4), (3, .int 1), (5, .int 4), (2, .int 1), (0, .ref y), (1, .ref ja)]) hx hb dX7_period_73 hl (k := 2) rfl (by decide) (by decide) rfl (fun ls hl => ?_)
  refine lv_goto (tgt := 13) hx hb dX7_period_76 (by decide) ?_
  refine lv_iload hx hb dX7_period_13 (lv_at hl 0 rfl) ?_
  refine lv_bipush (v := 8) hx hb dX7_period_15 (by decide) ?_
  refine lv_icmp_ge (tgt := 79) hx hb dX7_period_17 (by decide) (fun h9 => absurd h9 (by decide)) (fun _ => ?_)
  refine lv_iload hx hb dX7_period_20 (lv_at hl 0 rfl) ?_
  refine lv_iload_n hx hb dX7_period_22 rfl (lv_at hl 3 rfl) ?_
  refine lv_iadd hx hb dX7_period_23 ?_
  refine ax_i (y := 5) (by decide) ?_
  refine lv_bipush (v := 8) hx hb dX7_period_24 (by decide) ?_
  refine lv_irem hx hb dX7_period_26 (by decide) ?_
  refine ax_i (y := 5) (by decide) ?_
  refine lv_istore (lv' := [(5, .int 5), (4, .int 4), (3, .int 1), (2, .int 1), (0, .ref y), (1, .ref ja)]) hx hb dX7_period_27 hl (by decide) rfl (fun ls hl => ?_)
  refine lv_iload_n hx hb dX7_period_29 rfl (lv_at hl 2 rfl) ?_
  refine lv_aload_n hx hb dX7_period_30 rfl (lv_at hl 4 rfl) ?_
  refine lv_iload hx hb dX7_period_31 (lv_at hl 1 rfl) ?_
  refine lv_aload_n hx hb dX7_period_33 rfl (lv_at hl 5 rfl) ?_
  have hPc := hP.sub (ws' := [(y, .inr (11, [.int th, .ref ys, .ref yp, .int 0])), (ys, .inr (3, [.int 0, .ref (ta 4), .int 0])), (yp, .inr (3, [.int 0, .ref (ta 4), .int 0]))]) [0, 1, 2] rfl
  have hKc := hK.sub (tys' := []) [] rfl
  refine va_calll (va_runV (As := [.int 4, .ref ja]) (rest := [.int 1]) ⟨hx, hb, hml, hown, hts⟩ (c_X7_whole_ l dC dI y ys yp sa ta th 4 ja) (cwV 2 hts gX7_period_X7_whole_ rfl rfl rfl (by decide +kernel) ⟨Nat.le_of_ble_eq_true rfl, Nat.le_of_ble_eq_true rfl⟩) ⟨ax_fbR, va_recv hK hP (ci := 11) (q0 := 0) rfl rfl, ax_prR hPc hKc hS hE⟩ rfl rfl hl.1 rfl (lv_room (Nat.le_of_ble_eq_true rfl)) dX7_period_34 ⟨Nat.le_of_ble_eq_true rfl, Nat.le_of_ble_eq_true rfl⟩) hS (fun _ _ h9 => h9.elim) (fun _ h9 => h9.elim) (fun r_49 u_51  t H locs ht hvm hw_50 hB hz1 hk1 hS => ?_)
  have hP := ax_keep hP (fun _ h9 => h9) hk1
  refine ax_l (y := 0) hw_50 ?_
  refine lv_aload_n hx hb dX7_period_37 rfl (lv_at hl 4 rfl) ?_
  refine lv_iload hx hb dX7_period_38 (lv_at hl 0 rfl) ?_
  refine lv_aload_n hx hb dX7_period_40 rfl (lv_at hl 5 rfl) ?_
  have hPc := hP.sub (ws' := [(y, .inr (11, [.int th, .ref ys, .ref yp, .int 0])), (ys, .inr (3, [.int 0, .ref (ta 4), .int 0])), (yp, .inr (3, [.int 0, .ref (ta 4), .int 0]))]) [0, 1, 2] rfl
  have hKc := hK.sub (tys' := []) [] rfl
  refine va_calll (va_runV (As := [.int 5, .ref ja]) (rest := [.long 0, .int 1]) ⟨hx, hb, hml, hown, hts⟩ (c_X7_whole_ l dC dI y ys yp sa ta th 5 ja) (cwV 2 hts gX7_period_X7_whole_ rfl rfl rfl (by decide +kernel) ⟨Nat.le_of_ble_eq_true rfl, Nat.le_of_ble_eq_true rfl⟩) ⟨ax_fbR, va_recv hK hP (ci := 11) (q0 := 0) rfl rfl, ax_prR hPc hKc hS hE⟩ rfl rfl hl.1 rfl (lv_room (Nat.le_of_ble_eq_true rfl)) dX7_period_41 ⟨Nat.le_of_ble_eq_true rfl, Nat.le_of_ble_eq_true rfl⟩) hS (fun _ _ h9 => h9.elim) (fun _ h9 => h9.elim) (fun r_52 u_54  t H locs ht hvm hw_53 hB hz1 hk1 hS => ?_)
  have hP := ax_keep hP (fun _ h9 => h9) hk1
  refine ax_l (y := 0) hw_53 ?_
  refine W.lcmp hx hb dX7_period_44 ?_
  refine ax_i (y := 0) (by decide) ?_
  refine lv_if_ne (tgt := 70) hx hb dX7_period_45 (by decide) (fun h9 => absurd rfl h9) (fun _ => ?_)
  refine lv_aload_n hx hb dX7_period_48 rfl (lv_at hl 4 rfl) ?_
  refine lv_iload hx hb dX7_period_49 (lv_at hl 1 rfl) ?_
  refine lv_aload_n hx hb dX7_period_51 rfl (lv_at hl 5 rfl) ?_
  have hPc := hP.sub (ws' := [(y, .inr (11, [.int th, .ref ys, .ref yp, .int 0])), (ys, .inr (3, [.int 0, .ref (ta 4), .int 0])), (yp, .inr (3, [.int 0, .ref (ta 4), .int 0]))]) [0, 1, 2] rfl
  have hKc := hK.sub (tys' := []) [] rfl
  refine va_calll (va_runV (As := [.int 4, .ref ja]) (rest := [.int 1]) ⟨hx, hb, hml, hown, hts⟩ (c_X7_root_ l dC dI y ys yp sa ta th 4 ja) (cwV 2 hts gX7_period_X7_root_ rfl rfl rfl (by decide +kernel) ⟨Nat.le_of_ble_eq_true rfl, Nat.le_of_ble_eq_true rfl⟩) ⟨ax_fbR, va_recv hK hP (ci := 11) (q0 := 0) rfl rfl, ax_prR hPc hKc hS hE⟩ rfl rfl hl.1 rfl (lv_room (Nat.le_of_ble_eq_true rfl)) dX7_period_52 ⟨Nat.le_of_ble_eq_true rfl, Nat.le_of_ble_eq_true rfl⟩) hS (fun _ _ h9 => h9.elim) (fun _ h9 => h9.elim) (fun r_55 u_57  t H locs ht hvm hw_56 hB hz1 hk1 hS => ?_)
  have hP := ax_keep hP (fun _ h9 => h9) hk1
  refine ax_l (y := 0) hw_56 ?_
  refine lv_aload_n hx hb dX7_period_55 rfl (lv_at hl 4 rfl) ?_
  refine lv_iload hx hb dX7_period_56 (lv_at hl 0 rfl) ?_
  refine lv_aload_n hx hb dX7_period_58 rfl (lv_at hl 5 rfl) ?_
  have hPc := hP.sub (ws' := [(y, .inr (11, [.int th, .ref ys, .ref yp, .int 0])), (ys, .inr (3, [.int 0, .ref (ta 4), .int 0])), (yp, .inr (3, [.int 0, .ref (ta 4), .int 0]))]) [0, 1, 2] rfl
  have hKc := hK.sub (tys' := []) [] rfl
  refine va_calll (va_runV (As := [.int 5, .ref ja]) (rest := [.long 0, .int 1]) ⟨hx, hb, hml, hown, hts⟩ (c_X7_root_ l dC dI y ys yp sa ta th 5 ja) (cwV 2 hts gX7_period_X7_root_ rfl rfl rfl (by decide +kernel) ⟨Nat.le_of_ble_eq_true rfl, Nat.le_of_ble_eq_true rfl⟩) ⟨ax_fbR, va_recv hK hP (ci := 11) (q0 := 0) rfl rfl, ax_prR hPc hKc hS hE⟩ rfl rfl hl.1 rfl (lv_room (Nat.le_of_ble_eq_true rfl)) dX7_period_59 ⟨Nat.le_of_ble_eq_true rfl, Nat.le_of_ble_eq_true rfl⟩) hS (fun _ _ h9 => h9.elim) (fun _ h9 => h9.elim) (fun r_58 u_60  t H locs ht hvm hw_59 hB hz1 hk1 hS => ?_)
  have hP := ax_keep hP (fun _ h9 => h9) hk1
  refine ax_l (y := 0) hw_59 ?_
  refine W.lcmp hx hb dX7_period_62 ?_
  refine ax_i (y := 0) (by decide) ?_
  refine lv_if_ne (tgt := 70) hx hb dX7_period_63 (by decide) (fun h9 => absurd rfl h9) (fun _ => ?_)
  refine lv_iconst (v := 1) hx hb dX7_period_66 (by decide) ?_
  refine lv_goto (tgt := 71) hx hb dX7_period_67 (by decide) ?_
  refine lv_iand hx hb dX7_period_71 ?_
  refine ax_i (y := 1) (by decide) ?_
  refine lv_istore_n (lv' := [(3, .int 1), (5, .int 5), (4, .int 4), (2, .int 1), (0, .ref y), (1, .ref ja)]) hx hb dX7_period_72 rfl hl (by decide) rfl (fun ls hl => ?_)
  refine lv_iinc (v := 5) (lv' := [(4, .int 5), (3, .int 1), (5, .int 5), (2, .int 1), (0, .ref y), (1, .ref ja)]) hx hb dX7_period_73 hl (k := 2) rfl (by decide) (by decide) rfl (fun ls hl => ?_)
  refine lv_goto (tgt := 13) hx hb dX7_period_76 (by decide) ?_
  refine lv_iload hx hb dX7_period_13 (lv_at hl 0 rfl) ?_
  refine lv_bipush (v := 8) hx hb dX7_period_15 (by decide) ?_
  refine lv_icmp_ge (tgt := 79) hx hb dX7_period_17 (by decide) (fun h9 => absurd h9 (by decide)) (fun _ => ?_)
  refine lv_iload hx hb dX7_period_20 (lv_at hl 0 rfl) ?_
  refine lv_iload_n hx hb dX7_period_22 rfl (lv_at hl 3 rfl) ?_
  refine lv_iadd hx hb dX7_period_23 ?_
  refine ax_i (y := 6) (by decide) ?_
  refine lv_bipush (v := 8) hx hb dX7_period_24 (by decide) ?_
  refine lv_irem hx hb dX7_period_26 (by decide) ?_
  refine ax_i (y := 6) (by decide) ?_
  refine lv_istore (lv' := [(5, .int 6), (4, .int 5), (3, .int 1), (2, .int 1), (0, .ref y), (1, .ref ja)]) hx hb dX7_period_27 hl (by decide) rfl (fun ls hl => ?_)
  refine lv_iload_n hx hb dX7_period_29 rfl (lv_at hl 2 rfl) ?_
  refine lv_aload_n hx hb dX7_period_30 rfl (lv_at hl 4 rfl) ?_
  refine lv_iload hx hb dX7_period_31 (lv_at hl 1 rfl) ?_
  refine lv_aload_n hx hb dX7_period_33 rfl (lv_at hl 5 rfl) ?_
  have hPc := hP.sub (ws' := [(y, .inr (11, [.int th, .ref ys, .ref yp, .int 0])), (ys, .inr (3, [.int 0, .ref (ta 4), .int 0])), (yp, .inr (3, [.int 0, .ref (ta 4), .int 0]))]) [0, 1, 2] rfl
  have hKc := hK.sub (tys' := []) [] rfl
  refine va_calll (va_runV (As := [.int 5, .ref ja]) (rest := [.int 1]) ⟨hx, hb, hml, hown, hts⟩ (c_X7_whole_ l dC dI y ys yp sa ta th 5 ja) (cwV 2 hts gX7_period_X7_whole_ rfl rfl rfl (by decide +kernel) ⟨Nat.le_of_ble_eq_true rfl, Nat.le_of_ble_eq_true rfl⟩) ⟨ax_fbR, va_recv hK hP (ci := 11) (q0 := 0) rfl rfl, ax_prR hPc hKc hS hE⟩ rfl rfl hl.1 rfl (lv_room (Nat.le_of_ble_eq_true rfl)) dX7_period_34 ⟨Nat.le_of_ble_eq_true rfl, Nat.le_of_ble_eq_true rfl⟩) hS (fun _ _ h9 => h9.elim) (fun _ h9 => h9.elim) (fun r_61 u_63  t H locs ht hvm hw_62 hB hz1 hk1 hS => ?_)
  have hP := ax_keep hP (fun _ h9 => h9) hk1
  refine ax_l (y := 0) hw_62 ?_
  refine lv_aload_n hx hb dX7_period_37 rfl (lv_at hl 4 rfl) ?_
  refine lv_iload hx hb dX7_period_38 (lv_at hl 0 rfl) ?_
  refine lv_aload_n hx hb dX7_period_40 rfl (lv_at hl 5 rfl) ?_
  have hPc := hP.sub (ws' := [(y, .inr (11, [.int th, .ref ys, .ref yp, .int 0])), (ys, .inr (3, [.int 0, .ref (ta 4), .int 0])), (yp, .inr (3, [.int 0, .ref (ta 4), .int 0]))]) [0, 1, 2] rfl
  have hKc := hK.sub (tys' := []) [] rfl
  refine va_calll (va_runV (As := [.int 6, .ref ja]) (rest := [.long 0, .int 1]) ⟨hx, hb, hml, hown, hts⟩ (c_X7_whole_ l dC dI y ys yp sa ta th 6 ja) (cwV 2 hts gX7_period_X7_whole_ rfl rfl rfl (by decide +kernel) ⟨Nat.le_of_ble_eq_true rfl, Nat.le_of_ble_eq_true rfl⟩) ⟨ax_fbR, va_recv hK hP (ci := 11) (q0 := 0) rfl rfl, ax_prR hPc hKc hS hE⟩ rfl rfl hl.1 rfl (lv_room (Nat.le_of_ble_eq_true rfl)) dX7_period_41 ⟨Nat.le_of_ble_eq_true rfl, Nat.le_of_ble_eq_true rfl⟩) hS (fun _ _ h9 => h9.elim) (fun _ h9 => h9.elim) (fun r_64 u_66  t H locs ht hvm hw_65 hB hz1 hk1 hS => ?_)
  have hP := ax_keep hP (fun _ h9 => h9) hk1
  refine ax_l (y := 0) hw_65 ?_
  refine W.lcmp hx hb dX7_period_44 ?_
  refine ax_i (y := 0) (by decide) ?_
  refine lv_if_ne (tgt := 70) hx hb dX7_period_45 (by decide) (fun h9 => absurd rfl h9) (fun _ => ?_)
  refine lv_aload_n hx hb dX7_period_48 rfl (lv_at hl 4 rfl) ?_
  refine lv_iload hx hb dX7_period_49 (lv_at hl 1 rfl) ?_
  refine lv_aload_n hx hb dX7_period_51 rfl (lv_at hl 5 rfl) ?_
  have hPc := hP.sub (ws' := [(y, .inr (11, [.int th, .ref ys, .ref yp, .int 0])), (ys, .inr (3, [.int 0, .ref (ta 4), .int 0])), (yp, .inr (3, [.int 0, .ref (ta 4), .int 0]))]) [0, 1, 2] rfl
  have hKc := hK.sub (tys' := []) [] rfl
  refine va_calll (va_runV (As := [.int 5, .ref ja]) (rest := [.int 1]) ⟨hx, hb, hml, hown, hts⟩ (c_X7_root_ l dC dI y ys yp sa ta th 5 ja) (cwV 2 hts gX7_period_X7_root_ rfl rfl rfl (by decide +kernel) ⟨Nat.le_of_ble_eq_true rfl, Nat.le_of_ble_eq_true rfl⟩) ⟨ax_fbR, va_recv hK hP (ci := 11) (q0 := 0) rfl rfl, ax_prR hPc hKc hS hE⟩ rfl rfl hl.1 rfl (lv_room (Nat.le_of_ble_eq_true rfl)) dX7_period_52 ⟨Nat.le_of_ble_eq_true rfl, Nat.le_of_ble_eq_true rfl⟩) hS (fun _ _ h9 => h9.elim) (fun _ h9 => h9.elim) (fun r_67 u_69  t H locs ht hvm hw_68 hB hz1 hk1 hS => ?_)
  have hP := ax_keep hP (fun _ h9 => h9) hk1
  refine ax_l (y := 0) hw_68 ?_
  refine lv_aload_n hx hb dX7_period_55 rfl (lv_at hl 4 rfl) ?_
  refine lv_iload hx hb dX7_period_56 (lv_at hl 0 rfl) ?_
  refine lv_aload_n hx hb dX7_period_58 rfl (lv_at hl 5 rfl) ?_
  have hPc := hP.sub (ws' := [(y, .inr (11, [.int th, .ref ys, .ref yp, .int 0])), (ys, .inr (3, [.int 0, .ref (ta 4), .int 0])), (yp, .inr (3, [.int 0, .ref (ta 4), .int 0]))]) [0, 1, 2] rfl
  have hKc := hK.sub (tys' := []) [] rfl
  refine va_calll (va_runV (As := [.int 6, .ref ja]) (rest := [.long 0, .int 1]) ⟨hx, hb, hml, hown, hts⟩ (c_X7_root_ l dC dI y ys yp sa ta th 6 ja) (cwV 2 hts gX7_period_X7_root_ rfl rfl rfl (by decide +kernel) ⟨Nat.le_of_ble_eq_true rfl, Nat.le_of_ble_eq_true rfl⟩) ⟨ax_fbR, va_recv hK hP (ci := 11) (q0 := 0) rfl rfl, ax_prR hPc hKc hS hE⟩ rfl rfl hl.1 rfl (lv_room (Nat.le_of_ble_eq_true rfl)) dX7_period_59 ⟨Nat.le_of_ble_eq_true rfl, Nat.le_of_ble_eq_true rfl⟩) hS (fun _ _ h9 => h9.elim) (fun _ h9 => h9.elim) (fun r_70 u_72  t H locs ht hvm hw_71 hB hz1 hk1 hS => ?_)
  have hP := ax_keep hP (fun _ h9 => h9) hk1
  refine ax_l (y := 0) hw_71 ?_
  refine W.lcmp hx hb dX7_period_62 ?_
  refine ax_i (y := 0) (by decide) ?_
  refine lv_if_ne (tgt := 70) hx hb dX7_period_63 (by decide) (fun h9 => absurd rfl h9) (fun _ => ?_)
  refine lv_iconst (v := 1) hx hb dX7_period_66 (by decide) ?_
  refine lv_goto (tgt := 71) hx hb dX7_period_67 (by decide) ?_
  refine lv_iand hx hb dX7_period_71 ?_
  refine ax_i (y := 1) (by decide) ?_
  refine lv_istore_n (lv' := [(3, .int 1), (5, .int 6), (4, .int 5), (2, .int 1), (0, .ref y), (1, .ref ja)]) hx hb dX7_period_72 rfl hl (by decide) rfl (fun ls hl => ?_)
  refine lv_iinc (v := 6) (lv' := [(4, .int 6), (3, .int 1), (5, .int 6), (2, .int 1), (0, .ref y), (1, .ref ja)]) hx hb dX7_period_73 hl (k := 2) rfl (by decide) (by decide) rfl (fun ls hl => ?_)
  refine lv_goto (tgt := 13) hx hb dX7_period_76 (by decide) ?_
  refine lv_iload hx hb dX7_period_13 (lv_at hl 0 rfl) ?_
  refine lv_bipush (v := 8) hx hb dX7_period_15 (by decide) ?_
  refine lv_icmp_ge (tgt := 79) hx hb dX7_period_17 (by decide) (fun h9 => absurd h9 (by decide)) (fun _ => ?_)
  refine lv_iload hx hb dX7_period_20 (lv_at hl 0 rfl) ?_
  refine lv_iload_n hx hb dX7_period_22 rfl (lv_at hl 3 rfl) ?_
  refine lv_iadd hx hb dX7_period_23 ?_
  refine ax_i (y := 7) (by decide) ?_
  refine lv_bipush (v := 8) hx hb dX7_period_24 (by decide) ?_
  refine lv_irem hx hb dX7_period_26 (by decide) ?_
  refine ax_i (y := 7) (by decide) ?_
  refine lv_istore (lv' := [(5, .int 7), (4, .int 6), (3, .int 1), (2, .int 1), (0, .ref y), (1, .ref ja)]) hx hb dX7_period_27 hl (by decide) rfl (fun ls hl => ?_)
  refine lv_iload_n hx hb dX7_period_29 rfl (lv_at hl 2 rfl) ?_
  refine lv_aload_n hx hb dX7_period_30 rfl (lv_at hl 4 rfl) ?_
  refine lv_iload hx hb dX7_period_31 (lv_at hl 1 rfl) ?_
  refine lv_aload_n hx hb dX7_period_33 rfl (lv_at hl 5 rfl) ?_
  have hPc := hP.sub (ws' := [(y, .inr (11, [.int th, .ref ys, .ref yp, .int 0])), (ys, .inr (3, [.int 0, .ref (ta 4), .int 0])), (yp, .inr (3, [.int 0, .ref (ta 4), .int 0]))]) [0, 1, 2] rfl
  have hKc := hK.sub (tys' := []) [] rfl
  refine va_calll (va_runV (As := [.int 6, .ref ja]) (rest := [.int 1]) ⟨hx, hb, hml, hown, hts⟩ (c_X7_whole_ l dC dI y ys yp sa ta th 6 ja) (cwV 2 hts gX7_period_X7_whole_ rfl rfl rfl (by decide +kernel) ⟨Nat.le_of_ble_eq_true rfl, Nat.le_of_ble_eq_true rfl⟩) ⟨ax_fbR, va_recv hK hP (ci := 11) (q0 := 0) rfl rfl, ax_prR hPc hKc hS hE⟩ rfl rfl hl.1 rfl (lv_room (Nat.le_of_ble_eq_true rfl)) dX7_period_34 ⟨Nat.le_of_ble_eq_true rfl, Nat.le_of_ble_eq_true rfl⟩) hS (fun _ _ h9 => h9.elim) (fun _ h9 => h9.elim) (fun r_73 u_75  t H locs ht hvm hw_74 hB hz1 hk1 hS => ?_)
  have hP := ax_keep hP (fun _ h9 => h9) hk1
  refine ax_l (y := 0) hw_74 ?_
  refine lv_aload_n hx hb dX7_period_37 rfl (lv_at hl 4 rfl) ?_
  refine lv_iload hx hb dX7_period_38 (lv_at hl 0 rfl) ?_
  refine lv_aload_n hx hb dX7_period_40 rfl (lv_at hl 5 rfl) ?_
  have hPc := hP.sub (ws' := [(y, .inr (11, [.int th, .ref ys, .ref yp, .int 0])), (ys, .inr (3, [.int 0, .ref (ta 4), .int 0])), (yp, .inr (3, [.int 0, .ref (ta 4), .int 0]))]) [0, 1, 2] rfl
  have hKc := hK.sub (tys' := []) [] rfl
  refine va_calll (va_runV (As := [.int 7, .ref ja]) (rest := [.long 0, .int 1]) ⟨hx, hb, hml, hown, hts⟩ (c_X7_whole_ l dC dI y ys yp sa ta th 7 ja) (cwV 2 hts gX7_period_X7_whole_ rfl rfl rfl (by decide +kernel) ⟨Nat.le_of_ble_eq_true rfl, Nat.le_of_ble_eq_true rfl⟩) ⟨ax_fbR, va_recv hK hP (ci := 11) (q0 := 0) rfl rfl, ax_prR hPc hKc hS hE⟩ rfl rfl hl.1 rfl (lv_room (Nat.le_of_ble_eq_true rfl)) dX7_period_41 ⟨Nat.le_of_ble_eq_true rfl, Nat.le_of_ble_eq_true rfl⟩) hS (fun _ _ h9 => h9.elim) (fun _ h9 => h9.elim) (fun r_76 u_78  t H locs ht hvm hw_77 hB hz1 hk1 hS => ?_)
  have hP := ax_keep hP (fun _ h9 => h9) hk1
  refine ax_l (y := 0) hw_77 ?_
  refine W.lcmp hx hb dX7_period_44 ?_
  refine ax_i (y := 0) (by decide) ?_
  refine lv_if_ne (tgt := 70) hx hb dX7_period_45 (by decide) (fun h9 => absurd rfl h9) (fun _ => ?_)
  refine lv_aload_n hx hb dX7_period_48 rfl (lv_at hl 4 rfl) ?_
  refine lv_iload hx hb dX7_period_49 (lv_at hl 1 rfl) ?_
  refine lv_aload_n hx hb dX7_period_51 rfl (lv_at hl 5 rfl) ?_
  have hPc := hP.sub (ws' := [(y, .inr (11, [.int th, .ref ys, .ref yp, .int 0])), (ys, .inr (3, [.int 0, .ref (ta 4), .int 0])), (yp, .inr (3, [.int 0, .ref (ta 4), .int 0]))]) [0, 1, 2] rfl
  have hKc := hK.sub (tys' := []) [] rfl
  refine va_calll (va_runV (As := [.int 6, .ref ja]) (rest := [.int 1]) ⟨hx, hb, hml, hown, hts⟩ (c_X7_root_ l dC dI y ys yp sa ta th 6 ja) (cwV 2 hts gX7_period_X7_root_ rfl rfl rfl (by decide +kernel) ⟨Nat.le_of_ble_eq_true rfl, Nat.le_of_ble_eq_true rfl⟩) ⟨ax_fbR, va_recv hK hP (ci := 11) (q0 := 0) rfl rfl, ax_prR hPc hKc hS hE⟩ rfl rfl hl.1 rfl (lv_room (Nat.le_of_ble_eq_true rfl)) dX7_period_52 ⟨Nat.le_of_ble_eq_true rfl, Nat.le_of_ble_eq_true rfl⟩) hS (fun _ _ h9 => h9.elim) (fun _ h9 => h9.elim) (fun r_79 u_81  t H locs ht hvm hw_80 hB hz1 hk1 hS => ?_)
  have hP := ax_keep hP (fun _ h9 => h9) hk1
  refine ax_l (y := 0) hw_80 ?_
  refine lv_aload_n hx hb dX7_period_55 rfl (lv_at hl 4 rfl) ?_
  refine lv_iload hx hb dX7_period_56 (lv_at hl 0 rfl) ?_
  refine lv_aload_n hx hb dX7_period_58 rfl (lv_at hl 5 rfl) ?_
  have hPc := hP.sub (ws' := [(y, .inr (11, [.int th, .ref ys, .ref yp, .int 0])), (ys, .inr (3, [.int 0, .ref (ta 4), .int 0])), (yp, .inr (3, [.int 0, .ref (ta 4), .int 0]))]) [0, 1, 2] rfl
  have hKc := hK.sub (tys' := []) [] rfl
  refine va_calll (va_runV (As := [.int 7, .ref ja]) (rest := [.long 0, .int 1]) ⟨hx, hb, hml, hown, hts⟩ (c_X7_root_ l dC dI y ys yp sa ta th 7 ja) (cwV 2 hts gX7_period_X7_root_ rfl rfl rfl (by decide +kernel) ⟨Nat.le_of_ble_eq_true rfl, Nat.le_of_ble_eq_true rfl⟩) ⟨ax_fbR, va_recv hK hP (ci := 11) (q0 := 0) rfl rfl, ax_prR hPc hKc hS hE⟩ rfl rfl hl.1 rfl (lv_room (Nat.le_of_ble_eq_true rfl)) dX7_period_59 ⟨Nat.le_of_ble_eq_true rfl, Nat.le_of_ble_eq_true rfl⟩) hS (fun _ _ h9 => h9.elim) (fun _ h9 => h9.elim) (fun r_82 u_84  t H locs ht hvm hw_83 hB hz1 hk1 hS => ?_)
  have hP := ax_keep hP (fun _ h9 => h9) hk1
  refine ax_l (y := 0) hw_83 ?_
  refine W.lcmp hx hb dX7_period_62 ?_
  refine ax_i (y := 0) (by decide) ?_
  refine lv_if_ne (tgt := 70) hx hb dX7_period_63 (by decide) (fun h9 => absurd rfl h9) (fun _ => ?_)
  refine lv_iconst (v := 1) hx hb dX7_period_66 (by decide) ?_
  refine lv_goto (tgt := 71) hx hb dX7_period_67 (by decide) ?_
  refine lv_iand hx hb dX7_period_71 ?_
  refine ax_i (y := 1) (by decide) ?_
  refine lv_istore_n (lv' := [(3, .int 1), (5, .int 7), (4, .int 6), (2, .int 1), (0, .ref y), (1, .ref ja)]) hx hb dX7_period_72 rfl hl (by decide) rfl (fun ls hl => ?_)
  refine lv_iinc (v := 7) (lv' := [(4, .int 7), (3, .int 1), (5, .int 7), (2, .int 1), (0, .ref y), (1, .ref ja)]) hx hb dX7_period_73 hl (k := 2) rfl (by decide) (by decide) rfl (fun ls hl => ?_)
  refine lv_goto (tgt := 13) hx hb dX7_period_76 (by decide) ?_
  refine lv_iload hx hb dX7_period_13 (lv_at hl 0 rfl) ?_
  refine lv_bipush (v := 8) hx hb dX7_period_15 (by decide) ?_
  refine lv_icmp_ge (tgt := 79) hx hb dX7_period_17 (by decide) (fun h9 => absurd h9 (by decide)) (fun _ => ?_)
  refine lv_iload hx hb dX7_period_20 (lv_at hl 0 rfl) ?_
  refine lv_iload_n hx hb dX7_period_22 rfl (lv_at hl 3 rfl) ?_
  refine lv_iadd hx hb dX7_period_23 ?_
  refine ax_i (y := 8) (by decide) ?_
  refine lv_bipush (v := 8) hx hb dX7_period_24 (by decide) ?_
  refine lv_irem hx hb dX7_period_26 (by decide) ?_
  refine ax_i (y := 0) (by decide) ?_
  refine lv_istore (lv' := [(5, .int 0), (4, .int 7), (3, .int 1), (2, .int 1), (0, .ref y), (1, .ref ja)]) hx hb dX7_period_27 hl (by decide) rfl (fun ls hl => ?_)
  refine lv_iload_n hx hb dX7_period_29 rfl (lv_at hl 2 rfl) ?_
  refine lv_aload_n hx hb dX7_period_30 rfl (lv_at hl 4 rfl) ?_
  refine lv_iload hx hb dX7_period_31 (lv_at hl 1 rfl) ?_
  refine lv_aload_n hx hb dX7_period_33 rfl (lv_at hl 5 rfl) ?_
  have hPc := hP.sub (ws' := [(y, .inr (11, [.int th, .ref ys, .ref yp, .int 0])), (ys, .inr (3, [.int 0, .ref (ta 4), .int 0])), (yp, .inr (3, [.int 0, .ref (ta 4), .int 0]))]) [0, 1, 2] rfl
  have hKc := hK.sub (tys' := []) [] rfl
  refine va_calll (va_runV (As := [.int 7, .ref ja]) (rest := [.int 1]) ⟨hx, hb, hml, hown, hts⟩ (c_X7_whole_ l dC dI y ys yp sa ta th 7 ja) (cwV 2 hts gX7_period_X7_whole_ rfl rfl rfl (by decide +kernel) ⟨Nat.le_of_ble_eq_true rfl, Nat.le_of_ble_eq_true rfl⟩) ⟨ax_fbR, va_recv hK hP (ci := 11) (q0 := 0) rfl rfl, ax_prR hPc hKc hS hE⟩ rfl rfl hl.1 rfl (lv_room (Nat.le_of_ble_eq_true rfl)) dX7_period_34 ⟨Nat.le_of_ble_eq_true rfl, Nat.le_of_ble_eq_true rfl⟩) hS (fun _ _ h9 => h9.elim) (fun _ h9 => h9.elim) (fun r_85 u_87  t H locs ht hvm hw_86 hB hz1 hk1 hS => ?_)
  have hP := ax_keep hP (fun _ h9 => h9) hk1
  refine ax_l (y := 0) hw_86 ?_
  refine lv_aload_n hx hb dX7_period_37 rfl (lv_at hl 4 rfl) ?_
  refine lv_iload hx hb dX7_period_38 (lv_at hl 0 rfl) ?_
  refine lv_aload_n hx hb dX7_period_40 rfl (lv_at hl 5 rfl) ?_
  have hPc := hP.sub (ws' := [(y, .inr (11, [.int th, .ref ys, .ref yp, .int 0])), (ys, .inr (3, [.int 0, .ref (ta 4), .int 0])), (yp, .inr (3, [.int 0, .ref (ta 4), .int 0]))]) [0, 1, 2] rfl
  have hKc := hK.sub (tys' := []) [] rfl
  refine va_calll (va_runV (As := [.int 0, .ref ja]) (rest := [.long 0, .int 1]) ⟨hx, hb, hml, hown, hts⟩ (c_X7_whole_ l dC dI y ys yp sa ta th 0 ja) (cwV 2 hts gX7_period_X7_whole_ rfl rfl rfl (by decide +kernel) ⟨Nat.le_of_ble_eq_true rfl, Nat.le_of_ble_eq_true rfl⟩) ⟨ax_fbR, va_recv hK hP (ci := 11) (q0 := 0) rfl rfl, ax_prR hPc hKc hS hE⟩ rfl rfl hl.1 rfl (lv_room (Nat.le_of_ble_eq_true rfl)) dX7_period_41 ⟨Nat.le_of_ble_eq_true rfl, Nat.le_of_ble_eq_true rfl⟩) hS (fun _ _ h9 => h9.elim) (fun _ h9 => h9.elim) (fun r_88 u_90  t H locs ht hvm hw_89 hB hz1 hk1 hS => ?_)
  have hP := ax_keep hP (fun _ h9 => h9) hk1
  refine ax_l (y := 0) hw_89 ?_
  refine W.lcmp hx hb dX7_period_44 ?_
  refine ax_i (y := 0) (by decide) ?_
  refine lv_if_ne (tgt := 70) hx hb dX7_period_45 (by decide) (fun h9 => absurd rfl h9) (fun _ => ?_)
  refine lv_aload_n hx hb dX7_period_48 rfl (lv_at hl 4 rfl) ?_
  refine lv_iload hx hb dX7_period_49 (lv_at hl 1 rfl) ?_
  refine lv_aload_n hx hb dX7_period_51 rfl (lv_at hl 5 rfl) ?_
  have hPc := hP.sub (ws' := [(y, .inr (11, [.int th, .ref ys, .ref yp, .int 0])), (ys, .inr (3, [.int 0, .ref (ta 4), .int 0])), (yp, .inr (3, [.int 0, .ref (ta 4), .int 0]))]) [0, 1, 2] rfl
  have hKc := hK.sub (tys' := []) [] rfl
  refine va_calll (va_runV (As := [.int 7, .ref ja]) (rest := [.int 1]) ⟨hx, hb, hml, hown, hts⟩ (c_X7_root_ l dC dI y ys yp sa ta th 7 ja) (cwV 2 hts gX7_period_X7_root_ rfl rfl rfl (by decide +kernel) ⟨Nat.le_of_ble_eq_true rfl, Nat.le_of_ble_eq_true rfl⟩) ⟨ax_fbR, va_recv hK hP (ci := 11) (q0 := 0) rfl rfl, ax_prR hPc hKc hS hE⟩ rfl rfl hl.1 rfl (lv_room (Nat.le_of_ble_eq_true rfl)) dX7_period_52 ⟨Nat.le_of_ble_eq_true rfl, Nat.le_of_ble_eq_true rfl⟩) hS (fun _ _ h9 => h9.elim) (fun _ h9 => h9.elim) (fun r_91 u_93  t H locs ht hvm hw_92 hB hz1 hk1 hS => ?_)
  have hP := ax_keep hP (fun _ h9 => h9) hk1
  refine ax_l (y := 0) hw_92 ?_
  refine lv_aload_n hx hb dX7_period_55 rfl (lv_at hl 4 rfl) ?_
  refine lv_iload hx hb dX7_period_56 (lv_at hl 0 rfl) ?_
  refine lv_aload_n hx hb dX7_period_58 rfl (lv_at hl 5 rfl) ?_
  have hPc := hP.sub (ws' := [(y, .inr (11, [.int th, .ref ys, .ref yp, .int 0])), (ys, .inr (3, [.int 0, .ref (ta 4), .int 0])), (yp, .inr (3, [.int 0, .ref (ta 4), .int 0]))]) [0, 1, 2] rfl
  have hKc := hK.sub (tys' := []) [] rfl
  refine va_calll (va_runV (As := [.int 0, .ref ja]) (rest := [.long 0, .int 1]) ⟨hx, hb, hml, hown, hts⟩ (c_X7_root_ l dC dI y ys yp sa ta th 0 ja) (cwV 2 hts gX7_period_X7_root_ rfl rfl rfl (by decide +kernel) ⟨Nat.le_of_ble_eq_true rfl, Nat.le_of_ble_eq_true rfl⟩) ⟨ax_fbR, va_recv hK hP (ci := 11) (q0 := 0) rfl rfl, ax_prR hPc hKc hS hE⟩ rfl rfl hl.1 rfl (lv_room (Nat.le_of_ble_eq_true rfl)) dX7_period_59 ⟨Nat.le_of_ble_eq_true rfl, Nat.le_of_ble_eq_true rfl⟩) hS (fun _ _ h9 => h9.elim) (fun _ h9 => h9.elim) (fun r_94 u_96  t H locs ht hvm hw_95 hB hz1 hk1 hS => ?_)
  have hP := ax_keep hP (fun _ h9 => h9) hk1
  refine ax_l (y := 0) hw_95 ?_
  refine W.lcmp hx hb dX7_period_62 ?_
  refine ax_i (y := 0) (by decide) ?_
  refine lv_if_ne (tgt := 70) hx hb dX7_period_63 (by decide) (fun h9 => absurd rfl h9) (fun _ => ?_)
  refine lv_iconst (v := 1) hx hb dX7_period_66 (by decide) ?_
  refine lv_goto (tgt := 71) hx hb dX7_period_67 (by decide) ?_
  refine lv_iand hx hb dX7_period_71 ?_
  refine ax_i (y := 1) (by decide) ?_
  refine lv_istore_n (lv' := [(3, .int 1), (5, .int 0), (4, .int 7), (2, .int 1), (0, .ref y), (1, .ref ja)]) hx hb dX7_period_72 rfl hl (by decide) rfl (fun ls hl => ?_)
  refine lv_iinc (v := 8) (lv' := [(4, .int 8), (3, .int 1), (5, .int 0), (2, .int 1), (0, .ref y), (1, .ref ja)]) hx hb dX7_period_73 hl (k := 2) rfl (by decide) (by decide) rfl (fun ls hl => ?_)
  refine lv_goto (tgt := 13) hx hb dX7_period_76 (by decide) ?_
  refine lv_iload hx hb dX7_period_13 (lv_at hl 0 rfl) ?_
  refine lv_bipush (v := 8) hx hb dX7_period_15 (by decide) ?_
  refine lv_icmp_ge (tgt := 79) hx hb dX7_period_17 (by decide) (fun _ => ?_) (fun h9 => absurd (by decide) h9)
  refine lv_iload_n hx hb dX7_period_79 rfl (lv_at hl 1 rfl) ?_
  refine lv_if_eq (tgt := 85) hx hb dX7_period_80 (by decide) (fun h9 => absurd h9 (by decide)) (fun _ => ?_)
  refine lv_iload_n hx hb dX7_period_83 rfl (lv_at hl 3 rfl) ?_
  refine W.widen (k := 0) (n := 0) (Nat.le_of_ble_eq_true rfl) (Nat.le_of_ble_eq_true rfl) ?_
  exact W.iret (v := 1) hx hb hr (fun t ht hW => ⟨⟨1, (), rfl, rfl, trivial⟩, hS.F ht⟩) hS.2.2 dX7_period_84
