set_option maxHeartbeats 4000000 in
set_option maxRecDepth 100000 in
theorem c_X2_wipe (l : Launch) (dC : Nat → ClassId) (dI : Nat → Nat → Nat) (xr xw xt : Nat) (cL : ClassId) (ta : Nat → Nat) (sz : Nat) (w : Nat → Int64) (t : Nat → Int64) : Met l yX2_wipe wsX2_wipe ({ frames := 1, cells := 0, slots := 0, locals := 24 }) (va_Pc [.ref xr] (ax_W (dC, dI) vwCl [(xr, .inr (2, [.ref xw, .ref xt])), (xw, .inl (cL, 8, .inr (.inl w))), (xt, .inl (cL, 8, .inr (.inl t)))] [(cL, .long)] ta sz)) (va_Qv (fun (u9 : Unit) => True) (fun (u9 : Unit) (t9 : State) => va_P (dC, dI) vwCl [(xr, .inr (2, [.ref xw, .ref xt])), (xw, .inl (cL, 8, .inr (.inl (fun _ => 0)))), (xt, .inl (cL, 8, .inr (.inl (fun _ => 0))))] t9.heap ∧ va_K (dC, dI) vwCl [(cL, .long)] t9 ∧ va_D (va_A [(xr, .inr (2, [.ref xw, .ref xt])), (xw, .inl (cL, 8, .inr (.inl w))), (xt, .inl (cL, 8, .inr (.inl t)))] sz) [(xr, .inr (2, [.ref xw, .ref xt])), (xw, .inl (cL, 8, .inr (.inl (fun _ => 0)))), (xt, .inl (cL, 8, .inr (.inl (fun _ => 0))))]) (va_A [(xr, .inr (2, [.ref xw, .ref xt])), (xw, .inl (cL, 8, .inr (.inl w))), (xt, .inl (cL, 8, .inr (.inl t)))] sz)) 0 0 (va_A [(xr, .inr (2, [.ref xw, .ref xt])), (xw, .inl (cL, 8, .inr (.inl w))), (xt, .inl (cL, 8, .inr (.inl t)))] sz) := by
  refine Met.ofW (cc := cX2_wipe) (maxL := 1) (ret := none) (by decide) rfl ?_
  intro p e s m args below meth c s₁ B hml hv
  obtain ⟨rfl, hsz, hP, hK, hD0, hE⟩ := hv
  have hx := B.exec
  have hb := B.bytes
  have hr := B.returns
  have hts := atoms_spec (ws := wsX2_wipe) B.pre
  have hown : s.vm.findClass RX2 = some m.cls := findClass_of_methodNamed B.named
  have hlocks := B.notSynchronized
  subst hsz
  have hD := hD0.self (sz := s.heap.size)
  generalize hAe : va_A [(xr, .inr (2, [.ref xw, .ref xt])), (xw, .inl (cL, 8, .inr (.inl w))), (xt, .inl (cL, 8, .inr (.inl t)))] s.heap.size = A at hD hE ⊢
  have hA : ∀ q : Nat, s.heap.size ≤ q → A q := fun q h => by rw [← hAe]; exact Or.inr h
  have hS : va_S A s.heap s.heap [] := va_S.rf
  have hl := lv_entry ([.ref xr]) (n := 1) (Nat.le_of_ble_eq_true rfl)
  rw [lg_entry_eq]
  generalize (lg_sl ([.ref xr]) ++ List.replicate (1 - (lg_sl ([.ref xr])).length) Slot.unset).toArray = ls at hl ⊢
  have hl : lv_has ls 1 [(0, .ref xr)] := hl
  have hP : va_P (dC, dI) vwCl [(xr, .inr (2, [.ref xw, .ref xt])), (xw, .inl (cL, 8, .inr (.inl w))), (xt, .inl (cL, 8, .inr (.inl t)))] s.heap := hP
  refine lv_aload_n hx hb dX2_wipe_0 rfl (lv_at hl 0 rfl) ?_
  refine va_get (D := (dC, dI)) (ci := 2) (v := .ref xw) (C := RX2) (T := TX2) (N := 2) hx hb hts (by decide +kernel) hown hK hP 0 rfl rfl 0 (by decide) (hts (.fieldLink RX2 9 "Diffractory$Row" "wholes" "[J") (by decide +kernel)) (fun _ h9 => h9) rfl dX2_wipe_1 ?_
  refine lv_lconst (v := 0) hx hb dX2_wipe_4 (by decide) ?_
  have hPc := hP.sub (ws' := [(xw, .inl (cL, 8, .inr (.inl w)))]) [1] rfl
  have hKc := hK.sub (tys' := [(cL, .long)]) [0] rfl
  have hDc := hD.sub (ws' := [(xw, .inl (cL, 8, .inr (.inl w)))]) [1] (by decide) rfl
  have hFc := va_free (wc := [(xw, .inl (cL, 8, .inr (.inl w)))]) hD hS hA [1] rfl
  refine va_callv (va_runS (As := [.ref xw, .long 0]) (rest := []) ⟨hx, hb, hml, hown, hts⟩ (c_J7_fill_d0a16 l dC dI xw cL ta s.heap.size w 8 0 (by omega)) (va_cwS 2 hts gX2_wipe_J7_fill_d0a16 rfl rfl rfl (by decide +kernel) ⟨Nat.le_of_ble_eq_true rfl, Nat.le_of_ble_eq_true rfl⟩) ⟨ax_fbW, ax_prW hPc hKc hDc hS hFc hE⟩ rfl rfl hl.1 rfl (lv_room (Nat.le_of_ble_eq_true rfl)) dX2_wipe_5 ⟨Nat.le_of_ble_eq_true rfl, Nat.le_of_ble_eq_true rfl⟩) hS (fun q _ h9 => hFc q h9) hFc (fun u_3 t8 H locs ht hvm hw_2 hB hz1 hk1 hS => ?_)
  obtain ⟨hP1, hK1, hD1⟩ := hB
  rw [ht] at hP1
  have hK1 := va_K.moved hvm.symm hK1
  obtain ⟨hP, hD⟩ := va_join (wr := [(xr, .inr (2, [.ref xw, .ref xt])), (xt, .inl (cL, 8, .inr (.inl t)))]) (w1 := [(xw, .inl (cL, 8, .inr (.inl (fun _ => 0))))]) hP hD [1] [0, 2] rfl rfl (by decide) (by decide) hk1 hFc hP1 hD1
  have hP : va_P (dC, dI) vwCl [(xr, .inr (2, [.ref xw, .ref xt])), (xt, .inl (cL, 8, .inr (.inl t))), (xw, .inl (cL, 8, .inr (.inl (fun _ => 0))))] H := hP
  have hD : va_D A [(xr, .inr (2, [.ref xw, .ref xt])), (xt, .inl (cL, 8, .inr (.inl t))), (xw, .inl (cL, 8, .inr (.inl (fun _ => 0))))] := hD
  refine lv_aload_n hx hb dX2_wipe_8 rfl (lv_at hl 0 rfl) ?_
  refine va_get (D := (dC, dI)) (ci := 2) (v := .ref xt) (C := RX2) (T := TX2) (N := 2) hx hb hts (by decide +kernel) hown hK hP 0 rfl rfl 1 (by decide) (hts (.fieldLink RX2 15 "Diffractory$Row" "roots" "[J") (by decide +kernel)) (fun _ h9 => h9) rfl dX2_wipe_9 ?_
  refine lv_lconst (v := 0) hx hb dX2_wipe_12 (by decide) ?_
  have hPc := hP.sub (ws' := [(xt, .inl (cL, 8, .inr (.inl t)))]) [1] rfl
  have hKc := hK.sub (tys' := [(cL, .long)]) [0] rfl
  have hDc := hD.sub (ws' := [(xt, .inl (cL, 8, .inr (.inl t)))]) [1] (by decide) rfl
  have hFc := va_free (wc := [(xt, .inl (cL, 8, .inr (.inl t)))]) hD hS hA [1] rfl
  refine va_callv (va_runS (As := [.ref xt, .long 0]) (rest := []) ⟨hx, hb, hml, hown, hts⟩ (c_J7_fill_d0a16 l dC dI xt cL ta H.size t 8 0 (by omega)) (va_cwS 2 hts gX2_wipe_J7_fill_d0a16 rfl rfl rfl (by decide +kernel) ⟨Nat.le_of_ble_eq_true rfl, Nat.le_of_ble_eq_true rfl⟩) ⟨ax_fbW, ax_prW hPc hKc hDc hS hFc hE⟩ rfl rfl hl.1 rfl (lv_room (Nat.le_of_ble_eq_true rfl)) dX2_wipe_13 ⟨Nat.le_of_ble_eq_true rfl, Nat.le_of_ble_eq_true rfl⟩) hS (fun q _ h9 => hFc q h9) hFc (fun u_7 t8 H locs ht hvm hw_6 hB hz1 hk1 hS => ?_)
  obtain ⟨hP1, hK1, hD1⟩ := hB
  rw [ht] at hP1
  have hK1 := va_K.moved hvm.symm hK1
  obtain ⟨hP, hD⟩ := va_join (wr := [(xr, .inr (2, [.ref xw, .ref xt])), (xw, .inl (cL, 8, .inr (.inl (fun _ => 0))))]) (w1 := [(xt, .inl (cL, 8, .inr (.inl (fun _ => 0))))]) hP hD [1] [0, 2] rfl rfl (by decide) (by decide) hk1 hFc hP1 hD1
  have hP : va_P (dC, dI) vwCl [(xr, .inr (2, [.ref xw, .ref xt])), (xw, .inl (cL, 8, .inr (.inl (fun _ => 0)))), (xt, .inl (cL, 8, .inr (.inl (fun _ => 0))))] H := hP
  have hD : va_D A [(xr, .inr (2, [.ref xw, .ref xt])), (xw, .inl (cL, 8, .inr (.inl (fun _ => 0)))), (xt, .inl (cL, 8, .inr (.inl (fun _ => 0))))] := hD
  refine W.widen (k := 0) (n := 0) (Nat.le_of_ble_eq_true rfl) (Nat.le_of_ble_eq_true rfl) ?_
  have hP9 := hP.sub (ws' := [(xr, .inr (2, [.ref xw, .ref xt])), (xw, .inl (cL, 8, .inr (.inl (fun _ => 0)))), (xt, .inl (cL, 8, .inr (.inl (fun _ => 0))))]) [0, 1, 2] rfl
  have hD9 := hD.sub (ws' := [(xr, .inr (2, [.ref xw, .ref xt])), (xw, .inl (cL, 8, .inr (.inl (fun _ => 0)))), (xt, .inl (cL, 8, .inr (.inl (fun _ => 0))))]) [0, 1, 2] (by decide) rfl
  have hK9 := hK.sub (tys' := [(cL, .long)]) [0] rfl
  exact W.vret hx hb hr (fun t8 ht hW => ⟨⟨(), rfl, trivial, by rw [ht]; exact hP9, va_K.moved hW.alike hK9, hD9⟩, hS.F ht⟩) hS.2.2 dX2_wipe_16

theorem ax_rw {f g w w1 : Nat → Int64} {k j : Nat} (h : w1 j = if j < k then w j + f j else w j) : vp_updL w1 k (w1 k + f k) j = (if j < k + 1 then w j + f j else w j) ∨ w1 k ≠ w k := by
  by_cases q : w1 k = w k
  · left
    unfold vp_updL
    by_cases e : j = k
    · subst e; rw [if_pos rfl, if_pos (by omega), q]
    · rw [if_neg e, h]
      by_cases e2 : j < k
      · rw [if_pos e2, if_pos (by omega)]
      · rw [if_neg e2, if_neg (by omega)]
  · exact Or.inr q
theorem ax_ra {f w w1 : Nat → Int64} {k : Nat} (hk : k < 8) (h : ∀ j, j < 8 → w1 j = if j < k then w j + f j else w j) : ∀ j, j < 8 → vp_updL w1 k (w1 k + f k) j = if j < k + 1 then w j + f j else w j := fun j hj =>
  (ax_rw (g := f) (h j hj)).elim id (fun q => absurd (by rw [h k hk, if_neg (by omega)]) q)

set_option maxHeartbeats 4000000 in
set_option maxRecDepth 100000 in
theorem c_X2_add (l : Launch) (dC : Nat → ClassId) (dI : Nat → Nat → Nat) (xr xw xt xl xn xm : Nat) (cL : ClassId) (ta : Nat → Nat) (sz : Nat) (w : Nat → Int64) (t : Nat → Int64) (u : Nat → Int64) (g : Nat → Int64) : Met l yX2_add wsX2_add ({ frames := 3, cells := 0, slots := 0, locals := 68 }) (va_Pc [.ref xr, .ref xl] (ax_W (dC, dI) vwCl [(xr, .inr (2, [.ref xw, .ref xt])), (xw, .inl (cL, 8, .inr (.inl w))), (xt, .inl (cL, 8, .inr (.inl t))), (xl, .inr (0, [.ref xn, .ref xm])), (xn, .inl (cL, 64, .inr (.inl u))), (xm, .inl (cL, 64, .inr (.inl g)))] [(cL, .long)] ta sz)) (va_Qv (fun (u9 : Unit) => True) (fun (u9 : Unit) (t9 : State) => va_P (dC, dI) vwCl [(xr, .inr (2, [.ref xw, .ref xt])), (xw, .inl (cL, 8, .inr (.inl (fun j => w j + whR u j 8)))), (xt, .inl (cL, 8, .inr (.inl (fun j => t j + rtt u j)))), (xl, .inr (0, [.ref xn, .ref xm])), (xn, .inl (cL, 64, .inr (.inl u))), (xm, .inl (cL, 64, .inr (.inl g)))] t9.heap ∧ va_K (dC, dI) vwCl [(cL, .long)] t9 ∧ va_D (va_A [(xr, .inr (2, [.ref xw, .ref xt])), (xw, .inl (cL, 8, .inr (.inl w))), (xt, .inl (cL, 8, .inr (.inl t))), (xl, .inr (0, [.ref xn, .ref xm])), (xn, .inl (cL, 64, .inr (.inl u))), (xm, .inl (cL, 64, .inr (.inl g)))] sz) [(xr, .inr (2, [.ref xw, .ref xt])), (xw, .inl (cL, 8, .inr (.inl (fun j => w j + whR u j 8)))), (xt, .inl (cL, 8, .inr (.inl (fun j => t j + rtt u j)))), (xl, .inr (0, [.ref xn, .ref xm])), (xn, .inl (cL, 64, .inr (.inl u))), (xm, .inl (cL, 64, .inr (.inl g)))]) (va_A [(xr, .inr (2, [.ref xw, .ref xt])), (xw, .inl (cL, 8, .inr (.inl w))), (xt, .inl (cL, 8, .inr (.inl t))), (xl, .inr (0, [.ref xn, .ref xm])), (xn, .inl (cL, 64, .inr (.inl u))), (xm, .inl (cL, 64, .inr (.inl g)))] sz)) 0 0 (va_A [(xr, .inr (2, [.ref xw, .ref xt])), (xw, .inl (cL, 8, .inr (.inl w))), (xt, .inl (cL, 8, .inr (.inl t))), (xl, .inr (0, [.ref xn, .ref xm])), (xn, .inl (cL, 64, .inr (.inl u))), (xm, .inl (cL, 64, .inr (.inl g)))] sz) := by
  refine Met.ofW (cc := cX2_add) (maxL := 3) (ret := none) (by decide) rfl ?_
  intro p e s m args below meth c s₁ B hml hv
  obtain ⟨rfl, hsz, hP, hK, hD0, hE⟩ := hv
  have hx := B.exec
  have hb := B.bytes
  have hr := B.returns
  have hts := atoms_spec (ws := wsX2_add) B.pre
  have hown : s.vm.findClass RX2 = some m.cls := findClass_of_methodNamed B.named
  have hlocks := B.notSynchronized
  subst hsz
  have hD := hD0.self (sz := s.heap.size)
  generalize hAe : va_A [(xr, .inr (2, [.ref xw, .ref xt])), (xw, .inl (cL, 8, .inr (.inl w))), (xt, .inl (cL, 8, .inr (.inl t))), (xl, .inr (0, [.ref xn, .ref xm])), (xn, .inl (cL, 64, .inr (.inl u))), (xm, .inl (cL, 64, .inr (.inl g)))] s.heap.size = A at hD hE ⊢
  have hA : ∀ q : Nat, s.heap.size ≤ q → A q := fun q h => by rw [← hAe]; exact Or.inr h
  have hS : va_S A s.heap s.heap [] := va_S.rf
  have hl := lv_entry ([.ref xr, .ref xl]) (n := 3) (Nat.le_of_ble_eq_true rfl)
  rw [lg_entry_eq]
  generalize (lg_sl ([.ref xr, .ref xl]) ++ List.replicate (3 - (lg_sl ([.ref xr, .ref xl])).length) Slot.unset).toArray = ls at hl ⊢
  have hl : lv_has ls 3 [(0, .ref xr), (1, .ref xl)] := hl
  have hP : va_P (dC, dI) vwCl [(xr, .inr (2, [.ref xw, .ref xt])), (xw, .inl (cL, 8, .inr (.inl w))), (xt, .inl (cL, 8, .inr (.inl t))), (xl, .inr (0, [.ref xn, .ref xm])), (xn, .inl (cL, 64, .inr (.inl u))), (xm, .inl (cL, 64, .inr (.inl g)))] s.heap := hP
  refine lv_iconst (v := 0) hx hb dX2_add_0 (by decide) ?_
  refine lv_istore_n (lv' := [(2, .int 0), (0, .ref xr), (1, .ref xl)]) hx hb dX2_add_1 rfl hl (by decide) rfl (fun ls hl => ?_)
  refine ax_loop (σ := Nat × (Nat → Int64) × (Nat → Int64)) (fun z9 H locs ls => (z9.1 ≤ 8) ∧ (∀ j, j < 8 → z9.2.1 j = if j < z9.1 then w j + whR u j 8 else w j) ∧ (∀ j, j < 8 → z9.2.2 j = if j < z9.1 then t j + rtt u j else t j) ∧ lv_has ls 3 [(2, .int (nI z9.1)), (0, .ref xr), (1, .ref xl)] ∧ va_P (dC, dI) vwCl [(xr, .inr (2, [.ref xw, .ref xt])), (xw, .inl (cL, 8, .inr (.inl z9.2.1))), (xt, .inl (cL, 8, .inr (.inl z9.2.2))), (xl, .inr (0, [.ref xn, .ref xm])), (xn, .inl (cL, 64, .inr (.inl u))), (xm, .inl (cL, 64, .inr (.inl g)))] H ∧ va_D A [(xr, .inr (2, [.ref xw, .ref xt])), (xw, .inl (cL, 8, .inr (.inl z9.2.1))), (xt, .inl (cL, 8, .inr (.inl z9.2.2))), (xl, .inr (0, [.ref xn, .ref xm])), (xn, .inl (cL, 64, .inr (.inl u))), (xm, .inl (cL, 64, .inr (.inl g)))] ∧ va_S A s.heap H locs) (fun z9 => 8 - z9.1) (fun z9 H locs ls hI ih => ?_) (0, w, t) ⟨by omega, fun j _ => by rw [if_neg (by omega)], fun j _ => by rw [if_neg (by omega)], hl, hP, hD, hS⟩
  obtain ⟨k, w1, t1⟩ := z9
  obtain ⟨hk1, hw1, ht1, hl, hP, hD, hS⟩ := hI
  have hk1 : k ≤ 8 := hk1
  have hw1 : ∀ j, j < 8 → w1 j = if j < k then w j + whR u j 8 else w j := hw1
  have ht1 : ∀ j, j < 8 → t1 j = if j < k then t j + rtt u j else t j := ht1
  have hl : lv_has ls 3 [(2, .int (nI k)), (0, .ref xr), (1, .ref xl)] := hl
  have hP : va_P (dC, dI) vwCl [(xr, .inr (2, [.ref xw, .ref xt])), (xw, .inl (cL, 8, .inr (.inl w1))), (xt, .inl (cL, 8, .inr (.inl t1))), (xl, .inr (0, [.ref xn, .ref xm])), (xn, .inl (cL, 64, .inr (.inl u))), (xm, .inl (cL, 64, .inr (.inl g)))] H := hP
  have hD : va_D A [(xr, .inr (2, [.ref xw, .ref xt])), (xw, .inl (cL, 8, .inr (.inl w1))), (xt, .inl (cL, 8, .inr (.inl t1))), (xl, .inr (0, [.ref xn, .ref xm])), (xn, .inl (cL, 64, .inr (.inl u))), (xm, .inl (cL, 64, .inr (.inl g)))] := hD
  have ih_1 := ih; clear ih
  refine lv_iload_n hx hb dX2_add_2 rfl (lv_at hl 0 rfl) ?_
  refine lv_bipush (v := 8) hx hb dX2_add_3 (by decide) ?_
  refine lv_icmp_ge (tgt := 42) hx hb dX2_add_5 (by decide) (fun c_2 => ?_) (fun c_2 => ?_)
  · have c_2 : ¬ k < 8 := ax_fgeTN (by omega) (by omega) c_2
    refine W.widen (k := 0) (n := 0) (Nat.le_of_ble_eq_true rfl) (Nat.le_of_ble_eq_true rfl) ?_
    have hP9 := hP.sub (ws' := [(xr, .inr (2, [.ref xw, .ref xt])), (xw, .inl (cL, 8, .inr (.inl w1))), (xt, .inl (cL, 8, .inr (.inl t1))), (xl, .inr (0, [.ref xn, .ref xm])), (xn, .inl (cL, 64, .inr (.inl u))), (xm, .inl (cL, 64, .inr (.inl g)))]) [0, 1, 2, 3, 4, 5] rfl
    have hD9 := hD.sub (ws' := [(xr, .inr (2, [.ref xw, .ref xt])), (xw, .inl (cL, 8, .inr (.inl w1))), (xt, .inl (cL, 8, .inr (.inl t1))), (xl, .inr (0, [.ref xn, .ref xm])), (xn, .inl (cL, 64, .inr (.inl u))), (xm, .inl (cL, 64, .inr (.inl g)))]) [0, 1, 2, 3, 4, 5] (by decide) rfl
    have hK9 := hK.sub (tys' := [(cL, .long)]) [0] rfl
    have hP9 : va_P (dC, dI) vwCl [(xr, .inr (2, [.ref xw, .ref xt])), (xw, .inl (cL, 8, .inr (.inl (fun j => w j + whR u j 8)))), (xt, .inl (cL, 8, .inr (.inl t1))), (xl, .inr (0, [.ref xn, .ref xm])), (xn, .inl (cL, 64, .inr (.inl u))), (xm, .inl (cL, 64, .inr (.inl g)))] H := ax_arL 1 (fun j => w j + whR u j 8) rfl (fun j hj => by rw [hw1 j hj, if_pos (by omega)]) hP9
    have hD9 : va_D A [(xr, .inr (2, [.ref xw, .ref xt])), (xw, .inl (cL, 8, .inr (.inl (fun j => w j + whR u j 8)))), (xt, .inl (cL, 8, .inr (.inl t1))), (xl, .inr (0, [.ref xn, .ref xm])), (xn, .inl (cL, 64, .inr (.inl u))), (xm, .inl (cL, 64, .inr (.inl g)))] := hD9.set (p := 1) rfl
    have hP9 : va_P (dC, dI) vwCl [(xr, .inr (2, [.ref xw, .ref xt])), (xw, .inl (cL, 8, .inr (.inl (fun j => w j + whR u j 8)))), (xt, .inl (cL, 8, .inr (.inl (fun j => t j + rtt u j)))), (xl, .inr (0, [.ref xn, .ref xm])), (xn, .inl (cL, 64, .inr (.inl u))), (xm, .inl (cL, 64, .inr (.inl g)))] H := ax_arL 2 (fun j => t j + rtt u j) rfl (fun j hj => by rw [ht1 j hj, if_pos (by omega)]) hP9
    have hD9 : va_D A [(xr, .inr (2, [.ref xw, .ref xt])), (xw, .inl (cL, 8, .inr (.inl (fun j => w j + whR u j 8)))), (xt, .inl (cL, 8, .inr (.inl (fun j => t j + rtt u j)))), (xl, .inr (0, [.ref xn, .ref xm])), (xn, .inl (cL, 64, .inr (.inl u))), (xm, .inl (cL, 64, .inr (.inl g)))] := hD9.set (p := 2) rfl
    exact W.vret hx hb hr (fun t8 ht hW => ⟨⟨(), rfl, trivial, by rw [ht]; exact hP9, va_K.moved hW.alike hK9, hD9⟩, hS.F ht⟩) hS.2.2 dX2_add_42
  · have c_2 : k < 8 := ax_fgeFN (by omega) (by omega) c_2
    refine lv_aload_n hx hb dX2_add_8 rfl (lv_at hl 1 rfl) ?_
    refine va_get (D := (dC, dI)) (ci := 2) (v := .ref xw) (C := RX2) (T := TX2) (N := 2) hx hb hts (by decide +kernel) hown hK hP 0 rfl rfl 0 (by decide) (hts (.fieldLink RX2 9 "Diffractory$Row" "wholes" "[J") (by decide +kernel)) (fun _ h9 => h9) rfl dX2_add_9 ?_
    refine lv_iload_n hx hb dX2_add_12 rfl (lv_at hl 0 rfl) ?_
    refine lv_dup2_11 hx hb dX2_add_13 rfl rfl ?_
    refine va_lald hx hb hK hP 1 0 rfl rfl (ax_in (by omega) (by omega)) dX2_add_14 ?_
    refine ax_l (y := (w1 k)) (by rw [nI_clamp (n := k) (by omega)]) ?_
    refine lv_aload_n hx hb dX2_add_15 rfl (lv_at hl 2 rfl) ?_
    refine lv_iload_n hx hb dX2_add_16 rfl (lv_at hl 0 rfl) ?_
    have hPc := hP.sub (ws' := [(xl, .inr (0, [.ref xn, .ref xm])), (xn, .inl (cL, 64, .inr (.inl u))), (xm, .inl (cL, 64, .inr (.inl g)))]) [3, 4, 5] rfl
    have hKc := hK.sub (tys' := [(cL, .long)]) [0] rfl
    refine va_calll (va_runV (As := [.int (nI k)]) (rest := [.long (w1 k), .int (nI k), .ref xw]) ⟨hx, hb, hml, hown, hts⟩ (c_X0_wholeAt l dC dI xl xn xm cL ta u g k (by omega)) (cwV 1 hts gX2_add_X0_wholeAt rfl rfl rfl (by decide +kernel) ⟨Nat.le_of_ble_eq_true rfl, Nat.le_of_ble_eq_true rfl⟩) ⟨ax_fbR, va_recv hK hP (ci := 0) (q0 := 3) rfl rfl, ax_prR hPc hKc hS hE⟩ rfl rfl hl.1 rfl (lv_room (Nat.le_of_ble_eq_true rfl)) dX2_add_17 ⟨Nat.le_of_ble_eq_true rfl, Nat.le_of_ble_eq_true rfl⟩) hS (fun _ _ h9 => h9.elim) (fun _ h9 => h9.elim) (fun r_3 u_5 t8 H locs ht hvm hw_4 hB hz1 hk1 hS => ?_)
    have hP := ax_keep hP (fun _ h9 => h9) hk1
    have hw_4 : r_3 = (whR u k 8) := hw_4
    refine ax_l (y := (whR u k 8)) hw_4 ?_
    refine lv_ladd hx hb dX2_add_20 ?_
    refine va_last hx hb hK hP hD hS 1 0 rfl rfl (ax_in (by omega) (by omega)) dX2_add_21 (fun H locs hP hD hS => ?_)
    rw [nI_clamp (n := k) (by omega)] at hP hD
    have hP : va_P (dC, dI) vwCl [(xr, .inr (2, [.ref xw, .ref xt])), (xw, .inl (cL, 8, .inr (.inl (vp_updL w1 k ((w1 k) + (whR u k 8)))))), (xt, .inl (cL, 8, .inr (.inl t1))), (xl, .inr (0, [.ref xn, .ref xm])), (xn, .inl (cL, 64, .inr (.inl u))), (xm, .inl (cL, 64, .inr (.inl g)))] H := hP
    have hD : va_D A [(xr, .inr (2, [.ref xw, .ref xt])), (xw, .inl (cL, 8, .inr (.inl (vp_updL w1 k ((w1 k) + (whR u k 8)))))), (xt, .inl (cL, 8, .inr (.inl t1))), (xl, .inr (0, [.ref xn, .ref xm])), (xn, .inl (cL, 64, .inr (.inl u))), (xm, .inl (cL, 64, .inr (.inl g)))] := hD
    refine lv_aload_n hx hb dX2_add_22 rfl (lv_at hl 1 rfl) ?_
    refine va_get (D := (dC, dI)) (ci := 2) (v := .ref xt) (C := RX2) (T := TX2) (N := 2) hx hb hts (by decide +kernel) hown hK hP 0 rfl rfl 1 (by decide) (hts (.fieldLink RX2 15 "Diffractory$Row" "roots" "[J") (by decide +kernel)) (fun _ h9 => h9) rfl dX2_add_23 ?_
    refine lv_iload_n hx hb dX2_add_26 rfl (lv_at hl 0 rfl) ?_
    refine lv_dup2_11 hx hb dX2_add_27 rfl rfl ?_
    refine va_lald hx hb hK hP 2 0 rfl rfl (ax_in (by omega) (by omega)) dX2_add_28 ?_
    refine ax_l (y := (t1 k)) (by rw [nI_clamp (n := k) (by omega)]) ?_
    refine lv_aload_n hx hb dX2_add_29 rfl (lv_at hl 2 rfl) ?_
    refine lv_iload_n hx hb dX2_add_30 rfl (lv_at hl 0 rfl) ?_
    have hPc := hP.sub (ws' := [(xl, .inr (0, [.ref xn, .ref xm])), (xn, .inl (cL, 64, .inr (.inl u))), (xm, .inl (cL, 64, .inr (.inl g)))]) [3, 4, 5] rfl
    have hKc := hK.sub (tys' := [(cL, .long)]) [0] rfl
    refine va_calll (va_runV (As := [.int (nI k)]) (rest := [.long (t1 k), .int (nI k), .ref xt]) ⟨hx, hb, hml, hown, hts⟩ (c_X0_rootAt l dC dI xl xn xm cL ta u g k (by omega)) (cwV 1 hts gX2_add_X0_rootAt rfl rfl rfl (by decide +kernel) ⟨Nat.le_of_ble_eq_true rfl, Nat.le_of_ble_eq_true rfl⟩) ⟨ax_fbR, va_recv hK hP (ci := 0) (q0 := 3) rfl rfl, ax_prR hPc hKc hS hE⟩ rfl rfl hl.1 rfl (lv_room (Nat.le_of_ble_eq_true rfl)) dX2_add_31 ⟨Nat.le_of_ble_eq_true rfl, Nat.le_of_ble_eq_true rfl⟩) hS (fun _ _ h9 => h9.elim) (fun _ h9 => h9.elim) (fun r_6 u_8 t8 H locs ht hvm hw_7 hB hz1 hk1 hS => ?_)
    have hP := ax_keep hP (fun _ h9 => h9) hk1
    have hw_7 : r_6 = (rtt u k) := hw_7
    refine ax_l (y := (rtt u k)) hw_7 ?_
    refine lv_ladd hx hb dX2_add_34 ?_
    refine va_last hx hb hK hP hD hS 2 0 rfl rfl (ax_in (by omega) (by omega)) dX2_add_35 (fun H locs hP hD hS => ?_)
    rw [nI_clamp (n := k) (by omega)] at hP hD
    have hP : va_P (dC, dI) vwCl [(xr, .inr (2, [.ref xw, .ref xt])), (xw, .inl (cL, 8, .inr (.inl (vp_updL w1 k ((w1 k) + (whR u k 8)))))), (xt, .inl (cL, 8, .inr (.inl (vp_updL t1 k ((t1 k) + (rtt u k)))))), (xl, .inr (0, [.ref xn, .ref xm])), (xn, .inl (cL, 64, .inr (.inl u))), (xm, .inl (cL, 64, .inr (.inl g)))] H := hP
    have hD : va_D A [(xr, .inr (2, [.ref xw, .ref xt])), (xw, .inl (cL, 8, .inr (.inl (vp_updL w1 k ((w1 k) + (whR u k 8)))))), (xt, .inl (cL, 8, .inr (.inl (vp_updL t1 k ((t1 k) + (rtt u k)))))), (xl, .inr (0, [.ref xn, .ref xm])), (xn, .inl (cL, 64, .inr (.inl u))), (xm, .inl (cL, 64, .inr (.inl g)))] := hD
    refine lv_iinc (v := (nI (k + 1))) (lv' := [(2, .int (nI (k + 1))), (0, .ref xr), (1, .ref xl)]) hx hb dX2_add_36 hl (k := 0) rfl (nI_succ _).symm (by decide) rfl (fun ls hl => ?_)
    refine lv_goto (tgt := 2) hx hb dX2_add_39 (by decide) ?_
    exact ih_1 (k + 1, vp_updL w1 k ((w1 k) + (whR u k 8)), vp_updL t1 k ((t1 k) + (rtt u k))) H locs ls ⟨by omega, ax_ra (f := fun j => whR u j 8) (by omega) hw1, ax_ra (f := fun j => rtt u j) (by omega) ht1, hl, hP, hD, hS⟩ (show 8 - (k + 1) < 8 - k by omega)

set_option maxHeartbeats 4000000 in
set_option maxRecDepth 100000 in
theorem c_X2_sum (l : Launch) (dC : Nat → ClassId) (dI : Nat → Nat → Nat) (xa : Nat) (cL : ClassId) (ta : Nat → Nat) (g : Nat → Int64) (n0 : Nat) (hn0 : n0 < 2 ^ 31) : Met l yX2_sum wsX2_sum ({ frames := 0, cells := 0, slots := 0, locals := 0 }) (va_Pc [.ref xa] (ax_R (dC, dI) vwCl [(xa, .inl (cL, n0, .inr (.inl g)))] [(cL, .long)] ta)) (va_Ql (fun (r : Int64) (u9 : Unit) => r = (smR g n0)) (fun _ _ => True) ax_no) 0 0 ax_no := by
  refine Met.ofW (cc := cX2_sum) (maxL := 4) (ret := (some .long)) (by decide) rfl ?_
  intro p e s m args below meth c s₁ B hml hv
  obtain ⟨rfl, hP, hK, hE⟩ := hv
  have hx := B.exec
  have hb := B.bytes
  have hr := B.returns
  have hts := atoms_spec (ws := wsX2_sum) B.pre
  have hown : s.vm.findClass RX2 = some m.cls := findClass_of_methodNamed B.named
  have hlocks := B.notSynchronized
  have hS : va_S ax_no s.heap s.heap [] := va_S.rf
  have hl := lv_entry ([.ref xa]) (n := 4) (Nat.le_of_ble_eq_true rfl)
  rw [lg_entry_eq]
  generalize (lg_sl ([.ref xa]) ++ List.replicate (4 - (lg_sl ([.ref xa])).length) Slot.unset).toArray = ls at hl ⊢
  have hl : lv_has ls 4 [(0, .ref xa)] := hl
  have hP : va_P (dC, dI) vwCl [(xa, .inl (cL, n0, .inr (.inl g)))] s.heap := hP
  refine lv_lconst (v := 0) hx hb dX2_sum_0 (by decide) ?_
  refine lv_lstore_n (lv' := [(1, .long 0), (0, .ref xa)]) hx hb dX2_sum_1 rfl hl (by decide) rfl (fun ls hl => ?_)
  refine lv_iconst (v := 0) hx hb dX2_sum_2 (by decide) ?_
  refine lv_istore_n (lv' := [(3, .int 0), (1, .long 0), (0, .ref xa)]) hx hb dX2_sum_3 rfl hl (by decide) rfl (fun ls hl => ?_)
  refine ax_loop (σ := Nat × Int64) (fun z9 H locs ls => (z9.1 ≤ n0) ∧ (z9.2 = smR g z9.1) ∧ lv_has ls 4 [(3, .int (nI z9.1)), (1, .long z9.2), (0, .ref xa)] ∧ va_P (dC, dI) vwCl [(xa, .inl (cL, n0, .inr (.inl g)))] H ∧ va_S ax_no s.heap H locs) (fun z9 => n0 - z9.1) (fun z9 H locs ls hI ih => ?_) (0, 0) ⟨by omega, rfl, hl, hP, hS⟩
  obtain ⟨i, sm⟩ := z9
  obtain ⟨hi1, hsm, hl, hP, hS⟩ := hI
  have hi1 : i ≤ n0 := hi1
  have hsm : sm = smR g i := hsm
  have hl : lv_has ls 4 [(3, .int (nI i)), (1, .long sm), (0, .ref xa)] := hl
  have hP : va_P (dC, dI) vwCl [(xa, .inl (cL, n0, .inr (.inl g)))] H := hP
  have ih_1 := ih; clear ih
  refine lv_iload_n hx hb dX2_sum_4 rfl (lv_at hl 0 rfl) ?_
  refine lv_aload_n hx hb dX2_sum_5 rfl (lv_at hl 2 rfl) ?_
  refine va_alen (v := nI n0) hx hb hK hP 0 0 rfl rfl rfl dX2_sum_6 ?_
  refine lv_icmp_ge (tgt := 22) hx hb dX2_sum_7 (by decide) (fun c_2 => ?_) (fun c_2 => ?_)
  · have c_2 : ¬ i < n0 := ax_fgeTN (by omega) (by omega) c_2
    refine lv_lload_n hx hb dX2_sum_22 rfl (lv_at hl 1 rfl) ?_
    refine W.widen (k := 0) (n := 0) (Nat.le_of_ble_eq_true rfl) (Nat.le_of_ble_eq_true rfl) ?_
    exact W.lret (v := sm) hx hb hr (fun t8 ht hW => ⟨⟨sm, (), rfl, by rw [hsm, show i = n0 by omega], trivial⟩, hS.F ht⟩) hS.2.2 dX2_sum_23
  · have c_2 : i < n0 := ax_fgeFN (by omega) (by omega) c_2
    refine lv_lload_n hx hb dX2_sum_10 rfl (lv_at hl 1 rfl) ?_
    refine lv_aload_n hx hb dX2_sum_11 rfl (lv_at hl 2 rfl) ?_
    refine lv_iload_n hx hb dX2_sum_12 rfl (lv_at hl 0 rfl) ?_
    refine va_lald hx hb hK hP 0 0 rfl rfl (ax_in (by omega) (by omega)) dX2_sum_13 ?_
    refine ax_l (y := (g i)) (by rw [nI_clamp (n := i) (by omega)]) ?_
    refine lv_ladd hx hb dX2_sum_14 ?_
    refine lv_lstore_n (lv' := [(1, .long (sm + (g i))), (3, .int (nI i)), (0, .ref xa)]) hx hb dX2_sum_15 rfl hl (by decide) rfl (fun ls hl => ?_)
    refine lv_iinc (v := (nI (i + 1))) (lv' := [(3, .int (nI (i + 1))), (1, .long (sm + (g i))), (0, .ref xa)]) hx hb dX2_sum_16 hl (k := 1) rfl (nI_succ _).symm (by decide) rfl (fun ls hl => ?_)
    refine lv_goto (tgt := 4) hx hb dX2_sum_19 (by decide) ?_
    exact ih_1 (i + 1, (sm + (g i))) H locs ls ⟨by omega, by rw [hsm]; rfl, hl, hP, hS⟩ (show n0 - (i + 1) < n0 - i by omega)

set_option maxHeartbeats 4000000 in
set_option maxRecDepth 100000 in
theorem c_X2_sumOfWholes (l : Launch) (dC : Nat → ClassId) (dI : Nat → Nat → Nat) (xr xw xt : Nat) (cL : ClassId) (ta : Nat → Nat) (w : Nat → Int64) (t : Nat → Int64) : Met l yX2_sumOfWholes wsX2_sumOfWholes ({ frames := 1, cells := 0, slots := 0, locals := 23 }) (va_Pc [.ref xr] (ax_R (dC, dI) vwCl [(xr, .inr (2, [.ref xw, .ref xt])), (xw, .inl (cL, 8, .inr (.inl w))), (xt, .inl (cL, 8, .inr (.inl t)))] [(cL, .long)] ta)) (va_Ql (fun (r : Int64) (u9 : Unit) => r = (smR w 8)) (fun _ _ => True) ax_no) 0 0 ax_no := by
  refine Met.ofW (cc := cX2_sumOfWholes) (maxL := 1) (ret := (some .long)) (by decide) rfl ?_
  intro p e s m args below meth c s₁ B hml hv
  obtain ⟨rfl, hP, hK, hE⟩ := hv
  have hx := B.exec
  have hb := B.bytes
  have hr := B.returns
  have hts := atoms_spec (ws := wsX2_sumOfWholes) B.pre
  have hown : s.vm.findClass RX2 = some m.cls := findClass_of_methodNamed B.named
  have hlocks := B.notSynchronized
  have hS : va_S ax_no s.heap s.heap [] := va_S.rf
  have hl := lv_entry ([.ref xr]) (n := 1) (Nat.le_of_ble_eq_true rfl)
  rw [lg_entry_eq]
  generalize (lg_sl ([.ref xr]) ++ List.replicate (1 - (lg_sl ([.ref xr])).length) Slot.unset).toArray = ls at hl ⊢
  have hl : lv_has ls 1 [(0, .ref xr)] := hl
  have hP : va_P (dC, dI) vwCl [(xr, .inr (2, [.ref xw, .ref xt])), (xw, .inl (cL, 8, .inr (.inl w))), (xt, .inl (cL, 8, .inr (.inl t)))] s.heap := hP
  refine lv_aload_n hx hb dX2_sumOfWholes_0 rfl (lv_at hl 0 rfl) ?_
  refine va_get (D := (dC, dI)) (ci := 2) (v := .ref xw) (C := RX2) (T := TX2) (N := 2) hx hb hts (by decide +kernel) hown hK hP 0 rfl rfl 0 (by decide) (hts (.fieldLink RX2 9 "Diffractory$Row" "wholes" "[J") (by decide +kernel)) (fun _ h9 => h9) rfl dX2_sumOfWholes_1 ?_
  have hPc := hP.sub (ws' := [(xw, .inl (cL, 8, .inr (.inl w)))]) [1] rfl
  have hKc := hK.sub (tys' := [(cL, .long)]) [0] rfl
  refine va_calll (va_runS (As := [.ref xw]) (rest := []) ⟨hx, hb, hml, hown, hts⟩ (c_X2_sum l dC dI xw cL ta w 8 (by omega)) (va_cwS 1 hts gX2_sumOfWholes_X2_sum rfl rfl rfl (by decide +kernel) ⟨Nat.le_of_ble_eq_true rfl, Nat.le_of_ble_eq_true rfl⟩) ⟨ax_fbR, ax_prR hPc hKc hS hE⟩ rfl rfl hl.1 rfl (lv_room (Nat.le_of_ble_eq_true rfl)) dX2_sumOfWholes_4 ⟨Nat.le_of_ble_eq_true rfl, Nat.le_of_ble_eq_true rfl⟩) hS (fun _ _ h9 => h9.elim) (fun _ h9 => h9.elim) (fun r_1 u_3 t8 H locs ht hvm hw_2 hB hz1 hk1 hS => ?_)
  have hP := ax_keep hP (fun _ h9 => h9) hk1
  have hw_2 : r_1 = (smR w 8) := hw_2
  refine ax_l (y := (smR w 8)) hw_2 ?_
  refine W.widen (k := 0) (n := 0) (Nat.le_of_ble_eq_true rfl) (Nat.le_of_ble_eq_true rfl) ?_
  exact W.lret (v := (smR w 8)) hx hb hr (fun t8 ht hW => ⟨⟨(smR w 8), (), rfl, rfl, trivial⟩, hS.F ht⟩) hS.2.2 dX2_sumOfWholes_7

set_option maxHeartbeats 4000000 in
set_option maxRecDepth 100000 in
theorem c_X2_sumOfRoots (l : Launch) (dC : Nat → ClassId) (dI : Nat → Nat → Nat) (xr xw xt : Nat) (cL : ClassId) (ta : Nat → Nat) (w : Nat → Int64) (t : Nat → Int64) : Met l yX2_sumOfRoots wsX2_sumOfRoots ({ frames := 1, cells := 0, slots := 0, locals := 23 }) (va_Pc [.ref xr] (ax_R (dC, dI) vwCl [(xr, .inr (2, [.ref xw, .ref xt])), (xw, .inl (cL, 8, .inr (.inl w))), (xt, .inl (cL, 8, .inr (.inl t)))] [(cL, .long)] ta)) (va_Ql (fun (r : Int64) (u9 : Unit) => r = (smR t 8)) (fun _ _ => True) ax_no) 0 0 ax_no := by
  refine Met.ofW (cc := cX2_sumOfRoots) (maxL := 1) (ret := (some .long)) (by decide) rfl ?_
  intro p e s m args below meth c s₁ B hml hv
  obtain ⟨rfl, hP, hK, hE⟩ := hv
  have hx := B.exec
  have hb := B.bytes
  have hr := B.returns
  have hts := atoms_spec (ws := wsX2_sumOfRoots) B.pre
  have hown : s.vm.findClass RX2 = some m.cls := findClass_of_methodNamed B.named
  have hlocks := B.notSynchronized
  have hS : va_S ax_no s.heap s.heap [] := va_S.rf
  have hl := lv_entry ([.ref xr]) (n := 1) (Nat.le_of_ble_eq_true rfl)
  rw [lg_entry_eq]
  generalize (lg_sl ([.ref xr]) ++ List.replicate (1 - (lg_sl ([.ref xr])).length) Slot.unset).toArray = ls at hl ⊢
  have hl : lv_has ls 1 [(0, .ref xr)] := hl
  have hP : va_P (dC, dI) vwCl [(xr, .inr (2, [.ref xw, .ref xt])), (xw, .inl (cL, 8, .inr (.inl w))), (xt, .inl (cL, 8, .inr (.inl t)))] s.heap := hP
  refine lv_aload_n hx hb dX2_sumOfRoots_0 rfl (lv_at hl 0 rfl) ?_
  refine va_get (D := (dC, dI)) (ci := 2) (v := .ref xt) (C := RX2) (T := TX2) (N := 2) hx hb hts (by decide +kernel) hown hK hP 0 rfl rfl 1 (by decide) (hts (.fieldLink RX2 15 "Diffractory$Row" "roots" "[J") (by decide +kernel)) (fun _ h9 => h9) rfl dX2_sumOfRoots_1 ?_
  have hPc := hP.sub (ws' := [(xt, .inl (cL, 8, .inr (.inl t)))]) [2] rfl
  have hKc := hK.sub (tys' := [(cL, .long)]) [0] rfl
  refine va_calll (va_runS (As := [.ref xt]) (rest := []) ⟨hx, hb, hml, hown, hts⟩ (c_X2_sum l dC dI xt cL ta t 8 (by omega)) (va_cwS 1 hts gX2_sumOfRoots_X2_sum rfl rfl rfl (by decide +kernel) ⟨Nat.le_of_ble_eq_true rfl, Nat.le_of_ble_eq_true rfl⟩) ⟨ax_fbR, ax_prR hPc hKc hS hE⟩ rfl rfl hl.1 rfl (lv_room (Nat.le_of_ble_eq_true rfl)) dX2_sumOfRoots_4 ⟨Nat.le_of_ble_eq_true rfl, Nat.le_of_ble_eq_true rfl⟩) hS (fun _ _ h9 => h9.elim) (fun _ h9 => h9.elim) (fun r_1 u_3 t8 H locs ht hvm hw_2 hB hz1 hk1 hS => ?_)
  have hP := ax_keep hP (fun _ h9 => h9) hk1
  have hw_2 : r_1 = (smR t 8) := hw_2
  refine ax_l (y := (smR t 8)) hw_2 ?_
  refine W.widen (k := 0) (n := 0) (Nat.le_of_ble_eq_true rfl) (Nat.le_of_ble_eq_true rfl) ?_
  exact W.lret (v := (smR t 8)) hx hb hr (fun t8 ht hW => ⟨⟨(smR t 8), (), rfl, rfl, trivial⟩, hS.F ht⟩) hS.2.2 dX2_sumOfRoots_7

set_option maxHeartbeats 4000000 in
set_option maxRecDepth 100000 in
theorem c_X2_valueAt (l : Launch) (dC : Nat → ClassId) (dI : Nat → Nat → Nat) (xr xw xt : Nat) (cL : ClassId) (ta : Nat → Nat) (w : Nat → Int64) (t : Nat → Int64) (k : Nat) (hk8 : k < 8) : Met l yX2_valueAt wsX2_valueAt ({ frames := 0, cells := 0, slots := 0, locals := 0 }) (va_Pc [.ref xr, .int (nI k)] (ax_R (dC, dI) vwCl [(xr, .inr (2, [.ref xw, .ref xt])), (xw, .inl (cL, 8, .inr (.inl w))), (xt, .inl (cL, 8, .inr (.inl t)))] [(cL, .long)] ta)) (va_Qd (fun (r : UInt64) (u9 : Unit) => r = (vA w t k)) (fun _ _ => True) ax_no) 0 0 ax_no := by
  refine Met.ofW (cc := cX2_valueAt) (maxL := 2) (ret := (some .double)) (by decide) rfl ?_
  intro p e s m args below meth c s₁ B hml hv
  obtain ⟨rfl, hP, hK, hE⟩ := hv
  have hx := B.exec
  have hb := B.bytes
  have hr := B.returns
  have hts := atoms_spec (ws := wsX2_valueAt) B.pre
  have hown : s.vm.findClass RX2 = some m.cls := findClass_of_methodNamed B.named
  have hlocks := B.notSynchronized
  have hS : va_S ax_no s.heap s.heap [] := va_S.rf
  have hl := lv_entry ([.ref xr, .int (nI k)]) (n := 2) (Nat.le_of_ble_eq_true rfl)
  rw [lg_entry_eq]
  generalize (lg_sl ([.ref xr, .int (nI k)]) ++ List.replicate (2 - (lg_sl ([.ref xr, .int (nI k)])).length) Slot.unset).toArray = ls at hl ⊢
  have hl : lv_has ls 2 [(0, .ref xr), (1, .int (nI k))] := hl
  have hP : va_P (dC, dI) vwCl [(xr, .inr (2, [.ref xw, .ref xt])), (xw, .inl (cL, 8, .inr (.inl w))), (xt, .inl (cL, 8, .inr (.inl t)))] s.heap := hP
  refine lv_aload_n hx hb dX2_valueAt_0 rfl (lv_at hl 0 rfl) ?_
  refine va_get (D := (dC, dI)) (ci := 2) (v := .ref xw) (C := RX2) (T := TX2) (N := 2) hx hb hts (by decide +kernel) hown hK hP 0 rfl rfl 0 (by decide) (hts (.fieldLink RX2 9 "Diffractory$Row" "wholes" "[J") (by decide +kernel)) (fun _ h9 => h9) rfl dX2_valueAt_1 ?_
  refine lv_iload_n hx hb dX2_valueAt_4 rfl (lv_at hl 1 rfl) ?_
  refine lv_bipush (v := 7) hx hb dX2_valueAt_5 (by decide) ?_
  refine lv_iand hx hb dX2_valueAt_7 ?_
  refine ax_i (y := (nI (k % 8))) (pk_andN (by omega) 3 rfl) ?_
  refine va_lald hx hb hK hP 1 0 rfl rfl (ax_in (by omega) (by omega)) dX2_valueAt_8 ?_
  refine ax_l (y := (w (k % 8))) (by rw [nI_clamp (n := k % 8) (by omega)]) ?_
  refine lv_l2d hx hb dX2_valueAt_9 ?_
  refine lv_ldc2d (v := 4609047870845172685) hx hb hown (hts (.constantDouble RX2 37 4609047870845172685) (by decide +kernel)) dX2_valueAt_10 ?_
  refine lv_aload_n hx hb dX2_valueAt_13 rfl (lv_at hl 0 rfl) ?_
  refine va_get (D := (dC, dI)) (ci := 2) (v := .ref xt) (C := RX2) (T := TX2) (N := 2) hx hb hts (by decide +kernel) hown hK hP 0 rfl rfl 1 (by decide) (hts (.fieldLink RX2 15 "Diffractory$Row" "roots" "[J") (by decide +kernel)) (fun _ h9 => h9) rfl dX2_valueAt_14 ?_
  refine lv_iload_n hx hb dX2_valueAt_17 rfl (lv_at hl 1 rfl) ?_
  refine lv_bipush (v := 7) hx hb dX2_valueAt_18 (by decide) ?_
  refine lv_iand hx hb dX2_valueAt_20 ?_
  refine ax_i (y := (nI (k % 8))) (pk_andN (by omega) 3 rfl) ?_
  refine va_lald hx hb hK hP 2 0 rfl rfl (ax_in (by omega) (by omega)) dX2_valueAt_21 ?_
  refine ax_l (y := (t (k % 8))) (by rw [nI_clamp (n := k % 8) (by omega)]) ?_
  refine lv_l2d hx hb dX2_valueAt_22 ?_
  refine lv_dmul hx hb dX2_valueAt_23 (ax_nm _) ?_
  refine lv_dadd hx hb dX2_valueAt_24 (ax_nv _ _) ?_
  refine W.widen (k := 0) (n := 0) (Nat.le_of_ble_eq_true rfl) (Nat.le_of_ble_eq_true rfl) ?_
  exact W.dret (v := (FP.dadd (FP.l2d (w (k % 8))) (FP.dmul 4609047870845172685 (FP.l2d (t (k % 8)))))) hx hb hr (fun t8 ht hW => ⟨⟨(FP.dadd (FP.l2d (w (k % 8))) (FP.dmul 4609047870845172685 (FP.l2d (t (k % 8))))), (), rfl, by rw [show k % 8 = k by omega]; rfl, trivial⟩, hS.F ht⟩) hS.2.2 dX2_valueAt_25

theorem ax_pg1 {w t : Nat → Int64} : pgR w t 1 = 0 := by
  show (if dgt (vA w t 0) (vA w t (pgR w t 0)) then 0 else pgR w t 0) = 0
  split <;> rfl
theorem ax_pgnT {w t : Nat → Int64} {k fd : Nat} (h : fd = pgR w t k) (q : dgt (vA w t k) (vA w t fd)) : k = pgR w t (k + 1) := by
  show k = if dgt (vA w t k) (vA w t (pgR w t k)) then k else pgR w t k
  rw [← h, if_pos q]
theorem ax_pgnF {w t : Nat → Int64} {k fd : Nat} (h : fd = pgR w t k) (q : ¬ dgt (vA w t k) (vA w t fd)) : fd = pgR w t (k + 1) := by
  show fd = if dgt (vA w t k) (vA w t (pgR w t k)) then k else pgR w t k
  rw [← h, if_neg q]
theorem ax_pg8 {w t : Nat → Int64} : ∀ k, k ≤ 8 → pgR w t k < 8
  | 0, _ => show (0 : Nat) < 8 by decide
  | k + 1, h => by
    show (if dgt (vA w t k) (vA w t (pgR w t k)) then k else pgR w t k) < 8
    split
    · omega
    · exact ax_pg8 k (by omega)
theorem ax_le1 {w t : Nat → Int64} : leR w t 1 = vA w t 0 := by
  show (if dlt (vA w t 0) (leR w t 0) then vA w t 0 else leR w t 0) = vA w t 0
  split <;> rfl
theorem ax_lenT {w t : Nat → Int64} {k : Nat} {x : UInt64} (h : x = leR w t k) (q : dlt (vA w t k) x) : vA w t k = leR w t (k + 1) := by
  show vA w t k = if dlt (vA w t k) (leR w t k) then vA w t k else leR w t k
  rw [← h, if_pos q]
theorem ax_lenF {w t : Nat → Int64} {k : Nat} {x : UInt64} (h : x = leR w t k) (q : ¬ dlt (vA w t k) x) : x = leR w t (k + 1) := by
  show x = if dlt (vA w t k) (leR w t k) then vA w t k else leR w t k
  rw [← h, if_neg q]
theorem ax_dkT {w t : Nat → Int64} {k : Nat} {x : Int32} (h : x = dkR w t k) (q1 : w k = 0) (q2 : t k = 0) : x ||| (1 <<< (nI k &&& 31)) = dkR w t (k + 1) := by
  show x ||| _ = if w k = 0 ∧ t k = 0 then dkR w t k ||| (1 <<< (nI k &&& 31)) else dkR w t k
  rw [← h, if_pos ⟨q1, q2⟩]
theorem ax_dkF {w t : Nat → Int64} {k : Nat} {x : Int32} (h : x = dkR w t k) (q : ¬ (w k = 0 ∧ t k = 0)) : x = dkR w t (k + 1) := by
  show x = if w k = 0 ∧ t k = 0 then dkR w t k ||| (1 <<< (nI k &&& 31)) else dkR w t k
  rw [← h, if_neg q]

set_option maxHeartbeats 4000000 in
set_option maxRecDepth 100000 in
theorem c_X2_placeOfGreatest (l : Launch) (dC : Nat → ClassId) (dI : Nat → Nat → Nat) (xr xw xt : Nat) (cL : ClassId) (ta : Nat → Nat) (w : Nat → Int64) (t : Nat → Int64) : Met l yX2_placeOfGreatest wsX2_placeOfGreatest ({ frames := 1, cells := 0, slots := 0, locals := 21 }) (va_Pc [.ref xr] (ax_R (dC, dI) vwCl [(xr, .inr (2, [.ref xw, .ref xt])), (xw, .inl (cL, 8, .inr (.inl w))), (xt, .inl (cL, 8, .inr (.inl t)))] [(cL, .long)] ta)) (va_Qi (fun (r : Int32) (u9 : Unit) => r = (nI (pgR w t 8))) (fun _ _ => True) ax_no) 0 0 ax_no := by
  refine Met.ofW (cc := cX2_placeOfGreatest) (maxL := 3) (ret := (some .int)) (by decide) rfl ?_
  intro p e s m args below meth c s₁ B hml hv
  obtain ⟨rfl, hP, hK, hE⟩ := hv
  have hx := B.exec
  have hb := B.bytes
  have hr := B.returns
  have hts := atoms_spec (ws := wsX2_placeOfGreatest) B.pre
  have hown : s.vm.findClass RX2 = some m.cls := findClass_of_methodNamed B.named
  have hlocks := B.notSynchronized
  have hS : va_S ax_no s.heap s.heap [] := va_S.rf
  have hl := lv_entry ([.ref xr]) (n := 3) (Nat.le_of_ble_eq_true rfl)
  rw [lg_entry_eq]
  generalize (lg_sl ([.ref xr]) ++ List.replicate (3 - (lg_sl ([.ref xr])).length) Slot.unset).toArray = ls at hl ⊢
  have hl : lv_has ls 3 [(0, .ref xr)] := hl
  have hP : va_P (dC, dI) vwCl [(xr, .inr (2, [.ref xw, .ref xt])), (xw, .inl (cL, 8, .inr (.inl w))), (xt, .inl (cL, 8, .inr (.inl t)))] s.heap := hP
  refine lv_iconst (v := 0) hx hb dX2_placeOfGreatest_0 (by decide) ?_
  refine lv_istore_n (lv' := [(1, .int 0), (0, .ref xr)]) hx hb dX2_placeOfGreatest_1 rfl hl (by decide) rfl (fun ls hl => ?_)
  refine lv_iconst (v := 1) hx hb dX2_placeOfGreatest_2 (by decide) ?_
  refine lv_istore_n (lv' := [(2, .int 1), (1, .int 0), (0, .ref xr)]) hx hb dX2_placeOfGreatest_3 rfl hl (by decide) rfl (fun ls hl => ?_)
  refine ax_loop (σ := Nat × Nat) (fun z9 H locs ls => (1 ≤ z9.1) ∧ (z9.1 ≤ 8) ∧ (z9.2 < 8) ∧ (z9.2 = pgR w t z9.1) ∧ lv_has ls 3 [(2, .int (nI z9.1)), (1, .int (nI z9.2)), (0, .ref xr)] ∧ va_P (dC, dI) vwCl [(xr, .inr (2, [.ref xw, .ref xt])), (xw, .inl (cL, 8, .inr (.inl w))), (xt, .inl (cL, 8, .inr (.inl t)))] H ∧ va_S ax_no s.heap H locs) (fun z9 => 8 - z9.1) (fun z9 H locs ls hI ih => ?_) (1, 0) ⟨by omega, by omega, by omega, ax_pg1.symm, hl, hP, hS⟩
  obtain ⟨k, fd⟩ := z9
  obtain ⟨hk0, hk1, hf8, hfd, hl, hP, hS⟩ := hI
  have hk0 : 1 ≤ k := hk0
  have hk1 : k ≤ 8 := hk1
  have hf8 : fd < 8 := hf8
  have hfd : fd = pgR w t k := hfd
  have hl : lv_has ls 3 [(2, .int (nI k)), (1, .int (nI fd)), (0, .ref xr)] := hl
  have hP : va_P (dC, dI) vwCl [(xr, .inr (2, [.ref xw, .ref xt])), (xw, .inl (cL, 8, .inr (.inl w))), (xt, .inl (cL, 8, .inr (.inl t)))] H := hP
  have ih_1 := ih; clear ih
  refine lv_iload_n hx hb dX2_placeOfGreatest_4 rfl (lv_at hl 0 rfl) ?_
  refine lv_bipush (v := 8) hx hb dX2_placeOfGreatest_5 (by decide) ?_
  refine lv_icmp_ge (tgt := 32) hx hb dX2_placeOfGreatest_7 (by decide) (fun c_2 => ?_) (fun c_2 => ?_)
  · have c_2 : ¬ k < 8 := ax_fgeTN (by omega) (by omega) c_2
    refine lv_iload_n hx hb dX2_placeOfGreatest_32 rfl (lv_at hl 1 rfl) ?_
    refine W.widen (k := 0) (n := 0) (Nat.le_of_ble_eq_true rfl) (Nat.le_of_ble_eq_true rfl) ?_
    exact W.iret (v := (nI fd)) hx hb hr (fun t8 ht hW => ⟨⟨(nI fd), (), rfl, by rw [hfd, show k = 8 by omega], trivial⟩, hS.F ht⟩) hS.2.2 dX2_placeOfGreatest_33
  · have c_2 : k < 8 := ax_fgeFN (by omega) (by omega) c_2
    refine lv_aload_n hx hb dX2_placeOfGreatest_10 rfl (lv_at hl 2 rfl) ?_
    refine lv_iload_n hx hb dX2_placeOfGreatest_11 rfl (lv_at hl 0 rfl) ?_
    have hPc := hP.sub (ws' := [(xr, .inr (2, [.ref xw, .ref xt])), (xw, .inl (cL, 8, .inr (.inl w))), (xt, .inl (cL, 8, .inr (.inl t)))]) [0, 1, 2] rfl
    have hKc := hK.sub (tys' := [(cL, .long)]) [0] rfl
    refine va_calld (va_runV (As := [.int (nI k)]) (rest := []) ⟨hx, hb, hml, hown, hts⟩ (c_X2_valueAt l dC dI xr xw xt cL ta w t k (by omega)) (cwV 1 hts gX2_placeOfGreatest_X2_valueAt rfl rfl rfl (by decide +kernel) ⟨Nat.le_of_ble_eq_true rfl, Nat.le_of_ble_eq_true rfl⟩) ⟨ax_fbR, va_recv hK hP (ci := 2) (q0 := 0) rfl rfl, ax_prR hPc hKc hS hE⟩ rfl rfl hl.1 rfl (lv_room (Nat.le_of_ble_eq_true rfl)) dX2_placeOfGreatest_12 ⟨Nat.le_of_ble_eq_true rfl, Nat.le_of_ble_eq_true rfl⟩) hS (fun _ _ h9 => h9.elim) (fun _ h9 => h9.elim) (fun r_3 u_5 t8 H locs ht hvm hw_4 hB hz1 hk1 hS => ?_)
    have hP := ax_keep hP (fun _ h9 => h9) hk1
    have hw_4 : r_3 = (vA w t k) := hw_4
    refine ax_d (y := (vA w t k)) hw_4 ?_
    refine lv_aload_n hx hb dX2_placeOfGreatest_15 rfl (lv_at hl 2 rfl) ?_
    refine lv_iload_n hx hb dX2_placeOfGreatest_16 rfl (lv_at hl 1 rfl) ?_
    have hPc := hP.sub (ws' := [(xr, .inr (2, [.ref xw, .ref xt])), (xw, .inl (cL, 8, .inr (.inl w))), (xt, .inl (cL, 8, .inr (.inl t)))]) [0, 1, 2] rfl
    have hKc := hK.sub (tys' := [(cL, .long)]) [0] rfl
    refine va_calld (va_runV (As := [.int (nI fd)]) (rest := [.double (vA w t k)]) ⟨hx, hb, hml, hown, hts⟩ (c_X2_valueAt l dC dI xr xw xt cL ta w t fd (by omega)) (cwV 1 hts gX2_placeOfGreatest_X2_valueAt rfl rfl rfl (by decide +kernel) ⟨Nat.le_of_ble_eq_true rfl, Nat.le_of_ble_eq_true rfl⟩) ⟨ax_fbR, va_recv hK hP (ci := 2) (q0 := 0) rfl rfl, ax_prR hPc hKc hS hE⟩ rfl rfl hl.1 rfl (lv_room (Nat.le_of_ble_eq_true rfl)) dX2_placeOfGreatest_17 ⟨Nat.le_of_ble_eq_true rfl, Nat.le_of_ble_eq_true rfl⟩) hS (fun _ _ h9 => h9.elim) (fun _ h9 => h9.elim) (fun r_6 u_8 t8 H locs ht hvm hw_7 hB hz1 hk1 hS => ?_)
    have hP := ax_keep hP (fun _ h9 => h9) hk1
    have hw_7 : r_6 = (vA w t fd) := hw_7
    refine ax_d (y := (vA w t fd)) hw_7 ?_
    refine lv_dcmp hx hb dX2_placeOfGreatest_20 ?_
    refine lv_if_le (tgt := 26) hx hb dX2_placeOfGreatest_21 (by decide) (fun c_9 => ?_) (fun c_9 => ?_)
    · have c_9 : ¬ 0 < (Op.cmpValue (FP.dcmp (vA w t k) (vA w t fd)) .l).toInt := ax_fleT c_9
      refine lv_iinc (v := (nI (k + 1))) (lv' := [(2, .int (nI (k + 1))), (1, .int (nI fd)), (0, .ref xr)]) hx hb dX2_placeOfGreatest_26 hl (k := 0) rfl (nI_succ _).symm (by decide) rfl (fun ls hl => ?_)
      refine lv_goto (tgt := 4) hx hb dX2_placeOfGreatest_29 (by decide) ?_
      exact ih_1 (k + 1, fd) H locs ls ⟨by omega, by omega, by omega, ax_pgnF hfd c_9, hl, hP, hS⟩ (show 8 - (k + 1) < 8 - k by omega)
    · have c_9 : 0 < (Op.cmpValue (FP.dcmp (vA w t k) (vA w t fd)) .l).toInt := ax_fleF c_9
      refine lv_iload_n hx hb dX2_placeOfGreatest_24 rfl (lv_at hl 0 rfl) ?_
      refine lv_istore_n (lv' := [(1, .int (nI k)), (2, .int (nI k)), (0, .ref xr)]) hx hb dX2_placeOfGreatest_25 rfl hl (by decide) rfl (fun ls hl => ?_)
      refine lv_iinc (v := (nI (k + 1))) (lv' := [(2, .int (nI (k + 1))), (1, .int (nI k)), (0, .ref xr)]) hx hb dX2_placeOfGreatest_26 hl (k := 1) rfl (nI_succ _).symm (by decide) rfl (fun ls hl => ?_)
      refine lv_goto (tgt := 4) hx hb dX2_placeOfGreatest_29 (by decide) ?_
      exact ih_1 (k + 1, k) H locs ls ⟨by omega, by omega, by omega, ax_pgnT hfd c_9, hl, hP, hS⟩ (show 8 - (k + 1) < 8 - k by omega)

set_option maxHeartbeats 4000000 in
set_option maxRecDepth 100000 in
theorem c_X2_greatest (l : Launch) (dC : Nat → ClassId) (dI : Nat → Nat → Nat) (xr xw xt : Nat) (cL : ClassId) (ta : Nat → Nat) (w : Nat → Int64) (t : Nat → Int64) : Met l yX2_greatest wsX2_greatest ({ frames := 2, cells := 0, slots := 0, locals := 43 }) (va_Pc [.ref xr] (ax_R (dC, dI) vwCl [(xr, .inr (2, [.ref xw, .ref xt])), (xw, .inl (cL, 8, .inr (.inl w))), (xt, .inl (cL, 8, .inr (.inl t)))] [(cL, .long)] ta)) (va_Qd (fun (r : UInt64) (u9 : Unit) => r = (gr8 w t)) (fun _ _ => True) ax_no) 0 0 ax_no := by
  refine Met.ofW (cc := cX2_greatest) (maxL := 1) (ret := (some .double)) (by decide) rfl ?_
  intro p e s m args below meth c s₁ B hml hv
  obtain ⟨rfl, hP, hK, hE⟩ := hv
  have hx := B.exec
  have hb := B.bytes
  have hr := B.returns
  have hts := atoms_spec (ws := wsX2_greatest) B.pre
  have hown : s.vm.findClass RX2 = some m.cls := findClass_of_methodNamed B.named
  have hlocks := B.notSynchronized
  have hS : va_S ax_no s.heap s.heap [] := va_S.rf
  have hl := lv_entry ([.ref xr]) (n := 1) (Nat.le_of_ble_eq_true rfl)
  rw [lg_entry_eq]
  generalize (lg_sl ([.ref xr]) ++ List.replicate (1 - (lg_sl ([.ref xr])).length) Slot.unset).toArray = ls at hl ⊢
  have hl : lv_has ls 1 [(0, .ref xr)] := hl
  have hP : va_P (dC, dI) vwCl [(xr, .inr (2, [.ref xw, .ref xt])), (xw, .inl (cL, 8, .inr (.inl w))), (xt, .inl (cL, 8, .inr (.inl t)))] s.heap := hP
  refine lv_aload_n hx hb dX2_greatest_0 rfl (lv_at hl 0 rfl) ?_
  refine lv_aload_n hx hb dX2_greatest_1 rfl (lv_at hl 0 rfl) ?_
  have hPc := hP.sub (ws' := [(xr, .inr (2, [.ref xw, .ref xt])), (xw, .inl (cL, 8, .inr (.inl w))), (xt, .inl (cL, 8, .inr (.inl t)))]) [0, 1, 2] rfl
  have hKc := hK.sub (tys' := [(cL, .long)]) [0] rfl
  refine va_calli (va_runV (As := []) (rest := [.ref xr]) ⟨hx, hb, hml, hown, hts⟩ (c_X2_placeOfGreatest l dC dI xr xw xt cL ta w t) (cwV 0 hts gX2_greatest_X2_placeOfGreatest rfl rfl rfl (by decide +kernel) ⟨Nat.le_of_ble_eq_true rfl, Nat.le_of_ble_eq_true rfl⟩) ⟨ax_fbR, va_recv hK hP (ci := 2) (q0 := 0) rfl rfl, ax_prR hPc hKc hS hE⟩ rfl rfl hl.1 rfl (lv_room (Nat.le_of_ble_eq_true rfl)) dX2_greatest_2 ⟨Nat.le_of_ble_eq_true rfl, Nat.le_of_ble_eq_true rfl⟩) hS (fun _ _ h9 => h9.elim) (fun _ h9 => h9.elim) (fun r_1 u_3 t8 H locs ht hvm hw_2 hB hz1 hk1 hS => ?_)
  have hP := ax_keep hP (fun _ h9 => h9) hk1
  have hw_2 : r_1 = (nI (pgR w t 8)) := hw_2
  refine ax_i (y := (nI (pgR w t 8))) hw_2 ?_
  have hPc := hP.sub (ws' := [(xr, .inr (2, [.ref xw, .ref xt])), (xw, .inl (cL, 8, .inr (.inl w))), (xt, .inl (cL, 8, .inr (.inl t)))]) [0, 1, 2] rfl
  have hKc := hK.sub (tys' := [(cL, .long)]) [0] rfl
  refine va_calld (va_runV (As := [.int (nI (pgR w t 8))]) (rest := []) ⟨hx, hb, hml, hown, hts⟩ (c_X2_valueAt l dC dI xr xw xt cL ta w t (pgR w t 8) (ax_pg8 8 (by omega))) (cwV 1 hts gX2_greatest_X2_valueAt rfl rfl rfl (by decide +kernel) ⟨Nat.le_of_ble_eq_true rfl, Nat.le_of_ble_eq_true rfl⟩) ⟨ax_fbR, va_recv hK hP (ci := 2) (q0 := 0) rfl rfl, ax_prR hPc hKc hS hE⟩ rfl rfl hl.1 rfl (lv_room (Nat.le_of_ble_eq_true rfl)) dX2_greatest_5 ⟨Nat.le_of_ble_eq_true rfl, Nat.le_of_ble_eq_true rfl⟩) hS (fun _ _ h9 => h9.elim) (fun _ h9 => h9.elim) (fun r_4 u_6 t8 H locs ht hvm hw_5 hB hz1 hk1 hS => ?_)
  have hP := ax_keep hP (fun _ h9 => h9) hk1
  have hw_5 : r_4 = (vA w t (pgR w t 8)) := hw_5
  refine ax_d (y := (vA w t (pgR w t 8))) hw_5 ?_
  refine W.widen (k := 0) (n := 0) (Nat.le_of_ble_eq_true rfl) (Nat.le_of_ble_eq_true rfl) ?_
  exact W.dret (v := (vA w t (pgR w t 8))) hx hb hr (fun t8 ht hW => ⟨⟨(vA w t (pgR w t 8)), (), rfl, rfl, trivial⟩, hS.F ht⟩) hS.2.2 dX2_greatest_8

set_option maxHeartbeats 4000000 in
set_option maxRecDepth 100000 in
theorem c_X2_least (l : Launch) (dC : Nat → ClassId) (dI : Nat → Nat → Nat) (xr xw xt : Nat) (cL : ClassId) (ta : Nat → Nat) (w : Nat → Int64) (t : Nat → Int64) : Met l yX2_least wsX2_least ({ frames := 1, cells := 0, slots := 0, locals := 21 }) (va_Pc [.ref xr] (ax_R (dC, dI) vwCl [(xr, .inr (2, [.ref xw, .ref xt])), (xw, .inl (cL, 8, .inr (.inl w))), (xt, .inl (cL, 8, .inr (.inl t)))] [(cL, .long)] ta)) (va_Qd (fun (r : UInt64) (u9 : Unit) => r = (leR w t 8)) (fun _ _ => True) ax_no) 0 0 ax_no := by
  refine Met.ofW (cc := cX2_least) (maxL := 6) (ret := (some .double)) (by decide) rfl ?_
  intro p e s m args below meth c s₁ B hml hv
  obtain ⟨rfl, hP, hK, hE⟩ := hv
  have hx := B.exec
  have hb := B.bytes
  have hr := B.returns
  have hts := atoms_spec (ws := wsX2_least) B.pre
  have hown : s.vm.findClass RX2 = some m.cls := findClass_of_methodNamed B.named
  have hlocks := B.notSynchronized
  have hS : va_S ax_no s.heap s.heap [] := va_S.rf
  have hl := lv_entry ([.ref xr]) (n := 6) (Nat.le_of_ble_eq_true rfl)
  rw [lg_entry_eq]
  generalize (lg_sl ([.ref xr]) ++ List.replicate (6 - (lg_sl ([.ref xr])).length) Slot.unset).toArray = ls at hl ⊢
  have hl : lv_has ls 6 [(0, .ref xr)] := hl
  have hP : va_P (dC, dI) vwCl [(xr, .inr (2, [.ref xw, .ref xt])), (xw, .inl (cL, 8, .inr (.inl w))), (xt, .inl (cL, 8, .inr (.inl t)))] s.heap := hP
  refine lv_aload_n hx hb dX2_least_0 rfl (lv_at hl 0 rfl) ?_
  refine lv_iconst (v := 0) hx hb dX2_least_1 (by decide) ?_
  have hPc := hP.sub (ws' := [(xr, .inr (2, [.ref xw, .ref xt])), (xw, .inl (cL, 8, .inr (.inl w))), (xt, .inl (cL, 8, .inr (.inl t)))]) [0, 1, 2] rfl
  have hKc := hK.sub (tys' := [(cL, .long)]) [0] rfl
  refine va_calld (va_runV (As := [.int 0]) (rest := []) ⟨hx, hb, hml, hown, hts⟩ (c_X2_valueAt l dC dI xr xw xt cL ta w t 0 (by omega)) (cwV 1 hts gX2_least_X2_valueAt rfl rfl rfl (by decide +kernel) ⟨Nat.le_of_ble_eq_true rfl, Nat.le_of_ble_eq_true rfl⟩) ⟨ax_fbR, va_recv hK hP (ci := 2) (q0 := 0) rfl rfl, ax_prR hPc hKc hS hE⟩ rfl rfl hl.1 rfl (lv_room (Nat.le_of_ble_eq_true rfl)) dX2_least_2 ⟨Nat.le_of_ble_eq_true rfl, Nat.le_of_ble_eq_true rfl⟩) hS (fun _ _ h9 => h9.elim) (fun _ h9 => h9.elim) (fun r_1 u_3 t8 H locs ht hvm hw_2 hB hz1 hk1 hS => ?_)
  have hP := ax_keep hP (fun _ h9 => h9) hk1
  have hw_2 : r_1 = (vA w t 0) := hw_2
  refine ax_d (y := (vA w t 0)) hw_2 ?_
  refine lv_dstore_n (lv' := [(1, .double (vA w t 0)), (0, .ref xr)]) hx hb dX2_least_5 rfl hl (by decide) rfl (fun ls hl => ?_)
  refine lv_iconst (v := 1) hx hb dX2_least_6 (by decide) ?_
  refine lv_istore_n (lv' := [(3, .int 1), (1, .double (vA w t 0)), (0, .ref xr)]) hx hb dX2_least_7 rfl hl (by decide) rfl (fun ls hl => ?_)
  refine ax_loop (σ := Nat × UInt64) (fun z9 H locs ls => (1 ≤ z9.1) ∧ (z9.1 ≤ 8) ∧ (z9.2 = leR w t z9.1) ∧ lv_has ls 6 [(3, .int (nI z9.1)), (1, .double z9.2), (0, .ref xr)] ∧ va_P (dC, dI) vwCl [(xr, .inr (2, [.ref xw, .ref xt])), (xw, .inl (cL, 8, .inr (.inl w))), (xt, .inl (cL, 8, .inr (.inl t)))] H ∧ va_S ax_no s.heap H locs) (fun z9 => 8 - z9.1) (fun z9 H locs ls hI ih => ?_) (1, (vA w t 0)) ⟨by omega, by omega, ax_le1.symm, hl, hP, hS⟩
  obtain ⟨k, ls9⟩ := z9
  obtain ⟨hk0, hk1, hls, hl, hP, hS⟩ := hI
  have hk0 : 1 ≤ k := hk0
  have hk1 : k ≤ 8 := hk1
  have hls : ls9 = leR w t k := hls
  have hl : lv_has ls 6 [(3, .int (nI k)), (1, .double ls9), (0, .ref xr)] := hl
  have hP : va_P (dC, dI) vwCl [(xr, .inr (2, [.ref xw, .ref xt])), (xw, .inl (cL, 8, .inr (.inl w))), (xt, .inl (cL, 8, .inr (.inl t)))] H := hP
  have ih_4 := ih; clear ih
  refine lv_iload_n hx hb dX2_least_8 rfl (lv_at hl 0 rfl) ?_
  refine lv_bipush (v := 8) hx hb dX2_least_9 (by decide) ?_
  refine lv_icmp_ge (tgt := 41) hx hb dX2_least_11 (by decide) (fun c_5 => ?_) (fun c_5 => ?_)
  · have c_5 : ¬ k < 8 := ax_fgeTN (by omega) (by omega) c_5
    refine lv_dload_n hx hb dX2_least_41 rfl (lv_at hl 1 rfl) ?_
    refine W.widen (k := 0) (n := 0) (Nat.le_of_ble_eq_true rfl) (Nat.le_of_ble_eq_true rfl) ?_
    exact W.dret (v := ls9) hx hb hr (fun t8 ht hW => ⟨⟨ls9, (), rfl, by rw [hls, show k = 8 by omega], trivial⟩, hS.F ht⟩) hS.2.2 dX2_least_42
  · have c_5 : k < 8 := ax_fgeFN (by omega) (by omega) c_5
    refine lv_aload_n hx hb dX2_least_14 rfl (lv_at hl 2 rfl) ?_
    refine lv_iload_n hx hb dX2_least_15 rfl (lv_at hl 0 rfl) ?_
    have hPc := hP.sub (ws' := [(xr, .inr (2, [.ref xw, .ref xt])), (xw, .inl (cL, 8, .inr (.inl w))), (xt, .inl (cL, 8, .inr (.inl t)))]) [0, 1, 2] rfl
    have hKc := hK.sub (tys' := [(cL, .long)]) [0] rfl
    refine va_calld (va_runV (As := [.int (nI k)]) (rest := []) ⟨hx, hb, hml, hown, hts⟩ (c_X2_valueAt l dC dI xr xw xt cL ta w t k (by omega)) (cwV 1 hts gX2_least_X2_valueAt rfl rfl rfl (by decide +kernel) ⟨Nat.le_of_ble_eq_true rfl, Nat.le_of_ble_eq_true rfl⟩) ⟨ax_fbR, va_recv hK hP (ci := 2) (q0 := 0) rfl rfl, ax_prR hPc hKc hS hE⟩ rfl rfl hl.1 rfl (lv_room (Nat.le_of_ble_eq_true rfl)) dX2_least_16 ⟨Nat.le_of_ble_eq_true rfl, Nat.le_of_ble_eq_true rfl⟩) hS (fun _ _ h9 => h9.elim) (fun _ h9 => h9.elim) (fun r_6 u_8 t8 H locs ht hvm hw_7 hB hz1 hk1 hS => ?_)
    have hP := ax_keep hP (fun _ h9 => h9) hk1
    have hw_7 : r_6 = (vA w t k) := hw_7
    refine ax_d (y := (vA w t k)) hw_7 ?_
    refine lv_dstore (lv' := [(4, .double (vA w t k)), (3, .int (nI k)), (1, .double ls9), (0, .ref xr)]) hx hb dX2_least_19 hl (by decide) rfl (fun ls hl => ?_)
    refine lv_dload hx hb dX2_least_21 (lv_at hl 0 rfl) ?_
    refine lv_dload_n hx hb dX2_least_23 rfl (lv_at hl 2 rfl) ?_
    refine lv_dcmp hx hb dX2_least_24 ?_
    refine lv_if_ge (tgt := 33) hx hb dX2_least_25 (by decide) (fun c_9 => ?_) (fun c_9 => ?_)
    · have c_9 : ¬ (Op.cmpValue (FP.dcmp (vA w t k) ls9) .g).toInt < 0 := ax_fgeT c_9
      refine lv_dload_n hx hb dX2_least_33 rfl (lv_at hl 2 rfl) ?_
      refine lv_dstore_n (lv' := [(1, .double ls9), (4, .double (vA w t k)), (3, .int (nI k)), (0, .ref xr)]) hx hb dX2_least_34 rfl hl (by decide) rfl (fun ls hl => ?_)
      refine lv_iinc (v := (nI (k + 1))) (lv' := [(3, .int (nI (k + 1))), (1, .double ls9), (4, .double (vA w t k)), (0, .ref xr)]) hx hb dX2_least_35 hl (k := 2) rfl (nI_succ _).symm (by decide) rfl (fun ls hl => ?_)
      refine lv_goto (tgt := 8) hx hb dX2_least_38 (by decide) ?_
      have hl : lv_has ls 6 [(3, .int (nI (k + 1))), (1, .double ls9), (0, .ref xr)] := lv_sub hl [0, 1, 3] rfl
      exact ih_4 (k + 1, ls9) H locs ls ⟨by omega, by omega, ax_lenF hls c_9, hl, hP, hS⟩ (show 8 - (k + 1) < 8 - k by omega)
    · have c_9 : (Op.cmpValue (FP.dcmp (vA w t k) ls9) .g).toInt < 0 := ax_fgeF c_9
      refine lv_dload hx hb dX2_least_28 (lv_at hl 0 rfl) ?_
      refine lv_goto (tgt := 34) hx hb dX2_least_30 (by decide) ?_
      refine lv_dstore_n (lv' := [(1, .double (vA w t k)), (4, .double (vA w t k)), (3, .int (nI k)), (0, .ref xr)]) hx hb dX2_least_34 rfl hl (by decide) rfl (fun ls hl => ?_)
      refine lv_iinc (v := (nI (k + 1))) (lv' := [(3, .int (nI (k + 1))), (1, .double (vA w t k)), (4, .double (vA w t k)), (0, .ref xr)]) hx hb dX2_least_35 hl (k := 2) rfl (nI_succ _).symm (by decide) rfl (fun ls hl => ?_)
      refine lv_goto (tgt := 8) hx hb dX2_least_38 (by decide) ?_
      have hl : lv_has ls 6 [(3, .int (nI (k + 1))), (1, .double (vA w t k)), (0, .ref xr)] := lv_sub hl [0, 1, 3] rfl
      exact ih_4 (k + 1, (vA w t k)) H locs ls ⟨by omega, by omega, ax_lenT hls c_9, hl, hP, hS⟩ (show 8 - (k + 1) < 8 - k by omega)

set_option maxHeartbeats 4000000 in
set_option maxRecDepth 100000 in
theorem c_X2_darkPlaces (l : Launch) (dC : Nat → ClassId) (dI : Nat → Nat → Nat) (xr xw xt : Nat) (cL : ClassId) (ta : Nat → Nat) (w : Nat → Int64) (t : Nat → Int64) : Met l yX2_darkPlaces wsX2_darkPlaces ({ frames := 0, cells := 0, slots := 0, locals := 0 }) (va_Pc [.ref xr] (ax_R (dC, dI) vwCl [(xr, .inr (2, [.ref xw, .ref xt])), (xw, .inl (cL, 8, .inr (.inl w))), (xt, .inl (cL, 8, .inr (.inl t)))] [(cL, .long)] ta)) (va_Qi (fun (r : Int32) (u9 : Unit) => r = (dkR w t 8)) (fun _ _ => True) ax_no) 0 0 ax_no := by
  refine Met.ofW (cc := cX2_darkPlaces) (maxL := 3) (ret := (some .int)) (by decide) rfl ?_
  intro p e s m args below meth c s₁ B hml hv
  obtain ⟨rfl, hP, hK, hE⟩ := hv
  have hx := B.exec
  have hb := B.bytes
  have hr := B.returns
  have hts := atoms_spec (ws := wsX2_darkPlaces) B.pre
  have hown : s.vm.findClass RX2 = some m.cls := findClass_of_methodNamed B.named
  have hlocks := B.notSynchronized
  have hS : va_S ax_no s.heap s.heap [] := va_S.rf
  have hl := lv_entry ([.ref xr]) (n := 3) (Nat.le_of_ble_eq_true rfl)
  rw [lg_entry_eq]
  generalize (lg_sl ([.ref xr]) ++ List.replicate (3 - (lg_sl ([.ref xr])).length) Slot.unset).toArray = ls at hl ⊢
  have hl : lv_has ls 3 [(0, .ref xr)] := hl
  have hP : va_P (dC, dI) vwCl [(xr, .inr (2, [.ref xw, .ref xt])), (xw, .inl (cL, 8, .inr (.inl w))), (xt, .inl (cL, 8, .inr (.inl t)))] s.heap := hP
  refine lv_iconst (v := 0) hx hb dX2_darkPlaces_0 (by decide) ?_
  refine lv_istore_n (lv' := [(1, .int 0), (0, .ref xr)]) hx hb dX2_darkPlaces_1 rfl hl (by decide) rfl (fun ls hl => ?_)
  refine lv_iconst (v := 0) hx hb dX2_darkPlaces_2 (by decide) ?_
  refine lv_istore_n (lv' := [(2, .int 0), (1, .int 0), (0, .ref xr)]) hx hb dX2_darkPlaces_3 rfl hl (by decide) rfl (fun ls hl => ?_)
  refine ax_loop (σ := Nat × Int32) (fun z9 H locs ls => (z9.1 ≤ 8) ∧ (z9.2 = dkR w t z9.1) ∧ lv_has ls 3 [(2, .int (nI z9.1)), (1, .int z9.2), (0, .ref xr)] ∧ va_P (dC, dI) vwCl [(xr, .inr (2, [.ref xw, .ref xt])), (xw, .inl (cL, 8, .inr (.inl w))), (xt, .inl (cL, 8, .inr (.inl t)))] H ∧ va_S ax_no s.heap H locs) (fun z9 => 8 - z9.1) (fun z9 H locs ls hI ih => ?_) (0, 0) ⟨by omega, rfl, hl, hP, hS⟩
  obtain ⟨k, pl⟩ := z9
  obtain ⟨hk1, hpl, hl, hP, hS⟩ := hI
  have hk1 : k ≤ 8 := hk1
  have hpl : pl = dkR w t k := hpl
  have hl : lv_has ls 3 [(2, .int (nI k)), (1, .int pl), (0, .ref xr)] := hl
  have hP : va_P (dC, dI) vwCl [(xr, .inr (2, [.ref xw, .ref xt])), (xw, .inl (cL, 8, .inr (.inl w))), (xt, .inl (cL, 8, .inr (.inl t)))] H := hP
  have ih_1 := ih; clear ih
  refine lv_iload_n hx hb dX2_darkPlaces_4 rfl (lv_at hl 0 rfl) ?_
  refine lv_bipush (v := 8) hx hb dX2_darkPlaces_5 (by decide) ?_
  refine lv_icmp_ge (tgt := 44) hx hb dX2_darkPlaces_7 (by decide) (fun c_2 => ?_) (fun c_2 => ?_)
  · have c_2 : ¬ k < 8 := ax_fgeTN (by omega) (by omega) c_2
    refine lv_iload_n hx hb dX2_darkPlaces_44 rfl (lv_at hl 1 rfl) ?_
    refine W.widen (k := 0) (n := 0) (Nat.le_of_ble_eq_true rfl) (Nat.le_of_ble_eq_true rfl) ?_
    exact W.iret (v := pl) hx hb hr (fun t8 ht hW => ⟨⟨pl, (), rfl, by rw [hpl, show k = 8 by omega], trivial⟩, hS.F ht⟩) hS.2.2 dX2_darkPlaces_45
  · have c_2 : k < 8 := ax_fgeFN (by omega) (by omega) c_2
    refine lv_aload_n hx hb dX2_darkPlaces_10 rfl (lv_at hl 2 rfl) ?_
    refine va_get (D := (dC, dI)) (ci := 2) (v := .ref xw) (C := RX2) (T := TX2) (N := 2) hx hb hts (by decide +kernel) hown hK hP 0 rfl rfl 0 (by decide) (hts (.fieldLink RX2 9 "Diffractory$Row" "wholes" "[J") (by decide +kernel)) (fun _ h9 => h9) rfl dX2_darkPlaces_11 ?_
    refine lv_iload_n hx hb dX2_darkPlaces_14 rfl (lv_at hl 0 rfl) ?_
    refine va_lald hx hb hK hP 1 0 rfl rfl (ax_in (by omega) (by omega)) dX2_darkPlaces_15 ?_
    refine ax_l (y := (w k)) (by rw [nI_clamp (n := k) (by omega)]) ?_
    refine lv_lconst (v := 0) hx hb dX2_darkPlaces_16 (by decide) ?_
    refine W.lcmp hx hb dX2_darkPlaces_17 ?_
    refine lv_if_ne (tgt := 38) hx hb dX2_darkPlaces_18 (by decide) (fun c_3 => ?_) (fun c_3 => ?_)
    · have c_3 : ¬ (w k) = (0 : Int64) := ax_lgneT c_3
      refine lv_iinc (v := (nI (k + 1))) (lv' := [(2, .int (nI (k + 1))), (1, .int pl), (0, .ref xr)]) hx hb dX2_darkPlaces_38 hl (k := 0) rfl (nI_succ _).symm (by decide) rfl (fun ls hl => ?_)
      refine lv_goto (tgt := 4) hx hb dX2_darkPlaces_41 (by decide) ?_
      exact ih_1 (k + 1, pl) H locs ls ⟨by omega, ax_dkF hpl (fun q => c_3 q.1), hl, hP, hS⟩ (show 8 - (k + 1) < 8 - k by omega)
    · have c_3 : (w k) = (0 : Int64) := ax_lgneF c_3
      refine lv_aload_n hx hb dX2_darkPlaces_21 rfl (lv_at hl 2 rfl) ?_
      refine va_get (D := (dC, dI)) (ci := 2) (v := .ref xt) (C := RX2) (T := TX2) (N := 2) hx hb hts (by decide +kernel) hown hK hP 0 rfl rfl 1 (by decide) (hts (.fieldLink RX2 15 "Diffractory$Row" "roots" "[J") (by decide +kernel)) (fun _ h9 => h9) rfl dX2_darkPlaces_22 ?_
      refine lv_iload_n hx hb dX2_darkPlaces_25 rfl (lv_at hl 0 rfl) ?_
      refine va_lald hx hb hK hP 2 0 rfl rfl (ax_in (by omega) (by omega)) dX2_darkPlaces_26 ?_
      refine ax_l (y := (t k)) (by rw [nI_clamp (n := k) (by omega)]) ?_
      refine lv_lconst (v := 0) hx hb dX2_darkPlaces_27 (by decide) ?_
      refine W.lcmp hx hb dX2_darkPlaces_28 ?_
      refine lv_if_ne (tgt := 38) hx hb dX2_darkPlaces_29 (by decide) (fun c_4 => ?_) (fun c_4 => ?_)
      · have c_4 : ¬ (t k) = (0 : Int64) := ax_lgneT c_4
        refine lv_iinc (v := (nI (k + 1))) (lv' := [(2, .int (nI (k + 1))), (1, .int pl), (0, .ref xr)]) hx hb dX2_darkPlaces_38 hl (k := 0) rfl (nI_succ _).symm (by decide) rfl (fun ls hl => ?_)
        refine lv_goto (tgt := 4) hx hb dX2_darkPlaces_41 (by decide) ?_
        exact ih_1 (k + 1, pl) H locs ls ⟨by omega, ax_dkF hpl (fun q => c_4 q.2), hl, hP, hS⟩ (show 8 - (k + 1) < 8 - k by omega)
      · have c_4 : (t k) = (0 : Int64) := ax_lgneF c_4
        refine lv_iload_n hx hb dX2_darkPlaces_32 rfl (lv_at hl 1 rfl) ?_
        refine lv_iconst (v := 1) hx hb dX2_darkPlaces_33 (by decide) ?_
        refine lv_iload_n hx hb dX2_darkPlaces_34 rfl (lv_at hl 0 rfl) ?_
        refine lv_ishl hx hb dX2_darkPlaces_35 ?_
        refine lv_ior hx hb dX2_darkPlaces_36 ?_
        refine lv_istore_n (lv' := [(1, .int (pl ||| (1 <<< ((nI k) &&& 31)))), (2, .int (nI k)), (0, .ref xr)]) hx hb dX2_darkPlaces_37 rfl hl (by decide) rfl (fun ls hl => ?_)
        refine lv_iinc (v := (nI (k + 1))) (lv' := [(2, .int (nI (k + 1))), (1, .int (pl ||| (1 <<< ((nI k) &&& 31)))), (0, .ref xr)]) hx hb dX2_darkPlaces_38 hl (k := 1) rfl (nI_succ _).symm (by decide) rfl (fun ls hl => ?_)
        refine lv_goto (tgt := 4) hx hb dX2_darkPlaces_41 (by decide) ?_
        exact ih_1 (k + 1, (pl ||| (1 <<< ((nI k) &&& 31)))) H locs ls ⟨by omega, ax_dkT hpl c_3 c_4, hl, hP, hS⟩ (show 8 - (k + 1) < 8 - k by omega)

set_option maxHeartbeats 4000000 in
set_option maxRecDepth 100000 in
theorem c_X2_isAsItWas (l : Launch) (dC : Nat → ClassId) (dI : Nat → Nat → Nat) (xr xw xt : Nat) (cL : ClassId) (ta : Nat → Nat) (w : Nat → Int64) (t : Nat → Int64) (ro : Nat) (hro : ro < 8) : Met l yX2_isAsItWas wsX2_isAsItWas ({ frames := 0, cells := 0, slots := 0, locals := 0 }) (va_Pc [.ref xr, .int (nI ro)] (ax_R (dC, dI) vwCl [(xr, .inr (2, [.ref xw, .ref xt])), (xw, .inl (cL, 8, .inr (.inl w))), (xt, .inl (cL, 8, .inr (.inl t)))] [(cL, .long)] ta)) (va_Qi (fun (r : Int32) (u9 : Unit) => ax_bo r (asW w t ro)) (fun _ _ => True) ax_no) 0 0 ax_no := by
  refine Met.ofW (cc := cX2_isAsItWas) (maxL := 4) (ret := (some .boolean)) (by decide) rfl ?_
  intro p e s m args below meth c s₁ B hml hv
  obtain ⟨rfl, hP, hK, hE⟩ := hv
  have hx := B.exec
  have hb := B.bytes
  have hr := B.returns
  have hts := atoms_spec (ws := wsX2_isAsItWas) B.pre
  have hown : s.vm.findClass RX2 = some m.cls := findClass_of_methodNamed B.named
  have hlocks := B.notSynchronized
  have hS : va_S ax_no s.heap s.heap [] := va_S.rf
  have hl := lv_entry ([.ref xr, .int (nI ro)]) (n := 4) (Nat.le_of_ble_eq_true rfl)
  rw [lg_entry_eq]
  generalize (lg_sl ([.ref xr, .int (nI ro)]) ++ List.replicate (4 - (lg_sl ([.ref xr, .int (nI ro)])).length) Slot.unset).toArray = ls at hl ⊢
  have hl : lv_has ls 4 [(0, .ref xr), (1, .int (nI ro))] := hl
  have hP : va_P (dC, dI) vwCl [(xr, .inr (2, [.ref xw, .ref xt])), (xw, .inl (cL, 8, .inr (.inl w))), (xt, .inl (cL, 8, .inr (.inl t)))] s.heap := hP
  refine lv_iconst (v := 0) hx hb dX2_isAsItWas_0 (by decide) ?_
  refine lv_istore_n (lv' := [(2, .int 0), (0, .ref xr), (1, .int (nI ro))]) hx hb dX2_isAsItWas_1 rfl hl (by decide) rfl (fun ls hl => ?_)
  refine ax_loop (σ := Nat) (fun z9 H locs ls => (z9 ≤ 8) ∧ (∀ j, j < z9 → (w j = w ((j + ro) % 8) ∧ t j = t ((j + ro) % 8))) ∧ lv_has ls 4 [(2, .int (nI z9)), (0, .ref xr), (1, .int (nI ro))] ∧ va_P (dC, dI) vwCl [(xr, .inr (2, [.ref xw, .ref xt])), (xw, .inl (cL, 8, .inr (.inl w))), (xt, .inl (cL, 8, .inr (.inl t)))] H ∧ va_S ax_no s.heap H locs) (fun z9 => 8 - z9) (fun k H locs ls hI ih => ?_) 0 ⟨by omega, fun j hj => absurd hj (by omega), hl, hP, hS⟩
  obtain ⟨hk1, hal, hl, hP, hS⟩ := hI
  have hk1 : k ≤ 8 := hk1
  have hal : ∀ j, j < k → (w j = w ((j + ro) % 8) ∧ t j = t ((j + ro) % 8)) := hal
  have hl : lv_has ls 4 [(2, .int (nI k)), (0, .ref xr), (1, .int (nI ro))] := hl
  have hP : va_P (dC, dI) vwCl [(xr, .inr (2, [.ref xw, .ref xt])), (xw, .inl (cL, 8, .inr (.inl w))), (xt, .inl (cL, 8, .inr (.inl t)))] H := hP
  have ih_1 := ih; clear ih
  refine lv_iload_n hx hb dX2_isAsItWas_2 rfl (lv_at hl 0 rfl) ?_
  refine lv_bipush (v := 8) hx hb dX2_isAsItWas_3 (by decide) ?_
  refine lv_icmp_ge (tgt := 55) hx hb dX2_isAsItWas_5 (by decide) (fun c_2 => ?_) (fun c_2 => ?_)
  · have c_2 : ¬ k < 8 := ax_fgeTN (by omega) (by omega) c_2
    refine lv_iconst (v := 1) hx hb dX2_isAsItWas_55 (by decide) ?_
    refine W.widen (k := 0) (n := 0) (Nat.le_of_ble_eq_true rfl) (Nat.le_of_ble_eq_true rfl) ?_
    exact W.zret (v := 1) (ty := .boolean) hx hb hr (by decide +kernel) (fun t8 ht hW => ⟨⟨1, (), rfl, Or.inl ⟨rfl, fun j hj => hal j (by omega)⟩, trivial⟩, hS.F ht⟩) hS.2.2 dX2_isAsItWas_56
  · have c_2 : k < 8 := ax_fgeFN (by omega) (by omega) c_2
    refine lv_iload_n hx hb dX2_isAsItWas_8 rfl (lv_at hl 0 rfl) ?_
    refine lv_iload_n hx hb dX2_isAsItWas_9 rfl (lv_at hl 2 rfl) ?_
    refine lv_iadd hx hb dX2_isAsItWas_10 ?_
    refine ax_i (y := (nI (k + ro))) (ax_addN k ro) ?_
    refine lv_bipush (v := 7) hx hb dX2_isAsItWas_11 (by decide) ?_
    refine lv_iand hx hb dX2_isAsItWas_13 ?_
    refine ax_i (y := (nI ((k + ro) % 8))) (pk_andN (by omega) 3 rfl) ?_
    refine lv_istore_n (lv' := [(3, .int (nI ((k + ro) % 8))), (2, .int (nI k)), (0, .ref xr), (1, .int (nI ro))]) hx hb dX2_isAsItWas_14 rfl hl (by decide) rfl (fun ls hl => ?_)
    refine lv_aload_n hx hb dX2_isAsItWas_15 rfl (lv_at hl 2 rfl) ?_
    refine va_get (D := (dC, dI)) (ci := 2) (v := .ref xw) (C := RX2) (T := TX2) (N := 2) hx hb hts (by decide +kernel) hown hK hP 0 rfl rfl 0 (by decide) (hts (.fieldLink RX2 9 "Diffractory$Row" "wholes" "[J") (by decide +kernel)) (fun _ h9 => h9) rfl dX2_isAsItWas_16 ?_
    refine lv_iload_n hx hb dX2_isAsItWas_19 rfl (lv_at hl 1 rfl) ?_
    refine va_lald hx hb hK hP 1 0 rfl rfl (ax_in (by omega) (by omega)) dX2_isAsItWas_20 ?_
    refine ax_l (y := (w k)) (by rw [nI_clamp (n := k) (by omega)]) ?_
    refine lv_aload_n hx hb dX2_isAsItWas_21 rfl (lv_at hl 2 rfl) ?_
    refine va_get (D := (dC, dI)) (ci := 2) (v := .ref xw) (C := RX2) (T := TX2) (N := 2) hx hb hts (by decide +kernel) hown hK hP 0 rfl rfl 0 (by decide) (hts (.fieldLink RX2 9 "Diffractory$Row" "wholes" "[J") (by decide +kernel)) (fun _ h9 => h9) rfl dX2_isAsItWas_22 ?_
    refine lv_iload_n hx hb dX2_isAsItWas_25 rfl (lv_at hl 0 rfl) ?_
    refine va_lald hx hb hK hP 1 0 rfl rfl (ax_in (by omega) (by omega)) dX2_isAsItWas_26 ?_
    refine ax_l (y := (w ((k + ro) % 8))) (by rw [nI_clamp (n := (k + ro) % 8) (by omega)]) ?_
    refine W.lcmp hx hb dX2_isAsItWas_27 ?_
    refine lv_if_ne (tgt := 47) hx hb dX2_isAsItWas_28 (by decide) (fun c_3 => ?_) (fun c_3 => ?_)
    · have c_3 : ¬ (w k) = (w ((k + ro) % 8)) := ax_lgneT c_3
      refine lv_iconst (v := 0) hx hb dX2_isAsItWas_47 (by decide) ?_
      refine W.widen (k := 0) (n := 0) (Nat.le_of_ble_eq_true rfl) (Nat.le_of_ble_eq_true rfl) ?_
      exact W.zret (v := 0) (ty := .boolean) hx hb hr (by decide +kernel) (fun t8 ht hW => ⟨⟨0, (), rfl, Or.inr ⟨rfl, fun q => c_3 (q k (by omega)).1⟩, trivial⟩, hS.F ht⟩) hS.2.2 dX2_isAsItWas_48
    · have c_3 : (w k) = (w ((k + ro) % 8)) := ax_lgneF c_3
      refine lv_aload_n hx hb dX2_isAsItWas_31 rfl (lv_at hl 2 rfl) ?_
      refine va_get (D := (dC, dI)) (ci := 2) (v := .ref xt) (C := RX2) (T := TX2) (N := 2) hx hb hts (by decide +kernel) hown hK hP 0 rfl rfl 1 (by decide) (hts (.fieldLink RX2 15 "Diffractory$Row" "roots" "[J") (by decide +kernel)) (fun _ h9 => h9) rfl dX2_isAsItWas_32 ?_
      refine lv_iload_n hx hb dX2_isAsItWas_35 rfl (lv_at hl 1 rfl) ?_
      refine va_lald hx hb hK hP 2 0 rfl rfl (ax_in (by omega) (by omega)) dX2_isAsItWas_36 ?_
      refine ax_l (y := (t k)) (by rw [nI_clamp (n := k) (by omega)]) ?_
      refine lv_aload_n hx hb dX2_isAsItWas_37 rfl (lv_at hl 2 rfl) ?_
      refine va_get (D := (dC, dI)) (ci := 2) (v := .ref xt) (C := RX2) (T := TX2) (N := 2) hx hb hts (by decide +kernel) hown hK hP 0 rfl rfl 1 (by decide) (hts (.fieldLink RX2 15 "Diffractory$Row" "roots" "[J") (by decide +kernel)) (fun _ h9 => h9) rfl dX2_isAsItWas_38 ?_
      refine lv_iload_n hx hb dX2_isAsItWas_41 rfl (lv_at hl 0 rfl) ?_
      refine va_lald hx hb hK hP 2 0 rfl rfl (ax_in (by omega) (by omega)) dX2_isAsItWas_42 ?_
      refine ax_l (y := (t ((k + ro) % 8))) (by rw [nI_clamp (n := (k + ro) % 8) (by omega)]) ?_
      refine W.lcmp hx hb dX2_isAsItWas_43 ?_
      refine lv_if_eq (tgt := 49) hx hb dX2_isAsItWas_44 (by decide) (fun c_4 => ?_) (fun c_4 => ?_)
      · have c_4 : (t k) = (t ((k + ro) % 8)) := ax_lgeqT c_4
        refine lv_iinc (v := (nI (k + 1))) (lv' := [(2, .int (nI (k + 1))), (3, .int (nI ((k + ro) % 8))), (0, .ref xr), (1, .int (nI ro))]) hx hb dX2_isAsItWas_49 hl (k := 1) rfl (nI_succ _).symm (by decide) rfl (fun ls hl => ?_)
        refine lv_goto (tgt := 2) hx hb dX2_isAsItWas_52 (by decide) ?_
        have hl : lv_has ls 4 [(2, .int (nI (k + 1))), (0, .ref xr), (1, .int (nI ro))] := lv_sub hl [0, 2, 3] rfl
        exact ih_1 (k + 1) H locs ls ⟨by omega, fun j hj => (Nat.lt_or_ge j k).elim (hal j) (fun q => by rw [show j = k by omega]; exact ⟨c_3, c_4⟩), hl, hP, hS⟩ (show 8 - (k + 1) < 8 - k by omega)
      · have c_4 : ¬ (t k) = (t ((k + ro) % 8)) := ax_lgeqF c_4
        refine lv_iconst (v := 0) hx hb dX2_isAsItWas_47 (by decide) ?_
        refine W.widen (k := 0) (n := 0) (Nat.le_of_ble_eq_true rfl) (Nat.le_of_ble_eq_true rfl) ?_
        exact W.zret (v := 0) (ty := .boolean) hx hb hr (by decide +kernel) (fun t8 ht hW => ⟨⟨0, (), rfl, Or.inr ⟨rfl, fun q => c_4 (q k (by omega)).2⟩, trivial⟩, hS.F ht⟩) hS.2.2 dX2_isAsItWas_48

set_option maxHeartbeats 4000000 in
set_option maxRecDepth 100000 in
theorem c_X2_shortestRoll (l : Launch) (dC : Nat → ClassId) (dI : Nat → Nat → Nat) (xr xw xt : Nat) (cL : ClassId) (ta : Nat → Nat) (w : Nat → Int64) (t : Nat → Int64) : Met l yX2_shortestRoll wsX2_shortestRoll ({ frames := 1, cells := 0, slots := 0, locals := 23 }) (va_Pc [.ref xr] (ax_R (dC, dI) vwCl [(xr, .inr (2, [.ref xw, .ref xt])), (xw, .inl (cL, 8, .inr (.inl w))), (xt, .inl (cL, 8, .inr (.inl t)))] [(cL, .long)] ta)) (va_Qi (fun (r : Int32) (u9 : Unit) => r = (nI (srl w t))) (fun _ _ => True) ax_no) 0 0 ax_no := by
  refine Met.ofW (cc := cX2_shortestRoll) (maxL := 2) (ret := (some .int)) (by decide) rfl ?_
  intro p e s m args below meth c s₁ B hml hv
  obtain ⟨rfl, hP, hK, hE⟩ := hv
  have hx := B.exec
  have hb := B.bytes
  have hr := B.returns
  have hts := atoms_spec (ws := wsX2_shortestRoll) B.pre
  have hown : s.vm.findClass RX2 = some m.cls := findClass_of_methodNamed B.named
  have hlocks := B.notSynchronized
  have hS : va_S ax_no s.heap s.heap [] := va_S.rf
  have hl := lv_entry ([.ref xr]) (n := 2) (Nat.le_of_ble_eq_true rfl)
  rw [lg_entry_eq]
  generalize (lg_sl ([.ref xr]) ++ List.replicate (2 - (lg_sl ([.ref xr])).length) Slot.unset).toArray = ls at hl ⊢
  have hl : lv_has ls 2 [(0, .ref xr)] := hl
  have hP : va_P (dC, dI) vwCl [(xr, .inr (2, [.ref xw, .ref xt])), (xw, .inl (cL, 8, .inr (.inl w))), (xt, .inl (cL, 8, .inr (.inl t)))] s.heap := hP
  refine lv_iconst (v := 1) hx hb dX2_shortestRoll_0 (by decide) ?_
  refine lv_istore_n (lv' := [(1, .int 1), (0, .ref xr)]) hx hb dX2_shortestRoll_1 rfl hl (by decide) rfl (fun ls hl => ?_)
  refine lv_iload_n hx hb dX2_shortestRoll_2 rfl (lv_at hl 0 rfl) ?_
  refine lv_bipush (v := 8) hx hb dX2_shortestRoll_3 (by decide) ?_
  refine lv_icmp_ge (tgt := 24) hx hb dX2_shortestRoll_5 (by decide) (fun h9 => absurd h9 (by decide)) (fun _ => ?_)
  refine lv_aload_n hx hb dX2_shortestRoll_8 rfl (lv_at hl 1 rfl) ?_
  refine lv_iload_n hx hb dX2_shortestRoll_9 rfl (lv_at hl 0 rfl) ?_
  have hPc := hP.sub (ws' := [(xr, .inr (2, [.ref xw, .ref xt])), (xw, .inl (cL, 8, .inr (.inl w))), (xt, .inl (cL, 8, .inr (.inl t)))]) [0, 1, 2] rfl
  have hKc := hK.sub (tys' := [(cL, .long)]) [0] rfl
  refine va_calli (va_runV (As := [.int 1]) (rest := []) ⟨hx, hb, hml, hown, hts⟩ (c_X2_isAsItWas l dC dI xr xw xt cL ta w t 1 (by omega)) (cwV 1 hts gX2_shortestRoll_X2_isAsItWas rfl rfl rfl (by decide +kernel) ⟨Nat.le_of_ble_eq_true rfl, Nat.le_of_ble_eq_true rfl⟩) ⟨ax_fbR, va_recv hK hP (ci := 2) (q0 := 0) rfl rfl, ax_prR hPc hKc hS hE⟩ rfl rfl hl.1 rfl (lv_room (Nat.le_of_ble_eq_true rfl)) dX2_shortestRoll_10 ⟨Nat.le_of_ble_eq_true rfl, Nat.le_of_ble_eq_true rfl⟩) hS (fun _ _ h9 => h9.elim) (fun _ h9 => h9.elim) (fun r_1 u_3 t8 H locs ht hvm hw_2 hB hz1 hk1 hS => ?_)
  have hP := ax_keep hP (fun _ h9 => h9) hk1
  have hw_2 : ax_bo r_1 (asW w t 1) := hw_2
  rcases hw_2 with ⟨hr9, hw_2⟩ | ⟨hr9, hw_2⟩
  · refine ax_i hr9 ?_
    refine lv_if_eq (tgt := 18) hx hb dX2_shortestRoll_13 (by decide) (fun h9 => absurd h9 (by decide)) (fun _ => ?_)
    refine lv_iload_n hx hb dX2_shortestRoll_16 rfl (lv_at hl 0 rfl) ?_
    refine W.widen (k := 0) (n := 0) (Nat.le_of_ble_eq_true rfl) (Nat.le_of_ble_eq_true rfl) ?_
    exact W.iret (v := 1) hx hb hr (fun t8 ht hW => ⟨⟨1, (), rfl, by rw [srl, if_pos hw_2]; rfl, trivial⟩, hS.F ht⟩) hS.2.2 dX2_shortestRoll_17
  · refine ax_i hr9 ?_
    refine lv_if_eq (tgt := 18) hx hb dX2_shortestRoll_13 (by decide) (fun _ => ?_) (fun h9 => absurd (by decide) h9)
    refine lv_iinc (v := 2) (lv' := [(1, .int 2), (0, .ref xr)]) hx hb dX2_shortestRoll_18 hl (k := 0) rfl (by decide) (by decide) rfl (fun ls hl => ?_)
    refine lv_goto (tgt := 2) hx hb dX2_shortestRoll_21 (by decide) ?_
    refine lv_iload_n hx hb dX2_shortestRoll_2 rfl (lv_at hl 0 rfl) ?_
    refine lv_bipush (v := 8) hx hb dX2_shortestRoll_3 (by decide) ?_
    refine lv_icmp_ge (tgt := 24) hx hb dX2_shortestRoll_5 (by decide) (fun h9 => absurd h9 (by decide)) (fun _ => ?_)
    refine lv_aload_n hx hb dX2_shortestRoll_8 rfl (lv_at hl 1 rfl) ?_
    refine lv_iload_n hx hb dX2_shortestRoll_9 rfl (lv_at hl 0 rfl) ?_
    have hPc := hP.sub (ws' := [(xr, .inr (2, [.ref xw, .ref xt])), (xw, .inl (cL, 8, .inr (.inl w))), (xt, .inl (cL, 8, .inr (.inl t)))]) [0, 1, 2] rfl
    have hKc := hK.sub (tys' := [(cL, .long)]) [0] rfl
    refine va_calli (va_runV (As := [.int 2]) (rest := []) ⟨hx, hb, hml, hown, hts⟩ (c_X2_isAsItWas l dC dI xr xw xt cL ta w t 2 (by omega)) (cwV 1 hts gX2_shortestRoll_X2_isAsItWas rfl rfl rfl (by decide +kernel) ⟨Nat.le_of_ble_eq_true rfl, Nat.le_of_ble_eq_true rfl⟩) ⟨ax_fbR, va_recv hK hP (ci := 2) (q0 := 0) rfl rfl, ax_prR hPc hKc hS hE⟩ rfl rfl hl.1 rfl (lv_room (Nat.le_of_ble_eq_true rfl)) dX2_shortestRoll_10 ⟨Nat.le_of_ble_eq_true rfl, Nat.le_of_ble_eq_true rfl⟩) hS (fun _ _ h9 => h9.elim) (fun _ h9 => h9.elim) (fun r_4 u_6 t8 H locs ht hvm hw_5 hB hz1 hk1 hS => ?_)
    have hP := ax_keep hP (fun _ h9 => h9) hk1
    have hw_5 : ax_bo r_4 (asW w t 2) := hw_5
    rcases hw_5 with ⟨hr9, hw_5⟩ | ⟨hr9, hw_5⟩
    · refine ax_i hr9 ?_
      refine lv_if_eq (tgt := 18) hx hb dX2_shortestRoll_13 (by decide) (fun h9 => absurd h9 (by decide)) (fun _ => ?_)
      refine lv_iload_n hx hb dX2_shortestRoll_16 rfl (lv_at hl 0 rfl) ?_
      refine W.widen (k := 0) (n := 0) (Nat.le_of_ble_eq_true rfl) (Nat.le_of_ble_eq_true rfl) ?_
      exact W.iret (v := 2) hx hb hr (fun t8 ht hW => ⟨⟨2, (), rfl, by rw [srl, if_neg hw_2, if_pos hw_5]; rfl, trivial⟩, hS.F ht⟩) hS.2.2 dX2_shortestRoll_17
    · refine ax_i hr9 ?_
      refine lv_if_eq (tgt := 18) hx hb dX2_shortestRoll_13 (by decide) (fun _ => ?_) (fun h9 => absurd (by decide) h9)
      refine lv_iinc (v := 3) (lv' := [(1, .int 3), (0, .ref xr)]) hx hb dX2_shortestRoll_18 hl (k := 0) rfl (by decide) (by decide) rfl (fun ls hl => ?_)
      refine lv_goto (tgt := 2) hx hb dX2_shortestRoll_21 (by decide) ?_
      refine lv_iload_n hx hb dX2_shortestRoll_2 rfl (lv_at hl 0 rfl) ?_
      refine lv_bipush (v := 8) hx hb dX2_shortestRoll_3 (by decide) ?_
      refine lv_icmp_ge (tgt := 24) hx hb dX2_shortestRoll_5 (by decide) (fun h9 => absurd h9 (by decide)) (fun _ => ?_)
      refine lv_aload_n hx hb dX2_shortestRoll_8 rfl (lv_at hl 1 rfl) ?_
      refine lv_iload_n hx hb dX2_shortestRoll_9 rfl (lv_at hl 0 rfl) ?_
      have hPc := hP.sub (ws' := [(xr, .inr (2, [.ref xw, .ref xt])), (xw, .inl (cL, 8, .inr (.inl w))), (xt, .inl (cL, 8, .inr (.inl t)))]) [0, 1, 2] rfl
      have hKc := hK.sub (tys' := [(cL, .long)]) [0] rfl
      refine va_calli (va_runV (As := [.int 3]) (rest := []) ⟨hx, hb, hml, hown, hts⟩ (c_X2_isAsItWas l dC dI xr xw xt cL ta w t 3 (by omega)) (cwV 1 hts gX2_shortestRoll_X2_isAsItWas rfl rfl rfl (by decide +kernel) ⟨Nat.le_of_ble_eq_true rfl, Nat.le_of_ble_eq_true rfl⟩) ⟨ax_fbR, va_recv hK hP (ci := 2) (q0 := 0) rfl rfl, ax_prR hPc hKc hS hE⟩ rfl rfl hl.1 rfl (lv_room (Nat.le_of_ble_eq_true rfl)) dX2_shortestRoll_10 ⟨Nat.le_of_ble_eq_true rfl, Nat.le_of_ble_eq_true rfl⟩) hS (fun _ _ h9 => h9.elim) (fun _ h9 => h9.elim) (fun r_7 u_9 t8 H locs ht hvm hw_8 hB hz1 hk1 hS => ?_)
      have hP := ax_keep hP (fun _ h9 => h9) hk1
      have hw_8 : ax_bo r_7 (asW w t 3) := hw_8
      rcases hw_8 with ⟨hr9, hw_8⟩ | ⟨hr9, hw_8⟩
      · refine ax_i hr9 ?_
        refine lv_if_eq (tgt := 18) hx hb dX2_shortestRoll_13 (by decide) (fun h9 => absurd h9 (by decide)) (fun _ => ?_)
        refine lv_iload_n hx hb dX2_shortestRoll_16 rfl (lv_at hl 0 rfl) ?_
        refine W.widen (k := 0) (n := 0) (Nat.le_of_ble_eq_true rfl) (Nat.le_of_ble_eq_true rfl) ?_
        exact W.iret (v := 3) hx hb hr (fun t8 ht hW => ⟨⟨3, (), rfl, by rw [srl, if_neg hw_2, if_neg hw_5, if_pos hw_8]; rfl, trivial⟩, hS.F ht⟩) hS.2.2 dX2_shortestRoll_17
      · refine ax_i hr9 ?_
        refine lv_if_eq (tgt := 18) hx hb dX2_shortestRoll_13 (by decide) (fun _ => ?_) (fun h9 => absurd (by decide) h9)
        refine lv_iinc (v := 4) (lv' := [(1, .int 4), (0, .ref xr)]) hx hb dX2_shortestRoll_18 hl (k := 0) rfl (by decide) (by decide) rfl (fun ls hl => ?_)
        refine lv_goto (tgt := 2) hx hb dX2_shortestRoll_21 (by decide) ?_
        refine lv_iload_n hx hb dX2_shortestRoll_2 rfl (lv_at hl 0 rfl) ?_
        refine lv_bipush (v := 8) hx hb dX2_shortestRoll_3 (by decide) ?_
        refine lv_icmp_ge (tgt := 24) hx hb dX2_shortestRoll_5 (by decide) (fun h9 => absurd h9 (by decide)) (fun _ => ?_)
        refine lv_aload_n hx hb dX2_shortestRoll_8 rfl (lv_at hl 1 rfl) ?_
        refine lv_iload_n hx hb dX2_shortestRoll_9 rfl (lv_at hl 0 rfl) ?_
        have hPc := hP.sub (ws' := [(xr, .inr (2, [.ref xw, .ref xt])), (xw, .inl (cL, 8, .inr (.inl w))), (xt, .inl (cL, 8, .inr (.inl t)))]) [0, 1, 2] rfl
        have hKc := hK.sub (tys' := [(cL, .long)]) [0] rfl
        refine va_calli (va_runV (As := [.int 4]) (rest := []) ⟨hx, hb, hml, hown, hts⟩ (c_X2_isAsItWas l dC dI xr xw xt cL ta w t 4 (by omega)) (cwV 1 hts gX2_shortestRoll_X2_isAsItWas rfl rfl rfl (by decide +kernel) ⟨Nat.le_of_ble_eq_true rfl, Nat.le_of_ble_eq_true rfl⟩) ⟨ax_fbR, va_recv hK hP (ci := 2) (q0 := 0) rfl rfl, ax_prR hPc hKc hS hE⟩ rfl rfl hl.1 rfl (lv_room (Nat.le_of_ble_eq_true rfl)) dX2_shortestRoll_10 ⟨Nat.le_of_ble_eq_true rfl, Nat.le_of_ble_eq_true rfl⟩) hS (fun _ _ h9 => h9.elim) (fun _ h9 => h9.elim) (fun r_10 u_12 t8 H locs ht hvm hw_11 hB hz1 hk1 hS => ?_)
        have hP := ax_keep hP (fun _ h9 => h9) hk1
        have hw_11 : ax_bo r_10 (asW w t 4) := hw_11
        rcases hw_11 with ⟨hr9, hw_11⟩ | ⟨hr9, hw_11⟩
        · refine ax_i hr9 ?_
          refine lv_if_eq (tgt := 18) hx hb dX2_shortestRoll_13 (by decide) (fun h9 => absurd h9 (by decide)) (fun _ => ?_)
          refine lv_iload_n hx hb dX2_shortestRoll_16 rfl (lv_at hl 0 rfl) ?_
          refine W.widen (k := 0) (n := 0) (Nat.le_of_ble_eq_true rfl) (Nat.le_of_ble_eq_true rfl) ?_
          exact W.iret (v := 4) hx hb hr (fun t8 ht hW => ⟨⟨4, (), rfl, by rw [srl, if_neg hw_2, if_neg hw_5, if_neg hw_8, if_pos hw_11]; rfl, trivial⟩, hS.F ht⟩) hS.2.2 dX2_shortestRoll_17
        · refine ax_i hr9 ?_
          refine lv_if_eq (tgt := 18) hx hb dX2_shortestRoll_13 (by decide) (fun _ => ?_) (fun h9 => absurd (by decide) h9)
          refine lv_iinc (v := 5) (lv' := [(1, .int 5), (0, .ref xr)]) hx hb dX2_shortestRoll_18 hl (k := 0) rfl (by decide) (by decide) rfl (fun ls hl => ?_)
          refine lv_goto (tgt := 2) hx hb dX2_shortestRoll_21 (by decide) ?_
          refine lv_iload_n hx hb dX2_shortestRoll_2 rfl (lv_at hl 0 rfl) ?_
          refine lv_bipush (v := 8) hx hb dX2_shortestRoll_3 (by decide) ?_
          refine lv_icmp_ge (tgt := 24) hx hb dX2_shortestRoll_5 (by decide) (fun h9 => absurd h9 (by decide)) (fun _ => ?_)
          refine lv_aload_n hx hb dX2_shortestRoll_8 rfl (lv_at hl 1 rfl) ?_
          refine lv_iload_n hx hb dX2_shortestRoll_9 rfl (lv_at hl 0 rfl) ?_
          have hPc := hP.sub (ws' := [(xr, .inr (2, [.ref xw, .ref xt])), (xw, .inl (cL, 8, .inr (.inl w))), (xt, .inl (cL, 8, .inr (.inl t)))]) [0, 1, 2] rfl
          have hKc := hK.sub (tys' := [(cL, .long)]) [0] rfl
          refine va_calli (va_runV (As := [.int 5]) (rest := []) ⟨hx, hb, hml, hown, hts⟩ (c_X2_isAsItWas l dC dI xr xw xt cL ta w t 5 (by omega)) (cwV 1 hts gX2_shortestRoll_X2_isAsItWas rfl rfl rfl (by decide +kernel) ⟨Nat.le_of_ble_eq_true rfl, Nat.le_of_ble_eq_true rfl⟩) ⟨ax_fbR, va_recv hK hP (ci := 2) (q0 := 0) rfl rfl, ax_prR hPc hKc hS hE⟩ rfl rfl hl.1 rfl (lv_room (Nat.le_of_ble_eq_true rfl)) dX2_shortestRoll_10 ⟨Nat.le_of_ble_eq_true rfl, Nat.le_of_ble_eq_true rfl⟩) hS (fun _ _ h9 => h9.elim) (fun _ h9 => h9.elim) (fun r_13 u_15 t8 H locs ht hvm hw_14 hB hz1 hk1 hS => ?_)
          have hP := ax_keep hP (fun _ h9 => h9) hk1
          have hw_14 : ax_bo r_13 (asW w t 5) := hw_14
          rcases hw_14 with ⟨hr9, hw_14⟩ | ⟨hr9, hw_14⟩
          · refine ax_i hr9 ?_
            refine lv_if_eq (tgt := 18) hx hb dX2_shortestRoll_13 (by decide) (fun h9 => absurd h9 (by decide)) (fun _ => ?_)
            refine lv_iload_n hx hb dX2_shortestRoll_16 rfl (lv_at hl 0 rfl) ?_
            refine W.widen (k := 0) (n := 0) (Nat.le_of_ble_eq_true rfl) (Nat.le_of_ble_eq_true rfl) ?_
            exact W.iret (v := 5) hx hb hr (fun t8 ht hW => ⟨⟨5, (), rfl, by rw [srl, if_neg hw_2, if_neg hw_5, if_neg hw_8, if_neg hw_11, if_pos hw_14]; rfl, trivial⟩, hS.F ht⟩) hS.2.2 dX2_shortestRoll_17
          · refine ax_i hr9 ?_
            refine lv_if_eq (tgt := 18) hx hb dX2_shortestRoll_13 (by decide) (fun _ => ?_) (fun h9 => absurd (by decide) h9)
            refine lv_iinc (v := 6) (lv' := [(1, .int 6), (0, .ref xr)]) hx hb dX2_shortestRoll_18 hl (k := 0) rfl (by decide) (by decide) rfl (fun ls hl => ?_)
            refine lv_goto (tgt := 2) hx hb dX2_shortestRoll_21 (by decide) ?_
            refine lv_iload_n hx hb dX2_shortestRoll_2 rfl (lv_at hl 0 rfl) ?_
            refine lv_bipush (v := 8) hx hb dX2_shortestRoll_3 (by decide) ?_
            refine lv_icmp_ge (tgt := 24) hx hb dX2_shortestRoll_5 (by decide) (fun h9 => absurd h9 (by decide)) (fun _ => ?_)
            refine lv_aload_n hx hb dX2_shortestRoll_8 rfl (lv_at hl 1 rfl) ?_
            refine lv_iload_n hx hb dX2_shortestRoll_9 rfl (lv_at hl 0 rfl) ?_
            have hPc := hP.sub (ws' := [(xr, .inr (2, [.ref xw, .ref xt])), (xw, .inl (cL, 8, .inr (.inl w))), (xt, .inl (cL, 8, .inr (.inl t)))]) [0, 1, 2] rfl
            have hKc := hK.sub (tys' := [(cL, .long)]) [0] rfl
            refine va_calli (va_runV (As := [.int 6]) (rest := []) ⟨hx, hb, hml, hown, hts⟩ (c_X2_isAsItWas l dC dI xr xw xt cL ta w t 6 (by omega)) (cwV 1 hts gX2_shortestRoll_X2_isAsItWas rfl rfl rfl (by decide +kernel) ⟨Nat.le_of_ble_eq_true rfl, Nat.le_of_ble_eq_true rfl⟩) ⟨ax_fbR, va_recv hK hP (ci := 2) (q0 := 0) rfl rfl, ax_prR hPc hKc hS hE⟩ rfl rfl hl.1 rfl (lv_room (Nat.le_of_ble_eq_true rfl)) dX2_shortestRoll_10 ⟨Nat.le_of_ble_eq_true rfl, Nat.le_of_ble_eq_true rfl⟩) hS (fun _ _ h9 => h9.elim) (fun _ h9 => h9.elim) (fun r_16 u_18 t8 H locs ht hvm hw_17 hB hz1 hk1 hS => ?_)
            have hP := ax_keep hP (fun _ h9 => h9) hk1
            have hw_17 : ax_bo r_16 (asW w t 6) := hw_17
            rcases hw_17 with ⟨hr9, hw_17⟩ | ⟨hr9, hw_17⟩
            · refine ax_i hr9 ?_
              refine lv_if_eq (tgt := 18) hx hb dX2_shortestRoll_13 (by decide) (fun h9 => absurd h9 (by decide)) (fun _ => ?_)
              refine lv_iload_n hx hb dX2_shortestRoll_16 rfl (lv_at hl 0 rfl) ?_
              refine W.widen (k := 0) (n := 0) (Nat.le_of_ble_eq_true rfl) (Nat.le_of_ble_eq_true rfl) ?_
              exact W.iret (v := 6) hx hb hr (fun t8 ht hW => ⟨⟨6, (), rfl, by rw [srl, if_neg hw_2, if_neg hw_5, if_neg hw_8, if_neg hw_11, if_neg hw_14, if_pos hw_17]; rfl, trivial⟩, hS.F ht⟩) hS.2.2 dX2_shortestRoll_17
            · refine ax_i hr9 ?_
              refine lv_if_eq (tgt := 18) hx hb dX2_shortestRoll_13 (by decide) (fun _ => ?_) (fun h9 => absurd (by decide) h9)
              refine lv_iinc (v := 7) (lv' := [(1, .int 7), (0, .ref xr)]) hx hb dX2_shortestRoll_18 hl (k := 0) rfl (by decide) (by decide) rfl (fun ls hl => ?_)
              refine lv_goto (tgt := 2) hx hb dX2_shortestRoll_21 (by decide) ?_
              refine lv_iload_n hx hb dX2_shortestRoll_2 rfl (lv_at hl 0 rfl) ?_
              refine lv_bipush (v := 8) hx hb dX2_shortestRoll_3 (by decide) ?_
              refine lv_icmp_ge (tgt := 24) hx hb dX2_shortestRoll_5 (by decide) (fun h9 => absurd h9 (by decide)) (fun _ => ?_)
              refine lv_aload_n hx hb dX2_shortestRoll_8 rfl (lv_at hl 1 rfl) ?_
              refine lv_iload_n hx hb dX2_shortestRoll_9 rfl (lv_at hl 0 rfl) ?_
              have hPc := hP.sub (ws' := [(xr, .inr (2, [.ref xw, .ref xt])), (xw, .inl (cL, 8, .inr (.inl w))), (xt, .inl (cL, 8, .inr (.inl t)))]) [0, 1, 2] rfl
              have hKc := hK.sub (tys' := [(cL, .long)]) [0] rfl
              refine va_calli (va_runV (As := [.int 7]) (rest := []) ⟨hx, hb, hml, hown, hts⟩ (c_X2_isAsItWas l dC dI xr xw xt cL ta w t 7 (by omega)) (cwV 1 hts gX2_shortestRoll_X2_isAsItWas rfl rfl rfl (by decide +kernel) ⟨Nat.le_of_ble_eq_true rfl, Nat.le_of_ble_eq_true rfl⟩) ⟨ax_fbR, va_recv hK hP (ci := 2) (q0 := 0) rfl rfl, ax_prR hPc hKc hS hE⟩ rfl rfl hl.1 rfl (lv_room (Nat.le_of_ble_eq_true rfl)) dX2_shortestRoll_10 ⟨Nat.le_of_ble_eq_true rfl, Nat.le_of_ble_eq_true rfl⟩) hS (fun _ _ h9 => h9.elim) (fun _ h9 => h9.elim) (fun r_19 u_21 t8 H locs ht hvm hw_20 hB hz1 hk1 hS => ?_)
              have hP := ax_keep hP (fun _ h9 => h9) hk1
              have hw_20 : ax_bo r_19 (asW w t 7) := hw_20
              rcases hw_20 with ⟨hr9, hw_20⟩ | ⟨hr9, hw_20⟩
              · refine ax_i hr9 ?_
                refine lv_if_eq (tgt := 18) hx hb dX2_shortestRoll_13 (by decide) (fun h9 => absurd h9 (by decide)) (fun _ => ?_)
                refine lv_iload_n hx hb dX2_shortestRoll_16 rfl (lv_at hl 0 rfl) ?_
                refine W.widen (k := 0) (n := 0) (Nat.le_of_ble_eq_true rfl) (Nat.le_of_ble_eq_true rfl) ?_
                exact W.iret (v := 7) hx hb hr (fun t8 ht hW => ⟨⟨7, (), rfl, by rw [srl, if_neg hw_2, if_neg hw_5, if_neg hw_8, if_neg hw_11, if_neg hw_14, if_neg hw_17, if_pos hw_20]; rfl, trivial⟩, hS.F ht⟩) hS.2.2 dX2_shortestRoll_17
              · refine ax_i hr9 ?_
                refine lv_if_eq (tgt := 18) hx hb dX2_shortestRoll_13 (by decide) (fun _ => ?_) (fun h9 => absurd (by decide) h9)
                refine lv_iinc (v := 8) (lv' := [(1, .int 8), (0, .ref xr)]) hx hb dX2_shortestRoll_18 hl (k := 0) rfl (by decide) (by decide) rfl (fun ls hl => ?_)
                refine lv_goto (tgt := 2) hx hb dX2_shortestRoll_21 (by decide) ?_
                refine lv_iload_n hx hb dX2_shortestRoll_2 rfl (lv_at hl 0 rfl) ?_
                refine lv_bipush (v := 8) hx hb dX2_shortestRoll_3 (by decide) ?_
                refine lv_icmp_ge (tgt := 24) hx hb dX2_shortestRoll_5 (by decide) (fun _ => ?_) (fun h9 => absurd (by decide) h9)
                refine lv_bipush (v := 8) hx hb dX2_shortestRoll_24 (by decide) ?_
                refine W.widen (k := 0) (n := 0) (Nat.le_of_ble_eq_true rfl) (Nat.le_of_ble_eq_true rfl) ?_
                exact W.iret (v := 8) hx hb hr (fun t8 ht hW => ⟨⟨8, (), rfl, by rw [srl, if_neg hw_2, if_neg hw_5, if_neg hw_8, if_neg hw_11, if_neg hw_14, if_neg hw_17, if_neg hw_20]; rfl, trivial⟩, hS.F ht⟩) hS.2.2 dX2_shortestRoll_26

set_option maxHeartbeats 4000000 in
set_option maxRecDepth 100000 in
theorem c_X2_notBelowZero (l : Launch) (v : UInt64) : Met l yX2_notBelowZero wsX2_notBelowZero ({ frames := 0, cells := 0, slots := 0, locals := 0 }) (va_Pc [.double v] (fun _ => True)) (va_Qd (fun (r : UInt64) (u9 : Unit) => r = (nbz v)) (fun _ _ => True) ax_no) 0 0 ax_no := by
  refine Met.ofW (cc := cX2_notBelowZero) (maxL := 2) (ret := (some .double)) (by decide) rfl ?_
  intro p e s m args below meth c s₁ B hml hv
  obtain ⟨rfl, -⟩ := hv
  have hx := B.exec
  have hb := B.bytes
  have hr := B.returns
  have hts := atoms_spec (ws := wsX2_notBelowZero) B.pre
  have hown : s.vm.findClass RX2 = some m.cls := findClass_of_methodNamed B.named
  have hlocks := B.notSynchronized
  have hS : va_S ax_no s.heap s.heap [] := va_S.rf
  have hl := lv_entry ([.double v]) (n := 2) (Nat.le_of_ble_eq_true rfl)
  rw [lg_entry_eq]
  generalize (lg_sl ([.double v]) ++ List.replicate (2 - (lg_sl ([.double v])).length) Slot.unset).toArray = ls at hl ⊢
  have hl : lv_has ls 2 [(0, .double v)] := hl
  refine lv_dload_n hx hb dX2_notBelowZero_0 rfl (lv_at hl 0 rfl) ?_
  refine lv_dconst0 hx hb dX2_notBelowZero_1 ?_
  refine ax_d (y := 0) rfl ?_
  refine lv_dcmp hx hb dX2_notBelowZero_2 ?_
  refine lv_if_le (tgt := 10) hx hb dX2_notBelowZero_3 (by decide) (fun c_1 => ?_) (fun c_1 => ?_)
  · have c_1 : ¬ 0 < (Op.cmpValue (FP.dcmp v 0) .l).toInt := ax_fleT c_1
    refine lv_dconst0 hx hb dX2_notBelowZero_10 ?_
    refine ax_d (y := 0) rfl ?_
    refine W.widen (k := 0) (n := 0) (Nat.le_of_ble_eq_true rfl) (Nat.le_of_ble_eq_true rfl) ?_
    exact W.dret (v := 0) hx hb hr (fun t8 ht hW => ⟨⟨0, (), rfl, by rw [nbz, if_neg c_1], trivial⟩, hS.F ht⟩) hS.2.2 dX2_notBelowZero_11
  · have c_1 : 0 < (Op.cmpValue (FP.dcmp v 0) .l).toInt := ax_fleF c_1
    refine lv_dload_n hx hb dX2_notBelowZero_6 rfl (lv_at hl 0 rfl) ?_
    refine lv_goto (tgt := 11) hx hb dX2_notBelowZero_7 (by decide) ?_
    refine W.widen (k := 0) (n := 0) (Nat.le_of_ble_eq_true rfl) (Nat.le_of_ble_eq_true rfl) ?_
    exact W.dret (v := v) hx hb hr (fun t8 ht hW => ⟨⟨v, (), rfl, by rw [nbz, if_pos c_1], trivial⟩, hS.F ht⟩) hS.2.2 dX2_notBelowZero_11

set_option maxHeartbeats 4000000 in
set_option maxRecDepth 100000 in
theorem c_X2_contrast (l : Launch) (dC : Nat → ClassId) (dI : Nat → Nat → Nat) (xr xw xt : Nat) (cL : ClassId) (ta : Nat → Nat) (w : Nat → Int64) (t : Nat → Int64) : Met l yX2_contrast wsX2_contrast ({ frames := 3, cells := 0, slots := 0, locals := 63 }) (va_Pc [.ref xr] (ax_R (dC, dI) vwCl [(xr, .inr (2, [.ref xw, .ref xt])), (xw, .inl (cL, 8, .inr (.inl w))), (xt, .inl (cL, 8, .inr (.inl t)))] [(cL, .long)] ta)) (va_Qd (fun (r : UInt64) (u9 : Unit) => r = (cnt w t)) (fun _ _ => True) ax_no) 0 0 ax_no := by
  refine Met.ofW (cc := cX2_contrast) (maxL := 7) (ret := (some .double)) (by decide) rfl ?_
  intro p e s m args below meth c s₁ B hml hv
  obtain ⟨rfl, hP, hK, hE⟩ := hv
  have hx := B.exec
  have hb := B.bytes
  have hr := B.returns
  have hts := atoms_spec (ws := wsX2_contrast) B.pre
  have hown : s.vm.findClass RX2 = some m.cls := findClass_of_methodNamed B.named
  have hlocks := B.notSynchronized
  have hS : va_S ax_no s.heap s.heap [] := va_S.rf
  have hl := lv_entry ([.ref xr]) (n := 7) (Nat.le_of_ble_eq_true rfl)
  rw [lg_entry_eq]
  generalize (lg_sl ([.ref xr]) ++ List.replicate (7 - (lg_sl ([.ref xr])).length) Slot.unset).toArray = ls at hl ⊢
  have hl : lv_has ls 7 [(0, .ref xr)] := hl
  have hP : va_P (dC, dI) vwCl [(xr, .inr (2, [.ref xw, .ref xt])), (xw, .inl (cL, 8, .inr (.inl w))), (xt, .inl (cL, 8, .inr (.inl t)))] s.heap := hP
  refine lv_aload_n hx hb dX2_contrast_0 rfl (lv_at hl 0 rfl) ?_
  have hPc := hP.sub (ws' := [(xr, .inr (2, [.ref xw, .ref xt])), (xw, .inl (cL, 8, .inr (.inl w))), (xt, .inl (cL, 8, .inr (.inl t)))]) [0, 1, 2] rfl
  have hKc := hK.sub (tys' := [(cL, .long)]) [0] rfl
  refine va_calld (va_runV (As := []) (rest := []) ⟨hx, hb, hml, hown, hts⟩ (c_X2_greatest l dC dI xr xw xt cL ta w t) (cwV 0 hts gX2_contrast_X2_greatest rfl rfl rfl (by decide +kernel) ⟨Nat.le_of_ble_eq_true rfl, Nat.le_of_ble_eq_true rfl⟩) ⟨ax_fbR, va_recv hK hP (ci := 2) (q0 := 0) rfl rfl, ax_prR hPc hKc hS hE⟩ rfl rfl hl.1 rfl (lv_room (Nat.le_of_ble_eq_true rfl)) dX2_contrast_1 ⟨Nat.le_of_ble_eq_true rfl, Nat.le_of_ble_eq_true rfl⟩) hS (fun _ _ h9 => h9.elim) (fun _ h9 => h9.elim) (fun r_1 u_3 t8 H locs ht hvm hw_2 hB hz1 hk1 hS => ?_)
  have hP := ax_keep hP (fun _ h9 => h9) hk1
  have hw_2 : r_1 = (gr8 w t) := hw_2
  refine ax_d (y := (gr8 w t)) hw_2 ?_
  refine va_calld (va_runS (As := [.double (gr8 w t)]) (rest := []) ⟨hx, hb, hml, hown, hts⟩ (c_X2_notBelowZero l (gr8 w t)) (va_cwS 1 hts gX2_contrast_X2_notBelowZero rfl rfl rfl (by decide +kernel) ⟨Nat.le_of_ble_eq_true rfl, Nat.le_of_ble_eq_true rfl⟩) ⟨ax_fbP, ax_prP⟩ rfl rfl hl.1 rfl (lv_room (Nat.le_of_ble_eq_true rfl)) dX2_contrast_4 ⟨Nat.le_of_ble_eq_true rfl, Nat.le_of_ble_eq_true rfl⟩) hS (fun _ _ h9 => h9.elim) (fun _ h9 => h9.elim) (fun r_4 u_6 t8 H locs ht hvm hw_5 hB hz1 hk1 hS => ?_)
  have hP := ax_keep hP (fun _ h9 => h9) hk1
  have hw_5 : r_4 = (nbz (gr8 w t)) := hw_5
  refine ax_d (y := (nbz (gr8 w t))) hw_5 ?_
  refine lv_dstore_n (lv' := [(1, .double (nbz (gr8 w t))), (0, .ref xr)]) hx hb dX2_contrast_7 rfl hl (by decide) rfl (fun ls hl => ?_)
  refine lv_aload_n hx hb dX2_contrast_8 rfl (lv_at hl 1 rfl) ?_
  have hPc := hP.sub (ws' := [(xr, .inr (2, [.ref xw, .ref xt])), (xw, .inl (cL, 8, .inr (.inl w))), (xt, .inl (cL, 8, .inr (.inl t)))]) [0, 1, 2] rfl
  have hKc := hK.sub (tys' := [(cL, .long)]) [0] rfl
  refine va_calld (va_runV (As := []) (rest := []) ⟨hx, hb, hml, hown, hts⟩ (c_X2_least l dC dI xr xw xt cL ta w t) (cwV 0 hts gX2_contrast_X2_least rfl rfl rfl (by decide +kernel) ⟨Nat.le_of_ble_eq_true rfl, Nat.le_of_ble_eq_true rfl⟩) ⟨ax_fbR, va_recv hK hP (ci := 2) (q0 := 0) rfl rfl, ax_prR hPc hKc hS hE⟩ rfl rfl hl.1 rfl (lv_room (Nat.le_of_ble_eq_true rfl)) dX2_contrast_9 ⟨Nat.le_of_ble_eq_true rfl, Nat.le_of_ble_eq_true rfl⟩) hS (fun _ _ h9 => h9.elim) (fun _ h9 => h9.elim) (fun r_7 u_9 t8 H locs ht hvm hw_8 hB hz1 hk1 hS => ?_)
  have hP := ax_keep hP (fun _ h9 => h9) hk1
  have hw_8 : r_7 = (leR w t 8) := hw_8
  refine ax_d (y := (leR w t 8)) hw_8 ?_
  refine va_calld (va_runS (As := [.double (leR w t 8)]) (rest := []) ⟨hx, hb, hml, hown, hts⟩ (c_X2_notBelowZero l (leR w t 8)) (va_cwS 1 hts gX2_contrast_X2_notBelowZero rfl rfl rfl (by decide +kernel) ⟨Nat.le_of_ble_eq_true rfl, Nat.le_of_ble_eq_true rfl⟩) ⟨ax_fbP, ax_prP⟩ rfl rfl hl.1 rfl (lv_room (Nat.le_of_ble_eq_true rfl)) dX2_contrast_12 ⟨Nat.le_of_ble_eq_true rfl, Nat.le_of_ble_eq_true rfl⟩) hS (fun _ _ h9 => h9.elim) (fun _ h9 => h9.elim) (fun r_10 u_12 t8 H locs ht hvm hw_11 hB hz1 hk1 hS => ?_)
  have hP := ax_keep hP (fun _ h9 => h9) hk1
  have hw_11 : r_10 = (nbz (leR w t 8)) := hw_11
  refine ax_d (y := (nbz (leR w t 8))) hw_11 ?_
  refine lv_dstore_n (lv' := [(3, .double (nbz (leR w t 8))), (1, .double (nbz (gr8 w t))), (0, .ref xr)]) hx hb dX2_contrast_15 rfl hl (by decide) rfl (fun ls hl => ?_)
  refine lv_dload_n hx hb dX2_contrast_16 rfl (lv_at hl 1 rfl) ?_
  refine lv_dload_n hx hb dX2_contrast_17 rfl (lv_at hl 0 rfl) ?_
  refine lv_dadd hx hb dX2_contrast_18 (ax_nc1 _ _) ?_
  refine lv_dstore (lv' := [(5, .double (FP.dadd (nbz (gr8 w t)) (nbz (leR w t 8)))), (3, .double (nbz (leR w t 8))), (1, .double (nbz (gr8 w t))), (0, .ref xr)]) hx hb dX2_contrast_19 hl (by decide) rfl (fun ls hl => ?_)
  refine lv_dload hx hb dX2_contrast_21 (lv_at hl 0 rfl) ?_
  refine lv_dconst0 hx hb dX2_contrast_23 ?_
  refine ax_d (y := 0) rfl ?_
  refine lv_dcmp hx hb dX2_contrast_24 ?_
  refine lv_if_le (tgt := 37) hx hb dX2_contrast_25 (by decide) (fun c_13 => ?_) (fun c_13 => ?_)
  · have c_13 : ¬ 0 < (Op.cmpValue (FP.dcmp (FP.dadd (nbz (gr8 w t)) (nbz (leR w t 8))) 0) .l).toInt := ax_fleT c_13
    refine lv_dconst0 hx hb dX2_contrast_37 ?_
    refine ax_d (y := 0) rfl ?_
    refine W.widen (k := 0) (n := 0) (Nat.le_of_ble_eq_true rfl) (Nat.le_of_ble_eq_true rfl) ?_
    exact W.dret (v := 0) hx hb hr (fun t8 ht hW => ⟨⟨0, (), rfl, by rw [cnt, if_neg c_13], trivial⟩, hS.F ht⟩) hS.2.2 dX2_contrast_38
  · have c_13 : 0 < (Op.cmpValue (FP.dcmp (FP.dadd (nbz (gr8 w t)) (nbz (leR w t 8))) 0) .l).toInt := ax_fleF c_13
    refine lv_dload_n hx hb dX2_contrast_28 rfl (lv_at hl 2 rfl) ?_
    refine lv_dload_n hx hb dX2_contrast_29 rfl (lv_at hl 1 rfl) ?_
    refine lv_dsub hx hb dX2_contrast_30 (ax_nc2 _ _) ?_
    refine lv_dload hx hb dX2_contrast_31 (lv_at hl 0 rfl) ?_
    refine lv_ddiv hx hb dX2_contrast_33 (ax_nc3 c_13) ?_
    refine lv_goto (tgt := 38) hx hb dX2_contrast_34 (by decide) ?_
    refine W.widen (k := 0) (n := 0) (Nat.le_of_ble_eq_true rfl) (Nat.le_of_ble_eq_true rfl) ?_
    exact W.dret (v := (FP.ddiv (FP.dsub (nbz (gr8 w t)) (nbz (leR w t 8))) (FP.dadd (nbz (gr8 w t)) (nbz (leR w t 8))))) hx hb hr (fun t8 ht hW => ⟨⟨(FP.ddiv (FP.dsub (nbz (gr8 w t)) (nbz (leR w t 8))) (FP.dadd (nbz (gr8 w t)) (nbz (leR w t 8)))), (), rfl, by rw [cnt, if_pos c_13], trivial⟩, hS.F ht⟩) hS.2.2 dX2_contrast_38

set_option maxHeartbeats 4000000 in
set_option maxRecDepth 100000 in
theorem c_X2_roundAboveZero (l : Launch) (v : UInt64) (hv9 : FP.Core.dIsNaN v = false) : Met l yX2_roundAboveZero wsX2_roundAboveZero ({ frames := 0, cells := 0, slots := 0, locals := 0 }) (va_Pc [.double v] (fun _ => True)) (va_Qd (fun (r : UInt64) (u9 : Unit) => r = (rab v)) (fun _ _ => True) ax_no) 0 0 ax_no := by
  refine Met.ofW (cc := cX2_roundAboveZero) (maxL := 4) (ret := (some .double)) (by decide) rfl ?_
  intro p e s m args below meth c s₁ B hml hv
  obtain ⟨rfl, -⟩ := hv
  have hx := B.exec
  have hb := B.bytes
  have hr := B.returns
  have hts := atoms_spec (ws := wsX2_roundAboveZero) B.pre
  have hown : s.vm.findClass RX2 = some m.cls := findClass_of_methodNamed B.named
  have hlocks := B.notSynchronized
  have hS : va_S ax_no s.heap s.heap [] := va_S.rf
  have hl := lv_entry ([.double v]) (n := 4) (Nat.le_of_ble_eq_true rfl)
  rw [lg_entry_eq]
  generalize (lg_sl ([.double v]) ++ List.replicate (4 - (lg_sl ([.double v])).length) Slot.unset).toArray = ls at hl ⊢
  have hl : lv_has ls 4 [(0, .double v)] := hl
  refine lv_ldc2d (v := 4841369599423283200) hx hb hown (hts (.constantDouble RX2 70 4841369599423283200) (by decide +kernel)) dX2_roundAboveZero_0 ?_
  refine lv_dstore_n (lv' := [(2, .double 4841369599423283200), (0, .double v)]) hx hb dX2_roundAboveZero_3 rfl hl (by decide) rfl (fun ls hl => ?_)
  refine lv_dload_n hx hb dX2_roundAboveZero_4 rfl (lv_at hl 1 rfl) ?_
  refine lv_dload_n hx hb dX2_roundAboveZero_5 rfl (lv_at hl 0 rfl) ?_
  refine lv_dcmp hx hb dX2_roundAboveZero_6 ?_
  refine lv_if_ge (tgt := 18) hx hb dX2_roundAboveZero_7 (by decide) (fun c_1 => ?_) (fun c_1 => ?_)
  · have c_1 : ¬ (Op.cmpValue (FP.dcmp v 4841369599423283200) .g).toInt < 0 := ax_fgeT c_1
    refine lv_dload_n hx hb dX2_roundAboveZero_18 rfl (lv_at hl 1 rfl) ?_
    refine W.widen (k := 0) (n := 0) (Nat.le_of_ble_eq_true rfl) (Nat.le_of_ble_eq_true rfl) ?_
    exact W.dret (v := v) hx hb hr (fun t8 ht hW => ⟨⟨v, (), rfl, by rw [rab, if_neg c_1], trivial⟩, hS.F ht⟩) hS.2.2 dX2_roundAboveZero_19
  · have c_1 : (Op.cmpValue (FP.dcmp v 4841369599423283200) .g).toInt < 0 := ax_fgeF c_1
    refine lv_dload_n hx hb dX2_roundAboveZero_10 rfl (lv_at hl 1 rfl) ?_
    refine lv_dload_n hx hb dX2_roundAboveZero_11 rfl (lv_at hl 0 rfl) ?_
    refine lv_dadd hx hb dX2_roundAboveZero_12 (ax_nr1 hv9) ?_
    refine lv_dload_n hx hb dX2_roundAboveZero_13 rfl (lv_at hl 0 rfl) ?_
    refine lv_dsub hx hb dX2_roundAboveZero_14 (ax_nr2 hv9) ?_
    refine lv_goto (tgt := 19) hx hb dX2_roundAboveZero_15 (by decide) ?_
    refine W.widen (k := 0) (n := 0) (Nat.le_of_ble_eq_true rfl) (Nat.le_of_ble_eq_true rfl) ?_
    exact W.dret (v := (FP.dsub (FP.dadd v 4841369599423283200) 4841369599423283200)) hx hb hr (fun t8 ht hW => ⟨⟨(FP.dsub (FP.dadd v 4841369599423283200) 4841369599423283200), (), rfl, by rw [rab, if_pos c_1], trivial⟩, hS.F ht⟩) hS.2.2 dX2_roundAboveZero_19

set_option maxHeartbeats 4000000 in
set_option maxRecDepth 100000 in
theorem c_X2_roundToEven (l : Launch) (v : UInt64) (hv9 : FP.Core.dIsNaN v = false) : Met l yX2_roundToEven wsX2_roundToEven ({ frames := 1, cells := 0, slots := 0, locals := 23 }) (va_Pc [.double v] (fun _ => True)) (va_Qd (fun (r : UInt64) (u9 : Unit) => r = (rte v)) (fun _ _ => True) ax_no) 0 0 ax_no := by
  refine Met.ofW (cc := cX2_roundToEven) (maxL := 2) (ret := (some .double)) (by decide) rfl ?_
  intro p e s m args below meth c s₁ B hml hv
  obtain ⟨rfl, -⟩ := hv
  have hx := B.exec
  have hb := B.bytes
  have hr := B.returns
  have hts := atoms_spec (ws := wsX2_roundToEven) B.pre
  have hown : s.vm.findClass RX2 = some m.cls := findClass_of_methodNamed B.named
  have hlocks := B.notSynchronized
  have hS : va_S ax_no s.heap s.heap [] := va_S.rf
  have hl := lv_entry ([.double v]) (n := 2) (Nat.le_of_ble_eq_true rfl)
  rw [lg_entry_eq]
  generalize (lg_sl ([.double v]) ++ List.replicate (2 - (lg_sl ([.double v])).length) Slot.unset).toArray = ls at hl ⊢
  have hl : lv_has ls 2 [(0, .double v)] := hl
  refine lv_dload_n hx hb dX2_roundToEven_0 rfl (lv_at hl 0 rfl) ?_
  refine lv_dconst0 hx hb dX2_roundToEven_1 ?_
  refine ax_d (y := 0) rfl ?_
  refine lv_dcmp hx hb dX2_roundToEven_2 ?_
  refine lv_if_ge (tgt := 13) hx hb dX2_roundToEven_3 (by decide) (fun c_1 => ?_) (fun c_1 => ?_)
  · have c_1 : ¬ (Op.cmpValue (FP.dcmp v 0) .g).toInt < 0 := ax_fgeT c_1
    refine lv_dload_n hx hb dX2_roundToEven_13 rfl (lv_at hl 0 rfl) ?_
    refine va_calld (va_runS (As := [.double v]) (rest := []) ⟨hx, hb, hml, hown, hts⟩ (c_X2_roundAboveZero l v hv9) (va_cwS 1 hts gX2_roundToEven_X2_roundAboveZero rfl rfl rfl (by decide +kernel) ⟨Nat.le_of_ble_eq_true rfl, Nat.le_of_ble_eq_true rfl⟩) ⟨ax_fbP, ax_prP⟩ rfl rfl hl.1 rfl (lv_room (Nat.le_of_ble_eq_true rfl)) dX2_roundToEven_14 ⟨Nat.le_of_ble_eq_true rfl, Nat.le_of_ble_eq_true rfl⟩) hS (fun _ _ h9 => h9.elim) (fun _ h9 => h9.elim) (fun r_2 u_4 t8 H locs ht hvm hw_3 hB hz1 hk1 hS => ?_)
    have hw_3 : r_2 = (rab v) := hw_3
    refine ax_d (y := (rab v)) hw_3 ?_
    refine W.widen (k := 0) (n := 0) (Nat.le_of_ble_eq_true rfl) (Nat.le_of_ble_eq_true rfl) ?_
    exact W.dret (v := (rab v)) hx hb hr (fun t8 ht hW => ⟨⟨(rab v), (), rfl, by rw [rte, if_neg c_1], trivial⟩, hS.F ht⟩) hS.2.2 dX2_roundToEven_17
  · have c_1 : (Op.cmpValue (FP.dcmp v 0) .g).toInt < 0 := ax_fgeF c_1
    refine lv_dload_n hx hb dX2_roundToEven_6 rfl (lv_at hl 0 rfl) ?_
    refine lv_dneg hx hb dX2_roundToEven_7 ?_
    refine va_calld (va_runS (As := [.double (FP.dneg v)]) (rest := []) ⟨hx, hb, hml, hown, hts⟩ (c_X2_roundAboveZero l (FP.dneg v) (ax_dneg hv9)) (va_cwS 1 hts gX2_roundToEven_X2_roundAboveZero rfl rfl rfl (by decide +kernel) ⟨Nat.le_of_ble_eq_true rfl, Nat.le_of_ble_eq_true rfl⟩) ⟨ax_fbP, ax_prP⟩ rfl rfl hl.1 rfl (lv_room (Nat.le_of_ble_eq_true rfl)) dX2_roundToEven_8 ⟨Nat.le_of_ble_eq_true rfl, Nat.le_of_ble_eq_true rfl⟩) hS (fun _ _ h9 => h9.elim) (fun _ h9 => h9.elim) (fun r_5 u_7 t8 H locs ht hvm hw_6 hB hz1 hk1 hS => ?_)
    have hw_6 : r_5 = (rab (FP.dneg v)) := hw_6
    refine ax_d (y := (rab (FP.dneg v))) hw_6 ?_
    refine lv_dneg hx hb dX2_roundToEven_11 ?_
    refine W.widen (k := 0) (n := 0) (Nat.le_of_ble_eq_true rfl) (Nat.le_of_ble_eq_true rfl) ?_
    exact W.dret (v := (FP.dneg (rab (FP.dneg v)))) hx hb hr (fun t8 ht hW => ⟨⟨(FP.dneg (rab (FP.dneg v))), (), rfl, by rw [rte, if_pos c_1], trivial⟩, hS.F ht⟩) hS.2.2 dX2_roundToEven_12

set_option maxHeartbeats 4000000 in
set_option maxRecDepth 100000 in
theorem c_X2_inTenths (l : Launch) (dC : Nat → ClassId) (dI : Nat → Nat → Nat) (xr xw xt : Nat) (cL : ClassId) (ta : Nat → Nat) (w : Nat → Int64) (t : Nat → Int64) (k : Nat) (hk8 : k < 8) : Met l yX2_inTenths wsX2_inTenths ({ frames := 3, cells := 0, slots := 0, locals := 63 }) (va_Pc [.ref xr, .int (nI k)] (ax_R (dC, dI) vwCl [(xr, .inr (2, [.ref xw, .ref xt])), (xw, .inl (cL, 8, .inr (.inl w))), (xt, .inl (cL, 8, .inr (.inl t)))] [(cL, .long)] ta)) (va_Qd (fun (r : UInt64) (u9 : Unit) => r = (tnt w t k)) (fun _ _ => True) ax_no) 0 0 ax_no := by
  refine Met.ofW (cc := cX2_inTenths) (maxL := 4) (ret := (some .double)) (by decide) rfl ?_
  intro p e s m args below meth c s₁ B hml hv
  obtain ⟨rfl, hP, hK, hE⟩ := hv
  have hx := B.exec
  have hb := B.bytes
  have hr := B.returns
  have hts := atoms_spec (ws := wsX2_inTenths) B.pre
  have hown : s.vm.findClass RX2 = some m.cls := findClass_of_methodNamed B.named
  have hlocks := B.notSynchronized
  have hS : va_S ax_no s.heap s.heap [] := va_S.rf
  have hl := lv_entry ([.ref xr, .int (nI k)]) (n := 4) (Nat.le_of_ble_eq_true rfl)
  rw [lg_entry_eq]
  generalize (lg_sl ([.ref xr, .int (nI k)]) ++ List.replicate (4 - (lg_sl ([.ref xr, .int (nI k)])).length) Slot.unset).toArray = ls at hl ⊢
  have hl : lv_has ls 4 [(0, .ref xr), (1, .int (nI k))] := hl
  have hP : va_P (dC, dI) vwCl [(xr, .inr (2, [.ref xw, .ref xt])), (xw, .inl (cL, 8, .inr (.inl w))), (xt, .inl (cL, 8, .inr (.inl t)))] s.heap := hP
  refine lv_aload_n hx hb dX2_inTenths_0 rfl (lv_at hl 0 rfl) ?_
  have hPc := hP.sub (ws' := [(xr, .inr (2, [.ref xw, .ref xt])), (xw, .inl (cL, 8, .inr (.inl w))), (xt, .inl (cL, 8, .inr (.inl t)))]) [0, 1, 2] rfl
  have hKc := hK.sub (tys' := [(cL, .long)]) [0] rfl
  refine va_calld (va_runV (As := []) (rest := []) ⟨hx, hb, hml, hown, hts⟩ (c_X2_greatest l dC dI xr xw xt cL ta w t) (cwV 0 hts gX2_inTenths_X2_greatest rfl rfl rfl (by decide +kernel) ⟨Nat.le_of_ble_eq_true rfl, Nat.le_of_ble_eq_true rfl⟩) ⟨ax_fbR, va_recv hK hP (ci := 2) (q0 := 0) rfl rfl, ax_prR hPc hKc hS hE⟩ rfl rfl hl.1 rfl (lv_room (Nat.le_of_ble_eq_true rfl)) dX2_inTenths_1 ⟨Nat.le_of_ble_eq_true rfl, Nat.le_of_ble_eq_true rfl⟩) hS (fun _ _ h9 => h9.elim) (fun _ h9 => h9.elim) (fun r_1 u_3 t8 H locs ht hvm hw_2 hB hz1 hk1 hS => ?_)
  have hP := ax_keep hP (fun _ h9 => h9) hk1
  have hw_2 : r_1 = (gr8 w t) := hw_2
  refine ax_d (y := (gr8 w t)) hw_2 ?_
  refine lv_dstore_n (lv' := [(2, .double (gr8 w t)), (0, .ref xr), (1, .int (nI k))]) hx hb dX2_inTenths_4 rfl hl (by decide) rfl (fun ls hl => ?_)
  refine lv_dload_n hx hb dX2_inTenths_5 rfl (lv_at hl 0 rfl) ?_
  refine lv_dconst0 hx hb dX2_inTenths_6 ?_
  refine ax_d (y := 0) rfl ?_
  refine lv_dcmp hx hb dX2_inTenths_7 ?_
  refine lv_if_le (tgt := 28) hx hb dX2_inTenths_8 (by decide) (fun c_4 => ?_) (fun c_4 => ?_)
  · have c_4 : ¬ 0 < (Op.cmpValue (FP.dcmp (gr8 w t) 0) .l).toInt := ax_fleT c_4
    refine lv_dconst0 hx hb dX2_inTenths_28 ?_
    refine ax_d (y := 0) rfl ?_
    refine W.widen (k := 0) (n := 0) (Nat.le_of_ble_eq_true rfl) (Nat.le_of_ble_eq_true rfl) ?_
    exact W.dret (v := 0) hx hb hr (fun t8 ht hW => ⟨⟨0, (), rfl, by rw [tnt, if_neg c_4], trivial⟩, hS.F ht⟩) hS.2.2 dX2_inTenths_29
  · have c_4 : 0 < (Op.cmpValue (FP.dcmp (gr8 w t) 0) .l).toInt := ax_fleF c_4
    refine lv_ldc2d (v := 4621819117588971520) hx hb hown (hts (.constantDouble RX2 62 4621819117588971520) (by decide +kernel)) dX2_inTenths_11 ?_
    refine lv_aload_n hx hb dX2_inTenths_14 rfl (lv_at hl 1 rfl) ?_
    refine lv_iload_n hx hb dX2_inTenths_15 rfl (lv_at hl 2 rfl) ?_
    have hPc := hP.sub (ws' := [(xr, .inr (2, [.ref xw, .ref xt])), (xw, .inl (cL, 8, .inr (.inl w))), (xt, .inl (cL, 8, .inr (.inl t)))]) [0, 1, 2] rfl
    have hKc := hK.sub (tys' := [(cL, .long)]) [0] rfl
    refine va_calld (va_runV (As := [.int (nI k)]) (rest := [.double 4621819117588971520]) ⟨hx, hb, hml, hown, hts⟩ (c_X2_valueAt l dC dI xr xw xt cL ta w t k (by omega)) (cwV 1 hts gX2_inTenths_X2_valueAt rfl rfl rfl (by decide +kernel) ⟨Nat.le_of_ble_eq_true rfl, Nat.le_of_ble_eq_true rfl⟩) ⟨ax_fbR, va_recv hK hP (ci := 2) (q0 := 0) rfl rfl, ax_prR hPc hKc hS hE⟩ rfl rfl hl.1 rfl (lv_room (Nat.le_of_ble_eq_true rfl)) dX2_inTenths_16 ⟨Nat.le_of_ble_eq_true rfl, Nat.le_of_ble_eq_true rfl⟩) hS (fun _ _ h9 => h9.elim) (fun _ h9 => h9.elim) (fun r_5 u_7 t8 H locs ht hvm hw_6 hB hz1 hk1 hS => ?_)
    have hP := ax_keep hP (fun _ h9 => h9) hk1
    have hw_6 : r_5 = (vA w t k) := hw_6
    refine ax_d (y := (vA w t k)) hw_6 ?_
    refine lv_dmul hx hb dX2_inTenths_19 (ax_nt1 _ _ _) ?_
    refine lv_dload_n hx hb dX2_inTenths_20 rfl (lv_at hl 0 rfl) ?_
    refine lv_ddiv hx hb dX2_inTenths_21 (ax_nt2 c_4) ?_
    refine va_calld (va_runS (As := [.double (FP.ddiv (FP.dmul 4621819117588971520 (vA w t k)) (gr8 w t))]) (rest := []) ⟨hx, hb, hml, hown, hts⟩ (c_X2_roundToEven l (FP.ddiv (FP.dmul 4621819117588971520 (vA w t k)) (gr8 w t)) (ax_nt3 c_4)) (va_cwS 1 hts gX2_inTenths_X2_roundToEven rfl rfl rfl (by decide +kernel) ⟨Nat.le_of_ble_eq_true rfl, Nat.le_of_ble_eq_true rfl⟩) ⟨ax_fbP, ax_prP⟩ rfl rfl hl.1 rfl (lv_room (Nat.le_of_ble_eq_true rfl)) dX2_inTenths_22 ⟨Nat.le_of_ble_eq_true rfl, Nat.le_of_ble_eq_true rfl⟩) hS (fun _ _ h9 => h9.elim) (fun _ h9 => h9.elim) (fun r_8 u_10 t8 H locs ht hvm hw_9 hB hz1 hk1 hS => ?_)
    have hP := ax_keep hP (fun _ h9 => h9) hk1
    have hw_9 : r_8 = (rte (FP.ddiv (FP.dmul 4621819117588971520 (vA w t k)) (gr8 w t))) := hw_9
    refine ax_d (y := (rte (FP.ddiv (FP.dmul 4621819117588971520 (vA w t k)) (gr8 w t)))) hw_9 ?_
    refine lv_goto (tgt := 29) hx hb dX2_inTenths_25 (by decide) ?_
    refine W.widen (k := 0) (n := 0) (Nat.le_of_ble_eq_true rfl) (Nat.le_of_ble_eq_true rfl) ?_
    exact W.dret (v := (rte (FP.ddiv (FP.dmul 4621819117588971520 (vA w t k)) (gr8 w t)))) hx hb hr (fun t8 ht hW => ⟨⟨(rte (FP.ddiv (FP.dmul 4621819117588971520 (vA w t k)) (gr8 w t))), (), rfl, by rw [tnt, if_pos c_4], trivial⟩, hS.F ht⟩) hS.2.2 dX2_inTenths_29

set_option maxHeartbeats 4000000 in
set_option maxRecDepth 100000 in
theorem c_X2_addToDigest (l : Launch) (dC : Nat → ClassId) (dI : Nat → Nat → Nat) (xr xw xt : Nat) (cL : ClassId) (ta : Nat → Nat) (w : Nat → Int64) (t : Nat → Int64) (d9 : Int64) : Met l yX2_addToDigest wsX2_addToDigest ({ frames := 2, cells := 0, slots := 0, locals := 44 }) (va_Pc [.ref xr, .long d9] (ax_R (dC, dI) vwCl [(xr, .inr (2, [.ref xw, .ref xt])), (xw, .inl (cL, 8, .inr (.inl w))), (xt, .inl (cL, 8, .inr (.inl t)))] [(cL, .long)] ta)) (va_Ql (fun (r : Int64) (u9 : Unit) => r = (adg w t d9)) (fun _ _ => True) ax_no) 0 0 ax_no := by
  refine Met.ofW (cc := cX2_addToDigest) (maxL := 6) (ret := (some .long)) (by decide) rfl ?_
  intro p e s m args below meth c s₁ B hml hv
  obtain ⟨rfl, hP, hK, hE⟩ := hv
  have hx := B.exec
  have hb := B.bytes
  have hr := B.returns
  have hts := atoms_spec (ws := wsX2_addToDigest) B.pre
  have hown : s.vm.findClass RX2 = some m.cls := findClass_of_methodNamed B.named
  have hlocks := B.notSynchronized
  have hS : va_S ax_no s.heap s.heap [] := va_S.rf
  have hl := lv_entry ([.ref xr, .long d9]) (n := 6) (Nat.le_of_ble_eq_true rfl)
  rw [lg_entry_eq]
  generalize (lg_sl ([.ref xr, .long d9]) ++ List.replicate (6 - (lg_sl ([.ref xr, .long d9])).length) Slot.unset).toArray = ls at hl ⊢
  have hl : lv_has ls 6 [(0, .ref xr), (1, .long d9)] := hl
  have hP : va_P (dC, dI) vwCl [(xr, .inr (2, [.ref xw, .ref xt])), (xw, .inl (cL, 8, .inr (.inl w))), (xt, .inl (cL, 8, .inr (.inl t)))] s.heap := hP
  refine lv_lload_n hx hb dX2_addToDigest_0 rfl (lv_at hl 1 rfl) ?_
  refine lv_lstore_n (lv' := [(3, .long d9), (0, .ref xr), (1, .long d9)]) hx hb dX2_addToDigest_1 rfl hl (by decide) rfl (fun ls hl => ?_)
  refine lv_iconst (v := 0) hx hb dX2_addToDigest_2 (by decide) ?_
  refine lv_istore (lv' := [(5, .int 0), (3, .long d9), (0, .ref xr), (1, .long d9)]) hx hb dX2_addToDigest_3 hl (by decide) rfl (fun ls hl => ?_)
  refine ax_loop (σ := Nat × Int64) (fun z9 H locs ls => (z9.1 ≤ 8) ∧ (z9.2 = adgR w t d9 z9.1) ∧ lv_has ls 6 [(5, .int (nI z9.1)), (3, .long z9.2), (0, .ref xr), (1, .long d9)] ∧ va_P (dC, dI) vwCl [(xr, .inr (2, [.ref xw, .ref xt])), (xw, .inl (cL, 8, .inr (.inl w))), (xt, .inl (cL, 8, .inr (.inl t)))] H ∧ va_S ax_no s.heap H locs) (fun z9 => 8 - z9.1) (fun z9 H locs ls hI ih => ?_) (0, d9) ⟨by omega, rfl, hl, hP, hS⟩
  obtain ⟨k, sm⟩ := z9
  obtain ⟨hk1, hsm, hl, hP, hS⟩ := hI
  have hk1 : k ≤ 8 := hk1
  have hsm : sm = adgR w t d9 k := hsm
  have hl : lv_has ls 6 [(5, .int (nI k)), (3, .long sm), (0, .ref xr), (1, .long d9)] := hl
  have hP : va_P (dC, dI) vwCl [(xr, .inr (2, [.ref xw, .ref xt])), (xw, .inl (cL, 8, .inr (.inl w))), (xt, .inl (cL, 8, .inr (.inl t)))] H := hP
  have ih_1 := ih; clear ih
  refine lv_iload hx hb dX2_addToDigest_5 (lv_at hl 0 rfl) ?_
  refine lv_bipush (v := 8) hx hb dX2_addToDigest_7 (by decide) ?_
  refine lv_icmp_ge (tgt := 46) hx hb dX2_addToDigest_9 (by decide) (fun c_2 => ?_) (fun c_2 => ?_)
  · have c_2 : ¬ k < 8 := ax_fgeTN (by omega) (by omega) c_2
    refine lv_lload_n hx hb dX2_addToDigest_46 rfl (lv_at hl 1 rfl) ?_
    refine lv_ldc2 (v := 31) hx hb hown (hts (.constantLong RX2 72 31) (by decide +kernel)) dX2_addToDigest_47 ?_
    refine lv_lmul hx hb dX2_addToDigest_50 ?_
    refine lv_aload_n hx hb dX2_addToDigest_51 rfl (lv_at hl 2 rfl) ?_
    have hPc := hP.sub (ws' := [(xr, .inr (2, [.ref xw, .ref xt])), (xw, .inl (cL, 8, .inr (.inl w))), (xt, .inl (cL, 8, .inr (.inl t)))]) [0, 1, 2] rfl
    have hKc := hK.sub (tys' := [(cL, .long)]) [0] rfl
    refine va_calli (va_runV (As := []) (rest := [.long (sm * 31)]) ⟨hx, hb, hml, hown, hts⟩ (c_X2_placeOfGreatest l dC dI xr xw xt cL ta w t) (cwV 0 hts gX2_addToDigest_X2_placeOfGreatest rfl rfl rfl (by decide +kernel) ⟨Nat.le_of_ble_eq_true rfl, Nat.le_of_ble_eq_true rfl⟩) ⟨ax_fbR, va_recv hK hP (ci := 2) (q0 := 0) rfl rfl, ax_prR hPc hKc hS hE⟩ rfl rfl hl.1 rfl (lv_room (Nat.le_of_ble_eq_true rfl)) dX2_addToDigest_52 ⟨Nat.le_of_ble_eq_true rfl, Nat.le_of_ble_eq_true rfl⟩) hS (fun _ _ h9 => h9.elim) (fun _ h9 => h9.elim) (fun r_3 u_5 t8 H locs ht hvm hw_4 hB hz1 hk1 hS => ?_)
    have hP := ax_keep hP (fun _ h9 => h9) hk1
    have hw_4 : r_3 = (nI (pgR w t 8)) := hw_4
    refine ax_i (y := (nI (pgR w t 8))) hw_4 ?_
    refine lv_i2l (v := (nI (pgR w t 8)).toInt64) hx hb dX2_addToDigest_55 rfl ?_
    refine lv_ladd hx hb dX2_addToDigest_56 ?_
    refine lv_lstore_n (lv' := [(3, .long ((sm * 31) + ((nI (pgR w t 8)).toInt64))), (5, .int (nI k)), (0, .ref xr), (1, .long d9)]) hx hb dX2_addToDigest_57 rfl hl (by decide) rfl (fun ls hl => ?_)
    refine lv_lload_n hx hb dX2_addToDigest_58 rfl (lv_at hl 0 rfl) ?_
    refine lv_ldc2 (v := 31) hx hb hown (hts (.constantLong RX2 72 31) (by decide +kernel)) dX2_addToDigest_59 ?_
    refine lv_lmul hx hb dX2_addToDigest_62 ?_
    refine lv_aload_n hx hb dX2_addToDigest_63 rfl (lv_at hl 2 rfl) ?_
    have hPc := hP.sub (ws' := [(xr, .inr (2, [.ref xw, .ref xt])), (xw, .inl (cL, 8, .inr (.inl w))), (xt, .inl (cL, 8, .inr (.inl t)))]) [0, 1, 2] rfl
    have hKc := hK.sub (tys' := [(cL, .long)]) [0] rfl
    refine va_calli (va_runV (As := []) (rest := [.long (((sm * 31) + ((nI (pgR w t 8)).toInt64)) * 31)]) ⟨hx, hb, hml, hown, hts⟩ (c_X2_darkPlaces l dC dI xr xw xt cL ta w t) (cwV 0 hts gX2_addToDigest_X2_darkPlaces rfl rfl rfl (by decide +kernel) ⟨Nat.le_of_ble_eq_true rfl, Nat.le_of_ble_eq_true rfl⟩) ⟨ax_fbR, va_recv hK hP (ci := 2) (q0 := 0) rfl rfl, ax_prR hPc hKc hS hE⟩ rfl rfl hl.1 rfl (lv_room (Nat.le_of_ble_eq_true rfl)) dX2_addToDigest_64 ⟨Nat.le_of_ble_eq_true rfl, Nat.le_of_ble_eq_true rfl⟩) hS (fun _ _ h9 => h9.elim) (fun _ h9 => h9.elim) (fun r_6 u_8 t8 H locs ht hvm hw_7 hB hz1 hk1 hS => ?_)
    have hP := ax_keep hP (fun _ h9 => h9) hk1
    have hw_7 : r_6 = (dkR w t 8) := hw_7
    refine ax_i (y := (dkR w t 8)) hw_7 ?_
    refine lv_i2l (v := (dkR w t 8).toInt64) hx hb dX2_addToDigest_67 rfl ?_
    refine lv_ladd hx hb dX2_addToDigest_68 ?_
    refine lv_lstore_n (lv' := [(3, .long ((((sm * 31) + ((nI (pgR w t 8)).toInt64)) * 31) + ((dkR w t 8).toInt64))), (5, .int (nI k)), (0, .ref xr), (1, .long d9)]) hx hb dX2_addToDigest_69 rfl hl (by decide) rfl (fun ls hl => ?_)
    refine lv_lload_n hx hb dX2_addToDigest_70 rfl (lv_at hl 0 rfl) ?_
    refine lv_ldc2 (v := 31) hx hb hown (hts (.constantLong RX2 72 31) (by decide +kernel)) dX2_addToDigest_71 ?_
    refine lv_lmul hx hb dX2_addToDigest_74 ?_
    refine lv_aload_n hx hb dX2_addToDigest_75 rfl (lv_at hl 2 rfl) ?_
    have hPc := hP.sub (ws' := [(xr, .inr (2, [.ref xw, .ref xt])), (xw, .inl (cL, 8, .inr (.inl w))), (xt, .inl (cL, 8, .inr (.inl t)))]) [0, 1, 2] rfl
    have hKc := hK.sub (tys' := [(cL, .long)]) [0] rfl
    refine va_calli (va_runV (As := []) (rest := [.long (((((sm * 31) + ((nI (pgR w t 8)).toInt64)) * 31) + ((dkR w t 8).toInt64)) * 31)]) ⟨hx, hb, hml, hown, hts⟩ (c_X2_shortestRoll l dC dI xr xw xt cL ta w t) (cwV 0 hts gX2_addToDigest_X2_shortestRoll rfl rfl rfl (by decide +kernel) ⟨Nat.le_of_ble_eq_true rfl, Nat.le_of_ble_eq_true rfl⟩) ⟨ax_fbR, va_recv hK hP (ci := 2) (q0 := 0) rfl rfl, ax_prR hPc hKc hS hE⟩ rfl rfl hl.1 rfl (lv_room (Nat.le_of_ble_eq_true rfl)) dX2_addToDigest_76 ⟨Nat.le_of_ble_eq_true rfl, Nat.le_of_ble_eq_true rfl⟩) hS (fun _ _ h9 => h9.elim) (fun _ h9 => h9.elim) (fun r_9 u_11 t8 H locs ht hvm hw_10 hB hz1 hk1 hS => ?_)
    have hP := ax_keep hP (fun _ h9 => h9) hk1
    have hw_10 : r_9 = (nI (srl w t)) := hw_10
    refine ax_i (y := (nI (srl w t))) hw_10 ?_
    refine lv_i2l (v := (nI (srl w t)).toInt64) hx hb dX2_addToDigest_79 rfl ?_
    refine lv_ladd hx hb dX2_addToDigest_80 ?_
    refine W.widen (k := 0) (n := 0) (Nat.le_of_ble_eq_true rfl) (Nat.le_of_ble_eq_true rfl) ?_
    exact W.lret (v := ((((((sm * 31) + ((nI (pgR w t 8)).toInt64)) * 31) + ((dkR w t 8).toInt64)) * 31) + ((nI (srl w t)).toInt64))) hx hb hr (fun t8 ht hW => ⟨⟨((((((sm * 31) + ((nI (pgR w t 8)).toInt64)) * 31) + ((dkR w t 8).toInt64)) * 31) + ((nI (srl w t)).toInt64)), (), rfl, by rw [hsm, show k = 8 by omega]; rfl, trivial⟩, hS.F ht⟩) hS.2.2 dX2_addToDigest_81
  · have c_2 : k < 8 := ax_fgeFN (by omega) (by omega) c_2
    refine lv_lload_n hx hb dX2_addToDigest_12 rfl (lv_at hl 1 rfl) ?_
    refine lv_ldc2 (v := 31) hx hb hown (hts (.constantLong RX2 72 31) (by decide +kernel)) dX2_addToDigest_13 ?_
    refine lv_lmul hx hb dX2_addToDigest_16 ?_
    refine lv_aload_n hx hb dX2_addToDigest_17 rfl (lv_at hl 2 rfl) ?_
    refine va_get (D := (dC, dI)) (ci := 2) (v := .ref xw) (C := RX2) (T := TX2) (N := 2) hx hb hts (by decide +kernel) hown hK hP 0 rfl rfl 0 (by decide) (hts (.fieldLink RX2 9 "Diffractory$Row" "wholes" "[J") (by decide +kernel)) (fun _ h9 => h9) rfl dX2_addToDigest_18 ?_
    refine lv_iload hx hb dX2_addToDigest_21 (lv_at hl 0 rfl) ?_
    refine va_lald hx hb hK hP 1 0 rfl rfl (ax_in (by omega) (by omega)) dX2_addToDigest_23 ?_
    refine ax_l (y := (w k)) (by rw [nI_clamp (n := k) (by omega)]) ?_
    refine lv_ladd hx hb dX2_addToDigest_24 ?_
    refine lv_lstore_n (lv' := [(3, .long ((sm * 31) + (w k))), (5, .int (nI k)), (0, .ref xr), (1, .long d9)]) hx hb dX2_addToDigest_25 rfl hl (by decide) rfl (fun ls hl => ?_)
    refine lv_lload_n hx hb dX2_addToDigest_26 rfl (lv_at hl 0 rfl) ?_
    refine lv_ldc2 (v := 31) hx hb hown (hts (.constantLong RX2 72 31) (by decide +kernel)) dX2_addToDigest_27 ?_
    refine lv_lmul hx hb dX2_addToDigest_30 ?_
    refine lv_aload_n hx hb dX2_addToDigest_31 rfl (lv_at hl 2 rfl) ?_
    refine va_get (D := (dC, dI)) (ci := 2) (v := .ref xt) (C := RX2) (T := TX2) (N := 2) hx hb hts (by decide +kernel) hown hK hP 0 rfl rfl 1 (by decide) (hts (.fieldLink RX2 15 "Diffractory$Row" "roots" "[J") (by decide +kernel)) (fun _ h9 => h9) rfl dX2_addToDigest_32 ?_
    refine lv_iload hx hb dX2_addToDigest_35 (lv_at hl 1 rfl) ?_
    refine va_lald hx hb hK hP 2 0 rfl rfl (ax_in (by omega) (by omega)) dX2_addToDigest_37 ?_
    refine ax_l (y := (t k)) (by rw [nI_clamp (n := k) (by omega)]) ?_
    refine lv_ladd hx hb dX2_addToDigest_38 ?_
    refine lv_lstore_n (lv' := [(3, .long ((((sm * 31) + (w k)) * 31) + (t k))), (5, .int (nI k)), (0, .ref xr), (1, .long d9)]) hx hb dX2_addToDigest_39 rfl hl (by decide) rfl (fun ls hl => ?_)
    refine lv_iinc (v := (nI (k + 1))) (lv' := [(5, .int (nI (k + 1))), (3, .long ((((sm * 31) + (w k)) * 31) + (t k))), (0, .ref xr), (1, .long d9)]) hx hb dX2_addToDigest_40 hl (k := 1) rfl (nI_succ _).symm (by decide) rfl (fun ls hl => ?_)
    refine lv_goto (tgt := 5) hx hb dX2_addToDigest_43 (by decide) ?_
    exact ih_1 (k + 1, ((((sm * 31) + (w k)) * 31) + (t k))) H locs ls ⟨by omega, by rw [hsm]; rfl, hl, hP, hS⟩ (show 8 - (k + 1) < 8 - k by omega)
