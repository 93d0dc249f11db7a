set_option maxHeartbeats 4000000 in
set_option maxRecDepth 100000 in
theorem c_J7_fill_d0a16 (l : Launch) (dC : Nat → ClassId) (dI : Nat → Nat → Nat) (ja : Nat) (cJ : ClassId) (sa ta : Nat → Nat) (sz : Nat) : Met l yJ7_fill_d0a16 wsJ7_fill_d0a16 ({ frames := 8, cells := 0, slots := 0, locals := 200 }) (va_Pc [.ref ja, .long 0] (ax_W (dC, dI) vwCl [(ja, .inl (cJ, 8, .inr (.inl (fun _ => 0))))] [(cJ, .long)] sa ta sz)) (va_Qv (fun (u : Unit) => True) (fun (u : Unit) (t : State) => va_P (dC, dI) vwCl [(ja, .inl (cJ, 8, .inr (.inl (fun _ => 0))))] t.heap ∧ va_K (dC, dI) vwCl [(cJ, .long)] t ∧ va_D (va_A [(ja, .inl (cJ, 8, .inr (.inl (fun _ => 0))))] sz) [(ja, .inl (cJ, 8, .inr (.inl (fun _ => 0))))]) (va_A [(ja, .inl (cJ, 8, .inr (.inl (fun _ => 0))))] sz)) 0 0 (va_A [(ja, .inl (cJ, 8, .inr (.inl (fun _ => 0))))] sz) := by
  refine Met.ofW (cc := cJ7_fill_d0a16) (maxL := 5) (ret := none) (by decide) rfl ?_
  intro p e s m args below meth c s₁ B hml hv
  obtain ⟨rfl, hsz, hP, hK, hD0, hE⟩ := hv
  have hx := B.exec
  have hb := B.bytes
  have hr := B.returns
  have hts := atoms_spec (ws := wsJ7_fill_d0a16) B.pre
  have hown : s.vm.findClass RJ7 = some m.cls := findClass_of_methodNamed B.named
  have hlocks := B.notSynchronized
  subst hsz
  have hD := hD0.self (sz := s.heap.size)
  generalize hAe : va_A [(ja, .inl (cJ, 8, .inr (.inl (fun _ => 0))))] s.heap.size = A at hD hE ⊢
  have hA : ∀ q : Nat, s.heap.size ≤ q → A q := fun q h => by rw [← hAe]; exact Or.inr h
  have hS : va_S A s.heap s.heap [] := va_S.rf
  have hl := lv_entry ([.ref ja, .long 0]) (n := 5) (Nat.le_of_ble_eq_true rfl)
  rw [lg_entry_eq]
  generalize (lg_sl ([.ref ja, .long 0]) ++ List.replicate (5 - (lg_sl ([.ref ja, .long 0])).length) Slot.unset).toArray = ls at hl ⊢
  have hl : lv_has ls 5 [(0, .ref ja), (1, .long 0)] := hl
  have hP : va_P (dC, dI) vwCl [(ja, .inl (cJ, 8, .inr (.inl (fun _ => 0))))] s.heap := hP
  refine lv_iconst (v := 0) hx hb dJ7_fill_d0a16_0 (by decide) ?_
  refine lv_istore_n (lv' := [(3, .int 0), (0, .ref ja), (1, .long 0)]) hx hb dJ7_fill_d0a16_1 rfl hl (by decide) rfl (fun ls hl => ?_)
  refine lv_aload_n hx hb dJ7_fill_d0a16_2 rfl (lv_at hl 1 rfl) ?_
  refine va_alen (v := 8) hx hb hK hP 0 0 rfl rfl (by decide) dJ7_fill_d0a16_3 ?_
  refine lv_istore (lv' := [(4, .int 8), (3, .int 0), (0, .ref ja), (1, .long 0)]) hx hb dJ7_fill_d0a16_4 hl (by decide) rfl (fun ls hl => ?_)
  refine lv_iload_n hx hb dJ7_fill_d0a16_6 rfl (lv_at hl 1 rfl) ?_
  refine lv_iload hx hb dJ7_fill_d0a16_7 (lv_at hl 0 rfl) ?_
  refine lv_icmp_ge (tgt := 22) hx hb dJ7_fill_d0a16_9 (by decide) (fun h9 => absurd h9 (by decide)) (fun _ => ?_)
  refine lv_aload_n hx hb dJ7_fill_d0a16_12 rfl (lv_at hl 2 rfl) ?_
  refine lv_iload_n hx hb dJ7_fill_d0a16_13 rfl (lv_at hl 1 rfl) ?_
  refine lv_lload_n hx hb dJ7_fill_d0a16_14 rfl (lv_at hl 3 rfl) ?_
  refine va_last hx hb hK hP hD hS 0 0 rfl rfl (by unfold vp_in; decide) dJ7_fill_d0a16_15 (fun H locs hP hD hS => ?_)
  rw [ax_uz] at hP hD
  have hP : va_P (dC, dI) vwCl [(ja, .inl (cJ, 8, .inr (.inl (fun _ => 0))))] H := hP
  have hD : va_D A [(ja, .inl (cJ, 8, .inr (.inl (fun _ => 0))))] := hD
  refine lv_iinc (v := 1) (lv' := [(3, .int 1), (4, .int 8), (0, .ref ja), (1, .long 0)]) hx hb dJ7_fill_d0a16_16 hl (k := 1) rfl (by decide) (by decide) rfl (fun ls hl => ?_)
  refine lv_goto (tgt := 6) hx hb dJ7_fill_d0a16_19 (by decide) ?_
  refine lv_iload_n hx hb dJ7_fill_d0a16_6 rfl (lv_at hl 0 rfl) ?_
  refine lv_iload hx hb dJ7_fill_d0a16_7 (lv_at hl 1 rfl) ?_
  refine lv_icmp_ge (tgt := 22) hx hb dJ7_fill_d0a16_9 (by decide) (fun h9 => absurd h9 (by decide)) (fun _ => ?_)
  refine lv_aload_n hx hb dJ7_fill_d0a16_12 rfl (lv_at hl 2 rfl) ?_
  refine lv_iload_n hx hb dJ7_fill_d0a16_13 rfl (lv_at hl 0 rfl) ?_
  refine lv_lload_n hx hb dJ7_fill_d0a16_14 rfl (lv_at hl 3 rfl) ?_
  refine va_last hx hb hK hP hD hS 0 0 rfl rfl (by unfold vp_in; decide) dJ7_fill_d0a16_15 (fun H locs hP hD hS => ?_)
  rw [ax_uz] at hP hD
  have hP : va_P (dC, dI) vwCl [(ja, .inl (cJ, 8, .inr (.inl (fun _ => 0))))] H := hP
  have hD : va_D A [(ja, .inl (cJ, 8, .inr (.inl (fun _ => 0))))] := hD
  refine lv_iinc (v := 2) (lv' := [(3, .int 2), (4, .int 8), (0, .ref ja), (1, .long 0)]) hx hb dJ7_fill_d0a16_16 hl (k := 0) rfl (by decide) (by decide) rfl (fun ls hl => ?_)
  refine lv_goto (tgt := 6) hx hb dJ7_fill_d0a16_19 (by decide) ?_
  refine lv_iload_n hx hb dJ7_fill_d0a16_6 rfl (lv_at hl 0 rfl) ?_
  refine lv_iload hx hb dJ7_fill_d0a16_7 (lv_at hl 1 rfl) ?_
  refine lv_icmp_ge (tgt := 22) hx hb dJ7_fill_d0a16_9 (by decide) (fun h9 => absurd h9 (by decide)) (fun _ => ?_)
  refine lv_aload_n hx hb dJ7_fill_d0a16_12 rfl (lv_at hl 2 rfl) ?_
  refine lv_iload_n hx hb dJ7_fill_d0a16_13 rfl (lv_at hl 0 rfl) ?_
  refine lv_lload_n hx hb dJ7_fill_d0a16_14 rfl (lv_at hl 3 rfl) ?_
  refine va_last hx hb hK hP hD hS 0 0 rfl rfl (by unfold vp_in; decide) dJ7_fill_d0a16_15 (fun H locs hP hD hS => ?_)
  rw [ax_uz] at hP hD
  have hP : va_P (dC, dI) vwCl [(ja, .inl (cJ, 8, .inr (.inl (fun _ => 0))))] H := hP
  have hD : va_D A [(ja, .inl (cJ, 8, .inr (.inl (fun _ => 0))))] := hD
  refine lv_iinc (v := 3) (lv' := [(3, .int 3), (4, .int 8), (0, .ref ja), (1, .long 0)]) hx hb dJ7_fill_d0a16_16 hl (k := 0) rfl (by decide) (by decide) rfl (fun ls hl => ?_)
  refine lv_goto (tgt := 6) hx hb dJ7_fill_d0a16_19 (by decide) ?_
  refine lv_iload_n hx hb dJ7_fill_d0a16_6 rfl (lv_at hl 0 rfl) ?_
  refine lv_iload hx hb dJ7_fill_d0a16_7 (lv_at hl 1 rfl) ?_
  refine lv_icmp_ge (tgt := 22) hx hb dJ7_fill_d0a16_9 (by decide) (fun h9 => absurd h9 (by decide)) (fun _ => ?_)
  refine lv_aload_n hx hb dJ7_fill_d0a16_12 rfl (lv_at hl 2 rfl) ?_
  refine lv_iload_n hx hb dJ7_fill_d0a16_13 rfl (lv_at hl 0 rfl) ?_
  refine lv_lload_n hx hb dJ7_fill_d0a16_14 rfl (lv_at hl 3 rfl) ?_
  refine va_last hx hb hK hP hD hS 0 0 rfl rfl (by unfold vp_in; decide) dJ7_fill_d0a16_15 (fun H locs hP hD hS => ?_)
  rw [ax_uz] at hP hD
  have hP : va_P (dC, dI) vwCl [(ja, .inl (cJ, 8, .inr (.inl (fun _ => 0))))] H := hP
  have hD : va_D A [(ja, .inl (cJ, 8, .inr (.inl (fun _ => 0))))] := hD
  refine lv_iinc (v := 4) (lv' := [(3, .int 4), (4, .int 8), (0, .ref ja), (1, .long 0)]) hx hb dJ7_fill_d0a16_16 hl (k := 0) rfl (by decide) (by decide) rfl (fun ls hl => ?_)
  refine lv_goto (tgt := 6) hx hb dJ7_fill_d0a16_19 (by decide) ?_
  refine lv_iload_n hx hb dJ7_fill_d0a16_6 rfl (lv_at hl 0 rfl) ?_
  refine lv_iload hx hb dJ7_fill_d0a16_7 (lv_at hl 1 rfl) ?_
  refine lv_icmp_ge (tgt := 22) hx hb dJ7_fill_d0a16_9 (by decide) (fun h9 => absurd h9 (by decide)) (fun _ => ?_)
  refine lv_aload_n hx hb dJ7_fill_d0a16_12 rfl (lv_at hl 2 rfl) ?_
  refine lv_iload_n hx hb dJ7_fill_d0a16_13 rfl (lv_at hl 0 rfl) ?_
  refine lv_lload_n hx hb dJ7_fill_d0a16_14 rfl (lv_at hl 3 rfl) ?_
  refine va_last hx hb hK hP hD hS 0 0 rfl rfl (by unfold vp_in; decide) dJ7_fill_d0a16_15 (fun H locs hP hD hS => ?_)
  rw [ax_uz] at hP hD
  have hP : va_P (dC, dI) vwCl [(ja, .inl (cJ, 8, .inr (.inl (fun _ => 0))))] H := hP
  have hD : va_D A [(ja, .inl (cJ, 8, .inr (.inl (fun _ => 0))))] := hD
  refine lv_iinc (v := 5) (lv' := [(3, .int 5), (4, .int 8), (0, .ref ja), (1, .long 0)]) hx hb dJ7_fill_d0a16_16 hl (k := 0) rfl (by decide) (by decide) rfl (fun ls hl => ?_)
  refine lv_goto (tgt := 6) hx hb dJ7_fill_d0a16_19 (by decide) ?_
  refine lv_iload_n hx hb dJ7_fill_d0a16_6 rfl (lv_at hl 0 rfl) ?_
  refine lv_iload hx hb dJ7_fill_d0a16_7 (lv_at hl 1 rfl) ?_
  refine lv_icmp_ge (tgt := 22) hx hb dJ7_fill_d0a16_9 (by decide) (fun h9 => absurd h9 (by decide)) (fun _ => ?_)
  refine lv_aload_n hx hb dJ7_fill_d0a16_12 rfl (lv_at hl 2 rfl) ?_
  refine lv_iload_n hx hb dJ7_fill_d0a16_13 rfl (lv_at hl 0 rfl) ?_
  refine lv_lload_n hx hb dJ7_fill_d0a16_14 rfl (lv_at hl 3 rfl) ?_
  refine va_last hx hb hK hP hD hS 0 0 rfl rfl (by unfold vp_in; decide) dJ7_fill_d0a16_15 (fun H locs hP hD hS => ?_)
  rw [ax_uz] at hP hD
  have hP : va_P (dC, dI) vwCl [(ja, .inl (cJ, 8, .inr (.inl (fun _ => 0))))] H := hP
  have hD : va_D A [(ja, .inl (cJ, 8, .inr (.inl (fun _ => 0))))] := hD
  refine lv_iinc (v := 6) (lv' := [(3, .int 6), (4, .int 8), (0, .ref ja), (1, .long 0)]) hx hb dJ7_fill_d0a16_16 hl (k := 0) rfl (by decide) (by decide) rfl (fun ls hl => ?_)
  refine lv_goto (tgt := 6) hx hb dJ7_fill_d0a16_19 (by decide) ?_
  refine lv_iload_n hx hb dJ7_fill_d0a16_6 rfl (lv_at hl 0 rfl) ?_
  refine lv_iload hx hb dJ7_fill_d0a16_7 (lv_at hl 1 rfl) ?_
  refine lv_icmp_ge (tgt := 22) hx hb dJ7_fill_d0a16_9 (by decide) (fun h9 => absurd h9 (by decide)) (fun _ => ?_)
  refine lv_aload_n hx hb dJ7_fill_d0a16_12 rfl (lv_at hl 2 rfl) ?_
  refine lv_iload_n hx hb dJ7_fill_d0a16_13 rfl (lv_at hl 0 rfl) ?_
  refine lv_lload_n hx hb dJ7_fill_d0a16_14 rfl (lv_at hl 3 rfl) ?_
  refine va_last hx hb hK hP hD hS 0 0 rfl rfl (by unfold vp_in; decide) dJ7_fill_d0a16_15 (fun H locs hP hD hS => ?_)
  rw [ax_uz] at hP hD
  have hP : va_P (dC, dI) vwCl [(ja, .inl (cJ, 8, .inr (.inl (fun _ => 0))))] H := hP
  have hD : va_D A [(ja, .inl (cJ, 8, .inr (.inl (fun _ => 0))))] := hD
  refine lv_iinc (v := 7) (lv' := [(3, .int 7), (4, .int 8), (0, .ref ja), (1, .long 0)]) hx hb dJ7_fill_d0a16_16 hl (k := 0) rfl (by decide) (by decide) rfl (fun ls hl => ?_)
  refine lv_goto (tgt := 6) hx hb dJ7_fill_d0a16_19 (by decide) ?_
  refine lv_iload_n hx hb dJ7_fill_d0a16_6 rfl (lv_at hl 0 rfl) ?_
  refine lv_iload hx hb dJ7_fill_d0a16_7 (lv_at hl 1 rfl) ?_
  refine lv_icmp_ge (tgt := 22) hx hb dJ7_fill_d0a16_9 (by decide) (fun h9 => absurd h9 (by decide)) (fun _ => ?_)
  refine lv_aload_n hx hb dJ7_fill_d0a16_12 rfl (lv_at hl 2 rfl) ?_
  refine lv_iload_n hx hb dJ7_fill_d0a16_13 rfl (lv_at hl 0 rfl) ?_
  refine lv_lload_n hx hb dJ7_fill_d0a16_14 rfl (lv_at hl 3 rfl) ?_
  refine va_last hx hb hK hP hD hS 0 0 rfl rfl (by unfold vp_in; decide) dJ7_fill_d0a16_15 (fun H locs hP hD hS => ?_)
  rw [ax_uz] at hP hD
  have hP : va_P (dC, dI) vwCl [(ja, .inl (cJ, 8, .inr (.inl (fun _ => 0))))] H := hP
  have hD : va_D A [(ja, .inl (cJ, 8, .inr (.inl (fun _ => 0))))] := hD
  refine lv_iinc (v := 8) (lv' := [(3, .int 8), (4, .int 8), (0, .ref ja), (1, .long 0)]) hx hb dJ7_fill_d0a16_16 hl (k := 0) rfl (by decide) (by decide) rfl (fun ls hl => ?_)
  refine lv_goto (tgt := 6) hx hb dJ7_fill_d0a16_19 (by decide) ?_
  refine lv_iload_n hx hb dJ7_fill_d0a16_6 rfl (lv_at hl 0 rfl) ?_
  refine lv_iload hx hb dJ7_fill_d0a16_7 (lv_at hl 1 rfl) ?_
  refine lv_icmp_ge (tgt := 22) hx hb dJ7_fill_d0a16_9 (by decide) (fun _ => ?_) (fun h9 => absurd (by decide) h9)
  refine W.widen (k := 0) (n := 0) (Nat.le_of_ble_eq_true rfl) (Nat.le_of_ble_eq_true rfl) ?_
  have hP9 := hP.sub (ws' := [(ja, .inl (cJ, 8, .inr (.inl (fun _ => 0))))]) [0] rfl
  have hD9 := hD.sub (ws' := [(ja, .inl (cJ, 8, .inr (.inl (fun _ => 0))))]) [0] (by decide) rfl
  have hK9 := hK.sub (tys' := [(cJ, .long)]) [0] rfl
  exact W.vret hx hb hr (fun t ht hW => ⟨⟨(), rfl, trivial, by rw [ht]; exact hP9, va_K.moved hW.alike hK9, hD9⟩, hS.F ht⟩) hS.2.2 dJ7_fill_d0a16_22

set_option maxHeartbeats 4000000 in
set_option maxRecDepth 100000 in
theorem c_X2_wipe (l : Launch) (dC : Nat → ClassId) (dI : Nat → Nat → Nat) (xr xw xt : Nat) (cw ct : ClassId) (sa ta : Nat → Nat) (sz : Nat) : Met l yX2_wipe wsX2_wipe ({ frames := 16, cells := 0, slots := 0, locals := 400 }) (va_Pc [.ref xr] (ax_W (dC, dI) vwCl [(xr, .inr (6, [.ref xw, .ref xt])), (xw, .inl (cw, 8, .inr (.inl (fun _ => 0)))), (xt, .inl (ct, 8, .inr (.inl (fun _ => 0))))] [(cw, .long), (ct, .long)] sa ta sz)) (va_Qv (fun (u : Unit) => True) (fun (u : Unit) (t : State) => va_P (dC, dI) vwCl [(xr, .inr (6, [.ref xw, .ref xt])), (xw, .inl (cw, 8, .inr (.inl (fun _ => 0)))), (xt, .inl (ct, 8, .inr (.inl (fun _ => 0))))] t.heap ∧ va_K (dC, dI) vwCl [(cw, .long), (ct, .long)] t ∧ va_D (va_A [(xr, .inr (6, [.ref xw, .ref xt])), (xw, .inl (cw, 8, .inr (.inl (fun _ => 0)))), (xt, .inl (ct, 8, .inr (.inl (fun _ => 0))))] sz) [(xr, .inr (6, [.ref xw, .ref xt])), (xw, .inl (cw, 8, .inr (.inl (fun _ => 0)))), (xt, .inl (ct, 8, .inr (.inl (fun _ => 0))))]) (va_A [(xr, .inr (6, [.ref xw, .ref xt])), (xw, .inl (cw, 8, .inr (.inl (fun _ => 0)))), (xt, .inl (ct, 8, .inr (.inl (fun _ => 0))))] sz)) 0 0 (va_A [(xr, .inr (6, [.ref xw, .ref xt])), (xw, .inl (cw, 8, .inr (.inl (fun _ => 0)))), (xt, .inl (ct, 8, .inr (.inl (fun _ => 0))))] sz) := by
  refine Met.ofW (cc := cX2_wipe) (maxL := 1) (ret := none) (by decide) rfl ?_
  intro p e s m args below meth c s₁ B hml hv
  obtain ⟨rfl, hsz, hP, hK, hD0, hE⟩ := hv
  have hx := B.exec
  have hb := B.bytes
  have hr := B.returns
  have hts := atoms_spec (ws := wsX2_wipe) B.pre
  have hown : s.vm.findClass RX2 = some m.cls := findClass_of_methodNamed B.named
  have hlocks := B.notSynchronized
  subst hsz
  have hD := hD0.self (sz := s.heap.size)
  generalize hAe : va_A [(xr, .inr (6, [.ref xw, .ref xt])), (xw, .inl (cw, 8, .inr (.inl (fun _ => 0)))), (xt, .inl (ct, 8, .inr (.inl (fun _ => 0))))] s.heap.size = A at hD hE ⊢
  have hA : ∀ q : Nat, s.heap.size ≤ q → A q := fun q h => by rw [← hAe]; exact Or.inr h
  have hS : va_S A s.heap s.heap [] := va_S.rf
  have hl := lv_entry ([.ref xr]) (n := 1) (Nat.le_of_ble_eq_true rfl)
  rw [lg_entry_eq]
  generalize (lg_sl ([.ref xr]) ++ List.replicate (1 - (lg_sl ([.ref xr])).length) Slot.unset).toArray = ls at hl ⊢
  have hl : lv_has ls 1 [(0, .ref xr)] := hl
  have hP : va_P (dC, dI) vwCl [(xr, .inr (6, [.ref xw, .ref xt])), (xw, .inl (cw, 8, .inr (.inl (fun _ => 0)))), (xt, .inl (ct, 8, .inr (.inl (fun _ => 0))))] s.heap := hP
  refine lv_aload_n hx hb dX2_wipe_0 rfl (lv_at hl 0 rfl) ?_
  refine va_get (D := (dC, dI)) (ci := 6) (v := .ref xw) (C := RX2) (T := TX2) (N := 2) hx hb hts (by decide +kernel) hown hK hP 0 rfl rfl 0 (by decide) (hts (.fieldLink RX2 9 "Diffractory$Row" "wholes" "[J") (by decide +kernel)) (fun _ h9 => h9) rfl dX2_wipe_1 ?_
  refine lv_lconst (v := 0) hx hb dX2_wipe_4 (by decide) ?_
  have hPc := hP.sub (ws' := [(xw, .inl (cw, 8, .inr (.inl (fun _ => 0))))]) [1] rfl
  have hKc := hK.sub (tys' := [(cw, .long)]) [0] rfl
  have hDc := hD.sub (ws' := [(xw, .inl (cw, 8, .inr (.inl (fun _ => 0))))]) [1] (by decide) rfl
  have hFc := va_free (wc := [(xw, .inl (cw, 8, .inr (.inl (fun _ => 0))))]) hD hS hA [1] rfl
  refine va_callv (va_runS (As := [.ref xw, .long 0]) (rest := []) ⟨hx, hb, hml, hown, hts⟩ (c_J7_fill_d0a16 l dC dI xw cw sa ta s.heap.size) (va_cwS 2 hts gX2_wipe_J7_fill_d0a16 rfl rfl rfl (by decide +kernel) ⟨Nat.le_of_ble_eq_true rfl, Nat.le_of_ble_eq_true rfl⟩) ⟨ax_fbW, ax_prW hPc hKc hDc hS hFc hE⟩ rfl rfl hl.1 rfl (lv_room (Nat.le_of_ble_eq_true rfl)) dX2_wipe_5 ⟨Nat.le_of_ble_eq_true rfl, Nat.le_of_ble_eq_true rfl⟩) hS (fun q _ h9 => hFc q h9) hFc (fun u_3  t H locs ht hvm hw_2 hB hz1 hk1 hS => ?_)
  obtain ⟨hP1, hK1, hD1⟩ := hB
  rw [ht] at hP1
  have hK1 := va_K.moved hvm.symm hK1
  obtain ⟨hP, hD⟩ := va_join (wr := [(xr, .inr (6, [.ref xw, .ref xt])), (xt, .inl (ct, 8, .inr (.inl (fun _ => 0))))]) (w1 := [(xw, .inl (cw, 8, .inr (.inl (fun _ => 0))))]) hP hD [1] [0, 2] rfl rfl (by decide) (by decide) hk1 hFc hP1 hD1
  have hP : va_P (dC, dI) vwCl [(xr, .inr (6, [.ref xw, .ref xt])), (xt, .inl (ct, 8, .inr (.inl (fun _ => 0)))), (xw, .inl (cw, 8, .inr (.inl (fun _ => 0))))] H := hP
  have hD : va_D A [(xr, .inr (6, [.ref xw, .ref xt])), (xt, .inl (ct, 8, .inr (.inl (fun _ => 0)))), (xw, .inl (cw, 8, .inr (.inl (fun _ => 0))))] := hD
  refine lv_aload_n hx hb dX2_wipe_8 rfl (lv_at hl 0 rfl) ?_
  refine va_get (D := (dC, dI)) (ci := 6) (v := .ref xt) (C := RX2) (T := TX2) (N := 2) hx hb hts (by decide +kernel) hown hK hP 0 rfl rfl 1 (by decide) (hts (.fieldLink RX2 15 "Diffractory$Row" "roots" "[J") (by decide +kernel)) (fun _ h9 => h9) rfl dX2_wipe_9 ?_
  refine lv_lconst (v := 0) hx hb dX2_wipe_12 (by decide) ?_
  have hPc := hP.sub (ws' := [(xt, .inl (ct, 8, .inr (.inl (fun _ => 0))))]) [1] rfl
  have hKc := hK.sub (tys' := [(ct, .long)]) [1] rfl
  have hDc := hD.sub (ws' := [(xt, .inl (ct, 8, .inr (.inl (fun _ => 0))))]) [1] (by decide) rfl
  have hFc := va_free (wc := [(xt, .inl (ct, 8, .inr (.inl (fun _ => 0))))]) hD hS hA [1] rfl
  refine va_callv (va_runS (As := [.ref xt, .long 0]) (rest := []) ⟨hx, hb, hml, hown, hts⟩ (c_J7_fill_d0a16 l dC dI xt ct sa ta H.size) (va_cwS 2 hts gX2_wipe_J7_fill_d0a16 rfl rfl rfl (by decide +kernel) ⟨Nat.le_of_ble_eq_true rfl, Nat.le_of_ble_eq_true rfl⟩) ⟨ax_fbW, ax_prW hPc hKc hDc hS hFc hE⟩ rfl rfl hl.1 rfl (lv_room (Nat.le_of_ble_eq_true rfl)) dX2_wipe_13 ⟨Nat.le_of_ble_eq_true rfl, Nat.le_of_ble_eq_true rfl⟩) hS (fun q _ h9 => hFc q h9) hFc (fun u_6  t H locs ht hvm hw_5 hB hz1 hk1 hS => ?_)
  obtain ⟨hP1, hK1, hD1⟩ := hB
  rw [ht] at hP1
  have hK1 := va_K.moved hvm.symm hK1
  obtain ⟨hP, hD⟩ := va_join (wr := [(xr, .inr (6, [.ref xw, .ref xt])), (xw, .inl (cw, 8, .inr (.inl (fun _ => 0))))]) (w1 := [(xt, .inl (ct, 8, .inr (.inl (fun _ => 0))))]) hP hD [1] [0, 2] rfl rfl (by decide) (by decide) hk1 hFc hP1 hD1
  have hP : va_P (dC, dI) vwCl [(xr, .inr (6, [.ref xw, .ref xt])), (xw, .inl (cw, 8, .inr (.inl (fun _ => 0)))), (xt, .inl (ct, 8, .inr (.inl (fun _ => 0))))] H := hP
  have hD : va_D A [(xr, .inr (6, [.ref xw, .ref xt])), (xw, .inl (cw, 8, .inr (.inl (fun _ => 0)))), (xt, .inl (ct, 8, .inr (.inl (fun _ => 0))))] := hD
  refine W.widen (k := 0) (n := 0) (Nat.le_of_ble_eq_true rfl) (Nat.le_of_ble_eq_true rfl) ?_
  have hP9 := hP.sub (ws' := [(xr, .inr (6, [.ref xw, .ref xt])), (xw, .inl (cw, 8, .inr (.inl (fun _ => 0)))), (xt, .inl (ct, 8, .inr (.inl (fun _ => 0))))]) [0, 1, 2] rfl
  have hD9 := hD.sub (ws' := [(xr, .inr (6, [.ref xw, .ref xt])), (xw, .inl (cw, 8, .inr (.inl (fun _ => 0)))), (xt, .inl (ct, 8, .inr (.inl (fun _ => 0))))]) [0, 1, 2] (by decide) rfl
  have hK9 := hK.sub (tys' := [(cw, .long), (ct, .long)]) [0, 1] rfl
  exact W.vret hx hb hr (fun t ht hW => ⟨⟨(), rfl, trivial, by rw [ht]; exact hP9, va_K.moved hW.alike hK9, hD9⟩, hS.F ht⟩) hS.2.2 dX2_wipe_16

set_option maxHeartbeats 4000000 in
set_option maxRecDepth 100000 in
theorem c_X2_sum (l : Launch) (dC : Nat → ClassId) (dI : Nat → Nat → Nat) (ja : Nat) (cJ : ClassId) (sa ta : Nat → Nat) : Met l yX2_sum wsX2_sum ({ frames := 8, cells := 0, slots := 0, locals := 200 }) (va_Pc [.ref ja] (ax_R (dC, dI) vwCl [(ja, .inl (cJ, 8, .inr (.inl (fun _ => 0))))] [(cJ, .long)] sa ta)) (va_Ql (fun (r : Int64) (u : Unit) => r = 0) (fun _ _ => True) ax_no) 0 0 ax_no := by
  refine Met.ofW (cc := cX2_sum) (maxL := 4) (ret := (some .long)) (by decide) rfl ?_
  intro p e s m args below meth c s₁ B hml hv
  obtain ⟨rfl, hP, hK, hE⟩ := hv
  have hx := B.exec
  have hb := B.bytes
  have hr := B.returns
  have hts := atoms_spec (ws := wsX2_sum) B.pre
  have hown : s.vm.findClass RX2 = some m.cls := findClass_of_methodNamed B.named
  have hlocks := B.notSynchronized
  have hS : va_S ax_no s.heap s.heap [] := va_S.rf
  have hl := lv_entry ([.ref ja]) (n := 4) (Nat.le_of_ble_eq_true rfl)
  rw [lg_entry_eq]
  generalize (lg_sl ([.ref ja]) ++ List.replicate (4 - (lg_sl ([.ref ja])).length) Slot.unset).toArray = ls at hl ⊢
  have hl : lv_has ls 4 [(0, .ref ja)] := hl
  have hP : va_P (dC, dI) vwCl [(ja, .inl (cJ, 8, .inr (.inl (fun _ => 0))))] s.heap := hP
  refine lv_lconst (v := 0) hx hb dX2_sum_0 (by decide) ?_
  refine lv_lstore_n (lv' := [(1, .long 0), (0, .ref ja)]) hx hb dX2_sum_1 rfl hl (by decide) rfl (fun ls hl => ?_)
  refine lv_iconst (v := 0) hx hb dX2_sum_2 (by decide) ?_
  refine lv_istore_n (lv' := [(3, .int 0), (1, .long 0), (0, .ref ja)]) hx hb dX2_sum_3 rfl hl (by decide) rfl (fun ls hl => ?_)
  refine lv_iload_n hx hb dX2_sum_4 rfl (lv_at hl 0 rfl) ?_
  refine lv_aload_n hx hb dX2_sum_5 rfl (lv_at hl 2 rfl) ?_
  refine va_alen (v := 8) hx hb hK hP 0 0 rfl rfl (by decide) dX2_sum_6 ?_
  refine lv_icmp_ge (tgt := 22) hx hb dX2_sum_7 (by decide) (fun h9 => absurd h9 (by decide)) (fun _ => ?_)
  refine lv_lload_n hx hb dX2_sum_10 rfl (lv_at hl 1 rfl) ?_
  refine lv_aload_n hx hb dX2_sum_11 rfl (lv_at hl 2 rfl) ?_
  refine lv_iload_n hx hb dX2_sum_12 rfl (lv_at hl 0 rfl) ?_
  refine va_lald hx hb hK hP 0 0 rfl rfl (by unfold vp_in; decide) dX2_sum_13 ?_
  refine ax_l (y := 0) rfl ?_
  refine lv_ladd hx hb dX2_sum_14 ?_
  refine ax_l (y := 0) (by decide) ?_
  refine lv_lstore_n (lv' := [(1, .long 0), (3, .int 0), (0, .ref ja)]) hx hb dX2_sum_15 rfl hl (by decide) rfl (fun ls hl => ?_)
  refine lv_iinc (v := 1) (lv' := [(3, .int 1), (1, .long 0), (0, .ref ja)]) hx hb dX2_sum_16 hl (k := 1) rfl (by decide) (by decide) rfl (fun ls hl => ?_)
  refine lv_goto (tgt := 4) hx hb dX2_sum_19 (by decide) ?_
  refine lv_iload_n hx hb dX2_sum_4 rfl (lv_at hl 0 rfl) ?_
  refine lv_aload_n hx hb dX2_sum_5 rfl (lv_at hl 2 rfl) ?_
  refine va_alen (v := 8) hx hb hK hP 0 0 rfl rfl (by decide) dX2_sum_6 ?_
  refine lv_icmp_ge (tgt := 22) hx hb dX2_sum_7 (by decide) (fun h9 => absurd h9 (by decide)) (fun _ => ?_)
  refine lv_lload_n hx hb dX2_sum_10 rfl (lv_at hl 1 rfl) ?_
  refine lv_aload_n hx hb dX2_sum_11 rfl (lv_at hl 2 rfl) ?_
  refine lv_iload_n hx hb dX2_sum_12 rfl (lv_at hl 0 rfl) ?_
  refine va_lald hx hb hK hP 0 0 rfl rfl (by unfold vp_in; decide) dX2_sum_13 ?_
  refine ax_l (y := 0) rfl ?_
  refine lv_ladd hx hb dX2_sum_14 ?_
  refine ax_l (y := 0) (by decide) ?_
  refine lv_lstore_n (lv' := [(1, .long 0), (3, .int 1), (0, .ref ja)]) hx hb dX2_sum_15 rfl hl (by decide) rfl (fun ls hl => ?_)
  refine lv_iinc (v := 2) (lv' := [(3, .int 2), (1, .long 0), (0, .ref ja)]) hx hb dX2_sum_16 hl (k := 1) rfl (by decide) (by decide) rfl (fun ls hl => ?_)
  refine lv_goto (tgt := 4) hx hb dX2_sum_19 (by decide) ?_
  refine lv_iload_n hx hb dX2_sum_4 rfl (lv_at hl 0 rfl) ?_
  refine lv_aload_n hx hb dX2_sum_5 rfl (lv_at hl 2 rfl) ?_
  refine va_alen (v := 8) hx hb hK hP 0 0 rfl rfl (by decide) dX2_sum_6 ?_
  refine lv_icmp_ge (tgt := 22) hx hb dX2_sum_7 (by decide) (fun h9 => absurd h9 (by decide)) (fun _ => ?_)
  refine lv_lload_n hx hb dX2_sum_10 rfl (lv_at hl 1 rfl) ?_
  refine lv_aload_n hx hb dX2_sum_11 rfl (lv_at hl 2 rfl) ?_
  refine lv_iload_n hx hb dX2_sum_12 rfl (lv_at hl 0 rfl) ?_
  refine va_lald hx hb hK hP 0 0 rfl rfl (by unfold vp_in; decide) dX2_sum_13 ?_
  refine ax_l (y := 0) rfl ?_
  refine lv_ladd hx hb dX2_sum_14 ?_
  refine ax_l (y := 0) (by decide) ?_
  refine lv_lstore_n (lv' := [(1, .long 0), (3, .int 2), (0, .ref ja)]) hx hb dX2_sum_15 rfl hl (by decide) rfl (fun ls hl => ?_)
  refine lv_iinc (v := 3) (lv' := [(3, .int 3), (1, .long 0), (0, .ref ja)]) hx hb dX2_sum_16 hl (k := 1) rfl (by decide) (by decide) rfl (fun ls hl => ?_)
  refine lv_goto (tgt := 4) hx hb dX2_sum_19 (by decide) ?_
  refine lv_iload_n hx hb dX2_sum_4 rfl (lv_at hl 0 rfl) ?_
  refine lv_aload_n hx hb dX2_sum_5 rfl (lv_at hl 2 rfl) ?_
  refine va_alen (v := 8) hx hb hK hP 0 0 rfl rfl (by decide) dX2_sum_6 ?_
  refine lv_icmp_ge (tgt := 22) hx hb dX2_sum_7 (by decide) (fun h9 => absurd h9 (by decide)) (fun _ => ?_)
  refine lv_lload_n hx hb dX2_sum_10 rfl (lv_at hl 1 rfl) ?_
  refine lv_aload_n hx hb dX2_sum_11 rfl (lv_at hl 2 rfl) ?_
  refine lv_iload_n hx hb dX2_sum_12 rfl (lv_at hl 0 rfl) ?_
  refine va_lald hx hb hK hP 0 0 rfl rfl (by unfold vp_in; decide) dX2_sum_13 ?_
  refine ax_l (y := 0) rfl ?_
  refine lv_ladd hx hb dX2_sum_14 ?_
  refine ax_l (y := 0) (by decide) ?_
  refine lv_lstore_n (lv' := [(1, .long 0), (3, .int 3), (0, .ref ja)]) hx hb dX2_sum_15 rfl hl (by decide) rfl (fun ls hl => ?_)
  refine lv_iinc (v := 4) (lv' := [(3, .int 4), (1, .long 0), (0, .ref ja)]) hx hb dX2_sum_16 hl (k := 1) rfl (by decide) (by decide) rfl (fun ls hl => ?_)
  refine lv_goto (tgt := 4) hx hb dX2_sum_19 (by decide) ?_
  refine lv_iload_n hx hb dX2_sum_4 rfl (lv_at hl 0 rfl) ?_
  refine lv_aload_n hx hb dX2_sum_5 rfl (lv_at hl 2 rfl) ?_
  refine va_alen (v := 8) hx hb hK hP 0 0 rfl rfl (by decide) dX2_sum_6 ?_
  refine lv_icmp_ge (tgt := 22) hx hb dX2_sum_7 (by decide) (fun h9 => absurd h9 (by decide)) (fun _ => ?_)
  refine lv_lload_n hx hb dX2_sum_10 rfl (lv_at hl 1 rfl) ?_
  refine lv_aload_n hx hb dX2_sum_11 rfl (lv_at hl 2 rfl) ?_
  refine lv_iload_n hx hb dX2_sum_12 rfl (lv_at hl 0 rfl) ?_
  refine va_lald hx hb hK hP 0 0 rfl rfl (by unfold vp_in; decide) dX2_sum_13 ?_
  refine ax_l (y := 0) rfl ?_
  refine lv_ladd hx hb dX2_sum_14 ?_
  refine ax_l (y := 0) (by decide) ?_
  refine lv_lstore_n (lv' := [(1, .long 0), (3, .int 4), (0, .ref ja)]) hx hb dX2_sum_15 rfl hl (by decide) rfl (fun ls hl => ?_)
  refine lv_iinc (v := 5) (lv' := [(3, .int 5), (1, .long 0), (0, .ref ja)]) hx hb dX2_sum_16 hl (k := 1) rfl (by decide) (by decide) rfl (fun ls hl => ?_)
  refine lv_goto (tgt := 4) hx hb dX2_sum_19 (by decide) ?_
  refine lv_iload_n hx hb dX2_sum_4 rfl (lv_at hl 0 rfl) ?_
  refine lv_aload_n hx hb dX2_sum_5 rfl (lv_at hl 2 rfl) ?_
  refine va_alen (v := 8) hx hb hK hP 0 0 rfl rfl (by decide) dX2_sum_6 ?_
  refine lv_icmp_ge (tgt := 22) hx hb dX2_sum_7 (by decide) (fun h9 => absurd h9 (by decide)) (fun _ => ?_)
  refine lv_lload_n hx hb dX2_sum_10 rfl (lv_at hl 1 rfl) ?_
  refine lv_aload_n hx hb dX2_sum_11 rfl (lv_at hl 2 rfl) ?_
  refine lv_iload_n hx hb dX2_sum_12 rfl (lv_at hl 0 rfl) ?_
  refine va_lald hx hb hK hP 0 0 rfl rfl (by unfold vp_in; decide) dX2_sum_13 ?_
  refine ax_l (y := 0) rfl ?_
  refine lv_ladd hx hb dX2_sum_14 ?_
  refine ax_l (y := 0) (by decide) ?_
  refine lv_lstore_n (lv' := [(1, .long 0), (3, .int 5), (0, .ref ja)]) hx hb dX2_sum_15 rfl hl (by decide) rfl (fun ls hl => ?_)
  refine lv_iinc (v := 6) (lv' := [(3, .int 6), (1, .long 0), (0, .ref ja)]) hx hb dX2_sum_16 hl (k := 1) rfl (by decide) (by decide) rfl (fun ls hl => ?_)
  refine lv_goto (tgt := 4) hx hb dX2_sum_19 (by decide) ?_
  refine lv_iload_n hx hb dX2_sum_4 rfl (lv_at hl 0 rfl) ?_
  refine lv_aload_n hx hb dX2_sum_5 rfl (lv_at hl 2 rfl) ?_
  refine va_alen (v := 8) hx hb hK hP 0 0 rfl rfl (by decide) dX2_sum_6 ?_
  refine lv_icmp_ge (tgt := 22) hx hb dX2_sum_7 (by decide) (fun h9 => absurd h9 (by decide)) (fun _ => ?_)
  refine lv_lload_n hx hb dX2_sum_10 rfl (lv_at hl 1 rfl) ?_
  refine lv_aload_n hx hb dX2_sum_11 rfl (lv_at hl 2 rfl) ?_
  refine lv_iload_n hx hb dX2_sum_12 rfl (lv_at hl 0 rfl) ?_
  refine va_lald hx hb hK hP 0 0 rfl rfl (by unfold vp_in; decide) dX2_sum_13 ?_
  refine ax_l (y := 0) rfl ?_
  refine lv_ladd hx hb dX2_sum_14 ?_
  refine ax_l (y := 0) (by decide) ?_
  refine lv_lstore_n (lv' := [(1, .long 0), (3, .int 6), (0, .ref ja)]) hx hb dX2_sum_15 rfl hl (by decide) rfl (fun ls hl => ?_)
  refine lv_iinc (v := 7) (lv' := [(3, .int 7), (1, .long 0), (0, .ref ja)]) hx hb dX2_sum_16 hl (k := 1) rfl (by decide) (by decide) rfl (fun ls hl => ?_)
  refine lv_goto (tgt := 4) hx hb dX2_sum_19 (by decide) ?_
  refine lv_iload_n hx hb dX2_sum_4 rfl (lv_at hl 0 rfl) ?_
  refine lv_aload_n hx hb dX2_sum_5 rfl (lv_at hl 2 rfl) ?_
  refine va_alen (v := 8) hx hb hK hP 0 0 rfl rfl (by decide) dX2_sum_6 ?_
  refine lv_icmp_ge (tgt := 22) hx hb dX2_sum_7 (by decide) (fun h9 => absurd h9 (by decide)) (fun _ => ?_)
  refine lv_lload_n hx hb dX2_sum_10 rfl (lv_at hl 1 rfl) ?_
  refine lv_aload_n hx hb dX2_sum_11 rfl (lv_at hl 2 rfl) ?_
  refine lv_iload_n hx hb dX2_sum_12 rfl (lv_at hl 0 rfl) ?_
  refine va_lald hx hb hK hP 0 0 rfl rfl (by unfold vp_in; decide) dX2_sum_13 ?_
  refine ax_l (y := 0) rfl ?_
  refine lv_ladd hx hb dX2_sum_14 ?_
  refine ax_l (y := 0) (by decide) ?_
  refine lv_lstore_n (lv' := [(1, .long 0), (3, .int 7), (0, .ref ja)]) hx hb dX2_sum_15 rfl hl (by decide) rfl (fun ls hl => ?_)
  refine lv_iinc (v := 8) (lv' := [(3, .int 8), (1, .long 0), (0, .ref ja)]) hx hb dX2_sum_16 hl (k := 1) rfl (by decide) (by decide) rfl (fun ls hl => ?_)
  refine lv_goto (tgt := 4) hx hb dX2_sum_19 (by decide) ?_
  refine lv_iload_n hx hb dX2_sum_4 rfl (lv_at hl 0 rfl) ?_
  refine lv_aload_n hx hb dX2_sum_5 rfl (lv_at hl 2 rfl) ?_
  refine va_alen (v := 8) hx hb hK hP 0 0 rfl rfl (by decide) dX2_sum_6 ?_
  refine lv_icmp_ge (tgt := 22) hx hb dX2_sum_7 (by decide) (fun _ => ?_) (fun h9 => absurd (by decide) h9)
  refine lv_lload_n hx hb dX2_sum_22 rfl (lv_at hl 1 rfl) ?_
  refine W.widen (k := 0) (n := 0) (Nat.le_of_ble_eq_true rfl) (Nat.le_of_ble_eq_true rfl) ?_
  exact W.lret (v := 0) hx hb hr (fun t ht hW => ⟨⟨0, (), rfl, rfl, trivial⟩, hS.F ht⟩) hS.2.2 dX2_sum_23

set_option maxHeartbeats 4000000 in
set_option maxRecDepth 100000 in
theorem c_X2_sumOfWholes (l : Launch) (dC : Nat → ClassId) (dI : Nat → Nat → Nat) (xr xw xt : Nat) (cw ct : ClassId) (sa ta : Nat → Nat) : Met l yX2_sumOfWholes wsX2_sumOfWholes ({ frames := 16, cells := 0, slots := 0, locals := 400 }) (va_Pc [.ref xr] (ax_R (dC, dI) vwCl [(xr, .inr (6, [.ref xw, .ref xt])), (xw, .inl (cw, 8, .inr (.inl (fun _ => 0)))), (xt, .inl (ct, 8, .inr (.inl (fun _ => 0))))] [(cw, .long), (ct, .long)] sa ta)) (va_Ql (fun (r : Int64) (u : Unit) => r = 0) (fun _ _ => True) ax_no) 0 0 ax_no := by
  refine Met.ofW (cc := cX2_sumOfWholes) (maxL := 1) (ret := (some .long)) (by decide) rfl ?_
  intro p e s m args below meth c s₁ B hml hv
  obtain ⟨rfl, hP, hK, hE⟩ := hv
  have hx := B.exec
  have hb := B.bytes
  have hr := B.returns
  have hts := atoms_spec (ws := wsX2_sumOfWholes) B.pre
  have hown : s.vm.findClass RX2 = some m.cls := findClass_of_methodNamed B.named
  have hlocks := B.notSynchronized
  have hS : va_S ax_no s.heap s.heap [] := va_S.rf
  have hl := lv_entry ([.ref xr]) (n := 1) (Nat.le_of_ble_eq_true rfl)
  rw [lg_entry_eq]
  generalize (lg_sl ([.ref xr]) ++ List.replicate (1 - (lg_sl ([.ref xr])).length) Slot.unset).toArray = ls at hl ⊢
  have hl : lv_has ls 1 [(0, .ref xr)] := hl
  have hP : va_P (dC, dI) vwCl [(xr, .inr (6, [.ref xw, .ref xt])), (xw, .inl (cw, 8, .inr (.inl (fun _ => 0)))), (xt, .inl (ct, 8, .inr (.inl (fun _ => 0))))] s.heap := hP
  refine lv_aload_n hx hb dX2_sumOfWholes_0 rfl (lv_at hl 0 rfl) ?_
  refine va_get (D := (dC, dI)) (ci := 6) (v := .ref xw) (C := RX2) (T := TX2) (N := 2) hx hb hts (by decide +kernel) hown hK hP 0 rfl rfl 0 (by decide) (hts (.fieldLink RX2 9 "Diffractory$Row" "wholes" "[J") (by decide +kernel)) (fun _ h9 => h9) rfl dX2_sumOfWholes_1 ?_
  have hPc := hP.sub (ws' := [(xw, .inl (cw, 8, .inr (.inl (fun _ => 0))))]) [1] rfl
  have hKc := hK.sub (tys' := [(cw, .long)]) [0] rfl
  refine va_calll (va_runS (As := [.ref xw]) (rest := []) ⟨hx, hb, hml, hown, hts⟩ (c_X2_sum l dC dI xw cw sa ta) (va_cwS 1 hts gX2_sumOfWholes_X2_sum rfl rfl rfl (by decide +kernel) ⟨Nat.le_of_ble_eq_true rfl, Nat.le_of_ble_eq_true rfl⟩) ⟨ax_fbR, ax_prR hPc hKc hS hE⟩ rfl rfl hl.1 rfl (lv_room (Nat.le_of_ble_eq_true rfl)) dX2_sumOfWholes_4 ⟨Nat.le_of_ble_eq_true rfl, Nat.le_of_ble_eq_true rfl⟩) hS (fun _ _ h9 => h9.elim) (fun _ h9 => h9.elim) (fun r_1 u_3  t H locs ht hvm hw_2 hB hz1 hk1 hS => ?_)
  have hP := ax_keep hP (fun _ h9 => h9) hk1
  refine ax_l (y := 0) hw_2 ?_
  refine W.widen (k := 0) (n := 0) (Nat.le_of_ble_eq_true rfl) (Nat.le_of_ble_eq_true rfl) ?_
  exact W.lret (v := 0) hx hb hr (fun t ht hW => ⟨⟨0, (), rfl, rfl, trivial⟩, hS.F ht⟩) hS.2.2 dX2_sumOfWholes_7

set_option maxHeartbeats 4000000 in
set_option maxRecDepth 100000 in
theorem c_X2_sumOfRoots (l : Launch) (dC : Nat → ClassId) (dI : Nat → Nat → Nat) (xr xw xt : Nat) (cw ct : ClassId) (sa ta : Nat → Nat) : Met l yX2_sumOfRoots wsX2_sumOfRoots ({ frames := 16, cells := 0, slots := 0, locals := 400 }) (va_Pc [.ref xr] (ax_R (dC, dI) vwCl [(xr, .inr (6, [.ref xw, .ref xt])), (xw, .inl (cw, 8, .inr (.inl (fun _ => 0)))), (xt, .inl (ct, 8, .inr (.inl (fun _ => 0))))] [(cw, .long), (ct, .long)] sa ta)) (va_Ql (fun (r : Int64) (u : Unit) => r = 0) (fun _ _ => True) ax_no) 0 0 ax_no := by
  refine Met.ofW (cc := cX2_sumOfRoots) (maxL := 1) (ret := (some .long)) (by decide) rfl ?_
  intro p e s m args below meth c s₁ B hml hv
  obtain ⟨rfl, hP, hK, hE⟩ := hv
  have hx := B.exec
  have hb := B.bytes
  have hr := B.returns
  have hts := atoms_spec (ws := wsX2_sumOfRoots) B.pre
  have hown : s.vm.findClass RX2 = some m.cls := findClass_of_methodNamed B.named
  have hlocks := B.notSynchronized
  have hS : va_S ax_no s.heap s.heap [] := va_S.rf
  have hl := lv_entry ([.ref xr]) (n := 1) (Nat.le_of_ble_eq_true rfl)
  rw [lg_entry_eq]
  generalize (lg_sl ([.ref xr]) ++ List.replicate (1 - (lg_sl ([.ref xr])).length) Slot.unset).toArray = ls at hl ⊢
  have hl : lv_has ls 1 [(0, .ref xr)] := hl
  have hP : va_P (dC, dI) vwCl [(xr, .inr (6, [.ref xw, .ref xt])), (xw, .inl (cw, 8, .inr (.inl (fun _ => 0)))), (xt, .inl (ct, 8, .inr (.inl (fun _ => 0))))] s.heap := hP
  refine lv_aload_n hx hb dX2_sumOfRoots_0 rfl (lv_at hl 0 rfl) ?_
  refine va_get (D := (dC, dI)) (ci := 6) (v := .ref xt) (C := RX2) (T := TX2) (N := 2) hx hb hts (by decide +kernel) hown hK hP 0 rfl rfl 1 (by decide) (hts (.fieldLink RX2 15 "Diffractory$Row" "roots" "[J") (by decide +kernel)) (fun _ h9 => h9) rfl dX2_sumOfRoots_1 ?_
  have hPc := hP.sub (ws' := [(xt, .inl (ct, 8, .inr (.inl (fun _ => 0))))]) [2] rfl
  have hKc := hK.sub (tys' := [(ct, .long)]) [1] rfl
  refine va_calll (va_runS (As := [.ref xt]) (rest := []) ⟨hx, hb, hml, hown, hts⟩ (c_X2_sum l dC dI xt ct sa ta) (va_cwS 1 hts gX2_sumOfRoots_X2_sum rfl rfl rfl (by decide +kernel) ⟨Nat.le_of_ble_eq_true rfl, Nat.le_of_ble_eq_true rfl⟩) ⟨ax_fbR, ax_prR hPc hKc hS hE⟩ rfl rfl hl.1 rfl (lv_room (Nat.le_of_ble_eq_true rfl)) dX2_sumOfRoots_4 ⟨Nat.le_of_ble_eq_true rfl, Nat.le_of_ble_eq_true rfl⟩) hS (fun _ _ h9 => h9.elim) (fun _ h9 => h9.elim) (fun r_1 u_3  t H locs ht hvm hw_2 hB hz1 hk1 hS => ?_)
  have hP := ax_keep hP (fun _ h9 => h9) hk1
  refine ax_l (y := 0) hw_2 ?_
  refine W.widen (k := 0) (n := 0) (Nat.le_of_ble_eq_true rfl) (Nat.le_of_ble_eq_true rfl) ?_
  exact W.lret (v := 0) hx hb hr (fun t ht hW => ⟨⟨0, (), rfl, rfl, trivial⟩, hS.F ht⟩) hS.2.2 dX2_sumOfRoots_7

set_option maxHeartbeats 4000000 in
set_option maxRecDepth 100000 in
theorem c_X2_valueAt (l : Launch) (dC : Nat → ClassId) (dI : Nat → Nat → Nat) (xr xw xt : Nat) (cw ct : ClassId) (sa ta : Nat → Nat) (p0 : Int32) : Met l yX2_valueAt wsX2_valueAt ({ frames := 8, cells := 0, slots := 0, locals := 200 }) (va_Pc [.ref xr, .int p0] (ax_R (dC, dI) vwCl [(xr, .inr (6, [.ref xw, .ref xt])), (xw, .inl (cw, 8, .inr (.inl (fun _ => 0)))), (xt, .inl (ct, 8, .inr (.inl (fun _ => 0))))] [(cw, .long), (ct, .long)] sa ta)) (va_Qd (fun (r : UInt64) (u : Unit) => r = 0) (fun _ _ => True) ax_no) 0 0 ax_no := by
  refine Met.ofW (cc := cX2_valueAt) (maxL := 2) (ret := (some .double)) (by decide) rfl ?_
  intro p e s m args below meth c s₁ B hml hv
  obtain ⟨rfl, hP, hK, hE⟩ := hv
  have hx := B.exec
  have hb := B.bytes
  have hr := B.returns
  have hts := atoms_spec (ws := wsX2_valueAt) B.pre
  have hown : s.vm.findClass RX2 = some m.cls := findClass_of_methodNamed B.named
  have hlocks := B.notSynchronized
  have hS : va_S ax_no s.heap s.heap [] := va_S.rf
  have hl := lv_entry ([.ref xr, .int p0]) (n := 2) (Nat.le_of_ble_eq_true rfl)
  rw [lg_entry_eq]
  generalize (lg_sl ([.ref xr, .int p0]) ++ List.replicate (2 - (lg_sl ([.ref xr, .int p0])).length) Slot.unset).toArray = ls at hl ⊢
  have hl : lv_has ls 2 [(0, .ref xr), (1, .int p0)] := hl
  have hP : va_P (dC, dI) vwCl [(xr, .inr (6, [.ref xw, .ref xt])), (xw, .inl (cw, 8, .inr (.inl (fun _ => 0)))), (xt, .inl (ct, 8, .inr (.inl (fun _ => 0))))] s.heap := hP
  refine lv_aload_n hx hb dX2_valueAt_0 rfl (lv_at hl 0 rfl) ?_
  refine va_get (D := (dC, dI)) (ci := 6) (v := .ref xw) (C := RX2) (T := TX2) (N := 2) hx hb hts (by decide +kernel) hown hK hP 0 rfl rfl 0 (by decide) (hts (.fieldLink RX2 9 "Diffractory$Row" "wholes" "[J") (by decide +kernel)) (fun _ h9 => h9) rfl dX2_valueAt_1 ?_
  refine lv_iload_n hx hb dX2_valueAt_4 rfl (lv_at hl 1 rfl) ?_
  refine lv_bipush (v := 7) hx hb dX2_valueAt_5 (by decide) ?_
  refine lv_iand hx hb dX2_valueAt_7 ?_
  refine va_lald hx hb hK hP 1 0 rfl rfl (pk_andIn p0 3 rfl (by decide)) dX2_valueAt_8 ?_
  refine ax_l (y := 0) rfl ?_
  refine lv_l2d hx hb dX2_valueAt_9 ?_
  refine ax_d (y := 0) (by decide +kernel) ?_
  refine lv_ldc2d (v := 4609047870845172685) hx hb hown (hts (.constantDouble RX2 37 4609047870845172685) (by decide +kernel)) dX2_valueAt_10 ?_
  refine lv_aload_n hx hb dX2_valueAt_13 rfl (lv_at hl 0 rfl) ?_
  refine va_get (D := (dC, dI)) (ci := 6) (v := .ref xt) (C := RX2) (T := TX2) (N := 2) hx hb hts (by decide +kernel) hown hK hP 0 rfl rfl 1 (by decide) (hts (.fieldLink RX2 15 "Diffractory$Row" "roots" "[J") (by decide +kernel)) (fun _ h9 => h9) rfl dX2_valueAt_14 ?_
  refine lv_iload_n hx hb dX2_valueAt_17 rfl (lv_at hl 1 rfl) ?_
  refine lv_bipush (v := 7) hx hb dX2_valueAt_18 (by decide) ?_
  refine lv_iand hx hb dX2_valueAt_20 ?_
  refine va_lald hx hb hK hP 2 1 rfl rfl (pk_andIn p0 3 rfl (by decide)) dX2_valueAt_21 ?_
  refine ax_l (y := 0) rfl ?_
  refine lv_l2d hx hb dX2_valueAt_22 ?_
  refine ax_d (y := 0) (by decide +kernel) ?_
  refine lv_dmul hx hb dX2_valueAt_23 (by unfold vf_n64; decide +kernel) ?_
  refine ax_d (y := 0) (by decide +kernel) ?_
  refine lv_dadd hx hb dX2_valueAt_24 (by unfold vf_n64; decide +kernel) ?_
  refine ax_d (y := 0) (by decide +kernel) ?_
  refine W.widen (k := 0) (n := 0) (Nat.le_of_ble_eq_true rfl) (Nat.le_of_ble_eq_true rfl) ?_
  exact W.dret (v := 0) hx hb hr (fun t ht hW => ⟨⟨0, (), rfl, rfl, trivial⟩, hS.F ht⟩) hS.2.2 dX2_valueAt_25

set_option maxHeartbeats 4000000 in
set_option maxRecDepth 100000 in
theorem c_X2_placeOfGreatest (l : Launch) (dC : Nat → ClassId) (dI : Nat → Nat → Nat) (xr xw xt : Nat) (cw ct : ClassId) (sa ta : Nat → Nat) : Met l yX2_placeOfGreatest wsX2_placeOfGreatest ({ frames := 16, cells := 0, slots := 0, locals := 400 }) (va_Pc [.ref xr] (ax_R (dC, dI) vwCl [(xr, .inr (6, [.ref xw, .ref xt])), (xw, .inl (cw, 8, .inr (.inl (fun _ => 0)))), (xt, .inl (ct, 8, .inr (.inl (fun _ => 0))))] [(cw, .long), (ct, .long)] sa ta)) (va_Qi (fun (r : Int32) (u : Unit) => r = 0) (fun _ _ => True) ax_no) 0 0 ax_no := by
  refine Met.ofW (cc := cX2_placeOfGreatest) (maxL := 3) (ret := (some .int)) (by decide) rfl ?_
  intro p e s m args below meth c s₁ B hml hv
  obtain ⟨rfl, hP, hK, hE⟩ := hv
  have hx := B.exec
  have hb := B.bytes
  have hr := B.returns
  have hts := atoms_spec (ws := wsX2_placeOfGreatest) B.pre
  have hown : s.vm.findClass RX2 = some m.cls := findClass_of_methodNamed B.named
  have hlocks := B.notSynchronized
  have hS : va_S ax_no s.heap s.heap [] := va_S.rf
  have hl := lv_entry ([.ref xr]) (n := 3) (Nat.le_of_ble_eq_true rfl)
  rw [lg_entry_eq]
  generalize (lg_sl ([.ref xr]) ++ List.replicate (3 - (lg_sl ([.ref xr])).length) Slot.unset).toArray = ls at hl ⊢
  have hl : lv_has ls 3 [(0, .ref xr)] := hl
  have hP : va_P (dC, dI) vwCl [(xr, .inr (6, [.ref xw, .ref xt])), (xw, .inl (cw, 8, .inr (.inl (fun _ => 0)))), (xt, .inl (ct, 8, .inr (.inl (fun _ => 0))))] s.heap := hP
  refine lv_iconst (v := 0) hx hb dX2_placeOfGreatest_0 (by decide) ?_
  refine lv_istore_n (lv' := [(1, .int 0), (0, .ref xr)]) hx hb dX2_placeOfGreatest_1 rfl hl (by decide) rfl (fun ls hl => ?_)
  refine lv_iconst (v := 1) hx hb dX2_placeOfGreatest_2 (by decide) ?_
  refine lv_istore_n (lv' := [(2, .int 1), (1, .int 0), (0, .ref xr)]) hx hb dX2_placeOfGreatest_3 rfl hl (by decide) rfl (fun ls hl => ?_)
  refine lv_iload_n hx hb dX2_placeOfGreatest_4 rfl (lv_at hl 0 rfl) ?_
  refine lv_bipush (v := 8) hx hb dX2_placeOfGreatest_5 (by decide) ?_
  refine lv_icmp_ge (tgt := 32) hx hb dX2_placeOfGreatest_7 (by decide) (fun h9 => absurd h9 (by decide)) (fun _ => ?_)
  refine lv_aload_n hx hb dX2_placeOfGreatest_10 rfl (lv_at hl 2 rfl) ?_
  refine lv_iload_n hx hb dX2_placeOfGreatest_11 rfl (lv_at hl 0 rfl) ?_
  have hPc := hP.sub (ws' := [(xr, .inr (6, [.ref xw, .ref xt])), (xw, .inl (cw, 8, .inr (.inl (fun _ => 0)))), (xt, .inl (ct, 8, .inr (.inl (fun _ => 0))))]) [0, 1, 2] rfl
  have hKc := hK.sub (tys' := [(cw, .long), (ct, .long)]) [0, 1] rfl
  refine va_calld (va_runV (As := [.int 1]) (rest := []) ⟨hx, hb, hml, hown, hts⟩ (c_X2_valueAt l dC dI xr xw xt cw ct sa ta 1) (cwV 1 hts gX2_placeOfGreatest_X2_valueAt rfl rfl rfl (by decide +kernel) ⟨Nat.le_of_ble_eq_true rfl, Nat.le_of_ble_eq_true rfl⟩) ⟨ax_fbR, va_recv hK hP (ci := 6) (q0 := 0) rfl rfl, ax_prR hPc hKc hS hE⟩ rfl rfl hl.1 rfl (lv_room (Nat.le_of_ble_eq_true rfl)) dX2_placeOfGreatest_12 ⟨Nat.le_of_ble_eq_true rfl, Nat.le_of_ble_eq_true rfl⟩) hS (fun _ _ h9 => h9.elim) (fun _ h9 => h9.elim) (fun r_1 u_3  t H locs ht hvm hw_2 hB hz1 hk1 hS => ?_)
  have hP := ax_keep hP (fun _ h9 => h9) hk1
  refine ax_d (y := 0) hw_2 ?_
  refine lv_aload_n hx hb dX2_placeOfGreatest_15 rfl (lv_at hl 2 rfl) ?_
  refine lv_iload_n hx hb dX2_placeOfGreatest_16 rfl (lv_at hl 1 rfl) ?_
  have hPc := hP.sub (ws' := [(xr, .inr (6, [.ref xw, .ref xt])), (xw, .inl (cw, 8, .inr (.inl (fun _ => 0)))), (xt, .inl (ct, 8, .inr (.inl (fun _ => 0))))]) [0, 1, 2] rfl
  have hKc := hK.sub (tys' := [(cw, .long), (ct, .long)]) [0, 1] rfl
  refine va_calld (va_runV (As := [.int 0]) (rest := [.double 0]) ⟨hx, hb, hml, hown, hts⟩ (c_X2_valueAt l dC dI xr xw xt cw ct sa ta 0) (cwV 1 hts gX2_placeOfGreatest_X2_valueAt rfl rfl rfl (by decide +kernel) ⟨Nat.le_of_ble_eq_true rfl, Nat.le_of_ble_eq_true rfl⟩) ⟨ax_fbR, va_recv hK hP (ci := 6) (q0 := 0) rfl rfl, ax_prR hPc hKc hS hE⟩ rfl rfl hl.1 rfl (lv_room (Nat.le_of_ble_eq_true rfl)) dX2_placeOfGreatest_17 ⟨Nat.le_of_ble_eq_true rfl, Nat.le_of_ble_eq_true rfl⟩) hS (fun _ _ h9 => h9.elim) (fun _ h9 => h9.elim) (fun r_4 u_6  t H locs ht hvm hw_5 hB hz1 hk1 hS => ?_)
  have hP := ax_keep hP (fun _ h9 => h9) hk1
  refine ax_d (y := 0) hw_5 ?_
  refine lv_dcmp hx hb dX2_placeOfGreatest_20 ?_
  refine ax_i (y := 0) (by decide +kernel) ?_
  refine lv_if_le (tgt := 26) hx hb dX2_placeOfGreatest_21 (by decide) (fun _ => ?_) (fun h9 => absurd (by decide) h9)
  refine lv_iinc (v := 2) (lv' := [(2, .int 2), (1, .int 0), (0, .ref xr)]) hx hb dX2_placeOfGreatest_26 hl (k := 0) rfl (by decide) (by decide) rfl (fun ls hl => ?_)
  refine lv_goto (tgt := 4) hx hb dX2_placeOfGreatest_29 (by decide) ?_
  refine lv_iload_n hx hb dX2_placeOfGreatest_4 rfl (lv_at hl 0 rfl) ?_
  refine lv_bipush (v := 8) hx hb dX2_placeOfGreatest_5 (by decide) ?_
  refine lv_icmp_ge (tgt := 32) hx hb dX2_placeOfGreatest_7 (by decide) (fun h9 => absurd h9 (by decide)) (fun _ => ?_)
  refine lv_aload_n hx hb dX2_placeOfGreatest_10 rfl (lv_at hl 2 rfl) ?_
  refine lv_iload_n hx hb dX2_placeOfGreatest_11 rfl (lv_at hl 0 rfl) ?_
  have hPc := hP.sub (ws' := [(xr, .inr (6, [.ref xw, .ref xt])), (xw, .inl (cw, 8, .inr (.inl (fun _ => 0)))), (xt, .inl (ct, 8, .inr (.inl (fun _ => 0))))]) [0, 1, 2] rfl
  have hKc := hK.sub (tys' := [(cw, .long), (ct, .long)]) [0, 1] rfl
  refine va_calld (va_runV (As := [.int 2]) (rest := []) ⟨hx, hb, hml, hown, hts⟩ (c_X2_valueAt l dC dI xr xw xt cw ct sa ta 2) (cwV 1 hts gX2_placeOfGreatest_X2_valueAt rfl rfl rfl (by decide +kernel) ⟨Nat.le_of_ble_eq_true rfl, Nat.le_of_ble_eq_true rfl⟩) ⟨ax_fbR, va_recv hK hP (ci := 6) (q0 := 0) rfl rfl, ax_prR hPc hKc hS hE⟩ rfl rfl hl.1 rfl (lv_room (Nat.le_of_ble_eq_true rfl)) dX2_placeOfGreatest_12 ⟨Nat.le_of_ble_eq_true rfl, Nat.le_of_ble_eq_true rfl⟩) hS (fun _ _ h9 => h9.elim) (fun _ h9 => h9.elim) (fun r_7 u_9  t H locs ht hvm hw_8 hB hz1 hk1 hS => ?_)
  have hP := ax_keep hP (fun _ h9 => h9) hk1
  refine ax_d (y := 0) hw_8 ?_
  refine lv_aload_n hx hb dX2_placeOfGreatest_15 rfl (lv_at hl 2 rfl) ?_
  refine lv_iload_n hx hb dX2_placeOfGreatest_16 rfl (lv_at hl 1 rfl) ?_
  have hPc := hP.sub (ws' := [(xr, .inr (6, [.ref xw, .ref xt])), (xw, .inl (cw, 8, .inr (.inl (fun _ => 0)))), (xt, .inl (ct, 8, .inr (.inl (fun _ => 0))))]) [0, 1, 2] rfl
  have hKc := hK.sub (tys' := [(cw, .long), (ct, .long)]) [0, 1] rfl
  refine va_calld (va_runV (As := [.int 0]) (rest := [.double 0]) ⟨hx, hb, hml, hown, hts⟩ (c_X2_valueAt l dC dI xr xw xt cw ct sa ta 0) (cwV 1 hts gX2_placeOfGreatest_X2_valueAt rfl rfl rfl (by decide +kernel) ⟨Nat.le_of_ble_eq_true rfl, Nat.le_of_ble_eq_true rfl⟩) ⟨ax_fbR, va_recv hK hP (ci := 6) (q0 := 0) rfl rfl, ax_prR hPc hKc hS hE⟩ rfl rfl hl.1 rfl (lv_room (Nat.le_of_ble_eq_true rfl)) dX2_placeOfGreatest_17 ⟨Nat.le_of_ble_eq_true rfl, Nat.le_of_ble_eq_true rfl⟩) hS (fun _ _ h9 => h9.elim) (fun _ h9 => h9.elim) (fun r_10 u_12  t H locs ht hvm hw_11 hB hz1 hk1 hS => ?_)
  have hP := ax_keep hP (fun _ h9 => h9) hk1
  refine ax_d (y := 0) hw_11 ?_
  refine lv_dcmp hx hb dX2_placeOfGreatest_20 ?_
  refine ax_i (y := 0) (by decide +kernel) ?_
  refine lv_if_le (tgt := 26) hx hb dX2_placeOfGreatest_21 (by decide) (fun _ => ?_) (fun h9 => absurd (by decide) h9)
  refine lv_iinc (v := 3) (lv' := [(2, .int 3), (1, .int 0), (0, .ref xr)]) hx hb dX2_placeOfGreatest_26 hl (k := 0) rfl (by decide) (by decide) rfl (fun ls hl => ?_)
  refine lv_goto (tgt := 4) hx hb dX2_placeOfGreatest_29 (by decide) ?_
  refine lv_iload_n hx hb dX2_placeOfGreatest_4 rfl (lv_at hl 0 rfl) ?_
  refine lv_bipush (v := 8) hx hb dX2_placeOfGreatest_5 (by decide) ?_
  refine lv_icmp_ge (tgt := 32) hx hb dX2_placeOfGreatest_7 (by decide) (fun h9 => absurd h9 (by decide)) (fun _ => ?_)
  refine lv_aload_n hx hb dX2_placeOfGreatest_10 rfl (lv_at hl 2 rfl) ?_
  refine lv_iload_n hx hb dX2_placeOfGreatest_11 rfl (lv_at hl 0 rfl) ?_
  have hPc := hP.sub (ws' := [(xr, .inr (6, [.ref xw, .ref xt])), (xw, .inl (cw, 8, .inr (.inl (fun _ => 0)))), (xt, .inl (ct, 8, .inr (.inl (fun _ => 0))))]) [0, 1, 2] rfl
  have hKc := hK.sub (tys' := [(cw, .long), (ct, .long)]) [0, 1] rfl
  refine va_calld (va_runV (As := [.int 3]) (rest := []) ⟨hx, hb, hml, hown, hts⟩ (c_X2_valueAt l dC dI xr xw xt cw ct sa ta 3) (cwV 1 hts gX2_placeOfGreatest_X2_valueAt rfl rfl rfl (by decide +kernel) ⟨Nat.le_of_ble_eq_true rfl, Nat.le_of_ble_eq_true rfl⟩) ⟨ax_fbR, va_recv hK hP (ci := 6) (q0 := 0) rfl rfl, ax_prR hPc hKc hS hE⟩ rfl rfl hl.1 rfl (lv_room (Nat.le_of_ble_eq_true rfl)) dX2_placeOfGreatest_12 ⟨Nat.le_of_ble_eq_true rfl, Nat.le_of_ble_eq_true rfl⟩) hS (fun _ _ h9 => h9.elim) (fun _ h9 => h9.elim) (fun r_13 u_15  t H locs ht hvm hw_14 hB hz1 hk1 hS => ?_)
  have hP := ax_keep hP (fun _ h9 => h9) hk1
  refine ax_d (y := 0) hw_14 ?_
  refine lv_aload_n hx hb dX2_placeOfGreatest_15 rfl (lv_at hl 2 rfl) ?_
  refine lv_iload_n hx hb dX2_placeOfGreatest_16 rfl (lv_at hl 1 rfl) ?_
  have hPc := hP.sub (ws' := [(xr, .inr (6, [.ref xw, .ref xt])), (xw, .inl (cw, 8, .inr (.inl (fun _ => 0)))), (xt, .inl (ct, 8, .inr (.inl (fun _ => 0))))]) [0, 1, 2] rfl
  have hKc := hK.sub (tys' := [(cw, .long), (ct, .long)]) [0, 1] rfl
  refine va_calld (va_runV (As := [.int 0]) (rest := [.double 0]) ⟨hx, hb, hml, hown, hts⟩ (c_X2_valueAt l dC dI xr xw xt cw ct sa ta 0) (cwV 1 hts gX2_placeOfGreatest_X2_valueAt rfl rfl rfl (by decide +kernel) ⟨Nat.le_of_ble_eq_true rfl, Nat.le_of_ble_eq_true rfl⟩) ⟨ax_fbR, va_recv hK hP (ci := 6) (q0 := 0) rfl rfl, ax_prR hPc hKc hS hE⟩ rfl rfl hl.1 rfl (lv_room (Nat.le_of_ble_eq_true rfl)) dX2_placeOfGreatest_17 ⟨Nat.le_of_ble_eq_true rfl, Nat.le_of_ble_eq_true rfl⟩) hS (fun _ _ h9 => h9.elim) (fun _ h9 => h9.elim) (fun r_16 u_18  t H locs ht hvm hw_17 hB hz1 hk1 hS => ?_)
  have hP := ax_keep hP (fun _ h9 => h9) hk1
  refine ax_d (y := 0) hw_17 ?_
  refine lv_dcmp hx hb dX2_placeOfGreatest_20 ?_
  refine ax_i (y := 0) (by decide +kernel) ?_
  refine lv_if_le (tgt := 26) hx hb dX2_placeOfGreatest_21 (by decide) (fun _ => ?_) (fun h9 => absurd (by decide) h9)
  refine lv_iinc (v := 4) (lv' := [(2, .int 4), (1, .int 0), (0, .ref xr)]) hx hb dX2_placeOfGreatest_26 hl (k := 0) rfl (by decide) (by decide) rfl (fun ls hl => ?_)
  refine lv_goto (tgt := 4) hx hb dX2_placeOfGreatest_29 (by decide) ?_
  refine lv_iload_n hx hb dX2_placeOfGreatest_4 rfl (lv_at hl 0 rfl) ?_
  refine lv_bipush (v := 8) hx hb dX2_placeOfGreatest_5 (by decide) ?_
  refine lv_icmp_ge (tgt := 32) hx hb dX2_placeOfGreatest_7 (by decide) (fun h9 => absurd h9 (by decide)) (fun _ => ?_)
  refine lv_aload_n hx hb dX2_placeOfGreatest_10 rfl (lv_at hl 2 rfl) ?_
  refine lv_iload_n hx hb dX2_placeOfGreatest_11 rfl (lv_at hl 0 rfl) ?_
  have hPc := hP.sub (ws' := [(xr, .inr (6, [.ref xw, .ref xt])), (xw, .inl (cw, 8, .inr (.inl (fun _ => 0)))), (xt, .inl (ct, 8, .inr (.inl (fun _ => 0))))]) [0, 1, 2] rfl
  have hKc := hK.sub (tys' := [(cw, .long), (ct, .long)]) [0, 1] rfl
  refine va_calld (va_runV (As := [.int 4]) (rest := []) ⟨hx, hb, hml, hown, hts⟩ (c_X2_valueAt l dC dI xr xw xt cw ct sa ta 4) (cwV 1 hts gX2_placeOfGreatest_X2_valueAt rfl rfl rfl (by decide +kernel) ⟨Nat.le_of_ble_eq_true rfl, Nat.le_of_ble_eq_true rfl⟩) ⟨ax_fbR, va_recv hK hP (ci := 6) (q0 := 0) rfl rfl, ax_prR hPc hKc hS hE⟩ rfl rfl hl.1 rfl (lv_room (Nat.le_of_ble_eq_true rfl)) dX2_placeOfGreatest_12 ⟨Nat.le_of_ble_eq_true rfl, Nat.le_of_ble_eq_true rfl⟩) hS (fun _ _ h9 => h9.elim) (fun _ h9 => h9.elim) (fun r_19 u_21  t H locs ht hvm hw_20 hB hz1 hk1 hS => ?_)
  have hP := ax_keep hP (fun _ h9 => h9) hk1
  refine ax_d (y := 0) hw_20 ?_
  refine lv_aload_n hx hb dX2_placeOfGreatest_15 rfl (lv_at hl 2 rfl) ?_
  refine lv_iload_n hx hb dX2_placeOfGreatest_16 rfl (lv_at hl 1 rfl) ?_
  have hPc := hP.sub (ws' := [(xr, .inr (6, [.ref xw, .ref xt])), (xw, .inl (cw, 8, .inr (.inl (fun _ => 0)))), (xt, .inl (ct, 8, .inr (.inl (fun _ => 0))))]) [0, 1, 2] rfl
  have hKc := hK.sub (tys' := [(cw, .long), (ct, .long)]) [0, 1] rfl
  refine va_calld (va_runV (As := [.int 0]) (rest := [.double 0]) ⟨hx, hb, hml, hown, hts⟩ (c_X2_valueAt l dC dI xr xw xt cw ct sa ta 0) (cwV 1 hts gX2_placeOfGreatest_X2_valueAt rfl rfl rfl (by decide +kernel) ⟨Nat.le_of_ble_eq_true rfl, Nat.le_of_ble_eq_true rfl⟩) ⟨ax_fbR, va_recv hK hP (ci := 6) (q0 := 0) rfl rfl, ax_prR hPc hKc hS hE⟩ rfl rfl hl.1 rfl (lv_room (Nat.le_of_ble_eq_true rfl)) dX2_placeOfGreatest_17 ⟨Nat.le_of_ble_eq_true rfl, Nat.le_of_ble_eq_true rfl⟩) hS (fun _ _ h9 => h9.elim) (fun _ h9 => h9.elim) (fun r_22 u_24  t H locs ht hvm hw_23 hB hz1 hk1 hS => ?_)
  have hP := ax_keep hP (fun _ h9 => h9) hk1
  refine ax_d (y := 0) hw_23 ?_
  refine lv_dcmp hx hb dX2_placeOfGreatest_20 ?_
  refine ax_i (y := 0) (by decide +kernel) ?_
  refine lv_if_le (tgt := 26) hx hb dX2_placeOfGreatest_21 (by decide) (fun _ => ?_) (fun h9 => absurd (by decide) h9)
  refine lv_iinc (v := 5) (lv' := [(2, .int 5), (1, .int 0), (0, .ref xr)]) hx hb dX2_placeOfGreatest_26 hl (k := 0) rfl (by decide) (by decide) rfl (fun ls hl => ?_)
  refine lv_goto (tgt := 4) hx hb dX2_placeOfGreatest_29 (by decide) ?_
  refine lv_iload_n hx hb dX2_placeOfGreatest_4 rfl (lv_at hl 0 rfl) ?_
  refine lv_bipush (v := 8) hx hb dX2_placeOfGreatest_5 (by decide) ?_
  refine lv_icmp_ge (tgt := 32) hx hb dX2_placeOfGreatest_7 (by decide) (fun h9 => absurd h9 (by decide)) (fun _ => ?_)
  refine lv_aload_n hx hb dX2_placeOfGreatest_10 rfl (lv_at hl 2 rfl) ?_
  refine lv_iload_n hx hb dX2_placeOfGreatest_11 rfl (lv_at hl 0 rfl) ?_
  have hPc := hP.sub (ws' := [(xr, .inr (6, [.ref xw, .ref xt])), (xw, .inl (cw, 8, .inr (.inl (fun _ => 0)))), (xt, .inl (ct, 8, .inr (.inl (fun _ => 0))))]) [0, 1, 2] rfl
  have hKc := hK.sub (tys' := [(cw, .long), (ct, .long)]) [0, 1] rfl
  refine va_calld (va_runV (As := [.int 5]) (rest := []) ⟨hx, hb, hml, hown, hts⟩ (c_X2_valueAt l dC dI xr xw xt cw ct sa ta 5) (cwV 1 hts gX2_placeOfGreatest_X2_valueAt rfl rfl rfl (by decide +kernel) ⟨Nat.le_of_ble_eq_true rfl, Nat.le_of_ble_eq_true rfl⟩) ⟨ax_fbR, va_recv hK hP (ci := 6) (q0 := 0) rfl rfl, ax_prR hPc hKc hS hE⟩ rfl rfl hl.1 rfl (lv_room (Nat.le_of_ble_eq_true rfl)) dX2_placeOfGreatest_12 ⟨Nat.le_of_ble_eq_true rfl, Nat.le_of_ble_eq_true rfl⟩) hS (fun _ _ h9 => h9.elim) (fun _ h9 => h9.elim) (fun r_25 u_27  t H locs ht hvm hw_26 hB hz1 hk1 hS => ?_)
  have hP := ax_keep hP (fun _ h9 => h9) hk1
  refine ax_d (y := 0) hw_26 ?_
  refine lv_aload_n hx hb dX2_placeOfGreatest_15 rfl (lv_at hl 2 rfl) ?_
  refine lv_iload_n hx hb dX2_placeOfGreatest_16 rfl (lv_at hl 1 rfl) ?_
  have hPc := hP.sub (ws' := [(xr, .inr (6, [.ref xw, .ref xt])), (xw, .inl (cw, 8, .inr (.inl (fun _ => 0)))), (xt, .inl (ct, 8, .inr (.inl (fun _ => 0))))]) [0, 1, 2] rfl
  have hKc := hK.sub (tys' := [(cw, .long), (ct, .long)]) [0, 1] rfl
  refine va_calld (va_runV (As := [.int 0]) (rest := [.double 0]) ⟨hx, hb, hml, hown, hts⟩ (c_X2_valueAt l dC dI xr xw xt cw ct sa ta 0) (cwV 1 hts gX2_placeOfGreatest_X2_valueAt rfl rfl rfl (by decide +kernel) ⟨Nat.le_of_ble_eq_true rfl, Nat.le_of_ble_eq_true rfl⟩) ⟨ax_fbR, va_recv hK hP (ci := 6) (q0 := 0) rfl rfl, ax_prR hPc hKc hS hE⟩ rfl rfl hl.1 rfl (lv_room (Nat.le_of_ble_eq_true rfl)) dX2_placeOfGreatest_17 ⟨Nat.le_of_ble_eq_true rfl, Nat.le_of_ble_eq_true rfl⟩) hS (fun _ _ h9 => h9.elim) (fun _ h9 => h9.elim) (fun r_28 u_30  t H locs ht hvm hw_29 hB hz1 hk1 hS => ?_)
  have hP := ax_keep hP (fun _ h9 => h9) hk1
  refine ax_d (y := 0) hw_29 ?_
  refine lv_dcmp hx hb dX2_placeOfGreatest_20 ?_
  refine ax_i (y := 0) (by decide +kernel) ?_
  refine lv_if_le (tgt := 26) hx hb dX2_placeOfGreatest_21 (by decide) (fun _ => ?_) (fun h9 => absurd (by decide) h9)
  refine lv_iinc (v := 6) (lv' := [(2, .int 6), (1, .int 0), (0, .ref xr)]) hx hb dX2_placeOfGreatest_26 hl (k := 0) rfl (by decide) (by decide) rfl (fun ls hl => ?_)
  refine lv_goto (tgt := 4) hx hb dX2_placeOfGreatest_29 (by decide) ?_
  refine lv_iload_n hx hb dX2_placeOfGreatest_4 rfl (lv_at hl 0 rfl) ?_
  refine lv_bipush (v := 8) hx hb dX2_placeOfGreatest_5 (by decide) ?_
  refine lv_icmp_ge (tgt := 32) hx hb dX2_placeOfGreatest_7 (by decide) (fun h9 => absurd h9 (by decide)) (fun _ => ?_)
  refine lv_aload_n hx hb dX2_placeOfGreatest_10 rfl (lv_at hl 2 rfl) ?_
  refine lv_iload_n hx hb dX2_placeOfGreatest_11 rfl (lv_at hl 0 rfl) ?_
  have hPc := hP.sub (ws' := [(xr, .inr (6, [.ref xw, .ref xt])), (xw, .inl (cw, 8, .inr (.inl (fun _ => 0)))), (xt, .inl (ct, 8, .inr (.inl (fun _ => 0))))]) [0, 1, 2] rfl
  have hKc := hK.sub (tys' := [(cw, .long), (ct, .long)]) [0, 1] rfl
  refine va_calld (va_runV (As := [.int 6]) (rest := []) ⟨hx, hb, hml, hown, hts⟩ (c_X2_valueAt l dC dI xr xw xt cw ct sa ta 6) (cwV 1 hts gX2_placeOfGreatest_X2_valueAt rfl rfl rfl (by decide +kernel) ⟨Nat.le_of_ble_eq_true rfl, Nat.le_of_ble_eq_true rfl⟩) ⟨ax_fbR, va_recv hK hP (ci := 6) (q0 := 0) rfl rfl, ax_prR hPc hKc hS hE⟩ rfl rfl hl.1 rfl (lv_room (Nat.le_of_ble_eq_true rfl)) dX2_placeOfGreatest_12 ⟨Nat.le_of_ble_eq_true rfl, Nat.le_of_ble_eq_true rfl⟩) hS (fun _ _ h9 => h9.elim) (fun _ h9 => h9.elim) (fun r_31 u_33  t H locs ht hvm hw_32 hB hz1 hk1 hS => ?_)
  have hP := ax_keep hP (fun _ h9 => h9) hk1
  refine ax_d (y := 0) hw_32 ?_
  refine lv_aload_n hx hb dX2_placeOfGreatest_15 rfl (lv_at hl 2 rfl) ?_
  refine lv_iload_n hx hb dX2_placeOfGreatest_16 rfl (lv_at hl 1 rfl) ?_
  have hPc := hP.sub (ws' := [(xr, .inr (6, [.ref xw, .ref xt])), (xw, .inl (cw, 8, .inr (.inl (fun _ => 0)))), (xt, .inl (ct, 8, .inr (.inl (fun _ => 0))))]) [0, 1, 2] rfl
  have hKc := hK.sub (tys' := [(cw, .long), (ct, .long)]) [0, 1] rfl
  refine va_calld (va_runV (As := [.int 0]) (rest := [.double 0]) ⟨hx, hb, hml, hown, hts⟩ (c_X2_valueAt l dC dI xr xw xt cw ct sa ta 0) (cwV 1 hts gX2_placeOfGreatest_X2_valueAt rfl rfl rfl (by decide +kernel) ⟨Nat.le_of_ble_eq_true rfl, Nat.le_of_ble_eq_true rfl⟩) ⟨ax_fbR, va_recv hK hP (ci := 6) (q0 := 0) rfl rfl, ax_prR hPc hKc hS hE⟩ rfl rfl hl.1 rfl (lv_room (Nat.le_of_ble_eq_true rfl)) dX2_placeOfGreatest_17 ⟨Nat.le_of_ble_eq_true rfl, Nat.le_of_ble_eq_true rfl⟩) hS (fun _ _ h9 => h9.elim) (fun _ h9 => h9.elim) (fun r_34 u_36  t H locs ht hvm hw_35 hB hz1 hk1 hS => ?_)
  have hP := ax_keep hP (fun _ h9 => h9) hk1
  refine ax_d (y := 0) hw_35 ?_
  refine lv_dcmp hx hb dX2_placeOfGreatest_20 ?_
  refine ax_i (y := 0) (by decide +kernel) ?_
  refine lv_if_le (tgt := 26) hx hb dX2_placeOfGreatest_21 (by decide) (fun _ => ?_) (fun h9 => absurd (by decide) h9)
  refine lv_iinc (v := 7) (lv' := [(2, .int 7), (1, .int 0), (0, .ref xr)]) hx hb dX2_placeOfGreatest_26 hl (k := 0) rfl (by decide) (by decide) rfl (fun ls hl => ?_)
  refine lv_goto (tgt := 4) hx hb dX2_placeOfGreatest_29 (by decide) ?_
  refine lv_iload_n hx hb dX2_placeOfGreatest_4 rfl (lv_at hl 0 rfl) ?_
  refine lv_bipush (v := 8) hx hb dX2_placeOfGreatest_5 (by decide) ?_
  refine lv_icmp_ge (tgt := 32) hx hb dX2_placeOfGreatest_7 (by decide) (fun h9 => absurd h9 (by decide)) (fun _ => ?_)
  refine lv_aload_n hx hb dX2_placeOfGreatest_10 rfl (lv_at hl 2 rfl) ?_
  refine lv_iload_n hx hb dX2_placeOfGreatest_11 rfl (lv_at hl 0 rfl) ?_
  have hPc := hP.sub (ws' := [(xr, .inr (6, [.ref xw, .ref xt])), (xw, .inl (cw, 8, .inr (.inl (fun _ => 0)))), (xt, .inl (ct, 8, .inr (.inl (fun _ => 0))))]) [0, 1, 2] rfl
  have hKc := hK.sub (tys' := [(cw, .long), (ct, .long)]) [0, 1] rfl
  refine va_calld (va_runV (As := [.int 7]) (rest := []) ⟨hx, hb, hml, hown, hts⟩ (c_X2_valueAt l dC dI xr xw xt cw ct sa ta 7) (cwV 1 hts gX2_placeOfGreatest_X2_valueAt rfl rfl rfl (by decide +kernel) ⟨Nat.le_of_ble_eq_true rfl, Nat.le_of_ble_eq_true rfl⟩) ⟨ax_fbR, va_recv hK hP (ci := 6) (q0 := 0) rfl rfl, ax_prR hPc hKc hS hE⟩ rfl rfl hl.1 rfl (lv_room (Nat.le_of_ble_eq_true rfl)) dX2_placeOfGreatest_12 ⟨Nat.le_of_ble_eq_true rfl, Nat.le_of_ble_eq_true rfl⟩) hS (fun _ _ h9 => h9.elim) (fun _ h9 => h9.elim) (fun r_37 u_39  t H locs ht hvm hw_38 hB hz1 hk1 hS => ?_)
  have hP := ax_keep hP (fun _ h9 => h9) hk1
  refine ax_d (y := 0) hw_38 ?_
  refine lv_aload_n hx hb dX2_placeOfGreatest_15 rfl (lv_at hl 2 rfl) ?_
  refine lv_iload_n hx hb dX2_placeOfGreatest_16 rfl (lv_at hl 1 rfl) ?_
  have hPc := hP.sub (ws' := [(xr, .inr (6, [.ref xw, .ref xt])), (xw, .inl (cw, 8, .inr (.inl (fun _ => 0)))), (xt, .inl (ct, 8, .inr (.inl (fun _ => 0))))]) [0, 1, 2] rfl
  have hKc := hK.sub (tys' := [(cw, .long), (ct, .long)]) [0, 1] rfl
  refine va_calld (va_runV (As := [.int 0]) (rest := [.double 0]) ⟨hx, hb, hml, hown, hts⟩ (c_X2_valueAt l dC dI xr xw xt cw ct sa ta 0) (cwV 1 hts gX2_placeOfGreatest_X2_valueAt rfl rfl rfl (by decide +kernel) ⟨Nat.le_of_ble_eq_true rfl, Nat.le_of_ble_eq_true rfl⟩) ⟨ax_fbR, va_recv hK hP (ci := 6) (q0 := 0) rfl rfl, ax_prR hPc hKc hS hE⟩ rfl rfl hl.1 rfl (lv_room (Nat.le_of_ble_eq_true rfl)) dX2_placeOfGreatest_17 ⟨Nat.le_of_ble_eq_true rfl, Nat.le_of_ble_eq_true rfl⟩) hS (fun _ _ h9 => h9.elim) (fun _ h9 => h9.elim) (fun r_40 u_42  t H locs ht hvm hw_41 hB hz1 hk1 hS => ?_)
  have hP := ax_keep hP (fun _ h9 => h9) hk1
  refine ax_d (y := 0) hw_41 ?_
  refine lv_dcmp hx hb dX2_placeOfGreatest_20 ?_
  refine ax_i (y := 0) (by decide +kernel) ?_
  refine lv_if_le (tgt := 26) hx hb dX2_placeOfGreatest_21 (by decide) (fun _ => ?_) (fun h9 => absurd (by decide) h9)
  refine lv_iinc (v := 8) (lv' := [(2, .int 8), (1, .int 0), (0, .ref xr)]) hx hb dX2_placeOfGreatest_26 hl (k := 0) rfl (by decide) (by decide) rfl (fun ls hl => ?_)
  refine lv_goto (tgt := 4) hx hb dX2_placeOfGreatest_29 (by decide) ?_
  refine lv_iload_n hx hb dX2_placeOfGreatest_4 rfl (lv_at hl 0 rfl) ?_
  refine lv_bipush (v := 8) hx hb dX2_placeOfGreatest_5 (by decide) ?_
  refine lv_icmp_ge (tgt := 32) hx hb dX2_placeOfGreatest_7 (by decide) (fun _ => ?_) (fun h9 => absurd (by decide) h9)
  refine lv_iload_n hx hb dX2_placeOfGreatest_32 rfl (lv_at hl 1 rfl) ?_
  refine W.widen (k := 0) (n := 0) (Nat.le_of_ble_eq_true rfl) (Nat.le_of_ble_eq_true rfl) ?_
  exact W.iret (v := 0) hx hb hr (fun t ht hW => ⟨⟨0, (), rfl, rfl, trivial⟩, hS.F ht⟩) hS.2.2 dX2_placeOfGreatest_33

set_option maxHeartbeats 4000000 in
set_option maxRecDepth 100000 in
theorem c_X2_greatest (l : Launch) (dC : Nat → ClassId) (dI : Nat → Nat → Nat) (xr xw xt : Nat) (cw ct : ClassId) (sa ta : Nat → Nat) : Met l yX2_greatest wsX2_greatest ({ frames := 24, cells := 0, slots := 0, locals := 600 }) (va_Pc [.ref xr] (ax_R (dC, dI) vwCl [(xr, .inr (6, [.ref xw, .ref xt])), (xw, .inl (cw, 8, .inr (.inl (fun _ => 0)))), (xt, .inl (ct, 8, .inr (.inl (fun _ => 0))))] [(cw, .long), (ct, .long)] sa ta)) (va_Qd (fun (r : UInt64) (u : Unit) => r = 0) (fun _ _ => True) ax_no) 0 0 ax_no := by
  refine Met.ofW (cc := cX2_greatest) (maxL := 1) (ret := (some .double)) (by decide) rfl ?_
  intro p e s m args below meth c s₁ B hml hv
  obtain ⟨rfl, hP, hK, hE⟩ := hv
  have hx := B.exec
  have hb := B.bytes
  have hr := B.returns
  have hts := atoms_spec (ws := wsX2_greatest) B.pre
  have hown : s.vm.findClass RX2 = some m.cls := findClass_of_methodNamed B.named
  have hlocks := B.notSynchronized
  have hS : va_S ax_no s.heap s.heap [] := va_S.rf
  have hl := lv_entry ([.ref xr]) (n := 1) (Nat.le_of_ble_eq_true rfl)
  rw [lg_entry_eq]
  generalize (lg_sl ([.ref xr]) ++ List.replicate (1 - (lg_sl ([.ref xr])).length) Slot.unset).toArray = ls at hl ⊢
  have hl : lv_has ls 1 [(0, .ref xr)] := hl
  have hP : va_P (dC, dI) vwCl [(xr, .inr (6, [.ref xw, .ref xt])), (xw, .inl (cw, 8, .inr (.inl (fun _ => 0)))), (xt, .inl (ct, 8, .inr (.inl (fun _ => 0))))] s.heap := hP
  refine lv_aload_n hx hb dX2_greatest_0 rfl (lv_at hl 0 rfl) ?_
  refine lv_aload_n hx hb dX2_greatest_1 rfl (lv_at hl 0 rfl) ?_
  have hPc := hP.sub (ws' := [(xr, .inr (6, [.ref xw, .ref xt])), (xw, .inl (cw, 8, .inr (.inl (fun _ => 0)))), (xt, .inl (ct, 8, .inr (.inl (fun _ => 0))))]) [0, 1, 2] rfl
  have hKc := hK.sub (tys' := [(cw, .long), (ct, .long)]) [0, 1] rfl
  refine va_calli (va_runV (As := []) (rest := [.ref xr]) ⟨hx, hb, hml, hown, hts⟩ (c_X2_placeOfGreatest l dC dI xr xw xt cw ct sa ta) (cwV 0 hts gX2_greatest_X2_placeOfGreatest rfl rfl rfl (by decide +kernel) ⟨Nat.le_of_ble_eq_true rfl, Nat.le_of_ble_eq_true rfl⟩) ⟨ax_fbR, va_recv hK hP (ci := 6) (q0 := 0) rfl rfl, ax_prR hPc hKc hS hE⟩ rfl rfl hl.1 rfl (lv_room (Nat.le_of_ble_eq_true rfl)) dX2_greatest_2 ⟨Nat.le_of_ble_eq_true rfl, Nat.le_of_ble_eq_true rfl⟩) hS (fun _ _ h9 => h9.elim) (fun _ h9 => h9.elim) (fun r_1 u_3  t H locs ht hvm hw_2 hB hz1 hk1 hS => ?_)
  have hP := ax_keep hP (fun _ h9 => h9) hk1
  refine ax_i (y := 0) hw_2 ?_
  have hPc := hP.sub (ws' := [(xr, .inr (6, [.ref xw, .ref xt])), (xw, .inl (cw, 8, .inr (.inl (fun _ => 0)))), (xt, .inl (ct, 8, .inr (.inl (fun _ => 0))))]) [0, 1, 2] rfl
  have hKc := hK.sub (tys' := [(cw, .long), (ct, .long)]) [0, 1] rfl
  refine va_calld (va_runV (As := [.int 0]) (rest := []) ⟨hx, hb, hml, hown, hts⟩ (c_X2_valueAt l dC dI xr xw xt cw ct sa ta 0) (cwV 1 hts gX2_greatest_X2_valueAt rfl rfl rfl (by decide +kernel) ⟨Nat.le_of_ble_eq_true rfl, Nat.le_of_ble_eq_true rfl⟩) ⟨ax_fbR, va_recv hK hP (ci := 6) (q0 := 0) rfl rfl, ax_prR hPc hKc hS hE⟩ rfl rfl hl.1 rfl (lv_room (Nat.le_of_ble_eq_true rfl)) dX2_greatest_5 ⟨Nat.le_of_ble_eq_true rfl, Nat.le_of_ble_eq_true rfl⟩) hS (fun _ _ h9 => h9.elim) (fun _ h9 => h9.elim) (fun r_4 u_6  t H locs ht hvm hw_5 hB hz1 hk1 hS => ?_)
  have hP := ax_keep hP (fun _ h9 => h9) hk1
  refine ax_d (y := 0) hw_5 ?_
  refine W.widen (k := 0) (n := 0) (Nat.le_of_ble_eq_true rfl) (Nat.le_of_ble_eq_true rfl) ?_
  exact W.dret (v := 0) hx hb hr (fun t ht hW => ⟨⟨0, (), rfl, rfl, trivial⟩, hS.F ht⟩) hS.2.2 dX2_greatest_8

set_option maxHeartbeats 4000000 in
set_option maxRecDepth 100000 in
theorem c_X2_least (l : Launch) (dC : Nat → ClassId) (dI : Nat → Nat → Nat) (xr xw xt : Nat) (cw ct : ClassId) (sa ta : Nat → Nat) : Met l yX2_least wsX2_least ({ frames := 16, cells := 0, slots := 0, locals := 400 }) (va_Pc [.ref xr] (ax_R (dC, dI) vwCl [(xr, .inr (6, [.ref xw, .ref xt])), (xw, .inl (cw, 8, .inr (.inl (fun _ => 0)))), (xt, .inl (ct, 8, .inr (.inl (fun _ => 0))))] [(cw, .long), (ct, .long)] sa ta)) (va_Qd (fun (r : UInt64) (u : Unit) => r = 0) (fun _ _ => True) ax_no) 0 0 ax_no := by
  refine Met.ofW (cc := cX2_least) (maxL := 6) (ret := (some .double)) (by decide) rfl ?_
  intro p e s m args below meth c s₁ B hml hv
  obtain ⟨rfl, hP, hK, hE⟩ := hv
  have hx := B.exec
  have hb := B.bytes
  have hr := B.returns
  have hts := atoms_spec (ws := wsX2_least) B.pre
  have hown : s.vm.findClass RX2 = some m.cls := findClass_of_methodNamed B.named
  have hlocks := B.notSynchronized
  have hS : va_S ax_no s.heap s.heap [] := va_S.rf
  have hl := lv_entry ([.ref xr]) (n := 6) (Nat.le_of_ble_eq_true rfl)
  rw [lg_entry_eq]
  generalize (lg_sl ([.ref xr]) ++ List.replicate (6 - (lg_sl ([.ref xr])).length) Slot.unset).toArray = ls at hl ⊢
  have hl : lv_has ls 6 [(0, .ref xr)] := hl
  have hP : va_P (dC, dI) vwCl [(xr, .inr (6, [.ref xw, .ref xt])), (xw, .inl (cw, 8, .inr (.inl (fun _ => 0)))), (xt, .inl (ct, 8, .inr (.inl (fun _ => 0))))] s.heap := hP
  refine lv_aload_n hx hb dX2_least_0 rfl (lv_at hl 0 rfl) ?_
  refine lv_iconst (v := 0) hx hb dX2_least_1 (by decide) ?_
  have hPc := hP.sub (ws' := [(xr, .inr (6, [.ref xw, .ref xt])), (xw, .inl (cw, 8, .inr (.inl (fun _ => 0)))), (xt, .inl (ct, 8, .inr (.inl (fun _ => 0))))]) [0, 1, 2] rfl
  have hKc := hK.sub (tys' := [(cw, .long), (ct, .long)]) [0, 1] rfl
  refine va_calld (va_runV (As := [.int 0]) (rest := []) ⟨hx, hb, hml, hown, hts⟩ (c_X2_valueAt l dC dI xr xw xt cw ct sa ta 0) (cwV 1 hts gX2_least_X2_valueAt rfl rfl rfl (by decide +kernel) ⟨Nat.le_of_ble_eq_true rfl, Nat.le_of_ble_eq_true rfl⟩) ⟨ax_fbR, va_recv hK hP (ci := 6) (q0 := 0) rfl rfl, ax_prR hPc hKc hS hE⟩ rfl rfl hl.1 rfl (lv_room (Nat.le_of_ble_eq_true rfl)) dX2_least_2 ⟨Nat.le_of_ble_eq_true rfl, Nat.le_of_ble_eq_true rfl⟩) hS (fun _ _ h9 => h9.elim) (fun _ h9 => h9.elim) (fun r_1 u_3  t H locs ht hvm hw_2 hB hz1 hk1 hS => ?_)
  have hP := ax_keep hP (fun _ h9 => h9) hk1
  refine ax_d (y := 0) hw_2 ?_
  refine lv_dstore_n (lv' := [(1, .double 0), (0, .ref xr)]) hx hb dX2_least_5 rfl hl (by decide) rfl (fun ls hl => ?_)
  refine lv_iconst (v := 1) hx hb dX2_least_6 (by decide) ?_
  refine lv_istore_n (lv' := [(3, .int 1), (1, .double 0), (0, .ref xr)]) hx hb dX2_least_7 rfl hl (by decide) rfl (fun ls hl => ?_)
  refine lv_iload_n hx hb dX2_least_8 rfl (lv_at hl 0 rfl) ?_
  refine lv_bipush (v := 8) hx hb dX2_least_9 (by decide) ?_
  refine lv_icmp_ge (tgt := 41) hx hb dX2_least_11 (by decide) (fun h9 => absurd h9 (by decide)) (fun _ => ?_)
  refine lv_aload_n hx hb dX2_least_14 rfl (lv_at hl 2 rfl) ?_
  refine lv_iload_n hx hb dX2_least_15 rfl (lv_at hl 0 rfl) ?_
  have hPc := hP.sub (ws' := [(xr, .inr (6, [.ref xw, .ref xt])), (xw, .inl (cw, 8, .inr (.inl (fun _ => 0)))), (xt, .inl (ct, 8, .inr (.inl (fun _ => 0))))]) [0, 1, 2] rfl
  have hKc := hK.sub (tys' := [(cw, .long), (ct, .long)]) [0, 1] rfl
  refine va_calld (va_runV (As := [.int 1]) (rest := []) ⟨hx, hb, hml, hown, hts⟩ (c_X2_valueAt l dC dI xr xw xt cw ct sa ta 1) (cwV 1 hts gX2_least_X2_valueAt rfl rfl rfl (by decide +kernel) ⟨Nat.le_of_ble_eq_true rfl, Nat.le_of_ble_eq_true rfl⟩) ⟨ax_fbR, va_recv hK hP (ci := 6) (q0 := 0) rfl rfl, ax_prR hPc hKc hS hE⟩ rfl rfl hl.1 rfl (lv_room (Nat.le_of_ble_eq_true rfl)) dX2_least_16 ⟨Nat.le_of_ble_eq_true rfl, Nat.le_of_ble_eq_true rfl⟩) hS (fun _ _ h9 => h9.elim) (fun _ h9 => h9.elim) (fun r_4 u_6  t H locs ht hvm hw_5 hB hz1 hk1 hS => ?_)
  have hP := ax_keep hP (fun _ h9 => h9) hk1
  refine ax_d (y := 0) hw_5 ?_
  refine lv_dstore (lv' := [(4, .double 0), (3, .int 1), (1, .double 0), (0, .ref xr)]) hx hb dX2_least_19 hl (by decide) rfl (fun ls hl => ?_)
  refine lv_dload hx hb dX2_least_21 (lv_at hl 0 rfl) ?_
  refine lv_dload_n hx hb dX2_least_23 rfl (lv_at hl 2 rfl) ?_
  refine lv_dcmp hx hb dX2_least_24 ?_
  refine ax_i (y := 0) (by decide +kernel) ?_
  refine lv_if_ge (tgt := 33) hx hb dX2_least_25 (by decide) (fun _ => ?_) (fun h9 => absurd (by decide) h9)
  refine lv_dload_n hx hb dX2_least_33 rfl (lv_at hl 2 rfl) ?_
  refine lv_dstore_n (lv' := [(1, .double 0), (4, .double 0), (3, .int 1), (0, .ref xr)]) hx hb dX2_least_34 rfl hl (by decide) rfl (fun ls hl => ?_)
  refine lv_iinc (v := 2) (lv' := [(3, .int 2), (1, .double 0), (4, .double 0), (0, .ref xr)]) hx hb dX2_least_35 hl (k := 2) rfl (by decide) (by decide) rfl (fun ls hl => ?_)
  refine lv_goto (tgt := 8) hx hb dX2_least_38 (by decide) ?_
  refine lv_iload_n hx hb dX2_least_8 rfl (lv_at hl 0 rfl) ?_
  refine lv_bipush (v := 8) hx hb dX2_least_9 (by decide) ?_
  refine lv_icmp_ge (tgt := 41) hx hb dX2_least_11 (by decide) (fun h9 => absurd h9 (by decide)) (fun _ => ?_)
  refine lv_aload_n hx hb dX2_least_14 rfl (lv_at hl 3 rfl) ?_
  refine lv_iload_n hx hb dX2_least_15 rfl (lv_at hl 0 rfl) ?_
  have hPc := hP.sub (ws' := [(xr, .inr (6, [.ref xw, .ref xt])), (xw, .inl (cw, 8, .inr (.inl (fun _ => 0)))), (xt, .inl (ct, 8, .inr (.inl (fun _ => 0))))]) [0, 1, 2] rfl
  have hKc := hK.sub (tys' := [(cw, .long), (ct, .long)]) [0, 1] rfl
  refine va_calld (va_runV (As := [.int 2]) (rest := []) ⟨hx, hb, hml, hown, hts⟩ (c_X2_valueAt l dC dI xr xw xt cw ct sa ta 2) (cwV 1 hts gX2_least_X2_valueAt rfl rfl rfl (by decide +kernel) ⟨Nat.le_of_ble_eq_true rfl, Nat.le_of_ble_eq_true rfl⟩) ⟨ax_fbR, va_recv hK hP (ci := 6) (q0 := 0) rfl rfl, ax_prR hPc hKc hS hE⟩ rfl rfl hl.1 rfl (lv_room (Nat.le_of_ble_eq_true rfl)) dX2_least_16 ⟨Nat.le_of_ble_eq_true rfl, Nat.le_of_ble_eq_true rfl⟩) hS (fun _ _ h9 => h9.elim) (fun _ h9 => h9.elim) (fun r_7 u_9  t H locs ht hvm hw_8 hB hz1 hk1 hS => ?_)
  have hP := ax_keep hP (fun _ h9 => h9) hk1
  refine ax_d (y := 0) hw_8 ?_
  refine lv_dstore (lv' := [(4, .double 0), (3, .int 2), (1, .double 0), (0, .ref xr)]) hx hb dX2_least_19 hl (by decide) rfl (fun ls hl => ?_)
  refine lv_dload hx hb dX2_least_21 (lv_at hl 0 rfl) ?_
  refine lv_dload_n hx hb dX2_least_23 rfl (lv_at hl 2 rfl) ?_
  refine lv_dcmp hx hb dX2_least_24 ?_
  refine ax_i (y := 0) (by decide +kernel) ?_
  refine lv_if_ge (tgt := 33) hx hb dX2_least_25 (by decide) (fun _ => ?_) (fun h9 => absurd (by decide) h9)
  refine lv_dload_n hx hb dX2_least_33 rfl (lv_at hl 2 rfl) ?_
  refine lv_dstore_n (lv' := [(1, .double 0), (4, .double 0), (3, .int 2), (0, .ref xr)]) hx hb dX2_least_34 rfl hl (by decide) rfl (fun ls hl => ?_)
  refine lv_iinc (v := 3) (lv' := [(3, .int 3), (1, .double 0), (4, .double 0), (0, .ref xr)]) hx hb dX2_least_35 hl (k := 2) rfl (by decide) (by decide) rfl (fun ls hl => ?_)
  refine lv_goto (tgt := 8) hx hb dX2_least_38 (by decide) ?_
  refine lv_iload_n hx hb dX2_least_8 rfl (lv_at hl 0 rfl) ?_
  refine lv_bipush (v := 8) hx hb dX2_least_9 (by decide) ?_
  refine lv_icmp_ge (tgt := 41) hx hb dX2_least_11 (by decide) (fun h9 => absurd h9 (by decide)) (fun _ => ?_)
  refine lv_aload_n hx hb dX2_least_14 rfl (lv_at hl 3 rfl) ?_
  refine lv_iload_n hx hb dX2_least_15 rfl (lv_at hl 0 rfl) ?_
  have hPc := hP.sub (ws' := [(xr, .inr (6, [.ref xw, .ref xt])), (xw, .inl (cw, 8, .inr (.inl (fun _ => 0)))), (xt, .inl (ct, 8, .inr (.inl (fun _ => 0))))]) [0, 1, 2] rfl
  have hKc := hK.sub (tys' := [(cw, .long), (ct, .long)]) [0, 1] rfl
  refine va_calld (va_runV (As := [.int 3]) (rest := []) ⟨hx, hb, hml, hown, hts⟩ (c_X2_valueAt l dC dI xr xw xt cw ct sa ta 3) (cwV 1 hts gX2_least_X2_valueAt rfl rfl rfl (by decide +kernel) ⟨Nat.le_of_ble_eq_true rfl, Nat.le_of_ble_eq_true rfl⟩) ⟨ax_fbR, va_recv hK hP (ci := 6) (q0 := 0) rfl rfl, ax_prR hPc hKc hS hE⟩ rfl rfl hl.1 rfl (lv_room (Nat.le_of_ble_eq_true rfl)) dX2_least_16 ⟨Nat.le_of_ble_eq_true rfl, Nat.le_of_ble_eq_true rfl⟩) hS (fun _ _ h9 => h9.elim) (fun _ h9 => h9.elim) (fun r_10 u_12  t H locs ht hvm hw_11 hB hz1 hk1 hS => ?_)
  have hP := ax_keep hP (fun _ h9 => h9) hk1
  refine ax_d (y := 0) hw_11 ?_
  refine lv_dstore (lv' := [(4, .double 0), (3, .int 3), (1, .double 0), (0, .ref xr)]) hx hb dX2_least_19 hl (by decide) rfl (fun ls hl => ?_)
  refine lv_dload hx hb dX2_least_21 (lv_at hl 0 rfl) ?_
  refine lv_dload_n hx hb dX2_least_23 rfl (lv_at hl 2 rfl) ?_
  refine lv_dcmp hx hb dX2_least_24 ?_
  refine ax_i (y := 0) (by decide +kernel) ?_
  refine lv_if_ge (tgt := 33) hx hb dX2_least_25 (by decide) (fun _ => ?_) (fun h9 => absurd (by decide) h9)
  refine lv_dload_n hx hb dX2_least_33 rfl (lv_at hl 2 rfl) ?_
  refine lv_dstore_n (lv' := [(1, .double 0), (4, .double 0), (3, .int 3), (0, .ref xr)]) hx hb dX2_least_34 rfl hl (by decide) rfl (fun ls hl => ?_)
  refine lv_iinc (v := 4) (lv' := [(3, .int 4), (1, .double 0), (4, .double 0), (0, .ref xr)]) hx hb dX2_least_35 hl (k := 2) rfl (by decide) (by decide) rfl (fun ls hl => ?_)
  refine lv_goto (tgt := 8) hx hb dX2_least_38 (by decide) ?_
  refine lv_iload_n hx hb dX2_least_8 rfl (lv_at hl 0 rfl) ?_
  refine lv_bipush (v := 8) hx hb dX2_least_9 (by decide) ?_
  refine lv_icmp_ge (tgt := 41) hx hb dX2_least_11 (by decide) (fun h9 => absurd h9 (by decide)) (fun _ => ?_)
  refine lv_aload_n hx hb dX2_least_14 rfl (lv_at hl 3 rfl) ?_
  refine lv_iload_n hx hb dX2_least_15 rfl (lv_at hl 0 rfl) ?_
  have hPc := hP.sub (ws' := [(xr, .inr (6, [.ref xw, .ref xt])), (xw, .inl (cw, 8, .inr (.inl (fun _ => 0)))), (xt, .inl (ct, 8, .inr (.inl (fun _ => 0))))]) [0, 1, 2] rfl
  have hKc := hK.sub (tys' := [(cw, .long), (ct, .long)]) [0, 1] rfl
  refine va_calld (va_runV (As := [.int 4]) (rest := []) ⟨hx, hb, hml, hown, hts⟩ (c_X2_valueAt l dC dI xr xw xt cw ct sa ta 4) (cwV 1 hts gX2_least_X2_valueAt rfl rfl rfl (by decide +kernel) ⟨Nat.le_of_ble_eq_true rfl, Nat.le_of_ble_eq_true rfl⟩) ⟨ax_fbR, va_recv hK hP (ci := 6) (q0 := 0) rfl rfl, ax_prR hPc hKc hS hE⟩ rfl rfl hl.1 rfl (lv_room (Nat.le_of_ble_eq_true rfl)) dX2_least_16 ⟨Nat.le_of_ble_eq_true rfl, Nat.le_of_ble_eq_true rfl⟩) hS (fun _ _ h9 => h9.elim) (fun _ h9 => h9.elim) (fun r_13 u_15  t H locs ht hvm hw_14 hB hz1 hk1 hS => ?_)
  have hP := ax_keep hP (fun _ h9 => h9) hk1
  refine ax_d (y := 0) hw_14 ?_
  refine lv_dstore (lv' := [(4, .double 0), (3, .int 4), (1, .double 0), (0, .ref xr)]) hx hb dX2_least_19 hl (by decide) rfl (fun ls hl => ?_)
  refine lv_dload hx hb dX2_least_21 (lv_at hl 0 rfl) ?_
  refine lv_dload_n hx hb dX2_least_23 rfl (lv_at hl 2 rfl) ?_
  refine lv_dcmp hx hb dX2_least_24 ?_
  refine ax_i (y := 0) (by decide +kernel) ?_
  refine lv_if_ge (tgt := 33) hx hb dX2_least_25 (by decide) (fun _ => ?_) (fun h9 => absurd (by decide) h9)
  refine lv_dload_n hx hb dX2_least_33 rfl (lv_at hl 2 rfl) ?_
  refine lv_dstore_n (lv' := [(1, .double 0), (4, .double 0), (3, .int 4), (0, .ref xr)]) hx hb dX2_least_34 rfl hl (by decide) rfl (fun ls hl => ?_)
  refine lv_iinc (v := 5) (lv' := [(3, .int 5), (1, .double 0), (4, .double 0), (0, .ref xr)]) hx hb dX2_least_35 hl (k := 2) rfl (by decide) (by decide) rfl (fun ls hl => ?_)
  refine lv_goto (tgt := 8) hx hb dX2_least_38 (by decide) ?_
  refine lv_iload_n hx hb dX2_least_8 rfl (lv_at hl 0 rfl) ?_
  refine lv_bipush (v := 8) hx hb dX2_least_9 (by decide) ?_
  refine lv_icmp_ge (tgt := 41) hx hb dX2_least_11 (by decide) (fun h9 => absurd h9 (by decide)) (fun _ => ?_)
  refine lv_aload_n hx hb dX2_least_14 rfl (lv_at hl 3 rfl) ?_
  refine lv_iload_n hx hb dX2_least_15 rfl (lv_at hl 0 rfl) ?_
  have hPc := hP.sub (ws' := [(xr, .inr (6, [.ref xw, .ref xt])), (xw, .inl (cw, 8, .inr (.inl (fun _ => 0)))), (xt, .inl (ct, 8, .inr (.inl (fun _ => 0))))]) [0, 1, 2] rfl
  have hKc := hK.sub (tys' := [(cw, .long), (ct, .long)]) [0, 1] rfl
  refine va_calld (va_runV (As := [.int 5]) (rest := []) ⟨hx, hb, hml, hown, hts⟩ (c_X2_valueAt l dC dI xr xw xt cw ct sa ta 5) (cwV 1 hts gX2_least_X2_valueAt rfl rfl rfl (by decide +kernel) ⟨Nat.le_of_ble_eq_true rfl, Nat.le_of_ble_eq_true rfl⟩) ⟨ax_fbR, va_recv hK hP (ci := 6) (q0 := 0) rfl rfl, ax_prR hPc hKc hS hE⟩ rfl rfl hl.1 rfl (lv_room (Nat.le_of_ble_eq_true rfl)) dX2_least_16 ⟨Nat.le_of_ble_eq_true rfl, Nat.le_of_ble_eq_true rfl⟩) hS (fun _ _ h9 => h9.elim) (fun _ h9 => h9.elim) (fun r_16 u_18  t H locs ht hvm hw_17 hB hz1 hk1 hS => ?_)
  have hP := ax_keep hP (fun _ h9 => h9) hk1
  refine ax_d (y := 0) hw_17 ?_
  refine lv_dstore (lv' := [(4, .double 0), (3, .int 5), (1, .double 0), (0, .ref xr)]) hx hb dX2_least_19 hl (by decide) rfl (fun ls hl => ?_)
  refine lv_dload hx hb dX2_least_21 (lv_at hl 0 rfl) ?_
  refine lv_dload_n hx hb dX2_least_23 rfl (lv_at hl 2 rfl) ?_
  refine lv_dcmp hx hb dX2_least_24 ?_
  refine ax_i (y := 0) (by decide +kernel) ?_
  refine lv_if_ge (tgt := 33) hx hb dX2_least_25 (by decide) (fun _ => ?_) (fun h9 => absurd (by decide) h9)
  refine lv_dload_n hx hb dX2_least_33 rfl (lv_at hl 2 rfl) ?_
  refine lv_dstore_n (lv' := [(1, .double 0), (4, .double 0), (3, .int 5), (0, .ref xr)]) hx hb dX2_least_34 rfl hl (by decide) rfl (fun ls hl => ?_)
  refine lv_iinc (v := 6) (lv' := [(3, .int 6), (1, .double 0), (4, .double 0), (0, .ref xr)]) hx hb dX2_least_35 hl (k := 2) rfl (by decide) (by decide) rfl (fun ls hl => ?_)
  refine lv_goto (tgt := 8) hx hb dX2_least_38 (by decide) ?_
  refine lv_iload_n hx hb dX2_least_8 rfl (lv_at hl 0 rfl) ?_
  refine lv_bipush (v := 8) hx hb dX2_least_9 (by decide) ?_
  refine lv_icmp_ge (tgt := 41) hx hb dX2_least_11 (by decide) (fun h9 => absurd h9 (by decide)) (fun _ => ?_)
  refine lv_aload_n hx hb dX2_least_14 rfl (lv_at hl 3 rfl) ?_
  refine lv_iload_n hx hb dX2_least_15 rfl (lv_at hl 0 rfl) ?_
  have hPc := hP.sub (ws' := [(xr, .inr (6, [.ref xw, .ref xt])), (xw, .inl (cw, 8, .inr (.inl (fun _ => 0)))), (xt, .inl (ct, 8, .inr (.inl (fun _ => 0))))]) [0, 1, 2] rfl
  have hKc := hK.sub (tys' := [(cw, .long), (ct, .long)]) [0, 1] rfl
  refine va_calld (va_runV (As := [.int 6]) (rest := []) ⟨hx, hb, hml, hown, hts⟩ (c_X2_valueAt l dC dI xr xw xt cw ct sa ta 6) (cwV 1 hts gX2_least_X2_valueAt rfl rfl rfl (by decide +kernel) ⟨Nat.le_of_ble_eq_true rfl, Nat.le_of_ble_eq_true rfl⟩) ⟨ax_fbR, va_recv hK hP (ci := 6) (q0 := 0) rfl rfl, ax_prR hPc hKc hS hE⟩ rfl rfl hl.1 rfl (lv_room (Nat.le_of_ble_eq_true rfl)) dX2_least_16 ⟨Nat.le_of_ble_eq_true rfl, Nat.le_of_ble_eq_true rfl⟩) hS (fun _ _ h9 => h9.elim) (fun _ h9 => h9.elim) (fun r_19 u_21  t H locs ht hvm hw_20 hB hz1 hk1 hS => ?_)
  have hP := ax_keep hP (fun _ h9 => h9) hk1
  refine ax_d (y := 0) hw_20 ?_
  refine lv_dstore (lv' := [(4, .double 0), (3, .int 6), (1, .double 0), (0, .ref xr)]) hx hb dX2_least_19 hl (by decide) rfl (fun ls hl => ?_)
  refine lv_dload hx hb dX2_least_21 (lv_at hl 0 rfl) ?_
  refine lv_dload_n hx hb dX2_least_23 rfl (lv_at hl 2 rfl) ?_
  refine lv_dcmp hx hb dX2_least_24 ?_
  refine ax_i (y := 0) (by decide +kernel) ?_
  refine lv_if_ge (tgt := 33) hx hb dX2_least_25 (by decide) (fun _ => ?_) (fun h9 => absurd (by decide) h9)
  refine lv_dload_n hx hb dX2_least_33 rfl (lv_at hl 2 rfl) ?_
  refine lv_dstore_n (lv' := [(1, .double 0), (4, .double 0), (3, .int 6), (0, .ref xr)]) hx hb dX2_least_34 rfl hl (by decide) rfl (fun ls hl => ?_)
  refine lv_iinc (v := 7) (lv' := [(3, .int 7), (1, .double 0), (4, .double 0), (0, .ref xr)]) hx hb dX2_least_35 hl (k := 2) rfl (by decide) (by decide) rfl (fun ls hl => ?_)
  refine lv_goto (tgt := 8) hx hb dX2_least_38 (by decide) ?_
  refine lv_iload_n hx hb dX2_least_8 rfl (lv_at hl 0 rfl) ?_
  refine lv_bipush (v := 8) hx hb dX2_least_9 (by decide) ?_
  refine lv_icmp_ge (tgt := 41) hx hb dX2_least_11 (by decide) (fun h9 => absurd h9 (by decide)) (fun _ => ?_)
  refine lv_aload_n hx hb dX2_least_14 rfl (lv_at hl 3 rfl) ?_
  refine lv_iload_n hx hb dX2_least_15 rfl (lv_at hl 0 rfl) ?_
  have hPc := hP.sub (ws' := [(xr, .inr (6, [.ref xw, .ref xt])), (xw, .inl (cw, 8, .inr (.inl (fun _ => 0)))), (xt, .inl (ct, 8, .inr (.inl (fun _ => 0))))]) [0, 1, 2] rfl
  have hKc := hK.sub (tys' := [(cw, .long), (ct, .long)]) [0, 1] rfl
  refine va_calld (va_runV (As := [.int 7]) (rest := []) ⟨hx, hb, hml, hown, hts⟩ (c_X2_valueAt l dC dI xr xw xt cw ct sa ta 7) (cwV 1 hts gX2_least_X2_valueAt rfl rfl rfl (by decide +kernel) ⟨Nat.le_of_ble_eq_true rfl, Nat.le_of_ble_eq_true rfl⟩) ⟨ax_fbR, va_recv hK hP (ci := 6) (q0 := 0) rfl rfl, ax_prR hPc hKc hS hE⟩ rfl rfl hl.1 rfl (lv_room (Nat.le_of_ble_eq_true rfl)) dX2_least_16 ⟨Nat.le_of_ble_eq_true rfl, Nat.le_of_ble_eq_true rfl⟩) hS (fun _ _ h9 => h9.elim) (fun _ h9 => h9.elim) (fun r_22 u_24  t H locs ht hvm hw_23 hB hz1 hk1 hS => ?_)
  have hP := ax_keep hP (fun _ h9 => h9) hk1
  refine ax_d (y := 0) hw_23 ?_
  refine lv_dstore (lv' := [(4, .double 0), (3, .int 7), (1, .double 0), (0, .ref xr)]) hx hb dX2_least_19 hl (by decide) rfl (fun ls hl => ?_)
  refine lv_dload hx hb dX2_least_21 (lv_at hl 0 rfl) ?_
  refine lv_dload_n hx hb dX2_least_23 rfl (lv_at hl 2 rfl) ?_
  refine lv_dcmp hx hb dX2_least_24 ?_
  refine ax_i (y := 0) (by decide +kernel) ?_
  refine lv_if_ge (tgt := 33) hx hb dX2_least_25 (by decide) (fun _ => ?_) (fun h9 => absurd (by decide) h9)
  refine lv_dload_n hx hb dX2_least_33 rfl (lv_at hl 2 rfl) ?_
  refine lv_dstore_n (lv' := [(1, .double 0), (4, .double 0), (3, .int 7), (0, .ref xr)]) hx hb dX2_least_34 rfl hl (by decide) rfl (fun ls hl => ?_)
  refine lv_iinc (v := 8) (lv' := [(3, .int 8), (1, .double 0), (4, .double 0), (0, .ref xr)]) hx hb dX2_least_35 hl (k := 2) rfl (by decide) (by decide) rfl (fun ls hl => ?_)
  refine lv_goto (tgt := 8) hx hb dX2_least_38 (by decide) ?_
  refine lv_iload_n hx hb dX2_least_8 rfl (lv_at hl 0 rfl) ?_
  refine lv_bipush (v := 8) hx hb dX2_least_9 (by decide) ?_
  refine lv_icmp_ge (tgt := 41) hx hb dX2_least_11 (by decide) (fun _ => ?_) (fun h9 => absurd (by decide) h9)
  refine lv_dload_n hx hb dX2_least_41 rfl (lv_at hl 1 rfl) ?_
  refine W.widen (k := 0) (n := 0) (Nat.le_of_ble_eq_true rfl) (Nat.le_of_ble_eq_true rfl) ?_
  exact W.dret (v := 0) hx hb hr (fun t ht hW => ⟨⟨0, (), rfl, rfl, trivial⟩, hS.F ht⟩) hS.2.2 dX2_least_42

set_option maxHeartbeats 4000000 in
set_option maxRecDepth 100000 in
theorem c_X2_darkPlaces (l : Launch) (dC : Nat → ClassId) (dI : Nat → Nat → Nat) (xr xw xt : Nat) (cw ct : ClassId) (sa ta : Nat → Nat) : Met l yX2_darkPlaces wsX2_darkPlaces ({ frames := 8, cells := 0, slots := 0, locals := 200 }) (va_Pc [.ref xr] (ax_R (dC, dI) vwCl [(xr, .inr (6, [.ref xw, .ref xt])), (xw, .inl (cw, 8, .inr (.inl (fun _ => 0)))), (xt, .inl (ct, 8, .inr (.inl (fun _ => 0))))] [(cw, .long), (ct, .long)] sa ta)) (va_Qi (fun (r : Int32) (u : Unit) => r = 255) (fun _ _ => True) ax_no) 0 0 ax_no := by
  refine Met.ofW (cc := cX2_darkPlaces) (maxL := 3) (ret := (some .int)) (by decide) rfl ?_
  intro p e s m args below meth c s₁ B hml hv
  obtain ⟨rfl, hP, hK, hE⟩ := hv
  have hx := B.exec
  have hb := B.bytes
  have hr := B.returns
  have hts := atoms_spec (ws := wsX2_darkPlaces) B.pre
  have hown : s.vm.findClass RX2 = some m.cls := findClass_of_methodNamed B.named
  have hlocks := B.notSynchronized
  have hS : va_S ax_no s.heap s.heap [] := va_S.rf
  have hl := lv_entry ([.ref xr]) (n := 3) (Nat.le_of_ble_eq_true rfl)
  rw [lg_entry_eq]
  generalize (lg_sl ([.ref xr]) ++ List.replicate (3 - (lg_sl ([.ref xr])).length) Slot.unset).toArray = ls at hl ⊢
  have hl : lv_has ls 3 [(0, .ref xr)] := hl
  have hP : va_P (dC, dI) vwCl [(xr, .inr (6, [.ref xw, .ref xt])), (xw, .inl (cw, 8, .inr (.inl (fun _ => 0)))), (xt, .inl (ct, 8, .inr (.inl (fun _ => 0))))] s.heap := hP
  refine lv_iconst (v := 0) hx hb dX2_darkPlaces_0 (by decide) ?_
  refine lv_istore_n (lv' := [(1, .int 0), (0, .ref xr)]) hx hb dX2_darkPlaces_1 rfl hl (by decide) rfl (fun ls hl => ?_)
  refine lv_iconst (v := 0) hx hb dX2_darkPlaces_2 (by decide) ?_
  refine lv_istore_n (lv' := [(2, .int 0), (1, .int 0), (0, .ref xr)]) hx hb dX2_darkPlaces_3 rfl hl (by decide) rfl (fun ls hl => ?_)
  refine lv_iload_n hx hb dX2_darkPlaces_4 rfl (lv_at hl 0 rfl) ?_
  refine lv_bipush (v := 8) hx hb dX2_darkPlaces_5 (by decide) ?_
  refine lv_icmp_ge (tgt := 44) hx hb dX2_darkPlaces_7 (by decide) (fun h9 => absurd h9 (by decide)) (fun _ => ?_)
  refine lv_aload_n hx hb dX2_darkPlaces_10 rfl (lv_at hl 2 rfl) ?_
  refine va_get (D := (dC, dI)) (ci := 6) (v := .ref xw) (C := RX2) (T := TX2) (N := 2) hx hb hts (by decide +kernel) hown hK hP 0 rfl rfl 0 (by decide) (hts (.fieldLink RX2 9 "Diffractory$Row" "wholes" "[J") (by decide +kernel)) (fun _ h9 => h9) rfl dX2_darkPlaces_11 ?_
  refine lv_iload_n hx hb dX2_darkPlaces_14 rfl (lv_at hl 0 rfl) ?_
  refine va_lald hx hb hK hP 1 0 rfl rfl (by unfold vp_in; decide) dX2_darkPlaces_15 ?_
  refine ax_l (y := 0) rfl ?_
  refine lv_lconst (v := 0) hx hb dX2_darkPlaces_16 (by decide) ?_
  refine W.lcmp hx hb dX2_darkPlaces_17 ?_
  refine ax_i (y := 0) (by decide) ?_
  refine lv_if_ne (tgt := 38) hx hb dX2_darkPlaces_18 (by decide) (fun h9 => absurd rfl h9) (fun _ => ?_)
  refine lv_aload_n hx hb dX2_darkPlaces_21 rfl (lv_at hl 2 rfl) ?_
  refine va_get (D := (dC, dI)) (ci := 6) (v := .ref xt) (C := RX2) (T := TX2) (N := 2) hx hb hts (by decide +kernel) hown hK hP 0 rfl rfl 1 (by decide) (hts (.fieldLink RX2 15 "Diffractory$Row" "roots" "[J") (by decide +kernel)) (fun _ h9 => h9) rfl dX2_darkPlaces_22 ?_
  refine lv_iload_n hx hb dX2_darkPlaces_25 rfl (lv_at hl 0 rfl) ?_
  refine va_lald hx hb hK hP 2 1 rfl rfl (by unfold vp_in; decide) dX2_darkPlaces_26 ?_
  refine ax_l (y := 0) rfl ?_
  refine lv_lconst (v := 0) hx hb dX2_darkPlaces_27 (by decide) ?_
  refine W.lcmp hx hb dX2_darkPlaces_28 ?_
  refine ax_i (y := 0) (by decide) ?_
  refine lv_if_ne (tgt := 38) hx hb dX2_darkPlaces_29 (by decide) (fun h9 => absurd rfl h9) (fun _ => ?_)
  refine lv_iload_n hx hb dX2_darkPlaces_32 rfl (lv_at hl 1 rfl) ?_
  refine lv_iconst (v := 1) hx hb dX2_darkPlaces_33 (by decide) ?_
  refine lv_iload_n hx hb dX2_darkPlaces_34 rfl (lv_at hl 0 rfl) ?_
  refine lv_ishl hx hb dX2_darkPlaces_35 ?_
  refine ax_i (y := 1) (by decide) ?_
  refine lv_ior hx hb dX2_darkPlaces_36 ?_
  refine ax_i (y := 1) (by decide) ?_
  refine lv_istore_n (lv' := [(1, .int 1), (2, .int 0), (0, .ref xr)]) hx hb dX2_darkPlaces_37 rfl hl (by decide) rfl (fun ls hl => ?_)
  refine lv_iinc (v := 1) (lv' := [(2, .int 1), (1, .int 1), (0, .ref xr)]) hx hb dX2_darkPlaces_38 hl (k := 1) rfl (by decide) (by decide) rfl (fun ls hl => ?_)
  refine lv_goto (tgt := 4) hx hb dX2_darkPlaces_41 (by decide) ?_
  refine lv_iload_n hx hb dX2_darkPlaces_4 rfl (lv_at hl 0 rfl) ?_
  refine lv_bipush (v := 8) hx hb dX2_darkPlaces_5 (by decide) ?_
  refine lv_icmp_ge (tgt := 44) hx hb dX2_darkPlaces_7 (by decide) (fun h9 => absurd h9 (by decide)) (fun _ => ?_)
  refine lv_aload_n hx hb dX2_darkPlaces_10 rfl (lv_at hl 2 rfl) ?_
  refine va_get (D := (dC, dI)) (ci := 6) (v := .ref xw) (C := RX2) (T := TX2) (N := 2) hx hb hts (by decide +kernel) hown hK hP 0 rfl rfl 0 (by decide) (hts (.fieldLink RX2 9 "Diffractory$Row" "wholes" "[J") (by decide +kernel)) (fun _ h9 => h9) rfl dX2_darkPlaces_11 ?_
  refine lv_iload_n hx hb dX2_darkPlaces_14 rfl (lv_at hl 0 rfl) ?_
  refine va_lald hx hb hK hP 1 0 rfl rfl (by unfold vp_in; decide) dX2_darkPlaces_15 ?_
  refine ax_l (y := 0) rfl ?_
  refine lv_lconst (v := 0) hx hb dX2_darkPlaces_16 (by decide) ?_
  refine W.lcmp hx hb dX2_darkPlaces_17 ?_
  refine ax_i (y := 0) (by decide) ?_
  refine lv_if_ne (tgt := 38) hx hb dX2_darkPlaces_18 (by decide) (fun h9 => absurd rfl h9) (fun _ => ?_)
  refine lv_aload_n hx hb dX2_darkPlaces_21 rfl (lv_at hl 2 rfl) ?_
  refine va_get (D := (dC, dI)) (ci := 6) (v := .ref xt) (C := RX2) (T := TX2) (N := 2) hx hb hts (by decide +kernel) hown hK hP 0 rfl rfl 1 (by decide) (hts (.fieldLink RX2 15 "Diffractory$Row" "roots" "[J") (by decide +kernel)) (fun _ h9 => h9) rfl dX2_darkPlaces_22 ?_
  refine lv_iload_n hx hb dX2_darkPlaces_25 rfl (lv_at hl 0 rfl) ?_
  refine va_lald hx hb hK hP 2 1 rfl rfl (by unfold vp_in; decide) dX2_darkPlaces_26 ?_
  refine ax_l (y := 0) rfl ?_
  refine lv_lconst (v := 0) hx hb dX2_darkPlaces_27 (by decide) ?_
  refine W.lcmp hx hb dX2_darkPlaces_28 ?_
  refine ax_i (y := 0) (by decide) ?_
  refine lv_if_ne (tgt := 38) hx hb dX2_darkPlaces_29 (by decide) (fun h9 => absurd rfl h9) (fun _ => ?_)
  refine lv_iload_n hx hb dX2_darkPlaces_32 rfl (lv_at hl 1 rfl) ?_
  refine lv_iconst (v := 1) hx hb dX2_darkPlaces_33 (by decide) ?_
  refine lv_iload_n hx hb dX2_darkPlaces_34 rfl (lv_at hl 0 rfl) ?_
  refine lv_ishl hx hb dX2_darkPlaces_35 ?_
  refine ax_i (y := 2) (by decide) ?_
  refine lv_ior hx hb dX2_darkPlaces_36 ?_
  refine ax_i (y := 3) (by decide) ?_
  refine lv_istore_n (lv' := [(1, .int 3), (2, .int 1), (0, .ref xr)]) hx hb dX2_darkPlaces_37 rfl hl (by decide) rfl (fun ls hl => ?_)
  refine lv_iinc (v := 2) (lv' := [(2, .int 2), (1, .int 3), (0, .ref xr)]) hx hb dX2_darkPlaces_38 hl (k := 1) rfl (by decide) (by decide) rfl (fun ls hl => ?_)
  refine lv_goto (tgt := 4) hx hb dX2_darkPlaces_41 (by decide) ?_
  refine lv_iload_n hx hb dX2_darkPlaces_4 rfl (lv_at hl 0 rfl) ?_
  refine lv_bipush (v := 8) hx hb dX2_darkPlaces_5 (by decide) ?_
  refine lv_icmp_ge (tgt := 44) hx hb dX2_darkPlaces_7 (by decide) (fun h9 => absurd h9 (by decide)) (fun _ => ?_)
  refine lv_aload_n hx hb dX2_darkPlaces_10 rfl (lv_at hl 2 rfl) ?_
  refine va_get (D := (dC, dI)) (ci := 6) (v := .ref xw) (C := RX2) (T := TX2) (N := 2) hx hb hts (by decide +kernel) hown hK hP 0 rfl rfl 0 (by decide) (hts (.fieldLink RX2 9 "Diffractory$Row" "wholes" "[J") (by decide +kernel)) (fun _ h9 => h9) rfl dX2_darkPlaces_11 ?_
  refine lv_iload_n hx hb dX2_darkPlaces_14 rfl (lv_at hl 0 rfl) ?_
  refine va_lald hx hb hK hP 1 0 rfl rfl (by unfold vp_in; decide) dX2_darkPlaces_15 ?_
  refine ax_l (y := 0) rfl ?_
  refine lv_lconst (v := 0) hx hb dX2_darkPlaces_16 (by decide) ?_
  refine W.lcmp hx hb dX2_darkPlaces_17 ?_
  refine ax_i (y := 0) (by decide) ?_
  refine lv_if_ne (tgt := 38) hx hb dX2_darkPlaces_18 (by decide) (fun h9 => absurd rfl h9) (fun _ => ?_)
  refine lv_aload_n hx hb dX2_darkPlaces_21 rfl (lv_at hl 2 rfl) ?_
  refine va_get (D := (dC, dI)) (ci := 6) (v := .ref xt) (C := RX2) (T := TX2) (N := 2) hx hb hts (by decide +kernel) hown hK hP 0 rfl rfl 1 (by decide) (hts (.fieldLink RX2 15 "Diffractory$Row" "roots" "[J") (by decide +kernel)) (fun _ h9 => h9) rfl dX2_darkPlaces_22 ?_
  refine lv_iload_n hx hb dX2_darkPlaces_25 rfl (lv_at hl 0 rfl) ?_
  refine va_lald hx hb hK hP 2 1 rfl rfl (by unfold vp_in; decide) dX2_darkPlaces_26 ?_
  refine ax_l (y := 0) rfl ?_
  refine lv_lconst (v := 0) hx hb dX2_darkPlaces_27 (by decide) ?_
  refine W.lcmp hx hb dX2_darkPlaces_28 ?_
  refine ax_i (y := 0) (by decide) ?_
  refine lv_if_ne (tgt := 38) hx hb dX2_darkPlaces_29 (by decide) (fun h9 => absurd rfl h9) (fun _ => ?_)
  refine lv_iload_n hx hb dX2_darkPlaces_32 rfl (lv_at hl 1 rfl) ?_
  refine lv_iconst (v := 1) hx hb dX2_darkPlaces_33 (by decide) ?_
  refine lv_iload_n hx hb dX2_darkPlaces_34 rfl (lv_at hl 0 rfl) ?_
  refine lv_ishl hx hb dX2_darkPlaces_35 ?_
  refine ax_i (y := 4) (by decide) ?_
  refine lv_ior hx hb dX2_darkPlaces_36 ?_
  refine ax_i (y := 7) (by decide) ?_
  refine lv_istore_n (lv' := [(1, .int 7), (2, .int 2), (0, .ref xr)]) hx hb dX2_darkPlaces_37 rfl hl (by decide) rfl (fun ls hl => ?_)
  refine lv_iinc (v := 3) (lv' := [(2, .int 3), (1, .int 7), (0, .ref xr)]) hx hb dX2_darkPlaces_38 hl (k := 1) rfl (by decide) (by decide) rfl (fun ls hl => ?_)
  refine lv_goto (tgt := 4) hx hb dX2_darkPlaces_41 (by decide) ?_
  refine lv_iload_n hx hb dX2_darkPlaces_4 rfl (lv_at hl 0 rfl) ?_
  refine lv_bipush (v := 8) hx hb dX2_darkPlaces_5 (by decide) ?_
  refine lv_icmp_ge (tgt := 44) hx hb dX2_darkPlaces_7 (by decide) (fun h9 => absurd h9 (by decide)) (fun _ => ?_)
  refine lv_aload_n hx hb dX2_darkPlaces_10 rfl (lv_at hl 2 rfl) ?_
  refine va_get (D := (dC, dI)) (ci := 6) (v := .ref xw) (C := RX2) (T := TX2) (N := 2) hx hb hts (by decide +kernel) hown hK hP 0 rfl rfl 0 (by decide) (hts (.fieldLink RX2 9 "Diffractory$Row" "wholes" "[J") (by decide +kernel)) (fun _ h9 => h9) rfl dX2_darkPlaces_11 ?_
  refine lv_iload_n hx hb dX2_darkPlaces_14 rfl (lv_at hl 0 rfl) ?_
  refine va_lald hx hb hK hP 1 0 rfl rfl (by unfold vp_in; decide) dX2_darkPlaces_15 ?_
  refine ax_l (y := 0) rfl ?_
  refine lv_lconst (v := 0) hx hb dX2_darkPlaces_16 (by decide) ?_
  refine W.lcmp hx hb dX2_darkPlaces_17 ?_
  refine ax_i (y := 0) (by decide) ?_
  refine lv_if_ne (tgt := 38) hx hb dX2_darkPlaces_18 (by decide) (fun h9 => absurd rfl h9) (fun _ => ?_)
  refine lv_aload_n hx hb dX2_darkPlaces_21 rfl (lv_at hl 2 rfl) ?_
  refine va_get (D := (dC, dI)) (ci := 6) (v := .ref xt) (C := RX2) (T := TX2) (N := 2) hx hb hts (by decide +kernel) hown hK hP 0 rfl rfl 1 (by decide) (hts (.fieldLink RX2 15 "Diffractory$Row" "roots" "[J") (by decide +kernel)) (fun _ h9 => h9) rfl dX2_darkPlaces_22 ?_
  refine lv_iload_n hx hb dX2_darkPlaces_25 rfl (lv_at hl 0 rfl) ?_
  refine va_lald hx hb hK hP 2 1 rfl rfl (by unfold vp_in; decide) dX2_darkPlaces_26 ?_
  refine ax_l (y := 0) rfl ?_
  refine lv_lconst (v := 0) hx hb dX2_darkPlaces_27 (by decide) ?_
  refine W.lcmp hx hb dX2_darkPlaces_28 ?_
  refine ax_i (y := 0) (by decide) ?_
  refine lv_if_ne (tgt := 38) hx hb dX2_darkPlaces_29 (by decide) (fun h9 => absurd rfl h9) (fun _ => ?_)
  refine lv_iload_n hx hb dX2_darkPlaces_32 rfl (lv_at hl 1 rfl) ?_
  refine lv_iconst (v := 1) hx hb dX2_darkPlaces_33 (by decide) ?_
  refine lv_iload_n hx hb dX2_darkPlaces_34 rfl (lv_at hl 0 rfl) ?_
  refine lv_ishl hx hb dX2_darkPlaces_35 ?_
  refine ax_i (y := 8) (by decide) ?_
  refine lv_ior hx hb dX2_darkPlaces_36 ?_
  refine ax_i (y := 15) (by decide) ?_
  refine lv_istore_n (lv' := [(1, .int 15), (2, .int 3), (0, .ref xr)]) hx hb dX2_darkPlaces_37 rfl hl (by decide) rfl (fun ls hl => ?_)
  refine lv_iinc (v := 4) (lv' := [(2, .int 4), (1, .int 15), (0, .ref xr)]) hx hb dX2_darkPlaces_38 hl (k := 1) rfl (by decide) (by decide) rfl (fun ls hl => ?_)
  refine lv_goto (tgt := 4) hx hb dX2_darkPlaces_41 (by decide) ?_
  refine lv_iload_n hx hb dX2_darkPlaces_4 rfl (lv_at hl 0 rfl) ?_
  refine lv_bipush (v := 8) hx hb dX2_darkPlaces_5 (by decide) ?_
  refine lv_icmp_ge (tgt := 44) hx hb dX2_darkPlaces_7 (by decide) (fun h9 => absurd h9 (by decide)) (fun _ => ?_)
  refine lv_aload_n hx hb dX2_darkPlaces_10 rfl (lv_at hl 2 rfl) ?_
  refine va_get (D := (dC, dI)) (ci := 6) (v := .ref xw) (C := RX2) (T := TX2) (N := 2) hx hb hts (by decide +kernel) hown hK hP 0 rfl rfl 0 (by decide) (hts (.fieldLink RX2 9 "Diffractory$Row" "wholes" "[J") (by decide +kernel)) (fun _ h9 => h9) rfl dX2_darkPlaces_11 ?_
  refine lv_iload_n hx hb dX2_darkPlaces_14 rfl (lv_at hl 0 rfl) ?_
  refine va_lald hx hb hK hP 1 0 rfl rfl (by unfold vp_in; decide) dX2_darkPlaces_15 ?_
  refine ax_l (y := 0) rfl ?_
  refine lv_lconst (v := 0) hx hb dX2_darkPlaces_16 (by decide) ?_
  refine W.lcmp hx hb dX2_darkPlaces_17 ?_
  refine ax_i (y := 0) (by decide) ?_
  refine lv_if_ne (tgt := 38) hx hb dX2_darkPlaces_18 (by decide) (fun h9 => absurd rfl h9) (fun _ => ?_)
  refine lv_aload_n hx hb dX2_darkPlaces_21 rfl (lv_at hl 2 rfl) ?_
  refine va_get (D := (dC, dI)) (ci := 6) (v := .ref xt) (C := RX2) (T := TX2) (N := 2) hx hb hts (by decide +kernel) hown hK hP 0 rfl rfl 1 (by decide) (hts (.fieldLink RX2 15 "Diffractory$Row" "roots" "[J") (by decide +kernel)) (fun _ h9 => h9) rfl dX2_darkPlaces_22 ?_
  refine lv_iload_n hx hb dX2_darkPlaces_25 rfl (lv_at hl 0 rfl) ?_
  refine va_lald hx hb hK hP 2 1 rfl rfl (by unfold vp_in; decide) dX2_darkPlaces_26 ?_
  refine ax_l (y := 0) rfl ?_
  refine lv_lconst (v := 0) hx hb dX2_darkPlaces_27 (by decide) ?_
  refine W.lcmp hx hb dX2_darkPlaces_28 ?_
  refine ax_i (y := 0) (by decide) ?_
  refine lv_if_ne (tgt := 38) hx hb dX2_darkPlaces_29 (by decide) (fun h9 => absurd rfl h9) (fun _ => ?_)
  refine lv_iload_n hx hb dX2_darkPlaces_32 rfl (lv_at hl 1 rfl) ?_
  refine lv_iconst (v := 1) hx hb dX2_darkPlaces_33 (by decide) ?_
  refine lv_iload_n hx hb dX2_darkPlaces_34 rfl (lv_at hl 0 rfl) ?_
  refine lv_ishl hx hb dX2_darkPlaces_35 ?_
  refine ax_i (y := 16) (by decide) ?_
  refine lv_ior hx hb dX2_darkPlaces_36 ?_
  refine ax_i (y := 31) (by decide) ?_
  refine lv_istore_n (lv' := [(1, .int 31), (2, .int 4), (0, .ref xr)]) hx hb dX2_darkPlaces_37 rfl hl (by decide) rfl (fun ls hl => ?_)
  refine lv_iinc (v := 5) (lv' := [(2, .int 5), (1, .int 31), (0, .ref xr)]) hx hb dX2_darkPlaces_38 hl (k := 1) rfl (by decide) (by decide) rfl (fun ls hl => ?_)
  refine lv_goto (tgt := 4) hx hb dX2_darkPlaces_41 (by decide) ?_
  refine lv_iload_n hx hb dX2_darkPlaces_4 rfl (lv_at hl 0 rfl) ?_
  refine lv_bipush (v := 8) hx hb dX2_darkPlaces_5 (by decide) ?_
  refine lv_icmp_ge (tgt := 44) hx hb dX2_darkPlaces_7 (by decide) (fun h9 => absurd h9 (by decide)) (fun _ => ?_)
  refine lv_aload_n hx hb dX2_darkPlaces_10 rfl (lv_at hl 2 rfl) ?_
  refine va_get (D := (dC, dI)) (ci := 6) (v := .ref xw) (C := RX2) (T := TX2) (N := 2) hx hb hts (by decide +kernel) hown hK hP 0 rfl rfl 0 (by decide) (hts (.fieldLink RX2 9 "Diffractory$Row" "wholes" "[J") (by decide +kernel)) (fun _ h9 => h9) rfl dX2_darkPlaces_11 ?_
  refine lv_iload_n hx hb dX2_darkPlaces_14 rfl (lv_at hl 0 rfl) ?_
  refine va_lald hx hb hK hP 1 0 rfl rfl (by unfold vp_in; decide) dX2_darkPlaces_15 ?_
  refine ax_l (y := 0) rfl ?_
  refine lv_lconst (v := 0) hx hb dX2_darkPlaces_16 (by decide) ?_
  refine W.lcmp hx hb dX2_darkPlaces_17 ?_
  refine ax_i (y := 0) (by decide) ?_
  refine lv_if_ne (tgt := 38) hx hb dX2_darkPlaces_18 (by decide) (fun h9 => absurd rfl h9) (fun _ => ?_)
  refine lv_aload_n hx hb dX2_darkPlaces_21 rfl (lv_at hl 2 rfl) ?_
  refine va_get (D := (dC, dI)) (ci := 6) (v := .ref xt) (C := RX2) (T := TX2) (N := 2) hx hb hts (by decide +kernel) hown hK hP 0 rfl rfl 1 (by decide) (hts (.fieldLink RX2 15 "Diffractory$Row" "roots" "[J") (by decide +kernel)) (fun _ h9 => h9) rfl dX2_darkPlaces_22 ?_
  refine lv_iload_n hx hb dX2_darkPlaces_25 rfl (lv_at hl 0 rfl) ?_
  refine va_lald hx hb hK hP 2 1 rfl rfl (by unfold vp_in; decide) dX2_darkPlaces_26 ?_
  refine ax_l (y := 0) rfl ?_
  refine lv_lconst (v := 0) hx hb dX2_darkPlaces_27 (by decide) ?_
  refine W.lcmp hx hb dX2_darkPlaces_28 ?_
  refine ax_i (y := 0) (by decide) ?_
  refine lv_if_ne (tgt := 38) hx hb dX2_darkPlaces_29 (by decide) (fun h9 => absurd rfl h9) (fun _ => ?_)
  refine lv_iload_n hx hb dX2_darkPlaces_32 rfl (lv_at hl 1 rfl) ?_
  refine lv_iconst (v := 1) hx hb dX2_darkPlaces_33 (by decide) ?_
  refine lv_iload_n hx hb dX2_darkPlaces_34 rfl (lv_at hl 0 rfl) ?_
  refine lv_ishl hx hb dX2_darkPlaces_35 ?_
  refine ax_i (y := 32) (by decide) ?_
  refine lv_ior hx hb dX2_darkPlaces_36 ?_
  refine ax_i (y := 63) (by decide) ?_
  refine lv_istore_n (lv' := [(1, .int 63), (2, .int 5), (0, .ref xr)]) hx hb dX2_darkPlaces_37 rfl hl (by decide) rfl (fun ls hl => ?_)
  refine lv_iinc (v := 6) (lv' := [(2, .int 6), (1, .int 63), (0, .ref xr)]) hx hb dX2_darkPlaces_38 hl (k := 1) rfl (by decide) (by decide) rfl (fun ls hl => ?_)
  refine lv_goto (tgt := 4) hx hb dX2_darkPlaces_41 (by decide) ?_
  refine lv_iload_n hx hb dX2_darkPlaces_4 rfl (lv_at hl 0 rfl) ?_
  refine lv_bipush (v := 8) hx hb dX2_darkPlaces_5 (by decide) ?_
  refine lv_icmp_ge (tgt := 44) hx hb dX2_darkPlaces_7 (by decide) (fun h9 => absurd h9 (by decide)) (fun _ => ?_)
  refine lv_aload_n hx hb dX2_darkPlaces_10 rfl (lv_at hl 2 rfl) ?_
  refine va_get (D := (dC, dI)) (ci := 6) (v := .ref xw) (C := RX2) (T := TX2) (N := 2) hx hb hts (by decide +kernel) hown hK hP 0 rfl rfl 0 (by decide) (hts (.fieldLink RX2 9 "Diffractory$Row" "wholes" "[J") (by decide +kernel)) (fun _ h9 => h9) rfl dX2_darkPlaces_11 ?_
  refine lv_iload_n hx hb dX2_darkPlaces_14 rfl (lv_at hl 0 rfl) ?_
  refine va_lald hx hb hK hP 1 0 rfl rfl (by unfold vp_in; decide) dX2_darkPlaces_15 ?_
  refine ax_l (y := 0) rfl ?_
  refine lv_lconst (v := 0) hx hb dX2_darkPlaces_16 (by decide) ?_
  refine W.lcmp hx hb dX2_darkPlaces_17 ?_
  refine ax_i (y := 0) (by decide) ?_
  refine lv_if_ne (tgt := 38) hx hb dX2_darkPlaces_18 (by decide) (fun h9 => absurd rfl h9) (fun _ => ?_)
  refine lv_aload_n hx hb dX2_darkPlaces_21 rfl (lv_at hl 2 rfl) ?_
  refine va_get (D := (dC, dI)) (ci := 6) (v := .ref xt) (C := RX2) (T := TX2) (N := 2) hx hb hts (by decide +kernel) hown hK hP 0 rfl rfl 1 (by decide) (hts (.fieldLink RX2 15 "Diffractory$Row" "roots" "[J") (by decide +kernel)) (fun _ h9 => h9) rfl dX2_darkPlaces_22 ?_
  refine lv_iload_n hx hb dX2_darkPlaces_25 rfl (lv_at hl 0 rfl) ?_
  refine va_lald hx hb hK hP 2 1 rfl rfl (by unfold vp_in; decide) dX2_darkPlaces_26 ?_
  refine ax_l (y := 0) rfl ?_
  refine lv_lconst (v := 0) hx hb dX2_darkPlaces_27 (by decide) ?_
  refine W.lcmp hx hb dX2_darkPlaces_28 ?_
  refine ax_i (y := 0) (by decide) ?_
  refine lv_if_ne (tgt := 38) hx hb dX2_darkPlaces_29 (by decide) (fun h9 => absurd rfl h9) (fun _ => ?_)
  refine lv_iload_n hx hb dX2_darkPlaces_32 rfl (lv_at hl 1 rfl) ?_
  refine lv_iconst (v := 1) hx hb dX2_darkPlaces_33 (by decide) ?_
  refine lv_iload_n hx hb dX2_darkPlaces_34 rfl (lv_at hl 0 rfl) ?_
  refine lv_ishl hx hb dX2_darkPlaces_35 ?_
  refine ax_i (y := 64) (by decide) ?_
  refine lv_ior hx hb dX2_darkPlaces_36 ?_
  refine ax_i (y := 127) (by decide) ?_
  refine lv_istore_n (lv' := [(1, .int 127), (2, .int 6), (0, .ref xr)]) hx hb dX2_darkPlaces_37 rfl hl (by decide) rfl (fun ls hl => ?_)
  refine lv_iinc (v := 7) (lv' := [(2, .int 7), (1, .int 127), (0, .ref xr)]) hx hb dX2_darkPlaces_38 hl (k := 1) rfl (by decide) (by decide) rfl (fun ls hl => ?_)
  refine lv_goto (tgt := 4) hx hb dX2_darkPlaces_41 (by decide) ?_
  refine lv_iload_n hx hb dX2_darkPlaces_4 rfl (lv_at hl 0 rfl) ?_
  refine lv_bipush (v := 8) hx hb dX2_darkPlaces_5 (by decide) ?_
  refine lv_icmp_ge (tgt := 44) hx hb dX2_darkPlaces_7 (by decide) (fun h9 => absurd h9 (by decide)) (fun _ => ?_)
  refine lv_aload_n hx hb dX2_darkPlaces_10 rfl (lv_at hl 2 rfl) ?_
  refine va_get (D := (dC, dI)) (ci := 6) (v := .ref xw) (C := RX2) (T := TX2) (N := 2) hx hb hts (by decide +kernel) hown hK hP 0 rfl rfl 0 (by decide) (hts (.fieldLink RX2 9 "Diffractory$Row" "wholes" "[J") (by decide +kernel)) (fun _ h9 => h9) rfl dX2_darkPlaces_11 ?_
  refine lv_iload_n hx hb dX2_darkPlaces_14 rfl (lv_at hl 0 rfl) ?_
  refine va_lald hx hb hK hP 1 0 rfl rfl (by unfold vp_in; decide) dX2_darkPlaces_15 ?_
  refine ax_l (y := 0) rfl ?_
  refine lv_lconst (v := 0) hx hb dX2_darkPlaces_16 (by decide) ?_
  refine W.lcmp hx hb dX2_darkPlaces_17 ?_
  refine ax_i (y := 0) (by decide) ?_
  refine lv_if_ne (tgt := 38) hx hb dX2_darkPlaces_18 (by decide) (fun h9 => absurd rfl h9) (fun _ => ?_)
  refine lv_aload_n hx hb dX2_darkPlaces_21 rfl (lv_at hl 2 rfl) ?_
  refine va_get (D := (dC, dI)) (ci := 6) (v := .ref xt) (C := RX2) (T := TX2) (N := 2) hx hb hts (by decide +kernel) hown hK hP 0 rfl rfl 1 (by decide) (hts (.fieldLink RX2 15 "Diffractory$Row" "roots" "[J") (by decide +kernel)) (fun _ h9 => h9) rfl dX2_darkPlaces_22 ?_
  refine lv_iload_n hx hb dX2_darkPlaces_25 rfl (lv_at hl 0 rfl) ?_
  refine va_lald hx hb hK hP 2 1 rfl rfl (by unfold vp_in; decide) dX2_darkPlaces_26 ?_
  refine ax_l (y := 0) rfl ?_
  refine lv_lconst (v := 0) hx hb dX2_darkPlaces_27 (by decide) ?_
  refine W.lcmp hx hb dX2_darkPlaces_28 ?_
  refine ax_i (y := 0) (by decide) ?_
  refine lv_if_ne (tgt := 38) hx hb dX2_darkPlaces_29 (by decide) (fun h9 => absurd rfl h9) (fun _ => ?_)
  refine lv_iload_n hx hb dX2_darkPlaces_32 rfl (lv_at hl 1 rfl) ?_
  refine lv_iconst (v := 1) hx hb dX2_darkPlaces_33 (by decide) ?_
  refine lv_iload_n hx hb dX2_darkPlaces_34 rfl (lv_at hl 0 rfl) ?_
  refine lv_ishl hx hb dX2_darkPlaces_35 ?_
  refine ax_i (y := 128) (by decide) ?_
  refine lv_ior hx hb dX2_darkPlaces_36 ?_
  refine ax_i (y := 255) (by decide) ?_
  refine lv_istore_n (lv' := [(1, .int 255), (2, .int 7), (0, .ref xr)]) hx hb dX2_darkPlaces_37 rfl hl (by decide) rfl (fun ls hl => ?_)
  refine lv_iinc (v := 8) (lv' := [(2, .int 8), (1, .int 255), (0, .ref xr)]) hx hb dX2_darkPlaces_38 hl (k := 1) rfl (by decide) (by decide) rfl (fun ls hl => ?_)
  refine lv_goto (tgt := 4) hx hb dX2_darkPlaces_41 (by decide) ?_
  refine lv_iload_n hx hb dX2_darkPlaces_4 rfl (lv_at hl 0 rfl) ?_
  refine lv_bipush (v := 8) hx hb dX2_darkPlaces_5 (by decide) ?_
  refine lv_icmp_ge (tgt := 44) hx hb dX2_darkPlaces_7 (by decide) (fun _ => ?_) (fun h9 => absurd (by decide) h9)
  refine lv_iload_n hx hb dX2_darkPlaces_44 rfl (lv_at hl 1 rfl) ?_
  refine W.widen (k := 0) (n := 0) (Nat.le_of_ble_eq_true rfl) (Nat.le_of_ble_eq_true rfl) ?_
  exact W.iret (v := 255) hx hb hr (fun t ht hW => ⟨⟨255, (), rfl, rfl, trivial⟩, hS.F ht⟩) hS.2.2 dX2_darkPlaces_45

set_option maxHeartbeats 4000000 in
set_option maxRecDepth 100000 in
theorem c_X2_isAsItWas (l : Launch) (dC : Nat → ClassId) (dI : Nat → Nat → Nat) (xr xw xt : Nat) (cw ct : ClassId) (sa ta : Nat → Nat) : Met l yX2_isAsItWas wsX2_isAsItWas ({ frames := 8, cells := 0, slots := 0, locals := 200 }) (va_Pc [.ref xr, .int 1] (ax_R (dC, dI) vwCl [(xr, .inr (6, [.ref xw, .ref xt])), (xw, .inl (cw, 8, .inr (.inl (fun _ => 0)))), (xt, .inl (ct, 8, .inr (.inl (fun _ => 0))))] [(cw, .long), (ct, .long)] sa ta)) (va_Qi (fun (r : Int32) (u : Unit) => r = 1) (fun _ _ => True) ax_no) 0 0 ax_no := by
  refine Met.ofW (cc := cX2_isAsItWas) (maxL := 4) (ret := (some .boolean)) (by decide) rfl ?_
  intro p e s m args below meth c s₁ B hml hv
  obtain ⟨rfl, hP, hK, hE⟩ := hv
  have hx := B.exec
  have hb := B.bytes
  have hr := B.returns
  have hts := atoms_spec (ws := wsX2_isAsItWas) B.pre
  have hown : s.vm.findClass RX2 = some m.cls := findClass_of_methodNamed B.named
  have hlocks := B.notSynchronized
  have hS : va_S ax_no s.heap s.heap [] := va_S.rf
  have hl := lv_entry ([.ref xr, .int 1]) (n := 4) (Nat.le_of_ble_eq_true rfl)
  rw [lg_entry_eq]
  generalize (lg_sl ([.ref xr, .int 1]) ++ List.replicate (4 - (lg_sl ([.ref xr, .int 1])).length) Slot.unset).toArray = ls at hl ⊢
  have hl : lv_has ls 4 [(0, .ref xr), (1, .int 1)] := hl
  have hP : va_P (dC, dI) vwCl [(xr, .inr (6, [.ref xw, .ref xt])), (xw, .inl (cw, 8, .inr (.inl (fun _ => 0)))), (xt, .inl (ct, 8, .inr (.inl (fun _ => 0))))] s.heap := hP
  refine lv_iconst (v := 0) hx hb dX2_isAsItWas_0 (by decide) ?_
  refine lv_istore_n (lv' := [(2, .int 0), (0, .ref xr), (1, .int 1)]) hx hb dX2_isAsItWas_1 rfl hl (by decide) rfl (fun ls hl => ?_)
  refine lv_iload_n hx hb dX2_isAsItWas_2 rfl (lv_at hl 0 rfl) ?_
  refine lv_bipush (v := 8) hx hb dX2_isAsItWas_3 (by decide) ?_
  refine lv_icmp_ge (tgt := 55) hx hb dX2_isAsItWas_5 (by decide) (fun h9 => absurd h9 (by decide)) (fun _ => ?_)
  refine lv_iload_n hx hb dX2_isAsItWas_8 rfl (lv_at hl 0 rfl) ?_
  refine lv_iload_n hx hb dX2_isAsItWas_9 rfl (lv_at hl 2 rfl) ?_
  refine lv_iadd hx hb dX2_isAsItWas_10 ?_
  refine ax_i (y := 1) (by decide) ?_
  refine lv_bipush (v := 7) hx hb dX2_isAsItWas_11 (by decide) ?_
  refine lv_iand hx hb dX2_isAsItWas_13 ?_
  refine ax_i (y := 1) (by decide) ?_
  refine lv_istore_n (lv' := [(3, .int 1), (2, .int 0), (0, .ref xr), (1, .int 1)]) hx hb dX2_isAsItWas_14 rfl hl (by decide) rfl (fun ls hl => ?_)
  refine lv_aload_n hx hb dX2_isAsItWas_15 rfl (lv_at hl 2 rfl) ?_
  refine va_get (D := (dC, dI)) (ci := 6) (v := .ref xw) (C := RX2) (T := TX2) (N := 2) hx hb hts (by decide +kernel) hown hK hP 0 rfl rfl 0 (by decide) (hts (.fieldLink RX2 9 "Diffractory$Row" "wholes" "[J") (by decide +kernel)) (fun _ h9 => h9) rfl dX2_isAsItWas_16 ?_
  refine lv_iload_n hx hb dX2_isAsItWas_19 rfl (lv_at hl 1 rfl) ?_
  refine va_lald hx hb hK hP 1 0 rfl rfl (by unfold vp_in; decide) dX2_isAsItWas_20 ?_
  refine ax_l (y := 0) rfl ?_
  refine lv_aload_n hx hb dX2_isAsItWas_21 rfl (lv_at hl 2 rfl) ?_
  refine va_get (D := (dC, dI)) (ci := 6) (v := .ref xw) (C := RX2) (T := TX2) (N := 2) hx hb hts (by decide +kernel) hown hK hP 0 rfl rfl 0 (by decide) (hts (.fieldLink RX2 9 "Diffractory$Row" "wholes" "[J") (by decide +kernel)) (fun _ h9 => h9) rfl dX2_isAsItWas_22 ?_
  refine lv_iload_n hx hb dX2_isAsItWas_25 rfl (lv_at hl 0 rfl) ?_
  refine va_lald hx hb hK hP 1 0 rfl rfl (by unfold vp_in; decide) dX2_isAsItWas_26 ?_
  refine ax_l (y := 0) rfl ?_
  refine W.lcmp hx hb dX2_isAsItWas_27 ?_
  refine ax_i (y := 0) (by decide) ?_
  refine lv_if_ne (tgt := 47) hx hb dX2_isAsItWas_28 (by decide) (fun h9 => absurd rfl h9) (fun _ => ?_)
  refine lv_aload_n hx hb dX2_isAsItWas_31 rfl (lv_at hl 2 rfl) ?_
  refine va_get (D := (dC, dI)) (ci := 6) (v := .ref xt) (C := RX2) (T := TX2) (N := 2) hx hb hts (by decide +kernel) hown hK hP 0 rfl rfl 1 (by decide) (hts (.fieldLink RX2 15 "Diffractory$Row" "roots" "[J") (by decide +kernel)) (fun _ h9 => h9) rfl dX2_isAsItWas_32 ?_
  refine lv_iload_n hx hb dX2_isAsItWas_35 rfl (lv_at hl 1 rfl) ?_
  refine va_lald hx hb hK hP 2 1 rfl rfl (by unfold vp_in; decide) dX2_isAsItWas_36 ?_
  refine ax_l (y := 0) rfl ?_
  refine lv_aload_n hx hb dX2_isAsItWas_37 rfl (lv_at hl 2 rfl) ?_
  refine va_get (D := (dC, dI)) (ci := 6) (v := .ref xt) (C := RX2) (T := TX2) (N := 2) hx hb hts (by decide +kernel) hown hK hP 0 rfl rfl 1 (by decide) (hts (.fieldLink RX2 15 "Diffractory$Row" "roots" "[J") (by decide +kernel)) (fun _ h9 => h9) rfl dX2_isAsItWas_38 ?_
  refine lv_iload_n hx hb dX2_isAsItWas_41 rfl (lv_at hl 0 rfl) ?_
  refine va_lald hx hb hK hP 2 1 rfl rfl (by unfold vp_in; decide) dX2_isAsItWas_42 ?_
  refine ax_l (y := 0) rfl ?_
  refine W.lcmp hx hb dX2_isAsItWas_43 ?_
  refine ax_i (y := 0) (by decide) ?_
  refine lv_if_eq (tgt := 49) hx hb dX2_isAsItWas_44 (by decide) (fun _ => ?_) (fun h9 => absurd (by decide) h9)
  refine lv_iinc (v := 1) (lv' := [(2, .int 1), (3, .int 1), (0, .ref xr), (1, .int 1)]) hx hb dX2_isAsItWas_49 hl (k := 1) rfl (by decide) (by decide) rfl (fun ls hl => ?_)
  refine lv_goto (tgt := 2) hx hb dX2_isAsItWas_52 (by decide) ?_
  refine lv_iload_n hx hb dX2_isAsItWas_2 rfl (lv_at hl 0 rfl) ?_
  refine lv_bipush (v := 8) hx hb dX2_isAsItWas_3 (by decide) ?_
  refine lv_icmp_ge (tgt := 55) hx hb dX2_isAsItWas_5 (by decide) (fun h9 => absurd h9 (by decide)) (fun _ => ?_)
  refine lv_iload_n hx hb dX2_isAsItWas_8 rfl (lv_at hl 0 rfl) ?_
  refine lv_iload_n hx hb dX2_isAsItWas_9 rfl (lv_at hl 3 rfl) ?_
  refine lv_iadd hx hb dX2_isAsItWas_10 ?_
  refine ax_i (y := 2) (by decide) ?_
  refine lv_bipush (v := 7) hx hb dX2_isAsItWas_11 (by decide) ?_
  refine lv_iand hx hb dX2_isAsItWas_13 ?_
  refine ax_i (y := 2) (by decide) ?_
  refine lv_istore_n (lv' := [(3, .int 2), (2, .int 1), (0, .ref xr), (1, .int 1)]) hx hb dX2_isAsItWas_14 rfl hl (by decide) rfl (fun ls hl => ?_)
  refine lv_aload_n hx hb dX2_isAsItWas_15 rfl (lv_at hl 2 rfl) ?_
  refine va_get (D := (dC, dI)) (ci := 6) (v := .ref xw) (C := RX2) (T := TX2) (N := 2) hx hb hts (by decide +kernel) hown hK hP 0 rfl rfl 0 (by decide) (hts (.fieldLink RX2 9 "Diffractory$Row" "wholes" "[J") (by decide +kernel)) (fun _ h9 => h9) rfl dX2_isAsItWas_16 ?_
  refine lv_iload_n hx hb dX2_isAsItWas_19 rfl (lv_at hl 1 rfl) ?_
  refine va_lald hx hb hK hP 1 0 rfl rfl (by unfold vp_in; decide) dX2_isAsItWas_20 ?_
  refine ax_l (y := 0) rfl ?_
  refine lv_aload_n hx hb dX2_isAsItWas_21 rfl (lv_at hl 2 rfl) ?_
  refine va_get (D := (dC, dI)) (ci := 6) (v := .ref xw) (C := RX2) (T := TX2) (N := 2) hx hb hts (by decide +kernel) hown hK hP 0 rfl rfl 0 (by decide) (hts (.fieldLink RX2 9 "Diffractory$Row" "wholes" "[J") (by decide +kernel)) (fun _ h9 => h9) rfl dX2_isAsItWas_22 ?_
  refine lv_iload_n hx hb dX2_isAsItWas_25 rfl (lv_at hl 0 rfl) ?_
  refine va_lald hx hb hK hP 1 0 rfl rfl (by unfold vp_in; decide) dX2_isAsItWas_26 ?_
  refine ax_l (y := 0) rfl ?_
  refine W.lcmp hx hb dX2_isAsItWas_27 ?_
  refine ax_i (y := 0) (by decide) ?_
  refine lv_if_ne (tgt := 47) hx hb dX2_isAsItWas_28 (by decide) (fun h9 => absurd rfl h9) (fun _ => ?_)
  refine lv_aload_n hx hb dX2_isAsItWas_31 rfl (lv_at hl 2 rfl) ?_
  refine va_get (D := (dC, dI)) (ci := 6) (v := .ref xt) (C := RX2) (T := TX2) (N := 2) hx hb hts (by decide +kernel) hown hK hP 0 rfl rfl 1 (by decide) (hts (.fieldLink RX2 15 "Diffractory$Row" "roots" "[J") (by decide +kernel)) (fun _ h9 => h9) rfl dX2_isAsItWas_32 ?_
  refine lv_iload_n hx hb dX2_isAsItWas_35 rfl (lv_at hl 1 rfl) ?_
  refine va_lald hx hb hK hP 2 1 rfl rfl (by unfold vp_in; decide) dX2_isAsItWas_36 ?_
  refine ax_l (y := 0) rfl ?_
  refine lv_aload_n hx hb dX2_isAsItWas_37 rfl (lv_at hl 2 rfl) ?_
  refine va_get (D := (dC, dI)) (ci := 6) (v := .ref xt) (C := RX2) (T := TX2) (N := 2) hx hb hts (by decide +kernel) hown hK hP 0 rfl rfl 1 (by decide) (hts (.fieldLink RX2 15 "Diffractory$Row" "roots" "[J") (by decide +kernel)) (fun _ h9 => h9) rfl dX2_isAsItWas_38 ?_
  refine lv_iload_n hx hb dX2_isAsItWas_41 rfl (lv_at hl 0 rfl) ?_
  refine va_lald hx hb hK hP 2 1 rfl rfl (by unfold vp_in; decide) dX2_isAsItWas_42 ?_
  refine ax_l (y := 0) rfl ?_
  refine W.lcmp hx hb dX2_isAsItWas_43 ?_
  refine ax_i (y := 0) (by decide) ?_
  refine lv_if_eq (tgt := 49) hx hb dX2_isAsItWas_44 (by decide) (fun _ => ?_) (fun h9 => absurd (by decide) h9)
  refine lv_iinc (v := 2) (lv' := [(2, .int 2), (3, .int 2), (0, .ref xr), (1, .int 1)]) hx hb dX2_isAsItWas_49 hl (k := 1) rfl (by decide) (by decide) rfl (fun ls hl => ?_)
  refine lv_goto (tgt := 2) hx hb dX2_isAsItWas_52 (by decide) ?_
  refine lv_iload_n hx hb dX2_isAsItWas_2 rfl (lv_at hl 0 rfl) ?_
  refine lv_bipush (v := 8) hx hb dX2_isAsItWas_3 (by decide) ?_
  refine lv_icmp_ge (tgt := 55) hx hb dX2_isAsItWas_5 (by decide) (fun h9 => absurd h9 (by decide)) (fun _ => ?_)
  refine lv_iload_n hx hb dX2_isAsItWas_8 rfl (lv_at hl 0 rfl) ?_
  refine lv_iload_n hx hb dX2_isAsItWas_9 rfl (lv_at hl 3 rfl) ?_
  refine lv_iadd hx hb dX2_isAsItWas_10 ?_
  refine ax_i (y := 3) (by decide) ?_
  refine lv_bipush (v := 7) hx hb dX2_isAsItWas_11 (by decide) ?_
  refine lv_iand hx hb dX2_isAsItWas_13 ?_
  refine ax_i (y := 3) (by decide) ?_
  refine lv_istore_n (lv' := [(3, .int 3), (2, .int 2), (0, .ref xr), (1, .int 1)]) hx hb dX2_isAsItWas_14 rfl hl (by decide) rfl (fun ls hl => ?_)
  refine lv_aload_n hx hb dX2_isAsItWas_15 rfl (lv_at hl 2 rfl) ?_
  refine va_get (D := (dC, dI)) (ci := 6) (v := .ref xw) (C := RX2) (T := TX2) (N := 2) hx hb hts (by decide +kernel) hown hK hP 0 rfl rfl 0 (by decide) (hts (.fieldLink RX2 9 "Diffractory$Row" "wholes" "[J") (by decide +kernel)) (fun _ h9 => h9) rfl dX2_isAsItWas_16 ?_
  refine lv_iload_n hx hb dX2_isAsItWas_19 rfl (lv_at hl 1 rfl) ?_
  refine va_lald hx hb hK hP 1 0 rfl rfl (by unfold vp_in; decide) dX2_isAsItWas_20 ?_
  refine ax_l (y := 0) rfl ?_
  refine lv_aload_n hx hb dX2_isAsItWas_21 rfl (lv_at hl 2 rfl) ?_
  refine va_get (D := (dC, dI)) (ci := 6) (v := .ref xw) (C := RX2) (T := TX2) (N := 2) hx hb hts (by decide +kernel) hown hK hP 0 rfl rfl 0 (by decide) (hts (.fieldLink RX2 9 "Diffractory$Row" "wholes" "[J") (by decide +kernel)) (fun _ h9 => h9) rfl dX2_isAsItWas_22 ?_
  refine lv_iload_n hx hb dX2_isAsItWas_25 rfl (lv_at hl 0 rfl) ?_
  refine va_lald hx hb hK hP 1 0 rfl rfl (by unfold vp_in; decide) dX2_isAsItWas_26 ?_
  refine ax_l (y := 0) rfl ?_
  refine W.lcmp hx hb dX2_isAsItWas_27 ?_
  refine ax_i (y := 0) (by decide) ?_
  refine lv_if_ne (tgt := 47) hx hb dX2_isAsItWas_28 (by decide) (fun h9 => absurd rfl h9) (fun _ => ?_)
  refine lv_aload_n hx hb dX2_isAsItWas_31 rfl (lv_at hl 2 rfl) ?_
  refine va_get (D := (dC, dI)) (ci := 6) (v := .ref xt) (C := RX2) (T := TX2) (N := 2) hx hb hts (by decide +kernel) hown hK hP 0 rfl rfl 1 (by decide) (hts (.fieldLink RX2 15 "Diffractory$Row" "roots" "[J") (by decide +kernel)) (fun _ h9 => h9) rfl dX2_isAsItWas_32 ?_
  refine lv_iload_n hx hb dX2_isAsItWas_35 rfl (lv_at hl 1 rfl) ?_
  refine va_lald hx hb hK hP 2 1 rfl rfl (by unfold vp_in; decide) dX2_isAsItWas_36 ?_
  refine ax_l (y := 0) rfl ?_
  refine lv_aload_n hx hb dX2_isAsItWas_37 rfl (lv_at hl 2 rfl) ?_
  refine va_get (D := (dC, dI)) (ci := 6) (v := .ref xt) (C := RX2) (T := TX2) (N := 2) hx hb hts (by decide +kernel) hown hK hP 0 rfl rfl 1 (by decide) (hts (.fieldLink RX2 15 "Diffractory$Row" "roots" "[J") (by decide +kernel)) (fun _ h9 => h9) rfl dX2_isAsItWas_38 ?_
  refine lv_iload_n hx hb dX2_isAsItWas_41 rfl (lv_at hl 0 rfl) ?_
  refine va_lald hx hb hK hP 2 1 rfl rfl (by unfold vp_in; decide) dX2_isAsItWas_42 ?_
  refine ax_l (y := 0) rfl ?_
  refine W.lcmp hx hb dX2_isAsItWas_43 ?_
  refine ax_i (y := 0) (by decide) ?_
  refine lv_if_eq (tgt := 49) hx hb dX2_isAsItWas_44 (by decide) (fun _ => ?_) (fun h9 => absurd (by decide) h9)
  refine lv_iinc (v := 3) (lv' := [(2, .int 3), (3, .int 3), (0, .ref xr), (1, .int 1)]) hx hb dX2_isAsItWas_49 hl (k := 1) rfl (by decide) (by decide) rfl (fun ls hl => ?_)
  refine lv_goto (tgt := 2) hx hb dX2_isAsItWas_52 (by decide) ?_
  refine lv_iload_n hx hb dX2_isAsItWas_2 rfl (lv_at hl 0 rfl) ?_
  refine lv_bipush (v := 8) hx hb dX2_isAsItWas_3 (by decide) ?_
  refine lv_icmp_ge (tgt := 55) hx hb dX2_isAsItWas_5 (by decide) (fun h9 => absurd h9 (by decide)) (fun _ => ?_)
  refine lv_iload_n hx hb dX2_isAsItWas_8 rfl (lv_at hl 0 rfl) ?_
  refine lv_iload_n hx hb dX2_isAsItWas_9 rfl (lv_at hl 3 rfl) ?_
  refine lv_iadd hx hb dX2_isAsItWas_10 ?_
  refine ax_i (y := 4) (by decide) ?_
  refine lv_bipush (v := 7) hx hb dX2_isAsItWas_11 (by decide) ?_
  refine lv_iand hx hb dX2_isAsItWas_13 ?_
  refine ax_i (y := 4) (by decide) ?_
  refine lv_istore_n (lv' := [(3, .int 4), (2, .int 3), (0, .ref xr), (1, .int 1)]) hx hb dX2_isAsItWas_14 rfl hl (by decide) rfl (fun ls hl => ?_)
  refine lv_aload_n hx hb dX2_isAsItWas_15 rfl (lv_at hl 2 rfl) ?_
  refine va_get (D := (dC, dI)) (ci := 6) (v := .ref xw) (C := RX2) (T := TX2) (N := 2) hx hb hts (by decide +kernel) hown hK hP 0 rfl rfl 0 (by decide) (hts (.fieldLink RX2 9 "Diffractory$Row" "wholes" "[J") (by decide +kernel)) (fun _ h9 => h9) rfl dX2_isAsItWas_16 ?_
  refine lv_iload_n hx hb dX2_isAsItWas_19 rfl (lv_at hl 1 rfl) ?_
  refine va_lald hx hb hK hP 1 0 rfl rfl (by unfold vp_in; decide) dX2_isAsItWas_20 ?_
  refine ax_l (y := 0) rfl ?_
  refine lv_aload_n hx hb dX2_isAsItWas_21 rfl (lv_at hl 2 rfl) ?_
  refine va_get (D := (dC, dI)) (ci := 6) (v := .ref xw) (C := RX2) (T := TX2) (N := 2) hx hb hts (by decide +kernel) hown hK hP 0 rfl rfl 0 (by decide) (hts (.fieldLink RX2 9 "Diffractory$Row" "wholes" "[J") (by decide +kernel)) (fun _ h9 => h9) rfl dX2_isAsItWas_22 ?_
  refine lv_iload_n hx hb dX2_isAsItWas_25 rfl (lv_at hl 0 rfl) ?_
  refine va_lald hx hb hK hP 1 0 rfl rfl (by unfold vp_in; decide) dX2_isAsItWas_26 ?_
  refine ax_l (y := 0) rfl ?_
  refine W.lcmp hx hb dX2_isAsItWas_27 ?_
  refine ax_i (y := 0) (by decide) ?_
  refine lv_if_ne (tgt := 47) hx hb dX2_isAsItWas_28 (by decide) (fun h9 => absurd rfl h9) (fun _ => ?_)
  refine lv_aload_n hx hb dX2_isAsItWas_31 rfl (lv_at hl 2 rfl) ?_
  refine va_get (D := (dC, dI)) (ci := 6) (v := .ref xt) (C := RX2) (T := TX2) (N := 2) hx hb hts (by decide +kernel) hown hK hP 0 rfl rfl 1 (by decide) (hts (.fieldLink RX2 15 "Diffractory$Row" "roots" "[J") (by decide +kernel)) (fun _ h9 => h9) rfl dX2_isAsItWas_32 ?_
  refine lv_iload_n hx hb dX2_isAsItWas_35 rfl (lv_at hl 1 rfl) ?_
  refine va_lald hx hb hK hP 2 1 rfl rfl (by unfold vp_in; decide) dX2_isAsItWas_36 ?_
  refine ax_l (y := 0) rfl ?_
  refine lv_aload_n hx hb dX2_isAsItWas_37 rfl (lv_at hl 2 rfl) ?_
  refine va_get (D := (dC, dI)) (ci := 6) (v := .ref xt) (C := RX2) (T := TX2) (N := 2) hx hb hts (by decide +kernel) hown hK hP 0 rfl rfl 1 (by decide) (hts (.fieldLink RX2 15 "Diffractory$Row" "roots" "[J") (by decide +kernel)) (fun _ h9 => h9) rfl dX2_isAsItWas_38 ?_
  refine lv_iload_n hx hb dX2_isAsItWas_41 rfl (lv_at hl 0 rfl) ?_
  refine va_lald hx hb hK hP 2 1 rfl rfl (by unfold vp_in; decide) dX2_isAsItWas_42 ?_
  refine ax_l (y := 0) rfl ?_
  refine W.lcmp hx hb dX2_isAsItWas_43 ?_
  refine ax_i (y := 0) (by decide) ?_
  refine lv_if_eq (tgt := 49) hx hb dX2_isAsItWas_44 (by decide) (fun _ => ?_) (fun h9 => absurd (by decide) h9)
  refine lv_iinc (v := 4) (lv' := [(2, .int 4), (3, .int 4), (0, .ref xr), (1, .int 1)]) hx hb dX2_isAsItWas_49 hl (k := 1) rfl (by decide) (by decide) rfl (fun ls hl => ?_)
  refine lv_goto (tgt := 2) hx hb dX2_isAsItWas_52 (by decide) ?_
  refine lv_iload_n hx hb dX2_isAsItWas_2 rfl (lv_at hl 0 rfl) ?_
  refine lv_bipush (v := 8) hx hb dX2_isAsItWas_3 (by decide) ?_
  refine lv_icmp_ge (tgt := 55) hx hb dX2_isAsItWas_5 (by decide) (fun h9 => absurd h9 (by decide)) (fun _ => ?_)
  refine lv_iload_n hx hb dX2_isAsItWas_8 rfl (lv_at hl 0 rfl) ?_
  refine lv_iload_n hx hb dX2_isAsItWas_9 rfl (lv_at hl 3 rfl) ?_
  refine lv_iadd hx hb dX2_isAsItWas_10 ?_
  refine ax_i (y := 5) (by decide) ?_
  refine lv_bipush (v := 7) hx hb dX2_isAsItWas_11 (by decide) ?_
  refine lv_iand hx hb dX2_isAsItWas_13 ?_
  refine ax_i (y := 5) (by decide) ?_
  refine lv_istore_n (lv' := [(3, .int 5), (2, .int 4), (0, .ref xr), (1, .int 1)]) hx hb dX2_isAsItWas_14 rfl hl (by decide) rfl (fun ls hl => ?_)
  refine lv_aload_n hx hb dX2_isAsItWas_15 rfl (lv_at hl 2 rfl) ?_
  refine va_get (D := (dC, dI)) (ci := 6) (v := .ref xw) (C := RX2) (T := TX2) (N := 2) hx hb hts (by decide +kernel) hown hK hP 0 rfl rfl 0 (by decide) (hts (.fieldLink RX2 9 "Diffractory$Row" "wholes" "[J") (by decide +kernel)) (fun _ h9 => h9) rfl dX2_isAsItWas_16 ?_
  refine lv_iload_n hx hb dX2_isAsItWas_19 rfl (lv_at hl 1 rfl) ?_
  refine va_lald hx hb hK hP 1 0 rfl rfl (by unfold vp_in; decide) dX2_isAsItWas_20 ?_
  refine ax_l (y := 0) rfl ?_
  refine lv_aload_n hx hb dX2_isAsItWas_21 rfl (lv_at hl 2 rfl) ?_
  refine va_get (D := (dC, dI)) (ci := 6) (v := .ref xw) (C := RX2) (T := TX2) (N := 2) hx hb hts (by decide +kernel) hown hK hP 0 rfl rfl 0 (by decide) (hts (.fieldLink RX2 9 "Diffractory$Row" "wholes" "[J") (by decide +kernel)) (fun _ h9 => h9) rfl dX2_isAsItWas_22 ?_
  refine lv_iload_n hx hb dX2_isAsItWas_25 rfl (lv_at hl 0 rfl) ?_
  refine va_lald hx hb hK hP 1 0 rfl rfl (by unfold vp_in; decide) dX2_isAsItWas_26 ?_
  refine ax_l (y := 0) rfl ?_
  refine W.lcmp hx hb dX2_isAsItWas_27 ?_
  refine ax_i (y := 0) (by decide) ?_
  refine lv_if_ne (tgt := 47) hx hb dX2_isAsItWas_28 (by decide) (fun h9 => absurd rfl h9) (fun _ => ?_)
  refine lv_aload_n hx hb dX2_isAsItWas_31 rfl (lv_at hl 2 rfl) ?_
  refine va_get (D := (dC, dI)) (ci := 6) (v := .ref xt) (C := RX2) (T := TX2) (N := 2) hx hb hts (by decide +kernel) hown hK hP 0 rfl rfl 1 (by decide) (hts (.fieldLink RX2 15 "Diffractory$Row" "roots" "[J") (by decide +kernel)) (fun _ h9 => h9) rfl dX2_isAsItWas_32 ?_
  refine lv_iload_n hx hb dX2_isAsItWas_35 rfl (lv_at hl 1 rfl) ?_
  refine va_lald hx hb hK hP 2 1 rfl rfl (by unfold vp_in; decide) dX2_isAsItWas_36 ?_
  refine ax_l (y := 0) rfl ?_
  refine lv_aload_n hx hb dX2_isAsItWas_37 rfl (lv_at hl 2 rfl) ?_
  refine va_get (D := (dC, dI)) (ci := 6) (v := .ref xt) (C := RX2) (T := TX2) (N := 2) hx hb hts (by decide +kernel) hown hK hP 0 rfl rfl 1 (by decide) (hts (.fieldLink RX2 15 "Diffractory$Row" "roots" "[J") (by decide +kernel)) (fun _ h9 => h9) rfl dX2_isAsItWas_38 ?_
  refine lv_iload_n hx hb dX2_isAsItWas_41 rfl (lv_at hl 0 rfl) ?_
  refine va_lald hx hb hK hP 2 1 rfl rfl (by unfold vp_in; decide) dX2_isAsItWas_42 ?_
  refine ax_l (y := 0) rfl ?_
  refine W.lcmp hx hb dX2_isAsItWas_43 ?_
  refine ax_i (y := 0) (by decide) ?_
  refine lv_if_eq (tgt := 49) hx hb dX2_isAsItWas_44 (by decide) (fun _ => ?_) (fun h9 => absurd (by decide) h9)
  refine lv_iinc (v := 5) (lv' := [(2, .int 5), (3, .int 5), (0, .ref xr), (1, .int 1)]) hx hb dX2_isAsItWas_49 hl (k := 1) rfl (by decide) (by decide) rfl (fun ls hl => ?_)
  refine lv_goto (tgt := 2) hx hb dX2_isAsItWas_52 (by decide) ?_
  refine lv_iload_n hx hb dX2_isAsItWas_2 rfl (lv_at hl 0 rfl) ?_
  refine lv_bipush (v := 8) hx hb dX2_isAsItWas_3 (by decide) ?_
  refine lv_icmp_ge (tgt := 55) hx hb dX2_isAsItWas_5 (by decide) (fun h9 => absurd h9 (by decide)) (fun _ => ?_)
  refine lv_iload_n hx hb dX2_isAsItWas_8 rfl (lv_at hl 0 rfl) ?_
  refine lv_iload_n hx hb dX2_isAsItWas_9 rfl (lv_at hl 3 rfl) ?_
  refine lv_iadd hx hb dX2_isAsItWas_10 ?_
  refine ax_i (y := 6) (by decide) ?_
  refine lv_bipush (v := 7) hx hb dX2_isAsItWas_11 (by decide) ?_
  refine lv_iand hx hb dX2_isAsItWas_13 ?_
  refine ax_i (y := 6) (by decide) ?_
  refine lv_istore_n (lv' := [(3, .int 6), (2, .int 5), (0, .ref xr), (1, .int 1)]) hx hb dX2_isAsItWas_14 rfl hl (by decide) rfl (fun ls hl => ?_)
  refine lv_aload_n hx hb dX2_isAsItWas_15 rfl (lv_at hl 2 rfl) ?_
  refine va_get (D := (dC, dI)) (ci := 6) (v := .ref xw) (C := RX2) (T := TX2) (N := 2) hx hb hts (by decide +kernel) hown hK hP 0 rfl rfl 0 (by decide) (hts (.fieldLink RX2 9 "Diffractory$Row" "wholes" "[J") (by decide +kernel)) (fun _ h9 => h9) rfl dX2_isAsItWas_16 ?_
  refine lv_iload_n hx hb dX2_isAsItWas_19 rfl (lv_at hl 1 rfl) ?_
  refine va_lald hx hb hK hP 1 0 rfl rfl (by unfold vp_in; decide) dX2_isAsItWas_20 ?_
  refine ax_l (y := 0) rfl ?_
  refine lv_aload_n hx hb dX2_isAsItWas_21 rfl (lv_at hl 2 rfl) ?_
  refine va_get (D := (dC, dI)) (ci := 6) (v := .ref xw) (C := RX2) (T := TX2) (N := 2) hx hb hts (by decide +kernel) hown hK hP 0 rfl rfl 0 (by decide) (hts (.fieldLink RX2 9 "Diffractory$Row" "wholes" "[J") (by decide +kernel)) (fun _ h9 => h9) rfl dX2_isAsItWas_22 ?_
  refine lv_iload_n hx hb dX2_isAsItWas_25 rfl (lv_at hl 0 rfl) ?_
  refine va_lald hx hb hK hP 1 0 rfl rfl (by unfold vp_in; decide) dX2_isAsItWas_26 ?_
  refine ax_l (y := 0) rfl ?_
  refine W.lcmp hx hb dX2_isAsItWas_27 ?_
  refine ax_i (y := 0) (by decide) ?_
  refine lv_if_ne (tgt := 47) hx hb dX2_isAsItWas_28 (by decide) (fun h9 => absurd rfl h9) (fun _ => ?_)
  refine lv_aload_n hx hb dX2_isAsItWas_31 rfl (lv_at hl 2 rfl) ?_
  refine va_get (D := (dC, dI)) (ci := 6) (v := .ref xt) (C := RX2) (T := TX2) (N := 2) hx hb hts (by decide +kernel) hown hK hP 0 rfl rfl 1 (by decide) (hts (.fieldLink RX2 15 "Diffractory$Row" "roots" "[J") (by decide +kernel)) (fun _ h9 => h9) rfl dX2_isAsItWas_32 ?_
  refine lv_iload_n hx hb dX2_isAsItWas_35 rfl (lv_at hl 1 rfl) ?_
  refine va_lald hx hb hK hP 2 1 rfl rfl (by unfold vp_in; decide) dX2_isAsItWas_36 ?_
  refine ax_l (y := 0) rfl ?_
  refine lv_aload_n hx hb dX2_isAsItWas_37 rfl (lv_at hl 2 rfl) ?_
  refine va_get (D := (dC, dI)) (ci := 6) (v := .ref xt) (C := RX2) (T := TX2) (N := 2) hx hb hts (by decide +kernel) hown hK hP 0 rfl rfl 1 (by decide) (hts (.fieldLink RX2 15 "Diffractory$Row" "roots" "[J") (by decide +kernel)) (fun _ h9 => h9) rfl dX2_isAsItWas_38 ?_
  refine lv_iload_n hx hb dX2_isAsItWas_41 rfl (lv_at hl 0 rfl) ?_
  refine va_lald hx hb hK hP 2 1 rfl rfl (by unfold vp_in; decide) dX2_isAsItWas_42 ?_
  refine ax_l (y := 0) rfl ?_
  refine W.lcmp hx hb dX2_isAsItWas_43 ?_
  refine ax_i (y := 0) (by decide) ?_
  refine lv_if_eq (tgt := 49) hx hb dX2_isAsItWas_44 (by decide) (fun _ => ?_) (fun h9 => absurd (by decide) h9)
  refine lv_iinc (v := 6) (lv' := [(2, .int 6), (3, .int 6), (0, .ref xr), (1, .int 1)]) hx hb dX2_isAsItWas_49 hl (k := 1) rfl (by decide) (by decide) rfl (fun ls hl => ?_)
  refine lv_goto (tgt := 2) hx hb dX2_isAsItWas_52 (by decide) ?_
  refine lv_iload_n hx hb dX2_isAsItWas_2 rfl (lv_at hl 0 rfl) ?_
  refine lv_bipush (v := 8) hx hb dX2_isAsItWas_3 (by decide) ?_
  refine lv_icmp_ge (tgt := 55) hx hb dX2_isAsItWas_5 (by decide) (fun h9 => absurd h9 (by decide)) (fun _ => ?_)
  refine lv_iload_n hx hb dX2_isAsItWas_8 rfl (lv_at hl 0 rfl) ?_
  refine lv_iload_n hx hb dX2_isAsItWas_9 rfl (lv_at hl 3 rfl) ?_
  refine lv_iadd hx hb dX2_isAsItWas_10 ?_
  refine ax_i (y := 7) (by decide) ?_
  refine lv_bipush (v := 7) hx hb dX2_isAsItWas_11 (by decide) ?_
  refine lv_iand hx hb dX2_isAsItWas_13 ?_
  refine ax_i (y := 7) (by decide) ?_
  refine lv_istore_n (lv' := [(3, .int 7), (2, .int 6), (0, .ref xr), (1, .int 1)]) hx hb dX2_isAsItWas_14 rfl hl (by decide) rfl (fun ls hl => ?_)
  refine lv_aload_n hx hb dX2_isAsItWas_15 rfl (lv_at hl 2 rfl) ?_
  refine va_get (D := (dC, dI)) (ci := 6) (v := .ref xw) (C := RX2) (T := TX2) (N := 2) hx hb hts (by decide +kernel) hown hK hP 0 rfl rfl 0 (by decide) (hts (.fieldLink RX2 9 "Diffractory$Row" "wholes" "[J") (by decide +kernel)) (fun _ h9 => h9) rfl dX2_isAsItWas_16 ?_
  refine lv_iload_n hx hb dX2_isAsItWas_19 rfl (lv_at hl 1 rfl) ?_
  refine va_lald hx hb hK hP 1 0 rfl rfl (by unfold vp_in; decide) dX2_isAsItWas_20 ?_
  refine ax_l (y := 0) rfl ?_
  refine lv_aload_n hx hb dX2_isAsItWas_21 rfl (lv_at hl 2 rfl) ?_
  refine va_get (D := (dC, dI)) (ci := 6) (v := .ref xw) (C := RX2) (T := TX2) (N := 2) hx hb hts (by decide +kernel) hown hK hP 0 rfl rfl 0 (by decide) (hts (.fieldLink RX2 9 "Diffractory$Row" "wholes" "[J") (by decide +kernel)) (fun _ h9 => h9) rfl dX2_isAsItWas_22 ?_
  refine lv_iload_n hx hb dX2_isAsItWas_25 rfl (lv_at hl 0 rfl) ?_
  refine va_lald hx hb hK hP 1 0 rfl rfl (by unfold vp_in; decide) dX2_isAsItWas_26 ?_
  refine ax_l (y := 0) rfl ?_
  refine W.lcmp hx hb dX2_isAsItWas_27 ?_
  refine ax_i (y := 0) (by decide) ?_
  refine lv_if_ne (tgt := 47) hx hb dX2_isAsItWas_28 (by decide) (fun h9 => absurd rfl h9) (fun _ => ?_)
  refine lv_aload_n hx hb dX2_isAsItWas_31 rfl (lv_at hl 2 rfl) ?_
  refine va_get (D := (dC, dI)) (ci := 6) (v := .ref xt) (C := RX2) (T := TX2) (N := 2) hx hb hts (by decide +kernel) hown hK hP 0 rfl rfl 1 (by decide) (hts (.fieldLink RX2 15 "Diffractory$Row" "roots" "[J") (by decide +kernel)) (fun _ h9 => h9) rfl dX2_isAsItWas_32 ?_
  refine lv_iload_n hx hb dX2_isAsItWas_35 rfl (lv_at hl 1 rfl) ?_
  refine va_lald hx hb hK hP 2 1 rfl rfl (by unfold vp_in; decide) dX2_isAsItWas_36 ?_
  refine ax_l (y := 0) rfl ?_
  refine lv_aload_n hx hb dX2_isAsItWas_37 rfl (lv_at hl 2 rfl) ?_
  refine va_get (D := (dC, dI)) (ci := 6) (v := .ref xt) (C := RX2) (T := TX2) (N := 2) hx hb hts (by decide +kernel) hown hK hP 0 rfl rfl 1 (by decide) (hts (.fieldLink RX2 15 "Diffractory$Row" "roots" "[J") (by decide +kernel)) (fun _ h9 => h9) rfl dX2_isAsItWas_38 ?_
  refine lv_iload_n hx hb dX2_isAsItWas_41 rfl (lv_at hl 0 rfl) ?_
  refine va_lald hx hb hK hP 2 1 rfl rfl (by unfold vp_in; decide) dX2_isAsItWas_42 ?_
  refine ax_l (y := 0) rfl ?_
  refine W.lcmp hx hb dX2_isAsItWas_43 ?_
  refine ax_i (y := 0) (by decide) ?_
  refine lv_if_eq (tgt := 49) hx hb dX2_isAsItWas_44 (by decide) (fun _ => ?_) (fun h9 => absurd (by decide) h9)
  refine lv_iinc (v := 7) (lv' := [(2, .int 7), (3, .int 7), (0, .ref xr), (1, .int 1)]) hx hb dX2_isAsItWas_49 hl (k := 1) rfl (by decide) (by decide) rfl (fun ls hl => ?_)
  refine lv_goto (tgt := 2) hx hb dX2_isAsItWas_52 (by decide) ?_
  refine lv_iload_n hx hb dX2_isAsItWas_2 rfl (lv_at hl 0 rfl) ?_
  refine lv_bipush (v := 8) hx hb dX2_isAsItWas_3 (by decide) ?_
  refine lv_icmp_ge (tgt := 55) hx hb dX2_isAsItWas_5 (by decide) (fun h9 => absurd h9 (by decide)) (fun _ => ?_)
  refine lv_iload_n hx hb dX2_isAsItWas_8 rfl (lv_at hl 0 rfl) ?_
  refine lv_iload_n hx hb dX2_isAsItWas_9 rfl (lv_at hl 3 rfl) ?_
  refine lv_iadd hx hb dX2_isAsItWas_10 ?_
  refine ax_i (y := 8) (by decide) ?_
  refine lv_bipush (v := 7) hx hb dX2_isAsItWas_11 (by decide) ?_
  refine lv_iand hx hb dX2_isAsItWas_13 ?_
  refine ax_i (y := 0) (by decide) ?_
  refine lv_istore_n (lv' := [(3, .int 0), (2, .int 7), (0, .ref xr), (1, .int 1)]) hx hb dX2_isAsItWas_14 rfl hl (by decide) rfl (fun ls hl => ?_)
  refine lv_aload_n hx hb dX2_isAsItWas_15 rfl (lv_at hl 2 rfl) ?_
  refine va_get (D := (dC, dI)) (ci := 6) (v := .ref xw) (C := RX2) (T := TX2) (N := 2) hx hb hts (by decide +kernel) hown hK hP 0 rfl rfl 0 (by decide) (hts (.fieldLink RX2 9 "Diffractory$Row" "wholes" "[J") (by decide +kernel)) (fun _ h9 => h9) rfl dX2_isAsItWas_16 ?_
  refine lv_iload_n hx hb dX2_isAsItWas_19 rfl (lv_at hl 1 rfl) ?_
  refine va_lald hx hb hK hP 1 0 rfl rfl (by unfold vp_in; decide) dX2_isAsItWas_20 ?_
  refine ax_l (y := 0) rfl ?_
  refine lv_aload_n hx hb dX2_isAsItWas_21 rfl (lv_at hl 2 rfl) ?_
  refine va_get (D := (dC, dI)) (ci := 6) (v := .ref xw) (C := RX2) (T := TX2) (N := 2) hx hb hts (by decide +kernel) hown hK hP 0 rfl rfl 0 (by decide) (hts (.fieldLink RX2 9 "Diffractory$Row" "wholes" "[J") (by decide +kernel)) (fun _ h9 => h9) rfl dX2_isAsItWas_22 ?_
  refine lv_iload_n hx hb dX2_isAsItWas_25 rfl (lv_at hl 0 rfl) ?_
  refine va_lald hx hb hK hP 1 0 rfl rfl (by unfold vp_in; decide) dX2_isAsItWas_26 ?_
  refine ax_l (y := 0) rfl ?_
  refine W.lcmp hx hb dX2_isAsItWas_27 ?_
  refine ax_i (y := 0) (by decide) ?_
  refine lv_if_ne (tgt := 47) hx hb dX2_isAsItWas_28 (by decide) (fun h9 => absurd rfl h9) (fun _ => ?_)
  refine lv_aload_n hx hb dX2_isAsItWas_31 rfl (lv_at hl 2 rfl) ?_
  refine va_get (D := (dC, dI)) (ci := 6) (v := .ref xt) (C := RX2) (T := TX2) (N := 2) hx hb hts (by decide +kernel) hown hK hP 0 rfl rfl 1 (by decide) (hts (.fieldLink RX2 15 "Diffractory$Row" "roots" "[J") (by decide +kernel)) (fun _ h9 => h9) rfl dX2_isAsItWas_32 ?_
  refine lv_iload_n hx hb dX2_isAsItWas_35 rfl (lv_at hl 1 rfl) ?_
  refine va_lald hx hb hK hP 2 1 rfl rfl (by unfold vp_in; decide) dX2_isAsItWas_36 ?_
  refine ax_l (y := 0) rfl ?_
  refine lv_aload_n hx hb dX2_isAsItWas_37 rfl (lv_at hl 2 rfl) ?_
  refine va_get (D := (dC, dI)) (ci := 6) (v := .ref xt) (C := RX2) (T := TX2) (N := 2) hx hb hts (by decide +kernel) hown hK hP 0 rfl rfl 1 (by decide) (hts (.fieldLink RX2 15 "Diffractory$Row" "roots" "[J") (by decide +kernel)) (fun _ h9 => h9) rfl dX2_isAsItWas_38 ?_
  refine lv_iload_n hx hb dX2_isAsItWas_41 rfl (lv_at hl 0 rfl) ?_
  refine va_lald hx hb hK hP 2 1 rfl rfl (by unfold vp_in; decide) dX2_isAsItWas_42 ?_
  refine ax_l (y := 0) rfl ?_
  refine W.lcmp hx hb dX2_isAsItWas_43 ?_
  refine ax_i (y := 0) (by decide) ?_
  refine lv_if_eq (tgt := 49) hx hb dX2_isAsItWas_44 (by decide) (fun _ => ?_) (fun h9 => absurd (by decide) h9)
  refine lv_iinc (v := 8) (lv' := [(2, .int 8), (3, .int 0), (0, .ref xr), (1, .int 1)]) hx hb dX2_isAsItWas_49 hl (k := 1) rfl (by decide) (by decide) rfl (fun ls hl => ?_)
  refine lv_goto (tgt := 2) hx hb dX2_isAsItWas_52 (by decide) ?_
  refine lv_iload_n hx hb dX2_isAsItWas_2 rfl (lv_at hl 0 rfl) ?_
  refine lv_bipush (v := 8) hx hb dX2_isAsItWas_3 (by decide) ?_
  refine lv_icmp_ge (tgt := 55) hx hb dX2_isAsItWas_5 (by decide) (fun _ => ?_) (fun h9 => absurd (by decide) h9)
  refine lv_iconst (v := 1) hx hb dX2_isAsItWas_55 (by decide) ?_
  refine W.widen (k := 0) (n := 0) (Nat.le_of_ble_eq_true rfl) (Nat.le_of_ble_eq_true rfl) ?_
  exact W.zret (v := 1) (ty := .boolean) hx hb hr (by decide +kernel) (fun t ht hW => ⟨⟨1, (), rfl, rfl, trivial⟩, hS.F ht⟩) hS.2.2 dX2_isAsItWas_56

set_option maxHeartbeats 4000000 in
set_option maxRecDepth 100000 in
theorem c_X2_shortestRoll (l : Launch) (dC : Nat → ClassId) (dI : Nat → Nat → Nat) (xr xw xt : Nat) (cw ct : ClassId) (sa ta : Nat → Nat) : Met l yX2_shortestRoll wsX2_shortestRoll ({ frames := 16, cells := 0, slots := 0, locals := 400 }) (va_Pc [.ref xr] (ax_R (dC, dI) vwCl [(xr, .inr (6, [.ref xw, .ref xt])), (xw, .inl (cw, 8, .inr (.inl (fun _ => 0)))), (xt, .inl (ct, 8, .inr (.inl (fun _ => 0))))] [(cw, .long), (ct, .long)] sa ta)) (va_Qi (fun (r : Int32) (u : Unit) => r = 1) (fun _ _ => True) ax_no) 0 0 ax_no := by
  refine Met.ofW (cc := cX2_shortestRoll) (maxL := 2) (ret := (some .int)) (by decide) rfl ?_
  intro p e s m args below meth c s₁ B hml hv
  obtain ⟨rfl, hP, hK, hE⟩ := hv
  have hx := B.exec
  have hb := B.bytes
  have hr := B.returns
  have hts := atoms_spec (ws := wsX2_shortestRoll) B.pre
  have hown : s.vm.findClass RX2 = some m.cls := findClass_of_methodNamed B.named
  have hlocks := B.notSynchronized
  have hS : va_S ax_no s.heap s.heap [] := va_S.rf
  have hl := lv_entry ([.ref xr]) (n := 2) (Nat.le_of_ble_eq_true rfl)
  rw [lg_entry_eq]
  generalize (lg_sl ([.ref xr]) ++ List.replicate (2 - (lg_sl ([.ref xr])).length) Slot.unset).toArray = ls at hl ⊢
  have hl : lv_has ls 2 [(0, .ref xr)] := hl
  have hP : va_P (dC, dI) vwCl [(xr, .inr (6, [.ref xw, .ref xt])), (xw, .inl (cw, 8, .inr (.inl (fun _ => 0)))), (xt, .inl (ct, 8, .inr (.inl (fun _ => 0))))] s.heap := hP
  refine lv_iconst (v := 1) hx hb dX2_shortestRoll_0 (by decide) ?_
  refine lv_istore_n (lv' := [(1, .int 1), (0, .ref xr)]) hx hb dX2_shortestRoll_1 rfl hl (by decide) rfl (fun ls hl => ?_)
  refine lv_iload_n hx hb dX2_shortestRoll_2 rfl (lv_at hl 0 rfl) ?_
  refine lv_bipush (v := 8) hx hb dX2_shortestRoll_3 (by decide) ?_
  refine lv_icmp_ge (tgt := 24) hx hb dX2_shortestRoll_5 (by decide) (fun h9 => absurd h9 (by decide)) (fun _ => ?_)
  refine lv_aload_n hx hb dX2_shortestRoll_8 rfl (lv_at hl 1 rfl) ?_
  refine lv_iload_n hx hb dX2_shortestRoll_9 rfl (lv_at hl 0 rfl) ?_
  have hPc := hP.sub (ws' := [(xr, .inr (6, [.ref xw, .ref xt])), (xw, .inl (cw, 8, .inr (.inl (fun _ => 0)))), (xt, .inl (ct, 8, .inr (.inl (fun _ => 0))))]) [0, 1, 2] rfl
  have hKc := hK.sub (tys' := [(cw, .long), (ct, .long)]) [0, 1] rfl
  refine va_calli (va_runV (As := [.int 1]) (rest := []) ⟨hx, hb, hml, hown, hts⟩ (c_X2_isAsItWas l dC dI xr xw xt cw ct sa ta) (cwV 1 hts gX2_shortestRoll_X2_isAsItWas rfl rfl rfl (by decide +kernel) ⟨Nat.le_of_ble_eq_true rfl, Nat.le_of_ble_eq_true rfl⟩) ⟨ax_fbR, va_recv hK hP (ci := 6) (q0 := 0) rfl rfl, ax_prR hPc hKc hS hE⟩ rfl rfl hl.1 rfl (lv_room (Nat.le_of_ble_eq_true rfl)) dX2_shortestRoll_10 ⟨Nat.le_of_ble_eq_true rfl, Nat.le_of_ble_eq_true rfl⟩) hS (fun _ _ h9 => h9.elim) (fun _ h9 => h9.elim) (fun r_1 u_3  t H locs ht hvm hw_2 hB hz1 hk1 hS => ?_)
  have hP := ax_keep hP (fun _ h9 => h9) hk1
  refine ax_i (y := 1) hw_2 ?_
  refine lv_if_eq (tgt := 18) hx hb dX2_shortestRoll_13 (by decide) (fun h9 => absurd h9 (by decide)) (fun _ => ?_)
  refine lv_iload_n hx hb dX2_shortestRoll_16 rfl (lv_at hl 0 rfl) ?_
  refine W.widen (k := 0) (n := 0) (Nat.le_of_ble_eq_true rfl) (Nat.le_of_ble_eq_true rfl) ?_
  exact W.iret (v := 1) hx hb hr (fun t ht hW => ⟨⟨1, (), rfl, rfl, trivial⟩, hS.F ht⟩) hS.2.2 dX2_shortestRoll_17

set_option maxHeartbeats 4000000 in
set_option maxRecDepth 100000 in
theorem c_X2_notBelowZero (l : Launch) : Met l yX2_notBelowZero wsX2_notBelowZero ({ frames := 8, cells := 0, slots := 0, locals := 200 }) (va_Pc [.double 0] (fun _ => True)) (va_Qd (fun (r : UInt64) (u : Unit) => r = 0) (fun _ _ => True) ax_no) 0 0 ax_no := by
  refine Met.ofW (cc := cX2_notBelowZero) (maxL := 2) (ret := (some .double)) (by decide) rfl ?_
  intro p e s m args below meth c s₁ B hml hv
  obtain ⟨rfl, -⟩ := hv
  have hx := B.exec
  have hb := B.bytes
  have hr := B.returns
  have hts := atoms_spec (ws := wsX2_notBelowZero) B.pre
  have hown : s.vm.findClass RX2 = some m.cls := findClass_of_methodNamed B.named
  have hlocks := B.notSynchronized
  have hS : va_S ax_no s.heap s.heap [] := va_S.rf
  have hl := lv_entry ([.double 0]) (n := 2) (Nat.le_of_ble_eq_true rfl)
  rw [lg_entry_eq]
  generalize (lg_sl ([.double 0]) ++ List.replicate (2 - (lg_sl ([.double 0])).length) Slot.unset).toArray = ls at hl ⊢
  have hl : lv_has ls 2 [(0, .double 0)] := hl
  refine lv_dload_n hx hb dX2_notBelowZero_0 rfl (lv_at hl 0 rfl) ?_
  refine lv_dconst0 hx hb dX2_notBelowZero_1 ?_
  refine ax_d (y := 0) (by decide +kernel) ?_
  refine lv_dcmp hx hb dX2_notBelowZero_2 ?_
  refine ax_i (y := 0) (by decide +kernel) ?_
  refine lv_if_le (tgt := 10) hx hb dX2_notBelowZero_3 (by decide) (fun _ => ?_) (fun h9 => absurd (by decide) h9)
  refine lv_dconst0 hx hb dX2_notBelowZero_10 ?_
  refine ax_d (y := 0) (by decide +kernel) ?_
  refine W.widen (k := 0) (n := 0) (Nat.le_of_ble_eq_true rfl) (Nat.le_of_ble_eq_true rfl) ?_
  exact W.dret (v := 0) hx hb hr (fun t ht hW => ⟨⟨0, (), rfl, rfl, trivial⟩, hS.F ht⟩) hS.2.2 dX2_notBelowZero_11

set_option maxHeartbeats 4000000 in
set_option maxRecDepth 100000 in
theorem c_X2_contrast (l : Launch) (dC : Nat → ClassId) (dI : Nat → Nat → Nat) (xr xw xt : Nat) (cw ct : ClassId) (sa ta : Nat → Nat) : Met l yX2_contrast wsX2_contrast ({ frames := 32, cells := 0, slots := 0, locals := 800 }) (va_Pc [.ref xr] (ax_R (dC, dI) vwCl [(xr, .inr (6, [.ref xw, .ref xt])), (xw, .inl (cw, 8, .inr (.inl (fun _ => 0)))), (xt, .inl (ct, 8, .inr (.inl (fun _ => 0))))] [(cw, .long), (ct, .long)] sa ta)) (va_Qd (fun (r : UInt64) (u : Unit) => r = 0) (fun _ _ => True) ax_no) 0 0 ax_no := by
  refine Met.ofW (cc := cX2_contrast) (maxL := 7) (ret := (some .double)) (by decide) rfl ?_
  intro p e s m args below meth c s₁ B hml hv
  obtain ⟨rfl, hP, hK, hE⟩ := hv
  have hx := B.exec
  have hb := B.bytes
  have hr := B.returns
  have hts := atoms_spec (ws := wsX2_contrast) B.pre
  have hown : s.vm.findClass RX2 = some m.cls := findClass_of_methodNamed B.named
  have hlocks := B.notSynchronized
  have hS : va_S ax_no s.heap s.heap [] := va_S.rf
  have hl := lv_entry ([.ref xr]) (n := 7) (Nat.le_of_ble_eq_true rfl)
  rw [lg_entry_eq]
  generalize (lg_sl ([.ref xr]) ++ List.replicate (7 - (lg_sl ([.ref xr])).length) Slot.unset).toArray = ls at hl ⊢
  have hl : lv_has ls 7 [(0, .ref xr)] := hl
  have hP : va_P (dC, dI) vwCl [(xr, .inr (6, [.ref xw, .ref xt])), (xw, .inl (cw, 8, .inr (.inl (fun _ => 0)))), (xt, .inl (ct, 8, .inr (.inl (fun _ => 0))))] s.heap := hP
  refine lv_aload_n hx hb dX2_contrast_0 rfl (lv_at hl 0 rfl) ?_
  have hPc := hP.sub (ws' := [(xr, .inr (6, [.ref xw, .ref xt])), (xw, .inl (cw, 8, .inr (.inl (fun _ => 0)))), (xt, .inl (ct, 8, .inr (.inl (fun _ => 0))))]) [0, 1, 2] rfl
  have hKc := hK.sub (tys' := [(cw, .long), (ct, .long)]) [0, 1] rfl
  refine va_calld (va_runV (As := []) (rest := []) ⟨hx, hb, hml, hown, hts⟩ (c_X2_greatest l dC dI xr xw xt cw ct sa ta) (cwV 0 hts gX2_contrast_X2_greatest rfl rfl rfl (by decide +kernel) ⟨Nat.le_of_ble_eq_true rfl, Nat.le_of_ble_eq_true rfl⟩) ⟨ax_fbR, va_recv hK hP (ci := 6) (q0 := 0) rfl rfl, ax_prR hPc hKc hS hE⟩ rfl rfl hl.1 rfl (lv_room (Nat.le_of_ble_eq_true rfl)) dX2_contrast_1 ⟨Nat.le_of_ble_eq_true rfl, Nat.le_of_ble_eq_true rfl⟩) hS (fun _ _ h9 => h9.elim) (fun _ h9 => h9.elim) (fun r_1 u_3  t H locs ht hvm hw_2 hB hz1 hk1 hS => ?_)
  have hP := ax_keep hP (fun _ h9 => h9) hk1
  refine ax_d (y := 0) hw_2 ?_
  refine va_calld (va_runS (As := [.double 0]) (rest := []) ⟨hx, hb, hml, hown, hts⟩ (c_X2_notBelowZero l) (va_cwS 1 hts gX2_contrast_X2_notBelowZero rfl rfl rfl (by decide +kernel) ⟨Nat.le_of_ble_eq_true rfl, Nat.le_of_ble_eq_true rfl⟩) ⟨ax_fbP, ax_prP⟩ rfl rfl hl.1 rfl (lv_room (Nat.le_of_ble_eq_true rfl)) dX2_contrast_4 ⟨Nat.le_of_ble_eq_true rfl, Nat.le_of_ble_eq_true rfl⟩) hS (fun _ _ h9 => h9.elim) (fun _ h9 => h9.elim) (fun r_4 u_6  t H locs ht hvm hw_5 hB hz1 hk1 hS => ?_)
  have hP := ax_keep hP (fun _ h9 => h9) hk1
  refine ax_d (y := 0) hw_5 ?_
  refine lv_dstore_n (lv' := [(1, .double 0), (0, .ref xr)]) hx hb dX2_contrast_7 rfl hl (by decide) rfl (fun ls hl => ?_)
  refine lv_aload_n hx hb dX2_contrast_8 rfl (lv_at hl 1 rfl) ?_
  have hPc := hP.sub (ws' := [(xr, .inr (6, [.ref xw, .ref xt])), (xw, .inl (cw, 8, .inr (.inl (fun _ => 0)))), (xt, .inl (ct, 8, .inr (.inl (fun _ => 0))))]) [0, 1, 2] rfl
  have hKc := hK.sub (tys' := [(cw, .long), (ct, .long)]) [0, 1] rfl
  refine va_calld (va_runV (As := []) (rest := []) ⟨hx, hb, hml, hown, hts⟩ (c_X2_least l dC dI xr xw xt cw ct sa ta) (cwV 0 hts gX2_contrast_X2_least rfl rfl rfl (by decide +kernel) ⟨Nat.le_of_ble_eq_true rfl, Nat.le_of_ble_eq_true rfl⟩) ⟨ax_fbR, va_recv hK hP (ci := 6) (q0 := 0) rfl rfl, ax_prR hPc hKc hS hE⟩ rfl rfl hl.1 rfl (lv_room (Nat.le_of_ble_eq_true rfl)) dX2_contrast_9 ⟨Nat.le_of_ble_eq_true rfl, Nat.le_of_ble_eq_true rfl⟩) hS (fun _ _ h9 => h9.elim) (fun _ h9 => h9.elim) (fun r_7 u_9  t H locs ht hvm hw_8 hB hz1 hk1 hS => ?_)
  have hP := ax_keep hP (fun _ h9 => h9) hk1
  refine ax_d (y := 0) hw_8 ?_
  refine va_calld (va_runS (As := [.double 0]) (rest := []) ⟨hx, hb, hml, hown, hts⟩ (c_X2_notBelowZero l) (va_cwS 1 hts gX2_contrast_X2_notBelowZero rfl rfl rfl (by decide +kernel) ⟨Nat.le_of_ble_eq_true rfl, Nat.le_of_ble_eq_true rfl⟩) ⟨ax_fbP, ax_prP⟩ rfl rfl hl.1 rfl (lv_room (Nat.le_of_ble_eq_true rfl)) dX2_contrast_12 ⟨Nat.le_of_ble_eq_true rfl, Nat.le_of_ble_eq_true rfl⟩) hS (fun _ _ h9 => h9.elim) (fun _ h9 => h9.elim) (fun r_10 u_12  t H locs ht hvm hw_11 hB hz1 hk1 hS => ?_)
  have hP := ax_keep hP (fun _ h9 => h9) hk1
  refine ax_d (y := 0) hw_11 ?_
  refine lv_dstore_n (lv' := [(3, .double 0), (1, .double 0), (0, .ref xr)]) hx hb dX2_contrast_15 rfl hl (by decide) rfl (fun ls hl => ?_)
  refine lv_dload_n hx hb dX2_contrast_16 rfl (lv_at hl 1 rfl) ?_
  refine lv_dload_n hx hb dX2_contrast_17 rfl (lv_at hl 0 rfl) ?_
  refine lv_dadd hx hb dX2_contrast_18 (by unfold vf_n64; decide +kernel) ?_
  refine ax_d (y := 0) (by decide +kernel) ?_
  refine lv_dstore (lv' := [(5, .double 0), (3, .double 0), (1, .double 0), (0, .ref xr)]) hx hb dX2_contrast_19 hl (by decide) rfl (fun ls hl => ?_)
  refine lv_dload hx hb dX2_contrast_21 (lv_at hl 0 rfl) ?_
  refine lv_dconst0 hx hb dX2_contrast_23 ?_
  refine ax_d (y := 0) (by decide +kernel) ?_
  refine lv_dcmp hx hb dX2_contrast_24 ?_
  refine ax_i (y := 0) (by decide +kernel) ?_
  refine lv_if_le (tgt := 37) hx hb dX2_contrast_25 (by decide) (fun _ => ?_) (fun h9 => absurd (by decide) h9)
  refine lv_dconst0 hx hb dX2_contrast_37 ?_
  refine ax_d (y := 0) (by decide +kernel) ?_
  refine W.widen (k := 0) (n := 0) (Nat.le_of_ble_eq_true rfl) (Nat.le_of_ble_eq_true rfl) ?_
  exact W.dret (v := 0) hx hb hr (fun t ht hW => ⟨⟨0, (), rfl, rfl, trivial⟩, hS.F ht⟩) hS.2.2 dX2_contrast_38

set_option maxHeartbeats 4000000 in
set_option maxRecDepth 100000 in
theorem c_X2_inTenths (l : Launch) (dC : Nat → ClassId) (dI : Nat → Nat → Nat) (xr xw xt : Nat) (cw ct : ClassId) (sa ta : Nat → Nat) (p0 : Int32) : Met l yX2_inTenths wsX2_inTenths ({ frames := 32, cells := 0, slots := 0, locals := 800 }) (va_Pc [.ref xr, .int p0] (ax_R (dC, dI) vwCl [(xr, .inr (6, [.ref xw, .ref xt])), (xw, .inl (cw, 8, .inr (.inl (fun _ => 0)))), (xt, .inl (ct, 8, .inr (.inl (fun _ => 0))))] [(cw, .long), (ct, .long)] sa ta)) (va_Qd (fun (r : UInt64) (u : Unit) => r = 0) (fun _ _ => True) ax_no) 0 0 ax_no := by
  refine Met.ofW (cc := cX2_inTenths) (maxL := 4) (ret := (some .double)) (by decide) rfl ?_
  intro p e s m args below meth c s₁ B hml hv
  obtain ⟨rfl, hP, hK, hE⟩ := hv
  have hx := B.exec
  have hb := B.bytes
  have hr := B.returns
  have hts := atoms_spec (ws := wsX2_inTenths) B.pre
  have hown : s.vm.findClass RX2 = some m.cls := findClass_of_methodNamed B.named
  have hlocks := B.notSynchronized
  have hS : va_S ax_no s.heap s.heap [] := va_S.rf
  have hl := lv_entry ([.ref xr, .int p0]) (n := 4) (Nat.le_of_ble_eq_true rfl)
  rw [lg_entry_eq]
  generalize (lg_sl ([.ref xr, .int p0]) ++ List.replicate (4 - (lg_sl ([.ref xr, .int p0])).length) Slot.unset).toArray = ls at hl ⊢
  have hl : lv_has ls 4 [(0, .ref xr), (1, .int p0)] := hl
  have hP : va_P (dC, dI) vwCl [(xr, .inr (6, [.ref xw, .ref xt])), (xw, .inl (cw, 8, .inr (.inl (fun _ => 0)))), (xt, .inl (ct, 8, .inr (.inl (fun _ => 0))))] s.heap := hP
  refine lv_aload_n hx hb dX2_inTenths_0 rfl (lv_at hl 0 rfl) ?_
  have hPc := hP.sub (ws' := [(xr, .inr (6, [.ref xw, .ref xt])), (xw, .inl (cw, 8, .inr (.inl (fun _ => 0)))), (xt, .inl (ct, 8, .inr (.inl (fun _ => 0))))]) [0, 1, 2] rfl
  have hKc := hK.sub (tys' := [(cw, .long), (ct, .long)]) [0, 1] rfl
  refine va_calld (va_runV (As := []) (rest := []) ⟨hx, hb, hml, hown, hts⟩ (c_X2_greatest l dC dI xr xw xt cw ct sa ta) (cwV 0 hts gX2_inTenths_X2_greatest rfl rfl rfl (by decide +kernel) ⟨Nat.le_of_ble_eq_true rfl, Nat.le_of_ble_eq_true rfl⟩) ⟨ax_fbR, va_recv hK hP (ci := 6) (q0 := 0) rfl rfl, ax_prR hPc hKc hS hE⟩ rfl rfl hl.1 rfl (lv_room (Nat.le_of_ble_eq_true rfl)) dX2_inTenths_1 ⟨Nat.le_of_ble_eq_true rfl, Nat.le_of_ble_eq_true rfl⟩) hS (fun _ _ h9 => h9.elim) (fun _ h9 => h9.elim) (fun r_1 u_3  t H locs ht hvm hw_2 hB hz1 hk1 hS => ?_)
  have hP := ax_keep hP (fun _ h9 => h9) hk1
  refine ax_d (y := 0) hw_2 ?_
  refine lv_dstore_n (lv' := [(2, .double 0), (0, .ref xr), (1, .int p0)]) hx hb dX2_inTenths_4 rfl hl (by decide) rfl (fun ls hl => ?_)
  refine lv_dload_n hx hb dX2_inTenths_5 rfl (lv_at hl 0 rfl) ?_
  refine lv_dconst0 hx hb dX2_inTenths_6 ?_
  refine ax_d (y := 0) (by decide +kernel) ?_
  refine lv_dcmp hx hb dX2_inTenths_7 ?_
  refine ax_i (y := 0) (by decide +kernel) ?_
  refine lv_if_le (tgt := 28) hx hb dX2_inTenths_8 (by decide) (fun _ => ?_) (fun h9 => absurd (by decide) h9)
  refine lv_dconst0 hx hb dX2_inTenths_28 ?_
  refine ax_d (y := 0) (by decide +kernel) ?_
  refine W.widen (k := 0) (n := 0) (Nat.le_of_ble_eq_true rfl) (Nat.le_of_ble_eq_true rfl) ?_
  exact W.dret (v := 0) hx hb hr (fun t ht hW => ⟨⟨0, (), rfl, rfl, trivial⟩, hS.F ht⟩) hS.2.2 dX2_inTenths_29

set_option maxHeartbeats 4000000 in
set_option maxRecDepth 100000 in
theorem c_X2_addToDigest (l : Launch) (dC : Nat → ClassId) (dI : Nat → Nat → Nat) (xr xw xt : Nat) (cw ct : ClassId) (sa ta : Nat → Nat) : Met l yX2_addToDigest wsX2_addToDigest ({ frames := 24, cells := 0, slots := 0, locals := 600 }) (va_Pc [.ref xr, .long 272177338526] (ax_R (dC, dI) vwCl [(xr, .inr (6, [.ref xw, .ref xt])), (xw, .inl (cw, 8, .inr (.inl (fun _ => 0)))), (xt, .inl (ct, 8, .inr (.inl (fun _ => 0))))] [(cw, .long), (ct, .long)] sa ta)) (va_Ql (fun (r : Int64) (u : Unit) => r = (-5377871487814150780)) (fun _ _ => True) ax_no) 0 0 ax_no := by
  refine Met.ofW (cc := cX2_addToDigest) (maxL := 6) (ret := (some .long)) (by decide) rfl ?_
  intro p e s m args below meth c s₁ B hml hv
  obtain ⟨rfl, hP, hK, hE⟩ := hv
  have hx := B.exec
  have hb := B.bytes
  have hr := B.returns
  have hts := atoms_spec (ws := wsX2_addToDigest) B.pre
  have hown : s.vm.findClass RX2 = some m.cls := findClass_of_methodNamed B.named
  have hlocks := B.notSynchronized
  have hS : va_S ax_no s.heap s.heap [] := va_S.rf
  have hl := lv_entry ([.ref xr, .long 272177338526]) (n := 6) (Nat.le_of_ble_eq_true rfl)
  rw [lg_entry_eq]
  generalize (lg_sl ([.ref xr, .long 272177338526]) ++ List.replicate (6 - (lg_sl ([.ref xr, .long 272177338526])).length) Slot.unset).toArray = ls at hl ⊢
  have hl : lv_has ls 6 [(0, .ref xr), (1, .long 272177338526)] := hl
  have hP : va_P (dC, dI) vwCl [(xr, .inr (6, [.ref xw, .ref xt])), (xw, .inl (cw, 8, .inr (.inl (fun _ => 0)))), (xt, .inl (ct, 8, .inr (.inl (fun _ => 0))))] s.heap := hP
  refine lv_lload_n hx hb dX2_addToDigest_0 rfl (lv_at hl 1 rfl) ?_
  refine lv_lstore_n (lv' := [(3, .long 272177338526), (0, .ref xr), (1, .long 272177338526)]) hx hb dX2_addToDigest_1 rfl hl (by decide) rfl (fun ls hl => ?_)
  refine lv_iconst (v := 0) hx hb dX2_addToDigest_2 (by decide) ?_
  refine lv_istore (lv' := [(5, .int 0), (3, .long 272177338526), (0, .ref xr), (1, .long 272177338526)]) hx hb dX2_addToDigest_3 hl (by decide) rfl (fun ls hl => ?_)
  refine lv_iload hx hb dX2_addToDigest_5 (lv_at hl 0 rfl) ?_
  refine lv_bipush (v := 8) hx hb dX2_addToDigest_7 (by decide) ?_
  refine lv_icmp_ge (tgt := 46) hx hb dX2_addToDigest_9 (by decide) (fun h9 => absurd h9 (by decide)) (fun _ => ?_)
  refine lv_lload_n hx hb dX2_addToDigest_12 rfl (lv_at hl 1 rfl) ?_
  refine lv_ldc2 (v := 31) hx hb hown (hts (.constantLong RX2 72 31) (by decide +kernel)) dX2_addToDigest_13 ?_
  refine lv_lmul hx hb dX2_addToDigest_16 ?_
  refine ax_l (y := 8437497494306) (by decide) ?_
  refine lv_aload_n hx hb dX2_addToDigest_17 rfl (lv_at hl 2 rfl) ?_
  refine va_get (D := (dC, dI)) (ci := 6) (v := .ref xw) (C := RX2) (T := TX2) (N := 2) hx hb hts (by decide +kernel) hown hK hP 0 rfl rfl 0 (by decide) (hts (.fieldLink RX2 9 "Diffractory$Row" "wholes" "[J") (by decide +kernel)) (fun _ h9 => h9) rfl dX2_addToDigest_18 ?_
  refine lv_iload hx hb dX2_addToDigest_21 (lv_at hl 0 rfl) ?_
  refine va_lald hx hb hK hP 1 0 rfl rfl (by unfold vp_in; decide) dX2_addToDigest_23 ?_
  refine ax_l (y := 0) rfl ?_
  refine lv_ladd hx hb dX2_addToDigest_24 ?_
  refine ax_l (y := 8437497494306) (by decide) ?_
  refine lv_lstore_n (lv' := [(3, .long 8437497494306), (5, .int 0), (0, .ref xr), (1, .long 272177338526)]) hx hb dX2_addToDigest_25 rfl hl (by decide) rfl (fun ls hl => ?_)
  refine lv_lload_n hx hb dX2_addToDigest_26 rfl (lv_at hl 0 rfl) ?_
  refine lv_ldc2 (v := 31) hx hb hown (hts (.constantLong RX2 72 31) (by decide +kernel)) dX2_addToDigest_27 ?_
  refine lv_lmul hx hb dX2_addToDigest_30 ?_
  refine ax_l (y := 261562422323486) (by decide) ?_
  refine lv_aload_n hx hb dX2_addToDigest_31 rfl (lv_at hl 2 rfl) ?_
  refine va_get (D := (dC, dI)) (ci := 6) (v := .ref xt) (C := RX2) (T := TX2) (N := 2) hx hb hts (by decide +kernel) hown hK hP 0 rfl rfl 1 (by decide) (hts (.fieldLink RX2 15 "Diffractory$Row" "roots" "[J") (by decide +kernel)) (fun _ h9 => h9) rfl dX2_addToDigest_32 ?_
  refine lv_iload hx hb dX2_addToDigest_35 (lv_at hl 1 rfl) ?_
  refine va_lald hx hb hK hP 2 1 rfl rfl (by unfold vp_in; decide) dX2_addToDigest_37 ?_
  refine ax_l (y := 0) rfl ?_
  refine lv_ladd hx hb dX2_addToDigest_38 ?_
  refine ax_l (y := 261562422323486) (by decide) ?_
  refine lv_lstore_n (lv' := [(3, .long 261562422323486), (5, .int 0), (0, .ref xr), (1, .long 272177338526)]) hx hb dX2_addToDigest_39 rfl hl (by decide) rfl (fun ls hl => ?_)
  refine lv_iinc (v := 1) (lv' := [(5, .int 1), (3, .long 261562422323486), (0, .ref xr), (1, .long 272177338526)]) hx hb dX2_addToDigest_40 hl (k := 1) rfl (by decide) (by decide) rfl (fun ls hl => ?_)
  refine lv_goto (tgt := 5) hx hb dX2_addToDigest_43 (by decide) ?_
  refine lv_iload hx hb dX2_addToDigest_5 (lv_at hl 0 rfl) ?_
  refine lv_bipush (v := 8) hx hb dX2_addToDigest_7 (by decide) ?_
  refine lv_icmp_ge (tgt := 46) hx hb dX2_addToDigest_9 (by decide) (fun h9 => absurd h9 (by decide)) (fun _ => ?_)
  refine lv_lload_n hx hb dX2_addToDigest_12 rfl (lv_at hl 1 rfl) ?_
  refine lv_ldc2 (v := 31) hx hb hown (hts (.constantLong RX2 72 31) (by decide +kernel)) dX2_addToDigest_13 ?_
  refine lv_lmul hx hb dX2_addToDigest_16 ?_
  refine ax_l (y := 8108435092028066) (by decide) ?_
  refine lv_aload_n hx hb dX2_addToDigest_17 rfl (lv_at hl 2 rfl) ?_
  refine va_get (D := (dC, dI)) (ci := 6) (v := .ref xw) (C := RX2) (T := TX2) (N := 2) hx hb hts (by decide +kernel) hown hK hP 0 rfl rfl 0 (by decide) (hts (.fieldLink RX2 9 "Diffractory$Row" "wholes" "[J") (by decide +kernel)) (fun _ h9 => h9) rfl dX2_addToDigest_18 ?_
  refine lv_iload hx hb dX2_addToDigest_21 (lv_at hl 0 rfl) ?_
  refine va_lald hx hb hK hP 1 0 rfl rfl (by unfold vp_in; decide) dX2_addToDigest_23 ?_
  refine ax_l (y := 0) rfl ?_
  refine lv_ladd hx hb dX2_addToDigest_24 ?_
  refine ax_l (y := 8108435092028066) (by decide) ?_
  refine lv_lstore_n (lv' := [(3, .long 8108435092028066), (5, .int 1), (0, .ref xr), (1, .long 272177338526)]) hx hb dX2_addToDigest_25 rfl hl (by decide) rfl (fun ls hl => ?_)
  refine lv_lload_n hx hb dX2_addToDigest_26 rfl (lv_at hl 0 rfl) ?_
  refine lv_ldc2 (v := 31) hx hb hown (hts (.constantLong RX2 72 31) (by decide +kernel)) dX2_addToDigest_27 ?_
  refine lv_lmul hx hb dX2_addToDigest_30 ?_
  refine ax_l (y := 251361487852870046) (by decide) ?_
  refine lv_aload_n hx hb dX2_addToDigest_31 rfl (lv_at hl 2 rfl) ?_
  refine va_get (D := (dC, dI)) (ci := 6) (v := .ref xt) (C := RX2) (T := TX2) (N := 2) hx hb hts (by decide +kernel) hown hK hP 0 rfl rfl 1 (by decide) (hts (.fieldLink RX2 15 "Diffractory$Row" "roots" "[J") (by decide +kernel)) (fun _ h9 => h9) rfl dX2_addToDigest_32 ?_
  refine lv_iload hx hb dX2_addToDigest_35 (lv_at hl 1 rfl) ?_
  refine va_lald hx hb hK hP 2 1 rfl rfl (by unfold vp_in; decide) dX2_addToDigest_37 ?_
  refine ax_l (y := 0) rfl ?_
  refine lv_ladd hx hb dX2_addToDigest_38 ?_
  refine ax_l (y := 251361487852870046) (by decide) ?_
  refine lv_lstore_n (lv' := [(3, .long 251361487852870046), (5, .int 1), (0, .ref xr), (1, .long 272177338526)]) hx hb dX2_addToDigest_39 rfl hl (by decide) rfl (fun ls hl => ?_)
  refine lv_iinc (v := 2) (lv' := [(5, .int 2), (3, .long 251361487852870046), (0, .ref xr), (1, .long 272177338526)]) hx hb dX2_addToDigest_40 hl (k := 1) rfl (by decide) (by decide) rfl (fun ls hl => ?_)
  refine lv_goto (tgt := 5) hx hb dX2_addToDigest_43 (by decide) ?_
  refine lv_iload hx hb dX2_addToDigest_5 (lv_at hl 0 rfl) ?_
  refine lv_bipush (v := 8) hx hb dX2_addToDigest_7 (by decide) ?_
  refine lv_icmp_ge (tgt := 46) hx hb dX2_addToDigest_9 (by decide) (fun h9 => absurd h9 (by decide)) (fun _ => ?_)
  refine lv_lload_n hx hb dX2_addToDigest_12 rfl (lv_at hl 1 rfl) ?_
  refine lv_ldc2 (v := 31) hx hb hown (hts (.constantLong RX2 72 31) (by decide +kernel)) dX2_addToDigest_13 ?_
  refine lv_lmul hx hb dX2_addToDigest_16 ?_
  refine ax_l (y := 7792206123438971426) (by decide) ?_
  refine lv_aload_n hx hb dX2_addToDigest_17 rfl (lv_at hl 2 rfl) ?_
  refine va_get (D := (dC, dI)) (ci := 6) (v := .ref xw) (C := RX2) (T := TX2) (N := 2) hx hb hts (by decide +kernel) hown hK hP 0 rfl rfl 0 (by decide) (hts (.fieldLink RX2 9 "Diffractory$Row" "wholes" "[J") (by decide +kernel)) (fun _ h9 => h9) rfl dX2_addToDigest_18 ?_
  refine lv_iload hx hb dX2_addToDigest_21 (lv_at hl 0 rfl) ?_
  refine va_lald hx hb hK hP 1 0 rfl rfl (by unfold vp_in; decide) dX2_addToDigest_23 ?_
  refine ax_l (y := 0) rfl ?_
  refine lv_ladd hx hb dX2_addToDigest_24 ?_
  refine ax_l (y := 7792206123438971426) (by decide) ?_
  refine lv_lstore_n (lv' := [(3, .long 7792206123438971426), (5, .int 2), (0, .ref xr), (1, .long 272177338526)]) hx hb dX2_addToDigest_25 rfl hl (by decide) rfl (fun ls hl => ?_)
  refine lv_lload_n hx hb dX2_addToDigest_26 rfl (lv_at hl 0 rfl) ?_
  refine lv_ldc2 (v := 31) hx hb hown (hts (.constantLong RX2 72 31) (by decide +kernel)) dX2_addToDigest_27 ?_
  refine lv_lmul hx hb dX2_addToDigest_30 ?_
  refine ax_l (y := 1750716868383943198) (by decide) ?_
  refine lv_aload_n hx hb dX2_addToDigest_31 rfl (lv_at hl 2 rfl) ?_
  refine va_get (D := (dC, dI)) (ci := 6) (v := .ref xt) (C := RX2) (T := TX2) (N := 2) hx hb hts (by decide +kernel) hown hK hP 0 rfl rfl 1 (by decide) (hts (.fieldLink RX2 15 "Diffractory$Row" "roots" "[J") (by decide +kernel)) (fun _ h9 => h9) rfl dX2_addToDigest_32 ?_
  refine lv_iload hx hb dX2_addToDigest_35 (lv_at hl 1 rfl) ?_
  refine va_lald hx hb hK hP 2 1 rfl rfl (by unfold vp_in; decide) dX2_addToDigest_37 ?_
  refine ax_l (y := 0) rfl ?_
  refine lv_ladd hx hb dX2_addToDigest_38 ?_
  refine ax_l (y := 1750716868383943198) (by decide) ?_
  refine lv_lstore_n (lv' := [(3, .long 1750716868383943198), (5, .int 2), (0, .ref xr), (1, .long 272177338526)]) hx hb dX2_addToDigest_39 rfl hl (by decide) rfl (fun ls hl => ?_)
  refine lv_iinc (v := 3) (lv' := [(5, .int 3), (3, .long 1750716868383943198), (0, .ref xr), (1, .long 272177338526)]) hx hb dX2_addToDigest_40 hl (k := 1) rfl (by decide) (by decide) rfl (fun ls hl => ?_)
  refine lv_goto (tgt := 5) hx hb dX2_addToDigest_43 (by decide) ?_
  refine lv_iload hx hb dX2_addToDigest_5 (lv_at hl 0 rfl) ?_
  refine lv_bipush (v := 8) hx hb dX2_addToDigest_7 (by decide) ?_
  refine lv_icmp_ge (tgt := 46) hx hb dX2_addToDigest_9 (by decide) (fun h9 => absurd h9 (by decide)) (fun _ => ?_)
  refine lv_lload_n hx hb dX2_addToDigest_12 rfl (lv_at hl 1 rfl) ?_
  refine lv_ldc2 (v := 31) hx hb hown (hts (.constantLong RX2 72 31) (by decide +kernel)) dX2_addToDigest_13 ?_
  refine lv_lmul hx hb dX2_addToDigest_16 ?_
  refine ax_l (y := (-1068009301226415710)) (by decide) ?_
  refine lv_aload_n hx hb dX2_addToDigest_17 rfl (lv_at hl 2 rfl) ?_
  refine va_get (D := (dC, dI)) (ci := 6) (v := .ref xw) (C := RX2) (T := TX2) (N := 2) hx hb hts (by decide +kernel) hown hK hP 0 rfl rfl 0 (by decide) (hts (.fieldLink RX2 9 "Diffractory$Row" "wholes" "[J") (by decide +kernel)) (fun _ h9 => h9) rfl dX2_addToDigest_18 ?_
  refine lv_iload hx hb dX2_addToDigest_21 (lv_at hl 0 rfl) ?_
  refine va_lald hx hb hK hP 1 0 rfl rfl (by unfold vp_in; decide) dX2_addToDigest_23 ?_
  refine ax_l (y := 0) rfl ?_
  refine lv_ladd hx hb dX2_addToDigest_24 ?_
  refine ax_l (y := (-1068009301226415710)) (by decide) ?_
  refine lv_lstore_n (lv' := [(3, .long (-1068009301226415710)), (5, .int 3), (0, .ref xr), (1, .long 272177338526)]) hx hb dX2_addToDigest_25 rfl hl (by decide) rfl (fun ls hl => ?_)
  refine lv_lload_n hx hb dX2_addToDigest_26 rfl (lv_at hl 0 rfl) ?_
  refine lv_ldc2 (v := 31) hx hb hown (hts (.constantLong RX2 72 31) (by decide +kernel)) dX2_addToDigest_27 ?_
  refine lv_lmul hx hb dX2_addToDigest_30 ?_
  refine ax_l (y := 3785199809400216222) (by decide) ?_
  refine lv_aload_n hx hb dX2_addToDigest_31 rfl (lv_at hl 2 rfl) ?_
  refine va_get (D := (dC, dI)) (ci := 6) (v := .ref xt) (C := RX2) (T := TX2) (N := 2) hx hb hts (by decide +kernel) hown hK hP 0 rfl rfl 1 (by decide) (hts (.fieldLink RX2 15 "Diffractory$Row" "roots" "[J") (by decide +kernel)) (fun _ h9 => h9) rfl dX2_addToDigest_32 ?_
  refine lv_iload hx hb dX2_addToDigest_35 (lv_at hl 1 rfl) ?_
  refine va_lald hx hb hK hP 2 1 rfl rfl (by unfold vp_in; decide) dX2_addToDigest_37 ?_
  refine ax_l (y := 0) rfl ?_
  refine lv_ladd hx hb dX2_addToDigest_38 ?_
  refine ax_l (y := 3785199809400216222) (by decide) ?_
  refine lv_lstore_n (lv' := [(3, .long 3785199809400216222), (5, .int 3), (0, .ref xr), (1, .long 272177338526)]) hx hb dX2_addToDigest_39 rfl hl (by decide) rfl (fun ls hl => ?_)
  refine lv_iinc (v := 4) (lv' := [(5, .int 4), (3, .long 3785199809400216222), (0, .ref xr), (1, .long 272177338526)]) hx hb dX2_addToDigest_40 hl (k := 1) rfl (by decide) (by decide) rfl (fun ls hl => ?_)
  refine lv_goto (tgt := 5) hx hb dX2_addToDigest_43 (by decide) ?_
  refine lv_iload hx hb dX2_addToDigest_5 (lv_at hl 0 rfl) ?_
  refine lv_bipush (v := 8) hx hb dX2_addToDigest_7 (by decide) ?_
  refine lv_icmp_ge (tgt := 46) hx hb dX2_addToDigest_9 (by decide) (fun h9 => absurd h9 (by decide)) (fun _ => ?_)
  refine lv_lload_n hx hb dX2_addToDigest_12 rfl (lv_at hl 1 rfl) ?_
  refine lv_ldc2 (v := 31) hx hb hown (hts (.constantLong RX2 72 31) (by decide +kernel)) dX2_addToDigest_13 ?_
  refine lv_lmul hx hb dX2_addToDigest_16 ?_
  refine ax_l (y := 6660729649149393186) (by decide) ?_
  refine lv_aload_n hx hb dX2_addToDigest_17 rfl (lv_at hl 2 rfl) ?_
  refine va_get (D := (dC, dI)) (ci := 6) (v := .ref xw) (C := RX2) (T := TX2) (N := 2) hx hb hts (by decide +kernel) hown hK hP 0 rfl rfl 0 (by decide) (hts (.fieldLink RX2 9 "Diffractory$Row" "wholes" "[J") (by decide +kernel)) (fun _ h9 => h9) rfl dX2_addToDigest_18 ?_
  refine lv_iload hx hb dX2_addToDigest_21 (lv_at hl 0 rfl) ?_
  refine va_lald hx hb hK hP 1 0 rfl rfl (by unfold vp_in; decide) dX2_addToDigest_23 ?_
  refine ax_l (y := 0) rfl ?_
  refine lv_ladd hx hb dX2_addToDigest_24 ?_
  refine ax_l (y := 6660729649149393186) (by decide) ?_
  refine lv_lstore_n (lv' := [(3, .long 6660729649149393186), (5, .int 4), (0, .ref xr), (1, .long 272177338526)]) hx hb dX2_addToDigest_25 rfl hl (by decide) rfl (fun ls hl => ?_)
  refine lv_lload_n hx hb dX2_addToDigest_26 rfl (lv_at hl 0 rfl) ?_
  refine lv_ldc2 (v := 31) hx hb hown (hts (.constantLong RX2 72 31) (by decide +kernel)) dX2_addToDigest_27 ?_
  refine lv_lmul hx hb dX2_addToDigest_30 ?_
  refine ax_l (y := 3568434312826120990) (by decide) ?_
  refine lv_aload_n hx hb dX2_addToDigest_31 rfl (lv_at hl 2 rfl) ?_
  refine va_get (D := (dC, dI)) (ci := 6) (v := .ref xt) (C := RX2) (T := TX2) (N := 2) hx hb hts (by decide +kernel) hown hK hP 0 rfl rfl 1 (by decide) (hts (.fieldLink RX2 15 "Diffractory$Row" "roots" "[J") (by decide +kernel)) (fun _ h9 => h9) rfl dX2_addToDigest_32 ?_
  refine lv_iload hx hb dX2_addToDigest_35 (lv_at hl 1 rfl) ?_
  refine va_lald hx hb hK hP 2 1 rfl rfl (by unfold vp_in; decide) dX2_addToDigest_37 ?_
  refine ax_l (y := 0) rfl ?_
  refine lv_ladd hx hb dX2_addToDigest_38 ?_
  refine ax_l (y := 3568434312826120990) (by decide) ?_
  refine lv_lstore_n (lv' := [(3, .long 3568434312826120990), (5, .int 4), (0, .ref xr), (1, .long 272177338526)]) hx hb dX2_addToDigest_39 rfl hl (by decide) rfl (fun ls hl => ?_)
  refine lv_iinc (v := 5) (lv' := [(5, .int 5), (3, .long 3568434312826120990), (0, .ref xr), (1, .long 272177338526)]) hx hb dX2_addToDigest_40 hl (k := 1) rfl (by decide) (by decide) rfl (fun ls hl => ?_)
  refine lv_goto (tgt := 5) hx hb dX2_addToDigest_43 (by decide) ?_
  refine lv_iload hx hb dX2_addToDigest_5 (lv_at hl 0 rfl) ?_
  refine lv_bipush (v := 8) hx hb dX2_addToDigest_7 (by decide) ?_
  refine lv_icmp_ge (tgt := 46) hx hb dX2_addToDigest_9 (by decide) (fun h9 => absurd h9 (by decide)) (fun _ => ?_)
  refine lv_lload_n hx hb dX2_addToDigest_12 rfl (lv_at hl 1 rfl) ?_
  refine lv_ldc2 (v := 31) hx hb hown (hts (.constantLong RX2 72 31) (by decide +kernel)) dX2_addToDigest_13 ?_
  refine lv_lmul hx hb dX2_addToDigest_16 ?_
  refine ax_l (y := (-59000744647559006)) (by decide) ?_
  refine lv_aload_n hx hb dX2_addToDigest_17 rfl (lv_at hl 2 rfl) ?_
  refine va_get (D := (dC, dI)) (ci := 6) (v := .ref xw) (C := RX2) (T := TX2) (N := 2) hx hb hts (by decide +kernel) hown hK hP 0 rfl rfl 0 (by decide) (hts (.fieldLink RX2 9 "Diffractory$Row" "wholes" "[J") (by decide +kernel)) (fun _ h9 => h9) rfl dX2_addToDigest_18 ?_
  refine lv_iload hx hb dX2_addToDigest_21 (lv_at hl 0 rfl) ?_
  refine va_lald hx hb hK hP 1 0 rfl rfl (by unfold vp_in; decide) dX2_addToDigest_23 ?_
  refine ax_l (y := 0) rfl ?_
  refine lv_ladd hx hb dX2_addToDigest_24 ?_
  refine ax_l (y := (-59000744647559006)) (by decide) ?_
  refine lv_lstore_n (lv' := [(3, .long (-59000744647559006)), (5, .int 5), (0, .ref xr), (1, .long 272177338526)]) hx hb dX2_addToDigest_25 rfl hl (by decide) rfl (fun ls hl => ?_)
  refine lv_lload_n hx hb dX2_addToDigest_26 rfl (lv_at hl 0 rfl) ?_
  refine lv_ldc2 (v := 31) hx hb hown (hts (.constantLong RX2 72 31) (by decide +kernel)) dX2_addToDigest_27 ?_
  refine lv_lmul hx hb dX2_addToDigest_30 ?_
  refine ax_l (y := (-1829023084074329186)) (by decide) ?_
  refine lv_aload_n hx hb dX2_addToDigest_31 rfl (lv_at hl 2 rfl) ?_
  refine va_get (D := (dC, dI)) (ci := 6) (v := .ref xt) (C := RX2) (T := TX2) (N := 2) hx hb hts (by decide +kernel) hown hK hP 0 rfl rfl 1 (by decide) (hts (.fieldLink RX2 15 "Diffractory$Row" "roots" "[J") (by decide +kernel)) (fun _ h9 => h9) rfl dX2_addToDigest_32 ?_
  refine lv_iload hx hb dX2_addToDigest_35 (lv_at hl 1 rfl) ?_
  refine va_lald hx hb hK hP 2 1 rfl rfl (by unfold vp_in; decide) dX2_addToDigest_37 ?_
  refine ax_l (y := 0) rfl ?_
  refine lv_ladd hx hb dX2_addToDigest_38 ?_
  refine ax_l (y := (-1829023084074329186)) (by decide) ?_
  refine lv_lstore_n (lv' := [(3, .long (-1829023084074329186)), (5, .int 5), (0, .ref xr), (1, .long 272177338526)]) hx hb dX2_addToDigest_39 rfl hl (by decide) rfl (fun ls hl => ?_)
  refine lv_iinc (v := 6) (lv' := [(5, .int 6), (3, .long (-1829023084074329186)), (0, .ref xr), (1, .long 272177338526)]) hx hb dX2_addToDigest_40 hl (k := 1) rfl (by decide) (by decide) rfl (fun ls hl => ?_)
  refine lv_goto (tgt := 5) hx hb dX2_addToDigest_43 (by decide) ?_
  refine lv_iload hx hb dX2_addToDigest_5 (lv_at hl 0 rfl) ?_
  refine lv_bipush (v := 8) hx hb dX2_addToDigest_7 (by decide) ?_
  refine lv_icmp_ge (tgt := 46) hx hb dX2_addToDigest_9 (by decide) (fun h9 => absurd h9 (by decide)) (fun _ => ?_)
  refine lv_lload_n hx hb dX2_addToDigest_12 rfl (lv_at hl 1 rfl) ?_
  refine lv_ldc2 (v := 31) hx hb hown (hts (.constantLong RX2 72 31) (by decide +kernel)) dX2_addToDigest_13 ?_
  refine lv_lmul hx hb dX2_addToDigest_16 ?_
  refine ax_l (y := (-1359483385175549918)) (by decide) ?_
  refine lv_aload_n hx hb dX2_addToDigest_17 rfl (lv_at hl 2 rfl) ?_
  refine va_get (D := (dC, dI)) (ci := 6) (v := .ref xw) (C := RX2) (T := TX2) (N := 2) hx hb hts (by decide +kernel) hown hK hP 0 rfl rfl 0 (by decide) (hts (.fieldLink RX2 9 "Diffractory$Row" "wholes" "[J") (by decide +kernel)) (fun _ h9 => h9) rfl dX2_addToDigest_18 ?_
  refine lv_iload hx hb dX2_addToDigest_21 (lv_at hl 0 rfl) ?_
  refine va_lald hx hb hK hP 1 0 rfl rfl (by unfold vp_in; decide) dX2_addToDigest_23 ?_
  refine ax_l (y := 0) rfl ?_
  refine lv_ladd hx hb dX2_addToDigest_24 ?_
  refine ax_l (y := (-1359483385175549918)) (by decide) ?_
  refine lv_lstore_n (lv' := [(3, .long (-1359483385175549918)), (5, .int 6), (0, .ref xr), (1, .long 272177338526)]) hx hb dX2_addToDigest_25 rfl hl (by decide) rfl (fun ls hl => ?_)
  refine lv_lload_n hx hb dX2_addToDigest_26 rfl (lv_at hl 0 rfl) ?_
  refine lv_ldc2 (v := 31) hx hb hown (hts (.constantLong RX2 72 31) (by decide +kernel)) dX2_addToDigest_27 ?_
  refine lv_lmul hx hb dX2_addToDigest_30 ?_
  refine ax_l (y := (-5250496793022944226)) (by decide) ?_
  refine lv_aload_n hx hb dX2_addToDigest_31 rfl (lv_at hl 2 rfl) ?_
  refine va_get (D := (dC, dI)) (ci := 6) (v := .ref xt) (C := RX2) (T := TX2) (N := 2) hx hb hts (by decide +kernel) hown hK hP 0 rfl rfl 1 (by decide) (hts (.fieldLink RX2 15 "Diffractory$Row" "roots" "[J") (by decide +kernel)) (fun _ h9 => h9) rfl dX2_addToDigest_32 ?_
  refine lv_iload hx hb dX2_addToDigest_35 (lv_at hl 1 rfl) ?_
  refine va_lald hx hb hK hP 2 1 rfl rfl (by unfold vp_in; decide) dX2_addToDigest_37 ?_
  refine ax_l (y := 0) rfl ?_
  refine lv_ladd hx hb dX2_addToDigest_38 ?_
  refine ax_l (y := (-5250496793022944226)) (by decide) ?_
  refine lv_lstore_n (lv' := [(3, .long (-5250496793022944226)), (5, .int 6), (0, .ref xr), (1, .long 272177338526)]) hx hb dX2_addToDigest_39 rfl hl (by decide) rfl (fun ls hl => ?_)
  refine lv_iinc (v := 7) (lv' := [(5, .int 7), (3, .long (-5250496793022944226)), (0, .ref xr), (1, .long 272177338526)]) hx hb dX2_addToDigest_40 hl (k := 1) rfl (by decide) (by decide) rfl (fun ls hl => ?_)
  refine lv_goto (tgt := 5) hx hb dX2_addToDigest_43 (by decide) ?_
  refine lv_iload hx hb dX2_addToDigest_5 (lv_at hl 0 rfl) ?_
  refine lv_bipush (v := 8) hx hb dX2_addToDigest_7 (by decide) ?_
  refine lv_icmp_ge (tgt := 46) hx hb dX2_addToDigest_9 (by decide) (fun h9 => absurd h9 (by decide)) (fun _ => ?_)
  refine lv_lload_n hx hb dX2_addToDigest_12 rfl (lv_at hl 1 rfl) ?_
  refine lv_ldc2 (v := 31) hx hb hown (hts (.constantLong RX2 72 31) (by decide +kernel)) dX2_addToDigest_13 ?_
  refine lv_lmul hx hb dX2_addToDigest_16 ?_
  refine ax_l (y := 3255296079674693538) (by decide) ?_
  refine lv_aload_n hx hb dX2_addToDigest_17 rfl (lv_at hl 2 rfl) ?_
  refine va_get (D := (dC, dI)) (ci := 6) (v := .ref xw) (C := RX2) (T := TX2) (N := 2) hx hb hts (by decide +kernel) hown hK hP 0 rfl rfl 0 (by decide) (hts (.fieldLink RX2 9 "Diffractory$Row" "wholes" "[J") (by decide +kernel)) (fun _ h9 => h9) rfl dX2_addToDigest_18 ?_
  refine lv_iload hx hb dX2_addToDigest_21 (lv_at hl 0 rfl) ?_
  refine va_lald hx hb hK hP 1 0 rfl rfl (by unfold vp_in; decide) dX2_addToDigest_23 ?_
  refine ax_l (y := 0) rfl ?_
  refine lv_ladd hx hb dX2_addToDigest_24 ?_
  refine ax_l (y := 3255296079674693538) (by decide) ?_
  refine lv_lstore_n (lv' := [(3, .long 3255296079674693538), (5, .int 7), (0, .ref xr), (1, .long 272177338526)]) hx hb dX2_addToDigest_25 rfl hl (by decide) rfl (fun ls hl => ?_)
  refine lv_lload_n hx hb dX2_addToDigest_26 rfl (lv_at hl 0 rfl) ?_
  refine lv_ldc2 (v := 31) hx hb hown (hts (.constantLong RX2 72 31) (by decide +kernel)) dX2_addToDigest_27 ?_
  refine lv_lmul hx hb dX2_addToDigest_30 ?_
  refine ax_l (y := 8680458101367741598) (by decide) ?_
  refine lv_aload_n hx hb dX2_addToDigest_31 rfl (lv_at hl 2 rfl) ?_
  refine va_get (D := (dC, dI)) (ci := 6) (v := .ref xt) (C := RX2) (T := TX2) (N := 2) hx hb hts (by decide +kernel) hown hK hP 0 rfl rfl 1 (by decide) (hts (.fieldLink RX2 15 "Diffractory$Row" "roots" "[J") (by decide +kernel)) (fun _ h9 => h9) rfl dX2_addToDigest_32 ?_
  refine lv_iload hx hb dX2_addToDigest_35 (lv_at hl 1 rfl) ?_
  refine va_lald hx hb hK hP 2 1 rfl rfl (by unfold vp_in; decide) dX2_addToDigest_37 ?_
  refine ax_l (y := 0) rfl ?_
  refine lv_ladd hx hb dX2_addToDigest_38 ?_
  refine ax_l (y := 8680458101367741598) (by decide) ?_
  refine lv_lstore_n (lv' := [(3, .long 8680458101367741598), (5, .int 7), (0, .ref xr), (1, .long 272177338526)]) hx hb dX2_addToDigest_39 rfl hl (by decide) rfl (fun ls hl => ?_)
  refine lv_iinc (v := 8) (lv' := [(5, .int 8), (3, .long 8680458101367741598), (0, .ref xr), (1, .long 272177338526)]) hx hb dX2_addToDigest_40 hl (k := 1) rfl (by decide) (by decide) rfl (fun ls hl => ?_)
  refine lv_goto (tgt := 5) hx hb dX2_addToDigest_43 (by decide) ?_
  refine lv_iload hx hb dX2_addToDigest_5 (lv_at hl 0 rfl) ?_
  refine lv_bipush (v := 8) hx hb dX2_addToDigest_7 (by decide) ?_
  refine lv_icmp_ge (tgt := 46) hx hb dX2_addToDigest_9 (by decide) (fun _ => ?_) (fun h9 => absurd (by decide) h9)
  refine lv_lload_n hx hb dX2_addToDigest_46 rfl (lv_at hl 1 rfl) ?_
  refine lv_ldc2 (v := 31) hx hb hown (hts (.constantLong RX2 72 31) (by decide +kernel)) dX2_addToDigest_47 ?_
  refine lv_lmul hx hb dX2_addToDigest_50 ?_
  refine ax_l (y := (-7606959963243284702)) (by decide) ?_
  refine lv_aload_n hx hb dX2_addToDigest_51 rfl (lv_at hl 2 rfl) ?_
  have hPc := hP.sub (ws' := [(xr, .inr (6, [.ref xw, .ref xt])), (xw, .inl (cw, 8, .inr (.inl (fun _ => 0)))), (xt, .inl (ct, 8, .inr (.inl (fun _ => 0))))]) [0, 1, 2] rfl
  have hKc := hK.sub (tys' := [(cw, .long), (ct, .long)]) [0, 1] rfl
  refine va_calli (va_runV (As := []) (rest := [.long (-7606959963243284702)]) ⟨hx, hb, hml, hown, hts⟩ (c_X2_placeOfGreatest l dC dI xr xw xt cw ct sa ta) (cwV 0 hts gX2_addToDigest_X2_placeOfGreatest rfl rfl rfl (by decide +kernel) ⟨Nat.le_of_ble_eq_true rfl, Nat.le_of_ble_eq_true rfl⟩) ⟨ax_fbR, va_recv hK hP (ci := 6) (q0 := 0) rfl rfl, ax_prR hPc hKc hS hE⟩ rfl rfl hl.1 rfl (lv_room (Nat.le_of_ble_eq_true rfl)) dX2_addToDigest_52 ⟨Nat.le_of_ble_eq_true rfl, Nat.le_of_ble_eq_true rfl⟩) hS (fun _ _ h9 => h9.elim) (fun _ h9 => h9.elim) (fun r_1 u_3  t H locs ht hvm hw_2 hB hz1 hk1 hS => ?_)
  have hP := ax_keep hP (fun _ h9 => h9) hk1
  refine ax_i (y := 0) hw_2 ?_
  refine lv_i2l (v := 0) hx hb dX2_addToDigest_55 (by decide) ?_
  refine lv_ladd hx hb dX2_addToDigest_56 ?_
  refine ax_l (y := (-7606959963243284702)) (by decide) ?_
  refine lv_lstore_n (lv' := [(3, .long (-7606959963243284702)), (5, .int 8), (0, .ref xr), (1, .long 272177338526)]) hx hb dX2_addToDigest_57 rfl hl (by decide) rfl (fun ls hl => ?_)
  refine lv_lload_n hx hb dX2_addToDigest_58 rfl (lv_at hl 0 rfl) ?_
  refine lv_ldc2 (v := 31) hx hb hown (hts (.constantLong RX2 72 31) (by decide +kernel)) dX2_addToDigest_59 ?_
  refine lv_lmul hx hb dX2_addToDigest_62 ?_
  refine ax_l (y := 3991914097682345246) (by decide) ?_
  refine lv_aload_n hx hb dX2_addToDigest_63 rfl (lv_at hl 2 rfl) ?_
  have hPc := hP.sub (ws' := [(xr, .inr (6, [.ref xw, .ref xt])), (xw, .inl (cw, 8, .inr (.inl (fun _ => 0)))), (xt, .inl (ct, 8, .inr (.inl (fun _ => 0))))]) [0, 1, 2] rfl
  have hKc := hK.sub (tys' := [(cw, .long), (ct, .long)]) [0, 1] rfl
  refine va_calli (va_runV (As := []) (rest := [.long 3991914097682345246]) ⟨hx, hb, hml, hown, hts⟩ (c_X2_darkPlaces l dC dI xr xw xt cw ct sa ta) (cwV 0 hts gX2_addToDigest_X2_darkPlaces rfl rfl rfl (by decide +kernel) ⟨Nat.le_of_ble_eq_true rfl, Nat.le_of_ble_eq_true rfl⟩) ⟨ax_fbR, va_recv hK hP (ci := 6) (q0 := 0) rfl rfl, ax_prR hPc hKc hS hE⟩ rfl rfl hl.1 rfl (lv_room (Nat.le_of_ble_eq_true rfl)) dX2_addToDigest_64 ⟨Nat.le_of_ble_eq_true rfl, Nat.le_of_ble_eq_true rfl⟩) hS (fun _ _ h9 => h9.elim) (fun _ h9 => h9.elim) (fun r_4 u_6  t H locs ht hvm hw_5 hB hz1 hk1 hS => ?_)
  have hP := ax_keep hP (fun _ h9 => h9) hk1
  refine ax_i (y := 255) hw_5 ?_
  refine lv_i2l (v := 255) hx hb dX2_addToDigest_67 (by decide) ?_
  refine lv_ladd hx hb dX2_addToDigest_68 ?_
  refine ax_l (y := 3991914097682345501) (by decide) ?_
  refine lv_lstore_n (lv' := [(3, .long 3991914097682345501), (5, .int 8), (0, .ref xr), (1, .long 272177338526)]) hx hb dX2_addToDigest_69 rfl hl (by decide) rfl (fun ls hl => ?_)
  refine lv_lload_n hx hb dX2_addToDigest_70 rfl (lv_at hl 0 rfl) ?_
  refine lv_ldc2 (v := 31) hx hb hown (hts (.constantLong RX2 72 31) (by decide +kernel)) dX2_addToDigest_71 ?_
  refine lv_lmul hx hb dX2_addToDigest_74 ?_
  refine ax_l (y := (-5377871487814150781)) (by decide) ?_
  refine lv_aload_n hx hb dX2_addToDigest_75 rfl (lv_at hl 2 rfl) ?_
  have hPc := hP.sub (ws' := [(xr, .inr (6, [.ref xw, .ref xt])), (xw, .inl (cw, 8, .inr (.inl (fun _ => 0)))), (xt, .inl (ct, 8, .inr (.inl (fun _ => 0))))]) [0, 1, 2] rfl
  have hKc := hK.sub (tys' := [(cw, .long), (ct, .long)]) [0, 1] rfl
  refine va_calli (va_runV (As := []) (rest := [.long (-5377871487814150781)]) ⟨hx, hb, hml, hown, hts⟩ (c_X2_shortestRoll l dC dI xr xw xt cw ct sa ta) (cwV 0 hts gX2_addToDigest_X2_shortestRoll rfl rfl rfl (by decide +kernel) ⟨Nat.le_of_ble_eq_true rfl, Nat.le_of_ble_eq_true rfl⟩) ⟨ax_fbR, va_recv hK hP (ci := 6) (q0 := 0) rfl rfl, ax_prR hPc hKc hS hE⟩ rfl rfl hl.1 rfl (lv_room (Nat.le_of_ble_eq_true rfl)) dX2_addToDigest_76 ⟨Nat.le_of_ble_eq_true rfl, Nat.le_of_ble_eq_true rfl⟩) hS (fun _ _ h9 => h9.elim) (fun _ h9 => h9.elim) (fun r_7 u_9  t H locs ht hvm hw_8 hB hz1 hk1 hS => ?_)
  have hP := ax_keep hP (fun _ h9 => h9) hk1
  refine ax_i (y := 1) hw_8 ?_
  refine lv_i2l (v := 1) hx hb dX2_addToDigest_79 (by decide) ?_
  refine lv_ladd hx hb dX2_addToDigest_80 ?_
  refine ax_l (y := (-5377871487814150780)) (by decide) ?_
  refine W.widen (k := 0) (n := 0) (Nat.le_of_ble_eq_true rfl) (Nat.le_of_ble_eq_true rfl) ?_
  exact W.lret (v := (-5377871487814150780)) hx hb hr (fun t ht hW => ⟨⟨(-5377871487814150780), (), rfl, rfl, trivial⟩, hS.F ht⟩) hS.2.2 dX2_addToDigest_81
