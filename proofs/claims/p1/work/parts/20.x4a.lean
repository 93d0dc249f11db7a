set_option maxHeartbeats 4000000 in
set_option maxRecDepth 100000 in
theorem c_X4_isPlace (l : Launch) (p0 : Int32) : Met l yX4_isPlace wsX4_isPlace ({ frames := 8, cells := 0, slots := 0, locals := 200 }) (va_Pc [.int p0] (fun _ => True)) (va_Qi (fun (r : Int32) (u : Unit) => ax_bo r (0 ≤ p0.toInt ∧ p0.toInt ≤ 7)) (fun _ _ => True) ax_no) 0 0 ax_no := by
  refine Met.ofW (cc := cX4_isPlace) (maxL := 1) (ret := (some .boolean)) (by decide) rfl ?_
  intro p e s m args below meth c s₁ B hml hv
  obtain ⟨rfl, -⟩ := hv
  have hx := B.exec
  have hb := B.bytes
  have hr := B.returns
  have hts := atoms_spec (ws := wsX4_isPlace) B.pre
  have hown : s.vm.findClass RX4 = some m.cls := findClass_of_methodNamed B.named
  have hlocks := B.notSynchronized
  have hS : va_S ax_no s.heap s.heap [] := va_S.rf
  have hl := lv_entry ([.int p0]) (n := 1) (Nat.le_of_ble_eq_true rfl)
  rw [lg_entry_eq]
  generalize (lg_sl ([.int p0]) ++ List.replicate (1 - (lg_sl ([.int p0])).length) Slot.unset).toArray = ls at hl ⊢
  have hl : lv_has ls 1 [(0, .int p0)] := hl
  refine lv_iload_n hx hb dX4_isPlace_0 rfl (lv_at hl 0 rfl) ?_
  refine lv_if_lt (tgt := 14) hx hb dX4_isPlace_1 (by decide) (fun c_1 => ?_) (fun c_1 => ?_)
  · have c_1 : p0.toInt < 0 := (ax_lt _ _).mp c_1
    refine lv_iconst (v := 0) hx hb dX4_isPlace_14 (by decide) ?_
    refine W.widen (k := 0) (n := 0) (Nat.le_of_ble_eq_true rfl) (Nat.le_of_ble_eq_true rfl) ?_
    exact W.zret (v := 0) (ty := .boolean) hx hb hr (by decide +kernel) (fun t ht hW => ⟨⟨0, (), rfl, Or.inr ⟨rfl, by omega⟩, trivial⟩, hS.F ht⟩) hS.2.2 dX4_isPlace_15
  · have c_1 : ¬ p0.toInt < 0 := fun h9 => c_1 ((ax_lt _ _).mpr h9)
    refine lv_iload_n hx hb dX4_isPlace_4 rfl (lv_at hl 0 rfl) ?_
    refine lv_bipush (v := 8) hx hb dX4_isPlace_5 (by decide) ?_
    refine lv_icmp_ge (tgt := 14) hx hb dX4_isPlace_7 (by decide) (fun c_2 => ?_) (fun c_2 => ?_)
    · have c_2 : 8 ≤ p0.toInt := (ax_le _ _).mp c_2
      refine lv_iconst (v := 0) hx hb dX4_isPlace_14 (by decide) ?_
      refine W.widen (k := 0) (n := 0) (Nat.le_of_ble_eq_true rfl) (Nat.le_of_ble_eq_true rfl) ?_
      exact W.zret (v := 0) (ty := .boolean) hx hb hr (by decide +kernel) (fun t ht hW => ⟨⟨0, (), rfl, Or.inr ⟨rfl, by omega⟩, trivial⟩, hS.F ht⟩) hS.2.2 dX4_isPlace_15
    · have c_2 : ¬ 8 ≤ p0.toInt := fun h9 => c_2 ((ax_le _ _).mpr h9)
      refine lv_iconst (v := 1) hx hb dX4_isPlace_10 (by decide) ?_
      refine lv_goto (tgt := 15) hx hb dX4_isPlace_11 (by decide) ?_
      refine W.widen (k := 0) (n := 0) (Nat.le_of_ble_eq_true rfl) (Nat.le_of_ble_eq_true rfl) ?_
      exact W.zret (v := 1) (ty := .boolean) hx hb hr (by decide +kernel) (fun t ht hW => ⟨⟨1, (), rfl, Or.inl ⟨rfl, by omega⟩, trivial⟩, hS.F ht⟩) hS.2.2 dX4_isPlace_15

set_option maxHeartbeats 4000000 in
set_option maxRecDepth 100000 in
theorem c_X4_checkPlace (l : Launch) (hlt : l.stackTraces = false) (dC : Nat → ClassId) (dI : Nat → Nat → Nat) (sa ta : Nat → Nat) (p0 : Int32) : vx_Met l yX4_checkPlace wsX4_checkPlace ({ frames := 16, cells := 1, slots := 6, locals := 400 }) (va_Pc [.int p0] (ax_R (dC, dI) vwCl [] [] sa ta)) (va_Qv (fun (u : Unit) => (0 ≤ p0.toInt ∧ p0.toInt ≤ 7)) (fun _ _ => True) ax_no) (vx_X (fun _ : Unit => ¬ (0 ≤ p0.toInt ∧ p0.toInt ≤ 7)) (fun E _ _ => E = "java/lang/IndexOutOfBoundsException") ax_no) 1 6 ax_no := by
  refine vx_ofW (cc := cX4_checkPlace) (maxL := 1) (ret := none) (by decide) rfl ?_
  intro p e s m args below meth c s₁ B hml hnt hv
  obtain ⟨rfl, hP, hK, hE⟩ := hv
  have hx := B.exec
  have hb := B.bytes
  have hr := B.returns
  have hts := atoms_spec (ws := wsX4_checkPlace) B.pre
  have hown : s.vm.findClass RX4 = some m.cls := findClass_of_methodNamed B.named
  have hlocks := B.notSynchronized
  have hS : va_S ax_no s.heap s.heap [] := va_S.rf
  have hl := lv_entry ([.int p0]) (n := 1) (Nat.le_of_ble_eq_true rfl)
  rw [lg_entry_eq]
  generalize (lg_sl ([.int p0]) ++ List.replicate (1 - (lg_sl ([.int p0])).length) Slot.unset).toArray = ls at hl ⊢
  have hl : lv_has ls 1 [(0, .int p0)] := hl
  have hP : va_P (dC, dI) vwCl [] s.heap := hP
  refine lv_iload_n hx hb dX4_checkPlace_0 rfl (lv_at hl 0 rfl) ?_
  refine va_calli (va_runS (As := [.int p0]) (rest := []) ⟨hx, hb, hml, hown, hts⟩ (c_X4_isPlace l p0) (va_cwS 1 hts gX4_checkPlace_X4_isPlace rfl rfl rfl (by decide +kernel) ⟨Nat.le_of_ble_eq_true rfl, Nat.le_of_ble_eq_true rfl⟩) ⟨ax_fbP, ax_prP⟩ rfl rfl hl.1 rfl (lv_room (Nat.le_of_ble_eq_true rfl)) dX4_checkPlace_1 ⟨Nat.le_of_ble_eq_true rfl, Nat.le_of_ble_eq_true rfl⟩) hS (fun _ _ h9 => h9.elim) (fun _ h9 => h9.elim) (fun r_1 u_3  t H locs ht hvm hw_2 hB hz1 hk1 hS => ?_)
  have hP := ax_keep hP (fun _ h9 => h9) hk1
  rcases hw_2 with ⟨hr9, hw_2⟩ | ⟨hr9, hw_2⟩
  · refine ax_i hr9 ?_
    refine lv_if_ne (tgt := 18) hx hb dX4_checkPlace_4 (by decide) (fun _ => ?_) (fun h9 => absurd h9 (by decide))
    refine W.widen (k := 1) (n := 6) (Nat.le_of_ble_eq_true rfl) (Nat.le_of_ble_eq_true rfl) ?_
    refine vx_ret ?_
    exact W.vret hx hb hr (fun t ht hW => ⟨⟨(), rfl, by omega, trivial⟩, hS.F ht⟩) hS.2.2 dX4_checkPlace_18
  · refine ax_i hr9 ?_
    refine lv_if_ne (tgt := 18) hx hb dX4_checkPlace_4 (by decide) (fun h9 => absurd rfl h9) (fun _ => ?_)
    exact vx_throwSW hx hb hlt (own := RX4) (cls := "java/lang/IndexOutOfBoundsException") (names := ["java/lang/RuntimeException", "java/lang/Exception"]) hown (by decide +kernel) (by decide +kernel) (hts (.classLink RX4 59 "java/lang/IndexOutOfBoundsException") (by decide +kernel)) (hts (.initialized "java/lang/IndexOutOfBoundsException") (by decide +kernel)) hE.s262 (ax_hat63 hE (fun w h9 => hts w (by first | exact List.mem_cons_of_mem _ (List.mem_append_right _ h9) | exact List.mem_cons_of_mem _ (List.mem_append_left _ (List.mem_append_right _ h9)) | exact List.mem_cons_of_mem _ (List.mem_append_left _ (List.mem_append_left _ (List.mem_append_right _ h9))) | exact List.mem_cons_of_mem _ (List.mem_append_left _ (List.mem_append_left _ (List.mem_append_left _ (List.mem_append_right _ h9)))) | exact List.mem_cons_of_mem _ (List.mem_append_left _ (List.mem_append_left _ (List.mem_append_left _ (List.mem_append_left _ (List.mem_append_right _ h9)))))))) ax_gd63 hE.zU hE.zN hS (hl.1.trans hml.symm) dX4_checkPlace_7 dX4_checkPlace_10 dX4_checkPlace_11 dX4_checkPlace_14 dX4_checkPlace_17 (fun x h9 => (hnt x h9).elim) (Nat.le_of_ble_eq_true rfl) (Nat.le_of_ble_eq_true rfl) (Nat.le_of_ble_eq_true rfl) (Nat.le_of_ble_eq_true rfl) hlocks (fun t hal hz1 hk1 => ⟨(), by first | trivial | omega, rfl, ax_vaF hS hz1 hk1⟩) hS.2.2 (Nat.le_of_ble_eq_true rfl) (Nat.le_of_ble_eq_true rfl)

set_option maxHeartbeats 4000000 in
set_option maxRecDepth 100000 in
theorem c_X4_checkSource (l : Launch) (hlt : l.stackTraces = false) (dC : Nat → ClassId) (dI : Nat → Nat → Nat) (sa ta : Nat → Nat) (p0 : Int32) (p1 : Int32) (p2 : Int32) : vx_Met l yX4_checkSource wsX4_checkSource ({ frames := 16, cells := 1, slots := 6, locals := 400 }) (va_Pc [.int p0, .int p1, .int p2] (ax_R (dC, dI) vwCl [] [] sa ta)) (va_Qv (fun (u : Unit) => (0 ≤ p0.toInt ∧ p0.toInt ≤ 7) ∧ (0 ≤ p1.toInt ∧ p1.toInt ≤ 7) ∧ (1 ≤ p2.toInt ∧ p2.toInt ≤ 9)) (fun _ _ => True) ax_no) (vx_X (fun _ : Unit => ¬ ((0 ≤ p0.toInt ∧ p0.toInt ≤ 7) ∧ (0 ≤ p1.toInt ∧ p1.toInt ≤ 7) ∧ (1 ≤ p2.toInt ∧ p2.toInt ≤ 9))) (fun E _ _ => E = "java/lang/IllegalArgumentException") ax_no) 1 6 ax_no := by
  refine vx_ofW (cc := cX4_checkSource) (maxL := 3) (ret := none) (by decide) rfl ?_
  intro p e s m args below meth c s₁ B hml hnt hv
  obtain ⟨rfl, hP, hK, hE⟩ := hv
  have hx := B.exec
  have hb := B.bytes
  have hr := B.returns
  have hts := atoms_spec (ws := wsX4_checkSource) B.pre
  have hown : s.vm.findClass RX4 = some m.cls := findClass_of_methodNamed B.named
  have hlocks := B.notSynchronized
  have hS : va_S ax_no s.heap s.heap [] := va_S.rf
  have hl := lv_entry ([.int p0, .int p1, .int p2]) (n := 3) (Nat.le_of_ble_eq_true rfl)
  rw [lg_entry_eq]
  generalize (lg_sl ([.int p0, .int p1, .int p2]) ++ List.replicate (3 - (lg_sl ([.int p0, .int p1, .int p2])).length) Slot.unset).toArray = ls at hl ⊢
  have hl : lv_has ls 3 [(0, .int p0), (1, .int p1), (2, .int p2)] := hl
  have hP : va_P (dC, dI) vwCl [] s.heap := hP
  refine lv_iload_n hx hb dX4_checkSource_0 rfl (lv_at hl 0 rfl) ?_
  refine va_calli (va_runS (As := [.int p0]) (rest := []) ⟨hx, hb, hml, hown, hts⟩ (c_X4_isPlace l p0) (va_cwS 1 hts gX4_checkSource_X4_isPlace rfl rfl rfl (by decide +kernel) ⟨Nat.le_of_ble_eq_true rfl, Nat.le_of_ble_eq_true rfl⟩) ⟨ax_fbP, ax_prP⟩ rfl rfl hl.1 rfl (lv_room (Nat.le_of_ble_eq_true rfl)) dX4_checkSource_1 ⟨Nat.le_of_ble_eq_true rfl, Nat.le_of_ble_eq_true rfl⟩) hS (fun _ _ h9 => h9.elim) (fun _ h9 => h9.elim) (fun r_1 u_3  t H locs ht hvm hw_2 hB hz1 hk1 hS => ?_)
  have hP := ax_keep hP (fun _ h9 => h9) hk1
  rcases hw_2 with ⟨hr9, hw_2⟩ | ⟨hr9, hw_2⟩
  · refine ax_i hr9 ?_
    refine lv_if_eq (tgt := 28) hx hb dX4_checkSource_4 (by decide) (fun h9 => absurd h9 (by decide)) (fun _ => ?_)
    refine lv_iload_n hx hb dX4_checkSource_7 rfl (lv_at hl 1 rfl) ?_
    refine lv_if_lt (tgt := 28) hx hb dX4_checkSource_8 (by decide) (fun c_4 => ?_) (fun c_4 => ?_)
    · have c_4 : p1.toInt < 0 := (ax_lt _ _).mp c_4
      exact vx_throwSW hx hb hlt (own := RX4) (cls := "java/lang/IllegalArgumentException") (names := ["java/lang/RuntimeException", "java/lang/Exception"]) hown (by decide +kernel) (by decide +kernel) (hts (.classLink RX4 77 "java/lang/IllegalArgumentException") (by decide +kernel)) (hts (.initialized "java/lang/IllegalArgumentException") (by decide +kernel)) hE.s264 (ax_hat81 hE (fun w h9 => hts w (by first | exact List.mem_cons_of_mem _ (List.mem_append_right _ h9) | exact List.mem_cons_of_mem _ (List.mem_append_left _ (List.mem_append_right _ h9)) | exact List.mem_cons_of_mem _ (List.mem_append_left _ (List.mem_append_left _ (List.mem_append_right _ h9))) | exact List.mem_cons_of_mem _ (List.mem_append_left _ (List.mem_append_left _ (List.mem_append_left _ (List.mem_append_right _ h9)))) | exact List.mem_cons_of_mem _ (List.mem_append_left _ (List.mem_append_left _ (List.mem_append_left _ (List.mem_append_left _ (List.mem_append_right _ h9)))))))) ax_gd81 hE.zU hE.zN hS (hl.1.trans hml.symm) dX4_checkSource_28 dX4_checkSource_31 dX4_checkSource_32 dX4_checkSource_35 dX4_checkSource_38 (fun x h9 => (hnt x h9).elim) (Nat.le_of_ble_eq_true rfl) (Nat.le_of_ble_eq_true rfl) (Nat.le_of_ble_eq_true rfl) (Nat.le_of_ble_eq_true rfl) hlocks (fun t hal hz1 hk1 => ⟨(), by first | trivial | omega, rfl, ax_vaF hS hz1 hk1⟩) hS.2.2 (Nat.le_of_ble_eq_true rfl) (Nat.le_of_ble_eq_true rfl)
    · have c_4 : ¬ p1.toInt < 0 := fun h9 => c_4 ((ax_lt _ _).mpr h9)
      refine lv_iload_n hx hb dX4_checkSource_11 rfl (lv_at hl 1 rfl) ?_
      refine lv_bipush (v := 7) hx hb dX4_checkSource_12 (by decide) ?_
      refine lv_icmp_gt (tgt := 28) hx hb dX4_checkSource_14 (by decide) (fun c_5 => ?_) (fun c_5 => ?_)
      · have c_5 : 7 < p1.toInt := (ax_lt _ _).mp c_5
        exact vx_throwSW hx hb hlt (own := RX4) (cls := "java/lang/IllegalArgumentException") (names := ["java/lang/RuntimeException", "java/lang/Exception"]) hown (by decide +kernel) (by decide +kernel) (hts (.classLink RX4 77 "java/lang/IllegalArgumentException") (by decide +kernel)) (hts (.initialized "java/lang/IllegalArgumentException") (by decide +kernel)) hE.s264 (ax_hat81 hE (fun w h9 => hts w (by first | exact List.mem_cons_of_mem _ (List.mem_append_right _ h9) | exact List.mem_cons_of_mem _ (List.mem_append_left _ (List.mem_append_right _ h9)) | exact List.mem_cons_of_mem _ (List.mem_append_left _ (List.mem_append_left _ (List.mem_append_right _ h9))) | exact List.mem_cons_of_mem _ (List.mem_append_left _ (List.mem_append_left _ (List.mem_append_left _ (List.mem_append_right _ h9)))) | exact List.mem_cons_of_mem _ (List.mem_append_left _ (List.mem_append_left _ (List.mem_append_left _ (List.mem_append_left _ (List.mem_append_right _ h9)))))))) ax_gd81 hE.zU hE.zN hS (hl.1.trans hml.symm) dX4_checkSource_28 dX4_checkSource_31 dX4_checkSource_32 dX4_checkSource_35 dX4_checkSource_38 (fun x h9 => (hnt x h9).elim) (Nat.le_of_ble_eq_true rfl) (Nat.le_of_ble_eq_true rfl) (Nat.le_of_ble_eq_true rfl) (Nat.le_of_ble_eq_true rfl) hlocks (fun t hal hz1 hk1 => ⟨(), by first | trivial | omega, rfl, ax_vaF hS hz1 hk1⟩) hS.2.2 (Nat.le_of_ble_eq_true rfl) (Nat.le_of_ble_eq_true rfl)
      · have c_5 : ¬ 7 < p1.toInt := fun h9 => c_5 ((ax_lt _ _).mpr h9)
        refine lv_iload_n hx hb dX4_checkSource_17 rfl (lv_at hl 2 rfl) ?_
        refine lv_iconst (v := 1) hx hb dX4_checkSource_18 (by decide) ?_
        refine lv_icmp_lt (tgt := 28) hx hb dX4_checkSource_19 (by decide) (fun c_6 => ?_) (fun c_6 => ?_)
        · have c_6 : p2.toInt < 1 := (ax_lt _ _).mp c_6
          exact vx_throwSW hx hb hlt (own := RX4) (cls := "java/lang/IllegalArgumentException") (names := ["java/lang/RuntimeException", "java/lang/Exception"]) hown (by decide +kernel) (by decide +kernel) (hts (.classLink RX4 77 "java/lang/IllegalArgumentException") (by decide +kernel)) (hts (.initialized "java/lang/IllegalArgumentException") (by decide +kernel)) hE.s264 (ax_hat81 hE (fun w h9 => hts w (by first | exact List.mem_cons_of_mem _ (List.mem_append_right _ h9) | exact List.mem_cons_of_mem _ (List.mem_append_left _ (List.mem_append_right _ h9)) | exact List.mem_cons_of_mem _ (List.mem_append_left _ (List.mem_append_left _ (List.mem_append_right _ h9))) | exact List.mem_cons_of_mem _ (List.mem_append_left _ (List.mem_append_left _ (List.mem_append_left _ (List.mem_append_right _ h9)))) | exact List.mem_cons_of_mem _ (List.mem_append_left _ (List.mem_append_left _ (List.mem_append_left _ (List.mem_append_left _ (List.mem_append_right _ h9)))))))) ax_gd81 hE.zU hE.zN hS (hl.1.trans hml.symm) dX4_checkSource_28 dX4_checkSource_31 dX4_checkSource_32 dX4_checkSource_35 dX4_checkSource_38 (fun x h9 => (hnt x h9).elim) (Nat.le_of_ble_eq_true rfl) (Nat.le_of_ble_eq_true rfl) (Nat.le_of_ble_eq_true rfl) (Nat.le_of_ble_eq_true rfl) hlocks (fun t hal hz1 hk1 => ⟨(), by first | trivial | omega, rfl, ax_vaF hS hz1 hk1⟩) hS.2.2 (Nat.le_of_ble_eq_true rfl) (Nat.le_of_ble_eq_true rfl)
        · have c_6 : ¬ p2.toInt < 1 := fun h9 => c_6 ((ax_lt _ _).mpr h9)
          refine lv_iload_n hx hb dX4_checkSource_22 rfl (lv_at hl 2 rfl) ?_
          refine lv_bipush (v := 9) hx hb dX4_checkSource_23 (by decide) ?_
          refine lv_icmp_le (tgt := 39) hx hb dX4_checkSource_25 (by decide) (fun c_7 => ?_) (fun c_7 => ?_)
          · have c_7 : p2.toInt ≤ 9 := (ax_le _ _).mp c_7
            refine W.widen (k := 1) (n := 6) (Nat.le_of_ble_eq_true rfl) (Nat.le_of_ble_eq_true rfl) ?_
            refine vx_ret ?_
            exact W.vret hx hb hr (fun t ht hW => ⟨⟨(), rfl, by omega, trivial⟩, hS.F ht⟩) hS.2.2 dX4_checkSource_39
          · have c_7 : ¬ p2.toInt ≤ 9 := fun h9 => c_7 ((ax_le _ _).mpr h9)
            exact vx_throwSW hx hb hlt (own := RX4) (cls := "java/lang/IllegalArgumentException") (names := ["java/lang/RuntimeException", "java/lang/Exception"]) hown (by decide +kernel) (by decide +kernel) (hts (.classLink RX4 77 "java/lang/IllegalArgumentException") (by decide +kernel)) (hts (.initialized "java/lang/IllegalArgumentException") (by decide +kernel)) hE.s264 (ax_hat81 hE (fun w h9 => hts w (by first | exact List.mem_cons_of_mem _ (List.mem_append_right _ h9) | exact List.mem_cons_of_mem _ (List.mem_append_left _ (List.mem_append_right _ h9)) | exact List.mem_cons_of_mem _ (List.mem_append_left _ (List.mem_append_left _ (List.mem_append_right _ h9))) | exact List.mem_cons_of_mem _ (List.mem_append_left _ (List.mem_append_left _ (List.mem_append_left _ (List.mem_append_right _ h9)))) | exact List.mem_cons_of_mem _ (List.mem_append_left _ (List.mem_append_left _ (List.mem_append_left _ (List.mem_append_left _ (List.mem_append_right _ h9)))))))) ax_gd81 hE.zU hE.zN hS (hl.1.trans hml.symm) dX4_checkSource_28 dX4_checkSource_31 dX4_checkSource_32 dX4_checkSource_35 dX4_checkSource_38 (fun x h9 => (hnt x h9).elim) (Nat.le_of_ble_eq_true rfl) (Nat.le_of_ble_eq_true rfl) (Nat.le_of_ble_eq_true rfl) (Nat.le_of_ble_eq_true rfl) hlocks (fun t hal hz1 hk1 => ⟨(), by first | trivial | omega, rfl, ax_vaF hS hz1 hk1⟩) hS.2.2 (Nat.le_of_ble_eq_true rfl) (Nat.le_of_ble_eq_true rfl)
  · refine ax_i hr9 ?_
    refine lv_if_eq (tgt := 28) hx hb dX4_checkSource_4 (by decide) (fun _ => ?_) (fun h9 => absurd (by decide) h9)
    exact vx_throwSW hx hb hlt (own := RX4) (cls := "java/lang/IllegalArgumentException") (names := ["java/lang/RuntimeException", "java/lang/Exception"]) hown (by decide +kernel) (by decide +kernel) (hts (.classLink RX4 77 "java/lang/IllegalArgumentException") (by decide +kernel)) (hts (.initialized "java/lang/IllegalArgumentException") (by decide +kernel)) hE.s264 (ax_hat81 hE (fun w h9 => hts w (by first | exact List.mem_cons_of_mem _ (List.mem_append_right _ h9) | exact List.mem_cons_of_mem _ (List.mem_append_left _ (List.mem_append_right _ h9)) | exact List.mem_cons_of_mem _ (List.mem_append_left _ (List.mem_append_left _ (List.mem_append_right _ h9))) | exact List.mem_cons_of_mem _ (List.mem_append_left _ (List.mem_append_left _ (List.mem_append_left _ (List.mem_append_right _ h9)))) | exact List.mem_cons_of_mem _ (List.mem_append_left _ (List.mem_append_left _ (List.mem_append_left _ (List.mem_append_left _ (List.mem_append_right _ h9)))))))) ax_gd81 hE.zU hE.zN hS (hl.1.trans hml.symm) dX4_checkSource_28 dX4_checkSource_31 dX4_checkSource_32 dX4_checkSource_35 dX4_checkSource_38 (fun x h9 => (hnt x h9).elim) (Nat.le_of_ble_eq_true rfl) (Nat.le_of_ble_eq_true rfl) (Nat.le_of_ble_eq_true rfl) (Nat.le_of_ble_eq_true rfl) hlocks (fun t hal hz1 hk1 => ⟨(), by first | trivial | omega, rfl, ax_vaF hS hz1 hk1⟩) hS.2.2 (Nat.le_of_ble_eq_true rfl) (Nat.le_of_ble_eq_true rfl)

set_option maxHeartbeats 4000000 in
set_option maxRecDepth 100000 in
theorem c_X4_leastNumber (l : Launch) (dC : Nat → ClassId) (dI : Nat → Nat → Nat) (sa ta : Nat → Nat) (p0 : Int32) : Met l yX4_leastNumber wsX4_leastNumber ({ frames := 8, cells := 0, slots := 0, locals := 200 }) (va_Pc [.int p0] (ax_R (dC, dI) vwCl [] [] sa ta)) (va_Qi (fun (r : Int32) (u : Unit) => (0 ≤ p0.toInt ∧ p0.toInt ≤ 10) → r = ax_lo p0) (fun _ _ => True) ax_no) 0 0 ax_no := by
  refine Met.ofW (cc := cX4_leastNumber) (maxL := 1) (ret := (some .int)) (by decide) rfl ?_
  intro p e s m args below meth c s₁ B hml hv
  obtain ⟨rfl, hP, hK, hE⟩ := hv
  have hx := B.exec
  have hb := B.bytes
  have hr := B.returns
  have hts := atoms_spec (ws := wsX4_leastNumber) B.pre
  have hown : s.vm.findClass RX4 = some m.cls := findClass_of_methodNamed B.named
  have hlocks := B.notSynchronized
  have hS : va_S ax_no s.heap s.heap [] := va_S.rf
  have hl := lv_entry ([.int p0]) (n := 1) (Nat.le_of_ble_eq_true rfl)
  rw [lg_entry_eq]
  generalize (lg_sl ([.int p0]) ++ List.replicate (1 - (lg_sl ([.int p0])).length) Slot.unset).toArray = ls at hl ⊢
  have hl : lv_has ls 1 [(0, .int p0)] := hl
  have hP : va_P (dC, dI) vwCl [] s.heap := hP
  refine lv_iload_n hx hb dX4_leastNumber_0 rfl (lv_at hl 0 rfl) ?_
  refine lv_if_lt (tgt := 20) hx hb dX4_leastNumber_1 (by decide) (fun c_1 => ?_) (fun c_1 => ?_)
  · have c_1 : p0.toInt < 0 := (ax_lt _ _).mp c_1
    refine lv_iconst (v := 0) hx hb dX4_leastNumber_20 (by decide) ?_
    refine W.widen (k := 0) (n := 0) (Nat.le_of_ble_eq_true rfl) (Nat.le_of_ble_eq_true rfl) ?_
    exact W.iret (v := 0) hx hb hr (fun t ht hW => ⟨⟨0, (), rfl, (fun h9 => by exfalso; omega), trivial⟩, hS.F ht⟩) hS.2.2 dX4_leastNumber_21
  · have c_1 : ¬ p0.toInt < 0 := fun h9 => c_1 ((ax_lt _ _).mpr h9)
    refine lv_iload_n hx hb dX4_leastNumber_4 rfl (lv_at hl 0 rfl) ?_
    refine va_gets hx hb hE.z0 hS hown (hts (.fieldLink RX4 256 "Diffractory" "LEAST_NUMBER" "[I") (by decide +kernel)) (fun _ h9 => h9) dX4_leastNumber_5 ?_
    refine va_tlen (v := 11) hx hb hE.t0 hS (by decide) dX4_leastNumber_8 ?_
    refine lv_icmp_ge (tgt := 20) hx hb dX4_leastNumber_9 (by decide) (fun c_2 => ?_) (fun c_2 => ?_)
    · have c_2 : 11 ≤ p0.toInt := (ax_le _ _).mp c_2
      refine lv_iconst (v := 0) hx hb dX4_leastNumber_20 (by decide) ?_
      refine W.widen (k := 0) (n := 0) (Nat.le_of_ble_eq_true rfl) (Nat.le_of_ble_eq_true rfl) ?_
      exact W.iret (v := 0) hx hb hr (fun t ht hW => ⟨⟨0, (), rfl, (fun h9 => by exfalso; omega), trivial⟩, hS.F ht⟩) hS.2.2 dX4_leastNumber_21
    · have c_2 : ¬ 11 ≤ p0.toInt := fun h9 => c_2 ((ax_le _ _).mpr h9)
      refine va_gets hx hb hE.z0 hS hown (hts (.fieldLink RX4 256 "Diffractory" "LEAST_NUMBER" "[I") (by decide +kernel)) (fun _ h9 => h9) dX4_leastNumber_12 ?_
      refine lv_iload_n hx hb dX4_leastNumber_15 rfl (lv_at hl 0 rfl) ?_
      refine va_ti (v := .int (ax_lo p0)) hx hb hE.t0 hS (vp_in_iff.mpr ⟨by omega, by omega⟩) rfl dX4_leastNumber_16 ?_
      refine lv_goto (tgt := 21) hx hb dX4_leastNumber_17 (by decide) ?_
      refine W.widen (k := 0) (n := 0) (Nat.le_of_ble_eq_true rfl) (Nat.le_of_ble_eq_true rfl) ?_
      exact W.iret (v := ax_lo p0) hx hb hr (fun t ht hW => ⟨⟨ax_lo p0, (), rfl, (fun _ => rfl), trivial⟩, hS.F ht⟩) hS.2.2 dX4_leastNumber_21

set_option maxHeartbeats 4000000 in
set_option maxRecDepth 100000 in
theorem c_X4_mostNumber (l : Launch) (dC : Nat → ClassId) (dI : Nat → Nat → Nat) (sa ta : Nat → Nat) (p0 : Int32) : Met l yX4_mostNumber wsX4_mostNumber ({ frames := 8, cells := 0, slots := 0, locals := 200 }) (va_Pc [.int p0] (ax_R (dC, dI) vwCl [] [] sa ta)) (va_Qi (fun (r : Int32) (u : Unit) => (0 ≤ p0.toInt ∧ p0.toInt ≤ 10) → r = ax_hi p0) (fun _ _ => True) ax_no) 0 0 ax_no := by
  refine Met.ofW (cc := cX4_mostNumber) (maxL := 1) (ret := (some .int)) (by decide) rfl ?_
  intro p e s m args below meth c s₁ B hml hv
  obtain ⟨rfl, hP, hK, hE⟩ := hv
  have hx := B.exec
  have hb := B.bytes
  have hr := B.returns
  have hts := atoms_spec (ws := wsX4_mostNumber) B.pre
  have hown : s.vm.findClass RX4 = some m.cls := findClass_of_methodNamed B.named
  have hlocks := B.notSynchronized
  have hS : va_S ax_no s.heap s.heap [] := va_S.rf
  have hl := lv_entry ([.int p0]) (n := 1) (Nat.le_of_ble_eq_true rfl)
  rw [lg_entry_eq]
  generalize (lg_sl ([.int p0]) ++ List.replicate (1 - (lg_sl ([.int p0])).length) Slot.unset).toArray = ls at hl ⊢
  have hl : lv_has ls 1 [(0, .int p0)] := hl
  have hP : va_P (dC, dI) vwCl [] s.heap := hP
  refine lv_iload_n hx hb dX4_mostNumber_0 rfl (lv_at hl 0 rfl) ?_
  refine lv_if_lt (tgt := 20) hx hb dX4_mostNumber_1 (by decide) (fun c_1 => ?_) (fun c_1 => ?_)
  · have c_1 : p0.toInt < 0 := (ax_lt _ _).mp c_1
    refine lv_iconst (v := 0) hx hb dX4_mostNumber_20 (by decide) ?_
    refine W.widen (k := 0) (n := 0) (Nat.le_of_ble_eq_true rfl) (Nat.le_of_ble_eq_true rfl) ?_
    exact W.iret (v := 0) hx hb hr (fun t ht hW => ⟨⟨0, (), rfl, (fun h9 => by exfalso; omega), trivial⟩, hS.F ht⟩) hS.2.2 dX4_mostNumber_21
  · have c_1 : ¬ p0.toInt < 0 := fun h9 => c_1 ((ax_lt _ _).mpr h9)
    refine lv_iload_n hx hb dX4_mostNumber_4 rfl (lv_at hl 0 rfl) ?_
    refine va_gets hx hb hE.z1 hS hown (hts (.fieldLink RX4 259 "Diffractory" "MOST_NUMBER" "[I") (by decide +kernel)) (fun _ h9 => h9) dX4_mostNumber_5 ?_
    refine va_tlen (v := 11) hx hb hE.t1 hS (by decide) dX4_mostNumber_8 ?_
    refine lv_icmp_ge (tgt := 20) hx hb dX4_mostNumber_9 (by decide) (fun c_2 => ?_) (fun c_2 => ?_)
    · have c_2 : 11 ≤ p0.toInt := (ax_le _ _).mp c_2
      refine lv_iconst (v := 0) hx hb dX4_mostNumber_20 (by decide) ?_
      refine W.widen (k := 0) (n := 0) (Nat.le_of_ble_eq_true rfl) (Nat.le_of_ble_eq_true rfl) ?_
      exact W.iret (v := 0) hx hb hr (fun t ht hW => ⟨⟨0, (), rfl, (fun h9 => by exfalso; omega), trivial⟩, hS.F ht⟩) hS.2.2 dX4_mostNumber_21
    · have c_2 : ¬ 11 ≤ p0.toInt := fun h9 => c_2 ((ax_le _ _).mpr h9)
      refine va_gets hx hb hE.z1 hS hown (hts (.fieldLink RX4 259 "Diffractory" "MOST_NUMBER" "[I") (by decide +kernel)) (fun _ h9 => h9) dX4_mostNumber_12 ?_
      refine lv_iload_n hx hb dX4_mostNumber_15 rfl (lv_at hl 0 rfl) ?_
      refine va_ti (v := .int (ax_hi p0)) hx hb hE.t1 hS (vp_in_iff.mpr ⟨by omega, by omega⟩) rfl dX4_mostNumber_16 ?_
      refine lv_goto (tgt := 21) hx hb dX4_mostNumber_17 (by decide) ?_
      refine W.widen (k := 0) (n := 0) (Nat.le_of_ble_eq_true rfl) (Nat.le_of_ble_eq_true rfl) ?_
      exact W.iret (v := ax_hi p0) hx hb hr (fun t ht hW => ⟨⟨ax_hi p0, (), rfl, (fun _ => rfl), trivial⟩, hS.F ht⟩) hS.2.2 dX4_mostNumber_21

set_option maxHeartbeats 4000000 in
set_option maxRecDepth 100000 in
theorem c_X4_isNumberOf (l : Launch) (dC : Nat → ClassId) (dI : Nat → Nat → Nat) (sa ta : Nat → Nat) (p0 : Int32) (p1 : Int32) : Met l yX4_isNumberOf wsX4_isNumberOf ({ frames := 16, cells := 0, slots := 0, locals := 400 }) (va_Pc [.int p0, .int p1] (ax_R (dC, dI) vwCl [] [] sa ta)) (va_Qi (fun (r : Int32) (u : Unit) => ax_bo r ((0 ≤ p0.toInt ∧ p0.toInt ≤ 10) ∧ (ax_lo p0).toInt ≤ p1.toInt ∧ p1.toInt ≤ (ax_hi p0).toInt)) (fun _ _ => True) ax_no) 0 0 ax_no := by
  refine Met.ofW (cc := cX4_isNumberOf) (maxL := 2) (ret := (some .boolean)) (by decide) rfl ?_
  intro p e s m args below meth c s₁ B hml hv
  obtain ⟨rfl, hP, hK, hE⟩ := hv
  have hx := B.exec
  have hb := B.bytes
  have hr := B.returns
  have hts := atoms_spec (ws := wsX4_isNumberOf) B.pre
  have hown : s.vm.findClass RX4 = some m.cls := findClass_of_methodNamed B.named
  have hlocks := B.notSynchronized
  have hS : va_S ax_no s.heap s.heap [] := va_S.rf
  have hl := lv_entry ([.int p0, .int p1]) (n := 2) (Nat.le_of_ble_eq_true rfl)
  rw [lg_entry_eq]
  generalize (lg_sl ([.int p0, .int p1]) ++ List.replicate (2 - (lg_sl ([.int p0, .int p1])).length) Slot.unset).toArray = ls at hl ⊢
  have hl : lv_has ls 2 [(0, .int p0), (1, .int p1)] := hl
  have hP : va_P (dC, dI) vwCl [] s.heap := hP
  refine lv_iload_n hx hb dX4_isNumberOf_0 rfl (lv_at hl 0 rfl) ?_
  refine lv_if_lt (tgt := 30) hx hb dX4_isNumberOf_1 (by decide) (fun c_1 => ?_) (fun c_1 => ?_)
  · have c_1 : p0.toInt < 0 := (ax_lt _ _).mp c_1
    refine lv_iconst (v := 0) hx hb dX4_isNumberOf_30 (by decide) ?_
    refine W.widen (k := 0) (n := 0) (Nat.le_of_ble_eq_true rfl) (Nat.le_of_ble_eq_true rfl) ?_
    exact W.zret (v := 0) (ty := .boolean) hx hb hr (by decide +kernel) (fun t ht hW => ⟨⟨0, (), rfl, Or.inr ⟨rfl, by omega⟩, trivial⟩, hS.F ht⟩) hS.2.2 dX4_isNumberOf_31
  · have c_1 : ¬ p0.toInt < 0 := fun h9 => c_1 ((ax_lt _ _).mpr h9)
    refine lv_iload_n hx hb dX4_isNumberOf_4 rfl (lv_at hl 0 rfl) ?_
    refine lv_bipush (v := 10) hx hb dX4_isNumberOf_5 (by decide) ?_
    refine lv_icmp_gt (tgt := 30) hx hb dX4_isNumberOf_7 (by decide) (fun c_2 => ?_) (fun c_2 => ?_)
    · have c_2 : 10 < p0.toInt := (ax_lt _ _).mp c_2
      refine lv_iconst (v := 0) hx hb dX4_isNumberOf_30 (by decide) ?_
      refine W.widen (k := 0) (n := 0) (Nat.le_of_ble_eq_true rfl) (Nat.le_of_ble_eq_true rfl) ?_
      exact W.zret (v := 0) (ty := .boolean) hx hb hr (by decide +kernel) (fun t ht hW => ⟨⟨0, (), rfl, Or.inr ⟨rfl, by omega⟩, trivial⟩, hS.F ht⟩) hS.2.2 dX4_isNumberOf_31
    · have c_2 : ¬ 10 < p0.toInt := fun h9 => c_2 ((ax_lt _ _).mpr h9)
      refine lv_iload_n hx hb dX4_isNumberOf_10 rfl (lv_at hl 1 rfl) ?_
      refine lv_iload_n hx hb dX4_isNumberOf_11 rfl (lv_at hl 0 rfl) ?_
      have hPc := hP.sub (ws' := []) [] rfl
      have hKc := hK.sub (tys' := []) [] rfl
      refine va_calli (va_runS (As := [.int p0]) (rest := [.int p1]) ⟨hx, hb, hml, hown, hts⟩ (c_X4_leastNumber l dC dI sa ta p0) (va_cwS 1 hts gX4_isNumberOf_X4_leastNumber rfl rfl rfl (by decide +kernel) ⟨Nat.le_of_ble_eq_true rfl, Nat.le_of_ble_eq_true rfl⟩) ⟨ax_fbR, ax_prR hPc hKc hS hE⟩ rfl rfl hl.1 rfl (lv_room (Nat.le_of_ble_eq_true rfl)) dX4_isNumberOf_12 ⟨Nat.le_of_ble_eq_true rfl, Nat.le_of_ble_eq_true rfl⟩) hS (fun _ _ h9 => h9.elim) (fun _ h9 => h9.elim) (fun r_3 u_5  t H locs ht hvm hw_4 hB hz1 hk1 hS => ?_)
      have hP := ax_keep hP (fun _ h9 => h9) hk1
      have hw_4 : r_3 = ax_lo p0 := hw_4 ⟨by omega, by omega⟩
      refine ax_i (y := ax_lo p0) hw_4 ?_
      refine lv_icmp_lt (tgt := 30) hx hb dX4_isNumberOf_15 (by decide) (fun c_6 => ?_) (fun c_6 => ?_)
      · have c_6 : p1.toInt < ((ax_lo p0)).toInt := (ax_lt _ _).mp c_6
        refine lv_iconst (v := 0) hx hb dX4_isNumberOf_30 (by decide) ?_
        refine W.widen (k := 0) (n := 0) (Nat.le_of_ble_eq_true rfl) (Nat.le_of_ble_eq_true rfl) ?_
        exact W.zret (v := 0) (ty := .boolean) hx hb hr (by decide +kernel) (fun t ht hW => ⟨⟨0, (), rfl, Or.inr ⟨rfl, by omega⟩, trivial⟩, hS.F ht⟩) hS.2.2 dX4_isNumberOf_31
      · have c_6 : ¬ p1.toInt < ((ax_lo p0)).toInt := fun h9 => c_6 ((ax_lt _ _).mpr h9)
        refine lv_iload_n hx hb dX4_isNumberOf_18 rfl (lv_at hl 1 rfl) ?_
        refine lv_iload_n hx hb dX4_isNumberOf_19 rfl (lv_at hl 0 rfl) ?_
        have hPc := hP.sub (ws' := []) [] rfl
        have hKc := hK.sub (tys' := []) [] rfl
        refine va_calli (va_runS (As := [.int p0]) (rest := [.int p1]) ⟨hx, hb, hml, hown, hts⟩ (c_X4_mostNumber l dC dI sa ta p0) (va_cwS 1 hts gX4_isNumberOf_X4_mostNumber rfl rfl rfl (by decide +kernel) ⟨Nat.le_of_ble_eq_true rfl, Nat.le_of_ble_eq_true rfl⟩) ⟨ax_fbR, ax_prR hPc hKc hS hE⟩ rfl rfl hl.1 rfl (lv_room (Nat.le_of_ble_eq_true rfl)) dX4_isNumberOf_20 ⟨Nat.le_of_ble_eq_true rfl, Nat.le_of_ble_eq_true rfl⟩) hS (fun _ _ h9 => h9.elim) (fun _ h9 => h9.elim) (fun r_7 u_9  t H locs ht hvm hw_8 hB hz1 hk1 hS => ?_)
        have hP := ax_keep hP (fun _ h9 => h9) hk1
        have hw_8 : r_7 = ax_hi p0 := hw_8 ⟨by omega, by omega⟩
        refine ax_i (y := ax_hi p0) hw_8 ?_
        refine lv_icmp_gt (tgt := 30) hx hb dX4_isNumberOf_23 (by decide) (fun c_10 => ?_) (fun c_10 => ?_)
        · have c_10 : ((ax_hi p0)).toInt < p1.toInt := (ax_lt _ _).mp c_10
          refine lv_iconst (v := 0) hx hb dX4_isNumberOf_30 (by decide) ?_
          refine W.widen (k := 0) (n := 0) (Nat.le_of_ble_eq_true rfl) (Nat.le_of_ble_eq_true rfl) ?_
          exact W.zret (v := 0) (ty := .boolean) hx hb hr (by decide +kernel) (fun t ht hW => ⟨⟨0, (), rfl, Or.inr ⟨rfl, by omega⟩, trivial⟩, hS.F ht⟩) hS.2.2 dX4_isNumberOf_31
        · have c_10 : ¬ ((ax_hi p0)).toInt < p1.toInt := fun h9 => c_10 ((ax_lt _ _).mpr h9)
          refine lv_iconst (v := 1) hx hb dX4_isNumberOf_26 (by decide) ?_
          refine lv_goto (tgt := 31) hx hb dX4_isNumberOf_27 (by decide) ?_
          refine W.widen (k := 0) (n := 0) (Nat.le_of_ble_eq_true rfl) (Nat.le_of_ble_eq_true rfl) ?_
          exact W.zret (v := 1) (ty := .boolean) hx hb hr (by decide +kernel) (fun t ht hW => ⟨⟨1, (), rfl, Or.inl ⟨rfl, by omega⟩, trivial⟩, hS.F ht⟩) hS.2.2 dX4_isNumberOf_31
