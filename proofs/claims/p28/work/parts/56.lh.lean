/-- the law's below, cell, number -/
def bl (v : Int32) (n : Nat) : Nat := v.toBitVec.toNat % 2 ^ 31 % n
def cellv (xs : Nat → Int32) (L k : Nat) : Int32 := if k < L then xs k else nI (790386105 * (k + 3))
def nbr (k : Nat) (v : Int32) : Nat := if k = 0 then bl v 256 else if k = 1 then bl (v * 40503 + 5) 16777216 else if k = 4 ∨ k = 8 then bl v 8 else if k = 6 then 1 + bl v 3 else if k = 10 then bl v 4 else 0
theorem bl_lt (v : Int32) {n : Nat} (h : 0 < n) : bl v n < n := Nat.mod_lt _ h
theorem nbr_ok {k : Nat} (hk : k < 11) (v : Int32) : loN k ≤ nbr k v ∧ nbr k v ≤ hiN k := by
  have h256 := bl_lt v (n := 256) (by decide)
  have h24 := bl_lt (v * 40503 + 5) (n := 16777216) (by decide)
  have h8 := bl_lt v (n := 8) (by decide)
  have h3 := bl_lt v (n := 3) (by decide)
  have h4 := bl_lt v (n := 4) (by decide)
  unfold nbr
  rcases (show k = 0 ∨ k = 1 ∨ k = 2 ∨ k = 3 ∨ k = 4 ∨ k = 5 ∨ k = 6 ∨ k = 7 ∨ k = 8 ∨ k = 9 ∨ k = 10 by omega) with h | h | h | h | h | h | h | h | h | h | h <;> subst h <;> simp [loN, hiN] <;> omega
abbrev ax_X (b L : Nat) (xs : Nat → Int32) : State → Prop := fun U => va_X b L xs U U.heap
theorem ax_fbX {b L : Nat} {xs : Nat → Int32} {av : List Value} : FrameBlind (va_Pc av (ax_X b L xs)) := fun a U g mk q => ⟨q.1, va_X.moved (u := U) (U := U.calling g mk a) (Vm.Alike.refl U.vm) q.2⟩
theorem ax_prX {b L : Nat} {xs : Nat → Int32} {av : List Value} {s : State} {H : Heap} {locs : List Loc} {A : Nat → Prop} (hX : va_X b L xs s s.heap) (hbl : b < s.heap.size) (hbA : ¬ A b) (hS : va_S A s.heap H locs) : ∀ U : State, U.heap = H → s.WarmedH U.vm → va_Pc av (ax_X b L xs) av.toArray U := fun U hU hW => ⟨rfl, by
  show va_X b L xs U U.heap
  rw [hU]
  exact (hX.kept (hS.2.1 b hbl hbA)).moved hW.alike⟩
theorem ax_Xlt {b L : Nat} {xs : Nat → Int32} {s : State} (hX : va_X b L xs s s.heap) : b < s.heap.size := by
  obtain ⟨scr, h, -⟩ := hX
  exact (Array.getElem?_eq_some_iff.mp h).1

set_option maxHeartbeats 4000000 in
set_option maxRecDepth 100000 in
theorem c_L_below (l : Launch) (v : Int32) (n : Nat) (hn1 : 0 < n) (hn2 : n < 2 ^ 31) : Met l yL_below wsL_below ({ frames := 0, cells := 0, slots := 0, locals := 0 }) (va_Pc [.int v, .int (nI n)] (fun _ => True)) (va_Qi (fun (r : Int32) (u9 : Unit) => r = (nI (bl v n))) (fun _ _ => True) ax_no) 0 0 ax_no := by
  refine Met.ofW (cc := cL_below) (maxL := 2) (ret := (some .int)) (by decide) rfl ?_
  intro p e s m args below meth c s₁ B hml hv
  obtain ⟨rfl, -⟩ := hv
  have hx := B.exec
  have hb := B.bytes
  have hr := B.returns
  have hts := atoms_spec (ws := wsL_below) B.pre
  have hown : s.vm.findClass RL = some m.cls := findClass_of_methodNamed B.named
  have hlocks := B.notSynchronized
  have hS : va_S ax_no s.heap s.heap [] := va_S.rf
  have hl := lv_entry ([.int v, .int (nI n)]) (n := 2) (Nat.le_of_ble_eq_true rfl)
  rw [lg_entry_eq]
  generalize (lg_sl ([.int v, .int (nI n)]) ++ List.replicate (2 - (lg_sl ([.int v, .int (nI n)])).length) Slot.unset).toArray = ls at hl ⊢
  have hl : lv_has ls 2 [(0, .int v), (1, .int (nI n))] := hl
  have hvm : v.toBitVec.toNat % 2 ^ 31 < 2 ^ 31 := Nat.mod_lt _ (by decide)
  refine lv_iload_n hx hb dL_below_0 rfl (lv_at hl 0 rfl) ?_
  refine lv_ldc (v := 2147483647) hx hb hown (hts (.constant RL 7 2147483647) (by decide +kernel)) dL_below_1 ?_
  refine lv_iand hx hb dL_below_3 ?_
  refine ax_i (y := (nI (v.toBitVec.toNat % 2 ^ 31))) (pk_and v 31 rfl) ?_
  refine lv_iload_n hx hb dL_below_4 rfl (lv_at hl 1 rfl) ?_
  refine lv_irem hx hb dL_below_5 (nI_ne0 hn1 hn2) ?_
  refine ax_i (y := (nI ((v.toBitVec.toNat % 2 ^ 31) % n))) (pk_rem (a := v.toBitVec.toNat % 2 ^ 31) (d := n) (by omega) (by omega) (by omega)) ?_
  refine W.widen (k := 0) (n := 0) (Nat.le_of_ble_eq_true rfl) (Nat.le_of_ble_eq_true rfl) ?_
  exact W.iret (v := (nI ((v.toBitVec.toNat % 2 ^ 31) % n))) hx hb hr (fun t8 ht hW => ⟨⟨(nI ((v.toBitVec.toNat % 2 ^ 31) % n)), (), rfl, rfl, trivial⟩, hS.F ht⟩) hS.2.2 dL_below_6

set_option maxHeartbeats 4000000 in
set_option maxRecDepth 100000 in
theorem c_L_number (l : Launch) (k : Nat) (v : Int32) (hk11 : k < 11) : Met l yL_number wsL_number ({ frames := 1, cells := 0, slots := 0, locals := 21 }) (va_Pc [.int (nI k), .int v] (fun _ => True)) (va_Qi (fun (r : Int32) (u9 : Unit) => r = (nI (nbr k v))) (fun _ _ => True) ax_no) 0 0 ax_no := by
  refine Met.ofW (cc := cL_number) (maxL := 2) (ret := (some .int)) (by decide) rfl ?_
  intro p e s m args below meth c s₁ B hml hv
  obtain ⟨rfl, -⟩ := hv
  have hx := B.exec
  have hb := B.bytes
  have hr := B.returns
  have hts := atoms_spec (ws := wsL_number) B.pre
  have hown : s.vm.findClass RL = some m.cls := findClass_of_methodNamed B.named
  have hlocks := B.notSynchronized
  have hS : va_S ax_no s.heap s.heap [] := va_S.rf
  have hl := lv_entry ([.int (nI k), .int v]) (n := 2) (Nat.le_of_ble_eq_true rfl)
  rw [lg_entry_eq]
  generalize (lg_sl ([.int (nI k), .int v]) ++ List.replicate (2 - (lg_sl ([.int (nI k), .int v])).length) Slot.unset).toArray = ls at hl ⊢
  have hl : lv_has ls 2 [(0, .int (nI k)), (1, .int v)] := hl
  refine lv_iload_n hx hb dL_number_0 rfl (lv_at hl 0 rfl) ?_
  refine lv_if_ne (tgt := 14) hx hb dL_number_1 (by decide) (fun c_1 => ?_) (fun c_1 => ?_)
  · have c_1 : ¬ k = 0 := ax_fneTN (by omega) (by omega) c_1
    refine lv_iload_n hx hb dL_number_14 rfl (lv_at hl 0 rfl) ?_
    refine lv_iconst (v := 1) hx hb dL_number_15 (by decide) ?_
    refine lv_icmp_ne (tgt := 33) hx hb dL_number_16 (by decide) (fun c_2 => ?_) (fun c_2 => ?_)
    · have c_2 : ¬ k = 1 := ax_fneTN (by omega) (by omega) c_2
      refine lv_iload_n hx hb dL_number_33 rfl (lv_at hl 0 rfl) ?_
      refine lv_iconst (v := 4) hx hb dL_number_34 (by decide) ?_
      refine lv_icmp_eq (tgt := 44) hx hb dL_number_35 (by decide) (fun c_3 => ?_) (fun c_3 => ?_)
      · have c_3 : k = 4 := ax_feqTN (by omega) (by omega) c_3
        refine lv_iload_n hx hb dL_number_44 rfl (lv_at hl 1 rfl) ?_
        refine lv_bipush (v := 8) hx hb dL_number_45 (by decide) ?_
        refine va_calli (va_runS (As := [.int v, .int 8]) (rest := []) ⟨hx, hb, hml, hown, hts⟩ (c_L_below l v 8 (by omega) (by omega)) (va_cwS 2 hts gL_number_L_below rfl rfl rfl (by decide +kernel) ⟨Nat.le_of_ble_eq_true rfl, Nat.le_of_ble_eq_true rfl⟩) ⟨ax_fbP, ax_prP⟩ rfl rfl hl.1 rfl (lv_room (Nat.le_of_ble_eq_true rfl)) dL_number_47 ⟨Nat.le_of_ble_eq_true rfl, Nat.le_of_ble_eq_true rfl⟩) hS (fun _ _ h9 => h9.elim) (fun _ h9 => h9.elim) (fun r_4 u_6 t8 H locs ht hvm hw_5 hB hz1 hk1 hS => ?_)
        have hbl_7 := bl_lt v (n := 8) (by decide)
        have hw_5 : r_4 = (nI (bl v 8)) := hw_5
        refine ax_i (y := (nI (bl v 8))) hw_5 ?_
        refine lv_goto (tgt := 84) hx hb dL_number_50 (by decide) ?_
        refine W.widen (k := 0) (n := 0) (Nat.le_of_ble_eq_true rfl) (Nat.le_of_ble_eq_true rfl) ?_
        exact W.iret (v := (nI (bl v 8))) hx hb hr (fun t8 ht hW => ⟨⟨(nI (bl v 8)), (), rfl, by unfold nbr; simp [c_1, c_2, c_3] <;> rfl, trivial⟩, hS.F ht⟩) hS.2.2 dL_number_84
      · have c_3 : ¬ k = 4 := ax_feqFN (by omega) (by omega) c_3
        refine lv_iload_n hx hb dL_number_38 rfl (lv_at hl 0 rfl) ?_
        refine lv_bipush (v := 8) hx hb dL_number_39 (by decide) ?_
        refine lv_icmp_ne (tgt := 53) hx hb dL_number_41 (by decide) (fun c_8 => ?_) (fun c_8 => ?_)
        · have c_8 : ¬ k = 8 := ax_fneTN (by omega) (by omega) c_8
          refine lv_iload_n hx hb dL_number_53 rfl (lv_at hl 0 rfl) ?_
          refine lv_bipush (v := 6) hx hb dL_number_54 (by decide) ?_
          refine lv_icmp_ne (tgt := 69) hx hb dL_number_56 (by decide) (fun c_9 => ?_) (fun c_9 => ?_)
          · have c_9 : ¬ k = 6 := ax_fneTN (by omega) (by omega) c_9
            refine lv_iload_n hx hb dL_number_69 rfl (lv_at hl 0 rfl) ?_
            refine lv_bipush (v := 10) hx hb dL_number_70 (by decide) ?_
            refine lv_icmp_ne (tgt := 83) hx hb dL_number_72 (by decide) (fun c_10 => ?_) (fun c_10 => ?_)
            · have c_10 : ¬ k = 10 := ax_fneTN (by omega) (by omega) c_10
              refine lv_iconst (v := 0) hx hb dL_number_83 (by decide) ?_
              refine W.widen (k := 0) (n := 0) (Nat.le_of_ble_eq_true rfl) (Nat.le_of_ble_eq_true rfl) ?_
              exact W.iret (v := 0) hx hb hr (fun t8 ht hW => ⟨⟨0, (), rfl, by unfold nbr; simp [c_1, c_2, c_3, c_8, c_9, c_10] <;> rfl, trivial⟩, hS.F ht⟩) hS.2.2 dL_number_84
            · have c_10 : k = 10 := ax_fneFN (by omega) (by omega) c_10
              refine lv_iload_n hx hb dL_number_75 rfl (lv_at hl 1 rfl) ?_
              refine lv_iconst (v := 4) hx hb dL_number_76 (by decide) ?_
              refine va_calli (va_runS (As := [.int v, .int 4]) (rest := []) ⟨hx, hb, hml, hown, hts⟩ (c_L_below l v 4 (by omega) (by omega)) (va_cwS 2 hts gL_number_L_below rfl rfl rfl (by decide +kernel) ⟨Nat.le_of_ble_eq_true rfl, Nat.le_of_ble_eq_true rfl⟩) ⟨ax_fbP, ax_prP⟩ rfl rfl hl.1 rfl (lv_room (Nat.le_of_ble_eq_true rfl)) dL_number_77 ⟨Nat.le_of_ble_eq_true rfl, Nat.le_of_ble_eq_true rfl⟩) hS (fun _ _ h9 => h9.elim) (fun _ h9 => h9.elim) (fun r_11 u_13 t8 H locs ht hvm hw_12 hB hz1 hk1 hS => ?_)
              have hbl_14 := bl_lt v (n := 4) (by decide)
              have hw_12 : r_11 = (nI (bl v 4)) := hw_12
              refine ax_i (y := (nI (bl v 4))) hw_12 ?_
              refine lv_goto (tgt := 84) hx hb dL_number_80 (by decide) ?_
              refine W.widen (k := 0) (n := 0) (Nat.le_of_ble_eq_true rfl) (Nat.le_of_ble_eq_true rfl) ?_
              exact W.iret (v := (nI (bl v 4))) hx hb hr (fun t8 ht hW => ⟨⟨(nI (bl v 4)), (), rfl, by unfold nbr; simp [c_1, c_2, c_3, c_8, c_9, c_10] <;> rfl, trivial⟩, hS.F ht⟩) hS.2.2 dL_number_84
          · have c_9 : k = 6 := ax_fneFN (by omega) (by omega) c_9
            refine lv_iconst (v := 1) hx hb dL_number_59 (by decide) ?_
            refine lv_iload_n hx hb dL_number_60 rfl (lv_at hl 1 rfl) ?_
            refine lv_iconst (v := 3) hx hb dL_number_61 (by decide) ?_
            refine va_calli (va_runS (As := [.int v, .int 3]) (rest := [.int 1]) ⟨hx, hb, hml, hown, hts⟩ (c_L_below l v 3 (by omega) (by omega)) (va_cwS 2 hts gL_number_L_below rfl rfl rfl (by decide +kernel) ⟨Nat.le_of_ble_eq_true rfl, Nat.le_of_ble_eq_true rfl⟩) ⟨ax_fbP, ax_prP⟩ rfl rfl hl.1 rfl (lv_room (Nat.le_of_ble_eq_true rfl)) dL_number_62 ⟨Nat.le_of_ble_eq_true rfl, Nat.le_of_ble_eq_true rfl⟩) hS (fun _ _ h9 => h9.elim) (fun _ h9 => h9.elim) (fun r_15 u_17 t8 H locs ht hvm hw_16 hB hz1 hk1 hS => ?_)
            have hbl_18 := bl_lt v (n := 3) (by decide)
            have hw_16 : r_15 = (nI (bl v 3)) := hw_16
            refine ax_i (y := (nI (bl v 3))) hw_16 ?_
            refine lv_iadd hx hb dL_number_65 ?_
            refine ax_i (y := (nI (1 + (bl v 3)))) (ax_addN 1 (bl v 3)) ?_
            refine lv_goto (tgt := 84) hx hb dL_number_66 (by decide) ?_
            refine W.widen (k := 0) (n := 0) (Nat.le_of_ble_eq_true rfl) (Nat.le_of_ble_eq_true rfl) ?_
            exact W.iret (v := (nI (1 + (bl v 3)))) hx hb hr (fun t8 ht hW => ⟨⟨(nI (1 + (bl v 3))), (), rfl, by unfold nbr; simp [c_1, c_2, c_3, c_8, c_9] <;> rfl, trivial⟩, hS.F ht⟩) hS.2.2 dL_number_84
        · have c_8 : k = 8 := ax_fneFN (by omega) (by omega) c_8
          refine lv_iload_n hx hb dL_number_44 rfl (lv_at hl 1 rfl) ?_
          refine lv_bipush (v := 8) hx hb dL_number_45 (by decide) ?_
          refine va_calli (va_runS (As := [.int v, .int 8]) (rest := []) ⟨hx, hb, hml, hown, hts⟩ (c_L_below l v 8 (by omega) (by omega)) (va_cwS 2 hts gL_number_L_below rfl rfl rfl (by decide +kernel) ⟨Nat.le_of_ble_eq_true rfl, Nat.le_of_ble_eq_true rfl⟩) ⟨ax_fbP, ax_prP⟩ rfl rfl hl.1 rfl (lv_room (Nat.le_of_ble_eq_true rfl)) dL_number_47 ⟨Nat.le_of_ble_eq_true rfl, Nat.le_of_ble_eq_true rfl⟩) hS (fun _ _ h9 => h9.elim) (fun _ h9 => h9.elim) (fun r_19 u_21 t8 H locs ht hvm hw_20 hB hz1 hk1 hS => ?_)
          have hbl_22 := bl_lt v (n := 8) (by decide)
          have hw_20 : r_19 = (nI (bl v 8)) := hw_20
          refine ax_i (y := (nI (bl v 8))) hw_20 ?_
          refine lv_goto (tgt := 84) hx hb dL_number_50 (by decide) ?_
          refine W.widen (k := 0) (n := 0) (Nat.le_of_ble_eq_true rfl) (Nat.le_of_ble_eq_true rfl) ?_
          exact W.iret (v := (nI (bl v 8))) hx hb hr (fun t8 ht hW => ⟨⟨(nI (bl v 8)), (), rfl, by unfold nbr; simp [c_1, c_2, c_3, c_8] <;> rfl, trivial⟩, hS.F ht⟩) hS.2.2 dL_number_84
    · have c_2 : k = 1 := ax_fneFN (by omega) (by omega) c_2
      refine lv_iload_n hx hb dL_number_19 rfl (lv_at hl 1 rfl) ?_
      refine lv_ldc (v := 40503) hx hb hown (hts (.constant RL 89 40503) (by decide +kernel)) dL_number_20 ?_
      refine lv_imul hx hb dL_number_22 ?_
      refine lv_iconst (v := 5) hx hb dL_number_23 (by decide) ?_
      refine lv_iadd hx hb dL_number_24 ?_
      refine lv_ldc (v := 16777216) hx hb hown (hts (.constant RL 90 16777216) (by decide +kernel)) dL_number_25 ?_
      refine va_calli (va_runS (As := [.int ((v * 40503) + 5), .int 16777216]) (rest := []) ⟨hx, hb, hml, hown, hts⟩ (c_L_below l ((v * 40503) + 5) 16777216 (by omega) (by omega)) (va_cwS 2 hts gL_number_L_below rfl rfl rfl (by decide +kernel) ⟨Nat.le_of_ble_eq_true rfl, Nat.le_of_ble_eq_true rfl⟩) ⟨ax_fbP, ax_prP⟩ rfl rfl hl.1 rfl (lv_room (Nat.le_of_ble_eq_true rfl)) dL_number_27 ⟨Nat.le_of_ble_eq_true rfl, Nat.le_of_ble_eq_true rfl⟩) hS (fun _ _ h9 => h9.elim) (fun _ h9 => h9.elim) (fun r_23 u_25 t8 H locs ht hvm hw_24 hB hz1 hk1 hS => ?_)
      have hbl_26 := bl_lt ((v * 40503) + 5) (n := 16777216) (by decide)
      have hw_24 : r_23 = (nI (bl ((v * 40503) + 5) 16777216)) := hw_24
      refine ax_i (y := (nI (bl ((v * 40503) + 5) 16777216))) hw_24 ?_
      refine lv_goto (tgt := 84) hx hb dL_number_30 (by decide) ?_
      refine W.widen (k := 0) (n := 0) (Nat.le_of_ble_eq_true rfl) (Nat.le_of_ble_eq_true rfl) ?_
      exact W.iret (v := (nI (bl ((v * 40503) + 5) 16777216))) hx hb hr (fun t8 ht hW => ⟨⟨(nI (bl ((v * 40503) + 5) 16777216)), (), rfl, by unfold nbr; simp [c_1, c_2] <;> rfl, trivial⟩, hS.F ht⟩) hS.2.2 dL_number_84
  · have c_1 : k = 0 := ax_fneFN (by omega) (by omega) c_1
    refine lv_iload_n hx hb dL_number_4 rfl (lv_at hl 1 rfl) ?_
    refine lv_sipush (v := 256) hx hb dL_number_5 (by decide) ?_
    refine va_calli (va_runS (As := [.int v, .int 256]) (rest := []) ⟨hx, hb, hml, hown, hts⟩ (c_L_below l v 256 (by omega) (by omega)) (va_cwS 2 hts gL_number_L_below rfl rfl rfl (by decide +kernel) ⟨Nat.le_of_ble_eq_true rfl, Nat.le_of_ble_eq_true rfl⟩) ⟨ax_fbP, ax_prP⟩ rfl rfl hl.1 rfl (lv_room (Nat.le_of_ble_eq_true rfl)) dL_number_8 ⟨Nat.le_of_ble_eq_true rfl, Nat.le_of_ble_eq_true rfl⟩) hS (fun _ _ h9 => h9.elim) (fun _ h9 => h9.elim) (fun r_27 u_29 t8 H locs ht hvm hw_28 hB hz1 hk1 hS => ?_)
    have hbl_30 := bl_lt v (n := 256) (by decide)
    have hw_28 : r_27 = (nI (bl v 256)) := hw_28
    refine ax_i (y := (nI (bl v 256))) hw_28 ?_
    refine lv_goto (tgt := 84) hx hb dL_number_11 (by decide) ?_
    refine W.widen (k := 0) (n := 0) (Nat.le_of_ble_eq_true rfl) (Nat.le_of_ble_eq_true rfl) ?_
    exact W.iret (v := (nI (bl v 256))) hx hb hr (fun t8 ht hW => ⟨⟨(nI (bl v 256)), (), rfl, by unfold nbr; simp [c_1] <;> rfl, trivial⟩, hS.F ht⟩) hS.2.2 dL_number_84

set_option maxHeartbeats 4000000 in
set_option maxRecDepth 100000 in
theorem c_L_cell (l : Launch) (b : Nat) (Ls : Nat) (xs : Nat → Int32) (k : Nat) (hLs : Ls ≤ 260) (hk9 : k < 100) : Met l yL_cell wsL_cell ({ frames := 0, cells := 0, slots := 0, locals := 0 }) (va_Pc [.ref b, .int (nI k)] (ax_X b Ls xs)) (va_Qi (fun (r : Int32) (u9 : Unit) => r = (cellv xs Ls k)) (fun _ _ => True) ax_no) 0 0 ax_no := by
  refine Met.ofW (cc := cL_cell) (maxL := 2) (ret := (some .int)) (by decide) rfl ?_
  intro p e s m args below meth c s₁ B hml hv
  obtain ⟨rfl, hX⟩ := hv
  have hbl := ax_Xlt hX
  have hbA : ¬ ax_no b := id
  have hx := B.exec
  have hb := B.bytes
  have hr := B.returns
  have hts := atoms_spec (ws := wsL_cell) B.pre
  have hown : s.vm.findClass RL = some m.cls := findClass_of_methodNamed B.named
  have hlocks := B.notSynchronized
  have hS : va_S ax_no s.heap s.heap [] := va_S.rf
  have hl := lv_entry ([.ref b, .int (nI k)]) (n := 2) (Nat.le_of_ble_eq_true rfl)
  rw [lg_entry_eq]
  generalize (lg_sl ([.ref b, .int (nI k)]) ++ List.replicate (2 - (lg_sl ([.ref b, .int (nI k)])).length) Slot.unset).toArray = ls at hl ⊢
  have hl : lv_has ls 2 [(0, .ref b), (1, .int (nI k))] := hl
  refine lv_iload_n hx hb dL_cell_0 rfl (lv_at hl 1 rfl) ?_
  refine lv_aload_n hx hb dL_cell_1 rfl (lv_at hl 0 rfl) ?_
  refine va_slen hx hb hX hbl hbA hS dL_cell_2 ?_
  refine ax_i (y := nI Ls) rfl ?_
  refine lv_icmp_ge (tgt := 12) hx hb dL_cell_3 (by decide) (fun c_1 => ?_) (fun c_1 => ?_)
  · have c_1 : ¬ k < Ls := ax_fgeTN (by omega) (by omega) c_1
    refine lv_ldc (v := 790386105) hx hb hown (hts (.constant RL 8 790386105) (by decide +kernel)) dL_cell_12 ?_
    refine lv_iload_n hx hb dL_cell_14 rfl (lv_at hl 1 rfl) ?_
    refine lv_iconst (v := 3) hx hb dL_cell_15 (by decide) ?_
    refine lv_iadd hx hb dL_cell_16 ?_
    refine ax_i (y := (nI (k + 3))) (ax_addN k 3) ?_
    refine lv_imul hx hb dL_cell_17 ?_
    refine ax_i (y := (nI (790386105 * (k + 3)))) (pk_mul 790386105 (k + 3)) ?_
    refine W.widen (k := 0) (n := 0) (Nat.le_of_ble_eq_true rfl) (Nat.le_of_ble_eq_true rfl) ?_
    exact W.iret (v := (nI (790386105 * (k + 3)))) hx hb hr (fun t8 ht hW => ⟨⟨(nI (790386105 * (k + 3))), (), rfl, by unfold cellv; rw [if_neg c_1], trivial⟩, hS.F ht⟩) hS.2.2 dL_cell_18
  · have c_1 : k < Ls := ax_fgeFN (by omega) (by omega) c_1
    refine lv_aload_n hx hb dL_cell_6 rfl (lv_at hl 0 rfl) ?_
    refine lv_iload_n hx hb dL_cell_7 rfl (lv_at hl 1 rfl) ?_
    refine va_sld hx hb hX hbl hbA hS (ax_in (by omega) (by omega)) dL_cell_8 ?_
    refine ax_i (y := xs k) (by rw [nI_clamp (n := k) (by omega)]) ?_
    refine lv_goto (tgt := 18) hx hb dL_cell_9 (by decide) ?_
    refine W.widen (k := 0) (n := 0) (Nat.le_of_ble_eq_true rfl) (Nat.le_of_ble_eq_true rfl) ?_
    exact W.iret (v := (xs k)) hx hb hr (fun t8 ht hW => ⟨⟨(xs k), (), rfl, by unfold cellv; rw [if_pos c_1], trivial⟩, hS.F ht⟩) hS.2.2 dL_cell_18
