set_option maxHeartbeats 4000000 in
set_option maxRecDepth 100000 in
theorem c_J7_rangeCheck_23922 (l : Launch) (n0 : Nat) (lo : Nat) (hi : Nat) (h1 : lo ≤ hi) (h2 : hi ≤ n0) (h3 : n0 < 2 ^ 31) : Met l yJ7_rangeCheck_23922 wsJ7_rangeCheck_23922 ({ frames := 0, cells := 0, slots := 0, locals := 0 }) (va_Pc [.int (nI n0), .int (nI lo), .int (nI hi)] (fun _ => True)) (va_Qv (fun (u9 : Unit) => True) (fun _ _ => True) ax_no) 0 0 ax_no := by
  refine Met.ofW (cc := cJ7_rangeCheck_23922) (maxL := 3) (ret := none) (by decide) rfl ?_
  intro p e s m args below meth c s₁ B hml hv
  obtain ⟨rfl, -⟩ := hv
  have hx := B.exec
  have hb := B.bytes
  have hr := B.returns
  have hts := atoms_spec (ws := wsJ7_rangeCheck_23922) B.pre
  have hown : s.vm.findClass RJ7 = some m.cls := findClass_of_methodNamed B.named
  have hlocks := B.notSynchronized
  have hS : va_S ax_no s.heap s.heap [] := va_S.rf
  have hl := lv_entry ([.int (nI n0), .int (nI lo), .int (nI hi)]) (n := 3) (Nat.le_of_ble_eq_true rfl)
  rw [lg_entry_eq]
  generalize (lg_sl ([.int (nI n0), .int (nI lo), .int (nI hi)]) ++ List.replicate (3 - (lg_sl ([.int (nI n0), .int (nI lo), .int (nI hi)])).length) Slot.unset).toArray = ls at hl ⊢
  have hl : lv_has ls 3 [(0, .int (nI n0)), (1, .int (nI lo)), (2, .int (nI hi))] := hl
  refine lv_iload_n hx hb dJ7_rangeCheck_23922_0 rfl (lv_at hl 1 rfl) ?_
  refine lv_iload_n hx hb dJ7_rangeCheck_23922_1 rfl (lv_at hl 2 rfl) ?_
  refine lv_icmp_le (tgt := 46) hx hb dJ7_rangeCheck_23922_2 (by decide) (fun c_1 => ?_) (fun c_1 => ?_)
  · have c_1 : ¬ hi < lo := ax_fleTN (by omega) (by omega) c_1
    refine lv_iload_n hx hb dJ7_rangeCheck_23922_46 rfl (lv_at hl 1 rfl) ?_
    refine lv_if_ge (tgt := 59) hx hb dJ7_rangeCheck_23922_47 (by decide) (fun c_2 => ?_) (fun c_2 => ?_)
    · have c_2 : ¬ lo < 0 := ax_fgeTN (by omega) (by omega) c_2
      refine lv_iload_n hx hb dJ7_rangeCheck_23922_59 rfl (lv_at hl 2 rfl) ?_
      refine lv_iload_n hx hb dJ7_rangeCheck_23922_60 rfl (lv_at hl 0 rfl) ?_
      refine lv_icmp_le (tgt := 73) hx hb dJ7_rangeCheck_23922_61 (by decide) (fun c_3 => ?_) (fun c_3 => ?_)
      · have c_3 : ¬ n0 < hi := ax_fleTN (by omega) (by omega) c_3
        refine W.widen (k := 0) (n := 0) (Nat.le_of_ble_eq_true rfl) (Nat.le_of_ble_eq_true rfl) ?_
        exact W.vret hx hb hr (fun t8 ht hW => ⟨⟨(), rfl, trivial, trivial⟩, hS.F ht⟩) hS.2.2 dJ7_rangeCheck_23922_73
      · have c_3 : n0 < hi := ax_fleFN (by omega) (by omega) c_3
        exfalso
        omega
    · have c_2 : lo < 0 := ax_fgeFN (by omega) (by omega) c_2
      exfalso
      omega
  · have c_1 : hi < lo := ax_fleFN (by omega) (by omega) c_1
    exfalso
    omega

theorem ax_fi {g g1 : Nat → Int64} {v : Int64} {lo i j n : Nat} (_ : j < n) (hi : lo ≤ i) (h : g1 j = if lo ≤ j ∧ j < i then v else g j) : vp_updL g1 i v j = if lo ≤ j ∧ j < i + 1 then v else g j := by
  unfold vp_updL
  by_cases e : j = i
  · rw [if_pos e, if_pos ⟨by omega, by omega⟩]
  · rw [if_neg e, h]
    by_cases q : lo ≤ j ∧ j < i
    · rw [if_pos q, if_pos ⟨q.1, by omega⟩]
    · rw [if_neg q, if_neg (by omega)]

set_option maxHeartbeats 4000000 in
set_option maxRecDepth 100000 in
theorem c_J7_fill_d0a16 (l : Launch) (dC : Nat → ClassId) (dI : Nat → Nat → Nat) (xa : Nat) (cL : ClassId) (ta : Nat → Nat) (sz : Nat) (g : Nat → Int64) (n0 : Nat) (v : Int64) (hn0 : n0 < 2 ^ 31) : Met l yJ7_fill_d0a16 wsJ7_fill_d0a16 ({ frames := 0, cells := 0, slots := 0, locals := 0 }) (va_Pc [.ref xa, .long v] (ax_W (dC, dI) vwCl [(xa, .inl (cL, n0, .inr (.inl g)))] [(cL, .long)] ta sz)) (va_Qv (fun (u9 : Unit) => True) (fun (u9 : Unit) (t9 : State) => va_P (dC, dI) vwCl [(xa, .inl (cL, n0, .inr (.inl (fun _ => v))))] t9.heap ∧ va_K (dC, dI) vwCl [(cL, .long)] t9 ∧ va_D (va_A [(xa, .inl (cL, n0, .inr (.inl g)))] sz) [(xa, .inl (cL, n0, .inr (.inl (fun _ => v))))]) (va_A [(xa, .inl (cL, n0, .inr (.inl g)))] sz)) 0 0 (va_A [(xa, .inl (cL, n0, .inr (.inl g)))] sz) := by
  refine Met.ofW (cc := cJ7_fill_d0a16) (maxL := 5) (ret := none) (by decide) rfl ?_
  intro p e s m args below meth c s₁ B hml hv
  obtain ⟨rfl, hsz, hP, hK, hD0, hE⟩ := hv
  have hx := B.exec
  have hb := B.bytes
  have hr := B.returns
  have hts := atoms_spec (ws := wsJ7_fill_d0a16) B.pre
  have hown : s.vm.findClass RJ7 = some m.cls := findClass_of_methodNamed B.named
  have hlocks := B.notSynchronized
  subst hsz
  have hD := hD0.self (sz := s.heap.size)
  generalize hAe : va_A [(xa, .inl (cL, n0, .inr (.inl g)))] s.heap.size = A at hD hE ⊢
  have hA : ∀ q : Nat, s.heap.size ≤ q → A q := fun q h => by rw [← hAe]; exact Or.inr h
  have hS : va_S A s.heap s.heap [] := va_S.rf
  have hl := lv_entry ([.ref xa, .long v]) (n := 5) (Nat.le_of_ble_eq_true rfl)
  rw [lg_entry_eq]
  generalize (lg_sl ([.ref xa, .long v]) ++ List.replicate (5 - (lg_sl ([.ref xa, .long v])).length) Slot.unset).toArray = ls at hl ⊢
  have hl : lv_has ls 5 [(0, .ref xa), (1, .long v)] := hl
  have hP : va_P (dC, dI) vwCl [(xa, .inl (cL, n0, .inr (.inl g)))] s.heap := hP
  refine lv_iconst (v := 0) hx hb dJ7_fill_d0a16_0 (by decide) ?_
  refine lv_istore_n (lv' := [(3, .int 0), (0, .ref xa), (1, .long v)]) hx hb dJ7_fill_d0a16_1 rfl hl (by decide) rfl (fun ls hl => ?_)
  refine lv_aload_n hx hb dJ7_fill_d0a16_2 rfl (lv_at hl 1 rfl) ?_
  refine va_alen (v := nI n0) hx hb hK hP 0 0 rfl rfl rfl dJ7_fill_d0a16_3 ?_
  refine lv_istore (lv' := [(4, .int (nI n0)), (3, .int 0), (0, .ref xa), (1, .long v)]) hx hb dJ7_fill_d0a16_4 hl (by decide) rfl (fun ls hl => ?_)
  refine ax_loop (σ := Nat × (Nat → Int64)) (fun z9 H locs ls => (0 ≤ z9.1) ∧ (z9.1 ≤ n0) ∧ (∀ j, j < n0 → z9.2 j = if 0 ≤ j ∧ j < z9.1 then v else g j) ∧ lv_has ls 5 [(4, .int (nI n0)), (3, .int (nI z9.1)), (0, .ref xa), (1, .long v)] ∧ va_P (dC, dI) vwCl [(xa, .inl (cL, n0, .inr (.inl z9.2)))] H ∧ va_D A [(xa, .inl (cL, n0, .inr (.inl z9.2)))] ∧ va_S A s.heap H locs) (fun z9 => n0 - z9.1) (fun z9 H locs ls hI ih => ?_) (0, g) ⟨by omega, by omega, fun j _ => by rw [if_neg (by omega)], hl, hP, hD, hS⟩
  obtain ⟨i, g1⟩ := z9
  obtain ⟨hi0, hi1, hg, hl, hP, hD, hS⟩ := hI
  have hi0 : 0 ≤ i := hi0
  have hi1 : i ≤ n0 := hi1
  have hg : ∀ j, j < n0 → g1 j = if 0 ≤ j ∧ j < i then v else g j := hg
  have hl : lv_has ls 5 [(4, .int (nI n0)), (3, .int (nI i)), (0, .ref xa), (1, .long v)] := hl
  have hP : va_P (dC, dI) vwCl [(xa, .inl (cL, n0, .inr (.inl g1)))] H := hP
  have hD : va_D A [(xa, .inl (cL, n0, .inr (.inl g1)))] := hD
  have ih_1 := ih; clear ih
  refine lv_iload_n hx hb dJ7_fill_d0a16_6 rfl (lv_at hl 1 rfl) ?_
  refine lv_iload hx hb dJ7_fill_d0a16_7 (lv_at hl 0 rfl) ?_
  refine lv_icmp_ge (tgt := 22) hx hb dJ7_fill_d0a16_9 (by decide) (fun c_2 => ?_) (fun c_2 => ?_)
  · have c_2 : ¬ i < n0 := ax_fgeTN (by omega) (by omega) c_2
    refine W.widen (k := 0) (n := 0) (Nat.le_of_ble_eq_true rfl) (Nat.le_of_ble_eq_true rfl) ?_
    have hP9 := hP.sub (ws' := [(xa, .inl (cL, n0, .inr (.inl g1)))]) [0] rfl
    have hD9 := hD.sub (ws' := [(xa, .inl (cL, n0, .inr (.inl g1)))]) [0] (by decide) rfl
    have hK9 := hK.sub (tys' := [(cL, .long)]) [0] rfl
    have hP9 : va_P (dC, dI) vwCl [(xa, .inl (cL, n0, .inr (.inl (fun _ => v))))] H := ax_arL 0 (fun _ => v) rfl (fun j hj => by rw [hg j hj, if_pos ⟨by omega, by omega⟩]) hP9
    have hD9 : va_D A [(xa, .inl (cL, n0, .inr (.inl (fun _ => v))))] := hD9.set (p := 0) rfl
    exact W.vret hx hb hr (fun t8 ht hW => ⟨⟨(), rfl, trivial, by rw [ht]; exact hP9, va_K.moved hW.alike hK9, hD9⟩, hS.F ht⟩) hS.2.2 dJ7_fill_d0a16_22
  · have c_2 : i < n0 := ax_fgeFN (by omega) (by omega) c_2
    refine lv_aload_n hx hb dJ7_fill_d0a16_12 rfl (lv_at hl 2 rfl) ?_
    refine lv_iload_n hx hb dJ7_fill_d0a16_13 rfl (lv_at hl 1 rfl) ?_
    refine lv_lload_n hx hb dJ7_fill_d0a16_14 rfl (lv_at hl 3 rfl) ?_
    refine va_last hx hb hK hP hD hS 0 0 rfl rfl (ax_in (by omega) (by omega)) dJ7_fill_d0a16_15 (fun H locs hP hD hS => ?_)
    rw [nI_clamp (n := i) (by omega)] at hP hD
    have hP : va_P (dC, dI) vwCl [(xa, .inl (cL, n0, .inr (.inl (vp_updL g1 i v))))] H := hP
    have hD : va_D A [(xa, .inl (cL, n0, .inr (.inl (vp_updL g1 i v))))] := hD
    refine lv_iinc (v := (nI (i + 1))) (lv' := [(3, .int (nI (i + 1))), (4, .int (nI n0)), (0, .ref xa), (1, .long v)]) hx hb dJ7_fill_d0a16_16 hl (k := 1) rfl (nI_succ _).symm (by decide) rfl (fun ls hl => ?_)
    refine lv_goto (tgt := 6) hx hb dJ7_fill_d0a16_19 (by decide) ?_
    have hl : lv_has ls 5 [(4, .int (nI n0)), (3, .int (nI (i + 1))), (0, .ref xa), (1, .long v)] := lv_sub hl [1, 0, 2, 3] rfl
    exact ih_1 (i + 1, vp_updL g1 i v) H locs ls ⟨by omega, by omega, fun j hj => ax_fi hj (by omega) (hg j hj), hl, hP, hD, hS⟩ (show n0 - (i + 1) < n0 - i by omega)

set_option maxHeartbeats 4000000 in
set_option maxRecDepth 100000 in
theorem c_J7_fill_bad5a (l : Launch) (dC : Nat → ClassId) (dI : Nat → Nat → Nat) (xa : Nat) (cL : ClassId) (ta : Nat → Nat) (sz : Nat) (g : Nat → Int64) (n0 : Nat) (lo : Nat) (hi : Nat) (v : Int64) (h1 : lo ≤ hi) (h2 : hi ≤ n0) (h3 : n0 < 2 ^ 31) : Met l yJ7_fill_bad5a wsJ7_fill_bad5a ({ frames := 1, cells := 0, slots := 0, locals := 22 }) (va_Pc [.ref xa, .int (nI lo), .int (nI hi), .long v] (ax_W (dC, dI) vwCl [(xa, .inl (cL, n0, .inr (.inl g)))] [(cL, .long)] ta sz)) (va_Qv (fun (u9 : Unit) => True) (fun (u9 : Unit) (t9 : State) => va_P (dC, dI) vwCl [(xa, .inl (cL, n0, .inr (.inl (fun j => if lo ≤ j ∧ j < hi then v else g j))))] t9.heap ∧ va_K (dC, dI) vwCl [(cL, .long)] t9 ∧ va_D (va_A [(xa, .inl (cL, n0, .inr (.inl g)))] sz) [(xa, .inl (cL, n0, .inr (.inl (fun j => if lo ≤ j ∧ j < hi then v else g j))))]) (va_A [(xa, .inl (cL, n0, .inr (.inl g)))] sz)) 0 0 (va_A [(xa, .inl (cL, n0, .inr (.inl g)))] sz) := by
  refine Met.ofW (cc := cJ7_fill_bad5a) (maxL := 6) (ret := none) (by decide) rfl ?_
  intro p e s m args below meth c s₁ B hml hv
  obtain ⟨rfl, hsz, hP, hK, hD0, hE⟩ := hv
  have hx := B.exec
  have hb := B.bytes
  have hr := B.returns
  have hts := atoms_spec (ws := wsJ7_fill_bad5a) B.pre
  have hown : s.vm.findClass RJ7 = some m.cls := findClass_of_methodNamed B.named
  have hlocks := B.notSynchronized
  subst hsz
  have hD := hD0.self (sz := s.heap.size)
  generalize hAe : va_A [(xa, .inl (cL, n0, .inr (.inl g)))] s.heap.size = A at hD hE ⊢
  have hA : ∀ q : Nat, s.heap.size ≤ q → A q := fun q h => by rw [← hAe]; exact Or.inr h
  have hS : va_S A s.heap s.heap [] := va_S.rf
  have hl := lv_entry ([.ref xa, .int (nI lo), .int (nI hi), .long v]) (n := 6) (Nat.le_of_ble_eq_true rfl)
  rw [lg_entry_eq]
  generalize (lg_sl ([.ref xa, .int (nI lo), .int (nI hi), .long v]) ++ List.replicate (6 - (lg_sl ([.ref xa, .int (nI lo), .int (nI hi), .long v])).length) Slot.unset).toArray = ls at hl ⊢
  have hl : lv_has ls 6 [(0, .ref xa), (1, .int (nI lo)), (2, .int (nI hi)), (3, .long v)] := hl
  have hP : va_P (dC, dI) vwCl [(xa, .inl (cL, n0, .inr (.inl g)))] s.heap := hP
  refine lv_aload_n hx hb dJ7_fill_bad5a_0 rfl (lv_at hl 0 rfl) ?_
  refine va_alen (v := nI n0) hx hb hK hP 0 0 rfl rfl rfl dJ7_fill_bad5a_1 ?_
  refine lv_iload_n hx hb dJ7_fill_bad5a_2 rfl (lv_at hl 1 rfl) ?_
  refine lv_iload_n hx hb dJ7_fill_bad5a_3 rfl (lv_at hl 2 rfl) ?_
  refine va_callv (va_runS (As := [.int (nI n0), .int (nI lo), .int (nI hi)]) (rest := []) ⟨hx, hb, hml, hown, hts⟩ (c_J7_rangeCheck_23922 l n0 lo hi (by omega) (by omega) (by omega)) (va_cwS 3 hts gJ7_fill_bad5a_J7_rangeCheck_23922 rfl rfl rfl (by decide +kernel) ⟨Nat.le_of_ble_eq_true rfl, Nat.le_of_ble_eq_true rfl⟩) ⟨ax_fbP, ax_prP⟩ rfl rfl hl.1 rfl (lv_room (Nat.le_of_ble_eq_true rfl)) dJ7_fill_bad5a_4 ⟨Nat.le_of_ble_eq_true rfl, Nat.le_of_ble_eq_true rfl⟩) hS (fun _ _ h9 => h9.elim) (fun _ h9 => h9.elim) (fun u_3 t8 H locs ht hvm hw_2 hB hz1 hk1 hS => ?_)
  have hP := ax_keep hP (fun _ h9 => h9) hk1
  refine lv_iload_n hx hb dJ7_fill_bad5a_7 rfl (lv_at hl 1 rfl) ?_
  refine lv_istore (lv' := [(5, .int (nI lo)), (0, .ref xa), (1, .int (nI lo)), (2, .int (nI hi)), (3, .long v)]) hx hb dJ7_fill_bad5a_8 hl (by decide) rfl (fun ls hl => ?_)
  refine ax_loop (σ := Nat × (Nat → Int64)) (fun z9 H locs ls => (lo ≤ z9.1) ∧ (z9.1 ≤ hi) ∧ (∀ j, j < n0 → z9.2 j = if lo ≤ j ∧ j < z9.1 then v else g j) ∧ lv_has ls 6 [(5, .int (nI z9.1)), (0, .ref xa), (1, .int (nI lo)), (2, .int (nI hi)), (3, .long v)] ∧ va_P (dC, dI) vwCl [(xa, .inl (cL, n0, .inr (.inl z9.2)))] H ∧ va_D A [(xa, .inl (cL, n0, .inr (.inl z9.2)))] ∧ va_S A s.heap H locs) (fun z9 => hi - z9.1) (fun z9 H locs ls hI ih => ?_) (lo, g) ⟨by omega, by omega, fun j _ => by rw [if_neg (by omega)], hl, hP, hD, hS⟩
  obtain ⟨i, g1⟩ := z9
  obtain ⟨hi0, hi1, hg, hl, hP, hD, hS⟩ := hI
  have hi0 : lo ≤ i := hi0
  have hi1 : i ≤ hi := hi1
  have hg : ∀ j, j < n0 → g1 j = if lo ≤ j ∧ j < i then v else g j := hg
  have hl : lv_has ls 6 [(5, .int (nI i)), (0, .ref xa), (1, .int (nI lo)), (2, .int (nI hi)), (3, .long v)] := hl
  have hP : va_P (dC, dI) vwCl [(xa, .inl (cL, n0, .inr (.inl g1)))] H := hP
  have hD : va_D A [(xa, .inl (cL, n0, .inr (.inl g1)))] := hD
  have ih_4 := ih; clear ih
  refine lv_iload hx hb dJ7_fill_bad5a_10 (lv_at hl 0 rfl) ?_
  refine lv_iload_n hx hb dJ7_fill_bad5a_12 rfl (lv_at hl 3 rfl) ?_
  refine lv_icmp_ge (tgt := 27) hx hb dJ7_fill_bad5a_13 (by decide) (fun c_5 => ?_) (fun c_5 => ?_)
  · have c_5 : ¬ i < hi := ax_fgeTN (by omega) (by omega) c_5
    refine W.widen (k := 0) (n := 0) (Nat.le_of_ble_eq_true rfl) (Nat.le_of_ble_eq_true rfl) ?_
    have hP9 := hP.sub (ws' := [(xa, .inl (cL, n0, .inr (.inl g1)))]) [0] rfl
    have hD9 := hD.sub (ws' := [(xa, .inl (cL, n0, .inr (.inl g1)))]) [0] (by decide) rfl
    have hK9 := hK.sub (tys' := [(cL, .long)]) [0] rfl
    have hP9 : va_P (dC, dI) vwCl [(xa, .inl (cL, n0, .inr (.inl (fun j => if lo ≤ j ∧ j < hi then v else g j))))] H := ax_arL 0 (fun j => if lo ≤ j ∧ j < hi then v else g j) rfl (fun j hj => by rw [hg j hj, show i = hi by omega]) hP9
    have hD9 : va_D A [(xa, .inl (cL, n0, .inr (.inl (fun j => if lo ≤ j ∧ j < hi then v else g j))))] := hD9.set (p := 0) rfl
    exact W.vret hx hb hr (fun t8 ht hW => ⟨⟨(), rfl, trivial, by rw [ht]; exact hP9, va_K.moved hW.alike hK9, hD9⟩, hS.F ht⟩) hS.2.2 dJ7_fill_bad5a_27
  · have c_5 : i < hi := ax_fgeFN (by omega) (by omega) c_5
    refine lv_aload_n hx hb dJ7_fill_bad5a_16 rfl (lv_at hl 1 rfl) ?_
    refine lv_iload hx hb dJ7_fill_bad5a_17 (lv_at hl 0 rfl) ?_
    refine lv_lload_n hx hb dJ7_fill_bad5a_19 rfl (lv_at hl 4 rfl) ?_
    refine va_last hx hb hK hP hD hS 0 0 rfl rfl (ax_in (by omega) (by omega)) dJ7_fill_bad5a_20 (fun H locs hP hD hS => ?_)
    rw [nI_clamp (n := i) (by omega)] at hP hD
    have hP : va_P (dC, dI) vwCl [(xa, .inl (cL, n0, .inr (.inl (vp_updL g1 i v))))] H := hP
    have hD : va_D A [(xa, .inl (cL, n0, .inr (.inl (vp_updL g1 i v))))] := hD
    refine lv_iinc (v := (nI (i + 1))) (lv' := [(5, .int (nI (i + 1))), (0, .ref xa), (1, .int (nI lo)), (2, .int (nI hi)), (3, .long v)]) hx hb dJ7_fill_bad5a_21 hl (k := 0) rfl (nI_succ _).symm (by decide) rfl (fun ls hl => ?_)
    refine lv_goto (tgt := 10) hx hb dJ7_fill_bad5a_24 (by decide) ?_
    exact ih_4 (i + 1, vp_updL g1 i v) H locs ls ⟨by omega, by omega, fun j hj => ax_fi hj (by omega) (hg j hj), hl, hP, hD, hS⟩ (show hi - (i + 1) < hi - i by omega)
