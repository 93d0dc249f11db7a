theorem ax_dkv {x dv : Nat} {w : Int64} (hx : x ≤ 9) (h1 : 1 ≤ dv) (h2 : dv ≤ 100) (hw0 : 0 ≤ w.toInt) (hw1 : w.toInt < 2 ^ 62) : (if (nI x).toInt64 + w / (nI dv).toInt64 < 9 then (nI x).toInt64 + w / (nI dv).toInt64 else 9).toInt32 = nI (min 9 (x + w.toInt.toNat / dv)) := by
  have e1 : ∀ n, n < 101 → (nI n).toInt64 = lN n := by decide +kernel
  have e2 : w = lN w.toInt.toNat := by
    apply Int64.toInt_inj.mp
    rw [pk_lT (by omega)]
    omega
  have hW : w.toInt.toNat < 2 ^ 62 := by omega
  generalize w.toInt.toNat = W at e2 hW ⊢
  subst e2
  have hd : W / dv ≤ W := Nat.div_le_self _ _
  rw [e1 x (by omega), e1 dv (by omega), pk_lDiv (by omega) (by omega) (by omega)]
  have e3 : lN x + lN (W / dv) = lN (x + W / dv) := (Int64.ofNat_add _ _).symm
  rw [e3, show (9 : Int64) = lN 9 from rfl]
  by_cases q : x + W / dv < 9
  · rw [if_pos ((pk_lLT (b := 9) (by omega) (by omega)).mpr q), Nat.min_eq_right (by omega)]
    have : ∀ n, n < 9 → (lN n).toInt32 = nI n := by decide +kernel
    exact this _ q
  · rw [if_neg (fun h => q ((pk_lLT (b := 9) (by omega) (by omega)).mp h)), Nat.min_eq_left (by omega)]
    decide
theorem ax_dks {x : Nat → Nat} {w : Nat → Int64} {dv k : Nat} : va_up (dkx x w dv k) k (min 9 (x k + (w k).toInt.toNat / dv)) = dkx x w dv (k + 1) := by
  funext j
  unfold va_up dkx
  by_cases e : j = k
  · subst e
    rw [if_pos rfl, if_pos (by omega)]
  · rw [if_neg e]
    by_cases q : j < k
    · rw [if_pos q, if_pos (by omega)]
    · rw [if_neg q, if_neg (by omega)]
theorem ax_dk0 {x : Nat → Nat} {w : Nat → Int64} {dv : Nat} : x = dkx x w dv 0 := by
  funext j
  unfold dkx
  rw [if_neg (by omega)]
theorem ax_dkat {x : Nat → Nat} {w : Nat → Int64} {dv k : Nat} : dkx x w dv k k = x k := by unfold dkx; rw [if_neg (by omega)]

theorem ax_dvne {dv : Nat} (h1 : 1 ≤ dv) (h2 : dv ≤ 100) : ¬ (nI dv).toInt64 = 0 := by
  have : ∀ n, n < 101 → 1 ≤ n → ¬ (nI n).toInt64 = 0 := by decide +kernel
  exact this dv (by omega) h1

set_option maxHeartbeats 4000000 in
set_option maxRecDepth 100000 in
theorem c_X1_darken (l : Launch) (dC : Nat → ClassId) (dI : Nat → Nat → Nat) (xr xw xt : Nat) (cL cI : ClassId) (ta : Nat → Nat) (sz : Nat) (w : Nat → Int64) (t : Nat → Int64) (L : List Nat) (f : Nat → va_E) (a : Nat) (e9 : Nat) (q : PT) (dv : Nat) (ha : a ∈ L) (he : e9 ∈ L) (hfa : f a = .inr (1, pfs q e9)) (hfe : f e9 = .inl (cI, 8, .inl (nIf q.2.2.2.2.2))) (hok : okP q) (hdv1 : 1 ≤ dv) (hdv2 : dv ≤ 100) (hw0 : ∀ j, j < 8 → 0 ≤ (w j).toInt ∧ (w j).toInt < 2 ^ 62) : Met l yX1_darken wsX1_darken ({ frames := 1, cells := 0, slots := 0, locals := 17 }) (va_Pc [.ref a, .ref xr, .int (nI dv)] (ax_W (dC, dI) vwCl ([(xr, .inr (2, [.ref xw, .ref xt])), (xw, .inl (cL, 8, .inr (.inl w))), (xt, .inl (cL, 8, .inr (.inl t)))] ++ va_pl L f) [(cL, .long), (cI, .int)] ta sz)) (va_Qv (fun (u9 : Unit) => True) (fun (u9 : Unit) (t9 : State) => va_P (dC, dI) vwCl ([(xr, .inr (2, [.ref xw, .ref xt])), (xw, .inl (cL, 8, .inr (.inl w))), (xt, .inl (cL, 8, .inr (.inl t)))] ++ va_pl L (va_up (va_up f e9 (.inl (cI, 8, .inl (nIf (dkx q.2.2.2.2.2 w dv 8))))) a (.inr (1, pfs (exd q (dkx q.2.2.2.2.2 w dv 8)) e9)))) t9.heap ∧ va_K (dC, dI) vwCl [(cL, .long), (cI, .int)] t9 ∧ va_D (va_A ([(xr, .inr (2, [.ref xw, .ref xt])), (xw, .inl (cL, 8, .inr (.inl w))), (xt, .inl (cL, 8, .inr (.inl t)))] ++ va_pl L f) sz) ([(xr, .inr (2, [.ref xw, .ref xt])), (xw, .inl (cL, 8, .inr (.inl w))), (xt, .inl (cL, 8, .inr (.inl t)))] ++ va_pl L (va_up (va_up f e9 (.inl (cI, 8, .inl (nIf (dkx q.2.2.2.2.2 w dv 8))))) a (.inr (1, pfs (exd q (dkx q.2.2.2.2.2 w dv 8)) e9))))) (va_A ([(xr, .inr (2, [.ref xw, .ref xt])), (xw, .inl (cL, 8, .inr (.inl w))), (xt, .inl (cL, 8, .inr (.inl t)))] ++ va_pl L f) sz)) 0 0 (va_A ([(xr, .inr (2, [.ref xw, .ref xt])), (xw, .inl (cL, 8, .inr (.inl w))), (xt, .inl (cL, 8, .inr (.inl t)))] ++ va_pl L f) sz) := by
  refine Met.ofW (cc := cX1_darken) (maxL := 6) (ret := none) (by decide) rfl ?_
  intro p e s m args below meth c s₁ B hml hv
  obtain ⟨rfl, hsz, hP, hK, hD0, hE⟩ := hv
  have hx := B.exec
  have hb := B.bytes
  have hr := B.returns
  have hts := atoms_spec (ws := wsX1_darken) B.pre
  have hown : s.vm.findClass RX1 = some m.cls := findClass_of_methodNamed B.named
  have hlocks := B.notSynchronized
  subst hsz
  have hD := hD0.self (sz := s.heap.size)
  generalize hAe : va_A ([(xr, .inr (2, [.ref xw, .ref xt])), (xw, .inl (cL, 8, .inr (.inl w))), (xt, .inl (cL, 8, .inr (.inl t)))] ++ va_pl L f) s.heap.size = A at hD hE ⊢
  have hA : ∀ q : Nat, s.heap.size ≤ q → A q := fun q h => by rw [← hAe]; exact Or.inr h
  have hS : va_S A s.heap s.heap [] := va_S.rf
  have hl := lv_entry ([.ref a, .ref xr, .int (nI dv)]) (n := 6) (Nat.le_of_ble_eq_true rfl)
  rw [lg_entry_eq]
  generalize (lg_sl ([.ref a, .ref xr, .int (nI dv)]) ++ List.replicate (6 - (lg_sl ([.ref a, .ref xr, .int (nI dv)])).length) Slot.unset).toArray = ls at hl ⊢
  have hl : lv_has ls 6 [(0, .ref a), (1, .ref xr), (2, .int (nI dv))] := hl
  have hP : va_P (dC, dI) vwCl ([(xr, .inr (2, [.ref xw, .ref xt])), (xw, .inl (cL, 8, .inr (.inl w))), (xt, .inl (cL, 8, .inr (.inl t)))] ++ va_pl L f) s.heap := hP
  obtain ⟨hk11, hlo9, hhi9, hin2, hdi9, hti9, hex9, hexz⟩ := hok
  have hn24 := ax_hi24 hhi9
  refine lv_iload_n hx hb dX1_darken_0 rfl (lv_at hl 2 rfl) ?_
  refine lv_iconst (v := 1) hx hb dX1_darken_1 (by decide) ?_
  refine lv_icmp_ge (tgt := 6) hx hb dX1_darken_2 (by decide) (fun c_1 => ?_) (fun c_1 => ?_)
  · have c_1 : ¬ dv < 1 := ax_fgeTN (by omega) (by omega) c_1
    refine lv_iconst (v := 0) hx hb dX1_darken_6 (by decide) ?_
    refine lv_istore_n (lv' := [(3, .int 0), (0, .ref a), (1, .ref xr), (2, .int (nI dv))]) hx hb dX1_darken_7 rfl hl (by decide) rfl (fun ls hl => ?_)
    have hf9 : f = va_up f e9 (.inl (cI, 8, .inl (nIf q.2.2.2.2.2))) := (ax_upid hfe).symm
    rw [hf9] at hP hD
    have hP : va_P (dC, dI) vwCl ([(xr, .inr (2, [.ref xw, .ref xt])), (xw, .inl (cL, 8, .inr (.inl w))), (xt, .inl (cL, 8, .inr (.inl t)))] ++ va_pl L (va_up f e9 (.inl (cI, 8, .inl (nIf q.2.2.2.2.2))))) s.heap := hP
    have hD : va_D A ([(xr, .inr (2, [.ref xw, .ref xt])), (xw, .inl (cL, 8, .inr (.inl w))), (xt, .inl (cL, 8, .inr (.inl t)))] ++ va_pl L (va_up f e9 (.inl (cI, 8, .inl (nIf q.2.2.2.2.2))))) := hD
    refine ax_loop (σ := Nat × (Nat → Nat)) (fun z9 H locs ls => (z9.1 ≤ 8) ∧ (z9.2 = dkx q.2.2.2.2.2 w dv z9.1) ∧ lv_has ls 6 [(3, .int (nI z9.1)), (0, .ref a), (1, .ref xr), (2, .int (nI dv))] ∧ va_P (dC, dI) vwCl ([(xr, .inr (2, [.ref xw, .ref xt])), (xw, .inl (cL, 8, .inr (.inl w))), (xt, .inl (cL, 8, .inr (.inl t)))] ++ va_pl L (va_up f e9 (.inl (cI, 8, .inl (nIf z9.2))))) H ∧ va_D A ([(xr, .inr (2, [.ref xw, .ref xt])), (xw, .inl (cL, 8, .inr (.inl w))), (xt, .inl (cL, 8, .inr (.inl t)))] ++ va_pl L (va_up f e9 (.inl (cI, 8, .inl (nIf z9.2))))) ∧ va_S A s.heap H locs) (fun z9 => 8 - z9.1) (fun z9 H locs ls hI ih => ?_) (0, q.2.2.2.2.2) ⟨by omega, ax_dk0, hl, hP, hD, hS⟩
    obtain ⟨k, x1⟩ := z9
    obtain ⟨hk1, hx1, hl, hP, hD, hS⟩ := hI
    have hk1 : k ≤ 8 := hk1
    have hx1 : x1 = dkx q.2.2.2.2.2 w dv k := hx1
    have hl : lv_has ls 6 [(3, .int (nI k)), (0, .ref a), (1, .ref xr), (2, .int (nI dv))] := hl
    have hP : va_P (dC, dI) vwCl ([(xr, .inr (2, [.ref xw, .ref xt])), (xw, .inl (cL, 8, .inr (.inl w))), (xt, .inl (cL, 8, .inr (.inl t)))] ++ va_pl L (va_up f e9 (.inl (cI, 8, .inl (nIf x1))))) H := hP
    have hD : va_D A ([(xr, .inr (2, [.ref xw, .ref xt])), (xw, .inl (cL, 8, .inr (.inl w))), (xt, .inl (cL, 8, .inr (.inl t)))] ++ va_pl L (va_up f e9 (.inl (cI, 8, .inl (nIf x1))))) := hD
    have ih_2 := ih; clear ih
    refine lv_iload_n hx hb dX1_darken_8 rfl (lv_at hl 0 rfl) ?_
    refine lv_bipush (v := 8) hx hb dX1_darken_9 (by decide) ?_
    refine lv_icmp_ge (tgt := 54) hx hb dX1_darken_11 (by decide) (fun c_3 => ?_) (fun c_3 => ?_)
    · have c_3 : ¬ k < 8 := ax_fgeTN (by omega) (by omega) c_3
      refine lv_aload_n hx hb dX1_darken_54 rfl (lv_at hl 1 rfl) ?_
      refine lv_dup hx hb dX1_darken_55 rfl ?_
      obtain ⟨k_4, hk_5⟩ := ax_pg (X := [(xr, .inr (2, [.ref xw, .ref xt])), (xw, .inl (cL, 8, .inr (.inl w))), (xt, .inl (cL, 8, .inr (.inl t)))]) (f := (va_up f e9 (.inl (cI, 8, .inl (nIf x1))))) ha (ax_upN hfa (ax_ne hfa hfe ax_rl))
      refine va_get (D := (dC, dI)) (ci := 1) (v := .int (nI q.2.2.2.2.1)) (C := RX1) (T := TX1) (N := 6) hx hb hts (by decide +kernel) hown hK hP k_4 hk_5 rfl 4 (by decide) (hts (.fieldLink RX1 19 "Diffractory$Part" "timesExposed" "I") (by decide +kernel)) (fun _ h9 => h9) rfl dX1_darken_56 ?_
      refine lv_iconst (v := 1) hx hb dX1_darken_59 (by decide) ?_
      refine lv_iadd hx hb dX1_darken_60 ?_
      refine ax_i (y := (nI (q.2.2.2.2.1 + 1))) (ax_addN q.2.2.2.2.1 1) ?_
      obtain ⟨k_6, hk_7⟩ := ax_pg (X := [(xr, .inr (2, [.ref xw, .ref xt])), (xw, .inl (cL, 8, .inr (.inl w))), (xt, .inl (cL, 8, .inr (.inl t)))]) (f := (va_up f e9 (.inl (cI, 8, .inl (nIf x1))))) ha (ax_upN hfa (ax_ne hfa hfe ax_rl))
      have hset : (([(xr, .inr (2, [.ref xw, .ref xt])), (xw, .inl (cL, 8, .inr (.inl w))), (xt, .inl (cL, 8, .inr (.inl t)))] : va_W) ++ va_pl L (va_up f e9 (.inl (cI, 8, .inl (nIf x1))))).set k_6 (a, .inr (1, [.int (nI q.1), .int (nI q.2.1), .int (nI q.2.2.1), .int (nI q.2.2.2.1), .int (nI (q.2.2.2.2.1 + 1)), .ref e9])) = ([(xr, .inr (2, [.ref xw, .ref xt])), (xw, .inl (cL, 8, .inr (.inl w))), (xt, .inl (cL, 8, .inr (.inl t)))] : va_W) ++ va_pl L (va_up (va_up f e9 (.inl (cI, 8, .inl (nIf x1)))) a (.inr (1, [.int (nI q.1), .int (nI q.2.1), .int (nI q.2.2.1), .int (nI q.2.2.2.1), .int (nI (q.2.2.2.2.1 + 1)), .ref e9]))) := ax_ps hD ha (ax_upN hfa (ax_ne hfa hfe ax_rl)) hk_7
      refine va_put (D := (dC, dI)) (ci := 1) (v := .int (nI (q.2.2.2.2.1 + 1))) (ty := .int) (C := RX1) (T := TX1) (N := 6) hx hb hts (by decide +kernel) tyX1 tyX1_ok nmX1 hown hK hP hD hS k_6 hk_7 rfl 4 (by decide) (hts (.fieldLink RX1 19 "Diffractory$Part" "timesExposed" "I") (by decide +kernel)) (fun _ h9 => h9) rfl (by decide +kernel) rfl rfl (Nat.le_of_ble_eq_true rfl) dX1_darken_61 (fun H locs hP hD hS => ?_)
      have hP : va_P (dC, dI) vwCl ([(xr, .inr (2, [.ref xw, .ref xt])), (xw, .inl (cL, 8, .inr (.inl w))), (xt, .inl (cL, 8, .inr (.inl t)))] ++ va_pl L (va_up (va_up f e9 (.inl (cI, 8, .inl (nIf x1)))) a (.inr (1, [.int (nI q.1), .int (nI q.2.1), .int (nI q.2.2.1), .int (nI q.2.2.2.1), .int (nI (q.2.2.2.2.1 + 1)), .ref e9])))) H := by rw [← hset]; exact hP
      have hD : va_D A ([(xr, .inr (2, [.ref xw, .ref xt])), (xw, .inl (cL, 8, .inr (.inl w))), (xt, .inl (cL, 8, .inr (.inl t)))] ++ va_pl L (va_up (va_up f e9 (.inl (cI, 8, .inl (nIf x1)))) a (.inr (1, [.int (nI q.1), .int (nI q.2.1), .int (nI q.2.2.1), .int (nI q.2.2.2.1), .int (nI (q.2.2.2.2.1 + 1)), .ref e9])))) := by rw [← hset]; exact hD
      refine W.widen (k := 0) (n := 0) (Nat.le_of_ble_eq_true rfl) (Nat.le_of_ble_eq_true rfl) ?_
      have hP9 : va_P (dC, dI) vwCl ([(xr, .inr (2, [.ref xw, .ref xt])), (xw, .inl (cL, 8, .inr (.inl w))), (xt, .inl (cL, 8, .inr (.inl t)))] ++ va_pl L (va_up (va_up f e9 (.inl (cI, 8, .inl (nIf x1)))) a (.inr (1, [.int (nI q.1), .int (nI q.2.1), .int (nI q.2.2.1), .int (nI q.2.2.2.1), .int (nI (q.2.2.2.2.1 + 1)), .ref e9])))) H := hP.part [0, 1, 2] rfl
      have hD9 : va_D A ([(xr, .inr (2, [.ref xw, .ref xt])), (xw, .inl (cL, 8, .inr (.inl w))), (xt, .inl (cL, 8, .inr (.inl t)))] ++ va_pl L (va_up (va_up f e9 (.inl (cI, 8, .inl (nIf x1)))) a (.inr (1, [.int (nI q.1), .int (nI q.2.1), .int (nI q.2.2.1), .int (nI q.2.2.2.1), .int (nI (q.2.2.2.2.1 + 1)), .ref e9])))) := hD.part [0, 1, 2] (by decide) rfl
      have hK9 := hK.sub (tys' := [(cL, .long), (cI, .int)]) [0, 1] rfl
      have e9_ : x1 = dkx q.2.2.2.2.2 w dv 8 := by rw [hx1, show k = 8 by omega]
      rw [e9_] at hP9 hD9
      exact W.vret hx hb hr (fun t8 ht hW => ⟨⟨(), rfl, trivial, by rw [ht]; exact hP9, va_K.moved hW.alike hK9, hD9⟩, hS.F ht⟩) hS.2.2 dX1_darken_64
    · have c_3 : k < 8 := ax_fgeFN (by omega) (by omega) c_3
      have hx9k := hex9 k (by omega)
      have hxk : x1 k = q.2.2.2.2.2 k := by rw [hx1]; exact ax_dkat
      have hwk := hw0 k (by omega)
      refine lv_aload_n hx hb dX1_darken_14 rfl (lv_at hl 1 rfl) ?_
      obtain ⟨k_8, hk_9⟩ := ax_pg (X := [(xr, .inr (2, [.ref xw, .ref xt])), (xw, .inl (cL, 8, .inr (.inl w))), (xt, .inl (cL, 8, .inr (.inl t)))]) (f := (va_up f e9 (.inl (cI, 8, .inl (nIf x1))))) ha (ax_upN hfa (ax_ne hfa hfe ax_rl))
      refine va_get (D := (dC, dI)) (ci := 1) (v := .ref e9) (C := RX1) (T := TX1) (N := 6) hx hb hts (by decide +kernel) hown hK hP k_8 hk_9 rfl 5 (by decide) (hts (.fieldLink RX1 22 "Diffractory$Part" "exposures" "[I") (by decide +kernel)) (fun _ h9 => h9) rfl dX1_darken_15 ?_
      refine lv_iload_n hx hb dX1_darken_18 rfl (lv_at hl 0 rfl) ?_
      obtain ⟨k_10, hk_11⟩ := ax_pg (X := [(xr, .inr (2, [.ref xw, .ref xt])), (xw, .inl (cL, 8, .inr (.inl w))), (xt, .inl (cL, 8, .inr (.inl t)))]) (f := (va_up f e9 (.inl (cI, 8, .inl (nIf x1))))) he ax_upS
      refine va_iald hx hb hK hP k_10 1 hk_11 rfl (ax_in (by omega) (by omega)) dX1_darken_19 ?_
      refine ax_i (y := (nI (x1 k))) (by rw [nI_clamp (n := k) (by omega)]; rfl) ?_
      refine lv_i2l (v := (nI (x1 k)).toInt64) hx hb dX1_darken_20 rfl ?_
      refine lv_aload_n hx hb dX1_darken_21 rfl (lv_at hl 2 rfl) ?_
      refine va_get (D := (dC, dI)) (ci := 2) (v := .ref xw) (C := RX2) (T := TX2) (N := 2) hx hb hts (by decide +kernel) hown hK hP 0 rfl rfl 0 (by decide) (hts (.fieldLink RX1 32 "Diffractory$Row" "wholes" "[J") (by decide +kernel)) (fun _ h9 => h9) rfl dX1_darken_22 ?_
      refine lv_iload_n hx hb dX1_darken_25 rfl (lv_at hl 0 rfl) ?_
      refine va_lald hx hb hK hP 1 0 rfl rfl (ax_in (by omega) (by omega)) dX1_darken_26 ?_
      refine ax_l (y := (w k)) (by rw [nI_clamp (n := k) (by omega)]) ?_
      refine lv_iload_n hx hb dX1_darken_27 rfl (lv_at hl 3 rfl) ?_
      refine lv_i2l (v := (nI dv).toInt64) hx hb dX1_darken_28 rfl ?_
      refine lv_ldiv hx hb dX1_darken_29 (ax_dvne (by omega) (by omega)) ?_
      refine lv_ladd hx hb dX1_darken_30 ?_
      refine lv_lstore (lv' := [(4, .long (((nI (x1 k)).toInt64) + ((w k) / ((nI dv).toInt64)))), (3, .int (nI k)), (0, .ref a), (1, .ref xr), (2, .int (nI dv))]) hx hb dX1_darken_31 hl (by decide) rfl (fun ls hl => ?_)
      refine lv_aload_n hx hb dX1_darken_33 rfl (lv_at hl 2 rfl) ?_
      obtain ⟨k_12, hk_13⟩ := ax_pg (X := [(xr, .inr (2, [.ref xw, .ref xt])), (xw, .inl (cL, 8, .inr (.inl w))), (xt, .inl (cL, 8, .inr (.inl t)))]) (f := (va_up f e9 (.inl (cI, 8, .inl (nIf x1))))) ha (ax_upN hfa (ax_ne hfa hfe ax_rl))
      refine va_get (D := (dC, dI)) (ci := 1) (v := .ref e9) (C := RX1) (T := TX1) (N := 6) hx hb hts (by decide +kernel) hown hK hP k_12 hk_13 rfl 5 (by decide) (hts (.fieldLink RX1 22 "Diffractory$Part" "exposures" "[I") (by decide +kernel)) (fun _ h9 => h9) rfl dX1_darken_34 ?_
      refine lv_iload_n hx hb dX1_darken_37 rfl (lv_at hl 1 rfl) ?_
      refine lv_ldc2 (v := 9) hx hb hown (hts (.constantLong RX1 38 9) (by decide +kernel)) dX1_darken_38 ?_
      refine lv_lload hx hb dX1_darken_41 (lv_at hl 0 rfl) ?_
      refine va_mmin_long hx hb (hml.trans hl.1.symm) hown (hts (.methodLink RX1 40 Lib.MathLoose.min_long.x) (by decide +kernel)) (hts (.static Lib.MathLoose.min_long.x) (by decide +kernel)) (hts (.initialized "java/lang/Math") (by decide +kernel)) (hts (.code Lib.MathLoose.min_long.x Lib.MathLoose.min_long.code 4 (some .long)) (by decide +kernel)) (Nat.le_of_ble_eq_true rfl) (Nat.le_of_ble_eq_true rfl) (Nat.le_of_ble_eq_true rfl) (Nat.le_of_ble_eq_true rfl) dX1_darken_43 ?_
      refine lv_l2i (v := (if (((nI (x1 k)).toInt64) + ((w k) / ((nI dv).toInt64))) < 9 then (((nI (x1 k)).toInt64) + ((w k) / ((nI dv).toInt64))) else 9).toInt32) hx hb dX1_darken_46 rfl ?_
      refine ax_i (y := nI (min 9 (q.2.2.2.2.2 k + (w k).toInt.toNat / dv))) (by rw [hxk]; exact ax_dkv hx9k hdv1 hdv2 hwk.1 hwk.2) ?_
      obtain ⟨k_14, hk_15⟩ := ax_pg (X := [(xr, .inr (2, [.ref xw, .ref xt])), (xw, .inl (cL, 8, .inr (.inl w))), (xt, .inl (cL, 8, .inr (.inl t)))]) (f := (va_up f e9 (.inl (cI, 8, .inl (nIf x1))))) he ax_upS
      have hset : (([(xr, .inr (2, [.ref xw, .ref xt])), (xw, .inl (cL, 8, .inr (.inl w))), (xt, .inl (cL, 8, .inr (.inl t)))] : va_W) ++ va_pl L (va_up f e9 (.inl (cI, 8, .inl (nIf x1))))).set k_14 (e9, .inl (cI, 8, .inl (nIf (va_up x1 k (min 9 (q.2.2.2.2.2 k + (w k).toInt.toNat / dv)))))) = ([(xr, .inr (2, [.ref xw, .ref xt])), (xw, .inl (cL, 8, .inr (.inl w))), (xt, .inl (cL, 8, .inr (.inl t)))] : va_W) ++ va_pl L (va_up f e9 (.inl (cI, 8, .inl (nIf (va_up x1 k (min 9 (q.2.2.2.2.2 k + (w k).toInt.toNat / dv))))))) := ax_ps2 hD he ax_upS hk_15
      refine va_iast hx hb hK hP hD hS k_14 1 hk_15 rfl (ax_in (by omega) (by omega)) dX1_darken_47 (fun H locs hP hD hS => ?_)
      rw [nI_clamp (n := k) (by omega)] at hP hD
      rw [ax_nIf] at hP hD
      have hP : va_P (dC, dI) vwCl ([(xr, .inr (2, [.ref xw, .ref xt])), (xw, .inl (cL, 8, .inr (.inl w))), (xt, .inl (cL, 8, .inr (.inl t)))] ++ va_pl L (va_up f e9 (.inl (cI, 8, .inl (nIf (va_up x1 k (min 9 (q.2.2.2.2.2 k + (w k).toInt.toNat / dv)))))))) H := by rw [← hset]; exact hP
      have hD : va_D A ([(xr, .inr (2, [.ref xw, .ref xt])), (xw, .inl (cL, 8, .inr (.inl w))), (xt, .inl (cL, 8, .inr (.inl t)))] ++ va_pl L (va_up f e9 (.inl (cI, 8, .inl (nIf (va_up x1 k (min 9 (q.2.2.2.2.2 k + (w k).toInt.toNat / dv)))))))) := by rw [← hset]; exact hD
      refine lv_iinc (v := (nI (k + 1))) (lv' := [(3, .int (nI (k + 1))), (4, .long (((nI (x1 k)).toInt64) + ((w k) / ((nI dv).toInt64)))), (0, .ref a), (1, .ref xr), (2, .int (nI dv))]) hx hb dX1_darken_48 hl (k := 1) rfl (nI_succ _).symm (by decide) rfl (fun ls hl => ?_)
      refine lv_goto (tgt := 8) hx hb dX1_darken_51 (by decide) ?_
      have hl : lv_has ls 6 [(3, .int (nI (k + 1))), (0, .ref a), (1, .ref xr), (2, .int (nI dv))] := lv_sub hl [0, 2, 3, 4] rfl
      exact ih_2 (k + 1, (va_up x1 k (min 9 (q.2.2.2.2.2 k + (w k).toInt.toNat / dv)))) H locs ls ⟨by omega, by rw [hx1]; exact ax_dks, hl, hP, hD, hS⟩ (show 8 - (k + 1) < 8 - k by omega)
  · have c_1 : dv < 1 := ax_fgeFN (by omega) (by omega) c_1
    exfalso
    omega
