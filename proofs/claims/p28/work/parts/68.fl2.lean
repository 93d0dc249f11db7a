/-! doubles as whole numbers of the least double: sums, quotients, roundings to a whole number -/
abbrev Zv (a : UInt64) : Int := FP.Core.zval FP.Core.b64 (FP.Core.val64 a)
theorem Zv_fin {a : UInt64} {s : Bool} {c : Nat} {q : Int} (h : FP.Core.val64 a = .fin s c q) : Zv a = FP.Core.signed s (FP.Core.inUnits c q FP.Core.b64.qmin) := by
  unfold Zv
  rw [h]
  rfl
theorem Zv_add_le {x y V : UInt64} (hx : FP.Core.DFin x) (hy : FP.Core.DFin y) (hV : FP.Core.val64 V ≠ .nan) (h : Zv x + Zv y ≤ Zv V) : Zv (FP.dadd x y) ≤ Zv V := by
  have h1 := FP.Core.sum_le FP.Core.good_b64 hx hy (FP.Core.val64_fits x) (FP.Core.val64_fits y) (FP.Core.val64_fits V) hV h
  unfold Zv
  rw [FP.Core.val64_dadd]
  exact h1
theorem Zv_add_ge {x y V : UInt64} (hx : FP.Core.DFin x) (hy : FP.Core.DFin y) (hV : FP.Core.val64 V ≠ .nan) (h : Zv V ≤ Zv x + Zv y) : Zv V ≤ Zv (FP.dadd x y) := by
  have h1 := FP.Core.sum_ge FP.Core.good_b64 hx hy (FP.Core.val64_fits x) (FP.Core.val64_fits y) (FP.Core.val64_fits V) hV h
  unfold Zv
  rw [FP.Core.val64_dadd]
  exact h1
theorem Zv_neg (a : UInt64) : Zv (FP.dneg a) = -Zv a := by
  have e : FP.Core.val64 (FP.dneg a) = FP.Core.negate (FP.Core.val64 a) := FP.val64_dneg a
  unfold Zv
  rw [e, FP.Core.zval_negate]
theorem fin_neg {a : UInt64} (h : FP.Core.DFin a) : FP.Core.DFin (FP.dneg a) := by
  obtain ⟨s, c, q, h⟩ := h
  exact ⟨!s, c, q, by have e : FP.Core.val64 (FP.dneg a) = FP.Core.negate (FP.Core.val64 a) := FP.val64_dneg a
                      rw [e, h]; rfl⟩
theorem Zv_negc (a : UInt64) : Zv (FP.Core.dneg a) = -Zv a := by
  unfold Zv
  rw [FP.Core.val64_dneg, FP.Core.zval_negate]
theorem fin_negc {a : UInt64} (h : FP.Core.DFin a) : FP.Core.DFin (FP.Core.dneg a) := by
  obtain ⟨s, c, q, h⟩ := h
  exact ⟨!s, c, q, by rw [FP.Core.val64_dneg, h]; rfl⟩
theorem Zv_sub_le {x y V : UInt64} (hx : FP.Core.DFin x) (hy : FP.Core.DFin y) (hV : FP.Core.val64 V ≠ .nan) (h : Zv x - Zv y ≤ Zv V) : Zv (FP.dsub x y) ≤ Zv V := by
  have e : FP.dsub x y = FP.dadd x (FP.Core.dneg y) := FP.Core.dsub_eq x y
  rw [e]
  exact Zv_add_le hx (fin_negc hy) hV (by rw [Zv_negc]; omega)
theorem Zv_sub_ge {x y V : UInt64} (hx : FP.Core.DFin x) (hy : FP.Core.DFin y) (hV : FP.Core.val64 V ≠ .nan) (h : Zv V ≤ Zv x - Zv y) : Zv V ≤ Zv (FP.dsub x y) := by
  have e : FP.dsub x y = FP.dadd x (FP.Core.dneg y) := FP.Core.dsub_eq x y
  rw [e]
  exact Zv_add_ge hx (fin_negc hy) hV (by rw [Zv_negc]; omega)
theorem Zv_key {a b : UInt64} (ha : FP.Core.val64 a ≠ .nan) (hb : FP.Core.val64 b ≠ .nan) : Zv a < Zv b ↔ FP.Core.dkey a < FP.Core.dkey b := by
  rw [← FP.Core.dcmp_lt_key ha hb, FP.Core.dcmp_lt]
  exact ⟨fun h => ⟨ha, hb, h⟩, fun h => h.2.2⟩
theorem dgt_Z {a b : UInt64} : dgt a b ↔ FP.Core.val64 a ≠ .nan ∧ FP.Core.val64 b ≠ .nan ∧ Zv b < Zv a := by rw [dgt_iff, FP.Core.dcmp_gt]
theorem dlt_iff {x y : UInt64} : dlt x y ↔ FP.dcmp x y = some .lt := by
  show (Op.cmpValue (FP.dcmp x y) .g).toInt < 0 ↔ _
  cases h : FP.dcmp x y with
  | none => exact ⟨fun q => absurd q (by decide), fun q => by cases q⟩
  | some o =>
    cases o
    · exact ⟨fun _ => rfl, fun _ => by decide⟩
    · exact ⟨fun q => absurd q (by decide), fun q => by cases q⟩
    · exact ⟨fun q => absurd q (by decide), fun q => by cases q⟩
theorem dlt_Z {a b : UInt64} : dlt a b ↔ FP.Core.val64 a ≠ .nan ∧ FP.Core.val64 b ≠ .nan ∧ Zv a < Zv b := by rw [dlt_iff, FP.Core.dcmp_lt]
theorem Zv_0 : Zv 0 = 0 := FP.Core.zval64_zero
theorem one_pos : (0 : Int) < (FP.Core.one64 : Int) := Int.ofNat_lt.mpr FP.Core.one64_pos
theorem Zv_one : Zv 4607182418800017408 = ((1 : Nat) : Int) * (FP.Core.one64 : Int) := by decide +kernel
theorem Zv_ten : Zv 4621819117588971520 = ((10 : Nat) : Int) * (FP.Core.one64 : Int) := by decide +kernel
theorem Zv_52 : Zv 4841369599423283200 = ((4503599627370496 : Nat) : Int) * (FP.Core.one64 : Int) := by decide +kernel
theorem Zv_52a : Zv 4841369599423283209 = ((4503599627370505 : Nat) : Int) * (FP.Core.one64 : Int) := by decide +kernel
theorem Zv_52b : Zv 4841369599423283210 = ((4503599627370506 : Nat) : Int) * (FP.Core.one64 : Int) := by decide +kernel
theorem Zv_52c : Zv 4841369599423283211 = ((4503599627370507 : Nat) : Int) * (FP.Core.one64 : Int) := by decide +kernel
theorem fin_10 : FP.Core.DFin 4621819117588971520 := fl_fin (K := 1076) (by decide) (by decide)
theorem fin_1 : FP.Core.DFin 4607182418800017408 := fl_fin (K := 1076) (by decide) (by decide)
theorem fin_0 : FP.Core.DFin 0 := fl_fin (K := 1076) (by decide) (by decide)
theorem fin_52a : FP.Core.DFin 4841369599423283209 := fl_fin (K := 1076) (by decide) (by decide)
theorem fin_52b : FP.Core.DFin 4841369599423283210 := fl_fin (K := 1076) (by decide) (by decide)
theorem fin_52c : FP.Core.DFin 4841369599423283211 := fl_fin (K := 1076) (by decide) (by decide)
theorem sg_le (s : Bool) (m : Nat) : FP.Core.signed s m ≤ (m : Int) := by cases s <;> simp only [FP.Core.signed, if_true, Bool.false_eq_true, if_false] <;> omega
theorem sg_pos {s : Bool} {m : Nat} (h : 0 < FP.Core.signed s m) : s = false ∧ 0 < m := by
  cases s
  · simp only [FP.Core.signed, Bool.false_eq_true, if_false] at h; exact ⟨rfl, by omega⟩
  · simp only [FP.Core.signed, if_true] at h; omega
theorem Zv_abs {a : UInt64} (h : 0 ≤ Zv a) : Zv a = (FP.Core.zmag FP.Core.b64 (FP.Core.val64 a) : Int) := by
  unfold Zv FP.Core.zval at *
  cases e : FP.Core.sgn (FP.Core.val64 a) <;> rw [e] at h <;> simp only [FP.Core.signed, if_true, Bool.false_eq_true, if_false] at h ⊢
  omega
/-! quotients -/
theorem pw_q {c d zV A B C P K : Nat} (hB : 0 < B) (e : A * B = C * P * K) (h : c * C * P ≤ zV * (d * B)) : c * A ≤ zV * K * d := by
  refine Nat.le_of_mul_le_mul_right ?_ hB
  have h1 := Nat.mul_le_mul_right K h
  have e1 : c * A * B = c * C * P * K := by rw [Nat.mul_assoc, e]; ac_rfl
  have e2 : zV * K * d * B = zV * (d * B) * K := by ac_rfl
  rw [e1, e2]
  exact h1
theorem pw_q2 {c d zV A B C P K : Nat} (hB : 0 < B) (e : A * B = C * P * K) (h : zV * (d * B) ≤ c * C * P) : zV * K * d ≤ c * A := by
  refine Nat.le_of_mul_le_mul_right ?_ hB
  have h1 := Nat.mul_le_mul_right K h
  have e1 : c * A * B = c * C * P * K := by rw [Nat.mul_assoc, e]; ac_rfl
  have e2 : zV * K * d * B = zV * (d * B) * K := by ac_rfl
  rw [e1, e2]
  exact h1
theorem qx_pow {q r : Int} (h1 : FP.Core.b64.qmin ≤ q) (h2 : FP.Core.b64.qmin ≤ r) (h3 : r ≤ 971) : 2 ^ (q - r - (-2200)).toNat * 2 ^ (r - FP.Core.b64.qmin).toNat = 2 ^ (q - FP.Core.b64.qmin).toNat * FP.Core.one64 * 2 ^ (FP.Core.b64.qmin - (-2200)).toNat := by
  have hq := FP.Core.qmin_b64
  rw [← FP.Core.pow_qmin64, ← Nat.pow_add, ← Nat.pow_add, ← Nat.pow_add]
  congr 1
  omega
theorem qmax_b64 : FP.Core.b64.qmax = 971 := by decide
/-- a quotient's parts -/
theorem Zv_q {x y : UInt64} (hx : FP.Core.DFin x) (hy : FP.Core.DFin y) (hy0 : 0 < Zv y) : ∃ s c q d r, 0 < d ∧ FP.Core.b64.qmin ≤ q ∧ FP.Core.b64.qmin ≤ r ∧ r ≤ 971 ∧ Zv x = FP.Core.signed s (FP.Core.inUnits c q FP.Core.b64.qmin) ∧ Zv y = (FP.Core.inUnits d r FP.Core.b64.qmin : Int) ∧ FP.Core.val64 (FP.ddiv x y) = FP.Core.roundRatio FP.Core.b64 s c d (q - r) := by
  obtain ⟨s, c, q, ex⟩ := hx
  obtain ⟨t, d, r, ey⟩ := hy
  have fx := FP.Core.val64_fits x
  have fy := FP.Core.val64_fits y
  rw [ex] at fx
  rw [ey] at fy
  rw [Zv_fin ey] at hy0
  obtain ⟨ht, hm⟩ := sg_pos hy0
  subst ht
  have hd : d ≠ 0 := fun h => by subst h; unfold FP.Core.inUnits at hm; rw [Nat.zero_mul] at hm; exact absurd hm (Nat.lt_irrefl 0)
  have h3 := fy.2.2.1
  rw [qmax_b64] at h3
  refine ⟨s, c, q, d, r, by omega, fx.2.1, fy.2.1, h3, Zv_fin ex, Zv_fin ey, ?_⟩
  rw [FP.Core.val64_ddiv, ex, ey]
  show (if d = 0 then _ else FP.Core.roundRatio FP.Core.b64 (s != false) c d (q - r)) = _
  rw [if_neg hd, Bool.bne_false]
theorem Zv_div_le {x y V : UInt64} (hx : FP.Core.DFin x) (hy : FP.Core.DFin y) (hy0 : 0 < Zv y) (hV : FP.Core.val64 V ≠ .nan) (hV0 : 0 ≤ Zv V) (h : Zv x * (FP.Core.one64 : Int) ≤ Zv V * Zv y) : Zv (FP.ddiv x y) ≤ Zv V := by
  obtain ⟨s, c, q, d, r, hd, hq, hr, hr2, e1, e2, e3⟩ := Zv_q hx hy hy0
  have hz : Zv (FP.ddiv x y) = FP.Core.signed s (FP.Core.zmag FP.Core.b64 (FP.Core.roundRatio FP.Core.b64 s c d (q - r))) := by
    unfold Zv
    rw [e3]
    unfold FP.Core.zval
    rw [FP.Core.sgn_roundRatio]
  rw [hz]
  cases s with
  | true =>
    refine Int.le_trans ?_ hV0
    simp only [FP.Core.signed, if_true]
    omega
  | false =>
    rw [Zv_abs hV0, e1, e2] at h
    rw [Zv_abs hV0]
    refine Int.ofNat_le.mpr (FP.Core.zmag_roundRatio_le FP.Core.good_b64 (e0 := -2200) hd (FP.Core.val64_fits V) hV (by rw [FP.Core.qmin_b64]; decide) (by rw [FP.Core.qmin_b64] at hq; omega) ?_)
    refine pw_q (Nat.two_pow_pos _) (qx_pow hq hr hr2) ?_
    have h' : ((FP.Core.inUnits c q FP.Core.b64.qmin : Nat) : Int) * (FP.Core.one64 : Int) ≤ (FP.Core.zmag FP.Core.b64 (FP.Core.val64 V) : Int) * (FP.Core.inUnits d r FP.Core.b64.qmin : Int) := h
    rw [← Int.natCast_mul, ← Int.natCast_mul] at h'
    exact Int.ofNat_le.mp h'
theorem Zv_div_ge {x y V : UInt64} (hx : FP.Core.DFin x) (hy : FP.Core.DFin y) (hy0 : 0 < Zv y) (hx0 : 0 < Zv x) (hV0 : 0 ≤ Zv V) (h : Zv V * Zv y ≤ Zv x * (FP.Core.one64 : Int)) : Zv V ≤ Zv (FP.ddiv x y) := by
  obtain ⟨s, c, q, d, r, hd, hq, hr, hr2, e1, e2, e3⟩ := Zv_q hx hy hy0
  have hz : Zv (FP.ddiv x y) = FP.Core.signed s (FP.Core.zmag FP.Core.b64 (FP.Core.roundRatio FP.Core.b64 s c d (q - r))) := by
    unfold Zv
    rw [e3]
    unfold FP.Core.zval
    rw [FP.Core.sgn_roundRatio]
  rw [hz]
  rw [e1] at hx0
  obtain ⟨hs, -⟩ := sg_pos hx0
  subst hs
  rw [Zv_abs hV0, e1, e2] at h
  rw [Zv_abs hV0]
  refine Int.ofNat_le.mpr (FP.Core.zmag_roundRatio_ge FP.Core.good_b64 (e0 := -2200) hd (FP.Core.val64_fits V) (by rw [FP.Core.qmin_b64]; decide) (by rw [FP.Core.qmin_b64] at hq; omega) ?_)
  refine pw_q2 (Nat.two_pow_pos _) (qx_pow hq hr hr2) ?_
  have h' : (FP.Core.zmag FP.Core.b64 (FP.Core.val64 V) : Int) * (FP.Core.inUnits d r FP.Core.b64.qmin : Int) ≤ ((FP.Core.inUnits c q FP.Core.b64.qmin : Nat) : Int) * (FP.Core.one64 : Int) := h
  rw [← Int.natCast_mul, ← Int.natCast_mul] at h'
  exact Int.ofNat_le.mp h'
/-! the nearest: a sum -/
theorem Zv_near {x y V : UInt64} (hx : FP.Core.DFin x) (hy : FP.Core.DFin y) (hR : FP.Core.DFin (FP.dadd x y)) (hV : FP.Core.DFin V) (h0 : 0 ≤ Zv x + Zv y) (hV0 : 0 ≤ Zv V) : (Zv (FP.dadd x y) - (Zv x + Zv y)).natAbs ≤ (Zv V - (Zv x + Zv y)).natAbs := by
  obtain ⟨s, c, q, ex⟩ := hx
  obtain ⟨t, d, r, ey⟩ := hy
  obtain ⟨s', c', q', eV⟩ := hV
  obtain ⟨s1, c1, q1, eR⟩ := hR
  have fx := FP.Core.val64_fits x
  have fy := FP.Core.val64_fits y
  have fV := FP.Core.val64_fits V
  rw [ex] at fx
  rw [ey] at fy
  rw [eV] at fV
  obtain ⟨sg, n, e, g1, g2, g3⟩ := FP.Core.sum_units fx fy
  have hr : FP.Core.roundRatio FP.Core.b64 sg n 1 e = .fin s1 c1 q1 := by
    rw [← eR, FP.Core.val64_dadd, ex, ey, g1]
    rfl
  have hs : s1 = sg := by
    have := FP.Core.sgn_roundRatio FP.Core.b64 sg n 1 e
    rw [hr] at this
    exact this
  subst hs
  have hd := FP.Core.roundRatio_nearest FP.Core.good_b64 (e0 := FP.Core.b64.qmin) (by decide) hr fV.1 fV.2.1 (Int.le_refl _) g2
  unfold FP.Core.distance at hd
  have hxy : Zv x + Zv y = FP.Core.signed s1 (FP.Core.inUnits n e FP.Core.b64.qmin) := by
    rw [g3]
    unfold Zv
    rw [ex, ey]
  have hVm := Zv_abs hV0
  rw [eV] at hVm
  rw [hxy] at h0 ⊢
  rw [hVm, Zv_fin eR]
  show _ ≤ (((FP.Core.inUnits c' q' FP.Core.b64.qmin : Nat) : Int) - _).natAbs
  generalize FP.Core.inUnits n e FP.Core.b64.qmin = E at *
  generalize FP.Core.inUnits c1 q1 FP.Core.b64.qmin = R1 at *
  generalize FP.Core.inUnits c' q' FP.Core.b64.qmin = V1 at *
  cases s1 <;> simp only [FP.Core.signed, if_true, Bool.false_eq_true, if_false] at h0 ⊢ <;> omega
/-! ten times a value, rounded -/
theorem p_b64' : FP.Core.b64.p = 53 := by decide
theorem ten_v : FP.Core.val64 4621819117588971520 = .fin false 5629499534213120 (-49) := by decide +kernel
theorem ten_z : FP.Core.zmag FP.Core.b64 (.fin false 5629499534213120 (-49)) = 10 * FP.Core.one64 := by decide +kernel
/-- a number of the format between 10 g and 10.25 g -/
theorem ten_w {d : Nat} {r : Int} (hd : d < 2 ^ 53) (hr : FP.Core.b64.qmin ≤ r) : ∃ c' q', c' < 2 ^ FP.Core.b64.p ∧ FP.Core.b64.qmin ≤ q' ∧ 10 * FP.Core.inUnits d r FP.Core.b64.qmin ≤ FP.Core.inUnits c' q' FP.Core.b64.qmin ∧ 4 * FP.Core.inUnits c' q' FP.Core.b64.qmin ≤ 41 * FP.Core.inUnits d r FP.Core.b64.qmin := by
  rw [p_b64']
  by_cases h : 10 * d < 2 ^ 53
  · refine ⟨10 * d, r, h, hr, ?_, ?_⟩
    · unfold FP.Core.inUnits
      rw [Nat.mul_assoc]
      exact Nat.le_refl _
    · unfold FP.Core.inUnits
      rw [Nat.mul_assoc]
      omega
  · refine ⟨(10 * d + 15) / 16, r + 4, by omega, by omega, ?_, ?_⟩
    · unfold FP.Core.inUnits
      rw [show (r + 4 - FP.Core.b64.qmin).toNat = 4 + (r - FP.Core.b64.qmin).toNat by omega, Nat.pow_add, ← Nat.mul_assoc, ← Nat.mul_assoc]
      exact Nat.mul_le_mul_right _ (by omega)
    · unfold FP.Core.inUnits
      rw [show (r + 4 - FP.Core.b64.qmin).toNat = 4 + (r - FP.Core.b64.qmin).toNat by omega, Nat.pow_add, ← Nat.mul_assoc, ← Nat.mul_assoc, ← Nat.mul_assoc]
      exact Nat.mul_le_mul_right _ (by omega)
theorem dist_up {T X Y : Nat} (h : ((T : Int) - (X : Int) * 1).natAbs ≤ ((T : Int) - (Y : Int) * 1).natAbs) (hT : T ≤ Y) : X ≤ Y ∧ 2 * T ≤ X + Y := by omega
theorem Zv_ten_le {v g : UInt64} (hv : FP.Core.DFin v) (hg : FP.Core.DFin g) (hp : FP.Core.DFin (FP.dmul 4621819117588971520 v)) (h0 : 0 < Zv v) (h : Zv v ≤ Zv g) : 4 * Zv (FP.dmul 4621819117588971520 v) ≤ 41 * Zv g ∧ (v = g → 39 * Zv g ≤ 4 * Zv (FP.dmul 4621819117588971520 v)) := by
  have hg0 : 0 < Zv g := Int.lt_of_lt_of_le h0 h
  obtain ⟨s, c, q, ev⟩ := hv
  obtain ⟨t, d, r, eg⟩ := hg
  obtain ⟨s1, c1, q1, ep⟩ := hp
  have fv := FP.Core.val64_fits v
  have fg := FP.Core.val64_fits g
  have fp := FP.Core.val64_fits (FP.dmul 4621819117588971520 v)
  have f10 := FP.Core.val64_fits 4621819117588971520
  rw [ev] at fv
  rw [eg] at fg
  rw [ep] at fp
  rw [ten_v] at f10
  have hs := (sg_pos (by rw [Zv_fin ev] at h0; exact h0)).1
  have ht := (sg_pos (by rw [Zv_fin eg] at hg0; exact hg0)).1
  subst hs ht
  obtain ⟨u1, u2, u3⟩ := FP.Core.product_units f10 fv
  have hr : FP.Core.roundRatio FP.Core.b64 false (5629499534213120 * c) 1 (-49 + q) = .fin s1 c1 q1 := by
    rw [← ep, FP.Core.val64_dmul, ten_v, ev, u1]
    rfl
  have hs1 : s1 = false := by
    have := FP.Core.sgn_roundRatio FP.Core.b64 false (5629499534213120 * c) 1 (-49 + q)
    rw [hr] at this
    exact this
  subst hs1
  have hd53 := fg.1
  rw [p_b64'] at hd53
  obtain ⟨c', q', w1, w2, w3, w4⟩ := ten_w hd53 fg.2.1
  have hqm := FP.Core.qmin_b64
  have hd := FP.Core.roundRatio_nearest FP.Core.good_b64 (e0 := 2 * FP.Core.b64.qmin) (by decide) hr w1 w2 (by omega) u2
  unfold FP.Core.distance at hd
  rw [u3, ten_z, FP.Core.units_fin fp (by omega), FP.Core.inUnits_move c' (q := q') (e := 2 * FP.Core.b64.qmin) (r := FP.Core.b64.qmin) (by omega) w2, show (FP.Core.b64.qmin - 2 * FP.Core.b64.qmin).toNat = (-FP.Core.b64.qmin).toNat by omega, FP.Core.pow_qmin64] at hd
  rw [Zv_fin ev, Zv_fin eg] at h
  have h9 : FP.Core.inUnits c q FP.Core.b64.qmin ≤ FP.Core.inUnits d r FP.Core.b64.qmin := Int.ofNat_le.mp h
  have hzv : FP.Core.zmag FP.Core.b64 (.fin false c q) = FP.Core.inUnits c q FP.Core.b64.qmin := rfl
  rw [hzv] at hd
  have hzp : Zv (FP.dmul 4621819117588971520 v) = (FP.Core.zmag FP.Core.b64 (.fin false c1 q1) : Int) := Zv_fin ep
  rw [hzp, Zv_fin eg]
  show 4 * ((FP.Core.zmag FP.Core.b64 (.fin false c1 q1) : Nat) : Int) ≤ 41 * ((FP.Core.inUnits d r FP.Core.b64.qmin : Nat) : Int) ∧ (v = g → 39 * ((FP.Core.inUnits d r FP.Core.b64.qmin : Nat) : Int) ≤ 4 * ((FP.Core.zmag FP.Core.b64 (.fin false c1 q1) : Nat) : Int))
  have hvg : v = g → FP.Core.inUnits c q FP.Core.b64.qmin = FP.Core.inUnits d r FP.Core.b64.qmin := fun e => by
    subst e
    rw [ev] at eg
    injection eg with _ e2 e3
    rw [e2, e3]
  generalize FP.Core.zmag FP.Core.b64 (.fin false c1 q1) = X at *
  generalize FP.Core.inUnits c' q' FP.Core.b64.qmin = Y at *
  generalize FP.Core.inUnits c q FP.Core.b64.qmin = a at *
  generalize FP.Core.inUnits d r FP.Core.b64.qmin = b at *
  have hO := FP.Core.one64_pos
  generalize FP.Core.one64 = O at *
  have hTY : 10 * O * a ≤ Y * O := by
    rw [Nat.mul_right_comm]
    exact Nat.mul_le_mul_right O (by omega)
  obtain ⟨k1, k2⟩ := dist_up hd hTY
  have k3 : X ≤ Y := Nat.le_of_mul_le_mul_right k1 hO
  refine ⟨by omega, fun e => ?_⟩
  have e2 := hvg e
  subst e2
  have k4 : 20 * a ≤ X + Y := by
    refine Nat.le_of_mul_le_mul_right ?_ hO
    rw [Nat.add_mul, Nat.mul_right_comm]
    rw [Nat.mul_assoc 10 O a] at k2
    rw [Nat.mul_assoc 20 O a]
    omega
  omega
/-! roundings to a whole number -/
theorem fin_of_Z {x : UInt64} (hn : FP.Core.val64 x ≠ .nan) (h0 : 0 ≤ Zv x) (h1 : Zv x < Zv 4841369599423283200) : x.toNat % 2 ^ 63 < 1076 * 2 ^ 52 := by
  have k1 := (Zv_key hn fl_52.ne_nan).mp h1
  have k0 : ¬ FP.Core.dkey x < FP.Core.dkey 0 := fun q => by
    have := (Zv_key hn fin_0.ne_nan).mpr q
    rw [Zv_0] at this
    omega
  have e1 : FP.Core.dkey 4841369599423283200 = 4841369599423283200 := by decide +kernel
  have e0 : FP.Core.dkey 0 = 0 := by decide +kernel
  rw [e1] at k1
  rw [e0] at k0
  have h9 := UInt64.toNat_lt x
  unfold FP.Core.dkey at k0 k1
  split at k0 <;> omega
theorem rab_ok {x : UInt64} (hn : FP.Core.val64 x ≠ .nan) (h0 : 0 ≤ Zv x) : 0 ≤ Zv (rab x) ∧ (4 * Zv x ≤ 41 * (FP.Core.one64 : Int) → Zv (rab x) ≤ 10 * (FP.Core.one64 : Int)) ∧ (39 * (FP.Core.one64 : Int) ≤ 4 * Zv x → 4 * Zv x ≤ 41 * (FP.Core.one64 : Int) → Zv (rab x) = 10 * (FP.Core.one64 : Int)) := by
  have hO := one_pos
  unfold rab
  by_cases hl : dlt x 4841369599423283200
  · rw [if_pos hl]
    have hl2 := (dlt_Z.mp hl).2.2
    have hm := fin_of_Z hn h0 hl2
    have hx : FP.Core.DFin x := fl_fin hm (by decide)
    have hR : FP.Core.DFin (FP.dadd x 4841369599423283200) := fl_fin (FP.Core.dadd_mag hm (show (4841369599423283200 : UInt64).toNat % 2 ^ 63 < 1076 * 2 ^ 52 by decide) (by decide)) (by decide)
    have e52 := Zv_52
    have e10 := Zv_ten
    have ea := Zv_52a
    have eb := Zv_52b
    have ec := Zv_52c
    have hge : Zv 4841369599423283200 ≤ Zv (FP.dadd x 4841369599423283200) := Zv_add_ge hx fl_52 fl_52.ne_nan (by omega)
    have hnear := Zv_near (V := 4841369599423283210) hx fl_52 hR fin_52b (by omega) (by omega)
    have up : 4 * Zv x ≤ 41 * (FP.Core.one64 : Int) → Zv (FP.dadd x 4841369599423283200) ≤ Zv 4841369599423283210 := fun h => by
      refine Int.not_lt.mp fun q => ?_
      have k := (Zv_key fin_52b.ne_nan hR.ne_nan).mp q
      have k2 : ¬ Zv (FP.dadd x 4841369599423283200) < Zv 4841369599423283211 := fun q2 => by
        have k3 := (Zv_key hR.ne_nan fin_52c.ne_nan).mp q2
        have e1 : FP.Core.dkey 4841369599423283210 = 4841369599423283210 := by decide +kernel
        have e2 : FP.Core.dkey 4841369599423283211 = 4841369599423283211 := by decide +kernel
        omega
      omega
    refine ⟨?_, fun h => ?_, fun h1 h2 => ?_⟩
    · have := Zv_sub_ge (V := 0) hR fl_52 fin_0.ne_nan (by rw [Zv_0]; omega)
      rw [Zv_0] at this
      exact this
    · have h3 := up h
      have := Zv_sub_le (V := 4621819117588971520) hR fl_52 fin_10.ne_nan (by omega)
      omega
    · have h3 := up h2
      have h4 : Zv 4841369599423283210 ≤ Zv (FP.dadd x 4841369599423283200) := by
        refine Int.not_lt.mp fun q => ?_
        have k := (Zv_key hR.ne_nan fin_52b.ne_nan).mp q
        have k2 : ¬ Zv 4841369599423283209 < Zv (FP.dadd x 4841369599423283200) := fun q2 => by
          have k3 := (Zv_key fin_52a.ne_nan hR.ne_nan).mp q2
          have e1 : FP.Core.dkey 4841369599423283210 = 4841369599423283210 := by decide +kernel
          have e2 : FP.Core.dkey 4841369599423283209 = 4841369599423283209 := by decide +kernel
          omega
        omega
      have a1 := Zv_sub_le (V := 4621819117588971520) hR fl_52 fin_10.ne_nan (by omega)
      have a2 := Zv_sub_ge (V := 4621819117588971520) hR fl_52 fin_10.ne_nan (by omega)
      omega
  · rw [if_neg hl]
    have h9 : ¬ Zv x < Zv 4841369599423283200 := fun q => hl (dlt_Z.mpr ⟨hn, fl_52.ne_nan, q⟩)
    have e52 := Zv_52
    exact ⟨h0, fun h => by omega, fun h1 h2 => by omega⟩
theorem neg_nan {x : UInt64} (h : FP.Core.val64 x ≠ .nan) : FP.Core.val64 (FP.dneg x) ≠ .nan := by
  have e : FP.Core.val64 (FP.dneg x) = FP.Core.negate (FP.Core.val64 x) := FP.val64_dneg x
  rw [e]
  exact FP.Core.negate_ne_nan h
theorem rte_le {x : UInt64} (hn : FP.Core.val64 x ≠ .nan) (h : 4 * Zv x ≤ 41 * (FP.Core.one64 : Int)) : Zv (rte x) ≤ 10 * (FP.Core.one64 : Int) := by
  have hO := one_pos
  unfold rte
  by_cases hl : dlt x 0
  · rw [if_pos hl, Zv_neg]
    have hl2 := (dlt_Z.mp hl).2.2
    rw [Zv_0] at hl2
    have := (rab_ok (neg_nan hn) (by rw [Zv_neg]; omega)).1
    omega
  · rw [if_neg hl]
    have h9 : ¬ Zv x < Zv 0 := fun q => hl (dlt_Z.mpr ⟨hn, fin_0.ne_nan, q⟩)
    rw [Zv_0] at h9
    exact (rab_ok hn (by omega)).2.1 h
theorem rte_ten {x : UInt64} (hn : FP.Core.val64 x ≠ .nan) (h1 : 39 * (FP.Core.one64 : Int) ≤ 4 * Zv x) (h2 : 4 * Zv x ≤ 41 * (FP.Core.one64 : Int)) : Zv (rte x) = 10 * (FP.Core.one64 : Int) := by
  have hO := one_pos
  unfold rte
  by_cases hl : dlt x 0
  · have hl2 := (dlt_Z.mp hl).2.2
    rw [Zv_0] at hl2
    omega
  · rw [if_neg hl]
    exact (rab_ok hn (by omega)).2.2 h1 h2
/-! what the law asks of tenths and of the clearness -/
theorem va_fin (w t : Nat → Int64) (k : Nat) : FP.Core.DFin (vA w t k) := fl_fin (fl_va w t k) (by decide)
theorem pg_max (w t : Nat → Int64) : ∀ n k, k < n → Zv (vA w t k) ≤ Zv (vA w t (pgR w t n))
  | 0, k, h => absurd h (Nat.not_lt_zero k)
  | n + 1, k, h => by
    have ih := pg_max w t n
    show Zv (vA w t k) ≤ Zv (vA w t (if dgt (vA w t n) (vA w t (pgR w t n)) then n else pgR w t n))
    by_cases q : dgt (vA w t n) (vA w t (pgR w t n))
    · rw [if_pos q]
      have h1 := (dgt_Z.mp q).2.2
      by_cases e : k = n
      · subst e; exact Int.le_refl _
      · have := ih k (by omega); omega
    · rw [if_neg q]
      by_cases e : k = n
      · subst e
        exact Int.not_lt.mp fun h1 => q (dgt_Z.mpr ⟨(va_fin w t _).ne_nan, (va_fin w t _).ne_nan, h1⟩)
      · exact ih k (by omega)
theorem tn_q {w t : Nat → Int64} {k : Nat} (hk : k < 8) (h : dgt (gr8 w t) 0) : 4 * Zv (FP.ddiv (FP.dmul 4621819117588971520 (vA w t k)) (gr8 w t)) ≤ 41 * (FP.Core.one64 : Int) ∧ (vA w t k = gr8 w t → 39 * (FP.Core.one64 : Int) ≤ 4 * Zv (FP.ddiv (FP.dmul 4621819117588971520 (vA w t k)) (gr8 w t))) := by
  have hO := one_pos
  have hg : FP.Core.DFin (gr8 w t) := va_fin w t _
  have hg0 : 0 < Zv (gr8 w t) := by have := (dgt_Z.mp h).2.2; rw [Zv_0] at this; exact this
  have hv := va_fin w t k
  have hp : FP.Core.DFin (FP.dmul 4621819117588971520 (vA w t k)) := fl_fin (fl_10 w t k) (by decide)
  have hmx : Zv (vA w t k) ≤ Zv (gr8 w t) := pg_max w t 8 k hk
  have V1 : Zv 4621959855077326848 * 4 = 41 * (FP.Core.one64 : Int) := by decide +kernel
  have V2 : Zv 4621678380100616192 * 4 = 39 * (FP.Core.one64 : Int) := by decide +kernel
  have fV1 : FP.Core.DFin 4621959855077326848 := fl_fin (K := 1076) (by decide) (by decide)
  have key : 4 * Zv (FP.dmul 4621819117588971520 (vA w t k)) ≤ 41 * Zv (gr8 w t) := by
    by_cases h0 : 0 < Zv (vA w t k)
    · exact (Zv_ten_le hv hg hp h0 hmx).1
    · have : Zv (FP.dmul 4621819117588971520 (vA w t k)) ≤ 0 := by
        obtain ⟨s, c, q, ev⟩ := hv
        have fv := FP.Core.val64_fits (vA w t k)
        have f10 := FP.Core.val64_fits 4621819117588971520
        rw [ev] at fv
        rw [ten_v] at f10
        obtain ⟨u1, u2, u3⟩ := FP.Core.product_units f10 fv
        rw [Zv_fin ev] at h0
        have hz : Zv (FP.dmul 4621819117588971520 (vA w t k)) = FP.Core.signed (false != s) (FP.Core.zmag FP.Core.b64 (FP.Core.roundRatio FP.Core.b64 (false != s) (5629499534213120 * c) 1 (-49 + q))) := by
          unfold Zv
          rw [FP.Core.val64_dmul, ten_v, ev, u1]
          show FP.Core.signed (FP.Core.sgn (FP.Core.roundRatio _ _ _ _ _)) _ = _
          rw [FP.Core.sgn_roundRatio]
          rfl
        rw [hz]
        cases s with
        | true => show -(_ : Int) ≤ 0; omega
        | false =>
          have hc : FP.Core.inUnits c q FP.Core.b64.qmin = 0 := by
            simp only [FP.Core.signed, Bool.false_eq_true, if_false] at h0
            omega
          have hc0 : c = 0 := by
            unfold FP.Core.inUnits at hc
            rcases Nat.mul_eq_zero.mp hc with h | h
            · exact h
            · exact absurd h (Nat.ne_of_gt (Nat.two_pow_pos _))
          subst hc0
          show FP.Core.signed false (FP.Core.zmag FP.Core.b64 (.fin false 0 FP.Core.b64.qmin)) ≤ 0
          decide +kernel
      omega
  constructor
  · have h3 := Zv_div_le (V := 4621959855077326848) hp hg hg0 fV1.ne_nan (by omega) (by
      refine Int.le_of_mul_le_mul_left (a := 4) ?_ (by decide)
      have e1 : 4 * (Zv (FP.dmul 4621819117588971520 (vA w t k)) * (FP.Core.one64 : Int)) = (4 * Zv (FP.dmul 4621819117588971520 (vA w t k))) * (FP.Core.one64 : Int) := by rw [Int.mul_assoc]
      have e2 : 4 * (Zv 4621959855077326848 * Zv (gr8 w t)) = (41 * Zv (gr8 w t)) * (FP.Core.one64 : Int) := by rw [← Int.mul_assoc, Int.mul_comm 4, V1, Int.mul_right_comm]
      rw [e1, e2]
      exact Int.mul_le_mul_of_nonneg_right key (by omega))
    omega
  · intro e
    have h0 : 0 < Zv (vA w t k) := by rw [e]; exact hg0
    have k2 := (Zv_ten_le hv hg hp h0 hmx).2 e
    have hp0 : 0 < Zv (FP.dmul 4621819117588971520 (vA w t k)) := by omega
    have h3 := Zv_div_ge (V := 4621678380100616192) hp hg hg0 hp0 (by omega) (by
      refine Int.le_of_mul_le_mul_left (a := 4) ?_ (by decide)
      have e1 : 4 * (Zv (FP.dmul 4621819117588971520 (vA w t k)) * (FP.Core.one64 : Int)) = (4 * Zv (FP.dmul 4621819117588971520 (vA w t k))) * (FP.Core.one64 : Int) := by rw [Int.mul_assoc]
      have e2 : 4 * (Zv 4621678380100616192 * Zv (gr8 w t)) = (39 * Zv (gr8 w t)) * (FP.Core.one64 : Int) := by rw [← Int.mul_assoc, Int.mul_comm 4, V2, Int.mul_right_comm]
      rw [e1, e2]
      exact Int.mul_le_mul_of_nonneg_right k2 (by omega))
    omega
theorem tn_nan {w t : Nat → Int64} {k : Nat} (h : dgt (gr8 w t) 0) : FP.Core.val64 (FP.ddiv (FP.dmul 4621819117588971520 (vA w t k)) (gr8 w t)) ≠ .nan := (FP.Core.notNaN_iff _).mp (ax_nt3 h)
theorem tn_le (w t : Nat → Int64) (k : Nat) (hk : k < 8) : ¬ 0 < (Op.cmpValue (FP.dcmp (tnt w t k) 4621819117588971520) .l).toInt := fun q => by
  have h := (dgt_Z.mp q).2.2
  rw [Zv_ten] at h
  have hO := one_pos
  unfold tnt at h
  by_cases g : dgt (gr8 w t) 0
  · rw [if_pos g] at h
    have := rte_le (tn_nan g) (tn_q hk g).1
    omega
  · rw [if_neg g, Zv_0] at h
    omega
theorem rte_nan {x : UInt64} (hn : FP.Core.val64 x ≠ .nan) (h1 : 0 < Zv x) (h2 : 4 * Zv x ≤ 41 * (FP.Core.one64 : Int)) : FP.Core.val64 (rte x) ≠ .nan := by
  have e52 := Zv_52
  have hO := one_pos
  have hl0 : ¬ dlt x 0 := fun q => by have := (dlt_Z.mp q).2.2; rw [Zv_0] at this; omega
  have hl : dlt x 4841369599423283200 := dlt_Z.mpr ⟨hn, fl_52.ne_nan, by omega⟩
  unfold rte rab
  rw [if_neg hl0, if_pos hl]
  have hm := fin_of_Z hn (by omega) (dlt_Z.mp hl).2.2
  have hR : FP.Core.DFin (FP.dadd x 4841369599423283200) := fl_fin (FP.Core.dadd_mag hm (show (4841369599423283200 : UInt64).toNat % 2 ^ 63 < 1076 * 2 ^ 52 by decide) (by decide)) (by decide)
  exact (FP.Core.notNaN_iff _).mp (FP.Core.dsub_out hR.notNaN fl_52)
theorem tn_best (w t : Nat → Int64) {k : Nat} (h : k = pgR w t 8) (q : dgt (vA w t k) 0) : (Op.cmpValue (FP.dcmp (tnt w t k) 4621819117588971520) .l).toInt = 0 := by
  have hk : k < 8 := by
    have hp : ∀ n, n ≤ 8 → pgR w t n < 8 := by
      intro n
      induction n with
      | zero => intro _; exact (by decide : (0 : Nat) < 8)
      | succ n ih =>
        intro hn
        show (if dgt (vA w t n) (vA w t (pgR w t n)) then n else pgR w t n) < 8
        split
        · omega
        · exact ih (by omega)
    rw [h]
    exact hp 8 (Nat.le_refl _)
  have e : vA w t k = gr8 w t := by unfold gr8; rw [h]
  have g : dgt (gr8 w t) 0 := by rw [← e]; exact q
  have h2 := tn_q hk g
  have hO := one_pos
  have h3 := rte_ten (tn_nan g) (h2.2 e) h2.1
  have h4 := rte_nan (x := FP.ddiv (FP.dmul 4621819117588971520 (vA w t k)) (gr8 w t)) (tn_nan g) (by have := h2.2 e; omega) h2.1
  have h5 : FP.dcmp (tnt w t k) 4621819117588971520 = some .eq := by
    unfold tnt
    rw [if_pos g]
    exact FP.Core.dcmp_eq.mpr ⟨h4, fin_10.ne_nan, by show Zv _ = Zv _; rw [h3, Zv_ten]; rfl⟩
  rw [h5]
  decide
theorem nb_nn {x : UInt64} : 0 ≤ Zv (nbz x) := by
  unfold nbz
  by_cases h : dgt x 0
  · rw [if_pos h]
    have := (dgt_Z.mp h).2.2
    rw [Zv_0] at this
    omega
  · rw [if_neg h, Zv_0]
    exact Int.le_refl _
theorem cn_le (w t : Nat → Int64) : ¬ 0 < (Op.cmpValue (FP.dcmp (cnt w t) 4607182418800017408) .g).toInt := by
  have fa := fl_nb (fl_va w t (pgR w t 8))
  have fb := fl_nb (fl_le w t 8)
  have hO := one_pos
  unfold cnt
  by_cases h : dgt (FP.dadd (nbz (gr8 w t)) (nbz (leR w t 8))) 0
  · rw [if_pos h]
    have hS := fl_fin (FP.Core.dadd_mag fa fb (by decide)) (by decide)
    have hD := fl_fin (FP.Core.dsub_mag fa fb (by decide)) (by decide)
    have hA := fl_fin fa (by decide)
    have hB := fl_fin fb (by decide)
    have hS0 := (dgt_Z.mp h).2.2
    rw [Zv_0] at hS0
    have hnn : FP.Core.val64 (FP.ddiv (FP.dsub (nbz (gr8 w t)) (nbz (leR w t 8))) (FP.dadd (nbz (gr8 w t)) (nbz (leR w t 8)))) ≠ .nan := (FP.Core.notNaN_iff _).mp (FP.Core.ddiv_out hD.notNaN hS (dgt_nz hS h))
    have k1 : Zv (nbz (gr8 w t)) ≤ Zv (FP.dadd (nbz (gr8 w t)) (nbz (leR w t 8))) := Zv_add_ge hA hB hA.ne_nan (by have := nb_nn (x := leR w t 8); omega)
    have k2 : Zv (FP.dsub (nbz (gr8 w t)) (nbz (leR w t 8))) ≤ Zv (FP.dadd (nbz (gr8 w t)) (nbz (leR w t 8))) := Zv_sub_le hA hB hS.ne_nan (by have := nb_nn (x := leR w t 8); omega)
    have k3 : Zv (FP.ddiv (FP.dsub (nbz (gr8 w t)) (nbz (leR w t 8))) (FP.dadd (nbz (gr8 w t)) (nbz (leR w t 8)))) ≤ Zv 4607182418800017408 := Zv_div_le (V := 4607182418800017408) hD hS hS0 fin_1.ne_nan (by rw [Zv_one]; omega) (by
      rw [Zv_one, Int.mul_comm]
      have e : ((1 : Nat) : Int) * (FP.Core.one64 : Int) = (FP.Core.one64 : Int) := by omega
      rw [e]
      exact Int.mul_le_mul_of_nonneg_left k2 (by omega))
    have ec : FP.dcmp (FP.ddiv (FP.dsub (nbz (gr8 w t)) (nbz (leR w t 8))) (FP.dadd (nbz (gr8 w t)) (nbz (leR w t 8)))) 4607182418800017408 = some (compare (FP.Core.zval FP.Core.b64 (FP.Core.val64 (FP.ddiv (FP.dsub (nbz (gr8 w t)) (nbz (leR w t 8))) (FP.dadd (nbz (gr8 w t)) (nbz (leR w t 8)))))) (FP.Core.zval FP.Core.b64 (FP.Core.val64 4607182418800017408))) := FP.Core.dcmp_zval hnn fin_1.ne_nan
    rw [ec]
    generalize hz : Zv (FP.ddiv (FP.dsub (nbz (gr8 w t)) (nbz (leR w t 8))) (FP.dadd (nbz (gr8 w t)) (nbz (leR w t 8)))) = z at k3
    have hz2 : FP.Core.zval FP.Core.b64 (FP.Core.val64 (FP.ddiv (FP.dsub (nbz (gr8 w t)) (nbz (leR w t 8))) (FP.dadd (nbz (gr8 w t)) (nbz (leR w t 8))))) = z := hz
    rw [hz2]
    cases e : compare z (FP.Core.zval FP.Core.b64 (FP.Core.val64 4607182418800017408)) with
    | lt => decide
    | eq => decide
    | gt =>
      have := (FP.Core.compare_gt_iff _ _).mp e
      have k4 : z ≤ FP.Core.zval FP.Core.b64 (FP.Core.val64 4607182418800017408) := k3
      omega
  · rw [if_neg h]
    decide +kernel
