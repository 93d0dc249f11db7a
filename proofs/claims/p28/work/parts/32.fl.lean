/-! doubles: nothing here is a NaN -/
theorem ax_n64 {r : UInt64} (h : FP.Core.dIsNaN r = false) : vf_n64 r := by
  have h1 : ¬ 9218868437227405312 < r.toNat % 2 ^ 63 := fun q => by
    rw [(FP.Core.isNaN_bits r).mpr q] at h
    exact absurd h (by decide)
  unfold vf_n64
  rw [UInt64.le_iff_toNat_le, UInt64.toNat_and]
  have h2 : r.toNat &&& (0x7fffffffffffffff : UInt64).toNat = r.toNat % 2 ^ 63 := Nat.and_two_pow_sub_one_eq_mod r.toNat 63
  rw [h2]
  exact Nat.le_of_not_lt h1
theorem fl_fin {a : UInt64} {K : Nat} (h : a.toNat % 2 ^ 63 < K * 2 ^ 52) (hK : K ≤ 2047) : FP.Core.DFin a := FP.Core.fin_of_lt h hK
theorem fl_c2 : (dC2 : UInt64).toNat % 2 ^ 63 < 1024 * 2 ^ 52 := by decide
theorem fl_m (x : Int64) : (FP.dmul dC2 (FP.l2d x)).toNat % 2 ^ 63 < 1090 * 2 ^ 52 := by
  have := FP.Core.dmul_mag fl_c2 (FP.Core.l2d_mag x) (by decide) (by decide)
  exact Nat.lt_of_lt_of_le this (by decide)
theorem fl_l (x : Int64) : (FP.l2d x).toNat % 2 ^ 63 < 1090 * 2 ^ 52 := Nat.lt_of_lt_of_le (FP.Core.l2d_mag x) (by decide)
theorem fl_v (x y : Int64) : (FP.dadd (FP.l2d x) (FP.dmul dC2 (FP.l2d y))).toNat % 2 ^ 63 < 1092 * 2 ^ 52 := FP.Core.dadd_mag (fl_l x) (fl_m y) (by decide)
theorem fl_va (w t : Nat → Int64) (k : Nat) : (vA w t k).toNat % 2 ^ 63 < 1092 * 2 ^ 52 := fl_v _ _
theorem fl_le (w t : Nat → Int64) : ∀ k, (leR w t k).toNat % 2 ^ 63 < 1092 * 2 ^ 52
  | 0 => fl_va w t 0
  | k + 1 => by
    show (if dlt (vA w t k) (leR w t k) then vA w t k else leR w t k).toNat % 2 ^ 63 < 1092 * 2 ^ 52
    split
    · exact fl_va w t k
    · exact fl_le w t k
theorem fl_nb {x : UInt64} (h : x.toNat % 2 ^ 63 < 1092 * 2 ^ 52) : (nbz x).toNat % 2 ^ 63 < 1092 * 2 ^ 52 := by
  unfold nbz
  split
  · exact h
  · decide
theorem ax_nm (x : Int64) : vf_n64 (FP.dmul dC2 (FP.l2d x)) := ax_n64 (fl_fin (fl_m x) (by decide)).notNaN
theorem ax_nv (x y : Int64) : vf_n64 (FP.dadd (FP.l2d x) (FP.dmul dC2 (FP.l2d y))) := ax_n64 (fl_fin (fl_v x y) (by decide)).notNaN
theorem ax_nc1 (w t : Nat → Int64) : vf_n64 (FP.dadd (nbz (gr8 w t)) (nbz (leR w t 8))) := ax_n64 (fl_fin (FP.Core.dadd_mag (fl_nb (fl_va w t _)) (fl_nb (fl_le w t 8)) (by decide)) (by decide)).notNaN
theorem ax_nc2 (w t : Nat → Int64) : vf_n64 (FP.dsub (nbz (gr8 w t)) (nbz (leR w t 8))) := ax_n64 (fl_fin (FP.Core.dsub_mag (fl_nb (fl_va w t _)) (fl_nb (fl_le w t 8)) (by decide)) (by decide)).notNaN
theorem dgt_iff {x y : UInt64} : dgt x y ↔ FP.dcmp x y = some .gt := by
  show 0 < (Op.cmpValue (FP.dcmp x y) .l).toInt ↔ _
  cases h : FP.dcmp x y with
  | none => exact ⟨fun q => absurd q (by decide), fun q => by cases q⟩
  | some o =>
    cases o
    · exact ⟨fun q => absurd q (by decide), fun q => by cases q⟩
    · exact ⟨fun q => absurd q (by decide), fun q => by cases q⟩
    · exact ⟨fun _ => rfl, fun _ => by decide⟩
theorem dgt_nz {x : UInt64} (hx : FP.Core.DFin x) (h : dgt x 0) : ¬ FP.Core.DZero x := fun hz => by
  have h1 := dgt_iff.mp h
  have h2 := (FP.Core.dcmp_gt_key hx.ne_nan (show FP.Core.val64 0 ≠ .nan by decide)).mp h1
  have h3 : x.toNat % 2 ^ 63 = 0 := (FP.Core.zero_bits2 x).mp hz
  have h4 := UInt64.toNat_lt x
  unfold FP.Core.dkey at h2
  have h5 : x.toNat = 0 ∨ x.toNat = 2 ^ 63 := by omega
  rcases h5 with h5 | h5
  · rw [h5] at h2
    exact absurd h2 (by decide)
  · rw [h5] at h2
    exact absurd h2 (by decide)
theorem ax_nc3 {w t : Nat → Int64} (h : dgt (FP.dadd (nbz (gr8 w t)) (nbz (leR w t 8))) 0) : vf_n64 (FP.ddiv (FP.dsub (nbz (gr8 w t)) (nbz (leR w t 8))) (FP.dadd (nbz (gr8 w t)) (nbz (leR w t 8)))) := by
  have h1 := fl_fin (FP.Core.dadd_mag (fl_nb (fl_va w t (pgR w t 8))) (fl_nb (fl_le w t 8)) (by decide)) (by decide)
  have h2 := fl_fin (FP.Core.dsub_mag (fl_nb (fl_va w t (pgR w t 8))) (fl_nb (fl_le w t 8)) (by decide)) (by decide)
  exact ax_n64 (FP.Core.ddiv_out h2.notNaN h1 (dgt_nz h1 h))
theorem fl_52 : FP.Core.DFin 4841369599423283200 := fl_fin (K := 1076) (by decide) (by decide)
theorem ax_nr1 {v : UInt64} (h : FP.Core.dIsNaN v = false) : vf_n64 (FP.dadd v 4841369599423283200) := ax_n64 (FP.Core.dadd_out h fl_52)
theorem ax_nr2 {v : UInt64} (h : FP.Core.dIsNaN v = false) : vf_n64 (FP.dsub (FP.dadd v 4841369599423283200) 4841369599423283200) := ax_n64 (FP.Core.dsub_out (FP.Core.dadd_out h fl_52) fl_52)
theorem fl_neg (v : UInt64) : (FP.dneg v).toNat % 2 ^ 63 = v.toNat % 2 ^ 63 := by
  show (v ^^^ 0x8000000000000000).toNat % 2 ^ 63 = _
  rw [UInt64.toNat_xor, Nat.xor_mod_two_pow]
  show v.toNat % 2 ^ 63 ^^^ 0 = _
  rw [Nat.xor_zero]
theorem ax_dneg {v : UInt64} (h : FP.Core.dIsNaN v = false) : FP.Core.dIsNaN (FP.dneg v) = false := by
  cases e : FP.Core.dIsNaN (FP.dneg v) with
  | false => rfl
  | true =>
    have h1 := (FP.Core.isNaN_bits _).mp e
    rw [fl_neg] at h1
    rw [(FP.Core.isNaN_bits v).mpr h1] at h
    exact absurd h (by decide)
theorem fl_10 (w t : Nat → Int64) (k : Nat) : (FP.dmul 4621819117588971520 (vA w t k)).toNat % 2 ^ 63 < 1097 * 2 ^ 52 := by
  have := FP.Core.dmul_mag (a := 4621819117588971520) (Ka := 1027) (by decide) (fl_va w t k) (by decide) (by decide)
  exact Nat.lt_of_lt_of_le this (by decide)
theorem ax_nt1 (w t : Nat → Int64) (k : Nat) : vf_n64 (FP.dmul 4621819117588971520 (vA w t k)) := ax_n64 (fl_fin (fl_10 w t k) (by decide)).notNaN
theorem ax_nt3 {w t : Nat → Int64} {k : Nat} (h : dgt (gr8 w t) 0) : FP.Core.dIsNaN (FP.ddiv (FP.dmul 4621819117588971520 (vA w t k)) (gr8 w t)) = false := by
  have h1 : FP.Core.DFin (gr8 w t) := fl_fin (fl_va w t _) (by decide)
  exact FP.Core.ddiv_out (fl_fin (fl_10 w t k) (by decide)).notNaN h1 (dgt_nz h1 h)
theorem ax_nt2 {w t : Nat → Int64} {k : Nat} (h : dgt (gr8 w t) 0) : vf_n64 (FP.ddiv (FP.dmul 4621819117588971520 (vA w t k)) (gr8 w t)) := ax_n64 (ax_nt3 h)
