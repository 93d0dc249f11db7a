/-! the best number -/
theorem bst_ge {x : Int32} (h : ¬ x.toInt < 0) : 0 ≤ x.toInt := by omega
theorem bs_in2 {v : Nat → UInt64} {lo : Nat} : ∀ n, lo ≤ (bsR v lo (n + 1)).1 ∧ (bsR v lo (n + 1)).1 ≤ lo + n
  | 0 => by rw [bs_1]; exact ⟨Nat.le_refl _, Nat.le_refl _⟩
  | n + 1 => by
    have h := bs_in2 (v := v) (lo := lo) n
    show lo ≤ (if dgt (v (lo + (n + 1))) (bsR v lo (n + 1)).2 then (lo + (n + 1), v (lo + (n + 1))) else bsR v lo (n + 1)).1 ∧ (if dgt (v (lo + (n + 1))) (bsR v lo (n + 1)).2 then (lo + (n + 1), v (lo + (n + 1))) else bsR v lo (n + 1)).1 ≤ _
    split
    · exact ⟨Nat.le_add_right _ _, Nat.le_refl _⟩
    · exact ⟨h.1, by omega⟩
theorem bs_val {v : Nat → UInt64} {lo : Nat} : ∀ n, (bsR v lo n).2 = v (bsR v lo n).1
  | 0 => rfl
  | n + 1 => by
    have h := bs_val (v := v) (lo := lo) n
    show (if dgt (v (lo + n)) (bsR v lo n).2 then (lo + n, v (lo + n)) else bsR v lo n).2 = v (if dgt (v (lo + n)) (bsR v lo n).2 then (lo + n, v (lo + n)) else bsR v lo n).1
    split
    · rfl
    · exact h
theorem dgt_key {x y : UInt64} (hx : FP.Core.DFin x) (hy : FP.Core.DFin y) : dgt x y ↔ FP.Core.dkey y < FP.Core.dkey x := by
  rw [dgt_iff]
  exact FP.Core.dcmp_gt_key hx.ne_nan hy.ne_nan
theorem bs_max {v : Nat → UInt64} {lo : Nat} (hv : ∀ n, FP.Core.DFin (v n)) : ∀ n m, m < n → ¬ dgt (v (lo + m)) (bsR v lo n).2
  | 0, m, h => absurd h (Nat.not_lt_zero m)
  | n + 1, m, h => by
    have ih := bs_max (lo := lo) hv n
    have hg : FP.Core.DFin (bsR v lo n).2 := by rw [bs_val]; exact hv _
    show ¬ dgt (v (lo + m)) (if dgt (v (lo + n)) (bsR v lo n).2 then (lo + n, v (lo + n)) else bsR v lo n).2
    by_cases q : dgt (v (lo + n)) (bsR v lo n).2
    · rw [if_pos q]
      show ¬ dgt (v (lo + m)) (v (lo + n))
      rw [dgt_key (hv _) (hv _)]
      by_cases e : m = n
      · subst e; omega
      · have h1 := ih m (by omega)
        rw [dgt_key (hv _) hg] at h1 q
        omega
    · rw [if_neg q]
      by_cases e : m = n
      · subst e; exact q
      · exact ih m (by omega)
section BST
variable {S : Nat → ST} {P : Nat → PT} {ns np i k : Nat}
theorem bst_in (hok : okP (P i)) : loN (P i).1 ≤ (bsR (vBest S P ns np i k) (loN (P i).1) (hiN (P i).1 - loN (P i).1 + 1)).1 ∧ (bsR (vBest S P ns np i k) (loN (P i).1) (hiN (P i).1 - loN (P i).1 + 1)).1 ≤ hiN (P i).1 := by
  have h := bs_in2 (v := vBest S P ns np i k) (lo := loN (P i).1) (hiN (P i).1 - loN (P i).1)
  have h2 := Nat.le_trans hok.2.1 hok.2.2.1
  omega
theorem bst_iff (hok : okP (P i)) : ((P i).1 = 4 ∨ (P i).1 = 6 ∨ (P i).1 = 8 ∨ (P i).1 = 10) ↔ ¬ (bst S P ns np i k).toInt = -1 := by
  have h := bst_in (S := S) (ns := ns) (np := np) (k := k) hok
  have h24 := ax_hi24 (k := (P i).1) (Nat.le_refl _)
  unfold bst
  by_cases hc : cbt (P i)
  · rw [if_pos hc, nI_toInt (by omega)]
    exact ⟨fun _ => by omega, fun _ => hc⟩
  · rw [if_neg hc]
    exact ⟨fun q => absurd q hc, fun q => absurd (by decide) q⟩
theorem bst_nat (hok : okP (P i)) (h : 0 ≤ (bst S P ns np i k).toInt) : ∃ B, bst S P ns np i k = nI B ∧ loN (P i).1 ≤ B ∧ B ≤ hiN (P i).1 := by
  have h2 := bst_in (S := S) (ns := ns) (np := np) (k := k) hok
  have hc : cbt (P i) := Classical.byContradiction fun q => by
    unfold bst at h
    rw [if_neg q] at h
    exact absurd h (by decide)
  refine ⟨_, ?_, h2⟩
  unfold bst
  rw [if_pos hc]
theorem bst_max {B : Nat} (hok : okP (P i)) (hB : bst S P ns np i k = nI B) (h : 0 ≤ (bst S P ns np i k).toInt) (hBh : B < 2 ^ 31) : ¬ dgt (vA (wN S P np ns) (tN S P np ns) k) (vBest S P ns np i k B) := by
  have h2 := bst_in (S := S) (ns := ns) (np := np) (k := k) hok
  have h24 := ax_hi24 (k := (P i).1) (Nat.le_refl _)
  have hc : cbt (P i) := Classical.byContradiction fun q => by
    unfold bst at h
    rw [if_neg q] at h
    exact absurd h (by decide)
  unfold bst at hB
  rw [if_pos hc] at hB
  have e := ax_feqTN (by omega) hBh hB
  have hfin : ∀ n, FP.Core.DFin (vBest S P ns np i k n) := fun n => fl_fin (fl_va _ _ _) (by decide)
  have hm := bs_max (v := vBest S P ns np i k) (lo := loN (P i).1) hfin (hiN (P i).1 - loN (P i).1 + 1) ((P i).2.1 - loN (P i).1) (by have := hok.2.1; have := hok.2.2.1; omega)
  rw [bs_val, e, show loN (P i).1 + ((P i).2.1 - loN (P i).1) = (P i).2.1 by have := hok.2.1; omega] at hm
  have hP : va_up P i (num9 (P i) (P i).2.1) = P := by
    funext j
    by_cases q : j = i
    · subst q; rw [va_upS]; rfl
    · rw [va_upN q]
  have hv : vBest S P ns np i k (P i).2.1 = vA (wN S P np ns) (tN S P np ns) k := by
    unfold vBest
    rw [hP]
  rw [hv] at hm
  exact hm
end BST
