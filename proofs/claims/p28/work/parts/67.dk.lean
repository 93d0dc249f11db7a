/-! dark places, bit by bit -/
def bW (w t : Nat → Int64) (j : Nat) : Nat := if w j = 0 ∧ t j = 0 then 1 else 0
def dkN (w t : Nat → Int64) : Nat → Nat
  | 0 => 0
  | k + 1 => dkN w t k + bW w t k * 2 ^ k
theorem dk_or : ∀ k, k < 8 → ∀ m, m < 128 → m < 2 ^ k → nI m ||| (1 <<< (nI k &&& 31)) = nI (m + 2 ^ k) := by decide +kernel
theorem bW_le (w t : Nat → Int64) (j : Nat) : bW w t j ≤ 1 := by unfold bW; split <;> omega
theorem dkN_lt (w t : Nat → Int64) : ∀ k, dkN w t k < 2 ^ k
  | 0 => by show 0 < 1; decide
  | k + 1 => by
    have h := dkN_lt w t k
    have h2 := bW_le w t k
    show dkN w t k + bW w t k * 2 ^ k < 2 ^ (k + 1)
    have h3 : bW w t k * 2 ^ k ≤ 1 * 2 ^ k := Nat.mul_le_mul_right _ h2
    rw [Nat.pow_succ]
    omega
theorem dkR_n (w t : Nat → Int64) : ∀ k, k ≤ 8 → dkR w t k = nI (dkN w t k)
  | 0, _ => rfl
  | k + 1, h => by
    have ih := dkR_n w t k (by omega)
    have hl := dkN_lt w t k
    have h7 : 2 ^ k ≤ 2 ^ 7 := Nat.pow_le_pow_right (by decide) (by omega)
    show (if w k = 0 ∧ t k = 0 then dkR w t k ||| (1 <<< (nI k &&& 31)) else dkR w t k) = nI (dkN w t k + bW w t k * 2 ^ k)
    unfold bW
    split
    · rw [ih, dk_or k (by omega) _ (by omega) hl, Nat.one_mul]
    · rw [ih, Nat.zero_mul, Nat.add_zero]
theorem dk_at (w t : Nat → Int64) {k : Nat} (hk : k < 8) : dkN w t 8 / 2 ^ k % 2 = bW w t k := by
  have h0 := bW_le w t 0; have h1 := bW_le w t 1; have h2 := bW_le w t 2; have h3 := bW_le w t 3
  have h4 := bW_le w t 4; have h5 := bW_le w t 5; have h6 := bW_le w t 6; have h7 := bW_le w t 7
  have e : dkN w t 8 = bW w t 0 + 2 * bW w t 1 + 4 * bW w t 2 + 8 * bW w t 3 + 16 * bW w t 4 + 32 * bW w t 5 + 64 * bW w t 6 + 128 * bW w t 7 := by
    show 0 + bW w t 0 * 2 ^ 0 + bW w t 1 * 2 ^ 1 + bW w t 2 * 2 ^ 2 + bW w t 3 * 2 ^ 3 + bW w t 4 * 2 ^ 4 + bW w t 5 * 2 ^ 5 + bW w t 6 * 2 ^ 6 + bW w t 7 * 2 ^ 7 = _
    omega
  rw [e]
  rcases (show k = 0 ∨ k = 1 ∨ k = 2 ∨ k = 3 ∨ k = 4 ∨ k = 5 ∨ k = 6 ∨ k = 7 by omega) with q | q | q | q | q | q | q | q <;> subst q <;> omega
theorem dk_bit {w t : Nat → Int64} {k : Nat} (hk : k < 8) : ((dkR w t 8 >>> (nI k &&& 31)) &&& 1).toInt = 1 ↔ (w k = 0 ∧ t k = 0) := by
  have hl : dkN w t 8 < 256 := dkN_lt w t 8
  have h2 := Nat.div_le_self (dkN w t 8) (2 ^ k)
  rw [dkR_n w t 8 (Nat.le_refl _), ax_shr (by omega) (by omega), pk_andN (m := 1) (by omega) 1 rfl, nI_toInt (by omega)]
  show ((dkN w t 8 / 2 ^ k % 2 : Nat) : Int) = 1 ↔ _
  rw [dk_at w t hk]
  unfold bW
  split
  · rename_i q; exact ⟨fun _ => q, fun _ => rfl⟩
  · rename_i q; exact ⟨fun h => absurd h (by decide), fun h => absurd h q⟩
theorem ax_bhN {bh : Int32} {b : Nat} (h : bh.toInt = (b : Int) - 1) (h1 : 1 ≤ b) (h2 : b < 1000) : bh = nI (b - 1) := Int32.toInt_inj.mp (by rw [h, nI_toInt (by omega)]; omega)
