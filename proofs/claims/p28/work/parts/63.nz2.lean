theorem cs_le {m M : Nat} (h : m ≤ M) : (m : Int) * (m : Int) ≤ ((M * M : Nat) : Int) := by
  rw [← Int.natCast_mul]
  exact Int.ofNat_le.mpr (Nat.mul_le_mul h h)
theorem id_le {q : PT} {u : Nat → Int} {ρ φ : Nat → Nat} {M : Nat} (h : ∀ k, k < 8 → ∀ g, opkZ q k u g = crZ k k (ρ k) (φ k : Int) u g) (hr : ∀ k, ρ k < 8) (hφ : ∀ k, k < 8 → φ k ≤ M) : nZ (opNZ q u 8) ≤ ((M * M : Nat) : Int) * nZ u := by
  refine nZ_le (fun p hp => ?_)
  rw [k_id (φ := fun k => (φ k : Int)) h hr hp]
  exact Int.mul_le_mul_of_nonneg_right (cs_le (hφ p hp)) (wh_nn u p)
/-- the eight-fold sum at a place -/
def fsZ (u : Nat → Int) (st p a c : Nat) : Nat → Int
  | 0 => 0
  | j + 1 => fsZ u st p a c j + rtZ ((st * j * p) % 8) (fun i => 1 * u (8 * j + a + i)) c
theorem gth_out {k st p c : Nat} {u g : Nat → Int} (h : p ≠ k) (hc : c < 8) : ∀ n, gthZ k st u g n (8 * p + c) = g (8 * p + c)
  | 0 => rfl
  | n + 1 => by
    show crZ n k _ 1 u (gthZ k st u g n) (8 * p + c) = _
    rw [crZ_out h hc, gth_out h hc n]
theorem gth_X {st p c : Nat} {u g : Nat → Int} (hc : c < 4) : ∀ n, gthZ p st u g n (8 * p + c) = g (8 * p + c) + fsZ u st p 0 c n
  | 0 => by show g (8 * p + c) = g (8 * p + c) + 0; omega
  | n + 1 => by
    show crZ n p _ 1 u (gthZ p st u g n) (8 * p + c) = _ + (fsZ u st p 0 c n + rtZ _ _ c)
    rw [crZ_X hc, gth_X hc n, Int.add_assoc]
    rfl
theorem gth_Y {st p c : Nat} {u g : Nat → Int} (hc : c < 4) : ∀ n, gthZ p st u g n (8 * p + 4 + c) = g (8 * p + 4 + c) + fsZ u st p 4 c n
  | 0 => by show g (8 * p + 4 + c) = g (8 * p + 4 + c) + 0; omega
  | n + 1 => by
    show crZ n p _ 1 u (gthZ p st u g n) (8 * p + 4 + c) = _ + (fsZ u st p 4 c n + rtZ _ _ c)
    rw [crZ_Y hc, gth_Y hc n, Int.add_assoc]
theorem far_val {q : PT} {u : Nat → Int} {st : Nat} (h : ∀ k, k < 8 → ∀ g, opkZ q k u g = gthZ k st u g 8) {p : Nat} (hp : p < 8) : (∀ c, c < 4 → opNZ q u 8 (8 * p + c) = fsZ u st p 0 c 8) ∧ (∀ c, c < 4 → opNZ q u 8 (8 * p + 4 + c) = fsZ u st p 4 c 8) := by
  refine ⟨fun c hc => opNZ_one hp (fun k hk8 hne g => ?_) (fun g => ?_), fun c hc => opNZ_one hp (fun k hk8 hne g => ?_) (fun g => ?_)⟩
  · rw [h k hk8]; exact gth_out (Ne.symm hne) (by omega) 8
  · rw [h p hp]; exact gth_X hc 8
  · rw [h k hk8, Nat.add_assoc]; exact gth_out (Ne.symm hne) (by omega) 8
  · rw [h p hp]; exact gth_Y hc 8
set_option maxHeartbeats 4000000 in
theorem fs_sq1 (u : Nat → Int) (a : Nat) : fsZ u 1 0 a 0 8 * fsZ u 1 0 a 0 8 + fsZ u 1 0 a 1 8 * fsZ u 1 0 a 1 8 + fsZ u 1 0 a 2 8 * fsZ u 1 0 a 2 8 + fsZ u 1 0 a 3 8 * fsZ u 1 0 a 3 8 + fsZ u 1 1 a 0 8 * fsZ u 1 1 a 0 8 + fsZ u 1 1 a 1 8 * fsZ u 1 1 a 1 8 + fsZ u 1 1 a 2 8 * fsZ u 1 1 a 2 8 + fsZ u 1 1 a 3 8 * fsZ u 1 1 a 3 8 + fsZ u 1 2 a 0 8 * fsZ u 1 2 a 0 8 + fsZ u 1 2 a 1 8 * fsZ u 1 2 a 1 8 + fsZ u 1 2 a 2 8 * fsZ u 1 2 a 2 8 + fsZ u 1 2 a 3 8 * fsZ u 1 2 a 3 8 + fsZ u 1 3 a 0 8 * fsZ u 1 3 a 0 8 + fsZ u 1 3 a 1 8 * fsZ u 1 3 a 1 8 + fsZ u 1 3 a 2 8 * fsZ u 1 3 a 2 8 + fsZ u 1 3 a 3 8 * fsZ u 1 3 a 3 8 + fsZ u 1 4 a 0 8 * fsZ u 1 4 a 0 8 + fsZ u 1 4 a 1 8 * fsZ u 1 4 a 1 8 + fsZ u 1 4 a 2 8 * fsZ u 1 4 a 2 8 + fsZ u 1 4 a 3 8 * fsZ u 1 4 a 3 8 + fsZ u 1 5 a 0 8 * fsZ u 1 5 a 0 8 + fsZ u 1 5 a 1 8 * fsZ u 1 5 a 1 8 + fsZ u 1 5 a 2 8 * fsZ u 1 5 a 2 8 + fsZ u 1 5 a 3 8 * fsZ u 1 5 a 3 8 + fsZ u 1 6 a 0 8 * fsZ u 1 6 a 0 8 + fsZ u 1 6 a 1 8 * fsZ u 1 6 a 1 8 + fsZ u 1 6 a 2 8 * fsZ u 1 6 a 2 8 + fsZ u 1 6 a 3 8 * fsZ u 1 6 a 3 8 + fsZ u 1 7 a 0 8 * fsZ u 1 7 a 0 8 + fsZ u 1 7 a 1 8 * fsZ u 1 7 a 1 8 + fsZ u 1 7 a 2 8 * fsZ u 1 7 a 2 8 + fsZ u 1 7 a 3 8 * fsZ u 1 7 a 3 8 = 8 * (u (a + 0) * u (a + 0) + u (a + 1) * u (a + 1) + u (a + 2) * u (a + 2) + u (a + 3) * u (a + 3) + u (a + 8) * u (a + 8) + u (a + 9) * u (a + 9) + u (a + 10) * u (a + 10) + u (a + 11) * u (a + 11) + u (a + 16) * u (a + 16) + u (a + 17) * u (a + 17) + u (a + 18) * u (a + 18) + u (a + 19) * u (a + 19) + u (a + 24) * u (a + 24) + u (a + 25) * u (a + 25) + u (a + 26) * u (a + 26) + u (a + 27) * u (a + 27) + u (a + 32) * u (a + 32) + u (a + 33) * u (a + 33) + u (a + 34) * u (a + 34) + u (a + 35) * u (a + 35) + u (a + 40) * u (a + 40) + u (a + 41) * u (a + 41) + u (a + 42) * u (a + 42) + u (a + 43) * u (a + 43) + u (a + 48) * u (a + 48) + u (a + 49) * u (a + 49) + u (a + 50) * u (a + 50) + u (a + 51) * u (a + 51) + u (a + 56) * u (a + 56) + u (a + 57) * u (a + 57) + u (a + 58) * u (a + 58) + u (a + 59) * u (a + 59)) :=
  far_sq (u (a + 0)) (u (a + 1)) (u (a + 2)) (u (a + 3)) (u (a + 8)) (u (a + 9)) (u (a + 10)) (u (a + 11)) (u (a + 16)) (u (a + 17)) (u (a + 18)) (u (a + 19)) (u (a + 24)) (u (a + 25)) (u (a + 26)) (u (a + 27)) (u (a + 32)) (u (a + 33)) (u (a + 34)) (u (a + 35)) (u (a + 40)) (u (a + 41)) (u (a + 42)) (u (a + 43)) (u (a + 48)) (u (a + 49)) (u (a + 50)) (u (a + 51)) (u (a + 56)) (u (a + 57)) (u (a + 58)) (u (a + 59)) (fsZ u 1 0 a 0 8) (fsZ u 1 0 a 1 8) (fsZ u 1 0 a 2 8) (fsZ u 1 0 a 3 8) (fsZ u 1 1 a 0 8) (fsZ u 1 1 a 1 8) (fsZ u 1 1 a 2 8) (fsZ u 1 1 a 3 8) (fsZ u 1 2 a 0 8) (fsZ u 1 2 a 1 8) (fsZ u 1 2 a 2 8) (fsZ u 1 2 a 3 8) (fsZ u 1 3 a 0 8) (fsZ u 1 3 a 1 8) (fsZ u 1 3 a 2 8) (fsZ u 1 3 a 3 8) (fsZ u 1 4 a 0 8) (fsZ u 1 4 a 1 8) (fsZ u 1 4 a 2 8) (fsZ u 1 4 a 3 8) (fsZ u 1 5 a 0 8) (fsZ u 1 5 a 1 8) (fsZ u 1 5 a 2 8) (fsZ u 1 5 a 3 8) (fsZ u 1 6 a 0 8) (fsZ u 1 6 a 1 8) (fsZ u 1 6 a 2 8) (fsZ u 1 6 a 3 8) (fsZ u 1 7 a 0 8) (fsZ u 1 7 a 1 8) (fsZ u 1 7 a 2 8) (fsZ u 1 7 a 3 8) (by simp [fsZ, rtZ, Nat.add_comm, Nat.add_left_comm] <;> omega) (by simp [fsZ, rtZ, Nat.add_comm, Nat.add_left_comm] <;> omega) (by simp [fsZ, rtZ, Nat.add_comm, Nat.add_left_comm] <;> omega) (by simp [fsZ, rtZ, Nat.add_comm, Nat.add_left_comm] <;> omega) (by simp [fsZ, rtZ, Nat.add_comm, Nat.add_left_comm] <;> omega) (by simp [fsZ, rtZ, Nat.add_comm, Nat.add_left_comm] <;> omega) (by simp [fsZ, rtZ, Nat.add_comm, Nat.add_left_comm] <;> omega) (by simp [fsZ, rtZ, Nat.add_comm, Nat.add_left_comm] <;> omega) (by simp [fsZ, rtZ, Nat.add_comm, Nat.add_left_comm] <;> omega) (by simp [fsZ, rtZ, Nat.add_comm, Nat.add_left_comm] <;> omega) (by simp [fsZ, rtZ, Nat.add_comm, Nat.add_left_comm] <;> omega) (by simp [fsZ, rtZ, Nat.add_comm, Nat.add_left_comm] <;> omega) (by simp [fsZ, rtZ, Nat.add_comm, Nat.add_left_comm] <;> omega) (by simp [fsZ, rtZ, Nat.add_comm, Nat.add_left_comm] <;> omega) (by simp [fsZ, rtZ, Nat.add_comm, Nat.add_left_comm] <;> omega) (by simp [fsZ, rtZ, Nat.add_comm, Nat.add_left_comm] <;> omega) (by simp [fsZ, rtZ, Nat.add_comm, Nat.add_left_comm] <;> omega) (by simp [fsZ, rtZ, Nat.add_comm, Nat.add_left_comm] <;> omega) (by simp [fsZ, rtZ, Nat.add_comm, Nat.add_left_comm] <;> omega) (by simp [fsZ, rtZ, Nat.add_comm, Nat.add_left_comm] <;> omega) (by simp [fsZ, rtZ, Nat.add_comm, Nat.add_left_comm] <;> omega) (by simp [fsZ, rtZ, Nat.add_comm, Nat.add_left_comm] <;> omega) (by simp [fsZ, rtZ, Nat.add_comm, Nat.add_left_comm] <;> omega) (by simp [fsZ, rtZ, Nat.add_comm, Nat.add_left_comm] <;> omega) (by simp [fsZ, rtZ, Nat.add_comm, Nat.add_left_comm] <;> omega) (by simp [fsZ, rtZ, Nat.add_comm, Nat.add_left_comm] <;> omega) (by simp [fsZ, rtZ, Nat.add_comm, Nat.add_left_comm] <;> omega) (by simp [fsZ, rtZ, Nat.add_comm, Nat.add_left_comm] <;> omega) (by simp [fsZ, rtZ, Nat.add_comm, Nat.add_left_comm] <;> omega) (by simp [fsZ, rtZ, Nat.add_comm, Nat.add_left_comm] <;> omega) (by simp [fsZ, rtZ, Nat.add_comm, Nat.add_left_comm] <;> omega) (by simp [fsZ, rtZ, Nat.add_comm, Nat.add_left_comm] <;> omega)
set_option maxHeartbeats 4000000 in
theorem fs_sq7 (u : Nat → Int) (a : Nat) : fsZ u 7 0 a 0 8 * fsZ u 7 0 a 0 8 + fsZ u 7 0 a 1 8 * fsZ u 7 0 a 1 8 + fsZ u 7 0 a 2 8 * fsZ u 7 0 a 2 8 + fsZ u 7 0 a 3 8 * fsZ u 7 0 a 3 8 + fsZ u 7 7 a 0 8 * fsZ u 7 7 a 0 8 + fsZ u 7 7 a 1 8 * fsZ u 7 7 a 1 8 + fsZ u 7 7 a 2 8 * fsZ u 7 7 a 2 8 + fsZ u 7 7 a 3 8 * fsZ u 7 7 a 3 8 + fsZ u 7 6 a 0 8 * fsZ u 7 6 a 0 8 + fsZ u 7 6 a 1 8 * fsZ u 7 6 a 1 8 + fsZ u 7 6 a 2 8 * fsZ u 7 6 a 2 8 + fsZ u 7 6 a 3 8 * fsZ u 7 6 a 3 8 + fsZ u 7 5 a 0 8 * fsZ u 7 5 a 0 8 + fsZ u 7 5 a 1 8 * fsZ u 7 5 a 1 8 + fsZ u 7 5 a 2 8 * fsZ u 7 5 a 2 8 + fsZ u 7 5 a 3 8 * fsZ u 7 5 a 3 8 + fsZ u 7 4 a 0 8 * fsZ u 7 4 a 0 8 + fsZ u 7 4 a 1 8 * fsZ u 7 4 a 1 8 + fsZ u 7 4 a 2 8 * fsZ u 7 4 a 2 8 + fsZ u 7 4 a 3 8 * fsZ u 7 4 a 3 8 + fsZ u 7 3 a 0 8 * fsZ u 7 3 a 0 8 + fsZ u 7 3 a 1 8 * fsZ u 7 3 a 1 8 + fsZ u 7 3 a 2 8 * fsZ u 7 3 a 2 8 + fsZ u 7 3 a 3 8 * fsZ u 7 3 a 3 8 + fsZ u 7 2 a 0 8 * fsZ u 7 2 a 0 8 + fsZ u 7 2 a 1 8 * fsZ u 7 2 a 1 8 + fsZ u 7 2 a 2 8 * fsZ u 7 2 a 2 8 + fsZ u 7 2 a 3 8 * fsZ u 7 2 a 3 8 + fsZ u 7 1 a 0 8 * fsZ u 7 1 a 0 8 + fsZ u 7 1 a 1 8 * fsZ u 7 1 a 1 8 + fsZ u 7 1 a 2 8 * fsZ u 7 1 a 2 8 + fsZ u 7 1 a 3 8 * fsZ u 7 1 a 3 8 = 8 * (u (a + 0) * u (a + 0) + u (a + 1) * u (a + 1) + u (a + 2) * u (a + 2) + u (a + 3) * u (a + 3) + u (a + 8) * u (a + 8) + u (a + 9) * u (a + 9) + u (a + 10) * u (a + 10) + u (a + 11) * u (a + 11) + u (a + 16) * u (a + 16) + u (a + 17) * u (a + 17) + u (a + 18) * u (a + 18) + u (a + 19) * u (a + 19) + u (a + 24) * u (a + 24) + u (a + 25) * u (a + 25) + u (a + 26) * u (a + 26) + u (a + 27) * u (a + 27) + u (a + 32) * u (a + 32) + u (a + 33) * u (a + 33) + u (a + 34) * u (a + 34) + u (a + 35) * u (a + 35) + u (a + 40) * u (a + 40) + u (a + 41) * u (a + 41) + u (a + 42) * u (a + 42) + u (a + 43) * u (a + 43) + u (a + 48) * u (a + 48) + u (a + 49) * u (a + 49) + u (a + 50) * u (a + 50) + u (a + 51) * u (a + 51) + u (a + 56) * u (a + 56) + u (a + 57) * u (a + 57) + u (a + 58) * u (a + 58) + u (a + 59) * u (a + 59)) :=
  far_sq (u (a + 0)) (u (a + 1)) (u (a + 2)) (u (a + 3)) (u (a + 8)) (u (a + 9)) (u (a + 10)) (u (a + 11)) (u (a + 16)) (u (a + 17)) (u (a + 18)) (u (a + 19)) (u (a + 24)) (u (a + 25)) (u (a + 26)) (u (a + 27)) (u (a + 32)) (u (a + 33)) (u (a + 34)) (u (a + 35)) (u (a + 40)) (u (a + 41)) (u (a + 42)) (u (a + 43)) (u (a + 48)) (u (a + 49)) (u (a + 50)) (u (a + 51)) (u (a + 56)) (u (a + 57)) (u (a + 58)) (u (a + 59)) (fsZ u 7 0 a 0 8) (fsZ u 7 0 a 1 8) (fsZ u 7 0 a 2 8) (fsZ u 7 0 a 3 8) (fsZ u 7 7 a 0 8) (fsZ u 7 7 a 1 8) (fsZ u 7 7 a 2 8) (fsZ u 7 7 a 3 8) (fsZ u 7 6 a 0 8) (fsZ u 7 6 a 1 8) (fsZ u 7 6 a 2 8) (fsZ u 7 6 a 3 8) (fsZ u 7 5 a 0 8) (fsZ u 7 5 a 1 8) (fsZ u 7 5 a 2 8) (fsZ u 7 5 a 3 8) (fsZ u 7 4 a 0 8) (fsZ u 7 4 a 1 8) (fsZ u 7 4 a 2 8) (fsZ u 7 4 a 3 8) (fsZ u 7 3 a 0 8) (fsZ u 7 3 a 1 8) (fsZ u 7 3 a 2 8) (fsZ u 7 3 a 3 8) (fsZ u 7 2 a 0 8) (fsZ u 7 2 a 1 8) (fsZ u 7 2 a 2 8) (fsZ u 7 2 a 3 8) (fsZ u 7 1 a 0 8) (fsZ u 7 1 a 1 8) (fsZ u 7 1 a 2 8) (fsZ u 7 1 a 3 8) (by simp [fsZ, rtZ, Nat.add_comm, Nat.add_left_comm] <;> omega) (by simp [fsZ, rtZ, Nat.add_comm, Nat.add_left_comm] <;> omega) (by simp [fsZ, rtZ, Nat.add_comm, Nat.add_left_comm] <;> omega) (by simp [fsZ, rtZ, Nat.add_comm, Nat.add_left_comm] <;> omega) (by simp [fsZ, rtZ, Nat.add_comm, Nat.add_left_comm] <;> omega) (by simp [fsZ, rtZ, Nat.add_comm, Nat.add_left_comm] <;> omega) (by simp [fsZ, rtZ, Nat.add_comm, Nat.add_left_comm] <;> omega) (by simp [fsZ, rtZ, Nat.add_comm, Nat.add_left_comm] <;> omega) (by simp [fsZ, rtZ, Nat.add_comm, Nat.add_left_comm] <;> omega) (by simp [fsZ, rtZ, Nat.add_comm, Nat.add_left_comm] <;> omega) (by simp [fsZ, rtZ, Nat.add_comm, Nat.add_left_comm] <;> omega) (by simp [fsZ, rtZ, Nat.add_comm, Nat.add_left_comm] <;> omega) (by simp [fsZ, rtZ, Nat.add_comm, Nat.add_left_comm] <;> omega) (by simp [fsZ, rtZ, Nat.add_comm, Nat.add_left_comm] <;> omega) (by simp [fsZ, rtZ, Nat.add_comm, Nat.add_left_comm] <;> omega) (by simp [fsZ, rtZ, Nat.add_comm, Nat.add_left_comm] <;> omega) (by simp [fsZ, rtZ, Nat.add_comm, Nat.add_left_comm] <;> omega) (by simp [fsZ, rtZ, Nat.add_comm, Nat.add_left_comm] <;> omega) (by simp [fsZ, rtZ, Nat.add_comm, Nat.add_left_comm] <;> omega) (by simp [fsZ, rtZ, Nat.add_comm, Nat.add_left_comm] <;> omega) (by simp [fsZ, rtZ, Nat.add_comm, Nat.add_left_comm] <;> omega) (by simp [fsZ, rtZ, Nat.add_comm, Nat.add_left_comm] <;> omega) (by simp [fsZ, rtZ, Nat.add_comm, Nat.add_left_comm] <;> omega) (by simp [fsZ, rtZ, Nat.add_comm, Nat.add_left_comm] <;> omega) (by simp [fsZ, rtZ, Nat.add_comm, Nat.add_left_comm] <;> omega) (by simp [fsZ, rtZ, Nat.add_comm, Nat.add_left_comm] <;> omega) (by simp [fsZ, rtZ, Nat.add_comm, Nat.add_left_comm] <;> omega) (by simp [fsZ, rtZ, Nat.add_comm, Nat.add_left_comm] <;> omega) (by simp [fsZ, rtZ, Nat.add_comm, Nat.add_left_comm] <;> omega) (by simp [fsZ, rtZ, Nat.add_comm, Nat.add_left_comm] <;> omega) (by simp [fsZ, rtZ, Nat.add_comm, Nat.add_left_comm] <;> omega) (by simp [fsZ, rtZ, Nat.add_comm, Nat.add_left_comm] <;> omega)
theorem far_comb1 (F G : Nat → Nat → Int) (x : Nat → Int) (hX : F 0 0 * F 0 0 + F 0 1 * F 0 1 + F 0 2 * F 0 2 + F 0 3 * F 0 3 + F 1 0 * F 1 0 + F 1 1 * F 1 1 + F 1 2 * F 1 2 + F 1 3 * F 1 3 + F 2 0 * F 2 0 + F 2 1 * F 2 1 + F 2 2 * F 2 2 + F 2 3 * F 2 3 + F 3 0 * F 3 0 + F 3 1 * F 3 1 + F 3 2 * F 3 2 + F 3 3 * F 3 3 + F 4 0 * F 4 0 + F 4 1 * F 4 1 + F 4 2 * F 4 2 + F 4 3 * F 4 3 + F 5 0 * F 5 0 + F 5 1 * F 5 1 + F 5 2 * F 5 2 + F 5 3 * F 5 3 + F 6 0 * F 6 0 + F 6 1 * F 6 1 + F 6 2 * F 6 2 + F 6 3 * F 6 3 + F 7 0 * F 7 0 + F 7 1 * F 7 1 + F 7 2 * F 7 2 + F 7 3 * F 7 3 = 8 * (x 0 * x 0 + x 1 * x 1 + x 2 * x 2 + x 3 * x 3 + x 8 * x 8 + x 9 * x 9 + x 10 * x 10 + x 11 * x 11 + x 16 * x 16 + x 17 * x 17 + x 18 * x 18 + x 19 * x 19 + x 24 * x 24 + x 25 * x 25 + x 26 * x 26 + x 27 * x 27 + x 32 * x 32 + x 33 * x 33 + x 34 * x 34 + x 35 * x 35 + x 40 * x 40 + x 41 * x 41 + x 42 * x 42 + x 43 * x 43 + x 48 * x 48 + x 49 * x 49 + x 50 * x 50 + x 51 * x 51 + x 56 * x 56 + x 57 * x 57 + x 58 * x 58 + x 59 * x 59)) (hY : G 0 0 * G 0 0 + G 0 1 * G 0 1 + G 0 2 * G 0 2 + G 0 3 * G 0 3 + G 1 0 * G 1 0 + G 1 1 * G 1 1 + G 1 2 * G 1 2 + G 1 3 * G 1 3 + G 2 0 * G 2 0 + G 2 1 * G 2 1 + G 2 2 * G 2 2 + G 2 3 * G 2 3 + G 3 0 * G 3 0 + G 3 1 * G 3 1 + G 3 2 * G 3 2 + G 3 3 * G 3 3 + G 4 0 * G 4 0 + G 4 1 * G 4 1 + G 4 2 * G 4 2 + G 4 3 * G 4 3 + G 5 0 * G 5 0 + G 5 1 * G 5 1 + G 5 2 * G 5 2 + G 5 3 * G 5 3 + G 6 0 * G 6 0 + G 6 1 * G 6 1 + G 6 2 * G 6 2 + G 6 3 * G 6 3 + G 7 0 * G 7 0 + G 7 1 * G 7 1 + G 7 2 * G 7 2 + G 7 3 * G 7 3 = 8 * (x 4 * x 4 + x 5 * x 5 + x 6 * x 6 + x 7 * x 7 + x 12 * x 12 + x 13 * x 13 + x 14 * x 14 + x 15 * x 15 + x 20 * x 20 + x 21 * x 21 + x 22 * x 22 + x 23 * x 23 + x 28 * x 28 + x 29 * x 29 + x 30 * x 30 + x 31 * x 31 + x 36 * x 36 + x 37 * x 37 + x 38 * x 38 + x 39 * x 39 + x 44 * x 44 + x 45 * x 45 + x 46 * x 46 + x 47 * x 47 + x 52 * x 52 + x 53 * x 53 + x 54 * x 54 + x 55 * x 55 + x 60 * x 60 + x 61 * x 61 + x 62 * x 62 + x 63 * x 63)) : (F 0 0 * F 0 0 + F 0 1 * F 0 1 + F 0 2 * F 0 2 + F 0 3 * F 0 3 + (G 0 0 * G 0 0 + G 0 1 * G 0 1 + G 0 2 * G 0 2 + G 0 3 * G 0 3)) + (F 1 0 * F 1 0 + F 1 1 * F 1 1 + F 1 2 * F 1 2 + F 1 3 * F 1 3 + (G 1 0 * G 1 0 + G 1 1 * G 1 1 + G 1 2 * G 1 2 + G 1 3 * G 1 3)) + (F 2 0 * F 2 0 + F 2 1 * F 2 1 + F 2 2 * F 2 2 + F 2 3 * F 2 3 + (G 2 0 * G 2 0 + G 2 1 * G 2 1 + G 2 2 * G 2 2 + G 2 3 * G 2 3)) + (F 3 0 * F 3 0 + F 3 1 * F 3 1 + F 3 2 * F 3 2 + F 3 3 * F 3 3 + (G 3 0 * G 3 0 + G 3 1 * G 3 1 + G 3 2 * G 3 2 + G 3 3 * G 3 3)) + (F 4 0 * F 4 0 + F 4 1 * F 4 1 + F 4 2 * F 4 2 + F 4 3 * F 4 3 + (G 4 0 * G 4 0 + G 4 1 * G 4 1 + G 4 2 * G 4 2 + G 4 3 * G 4 3)) + (F 5 0 * F 5 0 + F 5 1 * F 5 1 + F 5 2 * F 5 2 + F 5 3 * F 5 3 + (G 5 0 * G 5 0 + G 5 1 * G 5 1 + G 5 2 * G 5 2 + G 5 3 * G 5 3)) + (F 6 0 * F 6 0 + F 6 1 * F 6 1 + F 6 2 * F 6 2 + F 6 3 * F 6 3 + (G 6 0 * G 6 0 + G 6 1 * G 6 1 + G 6 2 * G 6 2 + G 6 3 * G 6 3)) + (F 7 0 * F 7 0 + F 7 1 * F 7 1 + F 7 2 * F 7 2 + F 7 3 * F 7 3 + (G 7 0 * G 7 0 + G 7 1 * G 7 1 + G 7 2 * G 7 2 + G 7 3 * G 7 3)) = 8 * ((x 0 * x 0 + x 1 * x 1 + x 2 * x 2 + x 3 * x 3 + (x 4 * x 4 + x 5 * x 5 + x 6 * x 6 + x 7 * x 7)) + (x 8 * x 8 + x 9 * x 9 + x 10 * x 10 + x 11 * x 11 + (x 12 * x 12 + x 13 * x 13 + x 14 * x 14 + x 15 * x 15)) + (x 16 * x 16 + x 17 * x 17 + x 18 * x 18 + x 19 * x 19 + (x 20 * x 20 + x 21 * x 21 + x 22 * x 22 + x 23 * x 23)) + (x 24 * x 24 + x 25 * x 25 + x 26 * x 26 + x 27 * x 27 + (x 28 * x 28 + x 29 * x 29 + x 30 * x 30 + x 31 * x 31)) + (x 32 * x 32 + x 33 * x 33 + x 34 * x 34 + x 35 * x 35 + (x 36 * x 36 + x 37 * x 37 + x 38 * x 38 + x 39 * x 39)) + (x 40 * x 40 + x 41 * x 41 + x 42 * x 42 + x 43 * x 43 + (x 44 * x 44 + x 45 * x 45 + x 46 * x 46 + x 47 * x 47)) + (x 48 * x 48 + x 49 * x 49 + x 50 * x 50 + x 51 * x 51 + (x 52 * x 52 + x 53 * x 53 + x 54 * x 54 + x 55 * x 55)) + (x 56 * x 56 + x 57 * x 57 + x 58 * x 58 + x 59 * x 59 + (x 60 * x 60 + x 61 * x 61 + x 62 * x 62 + x 63 * x 63))) := by omega
theorem far_comb7 (F G : Nat → Nat → Int) (x : Nat → Int) (hX : F 0 0 * F 0 0 + F 0 1 * F 0 1 + F 0 2 * F 0 2 + F 0 3 * F 0 3 + F 7 0 * F 7 0 + F 7 1 * F 7 1 + F 7 2 * F 7 2 + F 7 3 * F 7 3 + F 6 0 * F 6 0 + F 6 1 * F 6 1 + F 6 2 * F 6 2 + F 6 3 * F 6 3 + F 5 0 * F 5 0 + F 5 1 * F 5 1 + F 5 2 * F 5 2 + F 5 3 * F 5 3 + F 4 0 * F 4 0 + F 4 1 * F 4 1 + F 4 2 * F 4 2 + F 4 3 * F 4 3 + F 3 0 * F 3 0 + F 3 1 * F 3 1 + F 3 2 * F 3 2 + F 3 3 * F 3 3 + F 2 0 * F 2 0 + F 2 1 * F 2 1 + F 2 2 * F 2 2 + F 2 3 * F 2 3 + F 1 0 * F 1 0 + F 1 1 * F 1 1 + F 1 2 * F 1 2 + F 1 3 * F 1 3 = 8 * (x 0 * x 0 + x 1 * x 1 + x 2 * x 2 + x 3 * x 3 + x 8 * x 8 + x 9 * x 9 + x 10 * x 10 + x 11 * x 11 + x 16 * x 16 + x 17 * x 17 + x 18 * x 18 + x 19 * x 19 + x 24 * x 24 + x 25 * x 25 + x 26 * x 26 + x 27 * x 27 + x 32 * x 32 + x 33 * x 33 + x 34 * x 34 + x 35 * x 35 + x 40 * x 40 + x 41 * x 41 + x 42 * x 42 + x 43 * x 43 + x 48 * x 48 + x 49 * x 49 + x 50 * x 50 + x 51 * x 51 + x 56 * x 56 + x 57 * x 57 + x 58 * x 58 + x 59 * x 59)) (hY : G 0 0 * G 0 0 + G 0 1 * G 0 1 + G 0 2 * G 0 2 + G 0 3 * G 0 3 + G 7 0 * G 7 0 + G 7 1 * G 7 1 + G 7 2 * G 7 2 + G 7 3 * G 7 3 + G 6 0 * G 6 0 + G 6 1 * G 6 1 + G 6 2 * G 6 2 + G 6 3 * G 6 3 + G 5 0 * G 5 0 + G 5 1 * G 5 1 + G 5 2 * G 5 2 + G 5 3 * G 5 3 + G 4 0 * G 4 0 + G 4 1 * G 4 1 + G 4 2 * G 4 2 + G 4 3 * G 4 3 + G 3 0 * G 3 0 + G 3 1 * G 3 1 + G 3 2 * G 3 2 + G 3 3 * G 3 3 + G 2 0 * G 2 0 + G 2 1 * G 2 1 + G 2 2 * G 2 2 + G 2 3 * G 2 3 + G 1 0 * G 1 0 + G 1 1 * G 1 1 + G 1 2 * G 1 2 + G 1 3 * G 1 3 = 8 * (x 4 * x 4 + x 5 * x 5 + x 6 * x 6 + x 7 * x 7 + x 12 * x 12 + x 13 * x 13 + x 14 * x 14 + x 15 * x 15 + x 20 * x 20 + x 21 * x 21 + x 22 * x 22 + x 23 * x 23 + x 28 * x 28 + x 29 * x 29 + x 30 * x 30 + x 31 * x 31 + x 36 * x 36 + x 37 * x 37 + x 38 * x 38 + x 39 * x 39 + x 44 * x 44 + x 45 * x 45 + x 46 * x 46 + x 47 * x 47 + x 52 * x 52 + x 53 * x 53 + x 54 * x 54 + x 55 * x 55 + x 60 * x 60 + x 61 * x 61 + x 62 * x 62 + x 63 * x 63)) : (F 0 0 * F 0 0 + F 0 1 * F 0 1 + F 0 2 * F 0 2 + F 0 3 * F 0 3 + (G 0 0 * G 0 0 + G 0 1 * G 0 1 + G 0 2 * G 0 2 + G 0 3 * G 0 3)) + (F 1 0 * F 1 0 + F 1 1 * F 1 1 + F 1 2 * F 1 2 + F 1 3 * F 1 3 + (G 1 0 * G 1 0 + G 1 1 * G 1 1 + G 1 2 * G 1 2 + G 1 3 * G 1 3)) + (F 2 0 * F 2 0 + F 2 1 * F 2 1 + F 2 2 * F 2 2 + F 2 3 * F 2 3 + (G 2 0 * G 2 0 + G 2 1 * G 2 1 + G 2 2 * G 2 2 + G 2 3 * G 2 3)) + (F 3 0 * F 3 0 + F 3 1 * F 3 1 + F 3 2 * F 3 2 + F 3 3 * F 3 3 + (G 3 0 * G 3 0 + G 3 1 * G 3 1 + G 3 2 * G 3 2 + G 3 3 * G 3 3)) + (F 4 0 * F 4 0 + F 4 1 * F 4 1 + F 4 2 * F 4 2 + F 4 3 * F 4 3 + (G 4 0 * G 4 0 + G 4 1 * G 4 1 + G 4 2 * G 4 2 + G 4 3 * G 4 3)) + (F 5 0 * F 5 0 + F 5 1 * F 5 1 + F 5 2 * F 5 2 + F 5 3 * F 5 3 + (G 5 0 * G 5 0 + G 5 1 * G 5 1 + G 5 2 * G 5 2 + G 5 3 * G 5 3)) + (F 6 0 * F 6 0 + F 6 1 * F 6 1 + F 6 2 * F 6 2 + F 6 3 * F 6 3 + (G 6 0 * G 6 0 + G 6 1 * G 6 1 + G 6 2 * G 6 2 + G 6 3 * G 6 3)) + (F 7 0 * F 7 0 + F 7 1 * F 7 1 + F 7 2 * F 7 2 + F 7 3 * F 7 3 + (G 7 0 * G 7 0 + G 7 1 * G 7 1 + G 7 2 * G 7 2 + G 7 3 * G 7 3)) = 8 * ((x 0 * x 0 + x 1 * x 1 + x 2 * x 2 + x 3 * x 3 + (x 4 * x 4 + x 5 * x 5 + x 6 * x 6 + x 7 * x 7)) + (x 8 * x 8 + x 9 * x 9 + x 10 * x 10 + x 11 * x 11 + (x 12 * x 12 + x 13 * x 13 + x 14 * x 14 + x 15 * x 15)) + (x 16 * x 16 + x 17 * x 17 + x 18 * x 18 + x 19 * x 19 + (x 20 * x 20 + x 21 * x 21 + x 22 * x 22 + x 23 * x 23)) + (x 24 * x 24 + x 25 * x 25 + x 26 * x 26 + x 27 * x 27 + (x 28 * x 28 + x 29 * x 29 + x 30 * x 30 + x 31 * x 31)) + (x 32 * x 32 + x 33 * x 33 + x 34 * x 34 + x 35 * x 35 + (x 36 * x 36 + x 37 * x 37 + x 38 * x 38 + x 39 * x 39)) + (x 40 * x 40 + x 41 * x 41 + x 42 * x 42 + x 43 * x 43 + (x 44 * x 44 + x 45 * x 45 + x 46 * x 46 + x 47 * x 47)) + (x 48 * x 48 + x 49 * x 49 + x 50 * x 50 + x 51 * x 51 + (x 52 * x 52 + x 53 * x 53 + x 54 * x 54 + x 55 * x 55)) + (x 56 * x 56 + x 57 * x 57 + x 58 * x 58 + x 59 * x 59 + (x 60 * x 60 + x 61 * x 61 + x 62 * x 62 + x 63 * x 63))) := by omega
theorem far_le {q : PT} {u : Nat → Int} {st : Nat} (hst : st = 1 ∨ st = 7) (h : ∀ k, k < 8 → ∀ g, opkZ q k u g = gthZ k st u g 8) : nZ (opNZ q u 8) = 8 * nZ u := by
  have hv : ∀ p, p < 8 → whZ (opNZ q u 8) p 8 = (fsZ u st p 0 0 8 * fsZ u st p 0 0 8 + fsZ u st p 0 1 8 * fsZ u st p 0 1 8 + fsZ u st p 0 2 8 * fsZ u st p 0 2 8 + fsZ u st p 0 3 8 * fsZ u st p 0 3 8) + (fsZ u st p 4 0 8 * fsZ u st p 4 0 8 + fsZ u st p 4 1 8 * fsZ u st p 4 1 8 + fsZ u st p 4 2 8 * fsZ u st p 4 2 8 + fsZ u st p 4 3 8 * fsZ u st p 4 3 8) := fun p hp => by
    obtain ⟨h1, h2⟩ := far_val h hp
    rw [whZ8]
    unfold sq4
    rw [h1 0 (by omega), h1 1 (by omega), h1 2 (by omega), h1 3 (by omega), h2 0 (by omega), h2 1 (by omega), h2 2 (by omega), h2 3 (by omega)]
  unfold nZ
  rw [hv 0 (by omega), hv 1 (by omega), hv 2 (by omega), hv 3 (by omega), hv 4 (by omega), hv 5 (by omega), hv 6 (by omega), hv 7 (by omega)]
  rw [whZ8 u 0, whZ8 u 1, whZ8 u 2, whZ8 u 3, whZ8 u 4, whZ8 u 5, whZ8 u 6, whZ8 u 7]
  unfold sq4
  rcases hst with rfl | rfl
  · have hX := fs_sq1 u 0
    have hY := fs_sq1 u 4
    simp only [Nat.zero_add, Nat.reduceAdd, Nat.reduceMul] at hX hY ⊢
    exact far_comb1 (fun p c => fsZ u 1 p 0 c 8) (fun p c => fsZ u 1 p 4 c 8) u hX hY
  · have hX := fs_sq7 u 0
    have hY := fs_sq7 u 4
    simp only [Nat.zero_add, Nat.reduceAdd, Nat.reduceMul] at hX hY ⊢
    exact far_comb7 (fun p c => fsZ u 7 p 0 c 8) (fun p c => fsZ u 7 p 4 c 8) u hX hY
theorem perm_le {q : PT} {u : Nat → Int} {τ σ : Nat → Nat} (h : ∀ k, k < 8 → ∀ g, opkZ q k u g = crZ k (τ k) 0 1 u g) (h1 : ∀ p, p < 8 → σ p < 8 ∧ τ (σ p) = p ∧ ∀ k, k < 8 → k ≠ σ p → p ≠ τ k) {p : Nat} (hp : p < 8) :
    (∀ c, c < 8 → opNZ q u 8 (8 * p + c) = u (8 * σ p + c)) := by
  obtain ⟨a1, a2, a3⟩ := h1 p hp
  obtain ⟨b1, b2⟩ := opNZ_cr (ρ := fun _ => 0) (φ := fun _ => 1) h a1 a2 a3
  intro c hc
  by_cases h4 : c < 4
  · rw [b1 c h4]
    rcases (show c = 0 ∨ c = 1 ∨ c = 2 ∨ c = 3 by omega) with e | e | e | e <;> subst e <;> simp [rtZ]
  · have := b2 (c - 4) (by omega)
    rw [show 8 * p + 4 + (c - 4) = 8 * p + c by omega] at this
    rw [this]
    rcases (show c = 4 ∨ c = 5 ∨ c = 6 ∨ c = 7 by omega) with e | e | e | e <;> subst e <;> simp [rtZ]
theorem wh_eq {v u : Nat → Int} {p k : Nat} (h : ∀ c, c < 8 → v (8 * p + c) = u (8 * k + c)) : ∀ n, n ≤ 8 → whZ v p n = whZ u k n
  | 0, _ => rfl
  | n + 1, hn => by
    show whZ v p n + _ = whZ u k n + _
    rw [wh_eq h n (by omega), h n (by omega)]
theorem roll_ok {q : PT} (hk : q.1 = 4) (hn : q.2.1 ≤ 7) : ∀ p, p < 8 → (p + 8 - q.2.1) % 8 < 8 ∧ ((p + 8 - q.2.1) % 8 + q.2.1) % 8 = p ∧ ∀ k, k < 8 → k ≠ (p + 8 - q.2.1) % 8 → p ≠ (k + q.2.1) % 8 := fun p hp => ⟨by omega, by omega, fun k hk hne => by omega⟩
theorem flip_ok : ∀ p, p < 8 → 7 - p < 8 ∧ 7 - (7 - p) = p ∧ ∀ k, k < 8 → k ≠ 7 - p → p ≠ 7 - k := fun p hp => ⟨by omega, by omega, fun k hk hne => by omega⟩
theorem roll_op {q : PT} (hk : q.1 = 4) (u : Nat → Int) : ∀ k, k < 8 → ∀ g, opkZ q k u g = crZ k ((k + q.2.1) % 8) 0 1 u g := fun k _ g => by unfold opkZ; simp [hk]
theorem flip_op {q : PT} (hk : q.1 = 5) (u : Nat → Int) : ∀ k, k < 8 → ∀ g, opkZ q k u g = crZ k (7 - k) 0 1 u g := fun k _ g => by unfold opkZ; simp [hk]
theorem ret_le {q : PT} {u : Nat → Int} (h : ∀ k, k < 8 → ∀ g, opkZ q k u g = rtdZ k q.2.1 u g) (hn : q.2.1 < 8) : nZ (opNZ q u 8) ≤ 1 * nZ u := by
  refine nZ_le (fun p hp => ?_)
  have hX : ∀ c, c < 4 → opNZ q u 8 (8 * p + c) = rtZ 0 (fun i => 1 * u (8 * p + i)) c := fun c hc => opNZ_one hp (fun k hk8 hne g => by rw [h k hk8]; unfold rtdZ; rw [adZ_out (by omega), adZ_out (by omega)]) (fun g => by rw [h p hp]; unfold rtdZ; rw [adZ_out (by omega), adZ_in hc])
  have hY : ∀ c, c < 4 → opNZ q u 8 (8 * p + 4 + c) = rtZ q.2.1 (fun i => 1 * u (8 * p + 4 + i)) c := fun c hc => opNZ_one hp (fun k hk8 hne g => by rw [h k hk8]; unfold rtdZ; rw [adZ_out (by omega), adZ_out (by omega)]) (fun g => by rw [h p hp]; unfold rtdZ; rw [adZ_in hc, adZ_out (by omega)])
  rw [wh_cr (by omega) hn hX hY]
  omega
theorem swap_le {q : PT} {u : Nat → Int} (h : ∀ k, k < 8 → ∀ g, opkZ q k u g = xchZ k u g) : nZ (opNZ q u 8) ≤ 1 * nZ u := by
  refine nZ_le (fun p hp => ?_)
  have hX : ∀ c, c < 4 → opNZ q u 8 (8 * p + c) = rtZ 0 (fun i => 1 * u (8 * p + 4 + i)) c := fun c hc => opNZ_one hp (fun k hk8 hne g => by rw [h k hk8]; unfold xchZ; rw [adZ_out (by omega), adZ_out (by omega)]) (fun g => by rw [h p hp]; unfold xchZ; rw [adZ_in hc, adZ_out (by omega)])
  have hY : ∀ c, c < 4 → opNZ q u 8 (8 * p + 4 + c) = rtZ 0 (fun i => 1 * u (8 * p + i)) c := fun c hc => opNZ_one hp (fun k hk8 hne g => by rw [h k hk8]; unfold xchZ; rw [adZ_out (by omega), adZ_out (by omega)]) (fun g => by rw [h p hp]; unfold xchZ; rw [adZ_out (by omega), adZ_in hc])
  rw [whZ8, whZ8, sq4_rt (by omega) hX, sq4_rt (by omega) hY]
  omega
theorem pol0_le {q : PT} {u : Nat → Int} (h : ∀ k, k < 8 → ∀ g, opkZ q k u g = adZ (8 * k) (8 * k) 0 1 u g) : nZ (opNZ q u 8) ≤ 1 * nZ u := by
  refine nZ_le (fun p hp => ?_)
  have hX : ∀ c, c < 4 → opNZ q u 8 (8 * p + c) = rtZ 0 (fun i => 1 * u (8 * p + i)) c := fun c hc => opNZ_one hp (fun k hk8 hne g => by rw [h k hk8, adZ_out (by omega)]) (fun g => by rw [h p hp, adZ_in hc])
  have hY : ∀ c, c < 4 → opNZ q u 8 (8 * p + 4 + c) = 0 := fun c hc => opNZ_one hp (fun k hk8 hne g => by rw [h k hk8, adZ_out (by omega)]) (fun g => by rw [h p hp, adZ_out (by omega)]; omega)
  have h4 := sq4_nn u (8 * p + 4)
  rw [whZ8, whZ8, sq4_rt (by omega) hX]
  have h5 : sq4 (opNZ q u 8) (8 * p + 4) = 0 := by
    unfold sq4
    rw [hY 0 (by omega), hY 1 (by omega), hY 2 (by omega), hY 3 (by omega)]
    rfl
  rw [h5]
  omega
theorem pol1_le {q : PT} {u : Nat → Int} (h : ∀ k, k < 8 → ∀ g, opkZ q k u g = adZ (8 * k + 4) (8 * k + 4) 0 1 u g) : nZ (opNZ q u 8) ≤ 1 * nZ u := by
  refine nZ_le (fun p hp => ?_)
  have hX : ∀ c, c < 4 → opNZ q u 8 (8 * p + c) = 0 := fun c hc => opNZ_one hp (fun k hk8 hne g => by rw [h k hk8, adZ_out (by omega)]) (fun g => by rw [h p hp, adZ_out (by omega)]; omega)
  have hY : ∀ c, c < 4 → opNZ q u 8 (8 * p + 4 + c) = rtZ 0 (fun i => 1 * u (8 * p + 4 + i)) c := fun c hc => opNZ_one hp (fun k hk8 hne g => by rw [h k hk8, adZ_out (by omega)]) (fun g => by rw [h p hp, adZ_in hc])
  have h4 := sq4_nn u (8 * p)
  rw [whZ8, whZ8, sq4_rt (by omega) hY]
  have h5 : sq4 (opNZ q u 8) (8 * p) = 0 := by
    unfold sq4
    rw [hX 0 (by omega), hX 1 (by omega), hX 2 (by omega), hX 3 (by omega)]
    rfl
  rw [h5]
  omega
theorem sq_pm {a b s x : Int} (hs : s = 1 ∨ s = -1) (h : x = 1 * a + s * b) : x * x ≤ 2 * (a * a) + 2 * (b * b) := by
  have h1 := par2 (f := a + b) (g := a - b) rfl rfl
  have h2 := sq_nn (a + b)
  have h3 := sq_nn (a - b)
  rcases hs with rfl | rfl
  · rw [show x = a + b by omega]; omega
  · rw [show x = a - b by omega]; omega
theorem pol2_le {q : PT} {u : Nat → Int} {sg : Int} (hs : sg = 1 ∨ sg = -1) (h : ∀ k, k < 8 → ∀ g, opkZ q k u g = pol2Z k sg u g) : nZ (opNZ q u 8) ≤ 4 * nZ u := by
  refine nZ_le (fun p hp => ?_)
  have r0 : ∀ (f : Nat → Int) c, c < 4 → rtZ 0 f c = f c := fun f c hc => by
    rcases (show c = 0 ∨ c = 1 ∨ c = 2 ∨ c = 3 by omega) with e | e | e | e <;> subst e <;> simp [rtZ]
  have hX : ∀ c, c < 4 → opNZ q u 8 (8 * p + c) = 1 * u (8 * p + c) + sg * u (8 * p + 4 + c) := fun c hc => opNZ_one hp (fun k hk8 hne g => by rw [h k hk8]; unfold pol2Z; rw [adZ_out (by omega), adZ_out (by omega), adZ_out (by omega), adZ_out (by omega)]) (fun g => by rw [h p hp]; unfold pol2Z; rw [adZ_out (by omega), adZ_out (by omega), adZ_in hc, adZ_in hc, r0 _ c hc, r0 _ c hc, Int.add_assoc])
  have hY : ∀ c, c < 4 → opNZ q u 8 (8 * p + 4 + c) = 1 * u (8 * p + 4 + c) + sg * u (8 * p + c) := fun c hc => opNZ_one hp (fun k hk8 hne g => by rw [h k hk8]; unfold pol2Z; rw [adZ_out (by omega), adZ_out (by omega), adZ_out (by omega), adZ_out (by omega)]) (fun g => by rw [h p hp]; unfold pol2Z; rw [adZ_in hc, adZ_in hc, adZ_out (by omega), adZ_out (by omega), r0 _ c hc, r0 _ c hc, Int.add_assoc])
  have X0 := sq_pm hs (hX 0 (by omega)); have X1 := sq_pm hs (hX 1 (by omega)); have X2 := sq_pm hs (hX 2 (by omega)); have X3 := sq_pm hs (hX 3 (by omega))
  have Y0 := sq_pm hs (hY 0 (by omega)); have Y1 := sq_pm hs (hY 1 (by omega)); have Y2 := sq_pm hs (hY 2 (by omega)); have Y3 := sq_pm hs (hY 3 (by omega))
  rw [whZ8, whZ8]
  unfold sq4
  omega
/-- a part that is in makes no more than its factor of the power -/
theorem nz_op {q : PT} (hq : okP q) (u : Nat → Int) : nZ (opNZ q u 8) ≤ ((lfn q : Nat) : Int) * nZ u := by
  obtain ⟨hk, hlo, hhi, h4, h5, h6, h7, h8⟩ := hq
  have hu := nZ_nn u
  rcases (show q.1 = 0 ∨ q.1 = 1 ∨ q.1 = 2 ∨ q.1 = 3 ∨ q.1 = 4 ∨ q.1 = 5 ∨ q.1 = 6 ∨ q.1 = 7 ∨ q.1 = 8 ∨ q.1 = 9 ∨ q.1 = 10 by omega) with e | e | e | e | e | e | e | e | e | e | e
  · have hl : lfn q = 1 * 1 := by unfold lfn; simp [e]
    rw [hl]
    exact id_le (ρ := fun _ => 0) (φ := fun k => q.2.1 / 2 ^ k % 2) (fun k _ g => by unfold opkZ; simp [e]) (fun _ => by omega) (fun k _ => by omega)
  · have hl : lfn q = 1 * 1 := by unfold lfn; simp [e]
    rw [hl]
    exact id_le (ρ := fun k => q.2.1 / 2 ^ (3 * k) % 8) (φ := fun _ => 1) (fun k _ g => by unfold opkZ; simp [e]) (fun _ => by omega) (fun k _ => by omega)
  · have hl : lfn q = 8 := by unfold lfn; simp [e]
    rw [hl, far_le (st := 1) (Or.inl rfl) (fun k _ g => by unfold opkZ; simp [e])]
    exact Int.le_refl _
  · have hl : lfn q = 8 := by unfold lfn; simp [e]
    rw [hl, far_le (st := 7) (Or.inr rfl) (fun k _ g => by unfold opkZ; simp [e])]
    exact Int.le_refl _
  · have hl : lfn q = 1 := by unfold lfn; simp [e]
    have hn : q.2.1 ≤ 7 := by rw [e] at hhi; exact hhi
    have hw := fun p (hp : p < 8) => wh_eq (perm_le (τ := fun k => (k + q.2.1) % 8) (σ := fun p => (p + 8 - q.2.1) % 8) (roll_op e u) (roll_ok e hn) hp) 8 (by omega)
    rw [hl]
    unfold nZ
    rw [hw 0 (by omega), hw 1 (by omega), hw 2 (by omega), hw 3 (by omega), hw 4 (by omega), hw 5 (by omega), hw 6 (by omega), hw 7 (by omega)]
    rcases (show q.2.1 = 0 ∨ q.2.1 = 1 ∨ q.2.1 = 2 ∨ q.2.1 = 3 ∨ q.2.1 = 4 ∨ q.2.1 = 5 ∨ q.2.1 = 6 ∨ q.2.1 = 7 by omega) with n | n | n | n | n | n | n | n <;> simp only [n, Nat.reduceAdd, Nat.reduceSub, Nat.reduceMod] <;> omega
  · have hl : lfn q = 1 := by unfold lfn; simp [e]
    have hw := fun p (hp : p < 8) => wh_eq (perm_le (τ := fun k => 7 - k) (σ := fun p => 7 - p) (flip_op e u) flip_ok hp) 8 (by omega)
    rw [hl]
    unfold nZ
    rw [hw 0 (by omega), hw 1 (by omega), hw 2 (by omega), hw 3 (by omega), hw 4 (by omega), hw 5 (by omega), hw 6 (by omega), hw 7 (by omega)]
    simp only [Nat.reduceSub]
    omega
  · have hl : lfn q = q.2.1 * q.2.1 := by unfold lfn; simp [e]
    rw [hl]
    exact id_le (ρ := fun _ => 0) (φ := fun _ => q.2.1) (fun k _ g => by unfold opkZ; simp [e]) (fun _ => by omega) (fun k _ => Nat.le_refl _)
  · have hl : lfn q = 9 * 9 := by unfold lfn; simp [e]
    rw [hl]
    exact id_le (ρ := fun _ => 0) (φ := fun k => 9 - q.2.2.2.2.2 k) (fun k _ g => by unfold opkZ; simp [e]) (fun _ => by omega) (fun k _ => by omega)
  · have hl : lfn q = 1 := by unfold lfn; simp [e]
    have hn : q.2.1 ≤ 7 := by rw [e] at hhi; exact hhi
    rw [hl]
    exact ret_le (fun k _ g => by unfold opkZ; simp [e]) (by omega)
  · have hl : lfn q = 1 := by unfold lfn; simp [e]
    rw [hl]
    exact swap_le (fun k _ g => by unfold opkZ; simp [e])
  · have hn : q.2.1 ≤ 3 := by rw [e] at hhi; exact hhi
    rcases (show q.2.1 = 0 ∨ q.2.1 = 1 ∨ q.2.1 = 2 ∨ q.2.1 = 3 by omega) with n | n | n | n
    · have hl : lfn q = 1 := by unfold lfn; simp [e, n]
      rw [hl]
      exact pol0_le (fun k _ g => by unfold opkZ; simp [e, n, polZ])
    · have hl : lfn q = 1 := by unfold lfn; simp [e, n]
      rw [hl]
      exact pol1_le (fun k _ g => by unfold opkZ; simp [e, n, polZ])
    · have hl : lfn q = 4 := by unfold lfn; simp [e, n]
      rw [hl]
      exact pol2_le (Or.inl rfl) (fun k _ g => by unfold opkZ; simp [e, n, polZ])
    · have hl : lfn q = 4 := by unfold lfn; simp [e, n]
      rw [hl]
      exact pol2_le (Or.inr rfl) (fun k _ g => by unfold opkZ; simp [e, n, polZ])
theorem nz_ps {q : PT} (hq : okP q) (u : Nat → Int) : nZ (psZ q u) ≤ ((lfn q : Nat) : Int) * nZ u := Int.le_trans (nZ_st _ _) (nz_op hq u)
theorem lfn_81 {q : PT} (hq : okP q) : lfn q ≤ 81 := by
  obtain ⟨hk, hlo, hhi, -⟩ := hq
  unfold lfn
  split
  · omega
  split
  · rename_i e
    rw [e] at hhi
    have : q.2.1 ≤ 3 := hhi
    exact Nat.le_trans (Nat.mul_le_mul this this) (by decide)
  split
  · omega
  split <;> omega
