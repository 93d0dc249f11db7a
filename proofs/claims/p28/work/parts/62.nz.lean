/-! what a part makes, place by place; powers -/
theorem adZ_out {a b r j : Nat} {fc : Int} {u g : Nat → Int} (h : ¬ (b ≤ j ∧ j < b + 4)) : adZ a b r fc u g j = g j := if_neg h
theorem adZ_in {a b r c : Nat} {fc : Int} {u g : Nat → Int} (h : c < 4) : adZ a b r fc u g (b + c) = g (b + c) + rtZ r (fun i => fc * u (a + i)) c := by
  unfold adZ
  rw [if_pos ⟨by omega, by omega⟩, Nat.add_sub_cancel_left]
theorem crZ_out {k q r p c : Nat} {fc : Int} {u g : Nat → Int} (h : p ≠ q) (hc : c < 8) : crZ k q r fc u g (8 * p + c) = g (8 * p + c) := by
  unfold crZ
  rw [adZ_out (by omega), adZ_out (by omega)]
theorem crZ_X {k p r c : Nat} {fc : Int} {u g : Nat → Int} (hc : c < 4) : crZ k p r fc u g (8 * p + c) = g (8 * p + c) + rtZ r (fun i => fc * u (8 * k + i)) c := by
  unfold crZ
  rw [adZ_out (by omega), adZ_in hc]
theorem crZ_Y {k p r c : Nat} {fc : Int} {u g : Nat → Int} (hc : c < 4) : crZ k p r fc u g (8 * p + 4 + c) = g (8 * p + 4 + c) + rtZ r (fun i => fc * u (8 * k + 4 + i)) c := by
  unfold crZ
  rw [adZ_in hc, adZ_out (by omega)]
theorem opNZ_one {q : PT} {u : Nat → Int} {j k0 : Nat} {x : Int} (hk : k0 < 8) (h0 : ∀ k, k < 8 → k ≠ k0 → ∀ g, opkZ q k u g j = g j) (h1 : ∀ g, opkZ q k0 u g j = g j + x) : opNZ q u 8 j = x := by
  have h : ∀ n, n ≤ 8 → opNZ q u n j = if k0 < n then x else 0 := by
    intro n
    induction n with
    | zero => intro _; rfl
    | succ n ih =>
      intro hn
      show opkZ q n u (opNZ q u n) j = _
      by_cases e : n = k0
      · subst e
        rw [h1, ih (by omega), if_neg (by omega), if_pos (by omega)]
        omega
      · rw [h0 n (by omega) e, ih (by omega)]
        by_cases e2 : k0 < n
        · rw [if_pos e2, if_pos (by omega)]
        · rw [if_neg e2, if_neg (by omega)]
  rw [h 8 (by omega), if_pos hk]
/-- a kind that carries place by place -/
theorem opNZ_cr {q : PT} {u : Nat → Int} {τ ρ : Nat → Nat} {φ : Nat → Int} (h : ∀ k, k < 8 → ∀ g, opkZ q k u g = crZ k (τ k) (ρ k) (φ k) u g) {k0 p : Nat} (hk : k0 < 8) (hp : τ k0 = p) (hu : ∀ k, k < 8 → k ≠ k0 → p ≠ τ k) :
    (∀ c, c < 4 → opNZ q u 8 (8 * p + c) = rtZ (ρ k0) (fun i => φ k0 * u (8 * k0 + i)) c) ∧ (∀ c, c < 4 → opNZ q u 8 (8 * p + 4 + c) = rtZ (ρ k0) (fun i => φ k0 * u (8 * k0 + 4 + i)) c) := by
  refine ⟨fun c hc => opNZ_one hk (fun k hk8 hne g => ?_) (fun g => ?_), fun c hc => opNZ_one hk (fun k hk8 hne g => ?_) (fun g => ?_)⟩
  · rw [h k hk8]; exact crZ_out (hu k hk8 hne) (by omega)
  · rw [h k0 hk, hp]; exact crZ_X hc
  · rw [h k hk8, Nat.add_assoc]; exact crZ_out (hu k hk8 hne) (by omega)
  · rw [h k0 hk, hp]; exact crZ_Y hc
def sq4 (u : Nat → Int) (a : Nat) : Int := u (a + 0) * u (a + 0) + u (a + 1) * u (a + 1) + u (a + 2) * u (a + 2) + u (a + 3) * u (a + 3)
theorem whZ8 (u : Nat → Int) (k : Nat) : whZ u k 8 = sq4 u (8 * k) + sq4 u (8 * k + 4) := by
  show 0 + u (8 * k + 0) * u (8 * k + 0) + u (8 * k + 1) * u (8 * k + 1) + u (8 * k + 2) * u (8 * k + 2) + u (8 * k + 3) * u (8 * k + 3) + u (8 * k + 4) * u (8 * k + 4) + u (8 * k + 5) * u (8 * k + 5) + u (8 * k + 6) * u (8 * k + 6) + u (8 * k + 7) * u (8 * k + 7) = _
  unfold sq4
  simp only [Nat.add_assoc, Nat.reduceAdd]
  omega
theorem sq_nn (a : Int) : 0 ≤ a * a := by
  rcases Int.le_total 0 a with h | h
  · exact Int.mul_nonneg h h
  · have := Int.mul_nonneg_of_nonpos_of_nonpos h h
    exact this
theorem sq4_nn (u : Nat → Int) (a : Nat) : 0 ≤ sq4 u a := by
  have h0 := sq_nn (u (a + 0))
  have h1 := sq_nn (u (a + 1))
  have h2 := sq_nn (u (a + 2))
  have h3 := sq_nn (u (a + 3))
  unfold sq4
  omega
theorem sq_rt {r : Nat} (hr : r < 8) {f : Nat → Int} {v : Nat → Int} (h : ∀ c, c < 4 → f c = rtZ r v c) : f 0 * f 0 + f 1 * f 1 + f 2 * f 2 + f 3 * f 3 = v 0 * v 0 + v 1 * v 1 + v 2 * v 2 + v 3 * v 3 := by
  rw [h 0 (by omega), h 1 (by omega), h 2 (by omega), h 3 (by omega)]
  rcases (show r = 0 ∨ r = 1 ∨ r = 2 ∨ r = 3 ∨ r = 4 ∨ r = 5 ∨ r = 6 ∨ r = 7 by omega) with h | h | h | h | h | h | h | h <;> subst h <;> simp [rtZ, Int.neg_mul_neg] <;> omega
theorem mm4 (f x : Int) : (f * x) * (f * x) = f * f * (x * x) := by rw [Int.mul_assoc, Int.mul_left_comm x f x, ← Int.mul_assoc]
theorem sq_f {f : Int} {u : Nat → Int} {a : Nat} : (f * u (a + 0)) * (f * u (a + 0)) + (f * u (a + 1)) * (f * u (a + 1)) + (f * u (a + 2)) * (f * u (a + 2)) + (f * u (a + 3)) * (f * u (a + 3)) = f * f * sq4 u a := by
  unfold sq4
  rw [Int.mul_add, Int.mul_add, Int.mul_add, mm4, mm4, mm4, mm4]
/-- the power of four coefficients that are a turned amplitude -/
theorem sq4_rt {v u : Nat → Int} {a b r : Nat} {f : Int} (hr : r < 8) (h : ∀ c, c < 4 → v (b + c) = rtZ r (fun i => f * u (a + i)) c) : sq4 v b = f * f * sq4 u a := by
  have := sq_rt (f := fun c => v (b + c)) (v := fun i => f * u (a + i)) hr h
  unfold sq4 at *
  rw [this]
  exact sq_f
theorem wh_cr {v u : Nat → Int} {p k r1 r2 : Nat} {f : Int} (h1 : r1 < 8) (h2 : r2 < 8) (hX : ∀ c, c < 4 → v (8 * p + c) = rtZ r1 (fun i => f * u (8 * k + i)) c) (hY : ∀ c, c < 4 → v (8 * p + 4 + c) = rtZ r2 (fun i => f * u (8 * k + 4 + i)) c) : whZ v p 8 = f * f * whZ u k 8 := by
  rw [whZ8, whZ8, sq4_rt h1 hX, sq4_rt h2 hY, Int.mul_add]
def nZ (u : Nat → Int) : Int := whZ u 0 8 + whZ u 1 8 + whZ u 2 8 + whZ u 3 8 + whZ u 4 8 + whZ u 5 8 + whZ u 6 8 + whZ u 7 8
theorem wh_nn (u : Nat → Int) (k : Nat) : 0 ≤ whZ u k 8 := by
  rw [whZ8]
  have h1 := sq4_nn u (8 * k)
  have h2 := sq4_nn u (8 * k + 4)
  omega
theorem nZ_nn (u : Nat → Int) : 0 ≤ nZ u := by
  unfold nZ
  have h0 := wh_nn u 0; have h1 := wh_nn u 1; have h2 := wh_nn u 2; have h3 := wh_nn u 3
  have h4 := wh_nn u 4; have h5 := wh_nn u 5; have h6 := wh_nn u 6; have h7 := wh_nn u 7
  omega
theorem wh_st (d : Nat) (g : Nat → Int) {p : Nat} : whZ (stlZ d g) p 8 ≤ whZ g p 8 := by
  have e : ∀ c, c < 8 → stlZ d g (8 * p + c) = if d / 2 ^ p % 2 = 0 then g (8 * p + c) else 0 := fun c hc => by
    unfold stlZ
    rw [show (8 * p + c) / 8 = p by omega]
  by_cases h : d / 2 ^ p % 2 = 0
  · have e2 : ∀ n, n ≤ 8 → whZ (stlZ d g) p n = whZ g p n := by
      intro n
      induction n with
      | zero => intro _; rfl
      | succ n ih =>
        intro hn
        show whZ (stlZ d g) p n + _ = whZ g p n + _
        rw [ih (by omega), e n (by omega), if_pos h]
    rw [e2 8 (by omega)]
    exact Int.le_refl _
  · have e2 : ∀ n, n ≤ 8 → whZ (stlZ d g) p n = 0 := by
      intro n
      induction n with
      | zero => intro _; rfl
      | succ n ih =>
        intro hn
        show whZ (stlZ d g) p n + _ = 0
        rw [ih (by omega), e n (by omega), if_neg h]
        rfl
    rw [e2 8 (by omega)]
    exact wh_nn g p
theorem nZ_st (d : Nat) (g : Nat → Int) : nZ (stlZ d g) ≤ nZ g := by
  unfold nZ
  have h0 := wh_st d g (p := 0); have h1 := wh_st d g (p := 1); have h2 := wh_st d g (p := 2); have h3 := wh_st d g (p := 3)
  have h4 := wh_st d g (p := 4); have h5 := wh_st d g (p := 5); have h6 := wh_st d g (p := 6); have h7 := wh_st d g (p := 7)
  omega
/-- place by place no more than F times: the whole no more than F times -/
theorem nZ_le {v u : Nat → Int} {F : Int} (h : ∀ p, p < 8 → whZ v p 8 ≤ F * whZ u p 8) : nZ v ≤ F * nZ u := by
  unfold nZ
  have h0 := h 0 (by omega); have h1 := h 1 (by omega); have h2 := h 2 (by omega); have h3 := h 3 (by omega)
  have h4 := h 4 (by omega); have h5 := h 5 (by omega); have h6 := h 6 (by omega); have h7 := h 7 (by omega)
  simp only [Int.mul_add]
  omega
/-- the values of each kind -/
theorem k_id {q : PT} {u : Nat → Int} {ρ : Nat → Nat} {φ : Nat → Int} (h : ∀ k, k < 8 → ∀ g, opkZ q k u g = crZ k k (ρ k) (φ k) u g) (hr : ∀ k, ρ k < 8) {p : Nat} (hp : p < 8) : whZ (opNZ q u 8) p 8 = φ p * φ p * whZ u p 8 := by
  obtain ⟨h1, h2⟩ := opNZ_cr (τ := fun k => k) h hp rfl (fun k _ hne => Ne.symm hne)
  exact wh_cr (hr p) (hr p) h1 h2
