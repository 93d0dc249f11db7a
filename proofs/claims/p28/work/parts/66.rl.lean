/-! a roll and a flip keep what is there -/
theorem ez_self (u : Nat → Int64) : EZ u (fun j => (u j).toInt) := fun j => (Int64.ofInt_toInt (u j)).symm
theorem psf_perm {q : PT} (hq : okP q) (hd : q.2.2.2.1 = 0) {τ σ : Nat → Nat} (h : ∀ (u : Nat → Int), ∀ k, k < 8 → ∀ g, opkZ q k u g = crZ k (τ k) 0 1 u g) (h1 : ∀ p, p < 8 → σ p < 8 ∧ τ (σ p) = p ∧ ∀ k, k < 8 → k ≠ σ p → p ≠ τ k) (u : Nat → Int64) {p c : Nat} (hp : p < 8) (hc : c < 8) : psf q u (8 * p + c) = u (8 * σ p + c) := by
  unfold psf stl
  rw [hd, Nat.zero_div, if_pos (by decide), ez_opN hq (ez_self u) 8 (8 * p + c), perm_le (h _) h1 hp c hc]
  exact Int64.ofInt_toInt _
theorem whR_eq {v u : Nat → Int64} {p k : Nat} (h : ∀ c, c < 8 → v (8 * p + c) = u (8 * k + c)) : ∀ n, n ≤ 8 → whR v p n = whR u k n
  | 0, _ => rfl
  | n + 1, hn => by
    show whR v p n + _ = whR u k n + _
    rw [whR_eq h n (by omega), h n (by omega)]
theorem rtt_eq {v u : Nat → Int64} {p k : Nat} (h : ∀ c, c < 8 → v (8 * p + c) = u (8 * k + c)) : rtt v p = rtt u k := by
  have h0 := h 0 (by omega); have h1 := h 1 (by omega); have h2 := h 2 (by omega); have h3 := h 3 (by omega)
  have h4 := h 4 (by omega); have h5 := h 5 (by omega); have h6 := h 6 (by omega); have h7 := h 7 (by omega)
  simp only [Nat.add_zero] at h0
  unfold rtt rf
  simp only [Nat.add_assoc, Nat.reduceAdd]
  rw [h0, h1, h2, h3, h4, h5, h6, h7]
section RL
variable {S : Nat → ST} {P : Nat → PT} {i : Nat} {τ σ : Nat → Nat}
theorem wt_perm (hq : okP (P i)) (hd : (P i).2.2.2.1 = 0) (hin : (P i).2.2.1 = 1) (h : ∀ (u : Nat → Int), ∀ k, k < 8 → ∀ g, opkZ (P i) k u g = crZ k (τ k) 0 1 u g) (h1 : ∀ p, p < 8 → σ p < 8 ∧ τ (σ p) = p ∧ ∀ k, k < 8 → k ≠ σ p → p ≠ τ k) {k : Nat} (hk : k < 8) : ∀ n, wN S P (i + 1) n k = wN S P i n (σ k) ∧ tN S P (i + 1) n k = tN S P i n (σ k)
  | 0 => ⟨rfl, rfl⟩
  | n + 1 => by
    have ih := wt_perm hq hd hin h h1 hk n
    have e : ltN (S n) P (i + 1) = psf (P i) (ltN (S n) P i) := if_neg (by omega)
    have e2 := fun c (hc : c < 8) => psf_perm hq hd h h1 (ltN (S n) P i) hk hc
    constructor
    · show wN S P (i + 1) n k + whR (ltN (S n) P (i + 1)) k 8 = wN S P i n (σ k) + whR (ltN (S n) P i) (σ k) 8
      rw [ih.1, e, whR_eq e2 8 (Nat.le_refl _)]
    · show tN S P (i + 1) n k + rtt (ltN (S n) P (i + 1)) k = tN S P i n (σ k) + rtt (ltN (S n) P i) (σ k)
      rw [ih.2, e, rtt_eq e2]
end RL
theorem srl_eq {w t w' t' : Nat → Int64} (h : ∀ r, r < 8 → (asW w' t' r ↔ asW w t r)) : srl w' t' = srl w t := by
  have h1 := h 1 (by omega); have h2 := h 2 (by omega); have h3 := h 3 (by omega); have h4 := h 4 (by omega); have h5 := h 5 (by omega); have h6 := h 6 (by omega); have h7 := h 7 (by omega)
  have e : ∀ {a b : Prop} [Decidable a] [Decidable b] {x y x' y' : Nat}, (a ↔ b) → x = x' → y = y' → (if a then x else y) = if b then x' else y' := by
    intro a b _ _ x y x' y' hab hx hy
    subst hx hy
    by_cases q : b
    · rw [if_pos (hab.mpr q), if_pos q]
    · rw [if_neg (fun z => q (hab.mp z)), if_neg q]
  exact e h1 rfl (e h2 rfl (e h3 rfl (e h4 rfl (e h5 rfl (e h6 rfl (e h7 rfl rfl))))))
section RL2
variable {cI : ClassId} {L : List Nat} {f : Nat → va_E} {sA pA : Nat → Option Nat} {sd pd ed : Nat → Nat} {S : Nat → ST} {P : Nat → PT} {ns np i k : Nat}
theorem roll_wt (h : bn cI L f sA pA sd pd ed S P ns np) (hi : i < np) (h4 : (P i).1 = 4) (hd : (P i).2.2.2.1 = 0) (hin : (P i).2.2.1 = 1) (k : Nat) (hk : k < 8) : wN S P (i + 1) ns k = wN S P i ns ((k + 8 - (P i).2.1) % 8) ∧ tN S P (i + 1) ns k = tN S P i ns ((k + 8 - (P i).2.1) % 8) := by
  have hok := (bn_ok h).2.2.2 i hi
  have hn : (P i).2.1 ≤ 7 := by have h9 := hok.2.2.1; rw [h4] at h9; exact h9
  exact wt_perm (τ := fun k => (k + (P i).2.1) % 8) (σ := fun p => (p + 8 - (P i).2.1) % 8) hok hd hin (fun u => roll_op h4 u) (roll_ok h4 hn) hk ns
theorem flip_wt (h : bn cI L f sA pA sd pd ed S P ns np) (hi : i < np) (h5 : (P i).1 = 5) (hd : (P i).2.2.2.1 = 0) (hin : (P i).2.2.1 = 1) (k : Nat) (hk : k < 8) : wN S P (i + 1) ns k = wN S P i ns (7 - k) ∧ tN S P (i + 1) ns k = tN S P i ns (7 - k) :=
  wt_perm (τ := fun k => 7 - k) (σ := fun p => 7 - p) ((bn_ok h).2.2.2 i hi) hd hin (fun u => flip_op h5 u) flip_ok hk ns
theorem roll_w (h : bn cI L f sA pA sd pd ed S P ns np) (hi : i < np) (hk : k < 8) (h4 : (P i).1 = 4) (hd : (P i).2.2.2.1 = 0) (hin : (P i).2.2.1 = 1) : wN S P (i + 1) ns k = wN S P i ns ((k + 8 - (P i).2.1) % 8) := (roll_wt h hi h4 hd hin k hk).1
theorem roll_t (h : bn cI L f sA pA sd pd ed S P ns np) (hi : i < np) (hk : k < 8) (h4 : (P i).1 = 4) (hd : (P i).2.2.2.1 = 0) (hin : (P i).2.2.1 = 1) : tN S P (i + 1) ns k = tN S P i ns ((k + 8 - (P i).2.1) % 8) := (roll_wt h hi h4 hd hin k hk).2
theorem flip_w (h : bn cI L f sA pA sd pd ed S P ns np) (hi : i < np) (hk : k < 8) (h5 : (P i).1 = 5) (hd : (P i).2.2.2.1 = 0) (hin : (P i).2.2.1 = 1) : wN S P (i + 1) ns k = wN S P i ns (7 - k) := (flip_wt h hi h5 hd hin k hk).1
theorem flip_t (h : bn cI L f sA pA sd pd ed S P ns np) (hi : i < np) (hk : k < 8) (h5 : (P i).1 = 5) (hd : (P i).2.2.2.1 = 0) (hin : (P i).2.2.1 = 1) : tN S P (i + 1) ns k = tN S P i ns (7 - k) := (flip_wt h hi h5 hd hin k hk).2
theorem roll_s (h : bn cI L f sA pA sd pd ed S P ns np) (hi : i < np) (_ : k < 8) (h4 : (P i).1 = 4) (hd : (P i).2.2.2.1 = 0) (hin : (P i).2.2.1 = 1) : srl (wN S P (i + 1) ns) (tN S P (i + 1) ns) = srl (wN S P i ns) (tN S P i ns) := by
  have hok := (bn_ok h).2.2.2 i hi
  have hn : (P i).2.1 ≤ 7 := by have h9 := hok.2.2.1; rw [h4] at h9; exact h9
  have e := roll_wt h hi h4 hd hin
  generalize (P i).2.1 = n at e hn
  refine srl_eq (fun r hr => ⟨fun q j hj => ?_, fun q j hj => ?_⟩)
  · have h1 := q ((j + n) % 8) (by omega)
    rw [(e _ (by omega)).1, (e _ (by omega)).2, (e _ (by omega)).1, (e _ (by omega)).2] at h1
    rw [show ((j + n) % 8 + 8 - n) % 8 = j by omega, show (((j + n) % 8 + r) % 8 + 8 - n) % 8 = (j + r) % 8 by omega] at h1
    exact h1
  · rw [(e j hj).1, (e j hj).2, (e _ (by omega)).1, (e _ (by omega)).2]
    have h1 := q ((j + 8 - n) % 8) (by omega)
    rw [show ((j + 8 - n) % 8 + r) % 8 = ((j + r) % 8 + 8 - n) % 8 by omega] at h1
    exact h1
theorem flip_s (h : bn cI L f sA pA sd pd ed S P ns np) (hi : i < np) (_ : k < 8) (h5 : (P i).1 = 5) (hd : (P i).2.2.2.1 = 0) (hin : (P i).2.2.1 = 1) : srl (wN S P (i + 1) ns) (tN S P (i + 1) ns) = srl (wN S P i ns) (tN S P i ns) := by
  have e := flip_wt h hi h5 hd hin
  refine srl_eq (fun r hr => ⟨fun q j hj => ?_, fun q j hj => ?_⟩)
  · have h1 := q (7 - (j + r) % 8) (by omega)
    rw [(e _ (by omega)).1, (e _ (by omega)).2, (e _ (by omega)).1, (e _ (by omega)).2] at h1
    rw [show 7 - (7 - (j + r) % 8) = (j + r) % 8 by omega, show 7 - (7 - (j + r) % 8 + r) % 8 = j by omega] at h1
    exact ⟨h1.1.symm, h1.2.symm⟩
  · rw [(e j hj).1, (e j hj).2, (e _ (by omega)).1, (e _ (by omega)).2]
    have h1 := q (7 - (j + r) % 8) (by omega)
    rw [show (7 - (j + r) % 8 + r) % 8 = 7 - j by omega] at h1
    exact ⟨h1.1.symm, h1.2.symm⟩
end RL2
