/-! powers: bounds, what is lost -/
/-- a sum of whole numbers -/
def smI (f : Nat → Int) : Nat → Int
  | 0 => 0
  | n + 1 => smI f n + f n
theorem st_sum (f : Nat → Int) {J : Nat} (hJ : J < 64) (h : ∀ a, a < 64 → f a ≤ if a = J then 81 else 0) : f 0 + f 1 + f 2 + f 3 + f 4 + f 5 + f 6 + f 7 + f 8 + f 9 + f 10 + f 11 + f 12 + f 13 + f 14 + f 15 + f 16 + f 17 + f 18 + f 19 + f 20 + f 21 + f 22 + f 23 + f 24 + f 25 + f 26 + f 27 + f 28 + f 29 + f 30 + f 31 + f 32 + f 33 + f 34 + f 35 + f 36 + f 37 + f 38 + f 39 + f 40 + f 41 + f 42 + f 43 + f 44 + f 45 + f 46 + f 47 + f 48 + f 49 + f 50 + f 51 + f 52 + f 53 + f 54 + f 55 + f 56 + f 57 + f 58 + f 59 + f 60 + f 61 + f 62 + f 63 ≤ ((81 ^ (0 + 1) : Nat) : Int) := by
  have e : ∀ n, n ≤ 64 → smI f n ≤ if J < n then 81 else 0 := by
    intro n
    induction n with
    | zero => intro _; exact Int.le_refl _
    | succ n ih =>
      intro hn
      have h1 := ih (by omega)
      have h2 := h n (by omega)
      show smI f n + f n ≤ _
      by_cases e : n = J
      · subst e
        rw [if_pos rfl] at h2
        rw [if_neg (by omega)] at h1
        rw [if_pos (by omega)]
        omega
      · rw [if_neg e] at h2
        by_cases e2 : J < n
        · rw [if_pos e2] at h1
          rw [if_pos (by omega)]
          omega
        · rw [if_neg e2] at h1
          rw [if_neg (by omega)]
          omega
  have e3 := e 64 (Nat.le_refl _)
  rw [if_pos hJ] at e3
  have e4 : smI f 64 = f 0 + f 1 + f 2 + f 3 + f 4 + f 5 + f 6 + f 7 + f 8 + f 9 + f 10 + f 11 + f 12 + f 13 + f 14 + f 15 + f 16 + f 17 + f 18 + f 19 + f 20 + f 21 + f 22 + f 23 + f 24 + f 25 + f 26 + f 27 + f 28 + f 29 + f 30 + f 31 + f 32 + f 33 + f 34 + f 35 + f 36 + f 37 + f 38 + f 39 + f 40 + f 41 + f 42 + f 43 + f 44 + f 45 + f 46 + f 47 + f 48 + f 49 + f 50 + f 51 + f 52 + f 53 + f 54 + f 55 + f 56 + f 57 + f 58 + f 59 + f 60 + f 61 + f 62 + f 63 := by simp [smI]
  rw [← e4]
  exact e3
theorem lt_bd {q : ST} (hq : okS q) {P : Nat → PT} : ∀ n, (∀ i, i < n → okP (P i)) → nZ (ltZ q P n) ≤ ((81 ^ (n + 1) : Nat) : Int)
  | 0, _ => by
    obtain ⟨h1, h2, h3, h4⟩ := hq
    have hv : ∀ j, strZ q j * strZ q j ≤ if j = 8 * q.1 + q.2.1 % 4 then 81 else 0 := fun j => by
      unfold strZ
      by_cases e : j = 8 * q.1 + q.2.1 % 4
      · rw [if_pos e, if_pos e]
        have h9 := cs_le h4
        split
        · exact h9
        · rw [Int.neg_mul_neg]; exact h9
      · rw [if_neg e, if_neg e]
        exact Int.le_refl _
    have e1 : 8 * q.1 + q.2.1 % 4 < 64 := by omega
    generalize 8 * q.1 + q.2.1 % 4 = J at hv e1
    show nZ (strZ q) ≤ _
    unfold nZ
    simp only [whZ8, sq4, Nat.reduceMul, Nat.reduceAdd]
    have hall : ∀ a, a < 64 → strZ q a * strZ q a ≤ if a = J then 81 else 0 := fun a _ => hv a
    have hsum := st_sum (fun a => strZ q a * strZ q a) e1 hall
    exact Int.le_trans (Int.le_of_eq (by omega)) hsum
  | n + 1, h => by
    have ih := lt_bd hq n (fun i hi => h i (by omega))
    have hn := nZ_nn (ltZ q P n)
    show nZ (if (P n).2.2.1 = 0 then ltZ q P n else psZ (P n) (ltZ q P n)) ≤ _
    have hp : ((81 ^ (n + 1 + 1) : Nat) : Int) = 81 * ((81 ^ (n + 1) : Nat) : Int) := by
      rw [Nat.pow_succ 81 (n + 1), Nat.mul_comm, Int.natCast_mul]
      rfl
    rw [hp]
    split
    · omega
    · have h1 := nz_ps (h n (by omega)) (ltZ q P n)
      have h2 := lfn_81 (h n (by omega))
      have h3 : ((lfn (P n) : Nat) : Int) * nZ (ltZ q P n) ≤ 81 * nZ (ltZ q P n) := Int.mul_le_mul_of_nonneg_right (by omega) hn
      omega

theorem wh_le_nZ (u : Nat → Int) {k : Nat} (hk : k < 8) : whZ u k 8 ≤ nZ u := by
  unfold nZ
  have h0 := wh_nn u 0; have h1 := wh_nn u 1; have h2 := wh_nn u 2; have h3 := wh_nn u 3
  have h4 := wh_nn u 4; have h5 := wh_nn u 5; have h6 := wh_nn u 6; have h7 := wh_nn u 7
  rcases (show k = 0 ∨ k = 1 ∨ k = 2 ∨ k = 3 ∨ k = 4 ∨ k = 5 ∨ k = 6 ∨ k = 7 by omega) with e | e | e | e | e | e | e | e <;> subst e <;> omega
theorem rf_le (u : Nat → Int) (a : Nat) : rfZ u a ≤ sq4 u a ∧ -(sq4 u a) ≤ rfZ u a := by
  have p1 := par2 (f := u (a + 0) + u (a + 1)) (g := u (a + 0) - u (a + 1)) rfl rfl
  unfold rfZ sq4
  simp only [Nat.add_zero]
  generalize u a = x; generalize u (a + 1) = y; generalize u (a + 2) = z; generalize u (a + 3) = w
  have e1 : (x - y) * (x - y) = x * x - 2 * (x * y) + y * y := by simp only [Int.sub_mul, Int.mul_sub, Int.mul_comm y x]; omega
  have e2 : (y - z) * (y - z) = y * y - 2 * (y * z) + z * z := by simp only [Int.sub_mul, Int.mul_sub, Int.mul_comm z y]; omega
  have e3 : (z - w) * (z - w) = z * z - 2 * (z * w) + w * w := by simp only [Int.sub_mul, Int.mul_sub, Int.mul_comm w z]; omega
  have e4 : (w - x) * (w - x) = w * w - 2 * (w * x) + x * x := by simp only [Int.sub_mul, Int.mul_sub, Int.mul_comm x w]; omega
  have f1 : (x + y) * (x + y) = x * x + 2 * (x * y) + y * y := by simp only [Int.add_mul, Int.mul_add, Int.mul_comm y x]; omega
  have f2 : (y + z) * (y + z) = y * y + 2 * (y * z) + z * z := by simp only [Int.add_mul, Int.mul_add, Int.mul_comm z y]; omega
  have f3 : (z + w) * (z + w) = z * z + 2 * (z * w) + w * w := by simp only [Int.add_mul, Int.mul_add, Int.mul_comm w z]; omega
  have f4 : (w + x) * (w + x) = w * w + 2 * (w * x) + x * x := by simp only [Int.add_mul, Int.mul_add, Int.mul_comm x w]; omega
  have s1 := sq_nn (x - y); have s2 := sq_nn (y - z); have s3 := sq_nn (z - w); have s4 := sq_nn (w + x)
  have t1 := sq_nn (x + y); have t2 := sq_nn (y + z); have t3 := sq_nn (z + w); have t4 := sq_nn (w - x)
  constructor <;> omega
theorem rtt_le (u : Nat → Int) (k : Nat) : rttZ u k ≤ whZ u k 8 ∧ -(whZ u k 8) ≤ rttZ u k := by
  have h1 := rf_le u (8 * k)
  have h2 := rf_le u (8 * k + 4)
  rw [whZ8]
  unfold rttZ
  omega
section WT
variable {S : Nat → ST} {P : Nat → PT}
theorem wz_bd {b : Nat} (hP : ∀ i, i < b → okP (P i)) : ∀ n, (∀ i, i < n → okS (S i)) → ∀ k, k < 8 → 0 ≤ wZ S P b n k ∧ wZ S P b n k ≤ (n : Int) * ((81 ^ (b + 1) : Nat) : Int) ∧ tZ S P b n k ≤ wZ S P b n k ∧ -(wZ S P b n k) ≤ tZ S P b n k
  | 0, _, _, _ => by
    show (0 : Int) ≤ 0 ∧ (0 : Int) ≤ ((0 : Nat) : Int) * _ ∧ (0 : Int) ≤ 0 ∧ -(0 : Int) ≤ 0
    refine ⟨Int.le_refl _, ?_, Int.le_refl _, Int.le_refl _⟩
    rw [show ((0 : Nat) : Int) = 0 from rfl, Int.zero_mul]
    exact Int.le_refl _
  | n + 1, h, k, hk => by
    have ih := wz_bd hP n (fun i hi => h i (by omega)) k hk
    have h1 := lt_bd (h n (by omega)) b hP
    have h2 := wh_le_nZ (ltZ (S n) P b) hk
    have h3 := wh_nn (ltZ (S n) P b) k
    have h4 := rtt_le (ltZ (S n) P b) k
    show 0 ≤ wZ S P b n k + whZ (ltZ (S n) P b) k 8 ∧ wZ S P b n k + whZ (ltZ (S n) P b) k 8 ≤ ((n + 1 : Nat) : Int) * _ ∧ tZ S P b n k + rttZ (ltZ (S n) P b) k ≤ wZ S P b n k + whZ (ltZ (S n) P b) k 8 ∧ -(wZ S P b n k + whZ (ltZ (S n) P b) k 8) ≤ tZ S P b n k + rttZ (ltZ (S n) P b) k
    have h5 : ((n + 1 : Nat) : Int) * ((81 ^ (b + 1) : Nat) : Int) = (n : Int) * ((81 ^ (b + 1) : Nat) : Int) + ((81 ^ (b + 1) : Nat) : Int) := by
      rw [Int.natCast_add, Int.add_mul]
      omega
    rw [h5]
    omega
theorem pw_le {b : Nat} (hb : b ≤ 8) : 81 ^ (b + 1) ≤ 81 ^ 9 := Nat.pow_le_pow_right (by decide) (by omega)
theorem wz_62 {b n : Nat} (hb : b ≤ 8) (hn : n ≤ 3) (hP : ∀ i, i < b → okP (P i)) (hS : ∀ i, i < n → okS (S i)) {k : Nat} (hk : k < 8) : 0 ≤ wZ S P b n k ∧ wZ S P b n k ≤ 3 * 81 ^ 9 ∧ tZ S P b n k ≤ wZ S P b n k ∧ -(wZ S P b n k) ≤ tZ S P b n k := by
  obtain ⟨h1, h2, h3, h4⟩ := wz_bd hP n hS k hk
  refine ⟨h1, Int.le_trans h2 ?_, h3, h4⟩
  have h5 : n * 81 ^ (b + 1) ≤ 3 * 81 ^ 9 := Nat.mul_le_mul hn (pw_le hb)
  have h6 := Int.ofNat_le.mpr h5
  rw [Int.natCast_mul] at h6
  exact h6
end WT
theorem bn_ok {cI : ClassId} {L : List Nat} {f : Nat → va_E} {sA pA : Nat → Option Nat} {sd pd ed : Nat → Nat} {S : Nat → ST} {P : Nat → PT} {ns np : Nat} (h : bn cI L f sA pA sd pd ed S P ns np) : ns ≤ 3 ∧ np ≤ 8 ∧ (∀ i, i < ns → okS (S i)) ∧ ∀ i, i < np → okP (P i) :=
  ⟨h.1, h.2.1, fun i hi => (h.2.2.1 i hi).1, fun i hi => (h.2.2.2.1 i hi).1⟩
/-- no whole is below 0, no root more than its whole -/
theorem wt_ok {cI : ClassId} {L : List Nat} {f : Nat → va_E} {sA pA : Nat → Option Nat} {sd pd ed : Nat → Nat} {S : Nat → ST} {P : Nat → PT} {ns np b : Nat} (h : bn cI L f sA pA sd pd ed S P ns np) (hb : b ≤ np) : ∀ k, k < 8 → (0 : Int64).toInt ≤ (wN S P b ns k).toInt ∧ (tN S P b ns k).toInt ≤ (wN S P b ns k).toInt ∧ -(wN S P b ns k).toInt ≤ (tN S P b ns k).toInt := fun k hk => by
  obtain ⟨h1, h2, h3, h4⟩ := bn_ok h
  obtain ⟨a1, a2, a3, a4⟩ := wz_62 (b := b) (k := k) (by omega) h1 (fun i hi => h4 i (by omega)) h3 hk
  rw [ez_w (b := b) (fun i hi => h4 i (by omega)) ns h3 k, ez_t (b := b) (fun i hi => h4 i (by omega)) ns h3 k, Int64.toInt_ofInt_of_le (by omega) (by omega), Int64.toInt_ofInt_of_le (by omega) (by omega)]
  show (0 : Int) ≤ _ ∧ _
  omega
theorem wt_62 {cI : ClassId} {L : List Nat} {f : Nat → va_E} {sA pA : Nat → Option Nat} {sd pd ed : Nat → Nat} {S : Nat → ST} {P : Nat → PT} {ns np b : Nat} (h : bn cI L f sA pA sd pd ed S P ns np) (hb : b ≤ np) : ∀ k, k < 8 → 0 ≤ (wN S P b ns k).toInt ∧ (wN S P b ns k).toInt < 2 ^ 62 := fun k hk => by
  obtain ⟨h1, h2, h3, h4⟩ := bn_ok h
  obtain ⟨a1, a2, a3, a4⟩ := wz_62 (b := b) (k := k) (by omega) h1 (fun i hi => h4 i (by omega)) h3 hk
  rw [ez_w (b := b) (fun i hi => h4 i (by omega)) ns h3 k, Int64.toInt_ofInt_of_le (by omega) (by omega)]
  omega
theorem ax_absle {a b : Int64} (h1 : a.toInt ≤ b.toInt) (h2 : -b.toInt ≤ a.toInt) : (if 0 < a then a else -a).toInt ≤ b.toInt := by
  split
  · exact h1
  · rename_i q
    have h3 : ¬ 0 < a.toInt := fun q9 => q (Int64.lt_iff_toInt_lt.mpr q9)
    have h4 : -(2 ^ 63) ≤ a.toInt := Int64.le_toInt a
    have h5 : b.toInt < 2 ^ 63 := Int64.toInt_lt b
    have e : (-a) = Int64.ofInt (-a.toInt) := by rw [Int64.ofInt_neg, Int64.ofInt_toInt]
    rw [e, Int64.toInt_ofInt_of_le (by omega) (by omega)]
    omega
/-! what is lost -/
def sumZ (w : Nat → Int) : Int := w 0 + w 1 + w 2 + w 3 + w 4 + w 5 + w 6 + w 7
theorem sm_z {g : Nat → Int64} {z : Nat → Int} (h : ∀ k, g k = Int64.ofInt (z k)) : smR g 8 = Int64.ofInt (sumZ z) := by
  show 0 + g 0 + g 1 + g 2 + g 3 + g 4 + g 5 + g 6 + g 7 = _
  unfold sumZ
  rw [h, h, h, h, h, h, h, h, Int64.ofInt_add, Int64.ofInt_add, Int64.ofInt_add, Int64.ofInt_add, Int64.ofInt_add, Int64.ofInt_add, Int64.ofInt_add, show (0 : Int64) = Int64.ofInt 0 from rfl, ← Int64.ofInt_add, Int.zero_add]
theorem sumZ_w {S : Nat → ST} {P : Nat → PT} {b : Nat} : ∀ n, sumZ (wZ S P b (n + 1)) = sumZ (wZ S P b n) + nZ (ltZ (S n) P b) := fun n => by
  show sumZ (fun k => wZ S P b n k + whZ (ltZ (S n) P b) k 8) = _
  unfold sumZ nZ
  dsimp only
  omega
theorem sumZ_ls {S : Nat → ST} {P : Nat → PT} {i : Nat} (hi : okP (P i)) (hin : ¬ (P i).2.2.1 = 0) : ∀ n, sumZ (wZ S P (i + 1) n) ≤ ((lfn (P i) : Nat) : Int) * sumZ (wZ S P i n)
  | 0 => by
    show sumZ (fun _ => 0) ≤ _ * sumZ (fun _ => 0)
    rw [show sumZ (fun _ => 0) = 0 from rfl, Int.mul_zero]
    exact Int.le_refl _
  | n + 1 => by
    have ih := sumZ_ls (S := S) hi hin n
    have h1 := nz_ps hi (ltZ (S n) P i)
    have e : ltZ (S n) P (i + 1) = psZ (P i) (ltZ (S n) P i) := if_neg hin
    rw [sumZ_w, sumZ_w, e, Int.mul_add]
    omega
theorem sumZ_bd {S : Nat → ST} {P : Nat → PT} {b n : Nat} (hb : b ≤ 8) (hn : n ≤ 3) (hP : ∀ i, i < b → okP (P i)) (hS : ∀ i, i < n → okS (S i)) : 0 ≤ sumZ (wZ S P b n) ∧ sumZ (wZ S P b n) ≤ (n : Int) * ((81 ^ (b + 1) : Nat) : Int) := by
  have h : ∀ m, m ≤ n → 0 ≤ sumZ (wZ S P b m) ∧ sumZ (wZ S P b m) ≤ (m : Int) * ((81 ^ (b + 1) : Nat) : Int) := by
    intro m
    induction m with
    | zero =>
      intro _
      show 0 ≤ sumZ (fun _ => 0) ∧ sumZ (fun _ => 0) ≤ ((0 : Nat) : Int) * _
      rw [show sumZ (fun _ => 0) = 0 from rfl, show ((0 : Nat) : Int) = 0 from rfl, Int.zero_mul]
      exact ⟨Int.le_refl _, Int.le_refl _⟩
    | succ m ih =>
      intro hm
      have ih := ih (by omega)
      have h1 := lt_bd (hS m (by omega)) b hP
      have h2 := nZ_nn (ltZ (S m) P b)
      rw [sumZ_w, Int.natCast_add, Int.add_mul]
      omega
  exact h n (Nat.le_refl _)
theorem lf_l {q : PT} (hq : okP q) : (nI (lfn q)).toInt64 = Int64.ofInt ((lfn q : Nat) : Int) := ez_n (by have := lfn_81 hq; omega)
theorem ls_out {S : Nat → ST} {P : Nat → PT} {i ns : Nat} (h : (P i).2.2.1 = 0) : lsF S P i ns = 0 := if_pos h
theorem wN_out {S : Nat → ST} {P : Nat → PT} {i ns k : Nat} (h : (P i).2.2.1 = 0) : wN S P (i + 1) ns k = wN S P i ns k := by
  have e : ∀ q, ltN q P (i + 1) = ltN q P i := fun q => if_pos h
  have e2 : ∀ n, wN S P (i + 1) n = wN S P i n := by
    intro n
    induction n with
    | zero => rfl
    | succ n ih =>
      show (fun k => wN S P (i + 1) n k + whR (ltN (S n) P (i + 1)) k 8) = (fun k => wN S P i n k + whR (ltN (S n) P i) k 8)
      rw [ih, e]
  rw [e2]
/-- what is lost is not below 0 -/
theorem ls_nn {cI : ClassId} {L : List Nat} {f : Nat → va_E} {sA pA : Nat → Option Nat} {sd pd ed : Nat → Nat} {S : Nat → ST} {P : Nat → PT} {ns np i : Nat} (h : bn cI L f sA pA sd pd ed S P ns np) (hi : i < np) : (0 : Int64).toInt ≤ (lsF S P i ns).toInt := by
  obtain ⟨h1, h2, h3, h4⟩ := bn_ok h
  by_cases e : (P i).2.2.1 = 0
  · rw [ls_out e]
    exact Int.le_refl _
  · unfold lsF
    rw [if_neg e, sm_z (ez_w (b := i) (fun j hj => h4 j (by omega)) ns h3), sm_z (ez_w (b := i + 1) (fun j hj => h4 j (by omega)) ns h3), lf_l (h4 i hi), ← Int64.ofInt_mul, ← Int64.ofInt_sub]
    have a1 := sumZ_ls (S := S) (h4 i hi) e ns
    have a2 := sumZ_bd (b := i) (n := ns) (by omega) h1 (fun j hj => h4 j (by omega)) h3
    have a3 := sumZ_bd (b := i + 1) (n := ns) (by omega) h1 (fun j hj => h4 j (by omega)) h3
    have a4 : ns * 81 ^ (i + 1) ≤ 3 * 81 ^ 8 := Nat.mul_le_mul h1 (Nat.pow_le_pow_right (by decide) (by omega))
    have a5 := Int.ofNat_le.mpr a4
    rw [Int.natCast_mul] at a5
    have a6 : sumZ (wZ S P i ns) ≤ ((3 * 81 ^ 8 : Nat) : Int) := Int.le_trans a2.2 a5
    have a7 := lfn_81 (h4 i hi)
    have a8 : ((lfn (P i) : Nat) : Int) * sumZ (wZ S P i ns) ≤ 81 * sumZ (wZ S P i ns) := Int.mul_le_mul_of_nonneg_right (by omega) a2.1
    generalize ((lfn (P i) : Nat) : Int) * sumZ (wZ S P i ns) = X at *
    rw [Int64.toInt_ofInt_of_le (by omega) (by omega)]
    show (0 : Int) ≤ _
    omega
