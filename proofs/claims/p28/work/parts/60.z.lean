/-! the same in whole numbers, exact -/
def EZ (u : Nat → Int64) (z : Nat → Int) : Prop := ∀ j, u j = Int64.ofInt (z j)
def rtZ (r : Nat) (v : Nat → Int) (c : Nat) : Int := if ((c + 8 - r) % 4 + r) / 4 % 2 = 1 then -(v ((c + 8 - r) % 4)) else v ((c + 8 - r) % 4)
def adZ (a b r : Nat) (fc : Int) (u g : Nat → Int) : Nat → Int := fun j => if b ≤ j ∧ j < b + 4 then g j + rtZ r (fun i => fc * u (a + i)) (j - b) else g j
def crZ (k q r : Nat) (fc : Int) (u g : Nat → Int) : Nat → Int := adZ (8 * k + 4) (8 * q + 4) r fc u (adZ (8 * k) (8 * q) r fc u g)
def gthZ (k st : Nat) (u g : Nat → Int) : Nat → Nat → Int
  | 0 => g
  | j + 1 => crZ j k ((st * j * k) % 8) 1 u (gthZ k st u g j)
def rtdZ (k r : Nat) (u g : Nat → Int) : Nat → Int := adZ (8 * k + 4) (8 * k + 4) r 1 u (adZ (8 * k) (8 * k) 0 1 u g)
def xchZ (k : Nat) (u g : Nat → Int) : Nat → Int := adZ (8 * k + 4) (8 * k) 0 1 u (adZ (8 * k) (8 * k + 4) 0 1 u g)
def pol2Z (k : Nat) (sg : Int) (u g : Nat → Int) : Nat → Int := adZ (8 * k) (8 * k + 4) 0 sg u (adZ (8 * k + 4) (8 * k + 4) 0 1 u (adZ (8 * k + 4) (8 * k) 0 sg u (adZ (8 * k) (8 * k) 0 1 u g)))
def polZ (k n : Nat) (u g : Nat → Int) : Nat → Int := if n = 0 then adZ (8 * k) (8 * k) 0 1 u g else if n = 1 then adZ (8 * k + 4) (8 * k + 4) 0 1 u g else if n = 2 then pol2Z k 1 u g else pol2Z k (-1) u g
def opkZ (q : PT) (k : Nat) (u g : Nat → Int) : Nat → Int :=
  if q.1 = 0 then crZ k k 0 ((q.2.1 / 2 ^ k % 2 : Nat) : Int) u g
  else if q.1 = 1 then crZ k k (q.2.1 / 2 ^ (3 * k) % 8) 1 u g
  else if q.1 = 2 then gthZ k 1 u g 8
  else if q.1 = 3 then gthZ k 7 u g 8
  else if q.1 = 4 then crZ k ((k + q.2.1) % 8) 0 1 u g
  else if q.1 = 5 then crZ k (7 - k) 0 1 u g
  else if q.1 = 6 then crZ k k 0 (q.2.1 : Int) u g
  else if q.1 = 7 then crZ k k 0 ((9 - q.2.2.2.2.2 k : Nat) : Int) u g
  else if q.1 = 8 then rtdZ k q.2.1 u g
  else if q.1 = 9 then xchZ k u g
  else polZ k q.2.1 u g
def opNZ (q : PT) (u : Nat → Int) : Nat → Nat → Int
  | 0 => fun _ => 0
  | k + 1 => opkZ q k u (opNZ q u k)
def stlZ (d : Nat) (g : Nat → Int) : Nat → Int := fun j => if d / 2 ^ (j / 8) % 2 = 0 then g j else 0
def psZ (q : PT) (u : Nat → Int) : Nat → Int := stlZ q.2.2.2.1 (opNZ q u 8)
def strZ (q : ST) : Nat → Int := fun j => if j = 8 * q.1 + q.2.1 % 4 then (if q.2.1 / 4 % 2 = 0 then (q.2.2 : Int) else -(q.2.2 : Int)) else 0
def ltZ (q : ST) (P : Nat → PT) : Nat → Nat → Int
  | 0 => strZ q
  | n + 1 => if (P n).2.2.1 = 0 then ltZ q P n else psZ (P n) (ltZ q P n)
def whZ (u : Nat → Int) (k : Nat) : Nat → Int
  | 0 => 0
  | i + 1 => whZ u k i + u (8 * k + i) * u (8 * k + i)
def rfZ (u : Nat → Int) (a : Nat) : Int := u a * u (a + 1) + u (a + 1) * u (a + 2) + u (a + 2) * u (a + 3) - u (a + 3) * u a
def rttZ (u : Nat → Int) (k : Nat) : Int := rfZ u (8 * k) + rfZ u (8 * k + 4)
def wZ (S : Nat → ST) (P : Nat → PT) (b : Nat) : Nat → Nat → Int
  | 0 => fun _ => 0
  | n + 1 => fun k => wZ S P b n k + whZ (ltZ (S n) P b) k 8
def tZ (S : Nat → ST) (P : Nat → PT) (b : Nat) : Nat → Nat → Int
  | 0 => fun _ => 0
  | n + 1 => fun k => tZ S P b n k + rttZ (ltZ (S n) P b) k
theorem ez_rt {r : Nat} {v : Nat → Int64} {z : Nat → Int} {c : Nat} (h : ∀ i, v i = Int64.ofInt (z i)) : rt r v c = Int64.ofInt (rtZ r z c) := by
  unfold rt rtZ
  split
  · rw [h, Int64.ofInt_neg]
  · exact h _
theorem ez_ad {a b r : Nat} {fc : Int32} {fz : Int} {u g : Nat → Int64} {x y : Nat → Int} (hf : fc.toInt64 = Int64.ofInt fz) (hu : EZ u x) (hg : EZ g y) : EZ (ad a b r fc u g) (adZ a b r fz x y) := by
  intro j
  unfold ad adZ
  split
  · rw [hg j, ez_rt (z := fun i => fz * x (a + i)) (fun i => by rw [hf, hu, Int64.ofInt_mul]), Int64.ofInt_add]
  · exact hg j
theorem ez_cr {k q r : Nat} {fc : Int32} {fz : Int} {u g : Nat → Int64} {x y : Nat → Int} (hf : fc.toInt64 = Int64.ofInt fz) (hu : EZ u x) (hg : EZ g y) : EZ (cr k q r fc u g) (crZ k q r fz x y) := ez_ad hf hu (ez_ad hf hu hg)
theorem ez_1 : (1 : Int32).toInt64 = Int64.ofInt 1 := by decide
theorem ez_m1 : (-1 : Int32).toInt64 = Int64.ofInt (-1) := by decide
theorem ez_n {n : Nat} (h : n < 256) : (nI n).toInt64 = Int64.ofInt (n : Int) := by
  have : ∀ n, n < 256 → (nI n).toInt64 = Int64.ofInt (n : Int) := by decide +kernel
  exact this n h
theorem ez_gth {k st : Nat} {u g : Nat → Int64} {x y : Nat → Int} (hu : EZ u x) (hg : EZ g y) : ∀ n, EZ (gthR k st u g n) (gthZ k st x y n)
  | 0 => hg
  | n + 1 => ez_cr ez_1 hu (ez_gth hu hg n)
theorem ez_pol2 {k : Nat} {sg : Int32} {sz : Int} {u g : Nat → Int64} {x y : Nat → Int} (hs : sg.toInt64 = Int64.ofInt sz) (hu : EZ u x) (hg : EZ g y) : EZ (pol2 k sg u g) (pol2Z k sz x y) := ez_ad hs hu (ez_ad ez_1 hu (ez_ad hs hu (ez_ad ez_1 hu hg)))
theorem ez_pol {k n : Nat} {u g : Nat → Int64} {x y : Nat → Int} (hu : EZ u x) (hg : EZ g y) : EZ (pol k n u g) (polZ k n x y) := by
  unfold pol polZ
  split
  · exact ez_ad ez_1 hu hg
  · split
    · exact ez_ad ez_1 hu hg
    · split
      · exact ez_pol2 ez_1 hu hg
      · exact ez_pol2 ez_m1 hu hg
theorem ez_opk {q : PT} (hq : okP q) {k : Nat} {u g : Nat → Int64} {x y : Nat → Int} (hu : EZ u x) (hg : EZ g y) : EZ (opk q k u g) (opkZ q k x y) := by
  obtain ⟨h1, h2, h3, h4, h5, h6, h7, h8⟩ := hq
  unfold opk opkZ
  split
  · exact ez_cr (ez_n (by omega)) hu hg
  split
  · exact ez_cr ez_1 hu hg
  split
  · exact ez_gth hu hg 8
  split
  · exact ez_gth hu hg 8
  split
  · exact ez_cr ez_1 hu hg
  split
  · exact ez_cr ez_1 hu hg
  split
  · rename_i e
    rw [e] at h3
    have h9 : q.2.1 ≤ 3 := h3
    exact ez_cr (ez_n (by omega)) hu hg
  split
  · exact ez_cr (ez_n (by omega)) hu hg
  split
  · exact ez_ad ez_1 hu (ez_ad ez_1 hu hg)
  split
  · exact ez_ad ez_1 hu (ez_ad ez_1 hu hg)
  · exact ez_pol hu hg
theorem ez_opN {q : PT} (hq : okP q) {u : Nat → Int64} {x : Nat → Int} (hu : EZ u x) : ∀ n, EZ (opN q u n) (opNZ q x n)
  | 0 => fun _ => by show (0 : Int64) = Int64.ofInt 0; decide
  | n + 1 => ez_opk hq hu (ez_opN hq hu n)
theorem ez_ps {q : PT} (hq : okP q) {u : Nat → Int64} {x : Nat → Int} (hu : EZ u x) : EZ (psf q u) (psZ q x) := by
  intro j
  unfold psf psZ stl stlZ
  split
  · exact ez_opN hq hu 8 j
  · decide
theorem ez_st {q : ST} (hq : okS q) : EZ (strt q) (strZ q) := by
  obtain ⟨h1, h2, h3, h4⟩ := hq
  intro j
  unfold strt strZ
  split
  · split
    · exact ez_n (by omega)
    · have : ∀ n, n < 10 → (-(nI n)).toInt64 = Int64.ofInt (-(n : Int)) := by decide +kernel
      exact this _ (by omega)
  · decide
theorem ez_lt {q : ST} (hq : okS q) {P : Nat → PT} : ∀ n, (∀ i, i < n → okP (P i)) → EZ (ltN q P n) (ltZ q P n)
  | 0, _ => ez_st hq
  | n + 1, h => by
    have ih := ez_lt hq n (fun i hi => h i (by omega))
    show EZ (if (P n).2.2.1 = 0 then ltN q P n else psf (P n) (ltN q P n)) (if (P n).2.2.1 = 0 then ltZ q P n else psZ (P n) (ltZ q P n))
    split
    · exact ih
    · exact ez_ps (h n (by omega)) ih
theorem ez_wh {u : Nat → Int64} {z : Nat → Int} (h : EZ u z) (k : Nat) : ∀ n, whR u k n = Int64.ofInt (whZ z k n)
  | 0 => by show (0 : Int64) = Int64.ofInt 0; decide
  | n + 1 => by
    show whR u k n + u (8 * k + n) * u (8 * k + n) = Int64.ofInt (whZ z k n + z (8 * k + n) * z (8 * k + n))
    rw [ez_wh h k n, h, Int64.ofInt_add, Int64.ofInt_mul]
theorem ez_rf {u : Nat → Int64} {z : Nat → Int} (h : EZ u z) (a : Nat) : rf u a = Int64.ofInt (rfZ z a) := by
  unfold rf rfZ
  rw [h, h, h, h, Int64.ofInt_sub, Int64.ofInt_add, Int64.ofInt_add, Int64.ofInt_mul, Int64.ofInt_mul, Int64.ofInt_mul, Int64.ofInt_mul]
theorem ez_rtt {u : Nat → Int64} {z : Nat → Int} (h : EZ u z) (k : Nat) : rtt u k = Int64.ofInt (rttZ z k) := by
  unfold rtt rttZ
  rw [ez_rf h, ez_rf h, Int64.ofInt_add]
theorem ez_w {S : Nat → ST} {P : Nat → PT} {b : Nat} (hP : ∀ i, i < b → okP (P i)) : ∀ n, (∀ i, i < n → okS (S i)) → ∀ k, wN S P b n k = Int64.ofInt (wZ S P b n k)
  | 0, _, _ => by show (0 : Int64) = Int64.ofInt 0; decide
  | n + 1, h, k => by
    show wN S P b n k + whR (ltN (S n) P b) k 8 = Int64.ofInt (wZ S P b n k + whZ (ltZ (S n) P b) k 8)
    rw [ez_w hP n (fun i hi => h i (by omega)) k, ez_wh (ez_lt (h n (by omega)) b hP) k 8, Int64.ofInt_add]
theorem ez_t {S : Nat → ST} {P : Nat → PT} {b : Nat} (hP : ∀ i, i < b → okP (P i)) : ∀ n, (∀ i, i < n → okS (S i)) → ∀ k, tN S P b n k = Int64.ofInt (tZ S P b n k)
  | 0, _, _ => by show (0 : Int64) = Int64.ofInt 0; decide
  | n + 1, h, k => by
    show tN S P b n k + rtt (ltN (S n) P b) k = Int64.ofInt (tZ S P b n k + rttZ (ltZ (S n) P b) k)
    rw [ez_t hP n (fun i hi => h i (by omega)) k, ez_rtt (ez_lt (h n (by omega)) b hP) k, Int64.ofInt_add]
