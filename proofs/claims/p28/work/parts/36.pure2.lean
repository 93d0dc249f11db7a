/-! what the bench answers, in whole numbers and longs -/
abbrev wB (S : Nat → ST) (P : Nat → PT) (b ns : Nat) : Nat → Int64 := wN S P b ns
abbrev tB (S : Nat → ST) (P : Nat → PT) (b ns : Nat) : Nat → Int64 := tN S P b ns
def cinR (P : Nat → PT) : Nat → Nat
  | 0 => 0
  | n + 1 => if (P n).2.2.1 = 0 then cinR P n else cinR P n + 1
def cexR (P : Nat → PT) : Nat → Nat
  | 0 => 0
  | n + 1 => cexR P n + (P n).2.2.2.2.1
/-- the first part that is in and can't be undone, from i on, d parts to go -/
def fcR (P : Nat → PT) (i : Nat) : Nat → Int32
  | 0 => -1
  | d + 1 => if (P i).2.2.1 ≠ 0 ∧ ¬ cbu (P i) then nI i else fcR P (i + 1) d
theorem ax_cin {P : Nat → PT} : ∀ n, cinR P n ≤ n
  | 0 => Nat.le_refl _
  | n + 1 => by
    have := ax_cin (P := P) n
    show (if (P n).2.2.1 = 0 then cinR P n else cinR P n + 1) ≤ n + 1
    split <;> omega
theorem ax_cex {P : Nat → PT} : ∀ n, n ≤ 8 → (∀ i, i < n → (P i).2.2.2.2.1 < 1000) → cexR P n ≤ 1000 * n
  | 0, _, _ => Nat.le_refl _
  | n + 1, hn, h => by
    have h1 := ax_cex (P := P) n (by omega) (fun i hi => h i (by omega))
    have h2 := h n (by omega)
    show cexR P n + (P n).2.2.2.2.1 ≤ _
    omega
/-- a part put in, or out -/
def tog (q : PT) : PT := (q.1, q.2.1, 1 - q.2.2.1, q.2.2.2.1, q.2.2.2.2.1, q.2.2.2.2.2)
def inn (q : PT) (b : Nat) : PT := (q.1, q.2.1, b, q.2.2.2.1, q.2.2.2.2.1, q.2.2.2.2.2)
def num9 (q : PT) (n : Nat) : PT := (q.1, n, q.2.2.1, q.2.2.2.1, q.2.2.2.2.1, q.2.2.2.2.2)
def drt (q : PT) (d : Nat) : PT := (q.1, q.2.1, q.2.2.1, d, q.2.2.2.2.1, q.2.2.2.2.2)
def exd (q : PT) (x : Nat → Nat) : PT := (q.1, q.2.1, q.2.2.1, q.2.2.2.1, q.2.2.2.2.1 + 1, x)
/-- exposures behind an exposure -/
def dkx (x : Nat → Nat) (w : Nat → Int64) (dv n : Nat) : Nat → Nat := fun j => if j < n then min 9 (x j + (w j).toInt.toNat / dv) else x j
def lsF (S : Nat → ST) (P : Nat → PT) (i ns : Nat) : Int64 := if (P i).2.2.1 = 0 then 0 else (nI (lfn (P i))).toInt64 * smR (wN S P i ns) 8 - smR (wN S P (i + 1) ns) 8
/-- the value at a place behind all parts, part i's number being n -/
def vBest (S : Nat → ST) (P : Nat → PT) (ns np i k n : Nat) : UInt64 := vA (wN S (va_up P i (num9 (P i) n)) np ns) (tN S (va_up P i (num9 (P i) n)) np ns) k
/-- the best number of those from lo on, n of them: the best so far and its value -/
def bsR (v : Nat → UInt64) (lo : Nat) : Nat → Nat × UInt64
  | 0 => (lo, v lo)
  | n + 1 => if dgt (v (lo + n)) (bsR v lo n).2 then (lo + n, v (lo + n)) else bsR v lo n
def bst (S : Nat → ST) (P : Nat → PT) (ns np i k : Nat) : Int32 := if cbt (P i) then nI (bsR (vBest S P ns np i k) (loN (P i).1) (hiN (P i).1 - loN (P i).1 + 1)).1 else -1
def aln (S : Nat → ST) (P : Nat → PT) (np i : Nat) : Nat := pgR (fun j => 0 + whR (ltN (S i) P np) j 8) (fun j => 0 + rtt (ltN (S i) P np) j) 8
/-! the digest -/
def dgS (S : Nat → ST) (P : Nat → PT) (np : Nat) (d : Int64) : Nat → Int64
  | 0 => d
  | i + 1 => (((dgS S P np d i * 31 + (nI (S i).1).toInt64) * 31 + (nI (S i).2.1).toInt64) * 31 + (nI (S i).2.2).toInt64) * 31 + (nI (aln S P np i)).toInt64
def dgW (S : Nat → ST) (P : Nat → PT) (ns : Nat) (d : Int64) : Nat → Int64
  | 0 => d
  | b + 1 => adg (wN S P b ns) (tN S P b ns) (dgW S P ns d b)
def dgP (S : Nat → ST) (P : Nat → PT) (ns np : Nat) (d : Int64) : Nat → Int64
  | 0 => d
  | i + 1 => ((((((((dgP S P ns np d i * 31 + (nI (P i).1).toInt64) * 31 + (nI (P i).2.1).toInt64) * 31 + (nI (P i).2.2.1).toInt64) * 31 + (nI (P i).2.2.2.1).toInt64) * 31 + (nI (smX (P i).2.2.2.2.2 8)).toInt64) * 31 + (nI (P i).2.2.2.2.1).toInt64) * 31 + lsF S P i ns) * 31 + wN S (va_up P i (tog (P i))) np ns 3) * 31 + (bst S P ns np i 3).toInt64
def dgM (S : Nat → ST) (P : Nat → PT) (ns np : Nat) : Int64 := ((((9507 * 31 + (nI ns).toInt64) * 31 + (nI np).toInt64) * 31 + (nI (cinR P np)).toInt64) * 31 + (fcR P 0 np).toInt64) * 31 + (nI (cexR P np)).toInt64
def dgA (S : Nat → ST) (P : Nat → PT) (ns np : Nat) : Int64 := dgP S P ns np (dgW S P ns (dgS S P np (dgM S P ns np) ns) (np + 1)) np
theorem ax_m1T {i : Nat} (h : i < 2 ^ 31) : (nI i - 1).toInt = (i : Int) - 1 := by
  by_cases h0 : i = 0
  · subst h0; decide
  · rw [show nI i - 1 = nI (i - 1) from pk_sub (a := i) (b := 1) (by omega), nI_toInt (by omega)]
    omega
theorem ax_nb : ∀ b, b < 2 → narrow .boolean (.int (nI b)) = .int (nI b) ∧ fits .boolean (.int (nI b)) = true := by decide +kernel
theorem ax_incT {x : Int32} {b : Nat} (h : x.toInt = (b : Int) - 1) (hb : b < 1000) : (x + 1).toInt = ((b + 1 : Nat) : Int) - 1 := by
  by_cases h0 : b = 0
  · subst h0
    have : x = -1 := Int32.toInt_inj.mp (by rw [h]; decide)
    subst this
    decide
  · have : x = nI (b - 1) := Int32.toInt_inj.mp (by rw [h, nI_toInt (by omega)]; omega)
    subst this
    rw [show nI (b - 1) + 1 = nI (b - 1 + 1) from (nI_succ _).symm, nI_toInt (by omega)]
    omega
theorem okP_tog {q : PT} (h : okP q) : okP (tog q) := by
  obtain ⟨h1, h2, h3, h4, h5, h6, h7, h8⟩ := h
  exact ⟨h1, h2, h3, show 1 - q.2.2.1 < 2 by omega, h5, h6, h7, h8⟩
theorem okP_inn {q : PT} {b : Nat} (h : okP q) (hb : b < 2) : okP (inn q b) := by
  obtain ⟨h1, h2, h3, h4, h5, h6, h7, h8⟩ := h
  exact ⟨h1, h2, h3, hb, h5, h6, h7, h8⟩
theorem okP_num {q : PT} {n : Nat} (h : okP q) (hl : loN q.1 ≤ n) (hh : n ≤ hiN q.1) : okP (num9 q n) := by
  obtain ⟨h1, h2, h3, h4, h5, h6, h7, h8⟩ := h
  exact ⟨h1, hl, hh, h4, h5, h6, h7, h8⟩
theorem okP_drt {q : PT} {d : Nat} (h : okP q) (hd : d < 256) : okP (drt q d) := by
  obtain ⟨h1, h2, h3, h4, h5, h6, h7, h8⟩ := h
  exact ⟨h1, h2, h3, h4, hd, h6, h7, h8⟩
theorem okP_exd {q : PT} {x : Nat → Nat} (h : okP q) (hk : q.1 = 7) (ht : q.2.2.2.2.1 < 999) (hx : ∀ j, j < 8 → x j ≤ 9) : okP (exd q x) := by
  obtain ⟨h1, h2, h3, h4, h5, h6, h7, h8⟩ := h
  exact ⟨h1, h2, h3, h4, h5, show q.2.2.2.2.1 + 1 < 1000 by omega, hx, fun q9 => absurd hk q9⟩
theorem ax_dk9 {x : Nat → Nat} {w : Nat → Int64} {dv : Nat} : ∀ j, j < 8 → dkx x w dv 8 j ≤ 9 := fun j hj => by
  unfold dkx
  rw [if_pos hj]
  exact Nat.min_le_left _ _
/-! a new object: an own place first, then into the pool -/
theorem ax_toX {D : va_G} {cl : List vw_C} {X pl : va_W} {x : Nat × va_E} {H : Heap} (h : va_P D cl ((X ++ pl) ++ [x]) H) : va_P D cl ((X ++ [x]) ++ pl) H := va_P.swap h
theorem ax_toXD {A : Nat → Prop} {X pl : va_W} {x : Nat × va_E} (h : va_D A ((X ++ pl) ++ [x])) : va_D A ((X ++ [x]) ++ pl) := va_D.swap h
theorem ax_inL {A : Nat → Prop} {X : va_W} {L : List Nat} {f : Nat → va_E} {k a : Nat} {e : va_E} (hD : va_D A (X ++ va_pl L f)) (hk : X[k]? = some (a, e)) : a ∉ L := fun h => by
  obtain ⟨j, hj⟩ := va_pl_get (X := X) (f := f) h
  have hl : k < X.length := (List.getElem?_eq_some_iff.mp hk).1
  have h1 : (X ++ va_pl L f)[k]? = some (a, e) := by rw [List.getElem?_append_left hl]; exact hk
  have h2 := hD.1 k j _ _ h1 hj rfl
  subst h2
  obtain ⟨i, hi⟩ := List.getElem?_of_mem h
  have h3 : (X ++ va_pl L f)[X.length + i]? = some (a, f a) := by
    rw [List.getElem?_append_right (by omega), Nat.add_sub_cancel_left]
    unfold va_pl
    rw [List.getElem?_map, hi]
    rfl
  have h4 := hD.1 k (X.length + i) _ _ h1 h3 rfl
  omega
theorem ax_toP {D : va_G} {cl : List vw_C} {X : va_W} {L : List Nat} {f : Nat → va_E} {a : Nat} {e : va_E} {H : Heap} (ha : a ∉ L) (h : va_P D cl ((X ++ [(a, e)]) ++ va_pl L f) H) : va_P D cl (X ++ va_pl (L ++ [a]) (va_up f a e)) H := by
  have h2 := va_P.swap h
  rw [List.append_assoc, va_pl_push ha] at h2
  exact h2
theorem ax_toPD {A : Nat → Prop} {X : va_W} {L : List Nat} {f : Nat → va_E} {a : Nat} {e : va_E} (ha : a ∉ L) (h : va_D A ((X ++ [(a, e)]) ++ va_pl L f)) : va_D A (X ++ va_pl (L ++ [a]) (va_up f a e)) := by
  have h2 := va_D.swap h
  rw [List.append_assoc, va_pl_push ha] at h2
  exact h2
