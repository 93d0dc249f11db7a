/-! the bench in whole numbers: a source: place, phase, strength; a part: kind, number, in (1) or out (0), dirty places, times exposed, exposures -/
abbrev ST : Type := Nat × Nat × Nat
abbrev PT : Type := Nat × Nat × Nat × Nat × Nat × (Nat → Nat)
abbrev sfs (q : ST) : List Value := [.int (nI q.1), .int (nI q.2.1), .int (nI q.2.2)]
abbrev pfs (q : PT) (e : Nat) : List Value := [.int (nI q.1), .int (nI q.2.1), .int (nI q.2.2.1), .int (nI q.2.2.2.1), .int (nI q.2.2.2.2.1), .ref e]
/-- a source's numbers are in their ranges -/
def okS (q : ST) : Prop := q.1 < 8 ∧ q.2.1 < 8 ∧ 1 ≤ q.2.2 ∧ q.2.2 ≤ 9
/-- a part's -/
def okP (q : PT) : Prop := q.1 < 11 ∧ loN q.1 ≤ q.2.1 ∧ q.2.1 ≤ hiN q.1 ∧ q.2.2.1 < 2 ∧ q.2.2.2.1 < 256 ∧ q.2.2.2.2.1 < 1000 ∧ (∀ j, j < 8 → q.2.2.2.2.2 j ≤ 9) ∧ (q.1 ≠ 7 → ∀ j, j < 8 → q.2.2.2.2.2 j = 0)
/-- the bench's sources and parts in the pool -/
def bn (cI : ClassId) (L : List Nat) (f : Nat → va_E) (sA pA : Nat → Option Nat) (sd pd ed : Nat → Nat) (S : Nat → ST) (P : Nat → PT) (ns np : Nat) : Prop :=
  ns ≤ 3 ∧ np ≤ 8 ∧
  (∀ i, i < ns → okS (S i) ∧ sA i = some (sd i) ∧ sd i ∈ L ∧ f (sd i) = .inr (3, sfs (S i))) ∧
  (∀ i, i < np → okP (P i) ∧ pA i = some (pd i) ∧ pd i ∈ L ∧ ed i ∈ L ∧ f (pd i) = .inr (1, pfs (P i) (ed i)) ∧ f (ed i) = .inl (cI, 8, .inl (nIf (P i).2.2.2.2.2))) ∧
  (∀ i j, i < ns → j < ns → sd i = sd j → i = j) ∧ (∀ i j, i < np → j < np → pd i = pd j → i = j) ∧ (∀ i j, i < np → j < np → ed i = ed j → i = j)
/-! light: eight coefficients a place -/
/-- coefficient c of W^r times v -/
def rt (r : Nat) (v : Nat → Int64) (c : Nat) : Int64 := if ((c + 8 - r) % 4 + r) / 4 % 2 = 1 then -(v ((c + 8 - r) % 4)) else v ((c + 8 - r) % 4)
/-- what Light.add makes of the next row -/
def ad (a b r : Nat) (fc : Int32) (u g : Nat → Int64) : Nat → Int64 := fun j => if b ≤ j ∧ j < b + 4 then g j + rt r (fun i => fc.toInt64 * u (a + i)) (j - b) else g j
def cr (k q r : Nat) (fc : Int32) (u g : Nat → Int64) : Nat → Int64 := ad (8 * k + 4) (8 * q + 4) r fc u (ad (8 * k) (8 * q) r fc u g)
def gthR (k st : Nat) (u g : Nat → Int64) : Nat → Nat → Int64
  | 0 => g
  | j + 1 => cr j k ((st * j * k) % 8) 1 u (gthR k st u g j)
def rtd (k r : Nat) (u g : Nat → Int64) : Nat → Int64 := ad (8 * k + 4) (8 * k + 4) r 1 u (ad (8 * k) (8 * k) 0 1 u g)
def xch (k : Nat) (u g : Nat → Int64) : Nat → Int64 := ad (8 * k + 4) (8 * k) 0 1 u (ad (8 * k) (8 * k + 4) 0 1 u g)
def pol2 (k : Nat) (sg : Int32) (u g : Nat → Int64) : Nat → Int64 := ad (8 * k) (8 * k + 4) 0 sg u (ad (8 * k + 4) (8 * k + 4) 0 1 u (ad (8 * k + 4) (8 * k) 0 sg u (ad (8 * k) (8 * k) 0 1 u g)))
def pol (k n : Nat) (u g : Nat → Int64) : Nat → Int64 := if n = 0 then ad (8 * k) (8 * k) 0 1 u g else if n = 1 then ad (8 * k + 4) (8 * k + 4) 0 1 u g else if n = 2 then pol2 k 1 u g else pol2 k (-1) u g
/-- what a part makes at place k -/
def opk (q : PT) (k : Nat) (u g : Nat → Int64) : Nat → Int64 :=
  if q.1 = 0 then cr k k 0 (nI (q.2.1 / 2 ^ k % 2)) u g
  else if q.1 = 1 then cr k k (q.2.1 / 2 ^ (3 * k) % 8) 1 u g
  else if q.1 = 2 then gthR k 1 u g 8
  else if q.1 = 3 then gthR k 7 u g 8
  else if q.1 = 4 then cr k ((k + q.2.1) % 8) 0 1 u g
  else if q.1 = 5 then cr k (7 - k) 0 1 u g
  else if q.1 = 6 then cr k k 0 (nI q.2.1) u g
  else if q.1 = 7 then cr k k 0 (nI (9 - q.2.2.2.2.2 k)) u g
  else if q.1 = 8 then rtd k q.2.1 u g
  else if q.1 = 9 then xch k u g
  else pol k q.2.1 u g
def opN (q : PT) (u : Nat → Int64) : Nat → Nat → Int64
  | 0 => fun _ => 0
  | k + 1 => opk q k u (opN q u k)
def stl (d : Nat) (g : Nat → Int64) : Nat → Int64 := fun j => if d / 2 ^ (j / 8) % 2 = 0 then g j else 0
/-- the light behind a part -/
def psf (q : PT) (u : Nat → Int64) : Nat → Int64 := stl q.2.2.2.1 (opN q u 8)
def strt (q : ST) : Nat → Int64 := fun j => if j = 8 * q.1 + q.2.1 % 4 then (if q.2.1 / 4 % 2 = 0 then (nI q.2.2).toInt64 else (-(nI q.2.2)).toInt64) else 0
/-- the light of a source behind n parts -/
def ltN (q : ST) (P : Nat → PT) : Nat → Nat → Int64
  | 0 => strt q
  | n + 1 => if (P n).2.2.1 = 0 then ltN q P n else psf (P n) (ltN q P n)
def whR (u : Nat → Int64) (k : Nat) : Nat → Int64
  | 0 => 0
  | i + 1 => whR u k i + u (8 * k + i) * u (8 * k + i)
def rf (u : Nat → Int64) (a : Nat) : Int64 := u a * u (a + 1) + u (a + 1) * u (a + 2) + u (a + 2) * u (a + 3) - u (a + 3) * u a
def rtt (u : Nat → Int64) (k : Nat) : Int64 := rf u (8 * k) + rf u (8 * k + 4)
/-- the intensities of n sources behind b parts -/
def wN (S : Nat → ST) (P : Nat → PT) (b : Nat) : Nat → Nat → Int64
  | 0 => fun _ => 0
  | n + 1 => fun k => wN S P b n k + whR (ltN (S n) P b) k 8
def tN (S : Nat → ST) (P : Nat → PT) (b : Nat) : Nat → Nat → Int64
  | 0 => fun _ => 0
  | n + 1 => fun k => tN S P b n k + rtt (ltN (S n) P b) k
/-! a row -/
def smR (g : Nat → Int64) : Nat → Int64
  | 0 => 0
  | n + 1 => smR g n + g n
abbrev dC2 : UInt64 := 4609047870845172685
def vA (w t : Nat → Int64) (k : Nat) : UInt64 := FP.dadd (FP.l2d (w k)) (FP.dmul dC2 (FP.l2d (t k)))
abbrev dgt (x y : UInt64) : Prop := 0 < (Op.cmpValue (FP.dcmp x y) .l).toInt
abbrev dlt (x y : UInt64) : Prop := (Op.cmpValue (FP.dcmp x y) .g).toInt < 0
def pgR (w t : Nat → Int64) : Nat → Nat
  | 0 => 0
  | k + 1 => if dgt (vA w t k) (vA w t (pgR w t k)) then k else pgR w t k
def leR (w t : Nat → Int64) : Nat → UInt64
  | 0 => vA w t 0
  | k + 1 => if dlt (vA w t k) (leR w t k) then vA w t k else leR w t k
def dkR (w t : Nat → Int64) : Nat → Int32
  | 0 => 0
  | k + 1 => if w k = 0 ∧ t k = 0 then dkR w t k ||| (1 <<< (nI k &&& 31)) else dkR w t k
abbrev asW (w t : Nat → Int64) (r : Nat) : Prop := ∀ j, j < 8 → (w j = w ((j + r) % 8) ∧ t j = t ((j + r) % 8))
def srl (w t : Nat → Int64) : Nat := if asW w t 1 then 1 else if asW w t 2 then 2 else if asW w t 3 then 3 else if asW w t 4 then 4 else if asW w t 5 then 5 else if asW w t 6 then 6 else if asW w t 7 then 7 else 8
def gr8 (w t : Nat → Int64) : UInt64 := vA w t (pgR w t 8)
def nbz (x : UInt64) : UInt64 := if dgt x 0 then x else 0
def rab (x : UInt64) : UInt64 := if dlt x 4841369599423283200 then FP.dsub (FP.dadd x 4841369599423283200) 4841369599423283200 else x
def rte (x : UInt64) : UInt64 := if dlt x 0 then FP.dneg (rab (FP.dneg x)) else rab x
def cnt (w t : Nat → Int64) : UInt64 := if dgt (FP.dadd (nbz (gr8 w t)) (nbz (leR w t 8))) 0 then FP.ddiv (FP.dsub (nbz (gr8 w t)) (nbz (leR w t 8))) (FP.dadd (nbz (gr8 w t)) (nbz (leR w t 8))) else 0
def tnt (w t : Nat → Int64) (k : Nat) : UInt64 := if dgt (gr8 w t) 0 then rte (FP.ddiv (FP.dmul 4621819117588971520 (vA w t k)) (gr8 w t)) else 0
def adgR (w t : Nat → Int64) (d : Int64) : Nat → Int64
  | 0 => d
  | k + 1 => (adgR w t d k * 31 + w k) * 31 + t k
def adg (w t : Nat → Int64) (d : Int64) : Int64 := ((adgR w t d 8 * 31 + (nI (pgR w t 8)).toInt64) * 31 + (dkR w t 8).toInt64) * 31 + (nI (srl w t)).toInt64
