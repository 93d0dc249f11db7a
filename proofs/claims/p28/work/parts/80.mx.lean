/-! the law's own matrix of exposures beside the bench -/
def mxr (rr : Nat → Nat) : Nat → Option Nat := fun i => if i < 8 then some (rr i) else none
theorem mxr_at {rr : Nat → Nat} {i : Nat} (h : i < 8) : mxr rr i = some (rr i) := if_pos h
def mxI (cI : ClassId) (LP : List Nat) (f : Nat → va_E) (rr ed : Nat → Nat) (np : Nat) (X : Nat → Nat → Nat) : Prop :=
  (∀ i, i < 8 → rr i ∈ LP ∧ f (rr i) = .inl (cI, 8, .inl (nIf (X i)))) ∧ (∀ i j, i < 8 → j < 8 → rr i = rr j → i = j) ∧ ∀ i j, i < 8 → j < np → rr i ≠ ed j
section MX
variable {cI : ClassId} {LP : List Nat} {f : Nat → va_E} {rr ed : Nat → Nat} {np : Nat} {X : Nat → Nat → Nat} {sA pA : Nat → Option Nat} {sd pd : Nat → Nat} {S : Nat → ST} {P : Nat → PT} {ns : Nat}
theorem mx_push {a : Nat} {e : va_E} (h : mxI cI LP f rr ed np X) (ha : a ∉ LP) : mxI cI (LP ++ [a]) (va_up f a e) rr ed np X :=
  ⟨fun i hi => ⟨List.mem_append_left _ (h.1 i hi).1, ax_upN (h.1 i hi).2 (fun q => ha (q ▸ (h.1 i hi).1))⟩, h.2.1, h.2.2⟩
theorem mx_upR {a : Nat} {o : Nat × List Value} {e : va_E} (h : mxI cI LP f rr ed np X) (ha : f a = .inr o) : mxI cI LP (va_up f a e) rr ed np X :=
  ⟨fun i hi => ⟨(h.1 i hi).1, ax_upN (h.1 i hi).2 (ax_ne (h.1 i hi).2 ha ax_lr)⟩, h.2.1, h.2.2⟩
theorem mx_upE {j : Nat} {e : va_E} (h : mxI cI LP f rr ed np X) (hj : j < np) : mxI cI LP (va_up f (ed j) e) rr ed np X :=
  ⟨fun i hi => ⟨(h.1 i hi).1, ax_upN (h.1 i hi).2 (h.2.2 i j hi hj)⟩, h.2.1, h.2.2⟩
theorem mx_part {a b : Nat} {e1 e2 : va_E} (h : mxI cI LP f rr ed np X) (ha : a ∉ LP) (hb : b ∉ LP ++ [a]) : mxI cI (LP ++ [a] ++ [b]) (va_up (va_up f a e1) b e2) rr (va_up ed np b) (np + 1) X := by
  have h2 := mx_push (e := e2) (mx_push (e := e1) h ha) hb
  refine ⟨h2.1, h2.2.1, fun i j hi hj q => ?_⟩
  by_cases e : j = np
  · subst e
    rw [va_upS] at q
    exact hb (List.mem_append_left _ (q ▸ (h.1 i hi).1))
  · rw [va_upN e] at q
    exact h.2.2 i j hi (by omega) q
theorem mx_set {i : Nat} {v : Nat → Nat} (h : mxI cI LP f rr ed np X) (hi : i < 8) : mxI cI LP (va_up f (rr i) (.inl (cI, 8, .inl (nIf v)))) rr ed np (va_up X i v) := by
  refine ⟨fun j hj => ⟨(h.1 j hj).1, ?_⟩, h.2.1, h.2.2⟩
  by_cases e : j = i
  · subst e
    rw [va_upS, va_upS]
  · rw [va_upN e]
    exact ax_upN (h.1 j hj).2 (fun q => e (h.2.1 j i hj hi q))
theorem bn_other {i : Nat} {e : va_E} (hb : bn cI LP f sA pA sd pd ed S P ns np) (h : mxI cI LP f rr ed np X) (hi : i < 8) : bn cI LP (va_up f (rr i) e) sA pA sd pd ed S P ns np := by
  obtain ⟨h1, h2, hS, hP, iS, iP, iE⟩ := hb
  refine ⟨h1, h2, fun j hj => ?_, fun j hj => ?_, iS, iP, iE⟩
  · obtain ⟨a1, a2, a3, a4⟩ := hS j hj
    exact ⟨a1, a2, a3, ax_upN a4 (ax_ne a4 (h.1 i hi).2 ax_rl)⟩
  · obtain ⟨a1, a2, a3, a4, a5, a6⟩ := hP j hj
    exact ⟨a1, a2, a3, a4, ax_upN a5 (ax_ne a5 (h.1 i hi).2 ax_rl), ax_upN a6 (fun q => h.2.2 i j hi hj q.symm)⟩
theorem mx_X {i k : Nat} {x : Nat} (h : ∀ i, i < np → ∀ j, j < 8 → X i j ≤ (P i).2.2.2.2.2 j) (hx : x ≤ (P i).2.2.2.2.2 k) : ∀ i', i' < np → ∀ j, j < 8 → va_up X i (va_up (X i) k x) i' j ≤ (P i').2.2.2.2.2 j := fun i' hi' j hj => by
  by_cases e : i' = i
  · subst e
    rw [va_upS]
    by_cases e2 : j = k
    · subst e2
      rw [va_upS]
      exact hx
    · rw [va_upN e2]
      exact h i' hi' j hj
  · rw [va_upN e]
    exact h i' hi' j hj
theorem mx_0 {i : Nat} {v : Nat → Nat} (h : ∀ i, np ≤ i → ∀ j, j < 8 → X i j = 0) (hi : i < np) : ∀ i', np ≤ i' → ∀ j, j < 8 → va_up X i v i' j = 0 := fun i' hi' j hj => by
  rw [va_upN (show i' ≠ i by omega)]
  exact h i' hi' j hj
theorem cex_far {q : PT} {i : Nat} : ∀ n, n ≤ i → cexR (va_up P i q) n = cexR P n
  | 0, _ => rfl
  | n + 1, h => by
    show cexR (va_up P i q) n + (va_up P i q n).2.2.2.2.1 = cexR P n + _
    rw [cex_far n (by omega), va_upN (show n ≠ i by omega)]
theorem cex_up {q : PT} {i d : Nat} (hq : q.2.2.2.2.1 = (P i).2.2.2.2.1 + d) : ∀ n, i < n → cexR (va_up P i q) n = cexR P n + d
  | 0, h => absurd h (Nat.not_lt_zero _)
  | n + 1, h => by
    show cexR (va_up P i q) n + (va_up P i q n).2.2.2.2.1 = cexR P n + (P n).2.2.2.2.1 + d
    by_cases e : i = n
    · subst e
      rw [cex_far i (Nat.le_refl _), va_upS, hq]
      omega
    · rw [cex_up hq n (by omega), va_upN (show n ≠ i by omega)]
      omega
theorem tm_up {q : PT} {i r : Nat} (h : ∀ i, i < np → (P i).2.2.2.2.1 ≤ r) (hq : q.2.2.2.2.1 ≤ r + 1) : ∀ j, j < np → (va_up P i q j).2.2.2.2.1 ≤ r + 1 := fun j hj => by
  by_cases e : j = i
  · subst e; rw [va_upS]; exact hq
  · rw [va_upN e]; have := h j hj; omega
theorem tm_1 {r : Nat} (h : ∀ i, i < np → (P i).2.2.2.2.1 ≤ r) : ∀ j, j < np → (P j).2.2.2.2.1 ≤ r + 1 := fun j hj => by have := h j hj; omega
theorem tm_add {q : PT} {r : Nat} (h : ∀ i, i < np → (P i).2.2.2.2.1 ≤ r) (hq : q.2.2.2.2.1 = 0) : ∀ j, j < np + 1 → (va_up P np q j).2.2.2.2.1 ≤ r + 1 := fun j hj => by
  by_cases e : j = np
  · subst e; rw [va_upS, hq]; omega
  · rw [va_upN e]; have := h j (by omega); omega
theorem xx_up {q : PT} {i : Nat} (h : ∀ i, i < np → ∀ j, j < 8 → X i j ≤ (P i).2.2.2.2.2 j) (hq : ∀ j, j < 8 → (P i).2.2.2.2.2 j ≤ q.2.2.2.2.2 j) : ∀ i', i' < np → ∀ j, j < 8 → X i' j ≤ (va_up P i q i').2.2.2.2.2 j := fun i' hi' j hj => by
  by_cases e : i' = i
  · subst e; rw [va_upS]; exact Nat.le_trans (h i' hi' j hj) (hq j hj)
  · rw [va_upN e]; exact h i' hi' j hj
theorem xx_add {q : PT} (h : ∀ i, i < np → ∀ j, j < 8 → X i j ≤ (P i).2.2.2.2.2 j) (h0 : ∀ i, np ≤ i → ∀ j, j < 8 → X i j = 0) : ∀ i', i' < np + 1 → ∀ j, j < 8 → X i' j ≤ (va_up P np q i').2.2.2.2.2 j := fun i' hi' j hj => by
  by_cases e : i' = np
  · subst e; rw [h0 i' (Nat.le_refl _) j hj]; exact Nat.zero_le _
  · rw [va_upN e]; exact h i' (by omega) j hj
theorem dk_ge {x : Nat → Nat} {w : Nat → Int64} {dv : Nat} (hx : ∀ j, j < 8 → x j ≤ 9) : ∀ j, j < 8 → x j ≤ dkx x w dv 8 j := fun j hj => by
  unfold dkx
  rw [if_pos hj]
  have := hx j hj
  generalize (w j).toInt.toNat / dv = y
  omega
theorem okS_new {p0 p1 p2 : Nat} (h0 : p0 < 8) (h1 : p1 < 8) (h2 : 1 ≤ p2) (h3 : p2 ≤ 9) : okS (p0, p1, p2) := ⟨h0, h1, h2, h3⟩
theorem okP_new {k n : Nat} (hk : k < 11) (hl : loN k ≤ n) (hh : n ≤ hiN k) : okP (k, n, 1, 0, 0, fun _ => 0) := ⟨hk, hl, hh, (by show 1 < 2; decide), (by show 0 < 256; decide), (by show 0 < 1000; decide), fun _ _ => Nat.zero_le _, fun _ _ _ => rfl⟩
end MX
section AXA
variable {p : Program} {l : Launch} {e : Env} {R : Room} {s : State} {m : MethodId} {args : Array Value} {below : List Frame} {meth : Method} {c : Code} {H : Heap} {locs : List Loc} {cells slots : Nat} {Q : State → Prop}
variable {cc : ByteArray} {pc : Nat} {ls : Array Slot} {rest : List Value} {D : va_G} {cl : List vw_C} {a : Nat} {tys : List (ClassId × FieldType)} {ws : va_W}
theorem va_aldqA (hexec : p.tables.exec = Jvm.exec) (hb : c.code = cc) (hK : va_K D cl tys s) (hP : va_P D cl ws H) (q0 t0 : Nat) {cA : ClassId} {ty : FieldType} {n : Nat} {f : Nat → Option Nat} (ha : ws[q0]? = some (a, .inl (cA, n, .inr (.inr (.inr (.inr f)))))) (ht : tys[t0]? = some (cA, .array ty)) {i : Int32} (hin : vp_in i n) (hdg : decode cc pc = .ok (.aaload, 1))
    (kk : W p l e R s m args below meth c H locs cells slots Q (F0 m (pc + 1) ls (va_rf (f i.toNatClampNeg) :: rest))) : W p l e R s m args below meth c H locs cells slots Q (F0 m pc ls (.int i :: .ref a :: rest)) := by
  have hlt : i.toNatClampNeg < n := Nat.not_le.mp fun q => hin (Or.inr q)
  exact W.aald (v := va_rf (f i.toNatClampNeg)) (ty := .array ty) hexec hb (hP q0 _ ha) ((hK.2 t0 _ ht).1 n (fun j => va_rf (f j))) rfl (fun q => by cases q) (by show ¬ (i < 0 ∨ (arrV _ _ _).slots.size ≤ _); rw [arrV_size]; exact hin) (by show (arrV _ _ _).slots[_]? = _; rw [arrV_read _ _ hlt]) rfl rfl hdg kk
end AXA
section AXLR
variable {p : Program} {l : Launch} {e : Env} {R : Room} {s : State} {m : MethodId} {args : Array Value} {below : List Frame} {meth : Method} {c : Code} {Q : State → Prop} {pc : Nat}
/-- a loop whose rounds make cells -/
theorem ax_loopR {σ : Type} (I : Nat → σ → Heap → List Loc → Array Slot → Prop) (cf sf : Nat → Nat) (N : Nat)
    (step : ∀ (r : Nat) (x : σ) (H : Heap) (locs : List Loc) (ls : Array Slot), r < N → I r x H locs ls → (∀ (y : σ) (H' : Heap) (locs' : List Loc) (ls' : Array Slot), I (r + 1) y H' locs' ls' → W p l e R s m args below meth c H' locs' (cf (r + 1)) (sf (r + 1)) Q (F0 m pc ls' [])) → W p l e R s m args below meth c H locs (cf r) (sf r) Q (F0 m pc ls []))
    (last : ∀ (x : σ) (H : Heap) (locs : List Loc) (ls : Array Slot), I N x H locs ls → W p l e R s m args below meth c H locs (cf N) (sf N) Q (F0 m pc ls []))
    (x0 : σ) {H : Heap} {locs : List Loc} {ls : Array Slot} (h0 : I 0 x0 H locs ls) : W p l e R s m args below meth c H locs (cf 0) (sf 0) Q (F0 m pc ls []) := by
  have h : ∀ (d r : Nat) (x : σ) (H : Heap) (locs : List Loc) (ls : Array Slot), d + r = N → I r x H locs ls → W p l e R s m args below meth c H locs (cf r) (sf r) Q (F0 m pc ls []) := by
    intro d
    induction d with
    | zero =>
      intro r x H locs ls hd hI
      have e : r = N := by omega
      subst e
      exact last x H locs ls hI
    | succ d ih =>
      intro r x H locs ls hd hI
      exact step r x H locs ls (by omega) hI (fun y H' locs' ls' hI' => ih (r + 1) y H' locs' ls' (by omega) hI')
  exact h N 0 x0 H locs ls (by omega) h0
end AXLR
theorem mxN {n : Nat} (h : n < 2 ^ 31) : (if (1 : Int32) < nI n then nI n else 1) = nI (if n = 0 then 1 else n) := by
  by_cases h0 : n = 0
  · subst h0; decide
  · rw [if_neg h0]
    by_cases h1 : n = 1
    · subst h1; decide
    · rw [if_pos]
      exact nI_lt (a := 1) (by omega) h
