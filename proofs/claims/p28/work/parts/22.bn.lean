/-! the bench changed at one place -/
theorem ax_ne {f : Nat → va_E} {a b : Nat} {x y : va_E} (h1 : f a = x) (h2 : f b = y) (h : x ≠ y) : a ≠ b := fun q => h (by rw [← h1, ← h2, q])
theorem ax_lr {x : ClassId × vp_A} {y : Nat × List Value} : (Sum.inl x : va_E) ≠ Sum.inr y := fun h => by cases h
theorem ax_rl {x : ClassId × vp_A} {y : Nat × List Value} : (Sum.inr y : va_E) ≠ Sum.inl x := fun h => by cases h
theorem ax_13 {a b : List Value} : (Sum.inr (1, a) : va_E) ≠ Sum.inr (3, b) := fun h => by cases h
theorem ax_31 {a b : List Value} : (Sum.inr (3, a) : va_E) ≠ Sum.inr (1, b) := fun h => by cases h
theorem va_upS {α : Type} {P : Nat → α} {i : Nat} {q : α} : va_up P i q i = q := if_pos rfl
theorem va_upN {α : Type} {P : Nat → α} {i j : Nat} {q : α} (h : j ≠ i) : va_up P i q j = P j := if_neg h
section BN
variable {cI : ClassId} {L : List Nat} {f : Nat → va_E} {sA pA : Nat → Option Nat} {sd pd ed : Nat → Nat} {S : Nat → ST} {P : Nat → PT} {ns np : Nat}
theorem bn_up {i : Nat} {q : PT} (h : bn cI L f sA pA sd pd ed S P ns np) (hi : i < np) (hok : okP q) (hx : q.2.2.2.2.2 = (P i).2.2.2.2.2) : bn cI L (va_up f (pd i) (.inr (1, pfs q (ed i)))) sA pA sd pd ed S (va_up P i q) ns np := by
  obtain ⟨h1, h2, hS, hP, iS, iP, iE⟩ := h
  obtain ⟨o1, o2, o3, o4, o5, o6⟩ := hP i hi
  refine ⟨h1, h2, fun j hj => ?_, fun j hj => ?_, iS, iP, iE⟩
  · obtain ⟨a1, a2, a3, a4⟩ := hS j hj
    exact ⟨a1, a2, a3, ax_upN a4 (ax_ne a4 o5 ax_31)⟩
  · obtain ⟨a1, a2, a3, a4, a5, a6⟩ := hP j hj
    by_cases e : j = i
    · subst e
      rw [va_upS]
      refine ⟨hok, a2, a3, a4, ax_upS, ?_⟩
      rw [hx]
      exact ax_upN a6 (ax_ne a6 o5 ax_lr)
    · rw [va_upN e]
      exact ⟨a1, a2, a3, a4, ax_upN a5 (fun q9 => e (iP j i hj hi q9)), ax_upN a6 (ax_ne a6 o5 ax_lr)⟩
theorem bn_ex {i : Nat} {q : PT} (h : bn cI L f sA pA sd pd ed S P ns np) (hi : i < np) (hok : okP q) : bn cI L (va_up (va_up f (ed i) (.inl (cI, 8, .inl (nIf q.2.2.2.2.2)))) (pd i) (.inr (1, pfs q (ed i)))) sA pA sd pd ed S (va_up P i q) ns np := by
  obtain ⟨h1, h2, hS, hP, iS, iP, iE⟩ := h
  obtain ⟨o1, o2, o3, o4, o5, o6⟩ := hP i hi
  refine ⟨h1, h2, fun j hj => ?_, fun j hj => ?_, iS, iP, iE⟩
  · obtain ⟨a1, a2, a3, a4⟩ := hS j hj
    exact ⟨a1, a2, a3, ax_upN (ax_upN a4 (ax_ne a4 o6 ax_rl)) (ax_ne a4 o5 ax_31)⟩
  · obtain ⟨a1, a2, a3, a4, a5, a6⟩ := hP j hj
    by_cases e : j = i
    · subst e
      rw [va_upS]
      exact ⟨hok, a2, a3, a4, ax_upS, ax_upN ax_upS (ax_ne o6 o5 ax_lr)⟩
    · rw [va_upN e]
      refine ⟨a1, a2, a3, a4, ax_upN (ax_upN a5 (ax_ne a5 o6 ax_rl)) (fun q9 => e (iP j i hj hi q9)), ax_upN (ax_upN a6 (fun q9 => e (iE j i hj hi q9))) (ax_ne a6 o5 ax_lr)⟩
theorem bn_mv {i : Nat} {q : ST} (h : bn cI L f sA pA sd pd ed S P ns np) (hi : i < ns) (hok : okS q) : bn cI L (va_up f (sd i) (.inr (3, sfs q))) sA pA sd pd ed (va_up S i q) P ns np := by
  obtain ⟨h1, h2, hS, hP, iS, iP, iE⟩ := h
  obtain ⟨o1, o2, o3, o4⟩ := hS i hi
  refine ⟨h1, h2, fun j hj => ?_, fun j hj => ?_, iS, iP, iE⟩
  · obtain ⟨a1, a2, a3, a4⟩ := hS j hj
    by_cases e : j = i
    · subst e
      rw [va_upS]
      exact ⟨hok, a2, a3, ax_upS⟩
    · rw [va_upN e]
      exact ⟨a1, a2, a3, ax_upN a4 (fun q9 => e (iS j i hj hi q9))⟩
  · obtain ⟨a1, a2, a3, a4, a5, a6⟩ := hP j hj
    exact ⟨a1, a2, a3, a4, ax_upN a5 (ax_ne a5 o4 ax_13), ax_upN a6 (ax_ne a6 o4 ax_lr)⟩
theorem bn_addS {a : Nat} {q : ST} (h : bn cI L f sA pA sd pd ed S P ns np) (hn : ns < 3) (hok : okS q) (ha : a ∉ L) : bn cI (L ++ [a]) (va_up f a (.inr (3, sfs q))) (va_up sA ns (some a)) pA (va_up sd ns a) pd ed (va_up S ns q) P (ns + 1) np := by
  obtain ⟨h1, h2, hS, hP, iS, iP, iE⟩ := h
  have ne : ∀ {x : Nat}, x ∈ L → x ≠ a := fun hx e => ha (e ▸ hx)
  have inl : ∀ {x : Nat}, x ∈ L → x ∈ L ++ [a] := fun hx => List.mem_append_left _ hx
  refine ⟨by omega, h2, fun j hj => ?_, fun j hj => ?_, fun i j hi hj e => ?_, iP, iE⟩
  · by_cases e : j = ns
    · subst e
      rw [va_upS, va_upS, va_upS]
      exact ⟨hok, rfl, List.mem_append_right _ List.mem_cons_self, ax_upS⟩
    · obtain ⟨a1, a2, a3, a4⟩ := hS j (by omega)
      rw [va_upN e, va_upN e, va_upN e]
      exact ⟨a1, a2, inl a3, ax_upN a4 (ne a3)⟩
  · obtain ⟨a1, a2, a3, a4, a5, a6⟩ := hP j hj
    exact ⟨a1, a2, inl a3, inl a4, ax_upN a5 (ne a3), ax_upN a6 (ne a4)⟩
  · by_cases ei : i = ns <;> by_cases ej : j = ns
    · omega
    · exfalso
      subst ei
      rw [va_upS, va_upN ej] at e
      exact ne (hS j (by omega)).2.2.1 e.symm
    · exfalso
      subst ej
      rw [va_upS, va_upN ei] at e
      exact ne (hS i (by omega)).2.2.1 e
    · rw [va_upN ei, va_upN ej] at e
      exact iS i j (by omega) (by omega) e
theorem bn_addP {a b : Nat} {q : PT} (h : bn cI L f sA pA sd pd ed S P ns np) (hn : np < 8) (hok : okP q) (ha : a ∉ L) (hb : b ∉ L) (hab : a ≠ b) : bn cI (L ++ [a] ++ [b]) (va_up (va_up f a (.inr (1, pfs q b))) b (.inl (cI, 8, .inl (nIf q.2.2.2.2.2)))) sA (va_up pA np (some a)) sd (va_up pd np a) (va_up ed np b) S (va_up P np q) ns (np + 1) := by
  obtain ⟨h1, h2, hS, hP, iS, iP, iE⟩ := h
  have nea : ∀ {x : Nat}, x ∈ L → x ≠ a := fun hx e => ha (e ▸ hx)
  have neb : ∀ {x : Nat}, x ∈ L → x ≠ b := fun hx e => hb (e ▸ hx)
  have inl : ∀ {x : Nat}, x ∈ L → x ∈ L ++ [a] ++ [b] := fun hx => List.mem_append_left _ (List.mem_append_left _ hx)
  refine ⟨h1, by omega, fun j hj => ?_, fun j hj => ?_, iS, fun i j hi hj e => ?_, fun i j hi hj e => ?_⟩
  · obtain ⟨a1, a2, a3, a4⟩ := hS j hj
    exact ⟨a1, a2, inl a3, ax_upN (ax_upN a4 (nea a3)) (neb a3)⟩
  · by_cases e : j = np
    · subst e
      rw [va_upS, va_upS, va_upS, va_upS]
      exact ⟨hok, rfl, List.mem_append_left _ (List.mem_append_right _ List.mem_cons_self), List.mem_append_right _ List.mem_cons_self, ax_upN ax_upS hab, ax_upS⟩
    · obtain ⟨a1, a2, a3, a4, a5, a6⟩ := hP j (by omega)
      rw [va_upN e, va_upN e, va_upN e, va_upN e]
      exact ⟨a1, a2, inl a3, inl a4, ax_upN (ax_upN a5 (nea a3)) (neb a3), ax_upN (ax_upN a6 (nea a4)) (neb a4)⟩
  · by_cases ei : i = np <;> by_cases ej : j = np
    · omega
    · exfalso
      subst ei
      rw [va_upS, va_upN ej] at e
      exact nea (hP j (by omega)).2.2.1 e.symm
    · exfalso
      subst ej
      rw [va_upS, va_upN ei] at e
      exact nea (hP i (by omega)).2.2.1 e
    · rw [va_upN ei, va_upN ej] at e
      exact iP i j (by omega) (by omega) e
  · by_cases ei : i = np <;> by_cases ej : j = np
    · omega
    · exfalso
      subst ei
      rw [va_upS, va_upN ej] at e
      exact neb (hP j (by omega)).2.2.2.1 e.symm
    · exfalso
      subst ej
      rw [va_upS, va_upN ei] at e
      exact neb (hP i (by omega)).2.2.2.1 e
    · rw [va_upN ei, va_upN ej] at e
      exact iE i j (by omega) (by omega) e
end BN
