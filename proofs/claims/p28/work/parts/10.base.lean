/-! what a method needs beside its words: nest links, the statics; worlds; loops; numbers -/
def ax_tab0 : Nat → Value := fun k => .int (nI (([0, 0, 0, 0, 0, 0, 1, 0, 0, 0, 0] : List Nat).getD k 0))
def ax_tab1 : Nat → Value := fun k => .int (nI (([255, 16777215, 0, 0, 7, 0, 3, 0, 7, 0, 3] : List Nat).getD k 0))
def loN (k : Nat) : Nat := ([0, 0, 0, 0, 0, 0, 1, 0, 0, 0, 0] : List Nat).getD k 0
def hiN (k : Nat) : Nat := ([255, 16777215, 0, 0, 7, 0, 3, 0, 7, 0, 3] : List Nat).getD k 0
def ax_S (ta : Nat → Nat) (A : Nat → Prop) (U : State) (H : Heap) : Prop :=
  va_Nw (.methodLinkNest RX4 23 yX0_init RX4) U ∧
  va_Nw (.methodLinkNest RX4 30 yX2_init RX4) U ∧
  va_Z "Diffractory" "LEAST_NUMBER" "[I" (.ref (ta 0)) A U H ∧
  va_T .int (ta 0) 11 ax_tab0 A U H ∧
  va_Z "Diffractory" "MOST_NUMBER" "[I" (.ref (ta 1)) A U H ∧
  va_T .int (ta 1) 11 ax_tab1 A U H ∧
  va_AO "Diffractory$Source" U ∧
  va_AO "Diffractory$Part" U
theorem ax_S.go {ta : Nat → Nat} {A B : Nat → Prop} {s U : State} {H : Heap} {locs : List Loc} (hS : va_S A s.heap H locs) (hH : U.heap = H) (hW : s.WarmedH U.vm) (hAB : ∀ q, B q → A q) (h : ax_S ta A s s.heap) : ax_S ta B U U.heap := by
  obtain ⟨h100, h101, h102, h103, h104, h105, h106, h107⟩ := h
  have hk : ∀ a : Nat, a < s.heap.size → ¬ A a → U.heap[a]? = s.heap[a]? := fun a x y => by rw [hH]; exact hS.2.1 a x y
  have hv := hW.alike
  exact ⟨va_Nw.warmM hW h100, va_Nw.warmM hW h101, va_Z.moved hv (va_Z.narrow ((h102).kept hk) hAB), va_T.moved hv (va_T.narrow ((h103).kept hk) hAB), va_Z.moved hv (va_Z.narrow ((h104).kept hk) hAB), va_T.moved hv (va_T.narrow ((h105).kept hk) hAB), va_AO.moved hv h106, va_AO.moved hv h107⟩
theorem ax_S.call {ta : Nat → Nat} {A : Nat → Prop} {U : State} {g : JFrame} {mk : MethodId} {a : Array Value} (h : ax_S ta A U U.heap) : ax_S ta A (U.calling g mk a) (U.calling g mk a).heap := by
  refine ax_S.go (s := U) (H := U.heap) (locs := []) va_S.rf rfl ?_ (fun _ h => h) h
  exact State.WarmedH.refl U
theorem ax_S.n0 {ta : Nat → Nat} {A : Nat → Prop} {U : State} {H : Heap} (h : ax_S ta A U H) : va_Nw (.methodLinkNest RX4 23 yX0_init RX4) U := h.1
theorem ax_S.n1 {ta : Nat → Nat} {A : Nat → Prop} {U : State} {H : Heap} (h : ax_S ta A U H) : va_Nw (.methodLinkNest RX4 30 yX2_init RX4) U := h.2.1
theorem ax_S.z0 {ta : Nat → Nat} {A : Nat → Prop} {U : State} {H : Heap} (h : ax_S ta A U H) : va_Z "Diffractory" "LEAST_NUMBER" "[I" (.ref (ta 0)) A U H := h.2.2.1
theorem ax_S.t0 {ta : Nat → Nat} {A : Nat → Prop} {U : State} {H : Heap} (h : ax_S ta A U H) : va_T .int (ta 0) 11 ax_tab0 A U H := h.2.2.2.1
theorem ax_S.z1 {ta : Nat → Nat} {A : Nat → Prop} {U : State} {H : Heap} (h : ax_S ta A U H) : va_Z "Diffractory" "MOST_NUMBER" "[I" (.ref (ta 1)) A U H := h.2.2.2.2.1
theorem ax_S.t1 {ta : Nat → Nat} {A : Nat → Prop} {U : State} {H : Heap} (h : ax_S ta A U H) : va_T .int (ta 1) 11 ax_tab1 A U H := h.2.2.2.2.2.1
theorem ax_S.a0 {ta : Nat → Nat} {A : Nat → Prop} {U : State} {H : Heap} (h : ax_S ta A U H) : va_AO "Diffractory$Source" U := h.2.2.2.2.2.2.1
theorem ax_S.a1 {ta : Nat → Nat} {A : Nat → Prop} {U : State} {H : Heap} (h : ax_S ta A U H) : va_AO "Diffractory$Part" U := h.2.2.2.2.2.2.2
/-! worlds kept, contracts' starts -/
theorem ax_keep {D : va_G} {cl : List vw_C} {ws : va_W} {H H1 : Heap} {A : Nat → Prop} (hP : va_P D cl ws H) (hA : ∀ q, ¬ A q) (hk : ∀ q : Nat, q < H.size → ¬ A q → H1[q]? = H[q]?) : va_P D cl ws H1 := by
  have hF : ∀ q : Nat, q < H.size → ¬ va_A ([] : va_W) H.size q → H1[q]? = H[q]? := fun q h1 _ => hk q h1 (hA q)
  intro k q hq
  have h0 := hP k q hq
  have hlt : q.1 < H.size := h0.lt
  have e : H1[q.1]? = H[q.1]? := hk q.1 hlt (hA q.1)
  unfold va_at at h0 ⊢
  cases hc : q.2 with
  | inl a =>
    rw [hc] at h0
    simp only at h0 ⊢
    rw [e]
    exact h0
  | inr o =>
    rw [hc] at h0
    simp only at h0 ⊢
    obtain ⟨r, hr, ho⟩ := h0
    exact ⟨r, hr, ho.kept e⟩
abbrev ax_no : Nat → Prop := fun _ => False
abbrev ax_R (D : va_G) (cl : List vw_C) (ws : va_W) (tys : List (ClassId × FieldType)) (ta : Nat → Nat) : State → Prop := fun U => va_P D cl ws U.heap ∧ va_K D cl tys U ∧ ax_S ta ax_no U U.heap
abbrev ax_W (D : va_G) (cl : List vw_C) (ws : va_W) (tys : List (ClassId × FieldType)) (ta : Nat → Nat) (sz : Nat) : State → Prop := fun U => U.heap.size = sz ∧ va_P D cl ws U.heap ∧ va_K D cl tys U ∧ va_D (fun _ => True) ws ∧ ax_S ta (va_A ws sz) U U.heap
theorem ax_fbP {av : List Value} : FrameBlind (va_Pc av (fun _ => True)) := fun _ _ _ _ q => q
theorem ax_fbR {D : va_G} {cl : List vw_C} {ws : va_W} {tys : List (ClassId × FieldType)} {ta : Nat → Nat} {av : List Value} : FrameBlind (va_Pc av (ax_R D cl ws tys ta)) := fun a U g mk q => ⟨q.1, q.2.1, va_K.moved (u := U) (U := U.calling g mk a) (Vm.Alike.refl U.vm) q.2.2.1, q.2.2.2.call⟩
theorem ax_fbW {D : va_G} {cl : List vw_C} {ws : va_W} {tys : List (ClassId × FieldType)} {ta : Nat → Nat} {sz : Nat} {av : List Value} : FrameBlind (va_Pc av (ax_W D cl ws tys ta sz)) := fun a U g mk q => ⟨q.1, q.2.1, q.2.2.1, va_K.moved (u := U) (U := U.calling g mk a) (Vm.Alike.refl U.vm) q.2.2.2.1, q.2.2.2.2.1, q.2.2.2.2.2.call⟩
theorem ax_prP {s : State} {H : Heap} {av : List Value} : ∀ U : State, U.heap = H → s.WarmedH U.vm → va_Pc av (fun _ => True) av.toArray U := fun _ _ _ => ⟨rfl, trivial⟩
theorem ax_prR {D : va_G} {cl : List vw_C} {ws : va_W} {tys : List (ClassId × FieldType)} {ta : Nat → Nat} {s : State} {H : Heap} {locs : List Loc} {A : Nat → Prop} {av : List Value} (hP : va_P D cl ws H) (hK : va_K D cl tys s) (hS : va_S A s.heap H locs) (hE : ax_S ta A s s.heap) : ∀ U : State, U.heap = H → s.WarmedH U.vm → va_Pc av (ax_R D cl ws tys ta) av.toArray U := fun U hU hW => ⟨rfl, by rw [hU]; exact hP, va_K.moved hW.alike hK, ax_S.go hS hU hW (fun _ h => h.elim) hE⟩
theorem ax_prW {D : va_G} {cl : List vw_C} {ws : va_W} {tys : List (ClassId × FieldType)} {ta : Nat → Nat} {s : State} {H : Heap} {locs : List Loc} {A B : Nat → Prop} {av : List Value} (hP : va_P D cl ws H) (hK : va_K D cl tys s) (hD : va_D B ws) (hS : va_S A s.heap H locs) (hF : ∀ q, va_A ws H.size q → A q) (hE : ax_S ta A s s.heap) : ∀ U : State, U.heap = H → s.WarmedH U.vm → va_Pc av (ax_W D cl ws tys ta H.size) av.toArray U := fun U hU hW => ⟨rfl, by rw [hU], by rw [hU]; exact hP, va_K.moved hW.alike hK, hD.weaken (fun _ _ _ _ => trivial), ax_S.go hS hU hW hF hE⟩
section AXR
variable {p : Program} {l : Launch} {e : Env} {R : Room} {s : State} {m : MethodId} {args : Array Value} {below : List Frame} {meth : Method} {c : Code} {H : Heap} {locs : List Loc} {cells slots : Nat} {Q : State → Prop} {pc : Nat} {ls : Array Slot} {rest : List Value}
theorem ax_i {x y : Int32} (h : x = y) (k : W p l e R s m args below meth c H locs cells slots Q (F0 m pc ls (.int y :: rest))) : W p l e R s m args below meth c H locs cells slots Q (F0 m pc ls (.int x :: rest)) := by subst h; exact k
theorem ax_l {x y : Int64} (h : x = y) (k : W p l e R s m args below meth c H locs cells slots Q (F0 m pc ls (.long y :: rest))) : W p l e R s m args below meth c H locs cells slots Q (F0 m pc ls (.long x :: rest)) := by subst h; exact k
theorem ax_d {x y : UInt64} (h : x = y) (k : W p l e R s m args below meth c H locs cells slots Q (F0 m pc ls (.double y :: rest))) : W p l e R s m args below meth c H locs cells slots Q (F0 m pc ls (.double x :: rest)) := by subst h; exact k
end AXR

section AXL
variable {p : Program} {l : Launch} {e : Env} {R : Room} {s : State} {m : MethodId} {args : Array Value} {below : List Frame} {meth : Method} {c : Code} {cells slots : Nat} {Q : State → Prop} {pc : Nat}
/-- a loop by its invariant and a measure -/
theorem ax_loop {σ : Type} (I : σ → Heap → List Loc → Array Slot → Prop) (μ : σ → Nat)
    (step : ∀ (x : σ) (H : Heap) (locs : List Loc) (ls : Array Slot), I x H locs ls → (∀ (y : σ) (H' : Heap) (locs' : List Loc) (ls' : Array Slot), I y H' locs' ls' → μ y < μ x → W p l e R s m args below meth c H' locs' cells slots Q (F0 m pc ls' [])) → W p l e R s m args below meth c H locs cells slots Q (F0 m pc ls []))
    (x0 : σ) {H : Heap} {locs : List Loc} {ls : Array Slot} (h0 : I x0 H locs ls) : W p l e R s m args below meth c H locs cells slots Q (F0 m pc ls []) := by
  have h : ∀ (d : Nat) (x : σ) (H : Heap) (locs : List Loc) (ls : Array Slot), μ x < d → I x H locs ls → W p l e R s m args below meth c H locs cells slots Q (F0 m pc ls []) := by
    intro d
    induction d with
    | zero => intro x H locs ls h; exact absurd h (Nat.not_lt_zero _)
    | succ d ih =>
      intro x H locs ls hd hI
      exact step x H locs ls hI (fun y H' locs' ls' hI' hμ => ih y H' locs' ls' (by omega) hI')
  exact h (μ x0 + 1) x0 H locs ls (Nat.lt_succ_self _) h0
/-- a place that several roads come to -/
theorem ax_cut {σ : Type} {g : JFrame} {H0 : Heap} {locs0 : List Loc} {cells0 slots0 : Nat} (I : σ → Heap → List Loc → Array Slot → Prop)
    (tail : ∀ (x : σ) (H : Heap) (locs : List Loc) (ls : Array Slot), I x H locs ls → W p l e R s m args below meth c H locs cells slots Q (F0 m pc ls []))
    (main : (∀ (x : σ) (H : Heap) (locs : List Loc) (ls : Array Slot), I x H locs ls → W p l e R s m args below meth c H locs cells slots Q (F0 m pc ls [])) → W p l e R s m args below meth c H0 locs0 cells0 slots0 Q g) : W p l e R s m args below meth c H0 locs0 cells0 slots0 Q g := main tail
end AXL
/-! cells of the pool -/
theorem ax_pg {X : va_W} {L : List Nat} {f : Nat → va_E} {a : Nat} {e : va_E} (h : a ∈ L) (he : f a = e) : ∃ k : Nat, (X ++ va_pl L f)[k]? = some (a, e) := by
  obtain ⟨k, hk⟩ := va_pl_get (X := X) (f := f) h
  exact ⟨k, by rw [← he]; exact hk⟩
theorem ax_ps {A : Nat → Prop} {X : va_W} {L : List Nat} {f : Nat → va_E} {a k : Nat} {e e0 : va_E} (hD : va_D A (X ++ va_pl L f)) (h : a ∈ L) (he : f a = e0) (hk : (X ++ va_pl L f)[k]? = some (a, e0)) : (X ++ va_pl L f).set k (a, e) = X ++ va_pl L (va_up f a e) := by
  subst he
  exact va_pl_set hD h hk
theorem ax_upup {f : Nat → va_E} {a : Nat} {e1 e : va_E} : va_up (va_up f a e1) a e = va_up f a e := by
  funext j
  unfold va_up
  split <;> rfl
theorem ax_ps2 {A : Nat → Prop} {X : va_W} {L : List Nat} {f : Nat → va_E} {a k : Nat} {e e0 e1 : va_E} (hD : va_D A (X ++ va_pl L (va_up f a e1))) (h : a ∈ L) (he : va_up f a e1 a = e0) (hk : (X ++ va_pl L (va_up f a e1))[k]? = some (a, e0)) : (X ++ va_pl L (va_up f a e1)).set k (a, e) = X ++ va_pl L (va_up f a e) := by
  rw [ax_ps hD h he hk, ax_upup]
theorem ax_upS {f : Nat → va_E} {a : Nat} {e : va_E} : va_up f a e a = e := if_pos rfl
theorem ax_upN {f : Nat → va_E} {a b : Nat} {e v : va_E} (h : f b = v) (hne : b ≠ a) : va_up f a e b = v := (if_neg hne).trans h
theorem ax_upid {f : Nat → va_E} {a : Nat} {e : va_E} (h : f a = e) : va_up f a e = f := by
  funext j
  unfold va_up
  split
  · rename_i q; rw [q, h]
  · rfl
/-! arrays of one type have one class -/
theorem ax_uqL {D : va_G} {cl : List vw_C} {tys : List (ClassId × FieldType)} {U : State} (h : va_K D cl tys U) (i j : Nat) {a b : ClassId} (hi : tys[i]? = some (a, .long)) (hj : tys[j]? = some (b, .long)) : a = b := Option.some.inj ((h.2 i _ hi).2.symm.trans (h.2 j _ hj).2)
theorem ax_uqI {D : va_G} {cl : List vw_C} {tys : List (ClassId × FieldType)} {U : State} (h : va_K D cl tys U) (i j : Nat) {a b : ClassId} (hi : tys[i]? = some (a, .int)) (hj : tys[j]? = some (b, .int)) : a = b := Option.some.inj ((h.2 i _ hi).2.symm.trans (h.2 j _ hj).2)
/-! an array's contents said otherwise -/
theorem ax_arrV (c : ClassId) (n : Nat) {f g : Nat → Value} (h : ∀ j, j < n → f j = g j) : arrV c n f = arrV c n g := by
  unfold arrV
  congr 2
  funext j
  exact h j.val j.isLt
theorem ax_set {D : va_G} {cl : List vw_C} {ws : va_W} {H : Heap} {k a : Nat} {e0 e : va_E} (hk : ws[k]? = some (a, e0)) (he : va_at D cl (a, e0) H → va_at D cl (a, e) H) (h : va_P D cl ws H) : va_P D cl (ws.set k (a, e)) H := by
  intro i q hq
  by_cases hi : k = i
  · subst hi
    rw [List.getElem?_set_self (List.getElem?_eq_some_iff.mp hk).1] at hq
    cases hq
    exact he (h k _ hk)
  · rw [List.getElem?_set_ne hi] at hq
    exact h i q hq
theorem ax_arL {D : va_G} {cl : List vw_C} {ws : va_W} {H : Heap} (k : Nat) {a n : Nat} {c : ClassId} {f : Nat → Int64} (g : Nat → Int64) (hk : ws[k]? = some (a, .inl (c, n, .inr (.inl f)))) (hg : ∀ j, j < n → f j = g j) (h : va_P D cl ws H) : va_P D cl (ws.set k (a, .inl (c, n, .inr (.inl g)))) H := by
  refine ax_set hk (fun q => ?_) h
  show H[a]? = some (vp_cell c (n, .inr (.inl g)))
  have q1 : H[a]? = some (vp_cell c (n, .inr (.inl f))) := q
  rw [q1, vp_cell_l, vp_cell_l, ax_arrV c n (fun j hj => by rw [hg j hj])]
theorem ax_arI {D : va_G} {cl : List vw_C} {ws : va_W} {H : Heap} (k : Nat) {a n : Nat} {c : ClassId} {f : Nat → Int32} (g : Nat → Int32) (hk : ws[k]? = some (a, .inl (c, n, .inl f))) (hg : ∀ j, j < n → f j = g j) (h : va_P D cl ws H) : va_P D cl (ws.set k (a, .inl (c, n, .inl g))) H := by
  refine ax_set hk (fun q => ?_) h
  show H[a]? = some (vp_cell c (n, .inl g))
  have q1 : H[a]? = some (vp_cell c (n, .inl f)) := q
  rw [q1, vp_cell_i, vp_cell_i, ax_arrV c n (fun j hj => by rw [hg j hj])]
/-! numbers -/
theorem ax_lt (a b : Int32) : a < b ↔ a.toInt < b.toInt := Int32.lt_iff_toInt_lt
theorem ax_le (a b : Int32) : a ≤ b ↔ a.toInt ≤ b.toInt := Int32.le_iff_toInt_le
theorem ax_eq (a b : Int32) : a = b ↔ a.toInt = b.toInt := ⟨fun h => by rw [h], fun h => Int32.toInt_inj.mp h⟩
theorem ax_fltT {x y : Int32} (h : x < y) : x.toInt < y.toInt := (ax_lt _ _).mp h
theorem ax_fltF {x y : Int32} (h : ¬ x < y) : ¬ x.toInt < y.toInt := fun q => h ((ax_lt _ _).mpr q)
theorem ax_fgeT {x y : Int32} (h : y ≤ x) : ¬ x.toInt < y.toInt := by have := (ax_le _ _).mp h; omega
theorem ax_fgeF {x y : Int32} (h : ¬ y ≤ x) : x.toInt < y.toInt := by
  have : ¬ y.toInt ≤ x.toInt := fun q => h ((ax_le _ _).mpr q)
  omega
theorem ax_fgtT {x y : Int32} (h : y < x) : y.toInt < x.toInt := (ax_lt _ _).mp h
theorem ax_fgtF {x y : Int32} (h : ¬ y < x) : ¬ y.toInt < x.toInt := fun q => h ((ax_lt _ _).mpr q)
theorem ax_fleT {x y : Int32} (h : x ≤ y) : ¬ y.toInt < x.toInt := by have := (ax_le _ _).mp h; omega
theorem ax_fleF {x y : Int32} (h : ¬ x ≤ y) : y.toInt < x.toInt := by
  have : ¬ x.toInt ≤ y.toInt := fun q => h ((ax_le _ _).mpr q)
  omega
theorem ax_feqT {x y : Int32} (h : x = y) : x.toInt = y.toInt := by rw [h]
theorem ax_feqF {x y : Int32} (h : ¬ x = y) : ¬ x.toInt = y.toInt := fun q => h ((ax_eq _ _).mpr q)
theorem ax_fneT {x y : Int32} (h : ¬ x = y) : ¬ x.toInt = y.toInt := ax_feqF h
theorem ax_fneF {x y : Int32} (h : x = y) : x.toInt = y.toInt := by rw [h]
theorem ax_fltTN {a b : Nat} (ha : a < 2 ^ 31) (hb : b < 2 ^ 31) (h : nI a < nI b) : a < b := by have := ax_fltT h; rw [nI_toInt ha, nI_toInt hb] at this; omega
theorem ax_fltFN {a b : Nat} (ha : a < 2 ^ 31) (hb : b < 2 ^ 31) (h : ¬ nI a < nI b) : ¬ a < b := by have := ax_fltF h; rw [nI_toInt ha, nI_toInt hb] at this; omega
theorem ax_fgeTN {a b : Nat} (ha : a < 2 ^ 31) (hb : b < 2 ^ 31) (h : nI b ≤ nI a) : ¬ a < b := by have := ax_fgeT h; rw [nI_toInt ha, nI_toInt hb] at this; omega
theorem ax_fgeFN {a b : Nat} (ha : a < 2 ^ 31) (hb : b < 2 ^ 31) (h : ¬ nI b ≤ nI a) : a < b := by have := ax_fgeF h; rw [nI_toInt ha, nI_toInt hb] at this; omega
theorem ax_fgtTN {a b : Nat} (ha : a < 2 ^ 31) (hb : b < 2 ^ 31) (h : nI b < nI a) : b < a := ax_fltTN hb ha h
theorem ax_fgtFN {a b : Nat} (ha : a < 2 ^ 31) (hb : b < 2 ^ 31) (h : ¬ nI b < nI a) : ¬ b < a := ax_fltFN hb ha h
theorem ax_fleTN {a b : Nat} (ha : a < 2 ^ 31) (hb : b < 2 ^ 31) (h : nI a ≤ nI b) : ¬ b < a := ax_fgeTN hb ha h
theorem ax_fleFN {a b : Nat} (ha : a < 2 ^ 31) (hb : b < 2 ^ 31) (h : ¬ nI a ≤ nI b) : b < a := ax_fgeFN hb ha h
theorem ax_feqTN {a b : Nat} (ha : a < 2 ^ 31) (hb : b < 2 ^ 31) (h : nI a = nI b) : a = b := by have := ax_feqT h; rw [nI_toInt ha, nI_toInt hb] at this; omega
theorem ax_feqFN {a b : Nat} (_ : a < 2 ^ 31) (_ : b < 2 ^ 31) (h : ¬ nI a = nI b) : ¬ a = b := fun q => h (by rw [q])
theorem ax_fneTN {a b : Nat} (_ : a < 2 ^ 31) (_ : b < 2 ^ 31) (h : ¬ nI a = nI b) : ¬ a = b := fun q => h (by rw [q])
theorem ax_fneFN {a b : Nat} (ha : a < 2 ^ 31) (hb : b < 2 ^ 31) (h : nI a = nI b) : a = b := ax_feqTN ha hb h
theorem ax_addN (a b : Nat) : nI a + nI b = nI (a + b) := (Int32.ofNat_add a b).symm
theorem ax_in {c N : Nat} (h : c < N) (hN : N < 2 ^ 31) : vp_in (nI c) N := nI_in h hN
theorem ax_sm : ∀ k, k < 32 → ((nI k &&& 31).toBitVec.smod 32).toNat = k := by decide +kernel
theorem ax_shr {n k : Nat} (hn : n < 2 ^ 31) (hk : k < 32) : nI n >>> (nI k &&& 31) = nI (n / 2 ^ k) := pk_shrN hn _ k (ax_sm k hk)
/-- a test's answer -/
abbrev ax_bo (r : Int32) (P : Prop) : Prop := (r = 1 ∧ P) ∨ (r = 0 ∧ ¬ P)
/-! longs compared -/
theorem ax_lc0 {a b : Int64} : lg_cmp a b = 0 ↔ a = b := by
  unfold lg_cmp
  by_cases h1 : a > b
  · rw [if_pos h1]
    constructor
    · intro h; exact absurd h (by decide)
    · intro h; subst h; exact absurd h1 Int64.lt_irrefl
  · rw [if_neg h1]
    by_cases h2 : a = b
    · rw [if_pos h2]; exact ⟨fun _ => h2, fun _ => rfl⟩
    · rw [if_neg h2]; exact ⟨fun h => absurd h (by decide), fun h => absurd h h2⟩
theorem ax_lcl {a b : Int64} : lg_cmp a b < 0 ↔ a.toInt < b.toInt := by
  unfold lg_cmp
  by_cases h1 : a > b
  · rw [if_pos h1]
    have h3 : b.toInt < a.toInt := Int64.lt_iff_toInt_lt.mp h1
    constructor
    · intro h; exact absurd h (by decide)
    · intro h; omega
  · rw [if_neg h1]
    have h3 : ¬ b.toInt < a.toInt := fun q => h1 (Int64.lt_iff_toInt_lt.mpr q)
    by_cases h2 : a = b
    · rw [if_pos h2]; subst h2
      constructor
      · intro h; exact absurd h (by decide)
      · intro h; omega
    · rw [if_neg h2]
      have h4 : ¬ a.toInt = b.toInt := fun q => h2 (Int64.toInt_inj.mp q)
      constructor
      · intro _; omega
      · intro _; decide
theorem ax_lcg {a b : Int64} : 0 < lg_cmp a b ↔ b.toInt < a.toInt := by
  unfold lg_cmp
  by_cases h1 : a > b
  · rw [if_pos h1]
    have h3 : b.toInt < a.toInt := Int64.lt_iff_toInt_lt.mp h1
    exact ⟨fun _ => h3, fun _ => by decide⟩
  · rw [if_neg h1]
    have h3 : ¬ b.toInt < a.toInt := fun q => h1 (Int64.lt_iff_toInt_lt.mpr q)
    by_cases h2 : a = b
    · rw [if_pos h2]; exact ⟨fun h => absurd h (by decide), fun h => absurd h h3⟩
    · rw [if_neg h2]; exact ⟨fun h => absurd h (by decide), fun h => absurd h h3⟩
theorem ax_lglt {x y : Int32} : ¬ x < y ↔ y ≤ x := by rw [ax_lt, ax_le]; omega
theorem ax_lgeqT {a b : Int64} (h : lg_cmp a b = 0) : a = b := ax_lc0.mp h
theorem ax_lgeqF {a b : Int64} (h : ¬ lg_cmp a b = 0) : ¬ a = b := fun q => h (ax_lc0.mpr q)
theorem ax_lgneT {a b : Int64} (h : ¬ lg_cmp a b = 0) : ¬ a = b := fun q => h (ax_lc0.mpr q)
theorem ax_lgneF {a b : Int64} (h : lg_cmp a b = 0) : a = b := ax_lc0.mp h
theorem ax_lgltT {a b : Int64} (h : lg_cmp a b < 0) : a.toInt < b.toInt := ax_lcl.mp h
theorem ax_lgltF {a b : Int64} (h : ¬ lg_cmp a b < 0) : ¬ a.toInt < b.toInt := fun q => h (ax_lcl.mpr q)
theorem ax_lggeT {a b : Int64} (h : 0 ≤ lg_cmp a b) : ¬ a.toInt < b.toInt := ax_lgltF (ax_lglt.mpr h)
theorem ax_lggeF {a b : Int64} (h : ¬ 0 ≤ lg_cmp a b) : a.toInt < b.toInt := ax_lgltT (Classical.byContradiction fun q => h (ax_lglt.mp q))
theorem ax_lggtT {a b : Int64} (h : 0 < lg_cmp a b) : b.toInt < a.toInt := ax_lcg.mp h
theorem ax_lggtF {a b : Int64} (h : ¬ 0 < lg_cmp a b) : ¬ b.toInt < a.toInt := fun q => h (ax_lcg.mpr q)
theorem ax_lgleT {a b : Int64} (h : lg_cmp a b ≤ 0) : ¬ b.toInt < a.toInt := ax_lggtF (ax_lglt.mpr h)
theorem ax_lgleF {a b : Int64} (h : ¬ lg_cmp a b ≤ 0) : b.toInt < a.toInt := ax_lggtT (Classical.byContradiction fun q => h (ax_lglt.mp q))
/-- whole numbers as ints -/
def nIf (x : Nat → Nat) : Nat → Int32 := fun j => nI (x j)
theorem ax_nIf {x : Nat → Nat} {k v : Nat} : upd (nIf x) k (nI v) = nIf (va_up x k v) := by
  funext j
  unfold upd nIf va_up
  split <;> rfl

