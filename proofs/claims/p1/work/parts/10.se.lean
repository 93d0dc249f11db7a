/-! what a method needs beside its words: texts, nest links, casts, the statics -/
def ax_strL : List (String × Nat × String) := [(RX4, 61, "no such source"), (RX4, 79, "no such kind, or number not in its range"), (RX4, 91, "no such part"), (RX4, 133, "no such source, or place"), (RX4, 202, "what is not 0 to 4"), (RX4, 262, "no such place"), (RX4, 264, "place or phase is not 0 to 7, or strength not 1 to 9")]
def ax_nestL : List (String × Nat × MethodName × String) := [(RX4, 23, yX0_init, RX4), (RX4, 30, yX2_init, RX4), (RX7, 138, yX6_init, RX7)]
def ax_castL : List (String × String) := [("java/lang/IllegalArgumentException", "java/lang/IllegalArgumentException"), ("java/lang/IllegalStateException", "java/lang/IllegalStateException"), ("java/lang/IndexOutOfBoundsException", "java/lang/IndexOutOfBoundsException")]
def ax_decL : List MethodName := [Bundle.initS "java/lang/RuntimeException", Bundle.initS "java/lang/Exception", Bundle.initS Bundle.tN]
def ax_ncL : List (String × String) := [("java/lang/IllegalArgumentException", "java/lang/IndexOutOfBoundsException")]
def ax_tab0 : Nat → Value := fun k => .int (([0, 0, 0, 0, 0, 0, 1, 0, 0, 0, 0] : List Int32).getD k 0)
def ax_tab1 : Nat → Value := fun k => .int (([255, 16777215, 0, 0, 7, 0, 3, 0, 7, 0, 3] : List Int32).getD k 0)
def ax_tabL : List (String × String × (Nat → Value)) := [("Diffractory", "LEAST_NUMBER", ax_tab0), ("Diffractory", "MOST_NUMBER", ax_tab1), ("DiffractoryModel", "LEAST", ax_tab0), ("DiffractoryModel", "MOST", ax_tab1)]
def ax_S (sa ta : Nat → Nat) (A : Nat → Prop) (U : State) (H : Heap) : Prop :=
  (∀ (k : Nat) (q : String × Nat × String), ax_strL[k]? = some q → vk_R q.1 q.2.1 q.2.2 (sa k) U) ∧
  (∀ (k : Nat) (q : String × Nat × MethodName × String), ax_nestL[k]? = some q → va_Nw (.methodLinkNest q.1 q.2.1 q.2.2.1 q.2.2.2) U) ∧
  (∀ (k : Nat) (q : String × String), ax_castL[k]? = some q → va_Nw (.castable q.1 q.2) U) ∧
  (∀ (k : Nat) (q : MethodName), ax_decL[k]? = some q → va_Nw (.declares q) U) ∧
  (∀ (k : Nat) (q : String × String), ax_ncL[k]? = some q → va_Nc q.1 q.2 U) ∧
  (vx_Zq Bundle.tN "UNASSIGNED_STACK" Bundle.steD A U H ∧ vx_Zq Bundle.tN "SUPPRESSED_SENTINEL" Bundle.listD A U H) ∧
  (∀ (k : Nat) (q : String × String × (Nat → Value)), ax_tabL[k]? = some q → va_Z q.1 q.2.1 "[I" (.ref (ta k)) A U H ∧ va_T .int (ta k) 11 q.2.2 A U H) ∧
  (va_Z "java/util/ArrayList" "DEFAULTCAPACITY_EMPTY_ELEMENTDATA" "[Ljava/lang/Object;" (.ref (ta 4)) A U H ∧ va_T (.object "java/lang/Object") (ta 4) 0 (fun _ => .null) A U H)
theorem ax_S.go {sa ta : Nat → Nat} {A B : Nat → Prop} {s U : State} {H : Heap} {locs : List Loc} (hS : va_S A s.heap H locs) (hH : U.heap = H) (hW : s.WarmedH U.vm) (hAB : ∀ q, B q → A q) (h : ax_S sa ta A s s.heap) : ax_S sa ta B U U.heap := by
  obtain ⟨h1, h2, h3, h0, h4, ⟨h5, h6⟩, h7, h8, h9⟩ := h
  have hk : ∀ a : Nat, a < s.heap.size → ¬ A a → U.heap[a]? = s.heap[a]? := fun a x y => by rw [hH]; exact hS.2.1 a x y
  have hv := hW.alike
  refine ⟨fun k q e => vk_R.warm hW (h1 k q e), fun k q e => va_Nw.warmM hW (h2 k q e), fun k q e => va_Nw.warmC hW (h3 k q e), fun k q e => va_Nw.warmD hW (h0 k q e), fun k q e => va_Nc.moved hv (h4 k q e), ⟨vx_Zq.moved hv (vx_Zq.narrow (h5.kept hk) hAB), vx_Zq.moved hv (vx_Zq.narrow (h6.kept hk) hAB)⟩, fun k q e => ⟨va_Z.moved hv (va_Z.narrow ((h7 k q e).1.kept hk) hAB), va_T.moved hv (va_T.narrow ((h7 k q e).2.kept hk) hAB)⟩, va_Z.moved hv (va_Z.narrow (h8.kept hk) hAB), va_T.moved hv (va_T.narrow (h9.kept hk) hAB)⟩
theorem ax_S.call {sa ta : Nat → Nat} {A : Nat → Prop} {U : State} {g : JFrame} {mk : MethodId} {a : Array Value} (h : ax_S sa ta A U U.heap) : ax_S sa ta A (U.calling g mk a) (U.calling g mk a).heap := by
  refine ax_S.go (s := U) (H := U.heap) (locs := []) va_S.rf rfl ?_ (fun _ h => h) h
  exact State.WarmedH.refl U
theorem ax_S.str {sa ta : Nat → Nat} {A : Nat → Prop} {U : State} {H : Heap} (h : ax_S sa ta A U H) (k : Nat) {q : String × Nat × String} (e : ax_strL[k]? = some q) : vk_R q.1 q.2.1 q.2.2 (sa k) U := h.1 k q e
theorem ax_S.nest {sa ta : Nat → Nat} {A : Nat → Prop} {U : State} {H : Heap} (h : ax_S sa ta A U H) (k : Nat) {q : String × Nat × MethodName × String} (e : ax_nestL[k]? = some q) : va_Nw (.methodLinkNest q.1 q.2.1 q.2.2.1 q.2.2.2) U := h.2.1 k q e
theorem ax_S.cast {sa ta : Nat → Nat} {A : Nat → Prop} {U : State} {H : Heap} (h : ax_S sa ta A U H) (k : Nat) {q : String × String} (e : ax_castL[k]? = some q) : va_Nw (.castable q.1 q.2) U := h.2.2.1 k q e
theorem ax_S.nc {sa ta : Nat → Nat} {A : Nat → Prop} {U : State} {H : Heap} (h : ax_S sa ta A U H) (k : Nat) {q : String × String} (e : ax_ncL[k]? = some q) : va_Nc q.1 q.2 U := h.2.2.2.2.1 k q e
theorem ax_S.dec {sa ta : Nat → Nat} {A : Nat → Prop} {U : State} {H : Heap} (h : ax_S sa ta A U H) (k : Nat) {q : MethodName} (e : ax_decL[k]? = some q) : va_Nw (.declares q) U := h.2.2.2.1 k q e
theorem ax_S.zq {sa ta : Nat → Nat} {A : Nat → Prop} {U : State} {H : Heap} (h : ax_S sa ta A U H) : vx_Zq Bundle.tN "UNASSIGNED_STACK" Bundle.steD A U H ∧ vx_Zq Bundle.tN "SUPPRESSED_SENTINEL" Bundle.listD A U H := h.2.2.2.2.2.1
theorem ax_S.tab {sa ta : Nat → Nat} {A : Nat → Prop} {U : State} {H : Heap} (h : ax_S sa ta A U H) (k : Nat) {q : String × String × (Nat → Value)} (e : ax_tabL[k]? = some q) : va_Z q.1 q.2.1 "[I" (.ref (ta k)) A U H ∧ va_T .int (ta k) 11 q.2.2 A U H := h.2.2.2.2.2.2.1 k q e
theorem ax_S.al {sa ta : Nat → Nat} {A : Nat → Prop} {U : State} {H : Heap} (h : ax_S sa ta A U H) : va_Z "java/util/ArrayList" "DEFAULTCAPACITY_EMPTY_ELEMENTDATA" "[Ljava/lang/Object;" (.ref (ta 4)) A U H ∧ va_T (.object "java/lang/Object") (ta 4) 0 (fun _ => .null) A U H := h.2.2.2.2.2.2.2
/-! worlds kept, contracts' starts -/
theorem ax_keep {D : va_G} {cl : List vw_C} {ws : va_W} {H H1 : Heap} {A : Nat → Prop} (hP : va_P D cl ws H) (hA : ∀ q, ¬ A q) (hk : ∀ q : Nat, q < H.size → ¬ A q → H1[q]? = H[q]?) : va_P D cl ws H1 := by
  have hF : ∀ q : Nat, q < H.size → ¬ va_A ([] : va_W) H.size q → H1[q]? = H[q]? := fun q h1 _ => hk q h1 (hA q)
  intro k q hq
  have h0 := hP k q hq
  have hlt : q.1 < H.size := h0.lt
  have e : H1[q.1]? = H[q.1]? := hk q.1 hlt (hA q.1)
  unfold va_at at h0 ⊢
  cases hc : q.2 with
  | inl a =>
    rw [hc] at h0
    simp only at h0 ⊢
    rw [e]
    exact h0
  | inr o =>
    rw [hc] at h0
    simp only at h0 ⊢
    obtain ⟨r, hr, ho⟩ := h0
    exact ⟨r, hr, ho.kept e⟩
abbrev ax_no : Nat → Prop := fun _ => False
abbrev ax_R (D : va_G) (cl : List vw_C) (ws : va_W) (tys : List (ClassId × FieldType)) (sa ta : Nat → Nat) : State → Prop := fun U => va_P D cl ws U.heap ∧ va_K D cl tys U ∧ ax_S sa ta ax_no U U.heap
abbrev ax_W (D : va_G) (cl : List vw_C) (ws : va_W) (tys : List (ClassId × FieldType)) (sa ta : Nat → Nat) (sz : Nat) : State → Prop := fun U => U.heap.size = sz ∧ va_P D cl ws U.heap ∧ va_K D cl tys U ∧ va_D (fun _ => True) ws ∧ ax_S sa ta (va_A ws sz) U U.heap
theorem ax_fbP {av : List Value} : FrameBlind (va_Pc av (fun _ => True)) := fun _ _ _ _ q => q
theorem ax_fbR {D : va_G} {cl : List vw_C} {ws : va_W} {tys : List (ClassId × FieldType)} {sa ta : Nat → Nat} {av : List Value} : FrameBlind (va_Pc av (ax_R D cl ws tys sa ta)) := fun a U g mk q => ⟨q.1, q.2.1, va_K.moved (u := U) (U := U.calling g mk a) (Vm.Alike.refl U.vm) q.2.2.1, q.2.2.2.call⟩
theorem ax_fbW {D : va_G} {cl : List vw_C} {ws : va_W} {tys : List (ClassId × FieldType)} {sa ta : Nat → Nat} {sz : Nat} {av : List Value} : FrameBlind (va_Pc av (ax_W D cl ws tys sa ta sz)) := fun a U g mk q => ⟨q.1, q.2.1, q.2.2.1, va_K.moved (u := U) (U := U.calling g mk a) (Vm.Alike.refl U.vm) q.2.2.2.1, q.2.2.2.2.1, q.2.2.2.2.2.call⟩
theorem ax_prP {s : State} {H : Heap} {av : List Value} : ∀ U : State, U.heap = H → s.WarmedH U.vm → va_Pc av (fun _ => True) av.toArray U := fun _ _ _ => ⟨rfl, trivial⟩
theorem ax_prR {D : va_G} {cl : List vw_C} {ws : va_W} {tys : List (ClassId × FieldType)} {sa ta : Nat → Nat} {s : State} {H : Heap} {locs : List Loc} {A : Nat → Prop} {av : List Value} (hP : va_P D cl ws H) (hK : va_K D cl tys s) (hS : va_S A s.heap H locs) (hE : ax_S sa ta A s s.heap) : ∀ U : State, U.heap = H → s.WarmedH U.vm → va_Pc av (ax_R D cl ws tys sa ta) av.toArray U := fun U hU hW => ⟨rfl, by rw [hU]; exact hP, va_K.moved hW.alike hK, ax_S.go hS hU hW (fun _ h => h.elim) hE⟩
theorem ax_prW {D : va_G} {cl : List vw_C} {ws : va_W} {tys : List (ClassId × FieldType)} {sa ta : Nat → Nat} {s : State} {H : Heap} {locs : List Loc} {A B : Nat → Prop} {av : List Value} (hP : va_P D cl ws H) (hK : va_K D cl tys s) (hD : va_D B ws) (hS : va_S A s.heap H locs) (hF : ∀ q, va_A ws H.size q → A q) (hE : ax_S sa ta A s s.heap) : ∀ U : State, U.heap = H → s.WarmedH U.vm → va_Pc av (ax_W D cl ws tys sa ta H.size) av.toArray U := fun U hU hW => ⟨rfl, by rw [hU], by rw [hU]; exact hP, va_K.moved hW.alike hK, hD.weaken (fun _ _ _ _ => trivial), ax_S.go hS hU hW hF hE⟩
section AXR
variable {p : Program} {l : Launch} {e : Env} {R : Room} {s : State} {m : MethodId} {args : Array Value} {below : List Frame} {meth : Method} {c : Code} {H : Heap} {locs : List Loc} {cells slots : Nat} {Q : State → Prop} {pc : Nat} {ls : Array Slot} {rest : List Value}
theorem ax_i {x y : Int32} (h : x = y) (k : W p l e R s m args below meth c H locs cells slots Q (F0 m pc ls (.int y :: rest))) : W p l e R s m args below meth c H locs cells slots Q (F0 m pc ls (.int x :: rest)) := by subst h; exact k
theorem ax_l {x y : Int64} (h : x = y) (k : W p l e R s m args below meth c H locs cells slots Q (F0 m pc ls (.long y :: rest))) : W p l e R s m args below meth c H locs cells slots Q (F0 m pc ls (.long x :: rest)) := by subst h; exact k
theorem ax_d {x y : UInt64} (h : x = y) (k : W p l e R s m args below meth c H locs cells slots Q (F0 m pc ls (.double y :: rest))) : W p l e R s m args below meth c H locs cells slots Q (F0 m pc ls (.double x :: rest)) := by subst h; exact k
end AXR
/-! numbers -/
theorem ax_lt (a b : Int32) : a < b ↔ a.toInt < b.toInt := Int32.lt_iff_toInt_lt
theorem ax_le (a b : Int32) : a ≤ b ↔ a.toInt ≤ b.toInt := Int32.le_iff_toInt_le
theorem ax_eq (a b : Int32) : a = b ↔ a.toInt = b.toInt := ⟨fun h => by rw [h], fun h => Int32.toInt_inj.mp h⟩
/-- a test's answer -/
abbrev ax_bo (r : Int32) (P : Prop) : Prop := (r = 1 ∧ P) ∨ (r = 0 ∧ ¬ P)
theorem ax_uz {x : Int64} {k : Nat} : vp_updL (fun _ => x) k x = fun _ => x := by funext j; unfold vp_updL; split <;> rfl
/-- a method with a table of its own that returns -/
theorem ax_MetWH {l : Launch} {y : MethodName} {ws ws' : List Cond} {rm : Room} {Pc : Array Value → State → Prop} {Qc : Array Value → State → Outcome → State → Prop} {mc ms : Nat} {free : Addr → Prop} {cc : ByteArray} {maxL : Nat} {ret : Option FieldType} {hh : List (Nat × Nat × Nat × Nat)}
    (hy : plainName y.cls = true) (hw : ws = Cond.codeWith y cc maxL ret hh :: ws')
    (body : ∀ p e s m args below meth c s₁, BodyLoose p l y (headSpec ws rm) cc maxL ret e s m args below meth c s₁ → c.maxLocals = maxL → Pc args s →
      W p l e (headSpec ws rm).room s m args below meth c s.heap [] 0 0 (MQ below Qc args s mc ms free) (entryFrame m args maxL)) : Met l y ws rm Pc Qc mc ms free := by
  refine MetFree.of_bodyS (code := cc) (maxLocals := maxL) (ret := ret) hy ?_ ?_
  · intro args s m h hn
    obtain ⟨m9, meth, c, hn9, h1, h2, h3, h4, -, h5, h6, -⟩ := Cond.codeWith_spec (atoms_spec (ws := ws) h _ (by rw [hw]; exact List.mem_cons_self))
    cases hn.symm.trans hn9
    exact ⟨meth, c, h1, h2, h3, h4, h5, h6⟩
  · intro p e s m args below meth c s₁ B hml hP _
    have hh0 : s₁.heap = s.heap := by rw [B.state]; rfl
    obtain ⟨t, a1, o, b1, b2, b3⟩ := body p e s m args below meth c s₁ B hml hP s₁ hh0 (Stand.of_body B)
    exact ⟨t, o, a1, b1, b2, ⟨b3.1, b3.2⟩⟩
theorem ax_vaF {A : Nat → Prop} {s t : State} {H : Heap} {locs : List Loc} (hS : va_S A s.heap H locs) (h1 : H.size ≤ t.heap.size) (h2 : ∀ q : Nat, q < H.size → t.heap[q]? = H[q]?) : va_F A s t := ⟨Nat.le_trans hS.1 h1, fun q h9 h8 => (h2 q (Nat.lt_of_lt_of_le h9 hS.1)).trans (hS.2.1 q h9 h8)⟩
def ax_B63 : List Cond := [.declares (Bundle.initS "java/lang/RuntimeException"), .declares (Bundle.initS "java/lang/Exception"), .declares (Bundle.initS Bundle.tN), .castable "java/lang/IndexOutOfBoundsException" "java/lang/IndexOutOfBoundsException"]
theorem ax_nb63 : ∀ w ∈ (vx_atS RX4 63 "java/lang/IndexOutOfBoundsException" ["java/lang/RuntimeException", "java/lang/Exception"]).filter (fun w => !goodWord w), w ∈ ax_B63 := by decide +kernel
theorem ax_gd63 : ∀ w ∈ Cond.classLink RX4 59 "java/lang/IndexOutOfBoundsException" :: Cond.initialized "java/lang/IndexOutOfBoundsException" :: vx_atS RX4 63 "java/lang/IndexOutOfBoundsException" ["java/lang/RuntimeException", "java/lang/Exception"], vx_ot w = true := by decide +kernel
theorem ax_hat63 {sa ta : Nat → Nat} {A : Nat → Prop} {s : State} {args : Array Value} (hE : ax_S sa ta A s s.heap) (h : ∀ w ∈ (vx_atS RX4 63 "java/lang/IndexOutOfBoundsException" ["java/lang/RuntimeException", "java/lang/Exception"]).filter goodWord, w.before args s = true) : ∀ w ∈ vx_atS RX4 63 "java/lang/IndexOutOfBoundsException" ["java/lang/RuntimeException", "java/lang/Exception"], w.before args s = true :=
  vx_hat h ax_nb63 (vx_c (va_Nw.use rfl (hE.dec 0 rfl)) (vx_c (va_Nw.use rfl (hE.dec 1 rfl)) (vx_c (va_Nw.use rfl (hE.dec 2 rfl)) (vx_c (va_Nw.use rfl (hE.cast 2 rfl)) vx_n))))
def ax_B81 : List Cond := [.declares (Bundle.initS "java/lang/RuntimeException"), .declares (Bundle.initS "java/lang/Exception"), .declares (Bundle.initS Bundle.tN), .castable "java/lang/IllegalArgumentException" "java/lang/IllegalArgumentException"]
theorem ax_nb81 : ∀ w ∈ (vx_atS RX4 81 "java/lang/IllegalArgumentException" ["java/lang/RuntimeException", "java/lang/Exception"]).filter (fun w => !goodWord w), w ∈ ax_B81 := by decide +kernel
theorem ax_gd81 : ∀ w ∈ Cond.classLink RX4 77 "java/lang/IllegalArgumentException" :: Cond.initialized "java/lang/IllegalArgumentException" :: vx_atS RX4 81 "java/lang/IllegalArgumentException" ["java/lang/RuntimeException", "java/lang/Exception"], vx_ot w = true := by decide +kernel
theorem ax_hat81 {sa ta : Nat → Nat} {A : Nat → Prop} {s : State} {args : Array Value} (hE : ax_S sa ta A s s.heap) (h : ∀ w ∈ (vx_atS RX4 81 "java/lang/IllegalArgumentException" ["java/lang/RuntimeException", "java/lang/Exception"]).filter goodWord, w.before args s = true) : ∀ w ∈ vx_atS RX4 81 "java/lang/IllegalArgumentException" ["java/lang/RuntimeException", "java/lang/Exception"], w.before args s = true :=
  vx_hat h ax_nb81 (vx_c (va_Nw.use rfl (hE.dec 0 rfl)) (vx_c (va_Nw.use rfl (hE.dec 1 rfl)) (vx_c (va_Nw.use rfl (hE.dec 2 rfl)) (vx_c (va_Nw.use rfl (hE.cast 0 rfl)) vx_n))))
theorem ax_S.s61 {sa ta : Nat → Nat} {A : Nat → Prop} {U : State} {H : Heap} (h : ax_S sa ta A U H) : vk_R RX4 61 "no such source" (sa 0) U := h.1 0 (RX4, 61, "no such source") rfl
theorem ax_S.s79 {sa ta : Nat → Nat} {A : Nat → Prop} {U : State} {H : Heap} (h : ax_S sa ta A U H) : vk_R RX4 79 "no such kind, or number not in its range" (sa 1) U := h.1 1 (RX4, 79, "no such kind, or number not in its range") rfl
theorem ax_S.s91 {sa ta : Nat → Nat} {A : Nat → Prop} {U : State} {H : Heap} (h : ax_S sa ta A U H) : vk_R RX4 91 "no such part" (sa 2) U := h.1 2 (RX4, 91, "no such part") rfl
theorem ax_S.s133 {sa ta : Nat → Nat} {A : Nat → Prop} {U : State} {H : Heap} (h : ax_S sa ta A U H) : vk_R RX4 133 "no such source, or place" (sa 3) U := h.1 3 (RX4, 133, "no such source, or place") rfl
theorem ax_S.s202 {sa ta : Nat → Nat} {A : Nat → Prop} {U : State} {H : Heap} (h : ax_S sa ta A U H) : vk_R RX4 202 "what is not 0 to 4" (sa 4) U := h.1 4 (RX4, 202, "what is not 0 to 4") rfl
theorem ax_S.s262 {sa ta : Nat → Nat} {A : Nat → Prop} {U : State} {H : Heap} (h : ax_S sa ta A U H) : vk_R RX4 262 "no such place" (sa 5) U := h.1 5 (RX4, 262, "no such place") rfl
theorem ax_S.s264 {sa ta : Nat → Nat} {A : Nat → Prop} {U : State} {H : Heap} (h : ax_S sa ta A U H) : vk_R RX4 264 "place or phase is not 0 to 7, or strength not 1 to 9" (sa 6) U := h.1 6 (RX4, 264, "place or phase is not 0 to 7, or strength not 1 to 9") rfl
