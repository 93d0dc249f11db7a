/-! what a method needs beside its words: texts, nest links, casts, the statics -/
def ax_tab0 : Nat → Value := fun k => .int (([0, 0, 0, 0, 0, 0, 1, 0, 0, 0, 0] : List Int32).getD k 0)
def ax_tab1 : Nat → Value := fun k => .int (([255, 16777215, 0, 0, 7, 0, 3, 0, 7, 0, 3] : List Int32).getD k 0)
def ax_lo (k : Int32) : Int32 := ([0, 0, 0, 0, 0, 0, 1, 0, 0, 0, 0] : List Int32).getD k.toNatClampNeg 0
def ax_hi (k : Int32) : Int32 := ([255, 16777215, 0, 0, 7, 0, 3, 0, 7, 0, 3] : List Int32).getD k.toNatClampNeg 0
def ax_S (sa ta : Nat → Nat) (A : Nat → Prop) (U : State) (H : Heap) : Prop :=
  vk_R RX4 61 "no such source" (sa 0) U ∧
  vk_R RX4 79 "no such kind, or number not in its range" (sa 1) U ∧
  vk_R RX4 91 "no such part" (sa 2) U ∧
  vk_R RX4 133 "no such source, or place" (sa 3) U ∧
  vk_R RX4 202 "what is not 0 to 4" (sa 4) U ∧
  vk_R RX4 262 "no such place" (sa 5) U ∧
  vk_R RX4 264 "place or phase is not 0 to 7, or strength not 1 to 9" (sa 6) U ∧
  va_Nw (.methodLinkNest RX4 23 yX0_init RX4) U ∧
  va_Nw (.methodLinkNest RX4 30 yX2_init RX4) U ∧
  va_Nw (.methodLinkNest RX7 138 yX6_init RX7) U ∧
  va_Nw (.castable "java/lang/IllegalArgumentException" "java/lang/IllegalArgumentException") U ∧
  va_Nw (.castable "java/lang/IllegalStateException" "java/lang/IllegalStateException") U ∧
  va_Nw (.castable "java/lang/IndexOutOfBoundsException" "java/lang/IndexOutOfBoundsException") U ∧
  va_Nw (.castable "DiffractoryModel$Source" "java/lang/Object") U ∧
  va_Nw (.castable "DiffractoryModel$Part" "java/lang/Object") U ∧
  va_Nw (.declares (Bundle.initS "java/lang/RuntimeException")) U ∧
  va_Nw (.declares (Bundle.initS "java/lang/Exception")) U ∧
  va_Nw (.declares (Bundle.initS Bundle.tN)) U ∧
  vx_Zq Bundle.tN "UNASSIGNED_STACK" Bundle.steD A U H ∧
  vx_Zq Bundle.tN "SUPPRESSED_SENTINEL" Bundle.listD A U H ∧
  va_Z "Diffractory" "LEAST_NUMBER" "[I" (.ref (ta 0)) A U H ∧
  va_T .int (ta 0) 11 ax_tab0 A U H ∧
  va_Z "Diffractory" "MOST_NUMBER" "[I" (.ref (ta 1)) A U H ∧
  va_T .int (ta 1) 11 ax_tab1 A U H ∧
  va_Z "DiffractoryModel" "LEAST" "[I" (.ref (ta 2)) A U H ∧
  va_T .int (ta 2) 11 ax_tab0 A U H ∧
  va_Z "DiffractoryModel" "MOST" "[I" (.ref (ta 3)) A U H ∧
  va_T .int (ta 3) 11 ax_tab1 A U H ∧
  va_Z "java/util/ArrayList" "DEFAULTCAPACITY_EMPTY_ELEMENTDATA" "[Ljava/lang/Object;" (.ref (ta 4)) A U H ∧
  va_T (.object "java/lang/Object") (ta 4) 0 (fun _ => .null) A U H ∧
  va_Z "java/lang/Math" "negativeZeroDoubleBits" "J" (.long (-9223372036854775808)) A U H ∧
  va_AO "Diffractory$Source" U ∧
  va_AO "Diffractory$Part" U ∧
  va_AO "java/lang/Object" U
theorem ax_S.go {sa ta : Nat → Nat} {A B : Nat → Prop} {s U : State} {H : Heap} {locs : List Loc} (hS : va_S A s.heap H locs) (hH : U.heap = H) (hW : s.WarmedH U.vm) (hAB : ∀ q, B q → A q) (h : ax_S sa ta A s s.heap) : ax_S sa ta B U U.heap := by
  obtain ⟨h100, h101, h102, h103, h104, h105, h106, h107, h108, h109, h110, h111, h112, h113, h114, h115, h116, h117, h118, h119, h120, h121, h122, h123, h124, h125, h126, h127, h128, h129, h130, h131, h132, h133⟩ := h
  have hk : ∀ a : Nat, a < s.heap.size → ¬ A a → U.heap[a]? = s.heap[a]? := fun a x y => by rw [hH]; exact hS.2.1 a x y
  have hv := hW.alike
  exact ⟨vk_R.warm hW h100, vk_R.warm hW h101, vk_R.warm hW h102, vk_R.warm hW h103, vk_R.warm hW h104, vk_R.warm hW h105, vk_R.warm hW h106, va_Nw.warmM hW h107, va_Nw.warmM hW h108, va_Nw.warmM hW h109, va_Nw.warmC hW h110, va_Nw.warmC hW h111, va_Nw.warmC hW h112, va_Nw.warmC hW h113, va_Nw.warmC hW h114, va_Nw.warmD hW h115, va_Nw.warmD hW h116, va_Nw.warmD hW h117, vx_Zq.moved hv (vx_Zq.narrow ((h118).kept hk) hAB), vx_Zq.moved hv (vx_Zq.narrow ((h119).kept hk) hAB), va_Z.moved hv (va_Z.narrow ((h120).kept hk) hAB), va_T.moved hv (va_T.narrow ((h121).kept hk) hAB), va_Z.moved hv (va_Z.narrow ((h122).kept hk) hAB), va_T.moved hv (va_T.narrow ((h123).kept hk) hAB), va_Z.moved hv (va_Z.narrow ((h124).kept hk) hAB), va_T.moved hv (va_T.narrow ((h125).kept hk) hAB), va_Z.moved hv (va_Z.narrow ((h126).kept hk) hAB), va_T.moved hv (va_T.narrow ((h127).kept hk) hAB), va_Z.moved hv (va_Z.narrow ((h128).kept hk) hAB), va_T.moved hv (va_T.narrow ((h129).kept hk) hAB), va_Z.moved hv (va_Z.narrow ((h130).kept hk) hAB), va_AO.moved hv h131, va_AO.moved hv h132, va_AO.moved hv h133⟩
theorem ax_S.call {sa ta : Nat → Nat} {A : Nat → Prop} {U : State} {g : JFrame} {mk : MethodId} {a : Array Value} (h : ax_S sa ta A U U.heap) : ax_S sa ta A (U.calling g mk a) (U.calling g mk a).heap := by
  refine ax_S.go (s := U) (H := U.heap) (locs := []) va_S.rf rfl ?_ (fun _ h => h) h
  exact State.WarmedH.refl U
theorem ax_S.s61 {sa ta : Nat → Nat} {A : Nat → Prop} {U : State} {H : Heap} (h : ax_S sa ta A U H) : vk_R RX4 61 "no such source" (sa 0) U := h.1
theorem ax_S.s79 {sa ta : Nat → Nat} {A : Nat → Prop} {U : State} {H : Heap} (h : ax_S sa ta A U H) : vk_R RX4 79 "no such kind, or number not in its range" (sa 1) U := h.2.1
theorem ax_S.s91 {sa ta : Nat → Nat} {A : Nat → Prop} {U : State} {H : Heap} (h : ax_S sa ta A U H) : vk_R RX4 91 "no such part" (sa 2) U := h.2.2.1
theorem ax_S.s133 {sa ta : Nat → Nat} {A : Nat → Prop} {U : State} {H : Heap} (h : ax_S sa ta A U H) : vk_R RX4 133 "no such source, or place" (sa 3) U := h.2.2.2.1
theorem ax_S.s202 {sa ta : Nat → Nat} {A : Nat → Prop} {U : State} {H : Heap} (h : ax_S sa ta A U H) : vk_R RX4 202 "what is not 0 to 4" (sa 4) U := h.2.2.2.2.1
theorem ax_S.s262 {sa ta : Nat → Nat} {A : Nat → Prop} {U : State} {H : Heap} (h : ax_S sa ta A U H) : vk_R RX4 262 "no such place" (sa 5) U := h.2.2.2.2.2.1
theorem ax_S.s264 {sa ta : Nat → Nat} {A : Nat → Prop} {U : State} {H : Heap} (h : ax_S sa ta A U H) : vk_R RX4 264 "place or phase is not 0 to 7, or strength not 1 to 9" (sa 6) U := h.2.2.2.2.2.2.1
theorem ax_S.n0 {sa ta : Nat → Nat} {A : Nat → Prop} {U : State} {H : Heap} (h : ax_S sa ta A U H) : va_Nw (.methodLinkNest RX4 23 yX0_init RX4) U := h.2.2.2.2.2.2.2.1
theorem ax_S.n1 {sa ta : Nat → Nat} {A : Nat → Prop} {U : State} {H : Heap} (h : ax_S sa ta A U H) : va_Nw (.methodLinkNest RX4 30 yX2_init RX4) U := h.2.2.2.2.2.2.2.2.1
theorem ax_S.n2 {sa ta : Nat → Nat} {A : Nat → Prop} {U : State} {H : Heap} (h : ax_S sa ta A U H) : va_Nw (.methodLinkNest RX7 138 yX6_init RX7) U := h.2.2.2.2.2.2.2.2.2.1
theorem ax_S.c0 {sa ta : Nat → Nat} {A : Nat → Prop} {U : State} {H : Heap} (h : ax_S sa ta A U H) : va_Nw (.castable "java/lang/IllegalArgumentException" "java/lang/IllegalArgumentException") U := h.2.2.2.2.2.2.2.2.2.2.1
theorem ax_S.c1 {sa ta : Nat → Nat} {A : Nat → Prop} {U : State} {H : Heap} (h : ax_S sa ta A U H) : va_Nw (.castable "java/lang/IllegalStateException" "java/lang/IllegalStateException") U := h.2.2.2.2.2.2.2.2.2.2.2.1
theorem ax_S.c2 {sa ta : Nat → Nat} {A : Nat → Prop} {U : State} {H : Heap} (h : ax_S sa ta A U H) : va_Nw (.castable "java/lang/IndexOutOfBoundsException" "java/lang/IndexOutOfBoundsException") U := h.2.2.2.2.2.2.2.2.2.2.2.2.1
theorem ax_S.c3 {sa ta : Nat → Nat} {A : Nat → Prop} {U : State} {H : Heap} (h : ax_S sa ta A U H) : va_Nw (.castable "DiffractoryModel$Source" "java/lang/Object") U := h.2.2.2.2.2.2.2.2.2.2.2.2.2.1
theorem ax_S.c4 {sa ta : Nat → Nat} {A : Nat → Prop} {U : State} {H : Heap} (h : ax_S sa ta A U H) : va_Nw (.castable "DiffractoryModel$Part" "java/lang/Object") U := h.2.2.2.2.2.2.2.2.2.2.2.2.2.2.1
theorem ax_S.d0 {sa ta : Nat → Nat} {A : Nat → Prop} {U : State} {H : Heap} (h : ax_S sa ta A U H) : va_Nw (.declares (Bundle.initS "java/lang/RuntimeException")) U := h.2.2.2.2.2.2.2.2.2.2.2.2.2.2.2.1
theorem ax_S.d1 {sa ta : Nat → Nat} {A : Nat → Prop} {U : State} {H : Heap} (h : ax_S sa ta A U H) : va_Nw (.declares (Bundle.initS "java/lang/Exception")) U := h.2.2.2.2.2.2.2.2.2.2.2.2.2.2.2.2.1
theorem ax_S.d2 {sa ta : Nat → Nat} {A : Nat → Prop} {U : State} {H : Heap} (h : ax_S sa ta A U H) : va_Nw (.declares (Bundle.initS Bundle.tN)) U := h.2.2.2.2.2.2.2.2.2.2.2.2.2.2.2.2.2.1
theorem ax_S.zU {sa ta : Nat → Nat} {A : Nat → Prop} {U : State} {H : Heap} (h : ax_S sa ta A U H) : vx_Zq Bundle.tN "UNASSIGNED_STACK" Bundle.steD A U H := h.2.2.2.2.2.2.2.2.2.2.2.2.2.2.2.2.2.2.1
theorem ax_S.zN {sa ta : Nat → Nat} {A : Nat → Prop} {U : State} {H : Heap} (h : ax_S sa ta A U H) : vx_Zq Bundle.tN "SUPPRESSED_SENTINEL" Bundle.listD A U H := h.2.2.2.2.2.2.2.2.2.2.2.2.2.2.2.2.2.2.2.1
theorem ax_S.z0 {sa ta : Nat → Nat} {A : Nat → Prop} {U : State} {H : Heap} (h : ax_S sa ta A U H) : va_Z "Diffractory" "LEAST_NUMBER" "[I" (.ref (ta 0)) A U H := h.2.2.2.2.2.2.2.2.2.2.2.2.2.2.2.2.2.2.2.2.1
theorem ax_S.t0 {sa ta : Nat → Nat} {A : Nat → Prop} {U : State} {H : Heap} (h : ax_S sa ta A U H) : va_T .int (ta 0) 11 ax_tab0 A U H := h.2.2.2.2.2.2.2.2.2.2.2.2.2.2.2.2.2.2.2.2.2.1
theorem ax_S.z1 {sa ta : Nat → Nat} {A : Nat → Prop} {U : State} {H : Heap} (h : ax_S sa ta A U H) : va_Z "Diffractory" "MOST_NUMBER" "[I" (.ref (ta 1)) A U H := h.2.2.2.2.2.2.2.2.2.2.2.2.2.2.2.2.2.2.2.2.2.2.1
theorem ax_S.t1 {sa ta : Nat → Nat} {A : Nat → Prop} {U : State} {H : Heap} (h : ax_S sa ta A U H) : va_T .int (ta 1) 11 ax_tab1 A U H := h.2.2.2.2.2.2.2.2.2.2.2.2.2.2.2.2.2.2.2.2.2.2.2.1
theorem ax_S.z2 {sa ta : Nat → Nat} {A : Nat → Prop} {U : State} {H : Heap} (h : ax_S sa ta A U H) : va_Z "DiffractoryModel" "LEAST" "[I" (.ref (ta 2)) A U H := h.2.2.2.2.2.2.2.2.2.2.2.2.2.2.2.2.2.2.2.2.2.2.2.2.1
theorem ax_S.t2 {sa ta : Nat → Nat} {A : Nat → Prop} {U : State} {H : Heap} (h : ax_S sa ta A U H) : va_T .int (ta 2) 11 ax_tab0 A U H := h.2.2.2.2.2.2.2.2.2.2.2.2.2.2.2.2.2.2.2.2.2.2.2.2.2.1
theorem ax_S.z3 {sa ta : Nat → Nat} {A : Nat → Prop} {U : State} {H : Heap} (h : ax_S sa ta A U H) : va_Z "DiffractoryModel" "MOST" "[I" (.ref (ta 3)) A U H := h.2.2.2.2.2.2.2.2.2.2.2.2.2.2.2.2.2.2.2.2.2.2.2.2.2.2.1
theorem ax_S.t3 {sa ta : Nat → Nat} {A : Nat → Prop} {U : State} {H : Heap} (h : ax_S sa ta A U H) : va_T .int (ta 3) 11 ax_tab1 A U H := h.2.2.2.2.2.2.2.2.2.2.2.2.2.2.2.2.2.2.2.2.2.2.2.2.2.2.2.1
theorem ax_S.z4 {sa ta : Nat → Nat} {A : Nat → Prop} {U : State} {H : Heap} (h : ax_S sa ta A U H) : va_Z "java/util/ArrayList" "DEFAULTCAPACITY_EMPTY_ELEMENTDATA" "[Ljava/lang/Object;" (.ref (ta 4)) A U H := h.2.2.2.2.2.2.2.2.2.2.2.2.2.2.2.2.2.2.2.2.2.2.2.2.2.2.2.2.1
theorem ax_S.t4 {sa ta : Nat → Nat} {A : Nat → Prop} {U : State} {H : Heap} (h : ax_S sa ta A U H) : va_T (.object "java/lang/Object") (ta 4) 0 (fun _ => .null) A U H := h.2.2.2.2.2.2.2.2.2.2.2.2.2.2.2.2.2.2.2.2.2.2.2.2.2.2.2.2.2.1
theorem ax_S.nz {sa ta : Nat → Nat} {A : Nat → Prop} {U : State} {H : Heap} (h : ax_S sa ta A U H) : va_Z "java/lang/Math" "negativeZeroDoubleBits" "J" (.long (-9223372036854775808)) A U H := h.2.2.2.2.2.2.2.2.2.2.2.2.2.2.2.2.2.2.2.2.2.2.2.2.2.2.2.2.2.2.1
theorem ax_S.a0 {sa ta : Nat → Nat} {A : Nat → Prop} {U : State} {H : Heap} (h : ax_S sa ta A U H) : va_AO "Diffractory$Source" U := h.2.2.2.2.2.2.2.2.2.2.2.2.2.2.2.2.2.2.2.2.2.2.2.2.2.2.2.2.2.2.2.1
theorem ax_S.a1 {sa ta : Nat → Nat} {A : Nat → Prop} {U : State} {H : Heap} (h : ax_S sa ta A U H) : va_AO "Diffractory$Part" U := h.2.2.2.2.2.2.2.2.2.2.2.2.2.2.2.2.2.2.2.2.2.2.2.2.2.2.2.2.2.2.2.2.1
theorem ax_S.a2 {sa ta : Nat → Nat} {A : Nat → Prop} {U : State} {H : Heap} (h : ax_S sa ta A U H) : va_AO "java/lang/Object" U := h.2.2.2.2.2.2.2.2.2.2.2.2.2.2.2.2.2.2.2.2.2.2.2.2.2.2.2.2.2.2.2.2.2
/-! worlds kept, contracts' starts -/
theorem ax_keep {D : va_G} {cl : List vw_C} {ws : va_W} {H H1 : Heap} {A : Nat → Prop} (hP : va_P D cl ws H) (hA : ∀ q, ¬ A q) (hk : ∀ q : Nat, q < H.size → ¬ A q → H1[q]? = H[q]?) : va_P D cl ws H1 := by
  have hF : ∀ q : Nat, q < H.size → ¬ va_A ([] : va_W) H.size q → H1[q]? = H[q]? := fun q h1 _ => hk q h1 (hA q)
  intro k q hq
  have h0 := hP k q hq
  have hlt : q.1 < H.size := h0.lt
  have e : H1[q.1]? = H[q.1]? := hk q.1 hlt (hA q.1)
  unfold va_at at h0 ⊢
  cases hc : q.2 with
  | inl a =>
    rw [hc] at h0
    simp only at h0 ⊢
    rw [e]
    exact h0
  | inr o =>
    rw [hc] at h0
    simp only at h0 ⊢
    obtain ⟨r, hr, ho⟩ := h0
    exact ⟨r, hr, ho.kept e⟩
abbrev ax_no : Nat → Prop := fun _ => False
abbrev ax_R (D : va_G) (cl : List vw_C) (ws : va_W) (tys : List (ClassId × FieldType)) (sa ta : Nat → Nat) : State → Prop := fun U => va_P D cl ws U.heap ∧ va_K D cl tys U ∧ ax_S sa ta ax_no U U.heap
abbrev ax_W (D : va_G) (cl : List vw_C) (ws : va_W) (tys : List (ClassId × FieldType)) (sa ta : Nat → Nat) (sz : Nat) : State → Prop := fun U => U.heap.size = sz ∧ va_P D cl ws U.heap ∧ va_K D cl tys U ∧ va_D (fun _ => True) ws ∧ ax_S sa ta (va_A ws sz) U U.heap
theorem ax_fbP {av : List Value} : FrameBlind (va_Pc av (fun _ => True)) := fun _ _ _ _ q => q
theorem ax_fbR {D : va_G} {cl : List vw_C} {ws : va_W} {tys : List (ClassId × FieldType)} {sa ta : Nat → Nat} {av : List Value} : FrameBlind (va_Pc av (ax_R D cl ws tys sa ta)) := fun a U g mk q => ⟨q.1, q.2.1, va_K.moved (u := U) (U := U.calling g mk a) (Vm.Alike.refl U.vm) q.2.2.1, q.2.2.2.call⟩
theorem ax_fbW {D : va_G} {cl : List vw_C} {ws : va_W} {tys : List (ClassId × FieldType)} {sa ta : Nat → Nat} {sz : Nat} {av : List Value} : FrameBlind (va_Pc av (ax_W D cl ws tys sa ta sz)) := fun a U g mk q => ⟨q.1, q.2.1, q.2.2.1, va_K.moved (u := U) (U := U.calling g mk a) (Vm.Alike.refl U.vm) q.2.2.2.1, q.2.2.2.2.1, q.2.2.2.2.2.call⟩
theorem ax_prP {s : State} {H : Heap} {av : List Value} : ∀ U : State, U.heap = H → s.WarmedH U.vm → va_Pc av (fun _ => True) av.toArray U := fun _ _ _ => ⟨rfl, trivial⟩
theorem ax_prR {D : va_G} {cl : List vw_C} {ws : va_W} {tys : List (ClassId × FieldType)} {sa ta : Nat → Nat} {s : State} {H : Heap} {locs : List Loc} {A : Nat → Prop} {av : List Value} (hP : va_P D cl ws H) (hK : va_K D cl tys s) (hS : va_S A s.heap H locs) (hE : ax_S sa ta A s s.heap) : ∀ U : State, U.heap = H → s.WarmedH U.vm → va_Pc av (ax_R D cl ws tys sa ta) av.toArray U := fun U hU hW => ⟨rfl, by rw [hU]; exact hP, va_K.moved hW.alike hK, ax_S.go hS hU hW (fun _ h => h.elim) hE⟩
theorem ax_prW {D : va_G} {cl : List vw_C} {ws : va_W} {tys : List (ClassId × FieldType)} {sa ta : Nat → Nat} {s : State} {H : Heap} {locs : List Loc} {A B : Nat → Prop} {av : List Value} (hP : va_P D cl ws H) (hK : va_K D cl tys s) (hD : va_D B ws) (hS : va_S A s.heap H locs) (hF : ∀ q, va_A ws H.size q → A q) (hE : ax_S sa ta A s s.heap) : ∀ U : State, U.heap = H → s.WarmedH U.vm → va_Pc av (ax_W D cl ws tys sa ta H.size) av.toArray U := fun U hU hW => ⟨rfl, by rw [hU], by rw [hU]; exact hP, va_K.moved hW.alike hK, hD.weaken (fun _ _ _ _ => trivial), ax_S.go hS hU hW hF hE⟩
section AXR
variable {p : Program} {l : Launch} {e : Env} {R : Room} {s : State} {m : MethodId} {args : Array Value} {below : List Frame} {meth : Method} {c : Code} {H : Heap} {locs : List Loc} {cells slots : Nat} {Q : State → Prop} {pc : Nat} {ls : Array Slot} {rest : List Value}
theorem ax_i {x y : Int32} (h : x = y) (k : W p l e R s m args below meth c H locs cells slots Q (F0 m pc ls (.int y :: rest))) : W p l e R s m args below meth c H locs cells slots Q (F0 m pc ls (.int x :: rest)) := by subst h; exact k
theorem ax_l {x y : Int64} (h : x = y) (k : W p l e R s m args below meth c H locs cells slots Q (F0 m pc ls (.long y :: rest))) : W p l e R s m args below meth c H locs cells slots Q (F0 m pc ls (.long x :: rest)) := by subst h; exact k
theorem ax_d {x y : UInt64} (h : x = y) (k : W p l e R s m args below meth c H locs cells slots Q (F0 m pc ls (.double y :: rest))) : W p l e R s m args below meth c H locs cells slots Q (F0 m pc ls (.double x :: rest)) := by subst h; exact k
end AXR
/-! numbers -/
theorem ax_lt (a b : Int32) : a < b ↔ a.toInt < b.toInt := Int32.lt_iff_toInt_lt
theorem ax_le (a b : Int32) : a ≤ b ↔ a.toInt ≤ b.toInt := Int32.le_iff_toInt_le
theorem ax_eq (a b : Int32) : a = b ↔ a.toInt = b.toInt := ⟨fun h => by rw [h], fun h => Int32.toInt_inj.mp h⟩
/-- a test's answer -/
abbrev ax_bo (r : Int32) (P : Prop) : Prop := (r = 1 ∧ P) ∨ (r = 0 ∧ ¬ P)
theorem ax_uz {x : Int64} {k : Nat} : vp_updL (fun _ => x) k x = fun _ => x := by funext j; unfold vp_updL; split <;> rfl
/-- a method with a table of its own that returns -/
theorem ax_MetWH {l : Launch} {y : MethodName} {ws ws' : List Cond} {rm : Room} {Pc : Array Value → State → Prop} {Qc : Array Value → State → Outcome → State → Prop} {mc ms : Nat} {free : Addr → Prop} {cc : ByteArray} {maxL : Nat} {ret : Option FieldType} {hh : List (Nat × Nat × Nat × Nat)}
    (hy : plainName y.cls = true) (hw : ws = Cond.codeWith y cc maxL ret hh :: ws')
    (body : ∀ p e s m args below meth c s₁, BodyLoose p l y (headSpec ws rm) cc maxL ret e s m args below meth c s₁ → c.maxLocals = maxL → Pc args s →
      W p l e (headSpec ws rm).room s m args below meth c s.heap [] 0 0 (MQ below Qc args s mc ms free) (entryFrame m args maxL)) : Met l y ws rm Pc Qc mc ms free := by
  refine MetFree.of_bodyS (code := cc) (maxLocals := maxL) (ret := ret) hy ?_ ?_
  · intro args s m h hn
    obtain ⟨m9, meth, c, hn9, h1, h2, h3, h4, -, h5, h6, -⟩ := Cond.codeWith_spec (atoms_spec (ws := ws) h _ (by rw [hw]; exact List.mem_cons_self))
    cases hn.symm.trans hn9
    exact ⟨meth, c, h1, h2, h3, h4, h5, h6⟩
  · intro p e s m args below meth c s₁ B hml hP _
    have hh0 : s₁.heap = s.heap := by rw [B.state]; rfl
    obtain ⟨t, a1, o, b1, b2, b3⟩ := body p e s m args below meth c s₁ B hml hP s₁ hh0 (Stand.of_body B)
    exact ⟨t, o, a1, b1, b2, ⟨b3.1, b3.2⟩⟩
theorem ax_vaF {A : Nat → Prop} {s t : State} {H : Heap} {locs : List Loc} (hS : va_S A s.heap H locs) (h1 : H.size ≤ t.heap.size) (h2 : ∀ q : Nat, q < H.size → t.heap[q]? = H[q]?) : va_F A s t := ⟨Nat.le_trans hS.1 h1, fun q h9 h8 => (h2 q (Nat.lt_of_lt_of_le h9 hS.1)).trans (hS.2.1 q h9 h8)⟩
def ax_B63 : List Cond := [.declares (Bundle.initS "java/lang/RuntimeException"), .declares (Bundle.initS "java/lang/Exception"), .declares (Bundle.initS Bundle.tN), .castable "java/lang/IndexOutOfBoundsException" "java/lang/IndexOutOfBoundsException"]
theorem ax_nb63 : ∀ w ∈ (vx_atS RX4 63 "java/lang/IndexOutOfBoundsException" ["java/lang/RuntimeException", "java/lang/Exception"]).filter (fun w => !goodWord w), w ∈ ax_B63 := by decide +kernel
theorem ax_gd63 : ∀ w ∈ Cond.classLink RX4 59 "java/lang/IndexOutOfBoundsException" :: Cond.initialized "java/lang/IndexOutOfBoundsException" :: vx_atS RX4 63 "java/lang/IndexOutOfBoundsException" ["java/lang/RuntimeException", "java/lang/Exception"], vx_ot w = true := by decide +kernel
theorem ax_hat63 {sa ta : Nat → Nat} {A : Nat → Prop} {s : State} {args : Array Value} (hE : ax_S sa ta A s s.heap) (h : ∀ w ∈ (vx_atS RX4 63 "java/lang/IndexOutOfBoundsException" ["java/lang/RuntimeException", "java/lang/Exception"]).filter goodWord, w.before args s = true) : ∀ w ∈ vx_atS RX4 63 "java/lang/IndexOutOfBoundsException" ["java/lang/RuntimeException", "java/lang/Exception"], w.before args s = true :=
  vx_hat h ax_nb63 (vx_c (va_Nw.use rfl hE.d0) (vx_c (va_Nw.use rfl hE.d1) (vx_c (va_Nw.use rfl hE.d2) (vx_c (va_Nw.use rfl hE.c2) vx_n))))
def ax_B81 : List Cond := [.declares (Bundle.initS "java/lang/RuntimeException"), .declares (Bundle.initS "java/lang/Exception"), .declares (Bundle.initS Bundle.tN), .castable "java/lang/IllegalArgumentException" "java/lang/IllegalArgumentException"]
theorem ax_nb81 : ∀ w ∈ (vx_atS RX4 81 "java/lang/IllegalArgumentException" ["java/lang/RuntimeException", "java/lang/Exception"]).filter (fun w => !goodWord w), w ∈ ax_B81 := by decide +kernel
theorem ax_gd81 : ∀ w ∈ Cond.classLink RX4 77 "java/lang/IllegalArgumentException" :: Cond.initialized "java/lang/IllegalArgumentException" :: vx_atS RX4 81 "java/lang/IllegalArgumentException" ["java/lang/RuntimeException", "java/lang/Exception"], vx_ot w = true := by decide +kernel
theorem ax_hat81 {sa ta : Nat → Nat} {A : Nat → Prop} {s : State} {args : Array Value} (hE : ax_S sa ta A s s.heap) (h : ∀ w ∈ (vx_atS RX4 81 "java/lang/IllegalArgumentException" ["java/lang/RuntimeException", "java/lang/Exception"]).filter goodWord, w.before args s = true) : ∀ w ∈ vx_atS RX4 81 "java/lang/IllegalArgumentException" ["java/lang/RuntimeException", "java/lang/Exception"], w.before args s = true :=
  vx_hat h ax_nb81 (vx_c (va_Nw.use rfl hE.d0) (vx_c (va_Nw.use rfl hE.d1) (vx_c (va_Nw.use rfl hE.d2) (vx_c (va_Nw.use rfl hE.c0) vx_n))))
/-- a method of a class some of whose methods are the machine's own -/
theorem ax_MetF {l : Launch} {y : MethodName} {ws ws' : List Cond} {rm : Room} {Pc : Array Value → State → Prop} {Qc : Array Value → State → Outcome → State → Prop} {mc ms : Nat} {free : Addr → Prop} {cc : ByteArray} {maxL : Nat} {ret : Option FieldType}
    (hy : plainFor y = true) (hw : ws = Cond.code y cc maxL ret :: ws')
    (body : ∀ p e s m args below meth c s₁, BodyLoose p l y (headSpec ws rm) cc maxL ret e s m args below meth c s₁ → c.maxLocals = maxL → Pc args s →
      W p l e (headSpec ws rm).room s m args below meth c s.heap [] 0 0 (MQ below Qc args s mc ms free) (entryFrame m args maxL)) : Met l y ws rm Pc Qc mc ms free := by
  refine MetFree.of_bodySF (code := cc) (maxLocals := maxL) (ret := ret) hy ?_ ?_
  · intro args s m h hn
    obtain ⟨meth, c, h1, h2, h3, h4, h5, h6, -, -⟩ := Cond.code_spec hn (atoms_spec (ws := ws) h _ (by rw [hw]; exact List.mem_cons_self))
    exact ⟨meth, c, h1, h2, h3, h4, h5, h6⟩
  · intro p e s m args below meth c s₁ B hml hP _
    have hh0 : s₁.heap = s.heap := by rw [B.state]; rfl
    obtain ⟨t, a1, o, b1, b2, b3⟩ := body p e s m args below meth c s₁ B hml hP s₁ hh0 (Stand.of_body B)
    exact ⟨t, o, a1, b1, b2, ⟨b3.1, b3.2⟩⟩
