/-! Math.max and Math.min of two zeros: the table of natives runs them. After the manner of the library's laws of such entries. -/
theorem ax_ov {tb : Tables} {e : Env} {s : State} {f : JFrame} {k : Class} {x : Method} {row : NativeRow} (hpc : f.pc = 0) (hk : s.vm.classes[f.method.cls]? = some k) (hin : k.name ∈ overriddenIn) (hboot : k.loader = none) (hx : k.methods[f.method.idx]? = some x) (hrow : NativeRow.find? tb.natives k.name x.name x.desc = some row) : overridden tb e s f = some row := by
  unfold overridden
  simp [hpc, hk, hboot, hx, hrow]
  intro h
  exact absurd hin h
def ax_row_max : NativeRow := (NativeRow.find? Native.java_lang_Math.nans.rows "java/lang/Math" "max" "(DD)D").get (by decide +kernel)
set_option maxRecDepth 100000 in
theorem ax_rowis_max (p : Program) : NativeRow.find? p.tables.natives "java/lang/Math" "max" "(DD)D" = some ax_row_max := by cases p <;> rfl
theorem ax_run_max (e : Env) (S : State) : ∃ acts, (ax_row_max.sem #[.double 0, .double 0]).run e S = .ok (some (.double 0)) S acts := by
  have hsem : ax_row_max.sem #[.double 0, .double 0] = (do
      let r ← if FP.dIsNaN 0 then anyNaN64 0 else if FP.dIsNaN 0 then anyNaN64 0 else Pure.pure (Native.java_lang_Math.nans.pick64 true 0 0)
      mark "nat.java_lang_Math.max"
      Pure.pure (some (.double r))) := rfl
  have hz : FP.dIsNaN 0 = false := by decide +kernel
  have hp : Native.java_lang_Math.nans.pick64 true 0 0 = 0 := by decide +kernel
  have hw : wpRun (ax_row_max.sem #[.double 0, .double 0]) (fun v s₂ _ => v = some (.double 0) ∧ s₂ = S) (fun _ _ _ => False) e S := by
    rw [hsem]
    simp [jvm, wpRun, hz, hp]
  have hw' := (wpRun_iff_run _ _ _ _ _).mp hw
  cases hr : (ax_row_max.sem #[.double 0, .double 0]).run e S with
  | ok v s₂ acts₂ => rw [hr] at hw'; obtain ⟨rfl, rfl⟩ := hw'; exact ⟨_, rfl⟩
  | ctl x s₂ acts₂ => rw [hr] at hw'; cases x <;> exact hw'.elim
theorem ax_step_max (p : Program) {e : Env} {below : List Frame} {s target : State} {g : JFrame} {c : Code}
    (htopS : s.topJava?.isSome) (habove : ∃ mid, s.frames.tail = mid ++ below) (hrunning : s.status = .running) (hrunnable : s.curStatus? = some .runnable) (haloneS : s.alone = true) (hcodeG : s.code? g.method = some c)
    {m : MethodId} {meth : Method} {k : Class} {cm : Code} (acts : List Action)
    (hk : s.vm.classes[m.cls]? = some k) (hx : k.methods[m.idx]? = some meth) (hboot : k.loader = none)
    (hkn : k.name = "java/lang/Math") (hmn : meth.name = "max") (hmd : meth.desc = "(DD)D") (hsig : parseMethodDescriptor "(DD)D" = some meth.sig)
    (hc : meth.code = some cm) (hml : cm.maxLocals = 4) (hl : meth.locks = false)
    (hroom : (s.calling g m #[.double 0, .double 0]).hasRoom e.platform {} = true)
    {ig : Instr} {len : Nat} (hdg : decode c.code g.pc = .ok (ig, len))
    (hrest : Steps p.tables e below (s.setTop { g with pc := g.pc + len, stack := .double 0 :: g.stack }) target) :
    Steps p.tables e below (doInvoke e (s.setTop g) acts m #[.double 0, .double 0]).1 target := by
  obtain ⟨g₀, hg⟩ := Option.isSome_iff_exists.mp htopS
  obtain ⟨r, hr⟩ := State.topJava?_eq_some.mp hg
  obtain ⟨mid, hmid⟩ := habove
  have hcur : s.cur < s.threads.size := State.cur_lt_of_frames hr
  have hm : s.vm.method? m = some meth := by simp [Vm.method?, hk, hx]
  have htop : s.setTop g = s.setFrames (.java g :: r) := State.setTop_of_frames _ hr
  have htail : s.frames.tail = r := by rw [hr]; rfl
  have hfull : e.platform.stackFull (s.setTop g).me (s.setTop g).frames cm.maxLocals = false := by
    have hfc := State.frames_calling htopS g m #[.double 0, .double 0]
    obtain ⟨-, r2, -, r4⟩ := State.hasRoom_stack hroom
    rw [State.localsInUse_invoking hfc (meth := meth) (c := cm) hm hc] at r4
    rw [hfc, htail] at r2
    rw [htail] at r4
    have hw := stackUse_le_stackWeight (.java g :: r)
    rw [State.calling_eq htopS, State.stackLimits_setFrames] at r2 r4
    rw [htop, State.frames_setFrames _ hcur]
    refine Platform.stackFull_eq_false (by rw [State.stackLimits_setFrames]; simp only [List.length_cons] at r2 ⊢; have : ({} : Room).frames = 0 := rfl; omega) (by rw [State.stackLimits_setFrames]; have : ({} : Room).locals = 0 := rfl; omega)
  rw [(doInvoke_java (s := s.setTop g) (e := e) (acts := acts) (args := #[.double 0, .double 0]) (meth := meth) (code := cm) hm hc hl hfull).1, hml]
  have hU : (s.setTop g).pushFrame (.java { method := m, pc := 0, locals := argsToLocals #[.double 0, .double 0] 4, stack := [], locked := none }) = s.setFrames (.java (entryFrame m #[.double 0, .double 0] 4) :: .java g :: r) := by
    rw [State.pushFrame, State.frames_setTop _ hr, htop, State.setFrames_setFrames]
    rfl
  rw [hU]
  have hf1 : (s.setFrames (.java (entryFrame m #[.double 0, .double 0] 4) :: .java g :: r)).frames = .java (entryFrame m #[.double 0, .double 0] 4) :: .java g :: r := State.frames_setFrames _ hcur
  have hov : overridden p.tables e (s.setFrames (.java (entryFrame m #[.double 0, .double 0] 4) :: .java g :: r)) (entryFrame m #[.double 0, .double 0] 4) = some ax_row_max :=
    ax_ov (k := k) (x := meth) rfl hk (by rw [hkn]; decide) hboot hx (by rw [hkn, hmn, hmd]; exact ax_rowis_max p)
  have hb2 : ∀ F : List Frame, ((s.setFrames F).vm.classes[m.cls]?.bind fun y => y.methods[m.idx]?) = some meth := by
    intro F
    show (s.vm.classes[m.cls]?.bind fun y => y.methods[m.idx]?) = some meth
    simp [hk, hx]
  have hb3 : (s.vm.classes[m.cls]?.bind fun y => y.methods[m.idx]?) = some meth := by simp [hk, hx]
  have hsig2 : parseMethodDescriptor "(DD)D" = some { parameters := [.double, .double], returnType := some .double } := by decide +kernel
  have hparams : meth.sig.parameters.length = 2 := by
    have h3 := hsig
    rw [hsig2] at h3
    rw [← Option.some.inj h3]
    rfl
  have htake : ∀ n : Nat, List.take (2 + n) [Value.double 0, Value.double 0] = [Value.double 0, Value.double 0] := fun n => List.take_of_length_le (Nat.le_add_right 2 n)
  obtain ⟨acts₂, hr2⟩ := ax_run_max e (s.setFrames (.native { method := m, args := #[.double 0, .double 0] } :: .java g :: r))
  have hcode : ∀ F : List Frame, (s.setFrames F).code? g.method = some c := by
    intro F
    have := hcodeG
    rw [State.code?_eq] at this ⊢
    simpa [State.setFrames] using this
  have hfs : handOver (s.setFrames (.native { method := m, args := #[.double 0, .double 0] } :: .java g :: r)) (some (.double 0)) (.java g :: r)
      = some (.java { g with pc := g.pc + len, stack := .double 0 :: g.stack } :: r) := by
    simp [handOver, hcode, hdg, Except.toOption]
  have hstep2 : (stepThread p.tables e (s.setFrames (.java (entryFrame m #[.double 0, .double 0] 4) :: .java g :: r))).1 = s.setTop { g with pc := g.pc + len, stack := .double 0 :: g.stack } := by
    unfold stepThread
    simp only [hf1, hov]
    simp [entryFrame, argsToLocals, Value.category, argCount, hb2, hb3, hparams, htake, hr2, afterNative]
    rw [doReturn_native (f := { method := m, args := #[.double 0, .double 0] }) (below := .java g :: r) (State.frames_setFrames _ hcur) rfl hfs, State.setFrames_setFrames, ← State.setTop_of_frames _ hr]
  refine Steps.head ⟨hrunning, by simpa using hrunnable, by simpa using haloneS⟩ ⟨.java (entryFrame m #[.double 0, .double 0] 4) :: .java g :: mid, by rw [hf1]; rw [hr] at hmid; simp at hmid; simp [hmid], by simp, by simp⟩ ?_
  rw [hstep2]
  exact hrest
theorem ax_back_max {l : Launch} {R : Room} {p : Program} {e : Env} {below : List Frame} {s : State} {sargs : Array Value} {len W : Nat} (hcode : (Cond.code yJ9_max_eb370 cJ9_max_eb370 4 (some .double)).before sargs s = true)
    (hfr : 1 ≤ R.frames) (hlo : W + 15 ≤ R.locals) :
    Back l R p e below s sargs yJ9_max_eb370 len W (fun A a' => A.cells ≤ R.cells ∧ A.slots ≤ R.slots ∧ a' = #[.double 0, .double 0]) (fun A _ v B => v = some (.double 0) ∧ B = A) := by
  intro m meth c A g ig mk a' X hg hsize hdg hW hnamed ⟨hc, hs, ha'⟩
  subst ha'
  have hcodeU : (Cond.code yJ9_max_eb370 cJ9_max_eb370 4 (some .double)).before sargs A.U = true := word_at X.warmed (Or.inl (by first | rfl | simp [Cond.onTables, Cond.keeps, Cond.steady])) hcode
  obtain ⟨methM, cM, hmethM, hcodeM', -, hlocalsM, -, hlocksM, -, hsigM⟩ := Cond.code_spec hnamed hcodeU
  obtain ⟨kP, hkP, hkname⟩ := className_of_methodNamed hnamed
  obtain ⟨hmnM, hmdM⟩ := name_of_methodNamed hnamed hmethM
  have hxP : kP.methods[mk.idx]? = some methM := by simpa [Vm.method?, hkP] using hmethM
  have hbootP : kP.loader = none := Vm.bootOf_findClass (findClass_of_methodNamed hnamed) hkP
  refine ⟨some (.double 0), A, X, ⟨rfl, rfl⟩, ?_⟩
  exact ax_step_max p X.here.top X.here.above X.here.running X.here.runnable X.here.alone (by rw [hg]; exact X.here.code) [] hkP hxP hbootP hkname hmnM hmdM hsigM hcodeM' hlocalsM hlocksM
    (X.room_calling hsize hmethM hcodeM' (R' := {}) (by show 0 + 1 ≤ R.frames; omega) (by rw [hlocalsM]; show _ + (4 + 11) + 0 ≤ R.locals; omega) (by show A.cells + 0 ≤ R.cells; omega) (by show A.slots + 0 ≤ R.slots; omega)) hdg (Steps.refl _)
theorem ax_mmax {p : Program} {l : Launch} {e : Env} {R : Room} {s : State} {m : MethodId} {args : Array Value} {below : List Frame} {meth : Method} {c : Code} {H : Heap} {locs : List Loc} {cells slots : Nat} {Q : State → Prop} {pc : Nat} {ls : Array Slot} {rest : List Value} {cc : ByteArray} (hexec : p.tables.exec = Jvm.exec) (hb : c.code = cc) (hml : c.maxLocals = ls.size) {own : String} {index : Nat} (hown : s.vm.findClass own = some m.cls)
    (hlink : (Cond.methodLink own index yJ9_max_eb370).before args s = true) (hstat : (Cond.static yJ9_max_eb370).before args s = true) (hini : (Cond.initialized "java/lang/Math").before args s = true) (hcode : (Cond.code yJ9_max_eb370 cJ9_max_eb370 4 (some .double)).before args s = true)
    (hframes : 1 ≤ R.frames) (hlocals : (rest.map fun v => v.category).sum + 15 ≤ R.locals) (hc : cells ≤ R.cells) (hs : slots ≤ R.slots) (hdg : decode cc pc = .ok (.invokestatic index, 3))
    (kk : W p l e R s m args below meth c H locs cells slots Q (F0 m (pc + 3) ls (.double 0 :: rest))) : W p l e R s m args below meth c H locs cells slots Q (F0 m pc ls (.double 0 :: .double 0 :: rest)) := by
  intro T hT X
  obtain ⟨v, vm₁, ⟨U2, L2, c2, n2⟩, hW₁, X2, ⟨hv, hB⟩, st⟩ := callS X hexec (y := yJ9_max_eb370) hown hlink hstat hini hcode (by decide) (ax_back_max (W := (rest.map fun v => v.category).sum) hcode hframes hlocals) (g := F0 m pc ls (.double 0 :: .double 0 :: rest)) rfl (by rw [hml]) (argsL := [.double 0, .double 0]) (rest := rest)
    (fun sig h => by
      have h2 : parseMethodDescriptor "(DD)D" = some { parameters := [.double, .double], returnType := some .double } := by decide +kernel
      have h3 : parseMethodDescriptor "(DD)D" = some sig := h
      rw [h2] at h3
      rw [← Option.some.inj h3]; rfl) rfl (by show 2 * 0 + _ ≤ _; omega) (by rw [hb]; exact hdg) (fun vm₁ _ => ⟨hc, hs, rfl⟩)
  cases hB
  subst hv
  obtain ⟨t, a1, b1⟩ := kk (T.setVm vm₁) hT X2
  exact ⟨t, st t a1, b1⟩
def ax_row_min : NativeRow := (NativeRow.find? Native.java_lang_Math.nans.rows "java/lang/Math" "min" "(DD)D").get (by decide +kernel)
set_option maxRecDepth 100000 in
theorem ax_rowis_min (p : Program) : NativeRow.find? p.tables.natives "java/lang/Math" "min" "(DD)D" = some ax_row_min := by cases p <;> rfl
theorem ax_run_min (e : Env) (S : State) : ∃ acts, (ax_row_min.sem #[.double 0, .double 0]).run e S = .ok (some (.double 0)) S acts := by
  have hsem : ax_row_min.sem #[.double 0, .double 0] = (do
      let r ← if FP.dIsNaN 0 then anyNaN64 0 else if FP.dIsNaN 0 then anyNaN64 0 else Pure.pure (Native.java_lang_Math.nans.pick64 false 0 0)
      mark "nat.java_lang_Math.min"
      Pure.pure (some (.double r))) := rfl
  have hz : FP.dIsNaN 0 = false := by decide +kernel
  have hp : Native.java_lang_Math.nans.pick64 false 0 0 = 0 := by decide +kernel
  have hw : wpRun (ax_row_min.sem #[.double 0, .double 0]) (fun v s₂ _ => v = some (.double 0) ∧ s₂ = S) (fun _ _ _ => False) e S := by
    rw [hsem]
    simp [jvm, wpRun, hz, hp]
  have hw' := (wpRun_iff_run _ _ _ _ _).mp hw
  cases hr : (ax_row_min.sem #[.double 0, .double 0]).run e S with
  | ok v s₂ acts₂ => rw [hr] at hw'; obtain ⟨rfl, rfl⟩ := hw'; exact ⟨_, rfl⟩
  | ctl x s₂ acts₂ => rw [hr] at hw'; cases x <;> exact hw'.elim
theorem ax_step_min (p : Program) {e : Env} {below : List Frame} {s target : State} {g : JFrame} {c : Code}
    (htopS : s.topJava?.isSome) (habove : ∃ mid, s.frames.tail = mid ++ below) (hrunning : s.status = .running) (hrunnable : s.curStatus? = some .runnable) (haloneS : s.alone = true) (hcodeG : s.code? g.method = some c)
    {m : MethodId} {meth : Method} {k : Class} {cm : Code} (acts : List Action)
    (hk : s.vm.classes[m.cls]? = some k) (hx : k.methods[m.idx]? = some meth) (hboot : k.loader = none)
    (hkn : k.name = "java/lang/Math") (hmn : meth.name = "min") (hmd : meth.desc = "(DD)D") (hsig : parseMethodDescriptor "(DD)D" = some meth.sig)
    (hc : meth.code = some cm) (hml : cm.maxLocals = 4) (hl : meth.locks = false)
    (hroom : (s.calling g m #[.double 0, .double 0]).hasRoom e.platform {} = true)
    {ig : Instr} {len : Nat} (hdg : decode c.code g.pc = .ok (ig, len))
    (hrest : Steps p.tables e below (s.setTop { g with pc := g.pc + len, stack := .double 0 :: g.stack }) target) :
    Steps p.tables e below (doInvoke e (s.setTop g) acts m #[.double 0, .double 0]).1 target := by
  obtain ⟨g₀, hg⟩ := Option.isSome_iff_exists.mp htopS
  obtain ⟨r, hr⟩ := State.topJava?_eq_some.mp hg
  obtain ⟨mid, hmid⟩ := habove
  have hcur : s.cur < s.threads.size := State.cur_lt_of_frames hr
  have hm : s.vm.method? m = some meth := by simp [Vm.method?, hk, hx]
  have htop : s.setTop g = s.setFrames (.java g :: r) := State.setTop_of_frames _ hr
  have htail : s.frames.tail = r := by rw [hr]; rfl
  have hfull : e.platform.stackFull (s.setTop g).me (s.setTop g).frames cm.maxLocals = false := by
    have hfc := State.frames_calling htopS g m #[.double 0, .double 0]
    obtain ⟨-, r2, -, r4⟩ := State.hasRoom_stack hroom
    rw [State.localsInUse_invoking hfc (meth := meth) (c := cm) hm hc] at r4
    rw [hfc, htail] at r2
    rw [htail] at r4
    have hw := stackUse_le_stackWeight (.java g :: r)
    rw [State.calling_eq htopS, State.stackLimits_setFrames] at r2 r4
    rw [htop, State.frames_setFrames _ hcur]
    refine Platform.stackFull_eq_false (by rw [State.stackLimits_setFrames]; simp only [List.length_cons] at r2 ⊢; have : ({} : Room).frames = 0 := rfl; omega) (by rw [State.stackLimits_setFrames]; have : ({} : Room).locals = 0 := rfl; omega)
  rw [(doInvoke_java (s := s.setTop g) (e := e) (acts := acts) (args := #[.double 0, .double 0]) (meth := meth) (code := cm) hm hc hl hfull).1, hml]
  have hU : (s.setTop g).pushFrame (.java { method := m, pc := 0, locals := argsToLocals #[.double 0, .double 0] 4, stack := [], locked := none }) = s.setFrames (.java (entryFrame m #[.double 0, .double 0] 4) :: .java g :: r) := by
    rw [State.pushFrame, State.frames_setTop _ hr, htop, State.setFrames_setFrames]
    rfl
  rw [hU]
  have hf1 : (s.setFrames (.java (entryFrame m #[.double 0, .double 0] 4) :: .java g :: r)).frames = .java (entryFrame m #[.double 0, .double 0] 4) :: .java g :: r := State.frames_setFrames _ hcur
  have hov : overridden p.tables e (s.setFrames (.java (entryFrame m #[.double 0, .double 0] 4) :: .java g :: r)) (entryFrame m #[.double 0, .double 0] 4) = some ax_row_min :=
    ax_ov (k := k) (x := meth) rfl hk (by rw [hkn]; decide) hboot hx (by rw [hkn, hmn, hmd]; exact ax_rowis_min p)
  have hb2 : ∀ F : List Frame, ((s.setFrames F).vm.classes[m.cls]?.bind fun y => y.methods[m.idx]?) = some meth := by
    intro F
    show (s.vm.classes[m.cls]?.bind fun y => y.methods[m.idx]?) = some meth
    simp [hk, hx]
  have hb3 : (s.vm.classes[m.cls]?.bind fun y => y.methods[m.idx]?) = some meth := by simp [hk, hx]
  have hsig2 : parseMethodDescriptor "(DD)D" = some { parameters := [.double, .double], returnType := some .double } := by decide +kernel
  have hparams : meth.sig.parameters.length = 2 := by
    have h3 := hsig
    rw [hsig2] at h3
    rw [← Option.some.inj h3]
    rfl
  have htake : ∀ n : Nat, List.take (2 + n) [Value.double 0, Value.double 0] = [Value.double 0, Value.double 0] := fun n => List.take_of_length_le (Nat.le_add_right 2 n)
  obtain ⟨acts₂, hr2⟩ := ax_run_min e (s.setFrames (.native { method := m, args := #[.double 0, .double 0] } :: .java g :: r))
  have hcode : ∀ F : List Frame, (s.setFrames F).code? g.method = some c := by
    intro F
    have := hcodeG
    rw [State.code?_eq] at this ⊢
    simpa [State.setFrames] using this
  have hfs : handOver (s.setFrames (.native { method := m, args := #[.double 0, .double 0] } :: .java g :: r)) (some (.double 0)) (.java g :: r)
      = some (.java { g with pc := g.pc + len, stack := .double 0 :: g.stack } :: r) := by
    simp [handOver, hcode, hdg, Except.toOption]
  have hstep2 : (stepThread p.tables e (s.setFrames (.java (entryFrame m #[.double 0, .double 0] 4) :: .java g :: r))).1 = s.setTop { g with pc := g.pc + len, stack := .double 0 :: g.stack } := by
    unfold stepThread
    simp only [hf1, hov]
    simp [entryFrame, argsToLocals, Value.category, argCount, hb2, hb3, hparams, htake, hr2, afterNative]
    rw [doReturn_native (f := { method := m, args := #[.double 0, .double 0] }) (below := .java g :: r) (State.frames_setFrames _ hcur) rfl hfs, State.setFrames_setFrames, ← State.setTop_of_frames _ hr]
  refine Steps.head ⟨hrunning, by simpa using hrunnable, by simpa using haloneS⟩ ⟨.java (entryFrame m #[.double 0, .double 0] 4) :: .java g :: mid, by rw [hf1]; rw [hr] at hmid; simp at hmid; simp [hmid], by simp, by simp⟩ ?_
  rw [hstep2]
  exact hrest
theorem ax_back_min {l : Launch} {R : Room} {p : Program} {e : Env} {below : List Frame} {s : State} {sargs : Array Value} {len W : Nat} (hcode : (Cond.code yJ9_min_eb370 cJ9_min_eb370 4 (some .double)).before sargs s = true)
    (hfr : 1 ≤ R.frames) (hlo : W + 15 ≤ R.locals) :
    Back l R p e below s sargs yJ9_min_eb370 len W (fun A a' => A.cells ≤ R.cells ∧ A.slots ≤ R.slots ∧ a' = #[.double 0, .double 0]) (fun A _ v B => v = some (.double 0) ∧ B = A) := by
  intro m meth c A g ig mk a' X hg hsize hdg hW hnamed ⟨hc, hs, ha'⟩
  subst ha'
  have hcodeU : (Cond.code yJ9_min_eb370 cJ9_min_eb370 4 (some .double)).before sargs A.U = true := word_at X.warmed (Or.inl (by first | rfl | simp [Cond.onTables, Cond.keeps, Cond.steady])) hcode
  obtain ⟨methM, cM, hmethM, hcodeM', -, hlocalsM, -, hlocksM, -, hsigM⟩ := Cond.code_spec hnamed hcodeU
  obtain ⟨kP, hkP, hkname⟩ := className_of_methodNamed hnamed
  obtain ⟨hmnM, hmdM⟩ := name_of_methodNamed hnamed hmethM
  have hxP : kP.methods[mk.idx]? = some methM := by simpa [Vm.method?, hkP] using hmethM
  have hbootP : kP.loader = none := Vm.bootOf_findClass (findClass_of_methodNamed hnamed) hkP
  refine ⟨some (.double 0), A, X, ⟨rfl, rfl⟩, ?_⟩
  exact ax_step_min p X.here.top X.here.above X.here.running X.here.runnable X.here.alone (by rw [hg]; exact X.here.code) [] hkP hxP hbootP hkname hmnM hmdM hsigM hcodeM' hlocalsM hlocksM
    (X.room_calling hsize hmethM hcodeM' (R' := {}) (by show 0 + 1 ≤ R.frames; omega) (by rw [hlocalsM]; show _ + (4 + 11) + 0 ≤ R.locals; omega) (by show A.cells + 0 ≤ R.cells; omega) (by show A.slots + 0 ≤ R.slots; omega)) hdg (Steps.refl _)
theorem ax_mmin {p : Program} {l : Launch} {e : Env} {R : Room} {s : State} {m : MethodId} {args : Array Value} {below : List Frame} {meth : Method} {c : Code} {H : Heap} {locs : List Loc} {cells slots : Nat} {Q : State → Prop} {pc : Nat} {ls : Array Slot} {rest : List Value} {cc : ByteArray} (hexec : p.tables.exec = Jvm.exec) (hb : c.code = cc) (hml : c.maxLocals = ls.size) {own : String} {index : Nat} (hown : s.vm.findClass own = some m.cls)
    (hlink : (Cond.methodLink own index yJ9_min_eb370).before args s = true) (hstat : (Cond.static yJ9_min_eb370).before args s = true) (hini : (Cond.initialized "java/lang/Math").before args s = true) (hcode : (Cond.code yJ9_min_eb370 cJ9_min_eb370 4 (some .double)).before args s = true)
    (hframes : 1 ≤ R.frames) (hlocals : (rest.map fun v => v.category).sum + 15 ≤ R.locals) (hc : cells ≤ R.cells) (hs : slots ≤ R.slots) (hdg : decode cc pc = .ok (.invokestatic index, 3))
    (kk : W p l e R s m args below meth c H locs cells slots Q (F0 m (pc + 3) ls (.double 0 :: rest))) : W p l e R s m args below meth c H locs cells slots Q (F0 m pc ls (.double 0 :: .double 0 :: rest)) := by
  intro T hT X
  obtain ⟨v, vm₁, ⟨U2, L2, c2, n2⟩, hW₁, X2, ⟨hv, hB⟩, st⟩ := callS X hexec (y := yJ9_min_eb370) hown hlink hstat hini hcode (by decide) (ax_back_min (W := (rest.map fun v => v.category).sum) hcode hframes hlocals) (g := F0 m pc ls (.double 0 :: .double 0 :: rest)) rfl (by rw [hml]) (argsL := [.double 0, .double 0]) (rest := rest)
    (fun sig h => by
      have h2 : parseMethodDescriptor "(DD)D" = some { parameters := [.double, .double], returnType := some .double } := by decide +kernel
      have h3 : parseMethodDescriptor "(DD)D" = some sig := h
      rw [h2] at h3
      rw [← Option.some.inj h3]; rfl) rfl (by show 2 * 0 + _ ≤ _; omega) (by rw [hb]; exact hdg) (fun vm₁ _ => ⟨hc, hs, rfl⟩)
  cases hB
  subst hv
  obtain ⟨t, a1, b1⟩ := kk (T.setVm vm₁) hT X2
  exact ⟨t, st t a1, b1⟩
