theorem fm_all : ∀ k, k < 8 → ∀ n9, n9 < 8 → (¬ ((nI k - nI n9) ^^^ 8).toInt < 0 → ((nI k - nI n9) - (nI k - nI n9) / 8 * 8) = nI ((k + 8 - n9) % 8)) ∧ (((nI k - nI n9) ^^^ 8).toInt < 0 → ((nI k - nI n9) - (nI k - nI n9) / 8 * 8).toInt = 0 → ((nI k - nI n9) - (nI k - nI n9) / 8 * 8) = nI ((k + 8 - n9) % 8)) ∧ (((nI k - nI n9) ^^^ 8).toInt < 0 → ¬ ((nI k - nI n9) - (nI k - nI n9) / 8 * 8).toInt = 0 → ((nI k - nI n9) - (nI k - nI n9) / 8 * 8) + 8 = nI ((k + 8 - n9) % 8)) := by decide +kernel

theorem fm_ofWF {l : Launch} {y : MethodName} {ws ws' : List Cond} {rm : Room} {Pc : Array Value → State → Prop} {Qc : Array Value → State → Outcome → State → Prop} {mc ms : Nat} {free : Addr → Prop} {cc : ByteArray} {maxL : Nat} {ret : Option FieldType} (hy : plainFor y = true) (hw : ws = Cond.code y cc maxL ret :: ws')
    (body : ∀ p e s m args below meth c s₁, BodyLoose p l y (headSpec ws rm) cc maxL ret e s m args below meth c s₁ → c.maxLocals = maxL → Pc args s → W p l e (headSpec ws rm).room s m args below meth c s.heap [] 0 0 (MQ below Qc args s mc ms free) (entryFrame m args maxL)) : Met l y ws rm Pc Qc mc ms free := by
  refine MetFree.of_bodySF (code := cc) (maxLocals := maxL) (ret := ret) hy ?_ ?_
  · intro args s m h hn
    obtain ⟨meth, c, h1, h2, h3, h4, h5, h6, -, -⟩ := Cond.code_spec hn (atoms_spec (ws := ws) h _ (by rw [hw]; exact List.mem_cons_self))
    exact ⟨meth, c, h1, h2, h3, h4, h5, h6⟩
  · intro p e s m args below meth c s₁ B hml hP _
    have hh0 : s₁.heap = s.heap := by rw [B.state]; rfl
    obtain ⟨t, a1, o, b1, b2, b3, b4⟩ := body p e s m args below meth c s₁ B hml hP s₁ hh0 (Stand.of_body B)
    exact ⟨t, o, a1, b1, b2, b3, b4⟩
theorem fm_plain : plainFor yJ9_floorMod_7cf53 = true := Jvm.Free.JP.mathPlain rfl (by decide +kernel)

set_option maxHeartbeats 4000000 in
set_option maxRecDepth 100000 in
theorem c_J9_floorMod_7cf53 (l : Launch) (k : Nat) (n9 : Nat) (hk8 : k < 8) (hn7 : n9 ≤ 7) : Met l yJ9_floorMod_7cf53 wsJ9_floorMod_7cf53 ({ frames := 0, cells := 0, slots := 0, locals := 0 }) (va_Pc [.int (nI k - nI n9), .int 8] (fun _ => True)) (va_Qi (fun (r : Int32) (u9 : Unit) => r = (nI ((k + 8 - n9) % 8))) (fun _ _ => True) ax_no) 0 0 ax_no := by
  refine fm_ofWF (cc := cJ9_floorMod_7cf53) (maxL := 3) (ret := (some .int)) fm_plain rfl ?_
  intro p e s m args below meth c s₁ B hml hv
  obtain ⟨rfl, -⟩ := hv
  have hx := B.exec
  have hb := B.bytes
  have hr := B.returns
  have hts := atoms_spec (ws := wsJ9_floorMod_7cf53) B.pre
  have hown : s.vm.findClass RJ9 = some m.cls := findClass_of_methodNamed B.named
  have hlocks := B.notSynchronized
  have hS : va_S ax_no s.heap s.heap [] := va_S.rf
  have hl := lv_entry ([.int (nI k - nI n9), .int 8]) (n := 3) (Nat.le_of_ble_eq_true rfl)
  rw [lg_entry_eq]
  generalize (lg_sl ([.int (nI k - nI n9), .int 8]) ++ List.replicate (3 - (lg_sl ([.int (nI k - nI n9), .int 8])).length) Slot.unset).toArray = ls at hl ⊢
  have hl : lv_has ls 3 [(0, .int (nI k - nI n9)), (1, .int 8)] := hl
  refine lv_iload_n hx hb dJ9_floorMod_7cf53_0 rfl (lv_at hl 0 rfl) ?_
  refine lv_iload_n hx hb dJ9_floorMod_7cf53_1 rfl (lv_at hl 1 rfl) ?_
  refine lv_irem hx hb dJ9_floorMod_7cf53_2 (by decide) ?_
  refine lv_istore_n (lv' := [(2, .int ((nI k - nI n9) - (nI k - nI n9) / 8 * 8)), (0, .int (nI k - nI n9)), (1, .int 8)]) hx hb dJ9_floorMod_7cf53_3 rfl hl (by decide) rfl (fun ls hl => ?_)
  refine lv_iload_n hx hb dJ9_floorMod_7cf53_4 rfl (lv_at hl 1 rfl) ?_
  refine lv_iload_n hx hb dJ9_floorMod_7cf53_5 rfl (lv_at hl 2 rfl) ?_
  refine lv_ixor hx hb dJ9_floorMod_7cf53_6 ?_
  refine lv_if_ge (tgt := 18) hx hb dJ9_floorMod_7cf53_7 (by decide) (fun c_1 => ?_) (fun c_1 => ?_)
  · have c_1 : ¬ ((nI k - nI n9) ^^^ 8).toInt < 0 := ax_fgeT c_1
    refine lv_iload_n hx hb dJ9_floorMod_7cf53_18 rfl (lv_at hl 0 rfl) ?_
    refine W.widen (k := 0) (n := 0) (Nat.le_of_ble_eq_true rfl) (Nat.le_of_ble_eq_true rfl) ?_
    exact W.iret (v := ((nI k - nI n9) - (nI k - nI n9) / 8 * 8)) hx hb hr (fun t8 ht hW => ⟨⟨((nI k - nI n9) - (nI k - nI n9) / 8 * 8), (), rfl, (fm_all k hk8 n9 (by omega)).1 c_1, trivial⟩, hS.F ht⟩) hS.2.2 dJ9_floorMod_7cf53_19
  · have c_1 : ((nI k - nI n9) ^^^ 8).toInt < 0 := ax_fgeF c_1
    refine lv_iload_n hx hb dJ9_floorMod_7cf53_10 rfl (lv_at hl 0 rfl) ?_
    refine lv_if_eq (tgt := 18) hx hb dJ9_floorMod_7cf53_11 (by decide) (fun c_2 => ?_) (fun c_2 => ?_)
    · have c_2 : ((nI k - nI n9) - (nI k - nI n9) / 8 * 8).toInt = 0 := ax_feqT c_2
      refine lv_iload_n hx hb dJ9_floorMod_7cf53_18 rfl (lv_at hl 0 rfl) ?_
      refine W.widen (k := 0) (n := 0) (Nat.le_of_ble_eq_true rfl) (Nat.le_of_ble_eq_true rfl) ?_
      exact W.iret (v := ((nI k - nI n9) - (nI k - nI n9) / 8 * 8)) hx hb hr (fun t8 ht hW => ⟨⟨((nI k - nI n9) - (nI k - nI n9) / 8 * 8), (), rfl, (fm_all k hk8 n9 (by omega)).2.1 c_1 c_2, trivial⟩, hS.F ht⟩) hS.2.2 dJ9_floorMod_7cf53_19
    · have c_2 : ¬ ((nI k - nI n9) - (nI k - nI n9) / 8 * 8).toInt = 0 := ax_feqF c_2
      refine lv_iload_n hx hb dJ9_floorMod_7cf53_14 rfl (lv_at hl 0 rfl) ?_
      refine lv_iload_n hx hb dJ9_floorMod_7cf53_15 rfl (lv_at hl 2 rfl) ?_
      refine lv_iadd hx hb dJ9_floorMod_7cf53_16 ?_
      refine W.widen (k := 0) (n := 0) (Nat.le_of_ble_eq_true rfl) (Nat.le_of_ble_eq_true rfl) ?_
      exact W.iret (v := (((nI k - nI n9) - (nI k - nI n9) / 8 * 8) + 8)) hx hb hr (fun t8 ht hW => ⟨⟨(((nI k - nI n9) - (nI k - nI n9) / 8 * 8) + 8), (), rfl, (fm_all k hk8 n9 (by omega)).2.2 c_1 c_2, trivial⟩, hS.F ht⟩) hS.2.2 dJ9_floorMod_7cf53_17
