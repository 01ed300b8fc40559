/-! ===== methods with handlers: their bodies, their calls, a throw that is caught ===== -/
/-- which exceptions are of which class, of the machine around -/
def me_ce (U : State) : Prop := va_Nw (.castable "java/lang/IllegalStateException" "java/lang/IllegalStateException") U ∧ va_Nw (.castable "java/lang/IndexOutOfBoundsException" "java/lang/IndexOutOfBoundsException") U ∧ va_Nw (.castable "java/lang/IllegalArgumentException" "java/lang/IllegalArgumentException") U ∧ va_Nc "java/lang/IllegalArgumentException" "java/lang/IndexOutOfBoundsException" U ∧ va_Nc "java/lang/IllegalStateException" "java/lang/IndexOutOfBoundsException" U ∧ va_Nc "java/lang/IllegalStateException" "java/lang/IllegalArgumentException" U
def me_Qn (D : va_G) (z0 : Nat) (r : Int32) (M : me_M) : Array Value → State → Outcome → State → Prop := va_Qi (fun (r1 : Int32) (u : me_M × Nat) => r1 = r ∧ u.1 = M) (me_B D z0) (me_A z0)
section LWR
variable {p : Program} {l : Launch} {e : Env} {R : Room} {s : State} {m : MethodId} {args : Array Value} {below : List Frame} {meth : Method} {c : Code} {H : Heap} {locs : List Loc} {cells slots : Nat} {Q : State → Prop}
variable {cc : ByteArray} {nL pc : Nat} {ls : Array Slot} {rest st : List Value} {D : va_G} {tb : Nat → ClassId} {X : State → Prop} {z0 n a : Nat} {M : me_M} {own : String}
variable {C : String} {index maxL mc ms mc' ms' nA ci N' : Nat} {y : MethodName} {bytes : ByteArray} {ret : Option FieldType} {rm : Room} {As : List Value} {b n' : Nat} {M' : me_M} {r : Int32} {T' : u_T} {fs : List Value} {E0 : String}
theorem Met_ofWH {ws ws' : List Cond} {Pc : Array Value → State → Prop} {Qc : Array Value → State → Outcome → State → Prop} {free : Addr → Prop} {hh : List (Nat × Nat × Nat × Nat)}
    (hy : plainName y.cls = true) (hw : ws = Cond.codeWith y cc maxL ret hh :: ws')
    (body : ∀ p e s m args below meth c s₁, BodyLoose p l y (headSpec ws rm) cc maxL ret e s m args below meth c s₁ → c.maxLocals = maxL → Pc args s →
      W p l e (headSpec ws rm).room s m args below meth c s.heap [] 0 0 (MQ below Qc args s mc ms free) (entryFrame m args maxL)) : Met l y ws rm Pc Qc mc ms free := by
  refine MetFree.of_bodyS (code := cc) (maxLocals := maxL) (ret := ret) hy ?_ ?_
  · intro args s m h hn
    obtain ⟨m9, meth, c, hn9, h1, h2, h3, h4, -, h5, h6, -⟩ := Cond.codeWith_spec (atoms_spec (ws := ws) h _ (by rw [hw]; exact List.mem_cons_self))
    cases hn.symm.trans hn9
    exact ⟨meth, c, h1, h2, h3, h4, h5, h6⟩
  · intro p e s m args below meth c s₁ B hml hP _
    have hh0 : s₁.heap = s.heap := by rw [B.state]; rfl
    obtain ⟨t, a1, o, b1, b2, b3⟩ := body p e s m args below meth c s₁ B hml hP s₁ hh0 (Stand.of_body B)
    exact ⟨t, o, a1, b1, b2, ⟨b3.1, b3.2⟩⟩
theorem me_openH {as : List Value} {Qc : Array Value → State → Outcome → State → Prop} {hh : List (Nat × Nat × Nat × Nat)} (hy : plainName y.cls = true) (hcat : (lg_sl as).length ≤ nL)
    (body : ∀ (p : Program) (e : Env) (s : State) (m : MethodId) (args : Array Value) (below : List Frame) (meth : Method) (c : Code) (ls : Array Slot), me_cx ws_all p c cc nL s args m y.cls D tb X z0 → c.exceptionTable.toList = tableOf hh → meth.sig.returnType = ret → meth.locks = false → me_at D z0 M n s s.heap [] → lv_has ls nL (lv_args 0 as) →
      W p l e rm s m args below meth c s.heap [] 0 0 (MQ below Qc args s mc ms (me_A z0)) (F0 m 0 ls [])) : Met l y (.codeWith y cc nL ret hh :: ws_all) rm (me_Pc as D tb X z0 M n) Qc mc ms (me_A z0) := by
  refine Met_ofWH (cc := cc) (maxL := nL) (ret := ret) (hh := hh) hy rfl ?_
  intro p e s m args below meth c s₁ B hml hv
  have ht := vx_table (x := y) B (bytes := cc) (maxL' := nL) (ret' := ret) (hh := hh) (atoms_spec (ws := .codeWith y cc nL ret hh :: ws_all) B.pre _ List.mem_cons_self)
  obtain ⟨rfl, hXs, hz, hsz, hok, hE⟩ := hv
  have hts := atoms_spec (ws := .codeWith y cc nL ret hh :: ws_all) B.pre
  have hl := lv_entry as (n := nL) hcat
  rw [lg_entry_eq]
  exact body p e s m _ below meth c _ ⟨B.exec, B.bytes, hml, findClass_of_methodNamed B.named, fun w h => hts w (List.mem_cons_of_mem _ h), hE, hXs⟩ ht B.returns B.notSynchronized ⟨hok, hsz, hz, by omega, va_S.rf⟩ hl
theorem me_nret {v : Int32} (hC : me_cx ws_all p c cc nL s args m own D tb X z0) (hr : meth.sig.returnType = some .int) (hlk : meth.locks = false) (hM : me_at D z0 M n s H locs) (hv : v = r) (hMM : M = M') (hdg : decode cc pc = .ok (.ireturn, 1)) : W p l e R s m args below meth c H locs cells slots (MQ below (me_Qn D z0 r M') args s cells slots (me_A z0)) (F0 m pc ls [.int v]) := by
  subst hv; subst hMM
  exact W.iret hC.1 hC.2.1 hr (fun t ht hW => ⟨⟨v, (M, n), rfl, ⟨rfl, rfl⟩, by rw [ht]; exact hM.2.1, by rw [ht]; exact hM.1⟩, hM.2.2.2.2.F ht⟩) hM.2.2.2.2.2.2 hdg
theorem me_callSn {hh : List (Nat × Nat × Nat × Nat)} (hC : me_cx ws_all p c cc nL s args m own D tb X z0) (hl : ls.size = nL) (hM : me_at D z0 M n s H locs) (ct : Met l y (.codeWith y bytes maxL ret hh :: ws_all) rm (me_Pc As D tb X z0 M n) (me_Qn D z0 r M') mc ms (me_A z0)) (h1 : Cond.methodLink own index y ∈ ws_all) (h2 : Cond.static y ∈ ws_all) (h4 : Cond.initialized y.cls ∈ ws_all) (h5 : Cond.codeWith y bytes maxL ret hh ∈ ws_all) (hd : y.cls ≠ "java/lang/invoke/MethodHandle" ∧ y.cls ≠ "java/lang/invoke/VarHandle" ∧ (parseMethodDescriptor y.desc).map (fun d => d.parameters.length) = some nA) (hrc : rm.cells = mc) (hrs : rm.slots = ms) (hR : rm.frames + 1 ≤ R.frames ∧ 8 + (maxL + 11) + rm.locals ≤ R.locals) (hnA : As.length = nA) (hst : st = As.reverse ++ rest) (hr : (rest.map fun v => v.category).sum ≤ 8) (hdg : decode cc pc = .ok (.invokestatic index, 3)) (hf : cells + mc ≤ R.cells ∧ slots + ms ≤ R.slots)
    (kk : ∀ (H1 : Heap) (locs1 : List Loc) (n1 : Nat), me_at D z0 M' n1 s H1 locs1 → W p l e R s m args below meth c H1 locs1 (cells + mc) (slots + ms) Q (F0 m (pc + 3) ls (.int r :: rest))) : W p l e R s m args below meth c H locs cells slots Q (F0 m pc ls st) := by
  subst hst
  have cw : vx_CSW R s args own index y bytes maxL ret hh (.codeWith y bytes maxL ret hh :: ws_all) rm mc ms nA := by
    refine vx_cwSW nA hC.2.2.2.2.1 ?_ rfl hrc hrs hd hR
    intro w hw
    unfold va_wsS at hw
    rcases List.mem_append.mp hw with hw | hw
    · simp only [List.mem_cons, List.not_mem_nil, or_false] at hw
      rcases hw with rfl | rfl | rfl
      · exact ws_Good _ h1
      · exact ws_Good _ h2
      · exact ws_Good _ h4
    · exact ws_Goodc h5 w hw
  refine va_calli (vx_runSW (g := F0 m pc ls (As.reverse ++ rest)) (As := As) (rest := rest) ⟨hC.1, hC.2.1, hC.2.2.1, hC.2.2.2.1, hC.2.2.2.2.1⟩ ct cw ⟨me_blind, fun U hU hW => me_pre hC hM U hU hW⟩ rfl hnA hl rfl (lv_room hr) hdg hf) hM.2.2.2.2 (fun q _ h => h) (fun q h => h) (fun r1 u t H1 locs1 ht hvm hw hB hz1 hk1 hS => ?_)
  obtain ⟨rfl, hu⟩ := hw
  obtain ⟨M1, n1⟩ := u
  have hu : M1 = M' := hu
  subst hu
  exact kk H1 locs1 n1 (me_post hM ht hB hz1 hS)
theorem me_callVd (hC : me_cx ws_all p c cc nL s args m own D tb X z0) (hl : ls.size = nL) (hM : me_at D z0 M n s H locs) {rd : UInt64} (ct : Met l y (.code y bytes maxL ret :: ws_all) rm (me_Pc (.ref b :: As) D tb X z0 M n) (me_Qd D z0 rd M' n') mc ms (me_A z0)) (cw : CallW R s args own C index y bytes maxL ret (.code y bytes maxL ret :: ws_all) rm mc ms nA) (hnA : As.length = nA) (hc : me_cl[ci]? = some (C, T', N')) (he : M b = some (.inr (ci, fs))) (hst : st = As.reverse ++ .ref b :: rest) (hr : (rest.map fun v => v.category).sum ≤ 8) (hdg : decode cc pc = .ok (.invokevirtual index, 3)) (hf : cells + mc ≤ R.cells ∧ slots + ms ≤ R.slots)
    (kk : ∀ (H1 : Heap) (locs1 : List Loc), me_at D z0 M' n' s H1 locs1 → W p l e R s m args below meth c H1 locs1 (cells + mc) (slots + ms) Q (F0 m (pc + 3) ls (.double rd :: rest))) : W p l e R s m args below meth c H locs cells slots Q (F0 m pc ls st) := by
  subst hst
  refine va_calld (va_runV (g := F0 m pc ls (As.reverse ++ .ref b :: rest)) (As := As) (rest := rest) ⟨hC.1, hC.2.1, hC.2.2.1, hC.2.2.2.1, hC.2.2.2.2.1⟩ ct cw ⟨me_blind, me_recv hC hM hc he, fun U hU hW => me_pre hC hM U hU hW⟩ rfl hnA hl rfl (lv_room hr) hdg hf) hM.2.2.2.2 (fun q _ h => h) (fun q h => h) (fun r1 u t H1 locs1 ht hvm hw hB hz1 hk1 hS => ?_)
  obtain ⟨rfl, rfl⟩ := hw
  exact kk H1 locs1 (me_post hM ht hB hz1 hS)
theorem me_callVf (hC : me_cx ws_all p c cc nL s args m own D tb X z0) (hl : ls.size = nL) (hM : me_at D z0 M n s H locs) {rf : UInt32} (ct : Met l y (.code y bytes maxL ret :: ws_all) rm (me_Pc (.ref b :: As) D tb X z0 M n) (me_Qf D z0 rf M' n') mc ms (me_A z0)) (cw : CallW R s args own C index y bytes maxL ret (.code y bytes maxL ret :: ws_all) rm mc ms nA) (hnA : As.length = nA) (hc : me_cl[ci]? = some (C, T', N')) (he : M b = some (.inr (ci, fs))) (hst : st = As.reverse ++ .ref b :: rest) (hr : (rest.map fun v => v.category).sum ≤ 8) (hdg : decode cc pc = .ok (.invokevirtual index, 3)) (hf : cells + mc ≤ R.cells ∧ slots + ms ≤ R.slots)
    (kk : ∀ (H1 : Heap) (locs1 : List Loc), me_at D z0 M' n' s H1 locs1 → W p l e R s m args below meth c H1 locs1 (cells + mc) (slots + ms) Q (F0 m (pc + 3) ls (.float rf :: rest))) : W p l e R s m args below meth c H locs cells slots Q (F0 m pc ls st) := by
  subst hst
  refine va_callf (va_runV (g := F0 m pc ls (As.reverse ++ .ref b :: rest)) (As := As) (rest := rest) ⟨hC.1, hC.2.1, hC.2.2.1, hC.2.2.2.1, hC.2.2.2.2.1⟩ ct cw ⟨me_blind, me_recv hC hM hc he, fun U hU hW => me_pre hC hM U hU hW⟩ rfl hnA hl rfl (lv_room hr) hdg hf) hM.2.2.2.2 (fun q _ h => h) (fun q h => h) (fun r1 u t H1 locs1 ht hvm hw hB hz1 hk1 hS => ?_)
  obtain ⟨rfl, rfl⟩ := hw
  exact kk H1 locs1 (me_post hM ht hB hz1 hS)
theorem me_xcat {pre suf : List ExceptionTableEntry} {x : ExceptionTableEntry} (hC : me_cx ws_all p c cc nL s args m own D tb X z0) (hl : ls.size = nL) (hM : me_at D z0 M n s H locs) (ct : vx_Met l y (.code y bytes maxL ret :: ws_all) rm (me_Pc (.ref b :: As) D tb X z0 M n) me_no (me_XC D z0 M' E0) mc' ms' (me_A z0)) (cw : CallW R s args own C index y bytes maxL ret (.code y bytes maxL ret :: ws_all) rm mc' ms' nA) (hnA : As.length = nA) (hc : me_cl[ci]? = some (C, T', N')) (he : M b = some (.inr (ci, fs))) (hst : st = As.reverse ++ .ref b :: rest) (hr : (rest.map fun v => v.category).sum ≤ 8) (hdg : decode cc pc = .ok (.invokevirtual index, 3)) (hf : cells + mc' ≤ R.cells ∧ slots + ms' ≤ R.slots)
    (ht : c.exceptionTable.toList = pre ++ x :: suf) (hpass : ∀ z ∈ pre, covers z pc = false ∨ (z.catchType ≠ 0 ∧ ∃ nm : String, (Cond.classLink own z.catchType nm).before args s = true ∧ va_Nc E0 nm s)) (hx : covers x pc = true) (h0 : x.catchType ≠ 0) (hlink : Cond.classLink own x.catchType E0 ∈ ws_all) (hcast : (Cond.castable E0 E0).before args s = true)
    (kk : ∀ (H1 : Heap) (locs1 : List Loc) (n1 q : Nat), me_at D z0 M' n1 s H1 locs1 → W p l e R s m args below meth c H1 locs1 (cells + mc') (slots + ms') Q (F0 m x.handlerPc ls [.ref q])) : W p l e R s m args below meth c H locs cells slots Q (F0 m pc ls st) := by
  subst hst
  exact me_xrun (vx_runV (g := F0 m pc ls (As.reverse ++ .ref b :: rest)) (As := As) (rest := rest) ⟨hC.1, hC.2.1, hC.2.2.1, hC.2.2.2.1, hC.2.2.2.2.1⟩ ct cw ⟨me_blind, me_recv hC hM hc he, fun U hU hW => me_pre hC hM U hU hW⟩ rfl hnA hl rfl (lv_room hr) hdg hf) hM (fun H1 locs1 n1 q ce hM1 e1 e2 e3 => vx_catch hC.2.2.2.1 pre x suf ht hpass hx h0 (hC.2.2.2.2.1 _ hlink) hcast e1 e2 e3 (kk H1 locs1 n1 q hM1))
end LWR
