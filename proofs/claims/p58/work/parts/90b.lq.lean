/-! ===== the law's methods: ends of which only what holds is told ===== -/
def me_Qp (D : va_G) (z0 : Nat) (P : Int32 → me_M → Prop) : Array Value → State → Outcome → State → Prop := va_Qi (fun (r1 : Int32) (u : me_M × Nat) => P r1 u.1) (me_B D z0) (me_A z0)
def me_Ql (D : va_G) (z0 : Nat) (P : Int64 → me_M → Prop) : Array Value → State → Outcome → State → Prop := va_Ql (fun (r1 : Int64) (u : me_M × Nat) => P r1 u.1) (me_B D z0) (me_A z0)
def me_Qt (D : va_G) (z0 : Nat) (P : Nat → me_M → Prop) : Array Value → State → Outcome → State → Prop := va_Qr (fun (_ : me_M × Nat) => True) (fun u b t => P b u.1 ∧ me_B D z0 u t) (me_A z0)
section LQ
variable {p : Program} {l : Launch} {e : Env} {R : Room} {s : State} {m : MethodId} {args : Array Value} {below : List Frame} {meth : Method} {c : Code} {H : Heap} {locs : List Loc} {cells slots : Nat} {Q : State → Prop}
variable {cc : ByteArray} {nL pc : Nat} {ls : Array Slot} {rest st : List Value} {D : va_G} {tb : Nat → ClassId} {X : State → Prop} {z0 n a : Nat} {M : me_M} {own : String}
variable {C : String} {index maxL mc ms nA ci N' : Nat} {y : MethodName} {bytes : ByteArray} {ret : Option FieldType} {rm : Room} {As : List Value} {b n' : Nat} {M' : me_M} {r : Int32} {T' : u_T} {fs : List Value}
theorem me_callSp {P : Int32 → me_M → Prop} (hC : me_cx ws_all p c cc nL s args m own D tb X z0) (hl : ls.size = nL) (hM : me_at D z0 M n s H locs) (ct : Met l y (.code y bytes maxL ret :: ws_all) rm (me_Pc As D tb X z0 M n) (me_Qp D z0 P) mc ms (me_A z0)) (cw : CallB R s args own index y bytes maxL ret (.code y bytes maxL ret :: ws_all) rm mc ms nA ∧ (Cond.static y).before args s = true) (hnA : As.length = nA) (hst : st = As.reverse ++ rest) (hr : (rest.map fun v => v.category).sum ≤ 8) (hdg : decode cc pc = .ok (.invokestatic index, 3)) (hf : cells + mc ≤ R.cells ∧ slots + ms ≤ R.slots)
    (kk : ∀ (r : Int32) (M1 : me_M), P r M1 → ∀ (H1 : Heap) (locs1 : List Loc) (n1 : Nat), me_at D z0 M1 n1 s H1 locs1 → W p l e R s m args below meth c H1 locs1 (cells + mc) (slots + ms) Q (F0 m (pc + 3) ls (.int r :: rest))) : W p l e R s m args below meth c H locs cells slots Q (F0 m pc ls st) := by
  subst hst
  refine va_calli (va_runS (g := F0 m pc ls (As.reverse ++ rest)) (As := As) (rest := rest) ⟨hC.1, hC.2.1, hC.2.2.1, hC.2.2.2.1, hC.2.2.2.2.1⟩ ct cw ⟨me_blind, fun U hU hW => me_pre hC hM U hU hW⟩ rfl hnA hl rfl (lv_room hr) hdg hf) hM.2.2.2.2 (fun q _ h => h) (fun q h => h) (fun r1 u t H1 locs1 ht hvm hw hB hz1 hk1 hS => ?_)
  exact kk r1 u.1 hw H1 locs1 u.2 (me_post hM ht hB hz1 hS)
theorem me_callSl {P : Int64 → me_M → Prop} (hC : me_cx ws_all p c cc nL s args m own D tb X z0) (hl : ls.size = nL) (hM : me_at D z0 M n s H locs) (ct : Met l y (.code y bytes maxL ret :: ws_all) rm (me_Pc As D tb X z0 M n) (me_Ql D z0 P) mc ms (me_A z0)) (cw : CallB R s args own index y bytes maxL ret (.code y bytes maxL ret :: ws_all) rm mc ms nA ∧ (Cond.static y).before args s = true) (hnA : As.length = nA) (hst : st = As.reverse ++ rest) (hr : (rest.map fun v => v.category).sum ≤ 8) (hdg : decode cc pc = .ok (.invokestatic index, 3)) (hf : cells + mc ≤ R.cells ∧ slots + ms ≤ R.slots)
    (kk : ∀ (r : Int64) (M1 : me_M), P r M1 → ∀ (H1 : Heap) (locs1 : List Loc) (n1 : Nat), me_at D z0 M1 n1 s H1 locs1 → W p l e R s m args below meth c H1 locs1 (cells + mc) (slots + ms) Q (F0 m (pc + 3) ls (.long r :: rest))) : W p l e R s m args below meth c H locs cells slots Q (F0 m pc ls st) := by
  subst hst
  refine va_calll (va_runS (g := F0 m pc ls (As.reverse ++ rest)) (As := As) (rest := rest) ⟨hC.1, hC.2.1, hC.2.2.1, hC.2.2.2.1, hC.2.2.2.2.1⟩ ct cw ⟨me_blind, fun U hU hW => me_pre hC hM U hU hW⟩ rfl hnA hl rfl (lv_room hr) hdg hf) hM.2.2.2.2 (fun q _ h => h) (fun q h => h) (fun r1 u t H1 locs1 ht hvm hw hB hz1 hk1 hS => ?_)
  exact kk r1 u.1 hw H1 locs1 u.2 (me_post hM ht hB hz1 hS)
theorem me_callSt {P : Nat → me_M → Prop} (hC : me_cx ws_all p c cc nL s args m own D tb X z0) (hl : ls.size = nL) (hM : me_at D z0 M n s H locs) (ct : Met l y (.code y bytes maxL ret :: ws_all) rm (me_Pc As D tb X z0 M n) (me_Qt D z0 P) mc ms (me_A z0)) (cw : CallB R s args own index y bytes maxL ret (.code y bytes maxL ret :: ws_all) rm mc ms nA ∧ (Cond.static y).before args s = true) (hnA : As.length = nA) (hst : st = As.reverse ++ rest) (hr : (rest.map fun v => v.category).sum ≤ 8) (hdg : decode cc pc = .ok (.invokestatic index, 3)) (hf : cells + mc ≤ R.cells ∧ slots + ms ≤ R.slots)
    (kk : ∀ (q : Nat) (M1 : me_M), P q M1 → ∀ (H1 : Heap) (locs1 : List Loc) (n1 : Nat), me_at D z0 M1 n1 s H1 locs1 → W p l e R s m args below meth c H1 locs1 (cells + mc) (slots + ms) Q (F0 m (pc + 3) ls (.ref q :: rest))) : W p l e R s m args below meth c H locs cells slots Q (F0 m pc ls st) := by
  subst hst
  refine va_callr (va_runS (g := F0 m pc ls (As.reverse ++ rest)) (As := As) (rest := rest) ⟨hC.1, hC.2.1, hC.2.2.1, hC.2.2.2.1, hC.2.2.2.2.1⟩ ct cw ⟨me_blind, fun U hU hW => me_pre hC hM U hU hW⟩ rfl hnA hl rfl (lv_room hr) hdg hf) hM.2.2.2.2 (fun q _ h => h) (fun q h => h) (fun u ra t H1 locs1 ht hvm hw hB hz1 hk1 hS => ?_)
  exact kk ra u.1 hB.1 H1 locs1 u.2 (me_post hM ht hB.2 hz1 hS)
theorem me_callSnp {P : Int32 → me_M → Prop} {hh : List (Nat × Nat × Nat × Nat)} (hC : me_cx ws_all p c cc nL s args m own D tb X z0) (hl : ls.size = nL) (hM : me_at D z0 M n s H locs) (ct : Met l y (.codeWith y bytes maxL ret hh :: ws_all) rm (me_Pc As D tb X z0 M n) (me_Qp D z0 P) mc ms (me_A z0)) (h1 : Cond.methodLink own index y ∈ ws_all) (h2 : Cond.static y ∈ ws_all) (h4 : Cond.initialized y.cls ∈ ws_all) (h5 : Cond.codeWith y bytes maxL ret hh ∈ ws_all) (hd : y.cls ≠ "java/lang/invoke/MethodHandle" ∧ y.cls ≠ "java/lang/invoke/VarHandle" ∧ (parseMethodDescriptor y.desc).map (fun d => d.parameters.length) = some nA) (hrc : rm.cells = mc) (hrs : rm.slots = ms) (hR : rm.frames + 1 ≤ R.frames ∧ 8 + (maxL + 11) + rm.locals ≤ R.locals) (hnA : As.length = nA) (hst : st = As.reverse ++ rest) (hr : (rest.map fun v => v.category).sum ≤ 8) (hdg : decode cc pc = .ok (.invokestatic index, 3)) (hf : cells + mc ≤ R.cells ∧ slots + ms ≤ R.slots)
    (kk : ∀ (r : Int32) (M1 : me_M), P r M1 → ∀ (H1 : Heap) (locs1 : List Loc) (n1 : Nat), me_at D z0 M1 n1 s H1 locs1 → W p l e R s m args below meth c H1 locs1 (cells + mc) (slots + ms) Q (F0 m (pc + 3) ls (.int r :: rest))) : W p l e R s m args below meth c H locs cells slots Q (F0 m pc ls st) := by
  subst hst
  have cw : vx_CSW R s args own index y bytes maxL ret hh (.codeWith y bytes maxL ret hh :: ws_all) rm mc ms nA := by
    refine vx_cwSW nA hC.2.2.2.2.1 ?_ rfl hrc hrs hd hR
    intro w hw
    unfold va_wsS at hw
    rcases List.mem_append.mp hw with hw | hw
    · simp only [List.mem_cons, List.not_mem_nil, or_false] at hw
      rcases hw with rfl | rfl | rfl
      · exact ws_Good _ h1
      · exact ws_Good _ h2
      · exact ws_Good _ h4
    · exact ws_Goodc h5 w hw
  refine va_calli (vx_runSW (g := F0 m pc ls (As.reverse ++ rest)) (As := As) (rest := rest) ⟨hC.1, hC.2.1, hC.2.2.1, hC.2.2.2.1, hC.2.2.2.2.1⟩ ct cw ⟨me_blind, fun U hU hW => me_pre hC hM U hU hW⟩ rfl hnA hl rfl (lv_room hr) hdg hf) hM.2.2.2.2 (fun q _ h => h) (fun q h => h) (fun r1 u t H1 locs1 ht hvm hw hB hz1 hk1 hS => ?_)
  exact kk r1 u.1 hw H1 locs1 u.2 (me_post hM ht hB hz1 hS)
theorem me_pret {v : Int32} {ty : FieldType} {P : Int32 → me_M → Prop} (hC : me_cx ws_all p c cc nL s args m own D tb X z0) (hr : meth.sig.returnType = some ty) (hlk : meth.locks = false) (hM : me_at D z0 M n s H locs) (hP : P v M) (h01 : narrow ty (.int v) = .int v) (hdg : decode cc pc = .ok (.ireturn, 1)) : W p l e R s m args below meth c H locs cells slots (MQ below (me_Qp D z0 P) args s cells slots (me_A z0)) (F0 m pc ls [.int v]) :=
  W.zret hC.1 hC.2.1 hr h01 (fun t ht hW => ⟨⟨v, (M, n), rfl, hP, by rw [ht]; exact hM.2.1, by rw [ht]; exact hM.1⟩, hM.2.2.2.2.F ht⟩) hM.2.2.2.2.2.2 hdg
theorem me_lret {v : Int64} {P : Int64 → me_M → Prop} (hC : me_cx ws_all p c cc nL s args m own D tb X z0) (hr : meth.sig.returnType = some .long) (hlk : meth.locks = false) (hM : me_at D z0 M n s H locs) (hP : P v M) (hdg : decode cc pc = .ok (.lreturn, 1)) : W p l e R s m args below meth c H locs cells slots (MQ below (me_Ql D z0 P) args s cells slots (me_A z0)) (F0 m pc ls [.long v]) :=
  W.lret hC.1 hC.2.1 hr (fun t ht hW => ⟨⟨v, (M, n), rfl, hP, by rw [ht]; exact hM.2.1, by rw [ht]; exact hM.1⟩, hM.2.2.2.2.F ht⟩) hM.2.2.2.2.2.2 hdg
theorem me_trt {q : Nat} {ty : FieldType} {P : Nat → me_M → Prop} (hC : me_cx ws_all p c cc nL s args m own D tb X z0) (hr : meth.sig.returnType = some ty) (hty : (∃ n, ty = .object n) ∨ ∃ t, ty = .array t) (hlk : meth.locks = false) (hM : me_at D z0 M n s H locs) (hP : P q M) (hdg : decode cc pc = .ok (.areturn, 1)) : W p l e R s m args below meth c H locs cells slots (MQ below (me_Qt D z0 P) args s cells slots (me_A z0)) (F0 m pc ls [.ref q]) :=
  W.aret hC.1 hC.2.1 hr hty (Or.inr ⟨q, rfl⟩) (fun t ht hW => ⟨⟨(M, n), q, rfl, trivial, hP, by rw [ht]; exact hM.2.1, by rw [ht]; exact hM.1⟩, hM.2.2.2.2.F ht⟩) hM.2.2.2.2.2.2 hdg
end LQ
/-! ===== the bureau's memory with more behind it ===== -/
section LQ2
variable {D : va_G} {tb : Nat → ClassId} {z0 n n' bo : Nat} {s : State} {H : Heap} {locs : List Loc} {g : Nat → Int32} {G : Nat → Nat → Int32} {F sf inp out : Nat → Int32} {M9 : me_M} {x : va_E}
theorem bq_lt (h : me_at D z0 (sp tb (bo + 722) g (bq tb bo G F sf inp out M9)) n s H locs) : bo + 919 ≤ n := by
  have e : sp tb (bo + 722) g (bq tb bo G F sf inp out M9) (sa bo 13 + 64) = some (sp_cell tb (sa bo 13) (G 13) 64) := bq_oth (by omega) (by omega) 64 (by omega)
  have h1 := h.1.lt e
  have h2 := h.2.1
  have h3 : sa bo 13 = bo + 854 := rfl
  omega
theorem bq_off {q : Nat} (hq : bo + 919 ≤ q) : sp tb (bo + 722) g (bq tb bo G F sf inp out M9) q = M9 q := (bq_nw hq)
theorem bq_fresh (h : me_at D z0 (sp tb (bo + 722) g (bq tb bo G F sf inp out M9)) n s H locs) : M9 n = none := by
  have h1 := bq_lt h
  rw [← bq_off (tb := tb) (g := g) (G := G) (F := F) (sf := sf) (inp := inp) (out := out) (M9 := M9) h1]
  cases e : sp tb (bo + 722) g (bq tb bo G F sf inp out M9) n with
  | none => rfl
  | some y =>
    have h1 := h.1.lt e
    have h2 := h.2.1
    omega
/-- what lies behind is forgotten -/
theorem bq_drop (h9 : M9 n = none) (hn : bo + 919 ≤ n) (h : me_at D z0 (sp tb (bo + 722) g (bq tb bo G F sf inp out (me_up M9 n x))) n' s H locs) : me_at D z0 (sp tb (bo + 722) g (bq tb bo G F sf inp out M9)) n' s H locs := by
  refine h.sub (fun q y hq => ?_)
  rw [← bq_new hn]
  by_cases e : q = n
  · subst e
    rw [bq_off hn, h9] at hq
    cases hq
  · rw [me_up_n e]; exact hq
theorem bq_some {q : Nat} {y : va_E} (hq : bo + 919 ≤ q) (h : M9 q = some y) : sp tb (bo + 722) g (bq tb bo G F sf inp out M9) q = some y := (bq_off hq).trans h
end LQ2
