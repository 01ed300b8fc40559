/-! ===== methods that throw: the memory is as told, the exception is of the class told ===== -/
/-- the words of a throw that are of the tables alone -/
def xw_B : List Cond := (vx_atS RX7 78 "java/lang/IllegalStateException" ["java/lang/RuntimeException", "java/lang/Exception"]).filter (fun w => !goodWord w) ++ (vx_atS RX7 89 "java/lang/IndexOutOfBoundsException" ["java/lang/RuntimeException", "java/lang/Exception"]).filter (fun w => !goodWord w) ++ (vx_atS RX7 103 "java/lang/IllegalArgumentException" ["java/lang/RuntimeException", "java/lang/Exception"]).filter (fun w => !goodWord w)
/-- what a throw needs of the machine around -/
def me_xs (z0 : Nat) (U : State) : Prop := vx_Zq Bundle.tN "UNASSIGNED_STACK" Bundle.steD (me_A z0) U U.heap ∧ vx_Zq Bundle.tN "SUPPRESSED_SENTINEL" Bundle.listD (me_A z0) U U.heap ∧ (∀ w ∈ xw_B, va_Nw w U) ∧ ∀ k tx, Cond.stringRef RX7 k tx ∈ tables_1 → ∃ sa, vk_R RX7 k tx sa U
def me_XC (D : va_G) (z0 : Nat) (M : me_M) (E0 : String) : String → State → State → Prop := fun E st t => E = E0 ∧ me_ok D me_cl z0 M t.heap ∧ va_F (me_A z0) st t
abbrev me_no : Array Value → State → Outcome → State → Prop := fun _ _ _ _ => False
section EXC
variable {p : Program} {l : Launch} {e : Env} {R : Room} {s : State} {m : MethodId} {args : Array Value} {below : List Frame} {meth : Method} {c : Code} {H : Heap} {locs : List Loc} {cells slots : Nat} {Q : State → Prop}
variable {cc : ByteArray} {nL pc : Nat} {ls : Array Slot} {rest st : List Value} {D : va_G} {tb : Nat → ClassId} {X : State → Prop} {z0 n a : Nat} {M : me_M} {own : String}
variable {Qc : Array Value → State → Outcome → State → Prop} {mc ms mc' ms' : Nat} {E0 : String} {M' : me_M}
theorem me_openX {y : MethodName} {ret : Option FieldType} {rm : Room} {as : List Value} {XC : String → State → State → Prop} (hy : plainName y.cls = true) (hcat : (lg_sl as).length ≤ nL)
    (body : ∀ (p : Program) (e : Env) (s : State) (m : MethodId) (args : Array Value) (below : List Frame) (meth : Method) (c : Code) (ls : Array Slot), me_cx ws_all p c cc nL s args m y.cls D tb X z0 → (∀ x ∈ c.exceptionTable.toList, False) → meth.locks = false → me_at D z0 M n s s.heap [] → lv_has ls nL (lv_args 0 as) →
      W p l e rm s m args below meth c s.heap [] 0 0 (vx_MQ below Qc XC args s mc ms (me_A z0)) (F0 m 0 ls [])) : vx_Met l y (.code y cc nL ret :: ws_all) rm (me_Pc as D tb X z0 M n) Qc XC mc ms (me_A z0) := by
  refine vx_ofW (cc := cc) (maxL := nL) (ret := ret) hy rfl ?_
  intro p e s m args below meth c s₁ B hml ht hv
  obtain ⟨rfl, hXs, hz, hsz, hok, hE⟩ := hv
  have hts := atoms_spec (ws := .code y cc nL ret :: ws_all) B.pre
  have hl := lv_entry as (n := nL) hcat
  rw [lg_entry_eq]
  exact body p e s m _ below meth c _ ⟨B.exec, B.bytes, hml, findClass_of_methodNamed B.named, fun w h => hts w (List.mem_cons_of_mem _ h), hE, hXs⟩ ht B.notSynchronized ⟨hok, hsz, hz, by omega, va_S.rf⟩ hl
theorem me_xF (hM : me_at D z0 M n s H locs) {t : State} (hsz : H.size ≤ t.heap.size) (hk : ∀ q : Nat, q < H.size → t.heap[q]? = H[q]?) : me_ok D me_cl z0 M t.heap ∧ va_F (me_A z0) s t := by
  obtain ⟨hok, hs, hz, hz2, hS⟩ := hM
  refine ⟨fun q x hq => ⟨(hok q x hq).1, (hok q x hq).2.kept (hk q (hok.lt hq))⟩, Nat.le_trans hS.1 hsz, fun q h1 h2 => ?_⟩
  rw [hk q (Nat.lt_of_lt_of_le h1 hS.1)]
  exact hS.2.1 q h1 h2
/-- 'throw new E("text")' -/
theorem me_throw {text cls : String} {ik is ic : Nat} (hC : me_cx ws_all p c cc nL s args m RX7 D tb X z0) (hl : ls.size = nL) (hM : me_at D z0 M n s H locs) (ht : ∀ x ∈ c.exceptionTable.toList, False) (hlk : meth.locks = false) (hxs : me_xs z0 s) (hfl : l.stackTraces = false)
    (hcls : Bundle.fit cls = true) (hnames : ∀ n ∈ ["java/lang/RuntimeException", "java/lang/Exception"], Bundle.fit n = true) (hk : Cond.classLink RX7 ik cls ∈ ws_all) (hini : Cond.initialized cls ∈ ws_all)
    (hg : ∀ w ∈ (vx_atS RX7 ic cls ["java/lang/RuntimeException", "java/lang/Exception"]).filter goodWord, w ∈ ws_all) (hB : ∀ w ∈ (vx_atS RX7 ic cls ["java/lang/RuntimeException", "java/lang/Exception"]).filter (fun w => !goodWord w), w ∈ xw_B ∧ w.onTables = true)
    (hot : ∀ w ∈ Cond.classLink RX7 ik cls :: Cond.initialized cls :: vx_atS RX7 ic cls ["java/lang/RuntimeException", "java/lang/Exception"], vx_ot w = true) (hstr : Cond.stringRef RX7 is text ∈ tables_1)
    (d0 : decode cc pc = .ok (.new ik, 3)) (d3 : decode cc (pc + 3) = .ok (.dup, 1)) (d4 : decode cc (pc + 4) = .ok (.ldc is, 2)) (d6 : decode cc (pc + 6) = .ok (.invokespecial ic, 3)) (d9 : decode cc (pc + 9) = .ok (.athrow, 1))
    (hRf : 5 < R.frames) (hRl : (rest.map fun v => v.category).sum + 82 ≤ R.locals) (hRc : cells + 1 ≤ R.cells) (hRs : slots + 6 ≤ R.slots) (hc : cells + 1 ≤ mc) (hs : slots + 6 ≤ ms) :
    W p l e R s m args below meth c H locs cells slots (vx_MQ below Qc (me_XC D z0 M cls) args s mc ms (me_A z0)) (F0 m pc ls rest) := by
  obtain ⟨hx, hb, hml, hown, hts, hE, hst⟩ := hC
  obtain ⟨hU, hN, hBw, hstrs⟩ := hxs
  obtain ⟨sa, hsa⟩ := hstrs is text hstr
  exact vx_throwS (names := ["java/lang/RuntimeException", "java/lang/Exception"]) hx hb hfl hown hcls hnames (hts _ hk) (hts _ hini) hsa (vx_hat (fun w h => hts w (hg w h)) (fun w h => h) (fun w h => va_Nw.use (hB w h).2 (hBw w (hB w h).1))) hot hU hN hM.2.2.2.2 (by rw [hml]; exact hl) d0 d3 d4 d6 d9 (fun x h => absurd (ht x h) id) hRf hRl hRc hRs hlk (fun t _ h1 h2 => ⟨rfl, me_xF hM h1 h2⟩) hM.2.2.2.2.2.2 hc hs
theorem me_throwW {text cls : String} {ik is ic : Nat} (hC : me_cx ws_all p c cc nL s args m RX7 D tb X z0) (hl : ls.size = nL) (hM : me_at D z0 M n s H locs) (ht : ∀ x ∈ c.exceptionTable.toList, False) (hlk : meth.locks = false) (hxs : me_xs z0 s) (hfl : l.stackTraces = false)
    (hcls : Bundle.fit cls = true) (hnames : ∀ n ∈ ["java/lang/RuntimeException", "java/lang/Exception"], Bundle.fit n = true) (hk : Cond.classLink RX7 ik cls ∈ ws_all) (hini : Cond.initialized cls ∈ ws_all)
    (hg : ∀ w ∈ (vx_atS RX7 ic cls ["java/lang/RuntimeException", "java/lang/Exception"]).filter goodWord, w ∈ ws_all) (hB : ∀ w ∈ (vx_atS RX7 ic cls ["java/lang/RuntimeException", "java/lang/Exception"]).filter (fun w => !goodWord w), w ∈ xw_B ∧ w.onTables = true)
    (hot : ∀ w ∈ Cond.classLink RX7 ik cls :: Cond.initialized cls :: vx_atS RX7 ic cls ["java/lang/RuntimeException", "java/lang/Exception"], vx_ot w = true) (hstr : Cond.stringRef RX7 is text ∈ tables_1)
    (d0 : decode cc pc = .ok (.new ik, 3)) (d3 : decode cc (pc + 3) = .ok (.dup, 1)) (d4 : decode cc (pc + 4) = .ok (.ldc_w is, 3)) (d6 : decode cc (pc + 7) = .ok (.invokespecial ic, 3)) (d9 : decode cc (pc + 10) = .ok (.athrow, 1))
    (hRf : 5 < R.frames) (hRl : (rest.map fun v => v.category).sum + 82 ≤ R.locals) (hRc : cells + 1 ≤ R.cells) (hRs : slots + 6 ≤ R.slots) (hc : cells + 1 ≤ mc) (hs : slots + 6 ≤ ms) :
    W p l e R s m args below meth c H locs cells slots (vx_MQ below Qc (me_XC D z0 M cls) args s mc ms (me_A z0)) (F0 m pc ls rest) := by
  obtain ⟨hx, hb, hml, hown, hts, hE, hst⟩ := hC
  obtain ⟨hU, hN, hBw, hstrs⟩ := hxs
  obtain ⟨sa, hsa⟩ := hstrs is text hstr
  exact vx_throwSW (names := ["java/lang/RuntimeException", "java/lang/Exception"]) hx hb hfl hown hcls hnames (hts _ hk) (hts _ hini) hsa (vx_hat (fun w h => hts w (hg w h)) (fun w h => h) (fun w h => va_Nw.use (hB w h).2 (hBw w (hB w h).1))) hot hU hN hM.2.2.2.2 (by rw [hml]; exact hl) d0 d3 d4 d6 d9 (fun x h => absurd (ht x h) id) hRf hRl hRc hRs hlk (fun t _ h1 h2 => ⟨rfl, me_xF hM h1 h2⟩) hM.2.2.2.2.2.2 hc hs
/-- a call that throws -/
theorem me_xrun {as : Array Value} (hr : vx_Run p l e R s m args below meth c H locs cells slots mc' ms' (F0 m pc ls st) rest (me_no as) (me_XC D z0 M' E0) (me_A z0)) (hM : me_at D z0 M n s H locs)
    (kx : ∀ (H1 : Heap) (locs1 : List Loc) (n1 : Nat) (q : Addr) (ce : Cell), me_at D z0 M' n1 s H1 locs1 → H1[q]? = some ce → ce.vm = .none → s.vm.findClass E0 = some ce.cls → vx_W p l e R s m args below meth c H1 locs1 (cells + mc') (slots + ms') Q (F0 m pc ls rest) q) : W p l e R s m args below meth c H locs cells slots Q (F0 m pc ls st) := by
  intro T hT Y
  rcases hr T hT Y with ⟨v, st₀, t, T', L, h0, X', hL, e1, e2, hno, hst⟩ | ⟨q, st₀, t, T', L, E, ce, h0, X', hL, e1, e2, ⟨hE0, hok, hF⟩, hce, hcv, hcl, hst⟩
  · exact hno.elim
  · subst hE0
    obtain ⟨k1, k2, k3⟩ := vx_keep h0 e1 hM.2.2.2.2 (fun q _ h => h) (fun q h => h) hL hF
    obtain ⟨t2, a1, b1⟩ := kx T'.heap (locs ++ L) T'.heap.size q ce ⟨by rw [e1]; exact hok, rfl, by have := hM.2.1; have := hM.2.2.1; omega, hM.2.2.2.1, k3⟩ (by rw [e1]; exact hce) hcv hcl T' rfl X'
    exact ⟨t2, hst.trans a1, b1⟩
theorem me_xout {q : Addr} {ce : Cell} (hM : me_at D z0 M n s H locs) (ht : ∀ x ∈ c.exceptionTable.toList, False) (hlk : meth.locks = false) (hcell : H[q]? = some ce) (hv : ce.vm = .none) (hcl : s.vm.findClass E0 = some ce.cls) (hc : cells ≤ mc) (hs : slots ≤ ms) :
    vx_W p l e R s m args below meth c H locs cells slots (vx_MQ below Qc (me_XC D z0 M E0) args s mc ms (me_A z0)) (F0 m pc ls rest) q :=
  vx_out (fun x h => absurd (ht x h) id) hlk hcell hv hcl (fun t h _ => ⟨rfl, by rw [h]; exact hM.1, hM.2.2.2.2.F h⟩) hM.2.2.2.2.2.2 hc hs
variable {C : String} {index maxL nA ci N' : Nat} {y : MethodName} {bytes : ByteArray} {ret : Option FieldType} {rm : Room} {As : List Value} {b : Nat} {T' : u_T} {fs : List Value}
theorem me_xV (hC : me_cx ws_all p c cc nL s args m own D tb X z0) (hl : ls.size = nL) (hM : me_at D z0 M n s H locs) (ct : vx_Met l y (.code y bytes maxL ret :: ws_all) rm (me_Pc (.ref b :: As) D tb X z0 M n) me_no (me_XC D z0 M' E0) mc' ms' (me_A z0)) (cw : CallW R s args own C index y bytes maxL ret (.code y bytes maxL ret :: ws_all) rm mc' ms' nA) (hnA : As.length = nA) (hc : me_cl[ci]? = some (C, T', N')) (he : M b = some (.inr (ci, fs))) (hst : st = As.reverse ++ .ref b :: rest) (hr : (rest.map fun v => v.category).sum ≤ 8) (hdg : decode cc pc = .ok (.invokevirtual index, 3)) (hf : cells + mc' ≤ R.cells ∧ slots + ms' ≤ R.slots)
    (ht : ∀ x ∈ c.exceptionTable.toList, False) (hlk : meth.locks = false) (h1 : cells + mc' ≤ mc) (h2 : slots + ms' ≤ ms) : W p l e R s m args below meth c H locs cells slots (vx_MQ below Qc (me_XC D z0 M' E0) args s mc ms (me_A z0)) (F0 m pc ls st) := by
  subst hst
  exact me_xrun (vx_runV (g := F0 m pc ls (As.reverse ++ .ref b :: rest)) (As := As) (rest := rest) ⟨hC.1, hC.2.1, hC.2.2.1, hC.2.2.2.1, hC.2.2.2.2.1⟩ ct cw ⟨me_blind, me_recv hC hM hc he, fun U hU hW => me_pre hC hM U hU hW⟩ rfl hnA hl rfl (lv_room hr) hdg hf) hM (fun H1 locs1 n1 q ce hM1 e1 e2 e3 => me_xout hM1 ht hlk e1 e2 e3 h1 h2)
theorem me_xS (hC : me_cx ws_all p c cc nL s args m own D tb X z0) (hl : ls.size = nL) (hM : me_at D z0 M n s H locs) (ct : vx_Met l y (.code y bytes maxL ret :: ws_all) rm (me_Pc As D tb X z0 M n) me_no (me_XC D z0 M' E0) mc' ms' (me_A z0)) (cw : CallB R s args own index y bytes maxL ret (.code y bytes maxL ret :: ws_all) rm mc' ms' nA ∧ (Cond.static y).before args s = true) (hnA : As.length = nA) (hst : st = As.reverse ++ rest) (hr : (rest.map fun v => v.category).sum ≤ 8) (hdg : decode cc pc = .ok (.invokestatic index, 3)) (hf : cells + mc' ≤ R.cells ∧ slots + ms' ≤ R.slots)
    (ht : ∀ x ∈ c.exceptionTable.toList, False) (hlk : meth.locks = false) (h1 : cells + mc' ≤ mc) (h2 : slots + ms' ≤ ms) : W p l e R s m args below meth c H locs cells slots (vx_MQ below Qc (me_XC D z0 M' E0) args s mc ms (me_A z0)) (F0 m pc ls st) := by
  subst hst
  exact me_xrun (vx_runS (g := F0 m pc ls (As.reverse ++ rest)) (As := As) (rest := rest) ⟨hC.1, hC.2.1, hC.2.2.1, hC.2.2.2.1, hC.2.2.2.2.1⟩ ct cw ⟨me_blind, fun U hU hW => me_pre hC hM U hU hW⟩ rfl hnA hl rfl (lv_room hr) hdg hf) hM (fun H1 locs1 n1 q ce hM1 e1 e2 e3 => me_xout hM1 ht hlk e1 e2 e3 h1 h2)
end EXC
section XB
set_option maxRecDepth 20000 in
theorem xg_S : ∀ w ∈ (vx_atS RX7 78 "java/lang/IllegalStateException" ["java/lang/RuntimeException", "java/lang/Exception"]).filter goodWord, w ∈ ws_all := fun w h => ws_m ((show ∀ w ∈ (vx_atS RX7 78 "java/lang/IllegalStateException" ["java/lang/RuntimeException", "java/lang/Exception"]).filter goodWord, w ∈ lw_tbl by decide +kernel) w h) (List.mem_filter.mp h).2
theorem xg_I : ∀ w ∈ (vx_atS RX7 89 "java/lang/IndexOutOfBoundsException" ["java/lang/RuntimeException", "java/lang/Exception"]).filter goodWord, w ∈ ws_all := fun w h => ws_m ((show ∀ w ∈ (vx_atS RX7 89 "java/lang/IndexOutOfBoundsException" ["java/lang/RuntimeException", "java/lang/Exception"]).filter goodWord, w ∈ lw_tbl by decide +kernel) w h) (List.mem_filter.mp h).2
theorem xg_A : ∀ w ∈ (vx_atS RX7 103 "java/lang/IllegalArgumentException" ["java/lang/RuntimeException", "java/lang/Exception"]).filter goodWord, w ∈ ws_all := fun w h => ws_m ((show ∀ w ∈ (vx_atS RX7 103 "java/lang/IllegalArgumentException" ["java/lang/RuntimeException", "java/lang/Exception"]).filter goodWord, w ∈ lw_tbl by decide +kernel) w h) (List.mem_filter.mp h).2
theorem xw_T : ∀ w ∈ xw_B, w.onTables = true := by decide +kernel
theorem xb_S : ∀ w ∈ (vx_atS RX7 78 "java/lang/IllegalStateException" ["java/lang/RuntimeException", "java/lang/Exception"]).filter (fun w => !goodWord w), w ∈ xw_B ∧ w.onTables = true := fun w h => ⟨List.mem_append_left _ (List.mem_append_left _ h), xw_T w (List.mem_append_left _ (List.mem_append_left _ h))⟩
theorem xb_I : ∀ w ∈ (vx_atS RX7 89 "java/lang/IndexOutOfBoundsException" ["java/lang/RuntimeException", "java/lang/Exception"]).filter (fun w => !goodWord w), w ∈ xw_B ∧ w.onTables = true := fun w h => ⟨List.mem_append_left _ (List.mem_append_right _ h), xw_T w (List.mem_append_left _ (List.mem_append_right _ h))⟩
theorem xb_A : ∀ w ∈ (vx_atS RX7 103 "java/lang/IllegalArgumentException" ["java/lang/RuntimeException", "java/lang/Exception"]).filter (fun w => !goodWord w), w ∈ xw_B ∧ w.onTables = true := fun w h => ⟨List.mem_append_right _ h, xw_T w (List.mem_append_right _ h)⟩
theorem xo_S : ∀ w ∈ Cond.classLink RX7 74 "java/lang/IllegalStateException" :: Cond.initialized "java/lang/IllegalStateException" :: vx_atS RX7 78 "java/lang/IllegalStateException" ["java/lang/RuntimeException", "java/lang/Exception"], vx_ot w = true := by decide +kernel
theorem xo_I : ∀ w ∈ Cond.classLink RX7 85 "java/lang/IndexOutOfBoundsException" :: Cond.initialized "java/lang/IndexOutOfBoundsException" :: vx_atS RX7 89 "java/lang/IndexOutOfBoundsException" ["java/lang/RuntimeException", "java/lang/Exception"], vx_ot w = true := by decide +kernel
theorem xo_A : ∀ w ∈ Cond.classLink RX7 99 "java/lang/IllegalArgumentException" :: Cond.initialized "java/lang/IllegalArgumentException" :: vx_atS RX7 103 "java/lang/IllegalArgumentException" ["java/lang/RuntimeException", "java/lang/Exception"], vx_ot w = true := by decide +kernel
theorem xn_f : ∀ n ∈ ["java/lang/RuntimeException", "java/lang/Exception"], Bundle.fit n = true := by decide +kernel
end XB
