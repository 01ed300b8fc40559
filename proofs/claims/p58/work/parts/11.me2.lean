/-! ===== memory as a function: stores, new cells, calls, ends ===== -/
section ME2
variable {p : Program} {l : Launch} {e : Env} {R : Room} {s : State} {m : MethodId} {args : Array Value} {below : List Frame} {meth : Method} {c : Code} {H : Heap} {locs : List Loc} {cells slots : Nat} {Q : State → Prop}
variable {cc : ByteArray} {nL pc : Nat} {ls : Array Slot} {rest st : List Value} {D : va_G} {tb : Nat → ClassId} {X : State → Prop} {z0 n a : Nat} {M : me_M} {own : String}
theorem me_iast (hC : me_cx ws_all p c cc nL s args m own D tb X z0) (hM : me_at D z0 M n s H locs) {N k : Nat} {f : Nat → Int32} (he : M a = some (.inl (tb 0, N, .inl f))) {i x : Int32} (hi : i = nI k) (hk : k < N) (hN : N < 2 ^ 31) {M2 : me_M} (hM2 : me_up M a (.inl (tb 0, N, .inl (upd f k x))) = M2) (hdg : decode cc pc = .ok (.iastore, 1))
    (kk : ∀ (H1 : Heap) (locs1 : List Loc), me_at D z0 M2 n s H1 locs1 → W p l e R s m args below meth c H1 locs1 cells slots Q (F0 m (pc + 1) ls rest)) : W p l e R s m args below meth c H locs cells slots Q (F0 m pc ls (.int x :: .int i :: .ref a :: rest)) := by
  obtain ⟨h1, h2⟩ := me_ix hi hk hN
  subst h2
  obtain ⟨hok, hsz, hz, hz2, hS⟩ := hM
  have hat := hok a _ he
  refine W.iast hC.1 hC.2.1 hat.2 ((hC.2.2.2.2.2.1.1.2 0 _ rfl).1 N (fun j => .int (f j))) (fun q => by cases q) (by show ¬ (i < 0 ∨ (arrV _ _ _).slots.size ≤ _); rw [arrV_size]; exact h1) rfl rfl hdg fun H1 e1 z oq => ?_
  refine kk H1 _ ⟨hM2 ▸ hok.up hat.1 ?_ oq, z.trans hsz, hz, hz2, me_S.up hS z oq hat.1⟩
  show H1[a]? = some (vp_cell _ _)
  rw [e1]
  rw [vp_cell_i, vp_cell_i, arrV_store]
  congr 2
  funext q
  by_cases hq : q = i.toNatClampNeg
  · subst hq; simp [updV, upd]
  · simp [updV, upd, hq]
theorem me_bast (hC : me_cx ws_all p c cc nL s args m own D tb X z0) (hM : me_at D z0 M n s H locs) {N k : Nat} {f : Nat → Int32} (he : M a = some (.inl (tb 1, N, .inl f))) {i x : Int32} (hi : i = nI k) (hk : k < N) (hN : N < 2 ^ 31) {M2 : me_M} (hM2 : me_up M a (.inl (tb 1, N, .inl (upd f k (vp_nar .byte x)))) = M2) (hdg : decode cc pc = .ok (.bastore, 1))
    (kk : ∀ (H1 : Heap) (locs1 : List Loc), me_at D z0 M2 n s H1 locs1 → W p l e R s m args below meth c H1 locs1 cells slots Q (F0 m (pc + 1) ls rest)) : W p l e R s m args below meth c H locs cells slots Q (F0 m pc ls (.int x :: .int i :: .ref a :: rest)) := by
  obtain ⟨h1, h2⟩ := me_ix hi hk hN
  subst h2
  obtain ⟨hok, hsz, hz, hz2, hS⟩ := hM
  have hat := hok a _ he
  refine W.bast hC.1 hC.2.1 hat.2 ((hC.2.2.2.2.2.1.1.2 1 _ rfl).1 N (fun j => .int (f j))) (fun q => by cases q) (by show ¬ (i < 0 ∨ (arrV _ _ _).slots.size ≤ _); rw [arrV_size]; exact h1) rfl rfl hdg fun H1 e1 z oq => ?_
  refine kk H1 _ ⟨hM2 ▸ hok.up hat.1 ?_ oq, z.trans hsz, hz, hz2, me_S.up hS z oq hat.1⟩
  show H1[a]? = some (vp_cell _ _)
  rw [e1]
  rw [vp_cell_i, vp_cell_i, arrV_store]
  congr 2
  funext q
  by_cases hq : q = i.toNatClampNeg
  · subst hq
    simp [updV, upd, vp_nar]
    try rfl
  · simp [updV, upd, hq]
theorem me_zast (hC : me_cx ws_all p c cc nL s args m own D tb X z0) (hM : me_at D z0 M n s H locs) {N k : Nat} {f : Nat → Int32} (he : M a = some (.inl (tb 2, N, .inl f))) {i x : Int32} (hi : i = nI k) (hk : k < N) (hN : N < 2 ^ 31) {M2 : me_M} (hM2 : me_up M a (.inl (tb 2, N, .inl (upd f k (vp_nar .boolean x)))) = M2) (hdg : decode cc pc = .ok (.bastore, 1))
    (kk : ∀ (H1 : Heap) (locs1 : List Loc), me_at D z0 M2 n s H1 locs1 → W p l e R s m args below meth c H1 locs1 cells slots Q (F0 m (pc + 1) ls rest)) : W p l e R s m args below meth c H locs cells slots Q (F0 m pc ls (.int x :: .int i :: .ref a :: rest)) := by
  obtain ⟨h1, h2⟩ := me_ix hi hk hN
  subst h2
  obtain ⟨hok, hsz, hz, hz2, hS⟩ := hM
  have hat := hok a _ he
  refine W.zast hC.1 hC.2.1 hat.2 ((hC.2.2.2.2.2.1.1.2 2 _ rfl).1 N (fun j => .int (f j))) (fun q => by cases q) (by show ¬ (i < 0 ∨ (arrV _ _ _).slots.size ≤ _); rw [arrV_size]; exact h1) rfl rfl hdg fun H1 e1 z oq => ?_
  refine kk H1 _ ⟨hM2 ▸ hok.up hat.1 ?_ oq, z.trans hsz, hz, hz2, me_S.up hS z oq hat.1⟩
  show H1[a]? = some (vp_cell _ _)
  rw [e1]
  rw [vp_cell_i, vp_cell_i, arrV_store]
  congr 2
  funext q
  by_cases hq : q = i.toNatClampNeg
  · subst hq
    simp [updV, upd, vp_nar]
    try rfl
  · simp [updV, upd, hq]
theorem me_aast (hC : me_cx ws_all p c cc nL s args m own D tb X z0) (hM : me_at D z0 M n s H locs) {N k t0 v ci : Nat} {cA : ClassId} {r : vw_C} {f : Nat → Option Nat} {vs : List Value} (he : M a = some (.inl (cA, N, .inr (.inr (.inr (.inr f)))))) (ht : (me_tys tb)[t0]? = some (cA, .object r.1)) (hv : M v = some (.inr (ci, vs))) (hc : me_cl[ci]? = some r) {i : Int32} (hi : i = nI k) (hk : k < N) (hN : N < 2 ^ 31) {M2 : me_M} (hM2 : me_up M a (.inl (cA, N, .inr (.inr (.inr (.inr (va_up f k (some v))))))) = M2) (hdg : decode cc pc = .ok (.aastore, 1))
    (kk : ∀ (H1 : Heap) (locs1 : List Loc), me_at D z0 M2 n s H1 locs1 → W p l e R s m args below meth c H1 locs1 cells slots Q (F0 m (pc + 1) ls rest)) : W p l e R s m args below meth c H locs cells slots Q (F0 m pc ls (.ref v :: .int i :: .ref a :: rest)) := by
  obtain ⟨h1, h2⟩ := me_ix hi hk hN
  subst h2
  obtain ⟨hok, hsz, hz, hz2, hS⟩ := hM
  have hat := hok a _ he
  have hK := hC.2.2.2.2.2.1.1
  obtain ⟨-, r', hr', cellV, g1, g2, g3, -⟩ := hok v _ hv
  have hcls := (hK.1 ci r hc).2
  obtain ⟨kA, comp, k1, k2, k3, -⟩ := (hK.2 t0 _ ht).2
  have hcomp : comp = D.1 ci := Option.some.inj (k3.symm.trans hcls.1)
  subst hcomp
  obtain ⟨kC, hkC, -⟩ := hcls.2
  have h0 : ¬ i < 0 := fun q => h1 (Or.inl q)
  refine W.aast hC.1 hC.2.1 hat.2 (fun q h => by cases h) (fun h => by cases h) k1 k2 rfl hkC ⟨h0, by show _ < (arrV _ _ _).slots.size; rw [arrV_size]; exact hk⟩ g1 (fun q h => by rw [g3] at h; cases h) (by rw [g2]; exact hkC) (by rw [g2]; exact va_assign hcls) rfl rfl hdg fun H1 e1 z oq => ?_
  refine kk H1 _ ⟨hM2 ▸ hok.up hat.1 ?_ oq, z.trans hsz, hz, hz2, me_S.up hS z oq hat.1⟩
  show H1[a]? = some (vp_cell _ _)
  rw [e1]
  rw [vp_cell_q, vp_cell_q, arrV_store]
  congr 2
  funext q
  by_cases hq : q = i.toNatClampNeg
  · subst hq; simp [updV, va_up, va_rf]
  · simp [updV, va_up, hq]
theorem me_new (hC : me_cx ws_all p c cc nL s args m own D tb X z0) (hM : me_at D z0 M n s H locs) {C : String} {T : u_T} {N ci index : Nat} (hin : ∀ w ∈ u_ws C T N, w ∈ ws_all) (ty : Nat → FieldType) (hty : ∀ k, k < N → parseFieldDescriptor (T k).2.2.1 = some (ty k)) (hcl : Cond.classLink own index C ∈ ws_all) (hinst : Cond.instantiable C N ∈ ws_all) (hini : Cond.initialized C ∈ ws_all) (hc : me_cl[ci]? = some (C, T, N)) {fs : List Value} (hfs : ∀ j, j < N → defaultValue (ty j) = vp_V fs j) (hcells : cells + 1 ≤ R.cells) (hslots : slots + N ≤ R.slots) {M2 : me_M} (hM2 : me_up M n (.inr (ci, fs)) = M2) (hdg : decode cc pc = .ok (.new index, 3))
    (kk : ∀ (H1 : Heap), me_at D z0 M2 (n + 1) s H1 locs → W p l e R s m args below meth c H1 locs (cells + 1) (slots + N) Q (F0 m (pc + 3) ls (.ref n :: rest))) : W p l e R s m args below meth c H locs cells slots Q (F0 m pc ls rest) := by
  obtain ⟨hx, hb, -, hown, hts, hE, -⟩ := hC
  obtain ⟨hok, hsz, hz, hz2, hS⟩ := hM
  have hKn := hE.1.1 ci _ hc
  refine W.newcK hx hb hown (hts _ hcl) (hts _ hinst) (hts _ hini) rfl hdg hcells hslots hKn.2.1 hsz fun H1 kC hkC e1 z1 o1 => ?_
  exact kk H1 ⟨hM2 ▸ hok.new hz hsz ⟨_, hc, (u_born ty hts hin hKn hkC e1 hty).to hfs⟩ o1, z1, by omega, hz2, me_S.new hS hsz z1 o1⟩
theorem me_cls {s : State} {D : va_G} {tb : Nat → ClassId} {X : State → Prop} (hE : me_E D tb X s) {k : Nat} {ty : FieldType} (h : (me_tys tb)[k]? = some (tb k, ty)) : s.vm.findClass ("[" ++ ty.toString) = some (tb k) := by
  have h1 := (hE.1.2 k _ h).2
  cases ty <;> first | exact h1 | exact h1.choose_spec.choose_spec.2.2.2
theorem me_newa (hC : me_cx ws_all p c cc nL s args m own D tb X z0) (hM : me_at D z0 M n s H locs) {atype : ArrayType} (harr : Cond.arrayClass (newarray.typeOf atype) ∈ ws_all) {k : Nat} (hk : (me_tys tb)[k]? = some (tb k, newarray.typeOf atype)) {i : Int32} {N' : Nat} {a0 : vp_A} (ha : ∀ cA : ClassId, vp_cell cA a0 = arrV cA N' (fun _ => defaultValue (newarray.typeOf atype))) (hn : ¬ i < 0) (hN : i.toNatClampNeg = N') (hbytes : N' * componentBytes (newarray.typeOf atype) ≤ 536870912) (hcells : cells + 1 ≤ R.cells) (hslots : slots + N' ≤ R.slots) {M2 : me_M} (hM2 : me_up M n (.inl (tb k, a0)) = M2) (hdg : decode cc pc = .ok (.newarray atype, 2))
    (kk : ∀ (H1 : Heap), me_at D z0 M2 (n + 1) s H1 locs → W p l e R s m args below meth c H1 locs (cells + 1) (slots + N') Q (F0 m (pc + 2) ls (.ref n :: rest))) : W p l e R s m args below meth c H locs cells slots Q (F0 m pc ls (.int i :: rest)) := by
  obtain ⟨hx, hb, -, hown, hts, hE, -⟩ := hC
  obtain ⟨hok, hsz, hz, hz2, hS⟩ := hM
  refine va_newaK hx hb (hts _ harr) rfl hdg rfl hn hN hbytes hcells hslots hsz fun H1 cA e1 z1 o1 hAr hNm => ?_
  have hcA : cA = tb k := Option.some.inj (hNm.symm.trans (me_cls hE hk))
  subst hcA
  refine kk H1 ⟨hM2 ▸ hok.new hz hsz ?_ o1, z1, by omega, hz2, me_S.new hS hsz z1 o1⟩
  show H1[n]? = some (vp_cell _ _)
  rw [ha]
  exact e1
theorem me_newq (hC : me_cx ws_all p c cc nL s args m own D tb X z0) (hM : me_at D z0 M n s H locs) {C : String} {index : Nat} (hcl : Cond.classLink own index C ∈ ws_all) (hover : va_AO C s) {k : Nat} (hk : (me_tys tb)[k]? = some (tb k, .object C)) {i : Int32} {N' : Nat} (hn : ¬ i < 0) (hN : i.toNatClampNeg = N') (hbytes : N' * 4 ≤ 536870912) (hcells : cells + 1 ≤ R.cells) (hslots : slots + N' ≤ R.slots) {M2 : me_M} (hM2 : me_up M n (.inl (tb k, N', .inr (.inr (.inr (.inr (fun _ => none)))))) = M2) (hdg : decode cc pc = .ok (.anewarray index, 3))
    (kk : ∀ (H1 : Heap), me_at D z0 M2 (n + 1) s H1 locs → W p l e R s m args below meth c H1 locs (cells + 1) (slots + N') Q (F0 m (pc + 3) ls (.ref n :: rest))) : W p l e R s m args below meth c H locs cells slots Q (F0 m pc ls (.int i :: rest)) := by
  obtain ⟨hx, hb, -, hown, hts, hE, -⟩ := hC
  obtain ⟨hok, hsz, hz, hz2, hS⟩ := hM
  subst hN
  subst hsz
  refine W.anew hx hb hown (hts _ hcl) (va_AO.use hover) rfl hdg rfl hn hbytes hcells hslots fun cA kA comp f1 f2 f3 f4 => ?_
  have hcA : cA = tb k := Option.some.inj (f1.symm.trans (me_cls hE hk))
  subst hcA
  have z1 : (H.push ({ cls := tb k, slots := Array.replicate i.toNatClampNeg .null, vm := .none } : Cell)).size = H.size + 1 := by rw [Array.size_push]
  have o1 : ∀ q : Nat, q < H.size → (H.push ({ cls := tb k, slots := Array.replicate i.toNatClampNeg .null, vm := .none } : Cell))[q]? = H[q]? := fun q hq => by rw [Array.getElem?_push, if_neg (Nat.ne_of_lt hq)]
  refine kk _ ⟨hM2 ▸ hok.new hz rfl ?_ o1, z1, by omega, hz2, me_S.new hS rfl z1 o1⟩
  show _ = some (vp_cell _ _)
  rw [vp_cell_q, Array.getElem?_push_size, ← arrV_new]
  rfl
/-- the start of a body -/
theorem me_open {y : MethodName} {ret : Option FieldType} {rm : Room} {as : List Value} {Qc : Array Value → State → Outcome → State → Prop} {mc ms : Nat} (hy : plainName y.cls = true) (hcat : (lg_sl as).length ≤ nL)
    (body : ∀ (p : Program) (e : Env) (s : State) (m : MethodId) (args : Array Value) (below : List Frame) (meth : Method) (c : Code) (ls : Array Slot), me_cx ws_all p c cc nL s args m y.cls D tb X z0 → meth.sig.returnType = ret → meth.locks = false → meth.name = y.name → me_at D z0 M n s s.heap [] → lv_has ls nL (lv_args 0 as) →
      W p l e rm s m args below meth c s.heap [] 0 0 (MQ below Qc args s mc ms (me_A z0)) (F0 m 0 ls [])) : Met l y (.code y cc nL ret :: ws_all) rm (me_Pc as D tb X z0 M n) Qc mc ms (me_A z0) := by
  refine Met.ofW (cc := cc) (maxL := nL) (ret := ret) hy rfl ?_
  intro p e s m args below meth c s₁ B hml hv
  obtain ⟨rfl, hXs, hz, hsz, hok, hE⟩ := hv
  have hts := atoms_spec (ws := .code y cc nL ret :: ws_all) B.pre
  have hl := lv_entry as (n := nL) hcat
  rw [lg_entry_eq]
  exact body p e s m _ below meth c _ ⟨B.exec, B.bytes, hml, findClass_of_methodNamed B.named, fun w h => hts w (List.mem_cons_of_mem _ h), hE, hXs⟩ B.returns B.notSynchronized (name_of_methodNamed B.named B.method).1 ⟨hok, hsz, hz, by omega, va_S.rf⟩ hl
theorem me_iret {r v : Int32} {M' : me_M} {n' : Nat} (hC : me_cx ws_all p c cc nL s args m own D tb X z0) (hr : meth.sig.returnType = some .int) (hlk : meth.locks = false) (hM : me_at D z0 M n s H locs) (hv : v = r) (hMM : M = M') (hn : n = n') (hdg : decode cc pc = .ok (.ireturn, 1)) : W p l e R s m args below meth c H locs cells slots (MQ below (me_Qi D z0 r M' n') args s cells slots (me_A z0)) (F0 m pc ls [.int v]) := by
  subst hv; subst hMM; subst hn
  exact W.iret hC.1 hC.2.1 hr (fun t ht hW => ⟨⟨v, (M, n), rfl, ⟨rfl, rfl⟩, by rw [ht]; exact hM.2.1, by rw [ht]; exact hM.1⟩, hM.2.2.2.2.F ht⟩) hM.2.2.2.2.2.2 hdg
theorem me_zret {r v : Int32} {M' : me_M} {n' : Nat} (hC : me_cx ws_all p c cc nL s args m own D tb X z0) (hr : meth.sig.returnType = some .boolean) (hlk : meth.locks = false) (hM : me_at D z0 M n s H locs) (hv : v = r) (h01 : v = 0 ∨ v = 1) (hMM : M = M') (hn : n = n') (hdg : decode cc pc = .ok (.ireturn, 1)) : W p l e R s m args below meth c H locs cells slots (MQ below (me_Qi D z0 r M' n') args s cells slots (me_A z0)) (F0 m pc ls [.int v]) := by
  subst hv; subst hMM; subst hn
  exact W.zret hC.1 hC.2.1 hr (by rcases h01 with rfl | rfl <;> decide) (fun t ht hW => ⟨⟨v, (M, n), rfl, ⟨rfl, rfl⟩, by rw [ht]; exact hM.2.1, by rw [ht]; exact hM.1⟩, hM.2.2.2.2.F ht⟩) hM.2.2.2.2.2.2 hdg
theorem me_vret {M' : me_M} {n' : Nat} (hC : me_cx ws_all p c cc nL s args m own D tb X z0) (hr : meth.sig.returnType = none) (hlk : meth.locks = false) (hM : me_at D z0 M n s H locs) (hMM : M = M') (hn : n = n') (hdg : decode cc pc = .ok (.return_, 1)) : W p l e R s m args below meth c H locs cells slots (MQ below (me_Qv D z0 M' n') args s cells slots (me_A z0)) (F0 m pc ls []) := by
  subst hMM; subst hn
  exact W.vret hC.1 hC.2.1 hr (fun t ht hW => ⟨⟨(M, n), rfl, rfl, by rw [ht]; exact hM.2.1, by rw [ht]; exact hM.1⟩, hM.2.2.2.2.F ht⟩) hM.2.2.2.2.2.2 hdg
theorem me_pre (hC : me_cx ws_all p c cc nL s args m own D tb X z0) (hM : me_at D z0 M n s H locs) {As : List Value} (U : State) (hU : U.heap = H) (hW : s.WarmedH U.vm) : me_Pc As D tb X z0 M n As.toArray U := by
  obtain ⟨hx, hb, -, hown, hts, hE, hXs⟩ := hC
  obtain ⟨hok, hsz, hz, hz2, hS⟩ := hM
  exact ⟨rfl, hXs, hz, by rw [hU]; exact hsz, by rw [hU]; exact hok, va_K.moved hW.alike hE.1, hXs s U hW (by rw [hU]; exact hS.1) (fun q h1 h2 => by rw [hU]; exact hS.2.1 q h1 h2) hE.2⟩
theorem me_post (hM : me_at D z0 M n s H locs) {M' : me_M} {n' : Nat} {H1 : Heap} {locs1 : List Loc} {t : State} (ht : t.heap = H1) (hB : me_B D z0 (M', n') t) (hge : H.size ≤ H1.size) (hS : va_S (me_A z0) s.heap H1 locs1) : me_at D z0 M' n' s H1 locs1 := by
  subst ht
  have h1 : t.heap.size = n' := hB.1
  exact ⟨hB.2, h1, by have := hM.2.1; have := hM.2.2.1; omega, hM.2.2.2.1, hS⟩
variable {C : String} {index maxL mc ms nA ci N' : Nat} {y : MethodName} {bytes : ByteArray} {ret : Option FieldType} {rm : Room} {As : List Value} {b n' : Nat} {M' : me_M} {r : Int32} {T' : u_T} {fs : List Value}
theorem me_recv (hC : me_cx ws_all p c cc nL s args m own D tb X z0) (hM : me_at D z0 M n s H locs) (hc : me_cl[ci]? = some (C, T', N')) (he : M b = some (.inr (ci, fs))) : ∃ cellB : Cell, H[b]? = some cellB ∧ cellB.vm.isStatics = false ∧ s.vm.findClass C = some cellB.cls :=
  va_recv (tys := me_tys tb) hC.2.2.2.2.2.1.1 (hM.1.P he) (q0 := 0) hc rfl
theorem me_callVi (hC : me_cx ws_all p c cc nL s args m own D tb X z0) (hl : ls.size = nL) (hM : me_at D z0 M n s H locs) (ct : Met l y (.code y bytes maxL ret :: ws_all) rm (me_Pc (.ref b :: As) D tb X z0 M n) (me_Qi D z0 r M' n') mc ms (me_A z0)) (cw : CallW R s args own C index y bytes maxL ret (.code y bytes maxL ret :: ws_all) rm mc ms nA) (hnA : As.length = nA) (hc : me_cl[ci]? = some (C, T', N')) (he : M b = some (.inr (ci, fs))) (hst : st = As.reverse ++ .ref b :: rest) (hr : (rest.map fun v => v.category).sum ≤ 8) (hdg : decode cc pc = .ok (.invokevirtual index, 3)) (hf : cells + mc ≤ R.cells ∧ slots + ms ≤ R.slots)
    (kk : ∀ (H1 : Heap) (locs1 : List Loc), me_at D z0 M' n' s H1 locs1 → W p l e R s m args below meth c H1 locs1 (cells + mc) (slots + ms) Q (F0 m (pc + 3) ls (.int r :: rest))) : W p l e R s m args below meth c H locs cells slots Q (F0 m pc ls st) := by
  subst hst
  refine va_calli (va_runV (g := F0 m pc ls (As.reverse ++ .ref b :: rest)) (As := As) (rest := rest) ⟨hC.1, hC.2.1, hC.2.2.1, hC.2.2.2.1, hC.2.2.2.2.1⟩ ct cw ⟨me_blind, me_recv hC hM hc he, fun U hU hW => me_pre hC hM U hU hW⟩ rfl hnA hl rfl (lv_room hr) hdg hf) hM.2.2.2.2 (fun q _ h => h) (fun q h => h) (fun r1 u t H1 locs1 ht hvm hw hB hz1 hk1 hS => ?_)
  obtain ⟨rfl, rfl⟩ := hw
  exact kk H1 locs1 (me_post hM ht hB hz1 hS)
theorem me_callVv (hC : me_cx ws_all p c cc nL s args m own D tb X z0) (hl : ls.size = nL) (hM : me_at D z0 M n s H locs) (ct : Met l y (.code y bytes maxL ret :: ws_all) rm (me_Pc (.ref b :: As) D tb X z0 M n) (me_Qv D z0 M' n') mc ms (me_A z0)) (cw : CallW R s args own C index y bytes maxL ret (.code y bytes maxL ret :: ws_all) rm mc ms nA) (hnA : As.length = nA) (hc : me_cl[ci]? = some (C, T', N')) (he : M b = some (.inr (ci, fs))) (hst : st = As.reverse ++ .ref b :: rest) (hr : (rest.map fun v => v.category).sum ≤ 8) (hdg : decode cc pc = .ok (.invokevirtual index, 3)) (hf : cells + mc ≤ R.cells ∧ slots + ms ≤ R.slots)
    (kk : ∀ (H1 : Heap) (locs1 : List Loc), me_at D z0 M' n' s H1 locs1 → W p l e R s m args below meth c H1 locs1 (cells + mc) (slots + ms) Q (F0 m (pc + 3) ls rest)) : W p l e R s m args below meth c H locs cells slots Q (F0 m pc ls st) := by
  subst hst
  refine va_callv (va_runV (g := F0 m pc ls (As.reverse ++ .ref b :: rest)) (As := As) (rest := rest) ⟨hC.1, hC.2.1, hC.2.2.1, hC.2.2.2.1, hC.2.2.2.2.1⟩ ct cw ⟨me_blind, me_recv hC hM hc he, fun U hU hW => me_pre hC hM U hU hW⟩ rfl hnA hl rfl (lv_room hr) hdg hf) hM.2.2.2.2 (fun q _ h => h) (fun q h => h) (fun u t H1 locs1 ht hvm hw hB hz1 hk1 hS => ?_)
  subst hw
  exact kk H1 locs1 (me_post hM ht hB hz1 hS)
theorem me_callSi (hC : me_cx ws_all p c cc nL s args m own D tb X z0) (hl : ls.size = nL) (hM : me_at D z0 M n s H locs) (ct : Met l y (.code y bytes maxL ret :: ws_all) rm (me_Pc As D tb X z0 M n) (me_Qi D z0 r M' n') mc ms (me_A z0)) (cw : CallB R s args own index y bytes maxL ret (.code y bytes maxL ret :: ws_all) rm mc ms nA ∧ (Cond.static y).before args s = true) (hnA : As.length = nA) (hst : st = As.reverse ++ rest) (hr : (rest.map fun v => v.category).sum ≤ 8) (hdg : decode cc pc = .ok (.invokestatic index, 3)) (hf : cells + mc ≤ R.cells ∧ slots + ms ≤ R.slots)
    (kk : ∀ (H1 : Heap) (locs1 : List Loc), me_at D z0 M' n' s H1 locs1 → W p l e R s m args below meth c H1 locs1 (cells + mc) (slots + ms) Q (F0 m (pc + 3) ls (.int r :: rest))) : W p l e R s m args below meth c H locs cells slots Q (F0 m pc ls st) := by
  subst hst
  refine va_calli (va_runS (g := F0 m pc ls (As.reverse ++ rest)) (As := As) (rest := rest) ⟨hC.1, hC.2.1, hC.2.2.1, hC.2.2.2.1, hC.2.2.2.2.1⟩ ct cw ⟨me_blind, fun U hU hW => me_pre hC hM U hU hW⟩ rfl hnA hl rfl (lv_room hr) hdg hf) hM.2.2.2.2 (fun q _ h => h) (fun q h => h) (fun r1 u t H1 locs1 ht hvm hw hB hz1 hk1 hS => ?_)
  obtain ⟨rfl, rfl⟩ := hw
  exact kk H1 locs1 (me_post hM ht hB hz1 hS)
theorem me_callIv (hC : me_cx ws_all p c cc nL s args m own D tb X z0) (hl : ls.size = nL) (hM : me_at D z0 M n s H locs) (ct : Met l y (.code y bytes maxL none :: ws_all) rm (me_Pc (.ref b :: As) D tb X z0 M n) (me_Qv D z0 M' n') mc ms (me_A z0)) (cw : CallB R s args own index y bytes maxL none (.code y bytes maxL none :: ws_all) rm mc ms nA ∧ y.name = "<init>" ∧ (Cond.instanceMethod y).before args s = true) (hnA : As.length = nA) (hst : st = As.reverse ++ .ref b :: rest) (hr : (rest.map fun v => v.category).sum ≤ 8) (hdg : decode cc pc = .ok (.invokespecial index, 3)) (hf : cells + mc ≤ R.cells ∧ slots + ms ≤ R.slots)
    (kk : ∀ (H1 : Heap) (locs1 : List Loc), me_at D z0 M' n' s H1 locs1 → W p l e R s m args below meth c H1 locs1 (cells + mc) (slots + ms) Q (F0 m (pc + 3) ls rest)) : W p l e R s m args below meth c H locs cells slots Q (F0 m pc ls st) := by
  subst hst
  refine va_callv (va_runI (g := F0 m pc ls (As.reverse ++ .ref b :: rest)) (As := As) (rest := rest) ⟨hC.1, hC.2.1, hC.2.2.1, hC.2.2.2.1, hC.2.2.2.2.1⟩ ct cw ⟨me_blind, fun U hU hW => me_pre hC hM U hU hW⟩ rfl hnA hl rfl (lv_room hr) hdg hf) hM.2.2.2.2 (fun q _ h => h) (fun q h => h) (fun u t H1 locs1 ht hvm hw hB hz1 hk1 hS => ?_)
  subst hw
  exact kk H1 locs1 (me_post hM ht hB hz1 hS)
/-- a call's words out of the one list -/
theorem me_cwV (hts : ∀ w ∈ ws_all, w.before args s = true) (h1 : Cond.methodLink own index y ∈ ws_all) (h2 : Cond.instanceMethod y ∈ ws_all) (h3 : Cond.selects C y y ∈ ws_all) (h4 : Cond.initialized C ∈ ws_all) (h5 : Cond.code y bytes maxL ret ∈ ws_all) (hd : y.cls = C ∧ y.cls ≠ "java/lang/invoke/MethodHandle" ∧ y.cls ≠ "java/lang/invoke/VarHandle" ∧ (parseMethodDescriptor y.desc).map (fun d => d.parameters.length) = some nA) (hrc : rm.cells = mc) (hrs : rm.slots = ms) (hR : rm.frames + 1 ≤ R.frames ∧ 8 + (maxL + 11) + rm.locals ≤ R.locals) : CallW R s args own C index y bytes maxL ret (.code y bytes maxL ret :: ws_all) rm mc ms nA := by
  refine cwV nA hts ?_ rfl hrc hrs hd hR
  intro w hw
  unfold wsV at hw
  rcases List.mem_append.mp hw with hw | hw
  · simp only [List.mem_cons, List.not_mem_nil, or_false] at hw
    rcases hw with rfl | rfl | rfl | rfl
    · exact ws_Good _ h1
    · exact ws_Good _ h2
    · exact ws_Good _ h3
    · exact ws_Good _ h4
  · exact ws_Goodc h5 w hw
theorem me_cwS (hts : ∀ w ∈ ws_all, w.before args s = true) (h1 : Cond.methodLink own index y ∈ ws_all) (h2 : Cond.static y ∈ ws_all) (h4 : Cond.initialized own ∈ ws_all) (h5 : Cond.code y bytes maxL ret ∈ ws_all) (hd : y.cls = own ∧ y.cls ≠ "java/lang/invoke/MethodHandle" ∧ y.cls ≠ "java/lang/invoke/VarHandle" ∧ (parseMethodDescriptor y.desc).map (fun d => d.parameters.length) = some nA) (hrc : rm.cells = mc) (hrs : rm.slots = ms) (hR : rm.frames + 1 ≤ R.frames ∧ 8 + (maxL + 11) + rm.locals ≤ R.locals) : CallB R s args own index y bytes maxL ret (.code y bytes maxL ret :: ws_all) rm mc ms nA ∧ (Cond.static y).before args s = true := by
  refine cwS nA hts ?_ rfl hrc hrs hd hR
  intro w hw
  unfold wsS at hw
  rcases List.mem_append.mp hw with hw | hw
  · simp only [List.mem_cons, List.not_mem_nil, or_false] at hw
    rcases hw with rfl | rfl | rfl
    · exact ws_Good _ h1
    · exact ws_Good _ h2
    · exact ws_Good _ h4
  · exact ws_Goodc h5 w hw
theorem me_cwI (hts : ∀ w ∈ ws_all, w.before args s = true) (h1 : Cond.methodLink own index y ∈ ws_all) (h2 : Cond.instanceMethod y ∈ ws_all) (h4 : Cond.initialized y.cls ∈ ws_all) (h5 : Cond.code y bytes maxL none ∈ ws_all) (hy1 : y.name = "<init>") (hd : y.cls ≠ "java/lang/invoke/MethodHandle" ∧ y.cls ≠ "java/lang/invoke/VarHandle" ∧ (parseMethodDescriptor y.desc).map (fun d => d.parameters.length) = some nA) (hrc : rm.cells = mc) (hrs : rm.slots = ms) (hR : rm.frames + 1 ≤ R.frames ∧ 8 + (maxL + 11) + rm.locals ≤ R.locals) : CallB R s args own index y bytes maxL none (.code y bytes maxL none :: ws_all) rm mc ms nA ∧ y.name = "<init>" ∧ (Cond.instanceMethod y).before args s = true :=
  cwI nA hts (ws_Goodc h5) rfl hrc hrs (hts _ h4) (hts _ h1) (hts _ h2) hy1 hd hR
end ME2
