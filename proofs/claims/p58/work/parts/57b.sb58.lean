/-! ===== calls of overriding methods; copies out of constant texts; clones ===== -/
section SB58
variable {p : Program} {l : Launch} {e : Env} {R : Room} {s : State} {m : MethodId} {args : Array Value} {below : List Frame} {meth : Method} {c : Code} {H : Heap} {locs : List Loc} {cells slots : Nat} {Q : State → Prop}
variable {cc : ByteArray} {nL pc : Nat} {ls : Array Slot} {rest st : List Value} {D : va_G} {tb : Nat → ClassId} {X : State → Prop} {z0 n a : Nat} {M : me_M} {own : String}
variable {C owner : String} {index maxL mc ms nA ci N' : Nat} {x y : MethodName} {bytes b0 : ByteArray} {m0 : Nat} {r0 ret : Option FieldType} {rm : Room} {As : List Value} {b n' : Nat} {M' : me_M} {r : Int32} {T' : u_T} {fs : List Value}
theorem me_cwO (hts : ∀ w ∈ ws_all, w.before args s = true) (h1 : Cond.methodLink own index x ∈ ws_all) (hsm : Cond.sameMethod x.cls x.cls x.name x.desc ∈ ws_all) (hsel : (Cond.selects C x y).before args s = true) (h2x : Cond.instanceMethod x ∈ ws_all) (h5x : Cond.code x b0 m0 r0 ∈ ws_all) (h2 : Cond.instanceMethod y ∈ ws_all) (h4 : Cond.initialized y.cls ∈ ws_all) (h5 : Cond.code y bytes maxL ret ∈ ws_all) (hd : x.cls ≠ "java/lang/invoke/MethodHandle" ∧ x.cls ≠ "java/lang/invoke/VarHandle" ∧ (parseMethodDescriptor x.desc).map (fun d => d.parameters.length) = some nA) (hrc : rm.cells = mc) (hrs : rm.slots = ms) (hR : rm.frames + 1 ≤ R.frames ∧ 8 + (maxL + 11) + rm.locals ≤ R.locals) : va_CU R s args own C x.cls index x y bytes maxL ret (.code y bytes maxL ret :: ws_all) rm mc ms nA := by
  refine ⟨⟨hrc, hrs, hR.1, hR.2, pay_in hts (ws_Goodc h5), List.mem_cons_self⟩, hts _ h5, hts _ h4, ⟨hd.1, hd.2.1⟩, fun sig h => ?_, hts _ h1, hts _ hsm, va_Decl.of (hts _ h2x) (hts _ h5x), hsel, hts _ h2⟩
  have h2 := hd.2.2
  rw [h] at h2
  exact (Option.some.inj h2).symm
theorem me_callOi (hC : me_cx ws_all p c cc nL s args m own D tb X z0) (hl : ls.size = nL) (hM : me_at D z0 M n s H locs) (ct : Met l y (.code y bytes maxL ret :: ws_all) rm (me_Pc (.ref b :: As) D tb X z0 M n) (me_Qi D z0 r M' n') mc ms (me_A z0)) (cw : va_CU R s args own C owner index x y bytes maxL ret (.code y bytes maxL ret :: ws_all) rm mc ms nA) (hnA : As.length = nA) (hc : me_cl[ci]? = some (C, T', N')) (he : M b = some (.inr (ci, fs))) (hst : st = As.reverse ++ .ref b :: rest) (hr : (rest.map fun v => v.category).sum ≤ 8) (hdg : decode cc pc = .ok (.invokevirtual index, 3)) (hf : cells + mc ≤ R.cells ∧ slots + ms ≤ R.slots)
    (kk : ∀ (H1 : Heap) (locs1 : List Loc), me_at D z0 M' n' s H1 locs1 → W p l e R s m args below meth c H1 locs1 (cells + mc) (slots + ms) Q (F0 m (pc + 3) ls (.int r :: rest))) : W p l e R s m args below meth c H locs cells slots Q (F0 m pc ls st) := by
  subst hst
  refine va_calli (va_runU (g := F0 m pc ls (As.reverse ++ .ref b :: rest)) (As := As) (rest := rest) ⟨hC.1, hC.2.1, hC.2.2.1, hC.2.2.2.1, hC.2.2.2.2.1⟩ ct cw ⟨me_blind, me_recv hC hM hc he, fun U hU hW => me_pre hC hM U hU hW⟩ rfl hnA hl rfl (lv_room hr) hdg hf) hM.2.2.2.2 (fun q _ h => h) (fun q h => h) (fun r1 u t H1 locs1 ht hvm hw hB hz1 hk1 hS => ?_)
  obtain ⟨rfl, rfl⟩ := hw
  exact kk H1 locs1 (me_post hM ht hB hz1 hS)
theorem me_callUr (hC : me_cx ws_all p c cc nL s args m own D tb X z0) (hl : ls.size = nL) (hM : me_at D z0 M n s H locs) (ct : Met l y (.code y bytes maxL ret :: ws_all) rm (me_Pc (.ref b :: As) D tb X z0 M n) (me_Qr D z0 a M' n') mc ms (me_A z0)) (cw : va_CU R s args own C owner index x y bytes maxL ret (.code y bytes maxL ret :: ws_all) rm mc ms nA) (hnA : As.length = nA) (hc : me_cl[ci]? = some (C, T', N')) (he : M b = some (.inr (ci, fs))) (hst : st = As.reverse ++ .ref b :: rest) (hr : (rest.map fun v => v.category).sum ≤ 8) (hdg : decode cc pc = .ok (.invokevirtual index, 3)) (hf : cells + mc ≤ R.cells ∧ slots + ms ≤ R.slots)
    (kk : ∀ (H1 : Heap) (locs1 : List Loc), me_at D z0 M' n' s H1 locs1 → W p l e R s m args below meth c H1 locs1 (cells + mc) (slots + ms) Q (F0 m (pc + 3) ls (.ref a :: rest))) : W p l e R s m args below meth c H locs cells slots Q (F0 m pc ls st) := by
  subst hst
  refine va_callr (va_runU (g := F0 m pc ls (As.reverse ++ .ref b :: rest)) (As := As) (rest := rest) ⟨hC.1, hC.2.1, hC.2.2.1, hC.2.2.2.1, hC.2.2.2.2.1⟩ ct cw ⟨me_blind, me_recv hC hM hc he, fun U hU hW => me_pre hC hM U hU hW⟩ rfl hnA hl rfl (lv_room hr) hdg hf) hM.2.2.2.2 (fun q _ h => h) (fun q h => h) (fun u ra t H1 locs1 ht hvm hw hB hz1 hk1 hS => ?_)
  subst hw
  obtain ⟨rfl, hB⟩ := hB
  exact kk H1 locs1 (me_post hM ht hB hz1 hS)
theorem me_callVrv (hC : me_cx ws_all p c cc nL s args m own D tb X z0) (hl : ls.size = nL) (hM : me_at D z0 M n s H locs) (ct : Met l y (.code y bytes maxL ret :: ws_all) rm (me_Pc (.ref b :: As) D tb X z0 M n) (me_Qv D z0 M' n') mc ms (me_A z0)) (cw : CallW R s args own C index y bytes maxL ret (.code y bytes maxL ret :: ws_all) rm mc ms nA) (hnA : As.length = nA) (hrc : ∃ cellB : Cell, H[b]? = some cellB ∧ cellB.vm.isStatics = false ∧ s.vm.findClass C = some cellB.cls) (hst : st = As.reverse ++ .ref b :: rest) (hr : (rest.map fun v => v.category).sum ≤ 8) (hdg : decode cc pc = .ok (.invokevirtual index, 3)) (hf : cells + mc ≤ R.cells ∧ slots + ms ≤ R.slots)
    (kk : ∀ (H1 : Heap) (locs1 : List Loc), me_at D z0 M' n' s H1 locs1 → W p l e R s m args below meth c H1 locs1 (cells + mc) (slots + ms) Q (F0 m (pc + 3) ls rest)) : W p l e R s m args below meth c H locs cells slots Q (F0 m pc ls st) := by
  subst hst
  refine va_callv (va_runV (g := F0 m pc ls (As.reverse ++ .ref b :: rest)) (As := As) (rest := rest) ⟨hC.1, hC.2.1, hC.2.2.1, hC.2.2.2.1, hC.2.2.2.2.1⟩ ct cw ⟨me_blind, hrc, fun U hU hW => me_pre hC hM U hU hW⟩ rfl hnA hl rfl (lv_room hr) hdg hf) hM.2.2.2.2 (fun q _ h => h) (fun q h => h) (fun u t H1 locs1 ht hvm hw hB hz1 hk1 hS => ?_)
  subst hw
  exact kk H1 locs1 (me_post hM ht hB hz1 hS)
/-- System.arraycopy out of a constant text's letters -/
theorem me_copyt (hC : me_cx ws_all p c cc nL s args m own D tb X z0) (hl : ls.size = nL) (hM : me_at D z0 M n s H locs) (hlink : Cond.methodLink own index arraycopyName ∈ ws_all) (hnat : Cond.native arraycopyName ∈ ws_all) (hstat : Cond.static arraycopyName ∈ ws_all) (hini : Cond.initialized "java/lang/System" ∈ ws_all) {q0 n0 n1 k d : Nat} {f g : Nat → Int32} (hX : va_T .byte q0 n0 (fun j => .int (f j)) (me_A z0) s s.heap) (he1 : M a = some (.inl (tb 1, n1, .inl g))) (hk : k + d < 2 ^ 31) (h4 : k ≤ n0) (h5 : d + k ≤ n1) (hfit : ∀ i, i < k → fits .byte (.int (f i)) = true)
    {M2 : me_M} (hM2 : me_up M a (.inl (tb 1, n1, .inl (va_cpy f g 0 d k))) = M2) (hframes : 1 ≤ R.frames) (hlocals : (rest.map fun v => v.category).sum + (nativeFrameWords "java/lang/System" "arraycopy" 5 + 11) ≤ R.locals) (hdg : decode cc pc = .ok (.invokestatic index, 3))
    (kk : ∀ (H1 : Heap) (locs1 : List Loc), me_at D z0 M2 n s H1 locs1 → W p l e R s m args below meth c H1 locs1 cells slots Q (F0 m (pc + 3) ls rest)) : W p l e R s m args below meth c H locs cells slots Q (F0 m pc ls (.int (nI k) :: .int (nI d) :: .ref a :: .int 0 :: .ref q0 :: rest)) := by
  obtain ⟨hx, hb, hml, hown, hts, hE, -⟩ := hC
  obtain ⟨hok, hsz, hz, hz2, hS⟩ := hM
  have hK := hE.1
  have hat := hok a _ he1
  have nk : (nI k).toNatClampNeg = k := nI_clamp (by omega)
  have nd : (nI d).toNatClampNeg = d := nI_clamp (by omega)
  have nn : (nI k).toInt = (k : Int) := nI_toInt (by omega)
  have nnd : (nI d).toInt = (d : Int) := nI_toInt (by omega)
  have hc1 : H[a]? = some (vp_cell (tb 1) (n1, .inl g)) := hat.2
  intro T hT X
  obtain ⟨scr, hs1, hs2, hs3, hs4, hs4b, hs5, hs7⟩ := hX
  have hc0 : H[q0]? = some scr := by rw [hS.2.1 q0 (Array.getElem?_eq_some_iff.mp hs1).1 hs7]; exact hs1
  obtain ⟨hs6, k0, hk0, cm0, hkk0⟩ := hs2
  obtain ⟨-, k1, hk1, cm1, hkk1⟩ := (hK.2 1 _ rfl).1 n1 (fun j => .int (g j))
  have hrd : ∀ i : Nat, i < k → scr.slots.getD i .null = .int (f i) := by
    intro i hi
    rw [Array.getD_eq_getD_getElem?, hs5 i (by omega)]
    rfl
  obtain ⟨vm', X', step⟩ := X.arraycopy hx hown (hts _ hlink) (hts _ hnat) (hts _ hstat) (hts _ hini) (src := q0) (dst := a) (cs := scr) (cd := vp_cell (tb 1) (n1, .inl g)) (srcPos := 0) (destPos := nI d) (n := nI k) (by rw [hT]; exact hc0) (by rw [hT]; exact hc1)
    (fun k h => hs6 k h) (fun _ h => by cases h) hs3 (fun h => by cases h) hk0 hk1 hkk0 hkk1 (by simp [refKind]) (by decide) (nI_pos (by omega)) (nI_pos (by omega))
    (by rw [nn]; show ¬ (0 : Int) + k > (scr.slots.size : Int); omega)
    (by rw [nn, nnd]; show ¬ (d : Int) + k > ((arrV (tb 1) n1 (fun j => .int (g j))).slots.size : Int); rw [arrV_size]; omega)
    (fun vm₁ _ i hi => by
      have hi : i < k := by rw [nk] at hi; exact hi
      have e : scr.slots.getD ((0 : Int32).toNatClampNeg + i) .null = .int (f i) := by
        rw [show (0 : Int32).toNatClampNeg + i = i from Nat.zero_add i]
        exact hrd i hi
      refine ⟨?_, ?_⟩
      · rw [e]
        exact hfit i hi
      · rw [e]
        exact trivial)
    (g := F0 m pc ls (.int (nI k) :: .int (nI d) :: .ref a :: .int 0 :: .ref q0 :: rest)) rfl (by rw [hml]; exact hl) (rest := rest) rfl (by rw [hb]; exact hdg) hframes (by show 2 * 0 + _ + _ ≤ _; omega)
  have e1 : copied scr (vp_cell (tb 1) (n1, .inl g)) 0 (nI d) (nI k) = vp_cell (tb 1) (n1, .inl (va_cpy f g 0 d k)) := by
    have h : copied scr (vp_cell (tb 1) (n1, .inl g)) 0 (nI d) (nI k) = vp_cell (tb 1) (n1, .inl (va_cpy f g (0 : Int32).toNatClampNeg (nI d).toNatClampNeg (nI k).toNatClampNeg)) := va_copiedX (fun z => .int z) scr (tb 1) f g hs5 (by rw [nk]; show 0 + k ≤ n0; omega)
    rw [nk, nd] at h
    exact h
  rw [e1] at X' step
  have hl2 : a < H.size := (Array.getElem?_eq_some_iff.mp hc1).1
  have hheap : ((T.setVm vm').setCell a (vp_cell (tb 1) (n1, .inl (va_cpy f g 0 d k)))).heap = H.setIfInBounds a (vp_cell (tb 1) (n1, .inl (va_cpy f g 0 d k))) := by rw [← hT]; rfl
  have oq : ∀ q : Nat, q ≠ a → (H.setIfInBounds a (vp_cell (tb 1) (n1, .inl (va_cpy f g 0 d k))))[q]? = H[q]? := fun q hq => by simp [Array.getElem?_setIfInBounds, Ne.symm hq]
  have hsz2 : (H.setIfInBounds a (vp_cell (tb 1) (n1, .inl (va_cpy f g 0 d k)))).size = H.size := by simp
  have hup : va_at D me_cl (a, .inl (tb 1, n1, .inl (va_cpy f g 0 d k))) (H.setIfInBounds a (vp_cell (tb 1) (n1, .inl (va_cpy f g 0 d k)))) := by
    show (H.setIfInBounds a _)[a]? = some _
    simp [Array.getElem?_setIfInBounds, hl2]
  obtain ⟨t, a1, b1⟩ := kk _ _ ⟨hM2 ▸ hok.up hat.1 hup oq, hsz2.trans hsz, hz, hz2, ⟨by rw [hsz2]; exact hS.1, fun q g1 g2 => (oq q (fun e => g2 (by rw [e]; exact hat.1))).trans (hS.2.1 q g1 g2), fun q hq => by
      rcases List.mem_append.mp hq with h | h
      · exact hS.2.2 q h
      · obtain ⟨z, -, hz'⟩ := List.mem_map.mp h
        rw [← hz']
        exact hat.1⟩⟩ _ hheap X'
  exact ⟨t, step t a1, b1⟩
/-- an array of bytes cloned -/
theorem me_clone (hC : me_cx ws_all p c cc nL s args m own D tb X z0) (hl : ls.size = nL) (hM : me_at D z0 M n s H locs) (hlink : Cond.methodLink own index ⟨"[B", "clone", "()Ljava/lang/Object;"⟩ ∈ ws_all) (hsame : (Cond.sameMethod "[B" "java/lang/Object" "clone" "()Ljava/lang/Object;") ∈ ws_all) (hnat : Cond.native ⟨"java/lang/Object", "clone", "()Ljava/lang/Object;"⟩ ∈ ws_all) (hinst : Cond.instanceMethod ⟨"java/lang/Object", "clone", "()Ljava/lang/Object;"⟩ ∈ ws_all)
    (hsel : (Cond.selects "[B" ⟨"[B", "clone", "()Ljava/lang/Object;"⟩ ⟨"java/lang/Object", "clone", "()Ljava/lang/Object;"⟩).before args s = true) (hcl : va_Nw (.castable "[B" "java/lang/Cloneable") s) {N : Nat} {f : Nat → Int32} (he : M a = some (.inl (tb 1, N, .inl f))) (hfit : sb_Fit f) {M2 : me_M} (hM2 : me_up M n (.inl (tb 1, N, .inl f)) = M2)
    (hframes : 1 ≤ R.frames) (hlocals : (rest.map fun v => v.category).sum + 14 ≤ R.locals) (hcells : cells + 1 ≤ R.cells) (hslots : slots + N ≤ R.slots) (hdg : decode cc pc = .ok (.invokevirtual index, 3))
    (kk : ∀ (H1 : Heap), me_at D z0 M2 (n + 1) s H1 locs → W p l e R s m args below meth c H1 locs (cells + 1) (slots + N) Q (F0 m (pc + 3) ls (.ref n :: rest))) : W p l e R s m args below meth c H locs cells slots Q (F0 m pc ls (.ref a :: rest)) := by
  obtain ⟨hx, hb, hml, hown, hts, hE, -⟩ := hC
  obtain ⟨hok, hsz, hz, hz2, hS⟩ := hM
  have hK := hE.1
  have hat := hok a _ he
  have hnm : s.vm.findClass "[B" = some (tb 1) := (hK.2 1 _ rfl).2
  obtain ⟨c0, t0', f1, f2, f3⟩ := Cond.castable_spec (va_Nw.use (A := args) rfl hcl)
  cases hnm.symm.trans f1
  intro T hT X
  have hcellT : T.heap[a]? = some (vp_cell (tb 1) (N, .inl f)) := by rw [hT]; exact hat.2
  obtain ⟨-, kA, hkA, comp, hkind⟩ := State.isArrayOf_alike X.warmed.alike ((hK.2 1 _ rfl).1 0 (fun _ => .null))
  obtain ⟨-, kS, hkS, compS, hkindS⟩ := (hK.2 1 _ rfl).1 0 (fun _ => .null)
  have hszc : (vp_cell (tb 1) (N, .inl f)).slots.size = N := arrV_size _ _ _
  obtain ⟨vm', X', st⟩ := X.cloneArray hx hown (hts _ hlink) (hts _ hsame) (hts _ hnat) (hts _ hinst) hsel (a := a) (cell := vp_cell (tb 1) (N, .inl f)) hcellT (fun k h => by cases h) (fun h => by cases h) hnm f2 f3
    (fun i v hv => by
      have hk' : T.vm.classes[tb 1]? = some kA := hkA
      have hi : i < N := by have := (Array.getElem?_eq_some_iff.mp hv).1; rw [hszc] at this; exact this
      have hv2 : (arrV (tb 1) N (fun j => .int (f j))).slots[i]? = some v := hv
      rw [arrV_read _ _ hi] at hv2
      cases hv2
      have hf := hfit i
      rw [show (vp_cell (tb 1) (N, .inl f)).cls = tb 1 from rfl]
      simpa [State.fitsSlot, State.slotType?, hk', hkind] using hf)
    (g := F0 m pc ls (.ref a :: rest)) rfl (by rw [hml]; exact hl) rfl (by rw [hb]; exact hdg) hframes (by show 2 * 0 + _ + 14 ≤ _; omega) hcells (by rw [hszc]; exact hslots) (hloader := Vm.clonesLoader_of_array hkS hkindS)
  rw [hszc] at X'
  generalize hH1 : H.push (vp_cell (tb 1) (N, .inl f)) = H1
  have z1 : H1.size = n + 1 := by rw [← hH1, Array.size_push, hsz]
  have e1 : H1[n]? = some (vp_cell (tb 1) (N, .inl f)) := by rw [← hH1, ← hsz, Array.getElem?_push_size]
  have o1 : ∀ q : Nat, q < n → H1[q]? = H[q]? := fun q hq => by rw [← hH1, Array.getElem?_push, if_neg (by omega)]
  obtain ⟨t, b1, b2⟩ := kk H1 ⟨hM2 ▸ hok.new hz hsz e1 (fun q hq => o1 q (by omega)), z1, by omega, hz2, me_S.new hS hsz z1 (fun q hq => o1 q (by omega))⟩ ((T.setVm vm').pushCell (vp_cell (tb 1) (N, .inl f))) (by rw [← hH1, ← hT]; rfl) X'
  refine ⟨t, st t ?_, b2⟩
  have hh : T.heap.size = n := by rw [hT]; exact hsz
  rw [hh]
  exact b1
theorem me_castb (hC : me_cx ws_all p c cc nL s args m own D tb X z0) (hM : me_at D z0 M n s H locs) (hlink : Cond.classLink own index "[B" ∈ ws_all) {N : Nat} {f : Nat → Int32} (he : M a = some (.inl (tb 1, N, .inl f))) (hdg : decode cc pc = .ok (.checkcast index, 3))
    (k : W p l e R s m args below meth c H locs cells slots Q (F0 m (pc + 3) ls (.ref a :: rest))) : W p l e R s m args below meth c H locs cells slots Q (F0 m pc ls (.ref a :: rest)) :=
  va_castA (D := D) hC.1 hC.2.1 hC.2.2.2.1 (hC.2.2.2.2.1 _ hlink) (hM.1.P he) 0 rfl (hC.2.2.2.2.2.1.1.2 1 _ rfl).2 hdg k
end SB58
theorem ks_fit0 : ∀ i, i < 12 → ∀ j, j < ks_len.getD i 0 → fits .byte (.int (ks_c i j)) = true := by decide +kernel
theorem ks_fit (i : Nat) (hi : i < 12) : ∀ j, j < ks_len.getD i 0 → fits .byte (.int (ks_c i j)) = true := ks_fit0 i hi
