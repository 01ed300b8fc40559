/-! ===== calls of a superclass's methods ===== -/
section SB0
variable {p : Program} {l : Launch} {e : Env} {R : Room} {s : State} {m : MethodId} {args : Array Value} {below : List Frame} {meth : Method} {c : Code} {H : Heap} {locs : List Loc} {cells slots : Nat} {Q : State → Prop}
variable {cc : ByteArray} {nL pc : Nat} {ls : Array Slot} {rest st : List Value} {D : va_G} {tb : Nat → ClassId} {X : State → Prop} {z0 n a : Nat} {M : me_M} {own : String}
variable {C owner : String} {index maxL mc ms nA ci N' : Nat} {y : MethodName} {bytes : ByteArray} {ret : Option FieldType} {rm : Room} {As : List Value} {b n' : Nat} {M' : me_M} {r : Int32} {T' : u_T} {fs : List Value}
theorem me_cwU (hts : ∀ w ∈ ws_all, w.before args s = true) (h1 : Cond.methodLink own index y ∈ ws_all) (hsm : Cond.sameMethod y.cls y.cls y.name y.desc ∈ ws_all) (hsel : (Cond.selects C y y).before args s = true) (h2 : Cond.instanceMethod y ∈ ws_all) (h4 : Cond.initialized y.cls ∈ ws_all) (h5 : Cond.code y bytes maxL ret ∈ ws_all) (hd : y.cls ≠ "java/lang/invoke/MethodHandle" ∧ y.cls ≠ "java/lang/invoke/VarHandle" ∧ (parseMethodDescriptor y.desc).map (fun d => d.parameters.length) = some nA) (hrc : rm.cells = mc) (hrs : rm.slots = ms) (hR : rm.frames + 1 ≤ R.frames ∧ 8 + (maxL + 11) + rm.locals ≤ R.locals) : va_CU R s args own C y.cls index y y bytes maxL ret (.code y bytes maxL ret :: ws_all) rm mc ms nA := by
  refine ⟨⟨hrc, hrs, hR.1, hR.2, pay_in hts (ws_Goodc h5), List.mem_cons_self⟩, hts _ h5, hts _ h4, ⟨hd.1, hd.2.1⟩, fun sig h => ?_, hts _ h1, hts _ hsm, va_Decl.of (hts _ h2) (hts _ h5), hsel, hts _ h2⟩
  have h2 := hd.2.2
  rw [h] at h2
  exact (Option.some.inj h2).symm
theorem me_cwSU (hts : ∀ w ∈ ws_all, w.before args s = true) (h1 : Cond.methodLink own index y ∈ ws_all) (hsm : Cond.sameMethod y.cls y.cls y.name y.desc ∈ ws_all) (hsu : Cond.superclass own y.cls ∈ ws_all) (h2 : Cond.instanceMethod y ∈ ws_all) (h4 : Cond.initialized y.cls ∈ ws_all) (h5 : Cond.code y bytes maxL ret ∈ ws_all) (hd : y.name ≠ "<init>" ∧ (parseMethodDescriptor y.desc).map (fun d => d.parameters.length) = some nA) (hrc : rm.cells = mc) (hrs : rm.slots = ms) (hR : rm.frames + 1 ≤ R.frames ∧ 8 + (maxL + 11) + rm.locals ≤ R.locals) : va_CS R s args own index y bytes maxL ret (.code y bytes maxL ret :: ws_all) rm mc ms nA := by
  refine ⟨⟨hrc, hrs, hR.1, hR.2, pay_in hts (ws_Goodc h5), List.mem_cons_self⟩, hts _ h1, hts _ hsm, hts _ hsu, hts _ h2, hts _ h4, hts _ h5, hd.1, fun sig h => ?_⟩
  have h2 := hd.2
  rw [h] at h2
  exact (Option.some.inj h2).symm
theorem me_cat (hC : me_cx ws_all p c cc nL s args m own D tb X z0) (hc : me_cl[ci]? = some (C, T', N')) : ∃ cC, ClassAt s C cC := by
  obtain ⟨-, h⟩ := hC.2.2.2.2.2.1.1.1 ci _ hc
  exact ⟨_, h⟩
theorem me_callUi (hC : me_cx ws_all p c cc nL s args m own D tb X z0) (hl : ls.size = nL) (hM : me_at D z0 M n s H locs) (ct : Met l y (.code y bytes maxL ret :: ws_all) rm (me_Pc (.ref b :: As) D tb X z0 M n) (me_Qi D z0 r M' n') mc ms (me_A z0)) (cw : va_CU R s args own C owner index y y bytes maxL ret (.code y bytes maxL ret :: ws_all) rm mc ms nA) (hnA : As.length = nA) (hc : me_cl[ci]? = some (C, T', N')) (he : M b = some (.inr (ci, fs))) (hst : st = As.reverse ++ .ref b :: rest) (hr : (rest.map fun v => v.category).sum ≤ 8) (hdg : decode cc pc = .ok (.invokevirtual index, 3)) (hf : cells + mc ≤ R.cells ∧ slots + ms ≤ R.slots)
    (kk : ∀ (H1 : Heap) (locs1 : List Loc), me_at D z0 M' n' s H1 locs1 → W p l e R s m args below meth c H1 locs1 (cells + mc) (slots + ms) Q (F0 m (pc + 3) ls (.int r :: rest))) : W p l e R s m args below meth c H locs cells slots Q (F0 m pc ls st) := by
  subst hst
  refine va_calli (va_runU (g := F0 m pc ls (As.reverse ++ .ref b :: rest)) (As := As) (rest := rest) ⟨hC.1, hC.2.1, hC.2.2.1, hC.2.2.2.1, hC.2.2.2.2.1⟩ ct cw ⟨me_blind, me_recv hC hM hc he, fun U hU hW => me_pre hC hM U hU hW⟩ rfl hnA hl rfl (lv_room hr) hdg hf) hM.2.2.2.2 (fun q _ h => h) (fun q h => h) (fun r1 u t H1 locs1 ht hvm hw hB hz1 hk1 hS => ?_)
  obtain ⟨rfl, rfl⟩ := hw
  exact kk H1 locs1 (me_post hM ht hB hz1 hS)
theorem me_callUv (hC : me_cx ws_all p c cc nL s args m own D tb X z0) (hl : ls.size = nL) (hM : me_at D z0 M n s H locs) (ct : Met l y (.code y bytes maxL ret :: ws_all) rm (me_Pc (.ref b :: As) D tb X z0 M n) (me_Qv D z0 M' n') mc ms (me_A z0)) (cw : va_CU R s args own C owner index y y bytes maxL ret (.code y bytes maxL ret :: ws_all) rm mc ms nA) (hnA : As.length = nA) (hc : me_cl[ci]? = some (C, T', N')) (he : M b = some (.inr (ci, fs))) (hst : st = As.reverse ++ .ref b :: rest) (hr : (rest.map fun v => v.category).sum ≤ 8) (hdg : decode cc pc = .ok (.invokevirtual index, 3)) (hf : cells + mc ≤ R.cells ∧ slots + ms ≤ R.slots)
    (kk : ∀ (H1 : Heap) (locs1 : List Loc), me_at D z0 M' n' s H1 locs1 → W p l e R s m args below meth c H1 locs1 (cells + mc) (slots + ms) Q (F0 m (pc + 3) ls rest)) : W p l e R s m args below meth c H locs cells slots Q (F0 m pc ls st) := by
  subst hst
  refine va_callv (va_runU (g := F0 m pc ls (As.reverse ++ .ref b :: rest)) (As := As) (rest := rest) ⟨hC.1, hC.2.1, hC.2.2.1, hC.2.2.2.1, hC.2.2.2.2.1⟩ ct cw ⟨me_blind, me_recv hC hM hc he, fun U hU hW => me_pre hC hM U hU hW⟩ rfl hnA hl rfl (lv_room hr) hdg hf) hM.2.2.2.2 (fun q _ h => h) (fun q h => h) (fun u t H1 locs1 ht hvm hw hB hz1 hk1 hS => ?_)
  subst hw
  exact kk H1 locs1 (me_post hM ht hB hz1 hS)
theorem me_callSUi (hC : me_cx ws_all p c cc nL s args m own D tb X z0) (hl : ls.size = nL) (hM : me_at D z0 M n s H locs) (ct : Met l y (.code y bytes maxL ret :: ws_all) rm (me_Pc (.ref b :: As) D tb X z0 M n) (me_Qi D z0 r M' n') mc ms (me_A z0)) (cw : va_CS R s args own index y bytes maxL ret (.code y bytes maxL ret :: ws_all) rm mc ms nA) (hnA : As.length = nA) (hc : me_cl[ci]? = some (C, T', N')) (he : M b = some (.inr (ci, fs))) (hst : st = As.reverse ++ .ref b :: rest) (hr : (rest.map fun v => v.category).sum ≤ 8) (hdg : decode cc pc = .ok (.invokespecial index, 3)) (hf : cells + mc ≤ R.cells ∧ slots + ms ≤ R.slots)
    (kk : ∀ (H1 : Heap) (locs1 : List Loc), me_at D z0 M' n' s H1 locs1 → W p l e R s m args below meth c H1 locs1 (cells + mc) (slots + ms) Q (F0 m (pc + 3) ls (.int r :: rest))) : W p l e R s m args below meth c H locs cells slots Q (F0 m pc ls st) := by
  subst hst
  obtain ⟨cC, hat⟩ := me_cat hC hc
  refine va_calli (va_runSU (g := F0 m pc ls (As.reverse ++ .ref b :: rest)) (As := As) (rest := rest) hat ⟨hC.1, hC.2.1, hC.2.2.1, hC.2.2.2.1, hC.2.2.2.2.1⟩ ct cw ⟨me_blind, me_recv hC hM hc he, fun U hU hW => me_pre hC hM U hU hW⟩ rfl hnA hl rfl (lv_room hr) hdg hf) hM.2.2.2.2 (fun q _ h => h) (fun q h => h) (fun r1 u t H1 locs1 ht hvm hw hB hz1 hk1 hS => ?_)
  obtain ⟨rfl, rfl⟩ := hw
  exact kk H1 locs1 (me_post hM ht hB hz1 hS)
theorem me_callSUr (hC : me_cx ws_all p c cc nL s args m own D tb X z0) (hl : ls.size = nL) (hM : me_at D z0 M n s H locs) (ct : Met l y (.code y bytes maxL ret :: ws_all) rm (me_Pc (.ref b :: As) D tb X z0 M n) (me_Qr D z0 a M' n') mc ms (me_A z0)) (cw : va_CS R s args own index y bytes maxL ret (.code y bytes maxL ret :: ws_all) rm mc ms nA) (hnA : As.length = nA) (hc : me_cl[ci]? = some (C, T', N')) (he : M b = some (.inr (ci, fs))) (hst : st = As.reverse ++ .ref b :: rest) (hr : (rest.map fun v => v.category).sum ≤ 8) (hdg : decode cc pc = .ok (.invokespecial index, 3)) (hf : cells + mc ≤ R.cells ∧ slots + ms ≤ R.slots)
    (kk : ∀ (H1 : Heap) (locs1 : List Loc), me_at D z0 M' n' s H1 locs1 → W p l e R s m args below meth c H1 locs1 (cells + mc) (slots + ms) Q (F0 m (pc + 3) ls (.ref a :: rest))) : W p l e R s m args below meth c H locs cells slots Q (F0 m pc ls st) := by
  subst hst
  obtain ⟨cC, hat⟩ := me_cat hC hc
  refine va_callr (va_runSU (g := F0 m pc ls (As.reverse ++ .ref b :: rest)) (As := As) (rest := rest) hat ⟨hC.1, hC.2.1, hC.2.2.1, hC.2.2.2.1, hC.2.2.2.2.1⟩ ct cw ⟨me_blind, me_recv hC hM hc he, fun U hU hW => me_pre hC hM U hU hW⟩ rfl hnA hl rfl (lv_room hr) hdg hf) hM.2.2.2.2 (fun q _ h => h) (fun q h => h) (fun u ra t H1 locs1 ht hvm hw hB hz1 hk1 hS => ?_)
  subst hw
  obtain ⟨rfl, hB⟩ := hB
  exact kk H1 locs1 (me_post hM ht hB hz1 hS)
/-- System.arraycopy between two arrays of bytes, from the beginning -/
theorem me_acopy (hC : me_cx ws_all p c cc nL s args m own D tb X z0) (hl : ls.size = nL) (hM : me_at D z0 M n s H locs) (hlink : Cond.methodLink own index arraycopyName ∈ ws_all) (hnat : Cond.native arraycopyName ∈ ws_all) (hstat : Cond.static arraycopyName ∈ ws_all) (hini : Cond.initialized "java/lang/System" ∈ ws_all) {a0 n0 n1 k : Nat} {f g : Nat → Int32} (he0 : M a0 = some (.inl (tb 1, n0, .inl f))) (he1 : M a = some (.inl (tb 1, n1, .inl g))) (hk : k < 2 ^ 31) (h4 : k ≤ n0) (h5 : k ≤ n1) (hfit : sb_Fit f)
    {M2 : me_M} (hM2 : me_up M a (.inl (tb 1, n1, .inl (va_cpy f g 0 0 k))) = M2) (hframes : 1 ≤ R.frames) (hlocals : (rest.map fun v => v.category).sum + (nativeFrameWords "java/lang/System" "arraycopy" 5 + 11) ≤ R.locals) (hdg : decode cc pc = .ok (.invokestatic index, 3))
    (kk : ∀ (H1 : Heap) (locs1 : List Loc), me_at D z0 M2 n s H1 locs1 → W p l e R s m args below meth c H1 locs1 cells slots Q (F0 m (pc + 3) ls rest)) : W p l e R s m args below meth c H locs cells slots Q (F0 m pc ls (.int (nI k) :: .int 0 :: .ref a :: .int 0 :: .ref a0 :: rest)) := by
  obtain ⟨hx, hb, hml, hown, hts, hE, -⟩ := hC
  obtain ⟨hok, hsz, hz, hz2, hS⟩ := hM
  have hK := hE.1
  have hat := hok a _ he1
  have nn : (nI k).toInt = (k : Int) := nI_toInt hk
  have nc : (nI k).toNatClampNeg = k := nI_clamp hk
  intro T hT X
  have hc0 : H[a0]? = some (vp_cell (tb 1) (n0, .inl f)) := (hok a0 _ he0).2
  have hc1 : H[a]? = some (vp_cell (tb 1) (n1, .inl g)) := hat.2
  obtain ⟨-, k0, hk0, cm0, hkk0⟩ := (hK.2 1 _ rfl).1 n0 (fun j => .int (f j))
  obtain ⟨-, k1, hk1, cm1, hkk1⟩ := (hK.2 1 _ rfl).1 n1 (fun j => .int (g j))
  obtain ⟨vm', X', step⟩ := X.arraycopy hx hown (hts _ hlink) (hts _ hnat) (hts _ hstat) (hts _ hini) (src := a0) (dst := a) (cs := vp_cell (tb 1) (n0, .inl f)) (cd := vp_cell (tb 1) (n1, .inl g)) (srcPos := 0) (destPos := 0) (n := nI k) (by rw [hT]; exact hc0) (by rw [hT]; exact hc1)
    (fun _ h => by cases h) (fun _ h => by cases h) (fun h => by cases h) (fun h => by cases h) hk0 hk1 hkk0 hkk1 (by simp [refKind]) (by decide) (by decide) (nI_pos hk)
    (by rw [nn]; show ¬ (0 : Int) + k > ((arrV (tb 1) n0 (fun j => .int (f j))).slots.size : Int); rw [arrV_size]; omega)
    (by rw [nn]; show ¬ (0 : Int) + k > ((arrV (tb 1) n1 (fun j => .int (g j))).slots.size : Int); rw [arrV_size]; omega)
    (fun vm₁ _ i hi => by
      have hi : i < k := by rw [nc] at hi; exact hi
      have e : (vp_cell (tb 1) (n0, .inl f)).slots.getD ((0 : Int32).toNatClampNeg + i) .null = .int (f i) := by
        show (arrV (tb 1) n0 (fun j => .int (f j))).slots.getD _ _ = _
        rw [Array.getD_eq_getD_getElem?, arrV_read _ _ (by show 0 + i < n0; omega)]
        show Value.int (f (0 + i)) = _
        rw [Nat.zero_add]
      refine ⟨?_, ?_⟩
      · rw [e]
        exact hfit i
      · rw [e]
        exact trivial)
    (g := F0 m pc ls (.int (nI k) :: .int 0 :: .ref a :: .int 0 :: .ref a0 :: rest)) rfl (by rw [hml]; exact hl) (rest := rest) rfl (by rw [hb]; exact hdg) hframes (by show 2 * 0 + _ + _ ≤ _; omega)
  have e1 : copied (vp_cell (tb 1) (n0, .inl f)) (vp_cell (tb 1) (n1, .inl g)) 0 0 (nI k) = vp_cell (tb 1) (n1, .inl (va_cpy f g 0 0 k)) := by
    have h : copied (vp_cell (tb 1) (n0, .inl f)) (vp_cell (tb 1) (n1, .inl g)) 0 0 (nI k) = vp_cell (tb 1) (n1, .inl (va_cpy f g (0 : Int32).toNatClampNeg (0 : Int32).toNatClampNeg (nI k).toNatClampNeg)) := va_copied (fun z => .int z) (tb 1) (tb 1) f g (by rw [nc]; show 0 + k ≤ n0; omega)
    rw [nc] at h
    exact h
  rw [e1] at X' step
  have hl2 : a < H.size := (Array.getElem?_eq_some_iff.mp hc1).1
  have hheap : ((T.setVm vm').setCell a (vp_cell (tb 1) (n1, .inl (va_cpy f g 0 0 k)))).heap = H.setIfInBounds a (vp_cell (tb 1) (n1, .inl (va_cpy f g 0 0 k))) := by rw [← hT]; rfl
  have oq : ∀ q : Nat, q ≠ a → (H.setIfInBounds a (vp_cell (tb 1) (n1, .inl (va_cpy f g 0 0 k))))[q]? = H[q]? := fun q hq => by simp [Array.getElem?_setIfInBounds, Ne.symm hq]
  have hsz2 : (H.setIfInBounds a (vp_cell (tb 1) (n1, .inl (va_cpy f g 0 0 k)))).size = H.size := by simp
  have hup : va_at D me_cl (a, .inl (tb 1, n1, .inl (va_cpy f g 0 0 k))) (H.setIfInBounds a (vp_cell (tb 1) (n1, .inl (va_cpy f g 0 0 k)))) := by
    show (H.setIfInBounds a _)[a]? = some _
    simp [Array.getElem?_setIfInBounds, hl2]
  obtain ⟨t, a1, b1⟩ := kk _ _ ⟨hM2 ▸ hok.up hat.1 hup oq, hsz2.trans hsz, hz, hz2, ⟨by rw [hsz2]; exact hS.1, fun q g1 g2 => (oq q (fun e => g2 (by rw [e]; exact hat.1))).trans (hS.2.1 q g1 g2), fun q hq => by
      rcases List.mem_append.mp hq with h | h
      · exact hS.2.2 q h
      · obtain ⟨z, -, hz'⟩ := List.mem_map.mp h
        rw [← hz']
        exact hat.1⟩⟩ _ hheap X'
  exact ⟨t, step t a1, b1⟩
end SB0
/-- the tables of digits, the words of the builder's own methods -/
def me_kd (kO kT : Nat) (z0 : Nat) (U : State) : Prop := va_Z "java/lang/Integer" "DigitOnes" "[B" (.ref kO) (me_A z0) U U.heap ∧ va_Z "java/lang/Integer" "DigitTens" "[B" (.ref kT) (me_A z0) U U.heap ∧ va_T .byte kO 100 (fun k => .int (sb_b (48 + k % 10))) (me_A z0) U U.heap ∧ va_T .byte kT 100 (fun k => .int (sb_b (48 + k / 10))) (me_A z0) U U.heap ∧ va_Nw (.selects RJ4 yJ5_ensureCapacityInternal_d00df yJ5_ensureCapacityInternal_d00df) U ∧ va_Nw (.selects RJ4 yJ5_newCapacity_0f7a4 yJ5_newCapacity_0f7a4) U ∧ va_Nw (.selects RJ4 yJ5_putStringAt_47b60 yJ5_putStringAt_47b60) U ∧ va_Nw (.selects RJ4 yJ5_inflateIfNeededFor_a7421 yJ5_inflateIfNeededFor_a7421) U ∧ va_Nw (.castable "[B" "java/lang/Cloneable") U
