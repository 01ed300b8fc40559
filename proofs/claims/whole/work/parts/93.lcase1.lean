section LC1
variable {p : Program} {l : Launch} {e : Env} {R : Room} {s : State} {m : MethodId} {args : Array Value} {below : List Frame} {meth : Method} {c : Code} {H : Heap} {locs : List Loc} {cells slots : Nat} {Q : State → Prop} {ls : Array Slot}
variable {D : va_G} {tb : Nat → ClassId} {X : State → Prop} {z0 n : Nat} {M M1 M2 : me_M} {b L i bo mo oa da : Nat} {xs : Nat → Int32} {k r : Int32} {mc ms mc2 ms2 : Nat} {rm1 rm2 : Room} {fs fs2 : List Value} {n2 : Nat → Nat} {n1 n3 : Nat}
set_option maxHeartbeats 4000000 in
theorem lw_c0 (hC : me_cx ws_all p c cL_law 10 s args m RL D tb X z0) (hl : lv_has ls 10 [(0, .ref b), (1, .ref bo), (2, .ref mo), (3, .ref oa), (4, .ref da), (5, .int (nI i))]) (hR : 14 ≤ R.frames ∧ 522 ≤ R.locals) (hM : me_at D z0 M n s H locs) (hX : va_X b L xs s s.heap) (hbl : b < s.heap.size) (hbA : ¬ me_A z0 b) (hi : i + 6 ≤ L) (hL : L ≤ 3072) (hrc2 : rm2.cells = mc2) (hrs2 : rm2.slots = ms2) (hr2 : rm2.frames ≤ 13 ∧ rm2.locals ≤ 480) (he1 : M1 mo = some (.inr (8, fs))) (he2 : M2 mo = some (.inr (8, fs2))) (hf : cells + mc + mc2 ≤ R.cells ∧ slots + ms + ms2 ≤ R.slots) (ct1 : Met l yL_append (.codeWith yL_append cL_append 8 (some .int) [(0, 16, 19, 13)] :: ws_all) ({ frames := 13, cells := mc, slots := ms, locals := 480 } : Room) (me_Pc [.ref bo, .int (xs (i + 1)), .int (xs (i + 2)), .int (xs (i + 3)), .int (xs (i + 4)), .int (xs (i + 5)), .ref oa] D tb X z0 M n) (me_Qn D z0 k M1) mc ms (me_A z0)) (ct2 : ∀ n1, Met l yX8_append (.code yX8_append cX8_append 6 (some .int) :: ws_all) rm2 (me_Pc [.ref mo, .int (xs (i + 1)), .int (xs (i + 2)), .int (xs (i + 3)), .int (xs (i + 4)), .int (xs (i + 5))] D tb X z0 M1 n1) (me_Qi D z0 r M2 (n2 n1)) mc2 ms2 (me_A z0)) (ct3 : ∀ n1, Met l yX8_thrown (.code yX8_thrown cX8_thrown 1 (some .int) :: ws_all) ({ frames := 0, cells := 0, slots := 0, locals := 0 } : Room) (me_Pc [.ref mo] D tb X z0 M2 n1) (me_Qi D z0 k M2 n1) 0 0 (me_A z0)) (hk : k = 0 → ∃ f : Nat → Int64, M2 oa = some (.inl (tb 3, 1, .inr (.inl f))) ∧ f 0 = r.toInt64) (kk : ∀ (ls1 : Array Slot) (H1 : Heap) (locs1 : List Loc) (n5 : Nat), lv_has ls1 10 [(0, .ref b), (1, .ref bo), (2, .ref mo), (3, .ref oa), (4, .ref da), (5, .int (nI i))] → me_at D z0 M2 n5 s H1 locs1 → W p l e R s m args below meth c H1 locs1 (cells + mc + mc2) (slots + ms + ms2) Q (F0 m 2920 ls1 [])) : W p l e R s m args below meth c H locs cells slots Q (F0 m 280 ls []) := by
  have hx := hC.1
  have hb := hC.2.1
  have hw := hC.2.2.2.2.1
  refine lv_aload_n hx hb dL_law_280 rfl (lv_at hl 1 rfl) ?_
  refine lv_aload_n hx hb dL_law_281 rfl (lv_at hl 0 rfl) ?_
  refine lv_iload hx hb dL_law_282 (lv_at hl 5 rfl) ?_
  refine lv_iconst (v := 1) hx hb dL_law_284 (by decide) ?_
  refine lv_iadd hx hb dL_law_285 ?_
  refine lw_rd (k := 1) hx hb hX hbl hbA hM.2.2.2.2 rfl (by omega) hL dL_law_286 ?_
  refine lv_aload_n hx hb dL_law_287 rfl (lv_at hl 0 rfl) ?_
  refine lv_iload hx hb dL_law_288 (lv_at hl 5 rfl) ?_
  refine lv_iconst (v := 2) hx hb dL_law_290 (by decide) ?_
  refine lv_iadd hx hb dL_law_291 ?_
  refine lw_rd (k := 2) hx hb hX hbl hbA hM.2.2.2.2 rfl (by omega) hL dL_law_292 ?_
  refine lv_aload_n hx hb dL_law_293 rfl (lv_at hl 0 rfl) ?_
  refine lv_iload hx hb dL_law_294 (lv_at hl 5 rfl) ?_
  refine lv_iconst (v := 3) hx hb dL_law_296 (by decide) ?_
  refine lv_iadd hx hb dL_law_297 ?_
  refine lw_rd (k := 3) hx hb hX hbl hbA hM.2.2.2.2 rfl (by omega) hL dL_law_298 ?_
  refine lv_aload_n hx hb dL_law_299 rfl (lv_at hl 0 rfl) ?_
  refine lv_iload hx hb dL_law_300 (lv_at hl 5 rfl) ?_
  refine lv_iconst (v := 4) hx hb dL_law_302 (by decide) ?_
  refine lv_iadd hx hb dL_law_303 ?_
  refine lw_rd (k := 4) hx hb hX hbl hbA hM.2.2.2.2 rfl (by omega) hL dL_law_304 ?_
  refine lv_aload_n hx hb dL_law_305 rfl (lv_at hl 0 rfl) ?_
  refine lv_iload hx hb dL_law_306 (lv_at hl 5 rfl) ?_
  refine lv_iconst (v := 5) hx hb dL_law_308 (by decide) ?_
  refine lv_iadd hx hb dL_law_309 ?_
  refine lw_rd (k := 5) hx hb hX hbl hbA hM.2.2.2.2 rfl (by omega) hL dL_law_310 ?_
  refine lv_aload_n hx hb dL_law_311 rfl (lv_at hl 3 rfl) ?_
  refine me_callSn (nA := 7) (As := [.ref bo, .int (xs (i + 1)), .int (xs (i + 2)), .int (xs (i + 3)), .int (xs (i + 4)), .int (xs (i + 5)), .ref oa]) (rest := []) hC hl.1 hM ct1 w_657 w_658 w_0 w_659 (by decide +kernel) rfl rfl ⟨by show 13 + 1 ≤ R.frames; omega, by show 8 + (8 + 11) + 480 ≤ R.locals; omega⟩ rfl rfl (Nat.le_of_ble_eq_true rfl) dL_law_312 ⟨by omega, by omega⟩ (fun H locs n1 hM => ?_)
  refine lv_istore (lv' := [(6, .int k), (0, .ref b), (1, .ref bo), (2, .ref mo), (3, .ref oa), (4, .ref da), (5, .int (nI i))]) hx hb dL_law_315 hl (by decide) rfl (fun ls hl => ?_)
  refine lv_aload_n hx hb dL_law_317 rfl (lv_at hl 3 rfl) ?_
  refine lv_aload_n hx hb dL_law_318 rfl (lv_at hl 1 rfl) ?_
  refine lv_iload hx hb dL_law_319 (lv_at hl 6 rfl) ?_
  refine lv_iconst (v := 1) hx hb dL_law_321 (by decide) ?_
  refine lv_iadd hx hb dL_law_322 ?_
  refine lw_rd (k := 1) hx hb hX hbl hbA hM.2.2.2.2 rfl (by omega) hL dL_law_323 ?_
  refine lv_aload_n hx hb dL_law_324 rfl (lv_at hl 1 rfl) ?_
  refine lv_iload hx hb dL_law_325 (lv_at hl 6 rfl) ?_
  refine lv_iconst (v := 2) hx hb dL_law_327 (by decide) ?_
  refine lv_iadd hx hb dL_law_328 ?_
  refine lw_rd (k := 2) hx hb hX hbl hbA hM.2.2.2.2 rfl (by omega) hL dL_law_329 ?_
  refine lv_aload_n hx hb dL_law_330 rfl (lv_at hl 1 rfl) ?_
  refine lv_iload hx hb dL_law_331 (lv_at hl 6 rfl) ?_
  refine lv_iconst (v := 3) hx hb dL_law_333 (by decide) ?_
  refine lv_iadd hx hb dL_law_334 ?_
  refine lw_rd (k := 3) hx hb hX hbl hbA hM.2.2.2.2 rfl (by omega) hL dL_law_335 ?_
  refine lv_aload_n hx hb dL_law_336 rfl (lv_at hl 1 rfl) ?_
  refine lv_iload hx hb dL_law_337 (lv_at hl 6 rfl) ?_
  refine lv_iconst (v := 4) hx hb dL_law_339 (by decide) ?_
  refine lv_iadd hx hb dL_law_340 ?_
  refine lw_rd (k := 4) hx hb hX hbl hbA hM.2.2.2.2 rfl (by omega) hL dL_law_341 ?_
  refine lv_aload_n hx hb dL_law_342 rfl (lv_at hl 1 rfl) ?_
  refine lv_iload hx hb dL_law_343 (lv_at hl 6 rfl) ?_
  refine lv_iconst (v := 5) hx hb dL_law_345 (by decide) ?_
  refine lv_iadd hx hb dL_law_346 ?_
  refine lw_rd (k := 5) hx hb hX hbl hbA hM.2.2.2.2 rfl (by omega) hL dL_law_347 ?_
  refine me_callVi (As := [.int (xs (i + 1)), .int (xs (i + 2)), .int (xs (i + 3)), .int (xs (i + 4)), .int (xs (i + 5))]) (rest := []) hC hl.1 hM (ct2 n1) (kv_L_144 hw hrc2 hrs2 ⟨by omega, by show 8 + (6 + 11) + rm2.locals ≤ R.locals; omega⟩) rfl rfl he1 rfl (Nat.le_of_ble_eq_true rfl) dL_law_348 ⟨by omega, by omega⟩ (fun H locs hM => ?_)
  refine lv_istore (lv' := [(7, .int r), (6, .int k), (0, .ref b), (1, .ref bo), (2, .ref mo), (3, .ref oa), (4, .ref da), (5, .int (nI i))]) hx hb dL_law_351 hl (by decide) rfl (fun ls hl => ?_)
  refine lv_aload_n hx hb dL_law_353 rfl (lv_at hl 4 rfl) ?_
  refine me_callVi (As := []) (rest := []) hC hl.1 hM (ct3 _) (kv_L_145 hw rfl rfl ⟨by show 0 + 1 ≤ R.frames; omega, by show 8 + (1 + 11) + 0 ≤ R.locals; omega⟩) rfl rfl he2 rfl (Nat.le_of_ble_eq_true rfl) dL_law_354 ⟨by omega, by omega⟩ (fun H locs hM => ?_)
  refine lv_iload hx hb dL_law_357 (lv_at hl 1 rfl) ?_
  refine lv_icmp_eq (tgt := 364) hx hb dL_law_359 (by decide) (fun _ => ?_) (fun h => absurd rfl h)
  refine lv_iload hx hb dL_law_364 (lv_at hl 1 rfl) ?_
  refine lv_if_ne (tgt := 381) hx hb dL_law_366 (by decide) (fun _ => ?_) (fun h0 => ?_)
  · refine lv_goto (tgt := 2920) hx hb dL_law_381 (by decide) ?_
    exact kk ls H locs _ (lv_sub hl [2, 3, 4, 5, 6, 7] rfl) hM
  obtain ⟨f, ho, hf0⟩ := hk h0
  refine lv_aload_n hx hb dL_law_369 rfl (lv_at hl 5 rfl) ?_
  refine lv_iconst (v := 0) hx hb dL_law_370 (by decide) ?_
  refine me_lald (k := 0) hC hM ho rfl (by decide) (by decide) dL_law_371 ?_
  refine lv_iload hx hb dL_law_372 (lv_at hl 0 rfl) ?_
  refine lv_i2l hx hb dL_law_374 rfl ?_
  refine W.lcmp hx hb dL_law_375 ?_
  refine lv_if_eq (tgt := 381) hx hb dL_law_376 (by decide) (fun _ => ?_) (fun h => absurd (lw_lself hf0) h)
  refine lv_goto (tgt := 2920) hx hb dL_law_381 (by decide) ?_
  exact kk ls H locs _ (lv_sub hl [2, 3, 4, 5, 6, 7] rfl) hM
set_option maxHeartbeats 4000000 in
theorem lw_c1 (hC : me_cx ws_all p c cL_law 10 s args m RL D tb X z0) (hl : lv_has ls 10 [(0, .ref b), (1, .ref bo), (2, .ref mo), (3, .ref oa), (4, .ref da), (5, .int (nI i))]) (hR : 14 ≤ R.frames ∧ 522 ≤ R.locals) (hM : me_at D z0 M n s H locs) (hX : va_X b L xs s s.heap) (hbl : b < s.heap.size) (hbA : ¬ me_A z0 b) (hi : i + 6 ≤ L) (hL : L ≤ 3072) (hrc2 : rm2.cells = mc2) (hrs2 : rm2.slots = ms2) (hr2 : rm2.frames ≤ 13 ∧ rm2.locals ≤ 480) (he1 : M1 mo = some (.inr (8, fs))) (he2 : M2 mo = some (.inr (8, fs2))) (hf : cells + mc + mc2 ≤ R.cells ∧ slots + ms + ms2 ≤ R.slots) (ct1 : Met l yL_load (.codeWith yL_load cL_load 4 (some .int) [(0, 9, 12, 19), (0, 9, 15, 21)] :: ws_all) ({ frames := 13, cells := mc, slots := ms, locals := 480 } : Room) (me_Pc [.ref bo, .int (xs (i + 1)), .ref oa] D tb X z0 M n) (me_Qn D z0 k M1) mc ms (me_A z0)) (ct2 : ∀ n1, Met l yX8_load (.code yX8_load cX8_load 2 (some .int) :: ws_all) rm2 (me_Pc [.ref mo, .int (xs (i + 1))] D tb X z0 M1 n1) (me_Qi D z0 r M2 (n2 n1)) mc2 ms2 (me_A z0)) (ct3 : ∀ n1, Met l yX8_thrown (.code yX8_thrown cX8_thrown 1 (some .int) :: ws_all) ({ frames := 0, cells := 0, slots := 0, locals := 0 } : Room) (me_Pc [.ref mo] D tb X z0 M2 n1) (me_Qi D z0 k M2 n1) 0 0 (me_A z0)) (hk : k = 0 → ∃ f : Nat → Int64, M2 oa = some (.inl (tb 3, 1, .inr (.inl f))) ∧ f 0 = r.toInt64) (kk : ∀ (ls1 : Array Slot) (H1 : Heap) (locs1 : List Loc) (n5 : Nat), lv_has ls1 10 [(0, .ref b), (1, .ref bo), (2, .ref mo), (3, .ref oa), (4, .ref da), (5, .int (nI i))] → me_at D z0 M2 n5 s H1 locs1 → W p l e R s m args below meth c H1 locs1 (cells + mc + mc2) (slots + ms + ms2) Q (F0 m 2920 ls1 [])) : W p l e R s m args below meth c H locs cells slots Q (F0 m 384 ls []) := by
  have hx := hC.1
  have hb := hC.2.1
  have hw := hC.2.2.2.2.1
  refine lv_aload_n hx hb dL_law_384 rfl (lv_at hl 1 rfl) ?_
  refine lv_aload_n hx hb dL_law_385 rfl (lv_at hl 0 rfl) ?_
  refine lv_iload hx hb dL_law_386 (lv_at hl 5 rfl) ?_
  refine lv_iconst (v := 1) hx hb dL_law_388 (by decide) ?_
  refine lv_iadd hx hb dL_law_389 ?_
  refine lw_rd (k := 1) hx hb hX hbl hbA hM.2.2.2.2 rfl (by omega) hL dL_law_390 ?_
  refine lv_aload_n hx hb dL_law_391 rfl (lv_at hl 3 rfl) ?_
  refine me_callSn (nA := 3) (As := [.ref bo, .int (xs (i + 1)), .ref oa]) (rest := []) hC hl.1 hM ct1 w_736 w_737 w_0 w_738 (by decide +kernel) rfl rfl ⟨by show 13 + 1 ≤ R.frames; omega, by show 8 + (4 + 11) + 480 ≤ R.locals; omega⟩ rfl rfl (Nat.le_of_ble_eq_true rfl) dL_law_392 ⟨by omega, by omega⟩ (fun H locs n1 hM => ?_)
  refine lv_istore (lv' := [(6, .int k), (0, .ref b), (1, .ref bo), (2, .ref mo), (3, .ref oa), (4, .ref da), (5, .int (nI i))]) hx hb dL_law_395 hl (by decide) rfl (fun ls hl => ?_)
  refine lv_aload_n hx hb dL_law_397 rfl (lv_at hl 3 rfl) ?_
  refine lv_aload_n hx hb dL_law_398 rfl (lv_at hl 1 rfl) ?_
  refine lv_iload hx hb dL_law_399 (lv_at hl 6 rfl) ?_
  refine lv_iconst (v := 1) hx hb dL_law_401 (by decide) ?_
  refine lv_iadd hx hb dL_law_402 ?_
  refine lw_rd (k := 1) hx hb hX hbl hbA hM.2.2.2.2 rfl (by omega) hL dL_law_403 ?_
  refine me_callVi (As := [.int (xs (i + 1))]) (rest := []) hC hl.1 hM (ct2 n1) (kv_L_151 hw hrc2 hrs2 ⟨by omega, by show 8 + (2 + 11) + rm2.locals ≤ R.locals; omega⟩) rfl rfl he1 rfl (Nat.le_of_ble_eq_true rfl) dL_law_404 ⟨by omega, by omega⟩ (fun H locs hM => ?_)
  refine lv_istore (lv' := [(7, .int r), (6, .int k), (0, .ref b), (1, .ref bo), (2, .ref mo), (3, .ref oa), (4, .ref da), (5, .int (nI i))]) hx hb dL_law_407 hl (by decide) rfl (fun ls hl => ?_)
  refine lv_aload_n hx hb dL_law_409 rfl (lv_at hl 4 rfl) ?_
  refine me_callVi (As := []) (rest := []) hC hl.1 hM (ct3 _) (kv_L_145 hw rfl rfl ⟨by show 0 + 1 ≤ R.frames; omega, by show 8 + (1 + 11) + 0 ≤ R.locals; omega⟩) rfl rfl he2 rfl (Nat.le_of_ble_eq_true rfl) dL_law_410 ⟨by omega, by omega⟩ (fun H locs hM => ?_)
  refine lv_iload hx hb dL_law_413 (lv_at hl 1 rfl) ?_
  refine lv_icmp_eq (tgt := 420) hx hb dL_law_415 (by decide) (fun _ => ?_) (fun h => absurd rfl h)
  refine lv_iload hx hb dL_law_420 (lv_at hl 1 rfl) ?_
  refine lv_if_ne (tgt := 437) hx hb dL_law_422 (by decide) (fun _ => ?_) (fun h0 => ?_)
  · refine lv_goto (tgt := 2920) hx hb dL_law_437 (by decide) ?_
    exact kk ls H locs _ (lv_sub hl [2, 3, 4, 5, 6, 7] rfl) hM
  obtain ⟨f, ho, hf0⟩ := hk h0
  refine lv_aload_n hx hb dL_law_425 rfl (lv_at hl 5 rfl) ?_
  refine lv_iconst (v := 0) hx hb dL_law_426 (by decide) ?_
  refine me_lald (k := 0) hC hM ho rfl (by decide) (by decide) dL_law_427 ?_
  refine lv_iload hx hb dL_law_428 (lv_at hl 0 rfl) ?_
  refine lv_i2l hx hb dL_law_430 rfl ?_
  refine W.lcmp hx hb dL_law_431 ?_
  refine lv_if_eq (tgt := 437) hx hb dL_law_432 (by decide) (fun _ => ?_) (fun h => absurd (lw_lself hf0) h)
  refine lv_goto (tgt := 2920) hx hb dL_law_437 (by decide) ?_
  exact kk ls H locs _ (lv_sub hl [2, 3, 4, 5, 6, 7] rfl) hM
set_option maxHeartbeats 4000000 in
theorem lw_c2 (hC : me_cx ws_all p c cL_law 10 s args m RL D tb X z0) (hl : lv_has ls 10 [(0, .ref b), (1, .ref bo), (2, .ref mo), (3, .ref oa), (4, .ref da), (5, .int (nI i))]) (hR : 14 ≤ R.frames ∧ 522 ≤ R.locals) (hM : me_at D z0 M n s H locs) (hrc1 : rm1.cells = mc) (hrs1 : rm1.slots = ms) (hr1 : rm1.frames ≤ 13 ∧ rm1.locals ≤ 480) (hrc2 : rm2.cells = mc2) (hrs2 : rm2.slots = ms2) (hr2 : rm2.frames ≤ 13 ∧ rm2.locals ≤ 480) (he : M bo = some (.inr (7, fs))) (he2 : M1 mo = some (.inr (8, fs2))) (hf : cells + mc + mc2 ≤ R.cells ∧ slots + ms + ms2 ≤ R.slots) (ct1 : Met l yX7_errorKind (.code yX7_errorKind cX7_errorKind 1 (some .int) :: ws_all) rm1 (me_Pc [.ref bo] D tb X z0 M n) (me_Qi D z0 r M1 n1) mc ms (me_A z0)) (ct2 : Met l yX8_errorKind (.code yX8_errorKind cX8_errorKind 1 (some .int) :: ws_all) rm2 (me_Pc [.ref mo] D tb X z0 M1 n1) (me_Qi D z0 r M2 n3) mc2 ms2 (me_A z0)) (kk : ∀ (ls1 : Array Slot) (H1 : Heap) (locs1 : List Loc) (n5 : Nat), lv_has ls1 10 [(0, .ref b), (1, .ref bo), (2, .ref mo), (3, .ref oa), (4, .ref da), (5, .int (nI i))] → me_at D z0 M2 n5 s H1 locs1 → W p l e R s m args below meth c H1 locs1 (cells + mc + mc2) (slots + ms + ms2) Q (F0 m 2920 ls1 [])) : W p l e R s m args below meth c H locs cells slots Q (F0 m 440 ls []) := by
  have hx := hC.1
  have hb := hC.2.1
  have hw := hC.2.2.2.2.1
  refine lv_aload_n hx hb dL_law_440 rfl (lv_at hl 1 rfl) ?_
  refine me_callVi (As := []) (rest := []) hC hl.1 hM ct1 (kv_L_152 hw hrc1 hrs1 ⟨by omega, by show 8 + (1 + 11) + rm1.locals ≤ R.locals; omega⟩) rfl rfl he rfl (Nat.le_of_ble_eq_true rfl) dL_law_441 ⟨by omega, by omega⟩ (fun H locs hM => ?_)
  refine lv_aload_n hx hb dL_law_444 rfl (lv_at hl 2 rfl) ?_
  refine me_callVi (As := []) (rest := [.int r]) hC hl.1 hM ct2 (kv_L_155 hw hrc2 hrs2 ⟨by omega, by show 8 + (1 + 11) + rm2.locals ≤ R.locals; omega⟩) rfl rfl he2 rfl (Nat.le_of_ble_eq_true rfl) dL_law_445 ⟨by omega, by omega⟩ (fun H locs hM => ?_)
  refine lv_icmp_eq (tgt := 2920) hx hb dL_law_448 (by decide) (fun _ => ?_) (fun h => absurd rfl h)
  exact kk ls H locs _ hl hM
set_option maxHeartbeats 4000000 in
theorem lw_c3 (hC : me_cx ws_all p c cL_law 10 s args m RL D tb X z0) (hl : lv_has ls 10 [(0, .ref b), (1, .ref bo), (2, .ref mo), (3, .ref oa), (4, .ref da), (5, .int (nI i))]) (hR : 14 ≤ R.frames ∧ 522 ≤ R.locals) (hM : me_at D z0 M n s H locs) (hrc1 : rm1.cells = mc) (hrs1 : rm1.slots = ms) (hr1 : rm1.frames ≤ 13 ∧ rm1.locals ≤ 480) (hrc2 : rm2.cells = mc2) (hrs2 : rm2.slots = ms2) (hr2 : rm2.frames ≤ 13 ∧ rm2.locals ≤ 480) (he : M bo = some (.inr (7, fs))) (he2 : M1 mo = some (.inr (8, fs2))) (hf : cells + mc + mc2 ≤ R.cells ∧ slots + ms + ms2 ≤ R.slots) (ct1 : Met l yX7_errorOffset (.code yX7_errorOffset cX7_errorOffset 1 (some .int) :: ws_all) rm1 (me_Pc [.ref bo] D tb X z0 M n) (me_Qi D z0 r M1 n1) mc ms (me_A z0)) (ct2 : Met l yX8_errorOffset (.code yX8_errorOffset cX8_errorOffset 1 (some .int) :: ws_all) rm2 (me_Pc [.ref mo] D tb X z0 M1 n1) (me_Qi D z0 r M2 n3) mc2 ms2 (me_A z0)) (kk : ∀ (ls1 : Array Slot) (H1 : Heap) (locs1 : List Loc) (n5 : Nat), lv_has ls1 10 [(0, .ref b), (1, .ref bo), (2, .ref mo), (3, .ref oa), (4, .ref da), (5, .int (nI i))] → me_at D z0 M2 n5 s H1 locs1 → W p l e R s m args below meth c H1 locs1 (cells + mc + mc2) (slots + ms + ms2) Q (F0 m 2920 ls1 [])) : W p l e R s m args below meth c H locs cells slots Q (F0 m 453 ls []) := by
  have hx := hC.1
  have hb := hC.2.1
  have hw := hC.2.2.2.2.1
  refine lv_aload_n hx hb dL_law_453 rfl (lv_at hl 1 rfl) ?_
  refine me_callVi (As := []) (rest := []) hC hl.1 hM ct1 (kv_L_156 hw hrc1 hrs1 ⟨by omega, by show 8 + (1 + 11) + rm1.locals ≤ R.locals; omega⟩) rfl rfl he rfl (Nat.le_of_ble_eq_true rfl) dL_law_454 ⟨by omega, by omega⟩ (fun H locs hM => ?_)
  refine lv_aload_n hx hb dL_law_457 rfl (lv_at hl 2 rfl) ?_
  refine me_callVi (As := []) (rest := [.int r]) hC hl.1 hM ct2 (kv_L_159 hw hrc2 hrs2 ⟨by omega, by show 8 + (1 + 11) + rm2.locals ≤ R.locals; omega⟩) rfl rfl he2 rfl (Nat.le_of_ble_eq_true rfl) dL_law_458 ⟨by omega, by omega⟩ (fun H locs hM => ?_)
  refine lv_icmp_eq (tgt := 2920) hx hb dL_law_461 (by decide) (fun _ => ?_) (fun h => absurd rfl h)
  exact kk ls H locs _ hl hM
set_option maxHeartbeats 4000000 in
theorem lw_c4 (hC : me_cx ws_all p c cL_law 10 s args m RL D tb X z0) (hl : lv_has ls 10 [(0, .ref b), (1, .ref bo), (2, .ref mo), (3, .ref oa), (4, .ref da), (5, .int (nI i))]) (hR : 14 ≤ R.frames ∧ 522 ≤ R.locals) (hM : me_at D z0 M n s H locs) (hrc1 : rm1.cells = mc) (hrs1 : rm1.slots = ms) (hr1 : rm1.frames ≤ 13 ∧ rm1.locals ≤ 480) (hrc2 : rm2.cells = mc2) (hrs2 : rm2.slots = ms2) (hr2 : rm2.frames ≤ 13 ∧ rm2.locals ≤ 480) (he : M bo = some (.inr (7, fs))) (he2 : M1 mo = some (.inr (8, fs2))) (hf : cells + mc + mc2 ≤ R.cells ∧ slots + ms + ms2 ≤ R.slots) (ct1 : Met l yX7_clock (.code yX7_clock cX7_clock 1 (some .int) :: ws_all) rm1 (me_Pc [.ref bo] D tb X z0 M n) (me_Qi D z0 r M1 n1) mc ms (me_A z0)) (ct2 : Met l yX8_clock (.code yX8_clock cX8_clock 1 (some .int) :: ws_all) rm2 (me_Pc [.ref mo] D tb X z0 M1 n1) (me_Qi D z0 r M2 n3) mc2 ms2 (me_A z0)) (kk : ∀ (ls1 : Array Slot) (H1 : Heap) (locs1 : List Loc) (n5 : Nat), lv_has ls1 10 [(0, .ref b), (1, .ref bo), (2, .ref mo), (3, .ref oa), (4, .ref da), (5, .int (nI i))] → me_at D z0 M2 n5 s H1 locs1 → W p l e R s m args below meth c H1 locs1 (cells + mc + mc2) (slots + ms + ms2) Q (F0 m 2920 ls1 [])) : W p l e R s m args below meth c H locs cells slots Q (F0 m 466 ls []) := by
  have hx := hC.1
  have hb := hC.2.1
  have hw := hC.2.2.2.2.1
  refine lv_aload_n hx hb dL_law_466 rfl (lv_at hl 1 rfl) ?_
  refine me_callVi (As := []) (rest := []) hC hl.1 hM ct1 (kv_L_160 hw hrc1 hrs1 ⟨by omega, by show 8 + (1 + 11) + rm1.locals ≤ R.locals; omega⟩) rfl rfl he rfl (Nat.le_of_ble_eq_true rfl) dL_law_467 ⟨by omega, by omega⟩ (fun H locs hM => ?_)
  refine lv_aload_n hx hb dL_law_470 rfl (lv_at hl 2 rfl) ?_
  refine me_callVi (As := []) (rest := [.int r]) hC hl.1 hM ct2 (kv_L_163 hw hrc2 hrs2 ⟨by omega, by show 8 + (1 + 11) + rm2.locals ≤ R.locals; omega⟩) rfl rfl he2 rfl (Nat.le_of_ble_eq_true rfl) dL_law_471 ⟨by omega, by omega⟩ (fun H locs hM => ?_)
  refine lv_icmp_eq (tgt := 2920) hx hb dL_law_474 (by decide) (fun _ => ?_) (fun h => absurd rfl h)
  exact kk ls H locs _ hl hM
set_option maxHeartbeats 4000000 in
theorem lw_c5 (hC : me_cx ws_all p c cL_law 10 s args m RL D tb X z0) (hl : lv_has ls 10 [(0, .ref b), (1, .ref bo), (2, .ref mo), (3, .ref oa), (4, .ref da), (5, .int (nI i))]) (hR : 14 ≤ R.frames ∧ 522 ≤ R.locals) (hM : me_at D z0 M n s H locs) (hrc1 : rm1.cells = mc) (hrs1 : rm1.slots = ms) (hr1 : rm1.frames ≤ 13 ∧ rm1.locals ≤ 480) (hrc2 : rm2.cells = mc2) (hrs2 : rm2.slots = ms2) (hr2 : rm2.frames ≤ 13 ∧ rm2.locals ≤ 480) (he : M bo = some (.inr (7, fs))) (he2 : M1 mo = some (.inr (8, fs2))) (hf : cells + mc + mc2 ≤ R.cells ∧ slots + ms + ms2 ≤ R.slots) (ct1 : Met l yX7_isNight (.code yX7_isNight cX7_isNight 1 (some .boolean) :: ws_all) rm1 (me_Pc [.ref bo] D tb X z0 M n) (me_Qi D z0 r M1 n1) mc ms (me_A z0)) (ct2 : Met l yX8_isNight (.code yX8_isNight cX8_isNight 1 (some .boolean) :: ws_all) rm2 (me_Pc [.ref mo] D tb X z0 M1 n1) (me_Qi D z0 r M2 n3) mc2 ms2 (me_A z0)) (kk : ∀ (ls1 : Array Slot) (H1 : Heap) (locs1 : List Loc) (n5 : Nat), lv_has ls1 10 [(0, .ref b), (1, .ref bo), (2, .ref mo), (3, .ref oa), (4, .ref da), (5, .int (nI i))] → me_at D z0 M2 n5 s H1 locs1 → W p l e R s m args below meth c H1 locs1 (cells + mc + mc2) (slots + ms + ms2) Q (F0 m 2920 ls1 [])) : W p l e R s m args below meth c H locs cells slots Q (F0 m 479 ls []) := by
  have hx := hC.1
  have hb := hC.2.1
  have hw := hC.2.2.2.2.1
  refine lv_aload_n hx hb dL_law_479 rfl (lv_at hl 1 rfl) ?_
  refine me_callVi (As := []) (rest := []) hC hl.1 hM ct1 (kv_L_164 hw hrc1 hrs1 ⟨by omega, by show 8 + (1 + 11) + rm1.locals ≤ R.locals; omega⟩) rfl rfl he rfl (Nat.le_of_ble_eq_true rfl) dL_law_480 ⟨by omega, by omega⟩ (fun H locs hM => ?_)
  refine lv_aload_n hx hb dL_law_483 rfl (lv_at hl 2 rfl) ?_
  refine me_callVi (As := []) (rest := [.int r]) hC hl.1 hM ct2 (kv_L_168 hw hrc2 hrs2 ⟨by omega, by show 8 + (1 + 11) + rm2.locals ≤ R.locals; omega⟩) rfl rfl he2 rfl (Nat.le_of_ble_eq_true rfl) dL_law_484 ⟨by omega, by omega⟩ (fun H locs hM => ?_)
  refine lv_icmp_eq (tgt := 2920) hx hb dL_law_487 (by decide) (fun _ => ?_) (fun h => absurd rfl h)
  exact kk ls H locs _ hl hM
set_option maxHeartbeats 4000000 in
theorem lw_c6 (hC : me_cx ws_all p c cL_law 10 s args m RL D tb X z0) (hl : lv_has ls 10 [(0, .ref b), (1, .ref bo), (2, .ref mo), (3, .ref oa), (4, .ref da), (5, .int (nI i))]) (hR : 14 ≤ R.frames ∧ 522 ≤ R.locals) (hM : me_at D z0 M n s H locs) (hrc1 : rm1.cells = mc) (hrs1 : rm1.slots = ms) (hr1 : rm1.frames ≤ 13 ∧ rm1.locals ≤ 480) (hrc2 : rm2.cells = mc2) (hrs2 : rm2.slots = ms2) (hr2 : rm2.frames ≤ 13 ∧ rm2.locals ≤ 480) (he : M bo = some (.inr (7, fs))) (he2 : M1 mo = some (.inr (8, fs2))) (hf : cells + mc + mc2 ≤ R.cells ∧ slots + ms + ms2 ≤ R.slots) (ct1 : Met l yX7_gracePeriod (.code yX7_gracePeriod cX7_gracePeriod 1 (some .int) :: ws_all) rm1 (me_Pc [.ref bo] D tb X z0 M n) (me_Qi D z0 r M1 n1) mc ms (me_A z0)) (ct2 : Met l yX8_gracePeriod (.code yX8_gracePeriod cX8_gracePeriod 1 (some .int) :: ws_all) rm2 (me_Pc [.ref mo] D tb X z0 M1 n1) (me_Qi D z0 r M2 n3) mc2 ms2 (me_A z0)) (kk : ∀ (ls1 : Array Slot) (H1 : Heap) (locs1 : List Loc) (n5 : Nat), lv_has ls1 10 [(0, .ref b), (1, .ref bo), (2, .ref mo), (3, .ref oa), (4, .ref da), (5, .int (nI i))] → me_at D z0 M2 n5 s H1 locs1 → W p l e R s m args below meth c H1 locs1 (cells + mc + mc2) (slots + ms + ms2) Q (F0 m 2920 ls1 [])) : W p l e R s m args below meth c H locs cells slots Q (F0 m 492 ls []) := by
  have hx := hC.1
  have hb := hC.2.1
  have hw := hC.2.2.2.2.1
  refine lv_aload_n hx hb dL_law_492 rfl (lv_at hl 1 rfl) ?_
  refine me_callVi (As := []) (rest := []) hC hl.1 hM ct1 (kv_L_169 hw hrc1 hrs1 ⟨by omega, by show 8 + (1 + 11) + rm1.locals ≤ R.locals; omega⟩) rfl rfl he rfl (Nat.le_of_ble_eq_true rfl) dL_law_493 ⟨by omega, by omega⟩ (fun H locs hM => ?_)
  refine lv_aload_n hx hb dL_law_496 rfl (lv_at hl 2 rfl) ?_
  refine me_callVi (As := []) (rest := [.int r]) hC hl.1 hM ct2 (kv_L_172 hw hrc2 hrs2 ⟨by omega, by show 8 + (1 + 11) + rm2.locals ≤ R.locals; omega⟩) rfl rfl he2 rfl (Nat.le_of_ble_eq_true rfl) dL_law_497 ⟨by omega, by omega⟩ (fun H locs hM => ?_)
  refine lv_icmp_eq (tgt := 2920) hx hb dL_law_500 (by decide) (fun _ => ?_) (fun h => absurd rfl h)
  exact kk ls H locs _ hl hM
set_option maxHeartbeats 4000000 in
theorem lw_c7 (hC : me_cx ws_all p c cL_law 10 s args m RL D tb X z0) (hl : lv_has ls 10 [(0, .ref b), (1, .ref bo), (2, .ref mo), (3, .ref oa), (4, .ref da), (5, .int (nI i))]) (hR : 14 ≤ R.frames ∧ 522 ≤ R.locals) (hM : me_at D z0 M n s H locs) (hrc1 : rm1.cells = mc) (hrs1 : rm1.slots = ms) (hr1 : rm1.frames ≤ 13 ∧ rm1.locals ≤ 480) (hrc2 : rm2.cells = mc2) (hrs2 : rm2.slots = ms2) (hr2 : rm2.frames ≤ 13 ∧ rm2.locals ≤ 480) (he : M bo = some (.inr (7, fs))) (he2 : M1 mo = some (.inr (8, fs2))) (hf : cells + mc + mc2 ≤ R.cells ∧ slots + ms + ms2 ≤ R.slots) (ct1 : Met l yX7_lateFee (.code yX7_lateFee cX7_lateFee 1 (some .int) :: ws_all) rm1 (me_Pc [.ref bo] D tb X z0 M n) (me_Qi D z0 r M1 n1) mc ms (me_A z0)) (ct2 : Met l yX8_lateFee (.code yX8_lateFee cX8_lateFee 1 (some .int) :: ws_all) rm2 (me_Pc [.ref mo] D tb X z0 M1 n1) (me_Qi D z0 r M2 n3) mc2 ms2 (me_A z0)) (kk : ∀ (ls1 : Array Slot) (H1 : Heap) (locs1 : List Loc) (n5 : Nat), lv_has ls1 10 [(0, .ref b), (1, .ref bo), (2, .ref mo), (3, .ref oa), (4, .ref da), (5, .int (nI i))] → me_at D z0 M2 n5 s H1 locs1 → W p l e R s m args below meth c H1 locs1 (cells + mc + mc2) (slots + ms + ms2) Q (F0 m 2920 ls1 [])) : W p l e R s m args below meth c H locs cells slots Q (F0 m 505 ls []) := by
  have hx := hC.1
  have hb := hC.2.1
  have hw := hC.2.2.2.2.1
  refine lv_aload_n hx hb dL_law_505 rfl (lv_at hl 1 rfl) ?_
  refine me_callVi (As := []) (rest := []) hC hl.1 hM ct1 (kv_L_173 hw hrc1 hrs1 ⟨by omega, by show 8 + (1 + 11) + rm1.locals ≤ R.locals; omega⟩) rfl rfl he rfl (Nat.le_of_ble_eq_true rfl) dL_law_506 ⟨by omega, by omega⟩ (fun H locs hM => ?_)
  refine lv_aload_n hx hb dL_law_509 rfl (lv_at hl 2 rfl) ?_
  refine me_callVi (As := []) (rest := [.int r]) hC hl.1 hM ct2 (kv_L_176 hw hrc2 hrs2 ⟨by omega, by show 8 + (1 + 11) + rm2.locals ≤ R.locals; omega⟩) rfl rfl he2 rfl (Nat.le_of_ble_eq_true rfl) dL_law_510 ⟨by omega, by omega⟩ (fun H locs hM => ?_)
  refine lv_icmp_eq (tgt := 2920) hx hb dL_law_513 (by decide) (fun _ => ?_) (fun h => absurd rfl h)
  exact kk ls H locs _ hl hM
set_option maxHeartbeats 4000000 in
theorem lw_c8 (hC : me_cx ws_all p c cL_law 10 s args m RL D tb X z0) (hl : lv_has ls 10 [(0, .ref b), (1, .ref bo), (2, .ref mo), (3, .ref oa), (4, .ref da), (5, .int (nI i))]) (hR : 14 ≤ R.frames ∧ 522 ≤ R.locals) (hM : me_at D z0 M n s H locs) (hrc1 : rm1.cells = mc) (hrs1 : rm1.slots = ms) (hr1 : rm1.frames ≤ 13 ∧ rm1.locals ≤ 480) (hrc2 : rm2.cells = mc2) (hrs2 : rm2.slots = ms2) (hr2 : rm2.frames ≤ 13 ∧ rm2.locals ≤ 480) (he : M bo = some (.inr (7, fs))) (he2 : M1 mo = some (.inr (8, fs2))) (hf : cells + mc + mc2 ≤ R.cells ∧ slots + ms + ms2 ≤ R.slots) (ct1 : Met l yX7_streetCount (.code yX7_streetCount cX7_streetCount 1 (some .int) :: ws_all) rm1 (me_Pc [.ref bo] D tb X z0 M n) (me_Qi D z0 r M1 n1) mc ms (me_A z0)) (ct2 : Met l yX8_streetCount (.code yX8_streetCount cX8_streetCount 1 (some .int) :: ws_all) rm2 (me_Pc [.ref mo] D tb X z0 M1 n1) (me_Qi D z0 r M2 n3) mc2 ms2 (me_A z0)) (kk : ∀ (ls1 : Array Slot) (H1 : Heap) (locs1 : List Loc) (n5 : Nat), lv_has ls1 10 [(0, .ref b), (1, .ref bo), (2, .ref mo), (3, .ref oa), (4, .ref da), (5, .int (nI i))] → me_at D z0 M2 n5 s H1 locs1 → W p l e R s m args below meth c H1 locs1 (cells + mc + mc2) (slots + ms + ms2) Q (F0 m 2920 ls1 [])) : W p l e R s m args below meth c H locs cells slots Q (F0 m 518 ls []) := by
  have hx := hC.1
  have hb := hC.2.1
  have hw := hC.2.2.2.2.1
  refine lv_aload_n hx hb dL_law_518 rfl (lv_at hl 1 rfl) ?_
  refine me_callVi (As := []) (rest := []) hC hl.1 hM ct1 (kv_L_177 hw hrc1 hrs1 ⟨by omega, by show 8 + (1 + 11) + rm1.locals ≤ R.locals; omega⟩) rfl rfl he rfl (Nat.le_of_ble_eq_true rfl) dL_law_519 ⟨by omega, by omega⟩ (fun H locs hM => ?_)
  refine lv_aload_n hx hb dL_law_522 rfl (lv_at hl 2 rfl) ?_
  refine me_callVi (As := []) (rest := [.int r]) hC hl.1 hM ct2 (kv_L_180 hw hrc2 hrs2 ⟨by omega, by show 8 + (1 + 11) + rm2.locals ≤ R.locals; omega⟩) rfl rfl he2 rfl (Nat.le_of_ble_eq_true rfl) dL_law_523 ⟨by omega, by omega⟩ (fun H locs hM => ?_)
  refine lv_icmp_eq (tgt := 2920) hx hb dL_law_526 (by decide) (fun _ => ?_) (fun h => absurd rfl h)
  exact kk ls H locs _ hl hM
set_option maxHeartbeats 4000000 in
theorem lw_c9 (hC : me_cx ws_all p c cL_law 10 s args m RL D tb X z0) (hl : lv_has ls 10 [(0, .ref b), (1, .ref bo), (2, .ref mo), (3, .ref oa), (4, .ref da), (5, .int (nI i))]) (hR : 14 ≤ R.frames ∧ 522 ≤ R.locals) (hM : me_at D z0 M n s H locs) (hrc1 : rm1.cells = mc) (hrs1 : rm1.slots = ms) (hr1 : rm1.frames ≤ 13 ∧ rm1.locals ≤ 480) (hrc2 : rm2.cells = mc2) (hrs2 : rm2.slots = ms2) (hr2 : rm2.frames ≤ 13 ∧ rm2.locals ≤ 480) (he : M bo = some (.inr (7, fs))) (he2 : M1 mo = some (.inr (8, fs2))) (hf : cells + mc + mc2 ≤ R.cells ∧ slots + ms + ms2 ≤ R.slots) (ct1 : Met l yX7_borrowerCount (.code yX7_borrowerCount cX7_borrowerCount 1 (some .int) :: ws_all) rm1 (me_Pc [.ref bo] D tb X z0 M n) (me_Qi D z0 r M1 n1) mc ms (me_A z0)) (ct2 : Met l yX8_borrowerCount (.code yX8_borrowerCount cX8_borrowerCount 1 (some .int) :: ws_all) rm2 (me_Pc [.ref mo] D tb X z0 M1 n1) (me_Qi D z0 r M2 n3) mc2 ms2 (me_A z0)) (kk : ∀ (ls1 : Array Slot) (H1 : Heap) (locs1 : List Loc) (n5 : Nat), lv_has ls1 10 [(0, .ref b), (1, .ref bo), (2, .ref mo), (3, .ref oa), (4, .ref da), (5, .int (nI i))] → me_at D z0 M2 n5 s H1 locs1 → W p l e R s m args below meth c H1 locs1 (cells + mc + mc2) (slots + ms + ms2) Q (F0 m 2920 ls1 [])) : W p l e R s m args below meth c H locs cells slots Q (F0 m 531 ls []) := by
  have hx := hC.1
  have hb := hC.2.1
  have hw := hC.2.2.2.2.1
  refine lv_aload_n hx hb dL_law_531 rfl (lv_at hl 1 rfl) ?_
  refine me_callVi (As := []) (rest := []) hC hl.1 hM ct1 (kv_L_181 hw hrc1 hrs1 ⟨by omega, by show 8 + (1 + 11) + rm1.locals ≤ R.locals; omega⟩) rfl rfl he rfl (Nat.le_of_ble_eq_true rfl) dL_law_532 ⟨by omega, by omega⟩ (fun H locs hM => ?_)
  refine lv_aload_n hx hb dL_law_535 rfl (lv_at hl 2 rfl) ?_
  refine me_callVi (As := []) (rest := [.int r]) hC hl.1 hM ct2 (kv_L_184 hw hrc2 hrs2 ⟨by omega, by show 8 + (1 + 11) + rm2.locals ≤ R.locals; omega⟩) rfl rfl he2 rfl (Nat.le_of_ble_eq_true rfl) dL_law_536 ⟨by omega, by omega⟩ (fun H locs hM => ?_)
  refine lv_icmp_eq (tgt := 2920) hx hb dL_law_539 (by decide) (fun _ => ?_) (fun h => absurd rfl h)
  exact kk ls H locs _ hl hM
set_option maxHeartbeats 4000000 in
theorem lw_c10 (hC : me_cx ws_all p c cL_law 10 s args m RL D tb X z0) (hl : lv_has ls 10 [(0, .ref b), (1, .ref bo), (2, .ref mo), (3, .ref oa), (4, .ref da), (5, .int (nI i))]) (hR : 14 ≤ R.frames ∧ 522 ≤ R.locals) (hM : me_at D z0 M n s H locs) (hrc1 : rm1.cells = mc) (hrs1 : rm1.slots = ms) (hr1 : rm1.frames ≤ 13 ∧ rm1.locals ≤ 480) (hrc2 : rm2.cells = mc2) (hrs2 : rm2.slots = ms2) (hr2 : rm2.frames ≤ 13 ∧ rm2.locals ≤ 480) (he : M bo = some (.inr (7, fs))) (he2 : M1 mo = some (.inr (8, fs2))) (hf : cells + mc + mc2 ≤ R.cells ∧ slots + ms + ms2 ≤ R.slots) (ct1 : Met l yX7_loanCount (.code yX7_loanCount cX7_loanCount 1 (some .int) :: ws_all) rm1 (me_Pc [.ref bo] D tb X z0 M n) (me_Qi D z0 r M1 n1) mc ms (me_A z0)) (ct2 : Met l yX8_loanCount (.code yX8_loanCount cX8_loanCount 1 (some .int) :: ws_all) rm2 (me_Pc [.ref mo] D tb X z0 M1 n1) (me_Qi D z0 r M2 n3) mc2 ms2 (me_A z0)) (kk : ∀ (ls1 : Array Slot) (H1 : Heap) (locs1 : List Loc) (n5 : Nat), lv_has ls1 10 [(0, .ref b), (1, .ref bo), (2, .ref mo), (3, .ref oa), (4, .ref da), (5, .int (nI i))] → me_at D z0 M2 n5 s H1 locs1 → W p l e R s m args below meth c H1 locs1 (cells + mc + mc2) (slots + ms + ms2) Q (F0 m 2920 ls1 [])) : W p l e R s m args below meth c H locs cells slots Q (F0 m 544 ls []) := by
  have hx := hC.1
  have hb := hC.2.1
  have hw := hC.2.2.2.2.1
  refine lv_aload_n hx hb dL_law_544 rfl (lv_at hl 1 rfl) ?_
  refine me_callVi (As := []) (rest := []) hC hl.1 hM ct1 (kv_L_185 hw hrc1 hrs1 ⟨by omega, by show 8 + (1 + 11) + rm1.locals ≤ R.locals; omega⟩) rfl rfl he rfl (Nat.le_of_ble_eq_true rfl) dL_law_545 ⟨by omega, by omega⟩ (fun H locs hM => ?_)
  refine lv_aload_n hx hb dL_law_548 rfl (lv_at hl 2 rfl) ?_
  refine me_callVi (As := []) (rest := [.int r]) hC hl.1 hM ct2 (kv_L_188 hw hrc2 hrs2 ⟨by omega, by show 8 + (1 + 11) + rm2.locals ≤ R.locals; omega⟩) rfl rfl he2 rfl (Nat.le_of_ble_eq_true rfl) dL_law_549 ⟨by omega, by omega⟩ (fun H locs hM => ?_)
  refine lv_icmp_eq (tgt := 2920) hx hb dL_law_552 (by decide) (fun _ => ?_) (fun h => absurd rfl h)
  exact kk ls H locs _ hl hM
set_option maxHeartbeats 4000000 in
theorem lw_c11 (hC : me_cx ws_all p c cL_law 10 s args m RL D tb X z0) (hl : lv_has ls 10 [(0, .ref b), (1, .ref bo), (2, .ref mo), (3, .ref oa), (4, .ref da), (5, .int (nI i))]) (hR : 14 ≤ R.frames ∧ 522 ≤ R.locals) (hM : me_at D z0 M n s H locs) (hrc1 : rm1.cells = mc) (hrs1 : rm1.slots = ms) (hr1 : rm1.frames ≤ 13 ∧ rm1.locals ≤ 480) (hrc2 : rm2.cells = mc2) (hrs2 : rm2.slots = ms2) (hr2 : rm2.frames ≤ 13 ∧ rm2.locals ≤ 480) (he : M bo = some (.inr (7, fs))) (he2 : M1 mo = some (.inr (8, fs2))) (hf : cells + mc + mc2 ≤ R.cells ∧ slots + ms + ms2 ≤ R.slots) (ct1 : Met l yX7_permitCount (.code yX7_permitCount cX7_permitCount 1 (some .int) :: ws_all) rm1 (me_Pc [.ref bo] D tb X z0 M n) (me_Qi D z0 r M1 n1) mc ms (me_A z0)) (ct2 : Met l yX8_permitCount (.code yX8_permitCount cX8_permitCount 1 (some .int) :: ws_all) rm2 (me_Pc [.ref mo] D tb X z0 M1 n1) (me_Qi D z0 r M2 n3) mc2 ms2 (me_A z0)) (kk : ∀ (ls1 : Array Slot) (H1 : Heap) (locs1 : List Loc) (n5 : Nat), lv_has ls1 10 [(0, .ref b), (1, .ref bo), (2, .ref mo), (3, .ref oa), (4, .ref da), (5, .int (nI i))] → me_at D z0 M2 n5 s H1 locs1 → W p l e R s m args below meth c H1 locs1 (cells + mc + mc2) (slots + ms + ms2) Q (F0 m 2920 ls1 [])) : W p l e R s m args below meth c H locs cells slots Q (F0 m 557 ls []) := by
  have hx := hC.1
  have hb := hC.2.1
  have hw := hC.2.2.2.2.1
  refine lv_aload_n hx hb dL_law_557 rfl (lv_at hl 1 rfl) ?_
  refine me_callVi (As := []) (rest := []) hC hl.1 hM ct1 (kv_L_189 hw hrc1 hrs1 ⟨by omega, by show 8 + (1 + 11) + rm1.locals ≤ R.locals; omega⟩) rfl rfl he rfl (Nat.le_of_ble_eq_true rfl) dL_law_558 ⟨by omega, by omega⟩ (fun H locs hM => ?_)
  refine lv_aload_n hx hb dL_law_561 rfl (lv_at hl 2 rfl) ?_
  refine me_callVi (As := []) (rest := [.int r]) hC hl.1 hM ct2 (kv_L_192 hw hrc2 hrs2 ⟨by omega, by show 8 + (1 + 11) + rm2.locals ≤ R.locals; omega⟩) rfl rfl he2 rfl (Nat.le_of_ble_eq_true rfl) dL_law_562 ⟨by omega, by omega⟩ (fun H locs hM => ?_)
  refine lv_icmp_eq (tgt := 2920) hx hb dL_law_565 (by decide) (fun _ => ?_) (fun h => absurd rfl h)
  exact kk ls H locs _ hl hM
set_option maxHeartbeats 4000000 in
theorem lw_c12 (hC : me_cx ws_all p c cL_law 10 s args m RL D tb X z0) (hl : lv_has ls 10 [(0, .ref b), (1, .ref bo), (2, .ref mo), (3, .ref oa), (4, .ref da), (5, .int (nI i))]) (hR : 14 ≤ R.frames ∧ 522 ≤ R.locals) (hM : me_at D z0 M n s H locs) (hX : va_X b L xs s s.heap) (hbl : b < s.heap.size) (hbA : ¬ me_A z0 b) (hi : i + 6 ≤ L) (hL : L ≤ 3072) (hrc2 : rm2.cells = mc2) (hrs2 : rm2.slots = ms2) (hr2 : rm2.frames ≤ 13 ∧ rm2.locals ≤ 480) (he1 : M1 mo = some (.inr (8, fs))) (he2 : M2 mo = some (.inr (8, fs2))) (hf : cells + mc + mc2 ≤ R.cells ∧ slots + ms + ms2 ≤ R.slots) (ct1 : Met l yL_loansWith (.codeWith yL_loansWith cL_loansWith 4 (some .int) [(0, 9, 12, 21)] :: ws_all) ({ frames := 13, cells := mc, slots := ms, locals := 480 } : Room) (me_Pc [.ref bo, .int (xs (i + 1)), .ref oa] D tb X z0 M n) (me_Qn D z0 k M1) mc ms (me_A z0)) (ct2 : ∀ n1, Met l yX8_loansWith (.code yX8_loansWith cX8_loansWith 4 (some .int) :: ws_all) rm2 (me_Pc [.ref mo, .int (xs (i + 1))] D tb X z0 M1 n1) (me_Qi D z0 r M2 (n2 n1)) mc2 ms2 (me_A z0)) (ct3 : ∀ n1, Met l yX8_thrown (.code yX8_thrown cX8_thrown 1 (some .int) :: ws_all) ({ frames := 0, cells := 0, slots := 0, locals := 0 } : Room) (me_Pc [.ref mo] D tb X z0 M2 n1) (me_Qi D z0 k M2 n1) 0 0 (me_A z0)) (hk : k = 0 → ∃ f : Nat → Int64, M2 oa = some (.inl (tb 3, 1, .inr (.inl f))) ∧ f 0 = r.toInt64) (kk : ∀ (ls1 : Array Slot) (H1 : Heap) (locs1 : List Loc) (n5 : Nat), lv_has ls1 10 [(0, .ref b), (1, .ref bo), (2, .ref mo), (3, .ref oa), (4, .ref da), (5, .int (nI i))] → me_at D z0 M2 n5 s H1 locs1 → W p l e R s m args below meth c H1 locs1 (cells + mc + mc2) (slots + ms + ms2) Q (F0 m 2920 ls1 [])) : W p l e R s m args below meth c H locs cells slots Q (F0 m 570 ls []) := by
  have hx := hC.1
  have hb := hC.2.1
  have hw := hC.2.2.2.2.1
  refine lv_aload_n hx hb dL_law_570 rfl (lv_at hl 1 rfl) ?_
  refine lv_aload_n hx hb dL_law_571 rfl (lv_at hl 0 rfl) ?_
  refine lv_iload hx hb dL_law_572 (lv_at hl 5 rfl) ?_
  refine lv_iconst (v := 1) hx hb dL_law_574 (by decide) ?_
  refine lv_iadd hx hb dL_law_575 ?_
  refine lw_rd (k := 1) hx hb hX hbl hbA hM.2.2.2.2 rfl (by omega) hL dL_law_576 ?_
  refine lv_aload_n hx hb dL_law_577 rfl (lv_at hl 3 rfl) ?_
  refine me_callSn (nA := 3) (As := [.ref bo, .int (xs (i + 1)), .ref oa]) (rest := []) hC hl.1 hM ct1 w_805 w_806 w_0 w_807 (by decide +kernel) rfl rfl ⟨by show 13 + 1 ≤ R.frames; omega, by show 8 + (4 + 11) + 480 ≤ R.locals; omega⟩ rfl rfl (Nat.le_of_ble_eq_true rfl) dL_law_578 ⟨by omega, by omega⟩ (fun H locs n1 hM => ?_)
  refine lv_istore (lv' := [(6, .int k), (0, .ref b), (1, .ref bo), (2, .ref mo), (3, .ref oa), (4, .ref da), (5, .int (nI i))]) hx hb dL_law_581 hl (by decide) rfl (fun ls hl => ?_)
  refine lv_aload_n hx hb dL_law_583 rfl (lv_at hl 3 rfl) ?_
  refine lv_aload_n hx hb dL_law_584 rfl (lv_at hl 1 rfl) ?_
  refine lv_iload hx hb dL_law_585 (lv_at hl 6 rfl) ?_
  refine lv_iconst (v := 1) hx hb dL_law_587 (by decide) ?_
  refine lv_iadd hx hb dL_law_588 ?_
  refine lw_rd (k := 1) hx hb hX hbl hbA hM.2.2.2.2 rfl (by omega) hL dL_law_589 ?_
  refine me_callVi (As := [.int (xs (i + 1))]) (rest := []) hC hl.1 hM (ct2 n1) (kv_L_195 hw hrc2 hrs2 ⟨by omega, by show 8 + (4 + 11) + rm2.locals ≤ R.locals; omega⟩) rfl rfl he1 rfl (Nat.le_of_ble_eq_true rfl) dL_law_590 ⟨by omega, by omega⟩ (fun H locs hM => ?_)
  refine lv_istore (lv' := [(7, .int r), (6, .int k), (0, .ref b), (1, .ref bo), (2, .ref mo), (3, .ref oa), (4, .ref da), (5, .int (nI i))]) hx hb dL_law_593 hl (by decide) rfl (fun ls hl => ?_)
  refine lv_aload_n hx hb dL_law_595 rfl (lv_at hl 4 rfl) ?_
  refine me_callVi (As := []) (rest := []) hC hl.1 hM (ct3 _) (kv_L_145 hw rfl rfl ⟨by show 0 + 1 ≤ R.frames; omega, by show 8 + (1 + 11) + 0 ≤ R.locals; omega⟩) rfl rfl he2 rfl (Nat.le_of_ble_eq_true rfl) dL_law_596 ⟨by omega, by omega⟩ (fun H locs hM => ?_)
  refine lv_iload hx hb dL_law_599 (lv_at hl 1 rfl) ?_
  refine lv_icmp_eq (tgt := 606) hx hb dL_law_601 (by decide) (fun _ => ?_) (fun h => absurd rfl h)
  refine lv_iload hx hb dL_law_606 (lv_at hl 1 rfl) ?_
  refine lv_if_ne (tgt := 623) hx hb dL_law_608 (by decide) (fun _ => ?_) (fun h0 => ?_)
  · refine lv_goto (tgt := 2920) hx hb dL_law_623 (by decide) ?_
    exact kk ls H locs _ (lv_sub hl [2, 3, 4, 5, 6, 7] rfl) hM
  obtain ⟨f, ho, hf0⟩ := hk h0
  refine lv_aload_n hx hb dL_law_611 rfl (lv_at hl 5 rfl) ?_
  refine lv_iconst (v := 0) hx hb dL_law_612 (by decide) ?_
  refine me_lald (k := 0) hC hM ho rfl (by decide) (by decide) dL_law_613 ?_
  refine lv_iload hx hb dL_law_614 (lv_at hl 0 rfl) ?_
  refine lv_i2l hx hb dL_law_616 rfl ?_
  refine W.lcmp hx hb dL_law_617 ?_
  refine lv_if_eq (tgt := 623) hx hb dL_law_618 (by decide) (fun _ => ?_) (fun h => absurd (lw_lself hf0) h)
  refine lv_goto (tgt := 2920) hx hb dL_law_623 (by decide) ?_
  exact kk ls H locs _ (lv_sub hl [2, 3, 4, 5, 6, 7] rfl) hM
set_option maxHeartbeats 4000000 in
theorem lw_c13 (hC : me_cx ws_all p c cL_law 10 s args m RL D tb X z0) (hl : lv_has ls 10 [(0, .ref b), (1, .ref bo), (2, .ref mo), (3, .ref oa), (4, .ref da), (5, .int (nI i))]) (hR : 14 ≤ R.frames ∧ 522 ≤ R.locals) (hM : me_at D z0 M n s H locs) (hrc1 : rm1.cells = mc) (hrs1 : rm1.slots = ms) (hr1 : rm1.frames ≤ 13 ∧ rm1.locals ≤ 480) (hrc2 : rm2.cells = mc2) (hrs2 : rm2.slots = ms2) (hr2 : rm2.frames ≤ 13 ∧ rm2.locals ≤ 480) (he : M bo = some (.inr (7, fs))) (he2 : M1 mo = some (.inr (8, fs2))) (hf : cells + mc + mc2 ≤ R.cells ∧ slots + ms + ms2 ≤ R.slots) (ct1 : Met l yX7_undoCount (.code yX7_undoCount cX7_undoCount 1 (some .int) :: ws_all) rm1 (me_Pc [.ref bo] D tb X z0 M n) (me_Qi D z0 r M1 n1) mc ms (me_A z0)) (ct2 : Met l yX8_undoCount (.code yX8_undoCount cX8_undoCount 1 (some .int) :: ws_all) rm2 (me_Pc [.ref mo] D tb X z0 M1 n1) (me_Qi D z0 r M2 n3) mc2 ms2 (me_A z0)) (kk : ∀ (ls1 : Array Slot) (H1 : Heap) (locs1 : List Loc) (n5 : Nat), lv_has ls1 10 [(0, .ref b), (1, .ref bo), (2, .ref mo), (3, .ref oa), (4, .ref da), (5, .int (nI i))] → me_at D z0 M2 n5 s H1 locs1 → W p l e R s m args below meth c H1 locs1 (cells + mc + mc2) (slots + ms + ms2) Q (F0 m 2920 ls1 [])) : W p l e R s m args below meth c H locs cells slots Q (F0 m 626 ls []) := by
  have hx := hC.1
  have hb := hC.2.1
  have hw := hC.2.2.2.2.1
  refine lv_aload_n hx hb dL_law_626 rfl (lv_at hl 1 rfl) ?_
  refine me_callVi (As := []) (rest := []) hC hl.1 hM ct1 (kv_L_196 hw hrc1 hrs1 ⟨by omega, by show 8 + (1 + 11) + rm1.locals ≤ R.locals; omega⟩) rfl rfl he rfl (Nat.le_of_ble_eq_true rfl) dL_law_627 ⟨by omega, by omega⟩ (fun H locs hM => ?_)
  refine lv_aload_n hx hb dL_law_630 rfl (lv_at hl 2 rfl) ?_
  refine me_callVi (As := []) (rest := [.int r]) hC hl.1 hM ct2 (kv_L_199 hw hrc2 hrs2 ⟨by omega, by show 8 + (1 + 11) + rm2.locals ≤ R.locals; omega⟩) rfl rfl he2 rfl (Nat.le_of_ble_eq_true rfl) dL_law_631 ⟨by omega, by omega⟩ (fun H locs hM => ?_)
  refine lv_icmp_eq (tgt := 2920) hx hb dL_law_634 (by decide) (fun _ => ?_) (fun h => absurd rfl h)
  exact kk ls H locs _ hl hM
set_option maxHeartbeats 4000000 in
theorem lw_c14 (hC : me_cx ws_all p c cL_law 10 s args m RL D tb X z0) (hl : lv_has ls 10 [(0, .ref b), (1, .ref bo), (2, .ref mo), (3, .ref oa), (4, .ref da), (5, .int (nI i))]) (hR : 14 ≤ R.frames ∧ 522 ≤ R.locals) (hM : me_at D z0 M n s H locs) (hX : va_X b L xs s s.heap) (hbl : b < s.heap.size) (hbA : ¬ me_A z0 b) (hi : i + 6 ≤ L) (hL : L ≤ 3072) (hrc2 : rm2.cells = mc2) (hrs2 : rm2.slots = ms2) (hr2 : rm2.frames ≤ 13 ∧ rm2.locals ≤ 480) (he1 : M1 mo = some (.inr (8, fs))) (he2 : M2 mo = some (.inr (8, fs2))) (hf : cells + mc + mc2 ≤ R.cells ∧ slots + ms + ms2 ≤ R.slots) (ct1 : Met l yL_noiseNow (.codeWith yL_noiseNow cL_noiseNow 4 (some .int) [(0, 9, 12, 19)] :: ws_all) ({ frames := 13, cells := mc, slots := ms, locals := 480 } : Room) (me_Pc [.ref bo, .int (xs (i + 1)), .ref oa] D tb X z0 M n) (me_Qn D z0 k M1) mc ms (me_A z0)) (ct2 : ∀ n1, Met l yX8_noiseNow (.code yX8_noiseNow cX8_noiseNow 2 (some .int) :: ws_all) rm2 (me_Pc [.ref mo, .int (xs (i + 1))] D tb X z0 M1 n1) (me_Qi D z0 r M2 (n2 n1)) mc2 ms2 (me_A z0)) (ct3 : ∀ n1, Met l yX8_thrown (.code yX8_thrown cX8_thrown 1 (some .int) :: ws_all) ({ frames := 0, cells := 0, slots := 0, locals := 0 } : Room) (me_Pc [.ref mo] D tb X z0 M2 n1) (me_Qi D z0 k M2 n1) 0 0 (me_A z0)) (hk : k = 0 → ∃ f : Nat → Int64, M2 oa = some (.inl (tb 3, 1, .inr (.inl f))) ∧ f 0 = r.toInt64) (kk : ∀ (ls1 : Array Slot) (H1 : Heap) (locs1 : List Loc) (n5 : Nat), lv_has ls1 10 [(0, .ref b), (1, .ref bo), (2, .ref mo), (3, .ref oa), (4, .ref da), (5, .int (nI i))] → me_at D z0 M2 n5 s H1 locs1 → W p l e R s m args below meth c H1 locs1 (cells + mc + mc2) (slots + ms + ms2) Q (F0 m 2920 ls1 [])) : W p l e R s m args below meth c H locs cells slots Q (F0 m 639 ls []) := by
  have hx := hC.1
  have hb := hC.2.1
  have hw := hC.2.2.2.2.1
  refine lv_aload_n hx hb dL_law_639 rfl (lv_at hl 1 rfl) ?_
  refine lv_aload_n hx hb dL_law_640 rfl (lv_at hl 0 rfl) ?_
  refine lv_iload hx hb dL_law_641 (lv_at hl 5 rfl) ?_
  refine lv_iconst (v := 1) hx hb dL_law_643 (by decide) ?_
  refine lv_iadd hx hb dL_law_644 ?_
  refine lw_rd (k := 1) hx hb hX hbl hbA hM.2.2.2.2 rfl (by omega) hL dL_law_645 ?_
  refine lv_aload_n hx hb dL_law_646 rfl (lv_at hl 3 rfl) ?_
  refine me_callSn (nA := 3) (As := [.ref bo, .int (xs (i + 1)), .ref oa]) (rest := []) hC hl.1 hM ct1 w_817 w_818 w_0 w_819 (by decide +kernel) rfl rfl ⟨by show 13 + 1 ≤ R.frames; omega, by show 8 + (4 + 11) + 480 ≤ R.locals; omega⟩ rfl rfl (Nat.le_of_ble_eq_true rfl) dL_law_647 ⟨by omega, by omega⟩ (fun H locs n1 hM => ?_)
  refine lv_istore (lv' := [(6, .int k), (0, .ref b), (1, .ref bo), (2, .ref mo), (3, .ref oa), (4, .ref da), (5, .int (nI i))]) hx hb dL_law_650 hl (by decide) rfl (fun ls hl => ?_)
  refine lv_aload_n hx hb dL_law_652 rfl (lv_at hl 3 rfl) ?_
  refine lv_aload_n hx hb dL_law_653 rfl (lv_at hl 1 rfl) ?_
  refine lv_iload hx hb dL_law_654 (lv_at hl 6 rfl) ?_
  refine lv_iconst (v := 1) hx hb dL_law_656 (by decide) ?_
  refine lv_iadd hx hb dL_law_657 ?_
  refine lw_rd (k := 1) hx hb hX hbl hbA hM.2.2.2.2 rfl (by omega) hL dL_law_658 ?_
  refine me_callVi (As := [.int (xs (i + 1))]) (rest := []) hC hl.1 hM (ct2 n1) (kv_L_202 hw hrc2 hrs2 ⟨by omega, by show 8 + (2 + 11) + rm2.locals ≤ R.locals; omega⟩) rfl rfl he1 rfl (Nat.le_of_ble_eq_true rfl) dL_law_659 ⟨by omega, by omega⟩ (fun H locs hM => ?_)
  refine lv_istore (lv' := [(7, .int r), (6, .int k), (0, .ref b), (1, .ref bo), (2, .ref mo), (3, .ref oa), (4, .ref da), (5, .int (nI i))]) hx hb dL_law_662 hl (by decide) rfl (fun ls hl => ?_)
  refine lv_aload_n hx hb dL_law_664 rfl (lv_at hl 4 rfl) ?_
  refine me_callVi (As := []) (rest := []) hC hl.1 hM (ct3 _) (kv_L_145 hw rfl rfl ⟨by show 0 + 1 ≤ R.frames; omega, by show 8 + (1 + 11) + 0 ≤ R.locals; omega⟩) rfl rfl he2 rfl (Nat.le_of_ble_eq_true rfl) dL_law_665 ⟨by omega, by omega⟩ (fun H locs hM => ?_)
  refine lv_iload hx hb dL_law_668 (lv_at hl 1 rfl) ?_
  refine lv_icmp_eq (tgt := 675) hx hb dL_law_670 (by decide) (fun _ => ?_) (fun h => absurd rfl h)
  refine lv_iload hx hb dL_law_675 (lv_at hl 1 rfl) ?_
  refine lv_if_ne (tgt := 692) hx hb dL_law_677 (by decide) (fun _ => ?_) (fun h0 => ?_)
  · refine lv_goto (tgt := 2920) hx hb dL_law_692 (by decide) ?_
    exact kk ls H locs _ (lv_sub hl [2, 3, 4, 5, 6, 7] rfl) hM
  obtain ⟨f, ho, hf0⟩ := hk h0
  refine lv_aload_n hx hb dL_law_680 rfl (lv_at hl 5 rfl) ?_
  refine lv_iconst (v := 0) hx hb dL_law_681 (by decide) ?_
  refine me_lald (k := 0) hC hM ho rfl (by decide) (by decide) dL_law_682 ?_
  refine lv_iload hx hb dL_law_683 (lv_at hl 0 rfl) ?_
  refine lv_i2l hx hb dL_law_685 rfl ?_
  refine W.lcmp hx hb dL_law_686 ?_
  refine lv_if_eq (tgt := 692) hx hb dL_law_687 (by decide) (fun _ => ?_) (fun h => absurd (lw_lself hf0) h)
  refine lv_goto (tgt := 2920) hx hb dL_law_692 (by decide) ?_
  exact kk ls H locs _ (lv_sub hl [2, 3, 4, 5, 6, 7] rfl) hM
set_option maxHeartbeats 4000000 in
theorem lw_c15 (hC : me_cx ws_all p c cL_law 10 s args m RL D tb X z0) (hl : lv_has ls 10 [(0, .ref b), (1, .ref bo), (2, .ref mo), (3, .ref oa), (4, .ref da), (5, .int (nI i))]) (hR : 14 ≤ R.frames ∧ 522 ≤ R.locals) (hM : me_at D z0 M n s H locs) (hX : va_X b L xs s s.heap) (hbl : b < s.heap.size) (hbA : ¬ me_A z0 b) (hi : i + 6 ≤ L) (hL : L ≤ 3072) (hrc2 : rm2.cells = mc2) (hrs2 : rm2.slots = ms2) (hr2 : rm2.frames ≤ 13 ∧ rm2.locals ≤ 480) (he1 : M1 mo = some (.inr (8, fs))) (he2 : M2 mo = some (.inr (8, fs2))) (hf : cells + mc + mc2 ≤ R.cells ∧ slots + ms + ms2 ≤ R.slots) (ct1 : Met l yL_noiseAt (.codeWith yL_noiseAt cL_noiseAt 5 (some .int) [(0, 10, 13, 19), (0, 10, 17, 21)] :: ws_all) ({ frames := 13, cells := mc, slots := ms, locals := 480 } : Room) (me_Pc [.ref bo, .int (xs (i + 1)), .int (xs (i + 2)), .ref oa] D tb X z0 M n) (me_Qn D z0 k M1) mc ms (me_A z0)) (ct2 : ∀ n1, Met l yX8_noiseAt (.code yX8_noiseAt cX8_noiseAt 3 (some .int) :: ws_all) rm2 (me_Pc [.ref mo, .int (xs (i + 1)), .int (xs (i + 2))] D tb X z0 M1 n1) (me_Qi D z0 r M2 (n2 n1)) mc2 ms2 (me_A z0)) (ct3 : ∀ n1, Met l yX8_thrown (.code yX8_thrown cX8_thrown 1 (some .int) :: ws_all) ({ frames := 0, cells := 0, slots := 0, locals := 0 } : Room) (me_Pc [.ref mo] D tb X z0 M2 n1) (me_Qi D z0 k M2 n1) 0 0 (me_A z0)) (hk : k = 0 → ∃ f : Nat → Int64, M2 oa = some (.inl (tb 3, 1, .inr (.inl f))) ∧ f 0 = r.toInt64) (kk : ∀ (ls1 : Array Slot) (H1 : Heap) (locs1 : List Loc) (n5 : Nat), lv_has ls1 10 [(0, .ref b), (1, .ref bo), (2, .ref mo), (3, .ref oa), (4, .ref da), (5, .int (nI i))] → me_at D z0 M2 n5 s H1 locs1 → W p l e R s m args below meth c H1 locs1 (cells + mc + mc2) (slots + ms + ms2) Q (F0 m 2920 ls1 [])) : W p l e R s m args below meth c H locs cells slots Q (F0 m 695 ls []) := by
  have hx := hC.1
  have hb := hC.2.1
  have hw := hC.2.2.2.2.1
  refine lv_aload_n hx hb dL_law_695 rfl (lv_at hl 1 rfl) ?_
  refine lv_aload_n hx hb dL_law_696 rfl (lv_at hl 0 rfl) ?_
  refine lv_iload hx hb dL_law_697 (lv_at hl 5 rfl) ?_
  refine lv_iconst (v := 1) hx hb dL_law_699 (by decide) ?_
  refine lv_iadd hx hb dL_law_700 ?_
  refine lw_rd (k := 1) hx hb hX hbl hbA hM.2.2.2.2 rfl (by omega) hL dL_law_701 ?_
  refine lv_aload_n hx hb dL_law_702 rfl (lv_at hl 0 rfl) ?_
  refine lv_iload hx hb dL_law_703 (lv_at hl 5 rfl) ?_
  refine lv_iconst (v := 2) hx hb dL_law_705 (by decide) ?_
  refine lv_iadd hx hb dL_law_706 ?_
  refine lw_rd (k := 2) hx hb hX hbl hbA hM.2.2.2.2 rfl (by omega) hL dL_law_707 ?_
  refine lv_aload_n hx hb dL_law_708 rfl (lv_at hl 3 rfl) ?_
  refine me_callSn (nA := 4) (As := [.ref bo, .int (xs (i + 1)), .int (xs (i + 2)), .ref oa]) (rest := []) hC hl.1 hM ct1 w_833 w_834 w_0 w_835 (by decide +kernel) rfl rfl ⟨by show 13 + 1 ≤ R.frames; omega, by show 8 + (5 + 11) + 480 ≤ R.locals; omega⟩ rfl rfl (Nat.le_of_ble_eq_true rfl) dL_law_709 ⟨by omega, by omega⟩ (fun H locs n1 hM => ?_)
  refine lv_istore (lv' := [(6, .int k), (0, .ref b), (1, .ref bo), (2, .ref mo), (3, .ref oa), (4, .ref da), (5, .int (nI i))]) hx hb dL_law_712 hl (by decide) rfl (fun ls hl => ?_)
  refine lv_aload_n hx hb dL_law_714 rfl (lv_at hl 3 rfl) ?_
  refine lv_aload_n hx hb dL_law_715 rfl (lv_at hl 1 rfl) ?_
  refine lv_iload hx hb dL_law_716 (lv_at hl 6 rfl) ?_
  refine lv_iconst (v := 1) hx hb dL_law_718 (by decide) ?_
  refine lv_iadd hx hb dL_law_719 ?_
  refine lw_rd (k := 1) hx hb hX hbl hbA hM.2.2.2.2 rfl (by omega) hL dL_law_720 ?_
  refine lv_aload_n hx hb dL_law_721 rfl (lv_at hl 1 rfl) ?_
  refine lv_iload hx hb dL_law_722 (lv_at hl 6 rfl) ?_
  refine lv_iconst (v := 2) hx hb dL_law_724 (by decide) ?_
  refine lv_iadd hx hb dL_law_725 ?_
  refine lw_rd (k := 2) hx hb hX hbl hbA hM.2.2.2.2 rfl (by omega) hL dL_law_726 ?_
  refine me_callVi (As := [.int (xs (i + 1)), .int (xs (i + 2))]) (rest := []) hC hl.1 hM (ct2 n1) (kv_L_206 hw hrc2 hrs2 ⟨by omega, by show 8 + (3 + 11) + rm2.locals ≤ R.locals; omega⟩) rfl rfl he1 rfl (Nat.le_of_ble_eq_true rfl) dL_law_727 ⟨by omega, by omega⟩ (fun H locs hM => ?_)
  refine lv_istore (lv' := [(7, .int r), (6, .int k), (0, .ref b), (1, .ref bo), (2, .ref mo), (3, .ref oa), (4, .ref da), (5, .int (nI i))]) hx hb dL_law_730 hl (by decide) rfl (fun ls hl => ?_)
  refine lv_aload_n hx hb dL_law_732 rfl (lv_at hl 4 rfl) ?_
  refine me_callVi (As := []) (rest := []) hC hl.1 hM (ct3 _) (kv_L_145 hw rfl rfl ⟨by show 0 + 1 ≤ R.frames; omega, by show 8 + (1 + 11) + 0 ≤ R.locals; omega⟩) rfl rfl he2 rfl (Nat.le_of_ble_eq_true rfl) dL_law_733 ⟨by omega, by omega⟩ (fun H locs hM => ?_)
  refine lv_iload hx hb dL_law_736 (lv_at hl 1 rfl) ?_
  refine lv_icmp_eq (tgt := 743) hx hb dL_law_738 (by decide) (fun _ => ?_) (fun h => absurd rfl h)
  refine lv_iload hx hb dL_law_743 (lv_at hl 1 rfl) ?_
  refine lv_if_ne (tgt := 760) hx hb dL_law_745 (by decide) (fun _ => ?_) (fun h0 => ?_)
  · refine lv_goto (tgt := 2920) hx hb dL_law_760 (by decide) ?_
    exact kk ls H locs _ (lv_sub hl [2, 3, 4, 5, 6, 7] rfl) hM
  obtain ⟨f, ho, hf0⟩ := hk h0
  refine lv_aload_n hx hb dL_law_748 rfl (lv_at hl 5 rfl) ?_
  refine lv_iconst (v := 0) hx hb dL_law_749 (by decide) ?_
  refine me_lald (k := 0) hC hM ho rfl (by decide) (by decide) dL_law_750 ?_
  refine lv_iload hx hb dL_law_751 (lv_at hl 0 rfl) ?_
  refine lv_i2l hx hb dL_law_753 rfl ?_
  refine W.lcmp hx hb dL_law_754 ?_
  refine lv_if_eq (tgt := 760) hx hb dL_law_755 (by decide) (fun _ => ?_) (fun h => absurd (lw_lself hf0) h)
  refine lv_goto (tgt := 2920) hx hb dL_law_760 (by decide) ?_
  exact kk ls H locs _ (lv_sub hl [2, 3, 4, 5, 6, 7] rfl) hM
set_option maxHeartbeats 4000000 in
theorem lw_c16 (hC : me_cx ws_all p c cL_law 10 s args m RL D tb X z0) (hl : lv_has ls 10 [(0, .ref b), (1, .ref bo), (2, .ref mo), (3, .ref oa), (4, .ref da), (5, .int (nI i))]) (hR : 14 ≤ R.frames ∧ 522 ≤ R.locals) (hM : me_at D z0 M n s H locs) (hX : va_X b L xs s s.heap) (hbl : b < s.heap.size) (hbA : ¬ me_A z0 b) (hi : i + 6 ≤ L) (hL : L ≤ 3072) (hrc2 : rm2.cells = mc2) (hrs2 : rm2.slots = ms2) (hr2 : rm2.frames ≤ 13 ∧ rm2.locals ≤ 480) (he1 : M1 mo = some (.inr (8, fs))) (he2 : M2 mo = some (.inr (8, fs2))) (hf : cells + mc + mc2 ≤ R.cells ∧ slots + ms + ms2 ≤ R.slots) (ct1 : Met l yL_noiseTotal (.codeWith yL_noiseTotal cL_noiseTotal 4 (some .int) [(0, 9, 12, 19)] :: ws_all) ({ frames := 13, cells := mc, slots := ms, locals := 480 } : Room) (me_Pc [.ref bo, .int (xs (i + 1)), .ref oa] D tb X z0 M n) (me_Qn D z0 k M1) mc ms (me_A z0)) (ct2 : ∀ n1, Met l yX8_noiseTotal (.code yX8_noiseTotal cX8_noiseTotal 2 (some .int) :: ws_all) rm2 (me_Pc [.ref mo, .int (xs (i + 1))] D tb X z0 M1 n1) (me_Qi D z0 r M2 (n2 n1)) mc2 ms2 (me_A z0)) (ct3 : ∀ n1, Met l yX8_thrown (.code yX8_thrown cX8_thrown 1 (some .int) :: ws_all) ({ frames := 0, cells := 0, slots := 0, locals := 0 } : Room) (me_Pc [.ref mo] D tb X z0 M2 n1) (me_Qi D z0 k M2 n1) 0 0 (me_A z0)) (hk : k = 0 → ∃ f : Nat → Int64, M2 oa = some (.inl (tb 3, 1, .inr (.inl f))) ∧ f 0 = r.toInt64) (kk : ∀ (ls1 : Array Slot) (H1 : Heap) (locs1 : List Loc) (n5 : Nat), lv_has ls1 10 [(0, .ref b), (1, .ref bo), (2, .ref mo), (3, .ref oa), (4, .ref da), (5, .int (nI i))] → me_at D z0 M2 n5 s H1 locs1 → W p l e R s m args below meth c H1 locs1 (cells + mc + mc2) (slots + ms + ms2) Q (F0 m 2920 ls1 [])) : W p l e R s m args below meth c H locs cells slots Q (F0 m 763 ls []) := by
  have hx := hC.1
  have hb := hC.2.1
  have hw := hC.2.2.2.2.1
  refine lv_aload_n hx hb dL_law_763 rfl (lv_at hl 1 rfl) ?_
  refine lv_aload_n hx hb dL_law_764 rfl (lv_at hl 0 rfl) ?_
  refine lv_iload hx hb dL_law_765 (lv_at hl 5 rfl) ?_
  refine lv_iconst (v := 1) hx hb dL_law_767 (by decide) ?_
  refine lv_iadd hx hb dL_law_768 ?_
  refine lw_rd (k := 1) hx hb hX hbl hbA hM.2.2.2.2 rfl (by omega) hL dL_law_769 ?_
  refine lv_aload_n hx hb dL_law_770 rfl (lv_at hl 3 rfl) ?_
  refine me_callSn (nA := 3) (As := [.ref bo, .int (xs (i + 1)), .ref oa]) (rest := []) hC hl.1 hM ct1 w_845 w_846 w_0 w_847 (by decide +kernel) rfl rfl ⟨by show 13 + 1 ≤ R.frames; omega, by show 8 + (4 + 11) + 480 ≤ R.locals; omega⟩ rfl rfl (Nat.le_of_ble_eq_true rfl) dL_law_771 ⟨by omega, by omega⟩ (fun H locs n1 hM => ?_)
  refine lv_istore (lv' := [(6, .int k), (0, .ref b), (1, .ref bo), (2, .ref mo), (3, .ref oa), (4, .ref da), (5, .int (nI i))]) hx hb dL_law_774 hl (by decide) rfl (fun ls hl => ?_)
  refine lv_aload_n hx hb dL_law_776 rfl (lv_at hl 3 rfl) ?_
  refine lv_aload_n hx hb dL_law_777 rfl (lv_at hl 1 rfl) ?_
  refine lv_iload hx hb dL_law_778 (lv_at hl 6 rfl) ?_
  refine lv_iconst (v := 1) hx hb dL_law_780 (by decide) ?_
  refine lv_iadd hx hb dL_law_781 ?_
  refine lw_rd (k := 1) hx hb hX hbl hbA hM.2.2.2.2 rfl (by omega) hL dL_law_782 ?_
  refine me_callVi (As := [.int (xs (i + 1))]) (rest := []) hC hl.1 hM (ct2 n1) (kv_L_209 hw hrc2 hrs2 ⟨by omega, by show 8 + (2 + 11) + rm2.locals ≤ R.locals; omega⟩) rfl rfl he1 rfl (Nat.le_of_ble_eq_true rfl) dL_law_783 ⟨by omega, by omega⟩ (fun H locs hM => ?_)
  refine lv_istore (lv' := [(7, .int r), (6, .int k), (0, .ref b), (1, .ref bo), (2, .ref mo), (3, .ref oa), (4, .ref da), (5, .int (nI i))]) hx hb dL_law_786 hl (by decide) rfl (fun ls hl => ?_)
  refine lv_aload_n hx hb dL_law_788 rfl (lv_at hl 4 rfl) ?_
  refine me_callVi (As := []) (rest := []) hC hl.1 hM (ct3 _) (kv_L_145 hw rfl rfl ⟨by show 0 + 1 ≤ R.frames; omega, by show 8 + (1 + 11) + 0 ≤ R.locals; omega⟩) rfl rfl he2 rfl (Nat.le_of_ble_eq_true rfl) dL_law_789 ⟨by omega, by omega⟩ (fun H locs hM => ?_)
  refine lv_iload hx hb dL_law_792 (lv_at hl 1 rfl) ?_
  refine lv_icmp_eq (tgt := 799) hx hb dL_law_794 (by decide) (fun _ => ?_) (fun h => absurd rfl h)
  refine lv_iload hx hb dL_law_799 (lv_at hl 1 rfl) ?_
  refine lv_if_ne (tgt := 816) hx hb dL_law_801 (by decide) (fun _ => ?_) (fun h0 => ?_)
  · refine lv_goto (tgt := 2920) hx hb dL_law_816 (by decide) ?_
    exact kk ls H locs _ (lv_sub hl [2, 3, 4, 5, 6, 7] rfl) hM
  obtain ⟨f, ho, hf0⟩ := hk h0
  refine lv_aload_n hx hb dL_law_804 rfl (lv_at hl 5 rfl) ?_
  refine lv_iconst (v := 0) hx hb dL_law_805 (by decide) ?_
  refine me_lald (k := 0) hC hM ho rfl (by decide) (by decide) dL_law_806 ?_
  refine lv_iload hx hb dL_law_807 (lv_at hl 0 rfl) ?_
  refine lv_i2l hx hb dL_law_809 rfl ?_
  refine W.lcmp hx hb dL_law_810 ?_
  refine lv_if_eq (tgt := 816) hx hb dL_law_811 (by decide) (fun _ => ?_) (fun h => absurd (lw_lself hf0) h)
  refine lv_goto (tgt := 2920) hx hb dL_law_816 (by decide) ?_
  exact kk ls H locs _ (lv_sub hl [2, 3, 4, 5, 6, 7] rfl) hM
set_option maxHeartbeats 4000000 in
theorem lw_c17 (hC : me_cx ws_all p c cL_law 10 s args m RL D tb X z0) (hl : lv_has ls 10 [(0, .ref b), (1, .ref bo), (2, .ref mo), (3, .ref oa), (4, .ref da), (5, .int (nI i))]) (hR : 14 ≤ R.frames ∧ 522 ≤ R.locals) (hM : me_at D z0 M n s H locs) (hX : va_X b L xs s s.heap) (hbl : b < s.heap.size) (hbA : ¬ me_A z0 b) (hi : i + 6 ≤ L) (hL : L ≤ 3072) (hrc2 : rm2.cells = mc2) (hrs2 : rm2.slots = ms2) (hr2 : rm2.frames ≤ 13 ∧ rm2.locals ≤ 480) (he1 : M1 mo = some (.inr (8, fs))) (he2 : M2 mo = some (.inr (8, fs2))) (hf : cells + mc + mc2 ≤ R.cells ∧ slots + ms + ms2 ≤ R.slots) (ct1 : Met l yL_quietHours (.codeWith yL_quietHours cL_quietHours 4 (some .int) [(0, 9, 12, 19)] :: ws_all) ({ frames := 13, cells := mc, slots := ms, locals := 480 } : Room) (me_Pc [.ref bo, .int (xs (i + 1)), .ref oa] D tb X z0 M n) (me_Qn D z0 k M1) mc ms (me_A z0)) (ct2 : ∀ n1, Met l yX8_quietHours (.code yX8_quietHours cX8_quietHours 2 (some .int) :: ws_all) rm2 (me_Pc [.ref mo, .int (xs (i + 1))] D tb X z0 M1 n1) (me_Qi D z0 r M2 (n2 n1)) mc2 ms2 (me_A z0)) (ct3 : ∀ n1, Met l yX8_thrown (.code yX8_thrown cX8_thrown 1 (some .int) :: ws_all) ({ frames := 0, cells := 0, slots := 0, locals := 0 } : Room) (me_Pc [.ref mo] D tb X z0 M2 n1) (me_Qi D z0 k M2 n1) 0 0 (me_A z0)) (hk : k = 0 → ∃ f : Nat → Int64, M2 oa = some (.inl (tb 3, 1, .inr (.inl f))) ∧ f 0 = r.toInt64) (kk : ∀ (ls1 : Array Slot) (H1 : Heap) (locs1 : List Loc) (n5 : Nat), lv_has ls1 10 [(0, .ref b), (1, .ref bo), (2, .ref mo), (3, .ref oa), (4, .ref da), (5, .int (nI i))] → me_at D z0 M2 n5 s H1 locs1 → W p l e R s m args below meth c H1 locs1 (cells + mc + mc2) (slots + ms + ms2) Q (F0 m 2920 ls1 [])) : W p l e R s m args below meth c H locs cells slots Q (F0 m 819 ls []) := by
  have hx := hC.1
  have hb := hC.2.1
  have hw := hC.2.2.2.2.1
  refine lv_aload_n hx hb dL_law_819 rfl (lv_at hl 1 rfl) ?_
  refine lv_aload_n hx hb dL_law_820 rfl (lv_at hl 0 rfl) ?_
  refine lv_iload hx hb dL_law_821 (lv_at hl 5 rfl) ?_
  refine lv_iconst (v := 1) hx hb dL_law_823 (by decide) ?_
  refine lv_iadd hx hb dL_law_824 ?_
  refine lw_rd (k := 1) hx hb hX hbl hbA hM.2.2.2.2 rfl (by omega) hL dL_law_825 ?_
  refine lv_aload_n hx hb dL_law_826 rfl (lv_at hl 3 rfl) ?_
  refine me_callSn (nA := 3) (As := [.ref bo, .int (xs (i + 1)), .ref oa]) (rest := []) hC hl.1 hM ct1 w_852 w_853 w_0 w_854 (by decide +kernel) rfl rfl ⟨by show 13 + 1 ≤ R.frames; omega, by show 8 + (4 + 11) + 480 ≤ R.locals; omega⟩ rfl rfl (Nat.le_of_ble_eq_true rfl) dL_law_827 ⟨by omega, by omega⟩ (fun H locs n1 hM => ?_)
  refine lv_istore (lv' := [(6, .int k), (0, .ref b), (1, .ref bo), (2, .ref mo), (3, .ref oa), (4, .ref da), (5, .int (nI i))]) hx hb dL_law_830 hl (by decide) rfl (fun ls hl => ?_)
  refine lv_aload_n hx hb dL_law_832 rfl (lv_at hl 3 rfl) ?_
  refine lv_aload_n hx hb dL_law_833 rfl (lv_at hl 1 rfl) ?_
  refine lv_iload hx hb dL_law_834 (lv_at hl 6 rfl) ?_
  refine lv_iconst (v := 1) hx hb dL_law_836 (by decide) ?_
  refine lv_iadd hx hb dL_law_837 ?_
  refine lw_rd (k := 1) hx hb hX hbl hbA hM.2.2.2.2 rfl (by omega) hL dL_law_838 ?_
  refine me_callVi (As := [.int (xs (i + 1))]) (rest := []) hC hl.1 hM (ct2 n1) (kv_L_212 hw hrc2 hrs2 ⟨by omega, by show 8 + (2 + 11) + rm2.locals ≤ R.locals; omega⟩) rfl rfl he1 rfl (Nat.le_of_ble_eq_true rfl) dL_law_839 ⟨by omega, by omega⟩ (fun H locs hM => ?_)
  refine lv_istore (lv' := [(7, .int r), (6, .int k), (0, .ref b), (1, .ref bo), (2, .ref mo), (3, .ref oa), (4, .ref da), (5, .int (nI i))]) hx hb dL_law_842 hl (by decide) rfl (fun ls hl => ?_)
  refine lv_aload_n hx hb dL_law_844 rfl (lv_at hl 4 rfl) ?_
  refine me_callVi (As := []) (rest := []) hC hl.1 hM (ct3 _) (kv_L_145 hw rfl rfl ⟨by show 0 + 1 ≤ R.frames; omega, by show 8 + (1 + 11) + 0 ≤ R.locals; omega⟩) rfl rfl he2 rfl (Nat.le_of_ble_eq_true rfl) dL_law_845 ⟨by omega, by omega⟩ (fun H locs hM => ?_)
  refine lv_iload hx hb dL_law_848 (lv_at hl 1 rfl) ?_
  refine lv_icmp_eq (tgt := 855) hx hb dL_law_850 (by decide) (fun _ => ?_) (fun h => absurd rfl h)
  refine lv_iload hx hb dL_law_855 (lv_at hl 1 rfl) ?_
  refine lv_if_ne (tgt := 872) hx hb dL_law_857 (by decide) (fun _ => ?_) (fun h0 => ?_)
  · refine lv_goto (tgt := 2920) hx hb dL_law_872 (by decide) ?_
    exact kk ls H locs _ (lv_sub hl [2, 3, 4, 5, 6, 7] rfl) hM
  obtain ⟨f, ho, hf0⟩ := hk h0
  refine lv_aload_n hx hb dL_law_860 rfl (lv_at hl 5 rfl) ?_
  refine lv_iconst (v := 0) hx hb dL_law_861 (by decide) ?_
  refine me_lald (k := 0) hC hM ho rfl (by decide) (by decide) dL_law_862 ?_
  refine lv_iload hx hb dL_law_863 (lv_at hl 0 rfl) ?_
  refine lv_i2l hx hb dL_law_865 rfl ?_
  refine W.lcmp hx hb dL_law_866 ?_
  refine lv_if_eq (tgt := 872) hx hb dL_law_867 (by decide) (fun _ => ?_) (fun h => absurd (lw_lself hf0) h)
  refine lv_goto (tgt := 2920) hx hb dL_law_872 (by decide) ?_
  exact kk ls H locs _ (lv_sub hl [2, 3, 4, 5, 6, 7] rfl) hM
set_option maxHeartbeats 4000000 in
theorem lw_c18 (hC : me_cx ws_all p c cL_law 10 s args m RL D tb X z0) (hl : lv_has ls 10 [(0, .ref b), (1, .ref bo), (2, .ref mo), (3, .ref oa), (4, .ref da), (5, .int (nI i))]) (hR : 14 ≤ R.frames ∧ 522 ≤ R.locals) (hM : me_at D z0 M n s H locs) (hrc1 : rm1.cells = mc) (hrs1 : rm1.slots = ms) (hr1 : rm1.frames ≤ 13 ∧ rm1.locals ≤ 480) (hrc2 : rm2.cells = mc2) (hrs2 : rm2.slots = ms2) (hr2 : rm2.frames ≤ 13 ∧ rm2.locals ≤ 480) (he : M bo = some (.inr (7, fs))) (he2 : M1 mo = some (.inr (8, fs2))) (hf : cells + mc + mc2 ≤ R.cells ∧ slots + ms + ms2 ≤ R.slots) (ct1 : Met l yX7_loudestStreet (.code yX7_loudestStreet cX7_loudestStreet 3 (some .int) :: ws_all) rm1 (me_Pc [.ref bo] D tb X z0 M n) (me_Qi D z0 r M1 n1) mc ms (me_A z0)) (ct2 : Met l yX8_loudestStreet (.code yX8_loudestStreet cX8_loudestStreet 3 (some .int) :: ws_all) rm2 (me_Pc [.ref mo] D tb X z0 M1 n1) (me_Qi D z0 r M2 n3) mc2 ms2 (me_A z0)) (kk : ∀ (ls1 : Array Slot) (H1 : Heap) (locs1 : List Loc) (n5 : Nat), lv_has ls1 10 [(0, .ref b), (1, .ref bo), (2, .ref mo), (3, .ref oa), (4, .ref da), (5, .int (nI i))] → me_at D z0 M2 n5 s H1 locs1 → W p l e R s m args below meth c H1 locs1 (cells + mc + mc2) (slots + ms + ms2) Q (F0 m 2920 ls1 [])) : W p l e R s m args below meth c H locs cells slots Q (F0 m 875 ls []) := by
  have hx := hC.1
  have hb := hC.2.1
  have hw := hC.2.2.2.2.1
  refine lv_aload_n hx hb dL_law_875 rfl (lv_at hl 1 rfl) ?_
  refine me_callVi (As := []) (rest := []) hC hl.1 hM ct1 (kv_L_213 hw hrc1 hrs1 ⟨by omega, by show 8 + (3 + 11) + rm1.locals ≤ R.locals; omega⟩) rfl rfl he rfl (Nat.le_of_ble_eq_true rfl) dL_law_876 ⟨by omega, by omega⟩ (fun H locs hM => ?_)
  refine lv_aload_n hx hb dL_law_879 rfl (lv_at hl 2 rfl) ?_
  refine me_callVi (As := []) (rest := [.int r]) hC hl.1 hM ct2 (kv_L_216 hw hrc2 hrs2 ⟨by omega, by show 8 + (3 + 11) + rm2.locals ≤ R.locals; omega⟩) rfl rfl he2 rfl (Nat.le_of_ble_eq_true rfl) dL_law_880 ⟨by omega, by omega⟩ (fun H locs hM => ?_)
  refine lv_icmp_eq (tgt := 2920) hx hb dL_law_883 (by decide) (fun _ => ?_) (fun h => absurd rfl h)
  exact kk ls H locs _ hl hM
end LC1
