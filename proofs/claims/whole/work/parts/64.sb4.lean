set_option maxHeartbeats 4000000 in
theorem c_J5_appI0_B (l : Launch) (D : va_G) (tb : Nat → ClassId) (X : State → Prop) (z0 n : Nat) (kK kV : Nat → Nat) (kO kT : Nat) (b v kk w : Nat) (f : Nat → Int32) (M : me_M)  (hKS : ∀ U, X U → me_ks kK kV z0 U) (hKD : ∀ U, X U → me_kd kO kT z0 U) (hbv : b < v) (hvn : v < n) (hMv : M v = none) (hfit : sb_Fit f) (hk0 : 16 < kk + (sb_dg w + 0)) (hk1 : kk + (sb_dg w + 0) ≤ 34) (hw9 : w < 1000000000) : Met l yJ5_append_c97b9 (.code yJ5_append_c97b9 cJ5_append_c97b9 4 (Option.some (Jvm.ClassFile.FieldType.object "java/lang/AbstractStringBuilder")) :: ws_all) ({ frames := 4, cells := 1, slots := 34, locals := 91 } : Room) (me_Pc [.ref b, .int (nI w)] D tb X z0 (sbV tb M b v 16 kk f) n) (me_Qr D z0 b (sbV tb M b n 34 (kk + (sb_dg w + 0)) (gsF w 0 (kk + (sb_dg w + 0)) (va_cpy f (fun _ => 0) 0 0 16))) (n + 1)) 1 34 (me_A z0) := by
  refine me_open (by decide) (Nat.le_of_ble_eq_true rfl) ?_
  intro p e s m args below meth c ls hC hr hlk hnm hM hl
  have hl : lv_has ls 4 [(0, .ref b), (1, .int (nI w))] := hl
  have hx := hC.1
  have hb := hC.2.1
  have hw := hC.2.2.2.2.1
  have hdw := sb_dg_in w
  refine lv_aload_n hx hb dJ5_append_c97b9_0 rfl (lv_at hl 0 rfl) ?_
  refine fg_J5_79 hC hM (sb_o (by omega)) rfl dJ5_append_c97b9_1 ?_
  refine lv_istore_n (lv' := [(2, .int (nI kk)), (0, .ref b), (1, .int (nI w))]) hx hb dJ5_append_c97b9_4 rfl hl (by decide) rfl (fun ls hl => ?_)
  refine lv_iload_n hx hb dJ5_append_c97b9_5 rfl (lv_at hl 0 rfl) ?_
  refine lv_iload_n hx hb dJ5_append_c97b9_6 rfl (lv_at hl 2 rfl) ?_
  refine me_callSi (As := [.int (nI w)]) (rest := [.int (nI kk)]) hC hl.1 hM (c_J6_stringSize_0 l D tb X z0 n (sbV tb M b v 16 kk f) w hw9) (ks_J5_245 hw rfl rfl ⟨Nat.le_of_ble_eq_true rfl, Nat.le_of_ble_eq_true rfl⟩) rfl rfl (Nat.le_of_ble_eq_true rfl) dJ5_append_c97b9_7 ⟨Nat.le_of_ble_eq_true rfl, Nat.le_of_ble_eq_true rfl⟩ (fun H locs hM => ?_)
  refine lv_iadd hx hb dJ5_append_c97b9_10 ?_
  refine lv_istore_n (lv' := [(3, .int ((nI kk) + (nI (sb_dg w + 0)))), (2, .int (nI kk)), (0, .ref b), (1, .int (nI w))]) hx hb dJ5_append_c97b9_11 rfl hl (by decide) rfl (fun ls hl => ?_)
  refine lv_aload_n hx hb dJ5_append_c97b9_12 rfl (lv_at hl 2 rfl) ?_
  refine lv_iload_n hx hb dJ5_append_c97b9_13 rfl (lv_at hl 0 rfl) ?_
  refine me_stk (st2 := [.int (nI (kk + (sb_dg w + 0))), .ref b]) (by rw [(nx_add rfl rfl)]) ?_
  refine me_callUv (As := [.int (nI (kk + (sb_dg w + 0)))]) (rest := []) hC hl.1 hM (c_J5_ensure_B l D tb X z0 n kO kT b v kk f M (kk + (sb_dg w + 0)) (fun U h => hKD U h) (by omega) (by omega) (hMv) (by omega) (by omega) hfit) (ku_J5_100 hw rfl rfl ⟨Nat.le_of_ble_eq_true rfl, Nat.le_of_ble_eq_true rfl⟩ (va_Nw.use (by decide +kernel) (hKD s hC.2.2.2.2.2.1.2).2.2.2.2.1)) rfl rfl (sb_o (by omega)) rfl (Nat.le_of_ble_eq_true rfl) dJ5_append_c97b9_14 ⟨Nat.le_of_ble_eq_true rfl, Nat.le_of_ble_eq_true rfl⟩ (fun H locs hM => ?_)
  refine lv_aload_n hx hb dJ5_append_c97b9_17 rfl (lv_at hl 2 rfl) ?_
  refine me_callUi (As := []) (rest := []) hC hl.1 hM (c_J5_isLatin1_aae02 l D tb X z0 (n + 1) kK kV b n 34 kk (va_cpy f (fun _ => 0) 0 0 16) M hKS (by omega)) (ku_J5_83 hw rfl rfl ⟨Nat.le_of_ble_eq_true rfl, Nat.le_of_ble_eq_true rfl⟩ (hw _ w_1213)) rfl rfl (sb_o (by omega)) rfl (Nat.le_of_ble_eq_true rfl) dJ5_append_c97b9_18 ⟨Nat.le_of_ble_eq_true rfl, Nat.le_of_ble_eq_true rfl⟩ (fun H locs hM => ?_)
  refine lv_if_eq (tgt := 37) hx hb dJ5_append_c97b9_21 (by decide) (fun c_1 => ?_) (fun c_1 => ?_)
  · exact absurd c_1 (by decide)
  · refine lv_iload_n hx hb dJ5_append_c97b9_24 rfl (lv_at hl 3 rfl) ?_
    refine lv_iload_n hx hb dJ5_append_c97b9_25 rfl (lv_at hl 0 rfl) ?_
    refine lv_aload_n hx hb dJ5_append_c97b9_26 rfl (lv_at hl 2 rfl) ?_
    refine fg_J5_15 hC hM (sb_o (by omega)) rfl dJ5_append_c97b9_27 ?_
    refine me_stk (st2 := [.ref n, .int (nI (kk + (sb_dg w + 0))), .int (nI w)]) (by rw [(nx_add rfl rfl)]) ?_
    refine me_callSi (As := [.int (nI w), .int (nI (kk + (sb_dg w + 0))), .ref n]) (rest := []) hC hl.1 hM (c_J6_getChars_0 l D tb X z0 (n + 1) kO kT w (kk + (sb_dg w + 0)) n 34 (va_cpy f (fun _ => 0) 0 0 16) (sbV tb M b n 34 kk (va_cpy f (fun _ => 0) 0 0 16)) hKD sb_a hw9 (by omega) (by omega) (by omega)) (ks_J5_248 hw rfl rfl ⟨Nat.le_of_ble_eq_true rfl, Nat.le_of_ble_eq_true rfl⟩) rfl rfl (Nat.le_of_ble_eq_true rfl) dJ5_append_c97b9_30 ⟨Nat.le_of_ble_eq_true rfl, Nat.le_of_ble_eq_true rfl⟩ (fun H locs hM => ?_)
    have hM := hM.eq sb_wf
    refine lv_pop hx hb dJ5_append_c97b9_33 rfl ?_
    refine lv_goto (tgt := 48) hx hb dJ5_append_c97b9_34 (by decide) ?_
    refine lv_aload_n hx hb dJ5_append_c97b9_48 rfl (lv_at hl 2 rfl) ?_
    refine lv_iload_n hx hb dJ5_append_c97b9_49 rfl (lv_at hl 0 rfl) ?_
    refine me_evi (y := nI (kk + (sb_dg w + 0))) (nx_add rfl rfl) ?_
    refine fp_J5_79 hC hM (sb_o (by omega)) (Nat.le_of_ble_eq_true rfl) (M2 := sbV tb M b n 34 (kk + (sb_dg w + 0)) (gsF w 0 (kk + (sb_dg w + 0)) (va_cpy f (fun _ => 0) 0 0 16))) (sb_wk (by omega)) dJ5_append_c97b9_50 (fun H locs hM => ?_)
    refine lv_aload_n hx hb dJ5_append_c97b9_53 rfl (lv_at hl 2 rfl) ?_
    exact me_aret hC hr (by first | exact Or.inl ⟨_, rfl⟩ | exact Or.inr ⟨_, rfl⟩) hlk hM (rfl) (rfl) dJ5_append_c97b9_54
set_option maxHeartbeats 4000000 in
theorem c_J5_appI0_A (l : Launch) (D : va_G) (tb : Nat → ClassId) (X : State → Prop) (z0 n : Nat) (kK kV : Nat → Nat) (kO kT : Nat) (b v cap kk w : Nat) (f : Nat → Int32) (M : me_M)  (hKS : ∀ U, X U → me_ks kK kV z0 U) (hKD : ∀ U, X U → me_kd kO kT z0 U) (hbv : b < v) (hk1 : kk + (sb_dg w + 0) ≤ cap) (hcap : cap ≤ 34) (hw9 : w < 1000000000) : Met l yJ5_append_c97b9 (.code yJ5_append_c97b9 cJ5_append_c97b9 4 (Option.some (Jvm.ClassFile.FieldType.object "java/lang/AbstractStringBuilder")) :: ws_all) ({ frames := 4, cells := 1, slots := 34, locals := 91 } : Room) (me_Pc [.ref b, .int (nI w)] D tb X z0 (sbV tb M b v cap kk f) n) (me_Qr D z0 b (sbV tb M b v cap (kk + (sb_dg w + 0)) (gsF w 0 (kk + (sb_dg w + 0)) f)) n) 1 34 (me_A z0) := by
  refine me_open (by decide) (Nat.le_of_ble_eq_true rfl) ?_
  intro p e s m args below meth c ls hC hr hlk hnm hM hl
  have hl : lv_has ls 4 [(0, .ref b), (1, .int (nI w))] := hl
  have hx := hC.1
  have hb := hC.2.1
  have hw := hC.2.2.2.2.1
  have hdw := sb_dg_in w
  refine lv_aload_n hx hb dJ5_append_c97b9_0 rfl (lv_at hl 0 rfl) ?_
  refine fg_J5_79 hC hM (sb_o (by omega)) rfl dJ5_append_c97b9_1 ?_
  refine lv_istore_n (lv' := [(2, .int (nI kk)), (0, .ref b), (1, .int (nI w))]) hx hb dJ5_append_c97b9_4 rfl hl (by decide) rfl (fun ls hl => ?_)
  refine lv_iload_n hx hb dJ5_append_c97b9_5 rfl (lv_at hl 0 rfl) ?_
  refine lv_iload_n hx hb dJ5_append_c97b9_6 rfl (lv_at hl 2 rfl) ?_
  refine me_callSi (As := [.int (nI w)]) (rest := [.int (nI kk)]) hC hl.1 hM (c_J6_stringSize_0 l D tb X z0 n (sbV tb M b v cap kk f) w hw9) (ks_J5_245 hw rfl rfl ⟨Nat.le_of_ble_eq_true rfl, Nat.le_of_ble_eq_true rfl⟩) rfl rfl (Nat.le_of_ble_eq_true rfl) dJ5_append_c97b9_7 ⟨Nat.le_of_ble_eq_true rfl, Nat.le_of_ble_eq_true rfl⟩ (fun H locs hM => ?_)
  refine lv_iadd hx hb dJ5_append_c97b9_10 ?_
  refine lv_istore_n (lv' := [(3, .int ((nI kk) + (nI (sb_dg w + 0)))), (2, .int (nI kk)), (0, .ref b), (1, .int (nI w))]) hx hb dJ5_append_c97b9_11 rfl hl (by decide) rfl (fun ls hl => ?_)
  refine lv_aload_n hx hb dJ5_append_c97b9_12 rfl (lv_at hl 2 rfl) ?_
  refine lv_iload_n hx hb dJ5_append_c97b9_13 rfl (lv_at hl 0 rfl) ?_
  refine me_stk (st2 := [.int (nI (kk + (sb_dg w + 0))), .ref b]) (by rw [(nx_add rfl rfl)]) ?_
  refine me_callUv (As := [.int (nI (kk + (sb_dg w + 0)))]) (rest := []) hC hl.1 hM (c_J5_ensure_A l D tb X z0 n b v cap kk f M (kk + (sb_dg w + 0)) (by omega) (by omega) (by omega)) (ku_J5_100 hw rfl rfl ⟨Nat.le_of_ble_eq_true rfl, Nat.le_of_ble_eq_true rfl⟩ (va_Nw.use (by decide +kernel) (hKD s hC.2.2.2.2.2.1.2).2.2.2.2.1)) rfl rfl (sb_o (by omega)) rfl (Nat.le_of_ble_eq_true rfl) dJ5_append_c97b9_14 ⟨Nat.le_of_ble_eq_true rfl, Nat.le_of_ble_eq_true rfl⟩ (fun H locs hM => ?_)
  refine lv_aload_n hx hb dJ5_append_c97b9_17 rfl (lv_at hl 2 rfl) ?_
  refine me_callUi (As := []) (rest := []) hC hl.1 hM (c_J5_isLatin1_aae02 l D tb X z0 n kK kV b v cap kk f M hKS (by omega)) (ku_J5_83 hw rfl rfl ⟨Nat.le_of_ble_eq_true rfl, Nat.le_of_ble_eq_true rfl⟩ (hw _ w_1213)) rfl rfl (sb_o (by omega)) rfl (Nat.le_of_ble_eq_true rfl) dJ5_append_c97b9_18 ⟨Nat.le_of_ble_eq_true rfl, Nat.le_of_ble_eq_true rfl⟩ (fun H locs hM => ?_)
  refine lv_if_eq (tgt := 37) hx hb dJ5_append_c97b9_21 (by decide) (fun c_1 => ?_) (fun c_1 => ?_)
  · exact absurd c_1 (by decide)
  · refine lv_iload_n hx hb dJ5_append_c97b9_24 rfl (lv_at hl 3 rfl) ?_
    refine lv_iload_n hx hb dJ5_append_c97b9_25 rfl (lv_at hl 0 rfl) ?_
    refine lv_aload_n hx hb dJ5_append_c97b9_26 rfl (lv_at hl 2 rfl) ?_
    refine fg_J5_15 hC hM (sb_o (by omega)) rfl dJ5_append_c97b9_27 ?_
    refine me_stk (st2 := [.ref v, .int (nI (kk + (sb_dg w + 0))), .int (nI w)]) (by rw [(nx_add rfl rfl)]) ?_
    refine me_callSi (As := [.int (nI w), .int (nI (kk + (sb_dg w + 0))), .ref v]) (rest := []) hC hl.1 hM (c_J6_getChars_0 l D tb X z0 n kO kT w (kk + (sb_dg w + 0)) v cap (f) (sbV tb M b v cap kk f) hKD sb_a hw9 (by omega) (by omega) (by omega)) (ks_J5_248 hw rfl rfl ⟨Nat.le_of_ble_eq_true rfl, Nat.le_of_ble_eq_true rfl⟩) rfl rfl (Nat.le_of_ble_eq_true rfl) dJ5_append_c97b9_30 ⟨Nat.le_of_ble_eq_true rfl, Nat.le_of_ble_eq_true rfl⟩ (fun H locs hM => ?_)
    have hM := hM.eq sb_wf
    refine lv_pop hx hb dJ5_append_c97b9_33 rfl ?_
    refine lv_goto (tgt := 48) hx hb dJ5_append_c97b9_34 (by decide) ?_
    refine lv_aload_n hx hb dJ5_append_c97b9_48 rfl (lv_at hl 2 rfl) ?_
    refine lv_iload_n hx hb dJ5_append_c97b9_49 rfl (lv_at hl 0 rfl) ?_
    refine me_evi (y := nI (kk + (sb_dg w + 0))) (nx_add rfl rfl) ?_
    refine fp_J5_79 hC hM (sb_o (by omega)) (Nat.le_of_ble_eq_true rfl) (M2 := sbV tb M b v cap (kk + (sb_dg w + 0)) (gsF w 0 (kk + (sb_dg w + 0)) (f))) (sb_wk (by omega)) dJ5_append_c97b9_50 (fun H locs hM => ?_)
    refine lv_aload_n hx hb dJ5_append_c97b9_53 rfl (lv_at hl 2 rfl) ?_
    exact me_aret hC hr (by first | exact Or.inl ⟨_, rfl⟩ | exact Or.inr ⟨_, rfl⟩) hlk hM (rfl) (rfl) dJ5_append_c97b9_54
set_option maxHeartbeats 4000000 in
theorem c_J4_appI0_B (l : Launch) (D : va_G) (tb : Nat → ClassId) (X : State → Prop) (z0 n : Nat) (kK kV : Nat → Nat) (kO kT : Nat) (b v kk w : Nat) (f : Nat → Int32) (M : me_M)  (hKS : ∀ U, X U → me_ks kK kV z0 U) (hKD : ∀ U, X U → me_kd kO kT z0 U) (hbv : b < v) (hvn : v < n) (hMv : M v = none) (hfit : sb_Fit f) (hk0 : 16 < kk + (sb_dg w + 0)) (hk1 : kk + (sb_dg w + 0) ≤ 34) (hw9 : w < 1000000000) : Met l yJ4_append_bf812 (.code yJ4_append_bf812 cJ4_append_bf812 2 (Option.some (Jvm.ClassFile.FieldType.object "java/lang/StringBuilder")) :: ws_all) ({ frames := 5, cells := 1, slots := 34, locals := 114 } : Room) (me_Pc [.ref b, .int (nI w)] D tb X z0 (sbV tb M b v 16 kk f) n) (me_Qr D z0 b (sbV tb M b n 34 (kk + (sb_dg w + 0)) (gsF w 0 (kk + (sb_dg w + 0)) (va_cpy f (fun _ => 0) 0 0 16))) (n + 1)) 1 34 (me_A z0) := by
  refine me_open (by decide) (Nat.le_of_ble_eq_true rfl) ?_
  intro p e s m args below meth c ls hC hr hlk hnm hM hl
  have hl : lv_has ls 2 [(0, .ref b), (1, .int (nI w))] := hl
  have hx := hC.1
  have hb := hC.2.1
  have hw := hC.2.2.2.2.1
  refine lv_aload_n hx hb dJ4_append_bf812_0 rfl (lv_at hl 0 rfl) ?_
  refine lv_iload_n hx hb dJ4_append_bf812_1 rfl (lv_at hl 1 rfl) ?_
  refine me_callSUr (As := [.int (nI w)]) (rest := []) hC hl.1 hM (c_J5_appI0_B l D tb X z0 n kK kV kO kT b v kk w f M hKS hKD hbv hvn hMv hfit hk0 hk1 hw9) (kz_J4_53 hw rfl rfl ⟨Nat.le_of_ble_eq_true rfl, Nat.le_of_ble_eq_true rfl⟩) rfl rfl (sb_o (by omega)) rfl (Nat.le_of_ble_eq_true rfl) dJ4_append_bf812_2 ⟨Nat.le_of_ble_eq_true rfl, Nat.le_of_ble_eq_true rfl⟩ (fun H locs hM => ?_)
  refine lv_pop hx hb dJ4_append_bf812_5 rfl ?_
  refine lv_aload_n hx hb dJ4_append_bf812_6 rfl (lv_at hl 0 rfl) ?_
  exact me_aret hC hr (by first | exact Or.inl ⟨_, rfl⟩ | exact Or.inr ⟨_, rfl⟩) hlk hM (rfl) (rfl) dJ4_append_bf812_7
set_option maxHeartbeats 4000000 in
theorem c_J4_appI0_A (l : Launch) (D : va_G) (tb : Nat → ClassId) (X : State → Prop) (z0 n : Nat) (kK kV : Nat → Nat) (kO kT : Nat) (b v cap kk w : Nat) (f : Nat → Int32) (M : me_M)  (hKS : ∀ U, X U → me_ks kK kV z0 U) (hKD : ∀ U, X U → me_kd kO kT z0 U) (hbv : b < v) (hk1 : kk + (sb_dg w + 0) ≤ cap) (hcap : cap ≤ 34) (hw9 : w < 1000000000) : Met l yJ4_append_bf812 (.code yJ4_append_bf812 cJ4_append_bf812 2 (Option.some (Jvm.ClassFile.FieldType.object "java/lang/StringBuilder")) :: ws_all) ({ frames := 5, cells := 1, slots := 34, locals := 114 } : Room) (me_Pc [.ref b, .int (nI w)] D tb X z0 (sbV tb M b v cap kk f) n) (me_Qr D z0 b (sbV tb M b v cap (kk + (sb_dg w + 0)) (gsF w 0 (kk + (sb_dg w + 0)) f)) n) 1 34 (me_A z0) := by
  refine me_open (by decide) (Nat.le_of_ble_eq_true rfl) ?_
  intro p e s m args below meth c ls hC hr hlk hnm hM hl
  have hl : lv_has ls 2 [(0, .ref b), (1, .int (nI w))] := hl
  have hx := hC.1
  have hb := hC.2.1
  have hw := hC.2.2.2.2.1
  refine lv_aload_n hx hb dJ4_append_bf812_0 rfl (lv_at hl 0 rfl) ?_
  refine lv_iload_n hx hb dJ4_append_bf812_1 rfl (lv_at hl 1 rfl) ?_
  refine me_callSUr (As := [.int (nI w)]) (rest := []) hC hl.1 hM (c_J5_appI0_A l D tb X z0 n kK kV kO kT b v cap kk w f M hKS hKD hbv hk1 hcap hw9) (kz_J4_53 hw rfl rfl ⟨Nat.le_of_ble_eq_true rfl, Nat.le_of_ble_eq_true rfl⟩) rfl rfl (sb_o (by omega)) rfl (Nat.le_of_ble_eq_true rfl) dJ4_append_bf812_2 ⟨Nat.le_of_ble_eq_true rfl, Nat.le_of_ble_eq_true rfl⟩ (fun H locs hM => ?_)
  refine lv_pop hx hb dJ4_append_bf812_5 rfl ?_
  refine lv_aload_n hx hb dJ4_append_bf812_6 rfl (lv_at hl 0 rfl) ?_
  exact me_aret hC hr (by first | exact Or.inl ⟨_, rfl⟩ | exact Or.inr ⟨_, rfl⟩) hlk hM (rfl) (rfl) dJ4_append_bf812_7
theorem c_J4_appI0 (l : Launch) (D : va_G) (tb : Nat → ClassId) (X : State → Prop) (z0 : Nat) (kK kV : Nat → Nat) (kO kT N0 k w : Nat) (t : Nat → Int32) (M : me_M) (hKS : ∀ U, X U → me_ks kK kV z0 U) (hKD : ∀ U, X U → me_kd kO kT z0 U) (hfr : ∀ q, N0 ≤ q → M q = none) (hk : k + (sb_dg w + 0) ≤ 34) (hw9 : w < 1000000000) (hft : sb_Fit t) : Met l yJ4_append_bf812 (.code yJ4_append_bf812 cJ4_append_bf812 2 (Option.some (Jvm.ClassFile.FieldType.object "java/lang/StringBuilder")) :: ws_all) ({ frames := 5, cells := 1, slots := 34, locals := 114 } : Room) (me_Pc [.ref N0, .int (nI w)] D tb X z0 (sbT tb M N0 k t) (sn N0 k)) (me_Qr D z0 N0 (sbT tb M N0 (k + (sb_dg w + 0)) (gsF w 0 (k + (sb_dg w + 0)) t)) (sn N0 (k + (sb_dg w + 0)))) 1 34 (me_A z0) := by
  rcases (show k + (sb_dg w + 0) ≤ 16 ∨ (k ≤ 16 ∧ 16 < k + (sb_dg w + 0)) ∨ 16 < k by omega) with h | h | h
  · have e1 : sbT tb M N0 k t = sbV tb M N0 (N0 + 1) 16 k (tx k t) := sbT_lo (by omega)
    have e2 : sbT tb M N0 (k + (sb_dg w + 0)) (gsF w 0 (k + (sb_dg w + 0)) t) = sbV tb M N0 (N0 + 1) 16 (k + (sb_dg w + 0)) (gsF w 0 (k + (sb_dg w + 0)) (tx k t)) := by rw [sbT_lo h, gs_tx (by omega)]
    rw [e1, e2, sn_lo (by omega), sn_lo h]
    exact c_J4_appI0_A l D tb X z0 (N0 + 2) kK kV kO kT N0 (N0 + 1) 16 k w (tx k t) M hKS hKD (by omega) (by omega) (by omega) hw9
  · have e1 : sbT tb M N0 k t = sbV tb M N0 (N0 + 1) 16 k (tx k t) := sbT_lo h.1
    have e2 : sbT tb M N0 (k + (sb_dg w + 0)) (gsF w 0 (k + (sb_dg w + 0)) t) = sbV tb M N0 (N0 + 2) 34 (k + (sb_dg w + 0)) (gsF w 0 (k + (sb_dg w + 0)) (va_cpy (tx k t) (fun _ => 0) 0 0 16)) := by rw [sbT_hi h.2, tx_cpy h.1, gs_tx (by omega)]
    rw [e1, e2, sn_lo h.1, sn_hi h.2]
    exact c_J4_appI0_B l D tb X z0 (N0 + 2) kK kV kO kT N0 (N0 + 1) k w (tx k t) M hKS hKD (by omega) (by omega) (hfr _ (by omega)) (tx_fit hft) h.2 hk hw9
  · have e1 : sbT tb M N0 k t = sbV tb M N0 (N0 + 2) 34 k (tx k t) := sbT_hi h
    have e2 : sbT tb M N0 (k + (sb_dg w + 0)) (gsF w 0 (k + (sb_dg w + 0)) t) = sbV tb M N0 (N0 + 2) 34 (k + (sb_dg w + 0)) (gsF w 0 (k + (sb_dg w + 0)) (tx k t)) := by rw [sbT_hi (by omega), gs_tx (by omega)]
    rw [e1, e2, sn_hi h, sn_hi (by omega)]
    exact c_J4_appI0_A l D tb X z0 (N0 + 3) kK kV kO kT N0 (N0 + 2) 34 k w (tx k t) M hKS hKD (by omega) (by omega) (by omega) hw9
set_option maxHeartbeats 4000000 in
theorem c_J5_appI1_B (l : Launch) (D : va_G) (tb : Nat → ClassId) (X : State → Prop) (z0 n : Nat) (kK kV : Nat → Nat) (kO kT : Nat) (b v kk w : Nat) (f : Nat → Int32) (M : me_M)  (hKS : ∀ U, X U → me_ks kK kV z0 U) (hKD : ∀ U, X U → me_kd kO kT z0 U) (hbv : b < v) (hvn : v < n) (hMv : M v = none) (hfit : sb_Fit f) (hk0 : 16 < kk + (sb_dg w + 1)) (hk1 : kk + (sb_dg w + 1) ≤ 34) (hw9 : w < 1000000000) (hw0 : 0 < w) : Met l yJ5_append_c97b9 (.code yJ5_append_c97b9 cJ5_append_c97b9 4 (Option.some (Jvm.ClassFile.FieldType.object "java/lang/AbstractStringBuilder")) :: ws_all) ({ frames := 4, cells := 1, slots := 34, locals := 91 } : Room) (me_Pc [.ref b, .int (-(nI w))] D tb X z0 (sbV tb M b v 16 kk f) n) (me_Qr D z0 b (sbV tb M b n 34 (kk + (sb_dg w + 1)) (gsF w 1 (kk + (sb_dg w + 1)) (va_cpy f (fun _ => 0) 0 0 16))) (n + 1)) 1 34 (me_A z0) := by
  refine me_open (by decide) (Nat.le_of_ble_eq_true rfl) ?_
  intro p e s m args below meth c ls hC hr hlk hnm hM hl
  have hl : lv_has ls 4 [(0, .ref b), (1, .int (-(nI w)))] := hl
  have hx := hC.1
  have hb := hC.2.1
  have hw := hC.2.2.2.2.1
  have hdw := sb_dg_in w
  refine lv_aload_n hx hb dJ5_append_c97b9_0 rfl (lv_at hl 0 rfl) ?_
  refine fg_J5_79 hC hM (sb_o (by omega)) rfl dJ5_append_c97b9_1 ?_
  refine lv_istore_n (lv' := [(2, .int (nI kk)), (0, .ref b), (1, .int (-(nI w)))]) hx hb dJ5_append_c97b9_4 rfl hl (by decide) rfl (fun ls hl => ?_)
  refine lv_iload_n hx hb dJ5_append_c97b9_5 rfl (lv_at hl 0 rfl) ?_
  refine lv_iload_n hx hb dJ5_append_c97b9_6 rfl (lv_at hl 2 rfl) ?_
  refine me_callSi (As := [.int (-(nI w))]) (rest := [.int (nI kk)]) hC hl.1 hM (c_J6_stringSize_1 l D tb X z0 n (sbV tb M b v 16 kk f) w hw9 hw0) (ks_J5_245 hw rfl rfl ⟨Nat.le_of_ble_eq_true rfl, Nat.le_of_ble_eq_true rfl⟩) rfl rfl (Nat.le_of_ble_eq_true rfl) dJ5_append_c97b9_7 ⟨Nat.le_of_ble_eq_true rfl, Nat.le_of_ble_eq_true rfl⟩ (fun H locs hM => ?_)
  refine lv_iadd hx hb dJ5_append_c97b9_10 ?_
  refine lv_istore_n (lv' := [(3, .int ((nI kk) + (nI (sb_dg w + 1)))), (2, .int (nI kk)), (0, .ref b), (1, .int (-(nI w)))]) hx hb dJ5_append_c97b9_11 rfl hl (by decide) rfl (fun ls hl => ?_)
  refine lv_aload_n hx hb dJ5_append_c97b9_12 rfl (lv_at hl 2 rfl) ?_
  refine lv_iload_n hx hb dJ5_append_c97b9_13 rfl (lv_at hl 0 rfl) ?_
  refine me_stk (st2 := [.int (nI (kk + (sb_dg w + 1))), .ref b]) (by rw [(nx_add rfl rfl)]) ?_
  refine me_callUv (As := [.int (nI (kk + (sb_dg w + 1)))]) (rest := []) hC hl.1 hM (c_J5_ensure_B l D tb X z0 n kO kT b v kk f M (kk + (sb_dg w + 1)) (fun U h => hKD U h) (by omega) (by omega) (hMv) (by omega) (by omega) hfit) (ku_J5_100 hw rfl rfl ⟨Nat.le_of_ble_eq_true rfl, Nat.le_of_ble_eq_true rfl⟩ (va_Nw.use (by decide +kernel) (hKD s hC.2.2.2.2.2.1.2).2.2.2.2.1)) rfl rfl (sb_o (by omega)) rfl (Nat.le_of_ble_eq_true rfl) dJ5_append_c97b9_14 ⟨Nat.le_of_ble_eq_true rfl, Nat.le_of_ble_eq_true rfl⟩ (fun H locs hM => ?_)
  refine lv_aload_n hx hb dJ5_append_c97b9_17 rfl (lv_at hl 2 rfl) ?_
  refine me_callUi (As := []) (rest := []) hC hl.1 hM (c_J5_isLatin1_aae02 l D tb X z0 (n + 1) kK kV b n 34 kk (va_cpy f (fun _ => 0) 0 0 16) M hKS (by omega)) (ku_J5_83 hw rfl rfl ⟨Nat.le_of_ble_eq_true rfl, Nat.le_of_ble_eq_true rfl⟩ (hw _ w_1213)) rfl rfl (sb_o (by omega)) rfl (Nat.le_of_ble_eq_true rfl) dJ5_append_c97b9_18 ⟨Nat.le_of_ble_eq_true rfl, Nat.le_of_ble_eq_true rfl⟩ (fun H locs hM => ?_)
  refine lv_if_eq (tgt := 37) hx hb dJ5_append_c97b9_21 (by decide) (fun c_1 => ?_) (fun c_1 => ?_)
  · exact absurd c_1 (by decide)
  · refine lv_iload_n hx hb dJ5_append_c97b9_24 rfl (lv_at hl 3 rfl) ?_
    refine lv_iload_n hx hb dJ5_append_c97b9_25 rfl (lv_at hl 0 rfl) ?_
    refine lv_aload_n hx hb dJ5_append_c97b9_26 rfl (lv_at hl 2 rfl) ?_
    refine fg_J5_15 hC hM (sb_o (by omega)) rfl dJ5_append_c97b9_27 ?_
    refine me_stk (st2 := [.ref n, .int (nI (kk + (sb_dg w + 1))), .int (-(nI w))]) (by rw [(nx_add rfl rfl)]) ?_
    refine me_callSi (As := [.int (-(nI w)), .int (nI (kk + (sb_dg w + 1))), .ref n]) (rest := []) hC hl.1 hM (c_J6_getChars_1 l D tb X z0 (n + 1) kO kT w (kk + (sb_dg w + 1)) n 34 (va_cpy f (fun _ => 0) 0 0 16) (sbV tb M b n 34 kk (va_cpy f (fun _ => 0) 0 0 16)) hKD sb_a hw9 (by omega) (by omega) (by omega) hw0) (ks_J5_248 hw rfl rfl ⟨Nat.le_of_ble_eq_true rfl, Nat.le_of_ble_eq_true rfl⟩) rfl rfl (Nat.le_of_ble_eq_true rfl) dJ5_append_c97b9_30 ⟨Nat.le_of_ble_eq_true rfl, Nat.le_of_ble_eq_true rfl⟩ (fun H locs hM => ?_)
    have hM := hM.eq sb_wf
    refine lv_pop hx hb dJ5_append_c97b9_33 rfl ?_
    refine lv_goto (tgt := 48) hx hb dJ5_append_c97b9_34 (by decide) ?_
    refine lv_aload_n hx hb dJ5_append_c97b9_48 rfl (lv_at hl 2 rfl) ?_
    refine lv_iload_n hx hb dJ5_append_c97b9_49 rfl (lv_at hl 0 rfl) ?_
    refine me_evi (y := nI (kk + (sb_dg w + 1))) (nx_add rfl rfl) ?_
    refine fp_J5_79 hC hM (sb_o (by omega)) (Nat.le_of_ble_eq_true rfl) (M2 := sbV tb M b n 34 (kk + (sb_dg w + 1)) (gsF w 1 (kk + (sb_dg w + 1)) (va_cpy f (fun _ => 0) 0 0 16))) (sb_wk (by omega)) dJ5_append_c97b9_50 (fun H locs hM => ?_)
    refine lv_aload_n hx hb dJ5_append_c97b9_53 rfl (lv_at hl 2 rfl) ?_
    exact me_aret hC hr (by first | exact Or.inl ⟨_, rfl⟩ | exact Or.inr ⟨_, rfl⟩) hlk hM (rfl) (rfl) dJ5_append_c97b9_54
set_option maxHeartbeats 4000000 in
theorem c_J5_appI1_A (l : Launch) (D : va_G) (tb : Nat → ClassId) (X : State → Prop) (z0 n : Nat) (kK kV : Nat → Nat) (kO kT : Nat) (b v cap kk w : Nat) (f : Nat → Int32) (M : me_M)  (hKS : ∀ U, X U → me_ks kK kV z0 U) (hKD : ∀ U, X U → me_kd kO kT z0 U) (hbv : b < v) (hk1 : kk + (sb_dg w + 1) ≤ cap) (hcap : cap ≤ 34) (hw9 : w < 1000000000) (hw0 : 0 < w) : Met l yJ5_append_c97b9 (.code yJ5_append_c97b9 cJ5_append_c97b9 4 (Option.some (Jvm.ClassFile.FieldType.object "java/lang/AbstractStringBuilder")) :: ws_all) ({ frames := 4, cells := 1, slots := 34, locals := 91 } : Room) (me_Pc [.ref b, .int (-(nI w))] D tb X z0 (sbV tb M b v cap kk f) n) (me_Qr D z0 b (sbV tb M b v cap (kk + (sb_dg w + 1)) (gsF w 1 (kk + (sb_dg w + 1)) f)) n) 1 34 (me_A z0) := by
  refine me_open (by decide) (Nat.le_of_ble_eq_true rfl) ?_
  intro p e s m args below meth c ls hC hr hlk hnm hM hl
  have hl : lv_has ls 4 [(0, .ref b), (1, .int (-(nI w)))] := hl
  have hx := hC.1
  have hb := hC.2.1
  have hw := hC.2.2.2.2.1
  have hdw := sb_dg_in w
  refine lv_aload_n hx hb dJ5_append_c97b9_0 rfl (lv_at hl 0 rfl) ?_
  refine fg_J5_79 hC hM (sb_o (by omega)) rfl dJ5_append_c97b9_1 ?_
  refine lv_istore_n (lv' := [(2, .int (nI kk)), (0, .ref b), (1, .int (-(nI w)))]) hx hb dJ5_append_c97b9_4 rfl hl (by decide) rfl (fun ls hl => ?_)
  refine lv_iload_n hx hb dJ5_append_c97b9_5 rfl (lv_at hl 0 rfl) ?_
  refine lv_iload_n hx hb dJ5_append_c97b9_6 rfl (lv_at hl 2 rfl) ?_
  refine me_callSi (As := [.int (-(nI w))]) (rest := [.int (nI kk)]) hC hl.1 hM (c_J6_stringSize_1 l D tb X z0 n (sbV tb M b v cap kk f) w hw9 hw0) (ks_J5_245 hw rfl rfl ⟨Nat.le_of_ble_eq_true rfl, Nat.le_of_ble_eq_true rfl⟩) rfl rfl (Nat.le_of_ble_eq_true rfl) dJ5_append_c97b9_7 ⟨Nat.le_of_ble_eq_true rfl, Nat.le_of_ble_eq_true rfl⟩ (fun H locs hM => ?_)
  refine lv_iadd hx hb dJ5_append_c97b9_10 ?_
  refine lv_istore_n (lv' := [(3, .int ((nI kk) + (nI (sb_dg w + 1)))), (2, .int (nI kk)), (0, .ref b), (1, .int (-(nI w)))]) hx hb dJ5_append_c97b9_11 rfl hl (by decide) rfl (fun ls hl => ?_)
  refine lv_aload_n hx hb dJ5_append_c97b9_12 rfl (lv_at hl 2 rfl) ?_
  refine lv_iload_n hx hb dJ5_append_c97b9_13 rfl (lv_at hl 0 rfl) ?_
  refine me_stk (st2 := [.int (nI (kk + (sb_dg w + 1))), .ref b]) (by rw [(nx_add rfl rfl)]) ?_
  refine me_callUv (As := [.int (nI (kk + (sb_dg w + 1)))]) (rest := []) hC hl.1 hM (c_J5_ensure_A l D tb X z0 n b v cap kk f M (kk + (sb_dg w + 1)) (by omega) (by omega) (by omega)) (ku_J5_100 hw rfl rfl ⟨Nat.le_of_ble_eq_true rfl, Nat.le_of_ble_eq_true rfl⟩ (va_Nw.use (by decide +kernel) (hKD s hC.2.2.2.2.2.1.2).2.2.2.2.1)) rfl rfl (sb_o (by omega)) rfl (Nat.le_of_ble_eq_true rfl) dJ5_append_c97b9_14 ⟨Nat.le_of_ble_eq_true rfl, Nat.le_of_ble_eq_true rfl⟩ (fun H locs hM => ?_)
  refine lv_aload_n hx hb dJ5_append_c97b9_17 rfl (lv_at hl 2 rfl) ?_
  refine me_callUi (As := []) (rest := []) hC hl.1 hM (c_J5_isLatin1_aae02 l D tb X z0 n kK kV b v cap kk f M hKS (by omega)) (ku_J5_83 hw rfl rfl ⟨Nat.le_of_ble_eq_true rfl, Nat.le_of_ble_eq_true rfl⟩ (hw _ w_1213)) rfl rfl (sb_o (by omega)) rfl (Nat.le_of_ble_eq_true rfl) dJ5_append_c97b9_18 ⟨Nat.le_of_ble_eq_true rfl, Nat.le_of_ble_eq_true rfl⟩ (fun H locs hM => ?_)
  refine lv_if_eq (tgt := 37) hx hb dJ5_append_c97b9_21 (by decide) (fun c_1 => ?_) (fun c_1 => ?_)
  · exact absurd c_1 (by decide)
  · refine lv_iload_n hx hb dJ5_append_c97b9_24 rfl (lv_at hl 3 rfl) ?_
    refine lv_iload_n hx hb dJ5_append_c97b9_25 rfl (lv_at hl 0 rfl) ?_
    refine lv_aload_n hx hb dJ5_append_c97b9_26 rfl (lv_at hl 2 rfl) ?_
    refine fg_J5_15 hC hM (sb_o (by omega)) rfl dJ5_append_c97b9_27 ?_
    refine me_stk (st2 := [.ref v, .int (nI (kk + (sb_dg w + 1))), .int (-(nI w))]) (by rw [(nx_add rfl rfl)]) ?_
    refine me_callSi (As := [.int (-(nI w)), .int (nI (kk + (sb_dg w + 1))), .ref v]) (rest := []) hC hl.1 hM (c_J6_getChars_1 l D tb X z0 n kO kT w (kk + (sb_dg w + 1)) v cap (f) (sbV tb M b v cap kk f) hKD sb_a hw9 (by omega) (by omega) (by omega) hw0) (ks_J5_248 hw rfl rfl ⟨Nat.le_of_ble_eq_true rfl, Nat.le_of_ble_eq_true rfl⟩) rfl rfl (Nat.le_of_ble_eq_true rfl) dJ5_append_c97b9_30 ⟨Nat.le_of_ble_eq_true rfl, Nat.le_of_ble_eq_true rfl⟩ (fun H locs hM => ?_)
    have hM := hM.eq sb_wf
    refine lv_pop hx hb dJ5_append_c97b9_33 rfl ?_
    refine lv_goto (tgt := 48) hx hb dJ5_append_c97b9_34 (by decide) ?_
    refine lv_aload_n hx hb dJ5_append_c97b9_48 rfl (lv_at hl 2 rfl) ?_
    refine lv_iload_n hx hb dJ5_append_c97b9_49 rfl (lv_at hl 0 rfl) ?_
    refine me_evi (y := nI (kk + (sb_dg w + 1))) (nx_add rfl rfl) ?_
    refine fp_J5_79 hC hM (sb_o (by omega)) (Nat.le_of_ble_eq_true rfl) (M2 := sbV tb M b v cap (kk + (sb_dg w + 1)) (gsF w 1 (kk + (sb_dg w + 1)) (f))) (sb_wk (by omega)) dJ5_append_c97b9_50 (fun H locs hM => ?_)
    refine lv_aload_n hx hb dJ5_append_c97b9_53 rfl (lv_at hl 2 rfl) ?_
    exact me_aret hC hr (by first | exact Or.inl ⟨_, rfl⟩ | exact Or.inr ⟨_, rfl⟩) hlk hM (rfl) (rfl) dJ5_append_c97b9_54
set_option maxHeartbeats 4000000 in
theorem c_J4_appI1_B (l : Launch) (D : va_G) (tb : Nat → ClassId) (X : State → Prop) (z0 n : Nat) (kK kV : Nat → Nat) (kO kT : Nat) (b v kk w : Nat) (f : Nat → Int32) (M : me_M)  (hKS : ∀ U, X U → me_ks kK kV z0 U) (hKD : ∀ U, X U → me_kd kO kT z0 U) (hbv : b < v) (hvn : v < n) (hMv : M v = none) (hfit : sb_Fit f) (hk0 : 16 < kk + (sb_dg w + 1)) (hk1 : kk + (sb_dg w + 1) ≤ 34) (hw9 : w < 1000000000) (hw0 : 0 < w) : Met l yJ4_append_bf812 (.code yJ4_append_bf812 cJ4_append_bf812 2 (Option.some (Jvm.ClassFile.FieldType.object "java/lang/StringBuilder")) :: ws_all) ({ frames := 5, cells := 1, slots := 34, locals := 114 } : Room) (me_Pc [.ref b, .int (-(nI w))] D tb X z0 (sbV tb M b v 16 kk f) n) (me_Qr D z0 b (sbV tb M b n 34 (kk + (sb_dg w + 1)) (gsF w 1 (kk + (sb_dg w + 1)) (va_cpy f (fun _ => 0) 0 0 16))) (n + 1)) 1 34 (me_A z0) := by
  refine me_open (by decide) (Nat.le_of_ble_eq_true rfl) ?_
  intro p e s m args below meth c ls hC hr hlk hnm hM hl
  have hl : lv_has ls 2 [(0, .ref b), (1, .int (-(nI w)))] := hl
  have hx := hC.1
  have hb := hC.2.1
  have hw := hC.2.2.2.2.1
  refine lv_aload_n hx hb dJ4_append_bf812_0 rfl (lv_at hl 0 rfl) ?_
  refine lv_iload_n hx hb dJ4_append_bf812_1 rfl (lv_at hl 1 rfl) ?_
  refine me_callSUr (As := [.int (-(nI w))]) (rest := []) hC hl.1 hM (c_J5_appI1_B l D tb X z0 n kK kV kO kT b v kk w f M hKS hKD hbv hvn hMv hfit hk0 hk1 hw9 hw0) (kz_J4_53 hw rfl rfl ⟨Nat.le_of_ble_eq_true rfl, Nat.le_of_ble_eq_true rfl⟩) rfl rfl (sb_o (by omega)) rfl (Nat.le_of_ble_eq_true rfl) dJ4_append_bf812_2 ⟨Nat.le_of_ble_eq_true rfl, Nat.le_of_ble_eq_true rfl⟩ (fun H locs hM => ?_)
  refine lv_pop hx hb dJ4_append_bf812_5 rfl ?_
  refine lv_aload_n hx hb dJ4_append_bf812_6 rfl (lv_at hl 0 rfl) ?_
  exact me_aret hC hr (by first | exact Or.inl ⟨_, rfl⟩ | exact Or.inr ⟨_, rfl⟩) hlk hM (rfl) (rfl) dJ4_append_bf812_7
set_option maxHeartbeats 4000000 in
theorem c_J4_appI1_A (l : Launch) (D : va_G) (tb : Nat → ClassId) (X : State → Prop) (z0 n : Nat) (kK kV : Nat → Nat) (kO kT : Nat) (b v cap kk w : Nat) (f : Nat → Int32) (M : me_M)  (hKS : ∀ U, X U → me_ks kK kV z0 U) (hKD : ∀ U, X U → me_kd kO kT z0 U) (hbv : b < v) (hk1 : kk + (sb_dg w + 1) ≤ cap) (hcap : cap ≤ 34) (hw9 : w < 1000000000) (hw0 : 0 < w) : Met l yJ4_append_bf812 (.code yJ4_append_bf812 cJ4_append_bf812 2 (Option.some (Jvm.ClassFile.FieldType.object "java/lang/StringBuilder")) :: ws_all) ({ frames := 5, cells := 1, slots := 34, locals := 114 } : Room) (me_Pc [.ref b, .int (-(nI w))] D tb X z0 (sbV tb M b v cap kk f) n) (me_Qr D z0 b (sbV tb M b v cap (kk + (sb_dg w + 1)) (gsF w 1 (kk + (sb_dg w + 1)) f)) n) 1 34 (me_A z0) := by
  refine me_open (by decide) (Nat.le_of_ble_eq_true rfl) ?_
  intro p e s m args below meth c ls hC hr hlk hnm hM hl
  have hl : lv_has ls 2 [(0, .ref b), (1, .int (-(nI w)))] := hl
  have hx := hC.1
  have hb := hC.2.1
  have hw := hC.2.2.2.2.1
  refine lv_aload_n hx hb dJ4_append_bf812_0 rfl (lv_at hl 0 rfl) ?_
  refine lv_iload_n hx hb dJ4_append_bf812_1 rfl (lv_at hl 1 rfl) ?_
  refine me_callSUr (As := [.int (-(nI w))]) (rest := []) hC hl.1 hM (c_J5_appI1_A l D tb X z0 n kK kV kO kT b v cap kk w f M hKS hKD hbv hk1 hcap hw9 hw0) (kz_J4_53 hw rfl rfl ⟨Nat.le_of_ble_eq_true rfl, Nat.le_of_ble_eq_true rfl⟩) rfl rfl (sb_o (by omega)) rfl (Nat.le_of_ble_eq_true rfl) dJ4_append_bf812_2 ⟨Nat.le_of_ble_eq_true rfl, Nat.le_of_ble_eq_true rfl⟩ (fun H locs hM => ?_)
  refine lv_pop hx hb dJ4_append_bf812_5 rfl ?_
  refine lv_aload_n hx hb dJ4_append_bf812_6 rfl (lv_at hl 0 rfl) ?_
  exact me_aret hC hr (by first | exact Or.inl ⟨_, rfl⟩ | exact Or.inr ⟨_, rfl⟩) hlk hM (rfl) (rfl) dJ4_append_bf812_7
theorem c_J4_appI1 (l : Launch) (D : va_G) (tb : Nat → ClassId) (X : State → Prop) (z0 : Nat) (kK kV : Nat → Nat) (kO kT N0 k w : Nat) (t : Nat → Int32) (M : me_M) (hKS : ∀ U, X U → me_ks kK kV z0 U) (hKD : ∀ U, X U → me_kd kO kT z0 U) (hfr : ∀ q, N0 ≤ q → M q = none) (hk : k + (sb_dg w + 1) ≤ 34) (hw9 : w < 1000000000) (hw0 : 0 < w) (hft : sb_Fit t) : Met l yJ4_append_bf812 (.code yJ4_append_bf812 cJ4_append_bf812 2 (Option.some (Jvm.ClassFile.FieldType.object "java/lang/StringBuilder")) :: ws_all) ({ frames := 5, cells := 1, slots := 34, locals := 114 } : Room) (me_Pc [.ref N0, .int (-(nI w))] D tb X z0 (sbT tb M N0 k t) (sn N0 k)) (me_Qr D z0 N0 (sbT tb M N0 (k + (sb_dg w + 1)) (gsF w 1 (k + (sb_dg w + 1)) t)) (sn N0 (k + (sb_dg w + 1)))) 1 34 (me_A z0) := by
  rcases (show k + (sb_dg w + 1) ≤ 16 ∨ (k ≤ 16 ∧ 16 < k + (sb_dg w + 1)) ∨ 16 < k by omega) with h | h | h
  · have e1 : sbT tb M N0 k t = sbV tb M N0 (N0 + 1) 16 k (tx k t) := sbT_lo (by omega)
    have e2 : sbT tb M N0 (k + (sb_dg w + 1)) (gsF w 1 (k + (sb_dg w + 1)) t) = sbV tb M N0 (N0 + 1) 16 (k + (sb_dg w + 1)) (gsF w 1 (k + (sb_dg w + 1)) (tx k t)) := by rw [sbT_lo h, gs_tx (by omega)]
    rw [e1, e2, sn_lo (by omega), sn_lo h]
    exact c_J4_appI1_A l D tb X z0 (N0 + 2) kK kV kO kT N0 (N0 + 1) 16 k w (tx k t) M hKS hKD (by omega) (by omega) (by omega) hw9 hw0
  · have e1 : sbT tb M N0 k t = sbV tb M N0 (N0 + 1) 16 k (tx k t) := sbT_lo h.1
    have e2 : sbT tb M N0 (k + (sb_dg w + 1)) (gsF w 1 (k + (sb_dg w + 1)) t) = sbV tb M N0 (N0 + 2) 34 (k + (sb_dg w + 1)) (gsF w 1 (k + (sb_dg w + 1)) (va_cpy (tx k t) (fun _ => 0) 0 0 16)) := by rw [sbT_hi h.2, tx_cpy h.1, gs_tx (by omega)]
    rw [e1, e2, sn_lo h.1, sn_hi h.2]
    exact c_J4_appI1_B l D tb X z0 (N0 + 2) kK kV kO kT N0 (N0 + 1) k w (tx k t) M hKS hKD (by omega) (by omega) (hfr _ (by omega)) (tx_fit hft) h.2 hk hw9 hw0
  · have e1 : sbT tb M N0 k t = sbV tb M N0 (N0 + 2) 34 k (tx k t) := sbT_hi h
    have e2 : sbT tb M N0 (k + (sb_dg w + 1)) (gsF w 1 (k + (sb_dg w + 1)) t) = sbV tb M N0 (N0 + 2) 34 (k + (sb_dg w + 1)) (gsF w 1 (k + (sb_dg w + 1)) (tx k t)) := by rw [sbT_hi (by omega), gs_tx (by omega)]
    rw [e1, e2, sn_hi h, sn_hi (by omega)]
    exact c_J4_appI1_A l D tb X z0 (N0 + 3) kK kV kO kT N0 (N0 + 2) 34 k w (tx k t) M hKS hKD (by omega) (by omega) (by omega) hw9 hw0
set_option maxHeartbeats 4000000 in
theorem c_J5_length_8abf5 (l : Launch) (D : va_G) (tb : Nat → ClassId) (X : State → Prop) (z0 n : Nat) (b v cap k : Nat) (f : Nat → Int32) (M : me_M)  (hbv : b < v) : Met l yJ5_length_8abf5 (.code yJ5_length_8abf5 cJ5_length_8abf5 1 (some .int) :: ws_all) ({ frames := 0, cells := 0, slots := 0, locals := 0 } : Room) (me_Pc [.ref b] D tb X z0 (sbV tb M b v cap k f) n) (me_Qi D z0 (nI k) (sbV tb M b v cap k f) n) 0 0 (me_A z0) := by
  refine me_open (by decide) (Nat.le_of_ble_eq_true rfl) ?_
  intro p e s m args below meth c ls hC hr hlk hnm hM hl
  have hl : lv_has ls 1 [(0, .ref b)] := hl
  have hx := hC.1
  have hb := hC.2.1
  have hw := hC.2.2.2.2.1
  refine lv_aload_n hx hb dJ5_length_8abf5_0 rfl (lv_at hl 0 rfl) ?_
  refine fg_J5_79 hC hM (sb_o (by omega)) rfl dJ5_length_8abf5_1 ?_
  exact me_iret hC hr hlk hM (by first | rfl | simp []) (rfl) (rfl) dJ5_length_8abf5_4
set_option maxHeartbeats 4000000 in
theorem c_J4_length_8abf5 (l : Launch) (D : va_G) (tb : Nat → ClassId) (X : State → Prop) (z0 n : Nat) (b v cap k : Nat) (f : Nat → Int32) (M : me_M)  (hbv : b < v) : Met l yJ4_length_8abf5 (.code yJ4_length_8abf5 cJ4_length_8abf5 1 (some .int) :: ws_all) ({ frames := 1, cells := 0, slots := 0, locals := 20 } : Room) (me_Pc [.ref b] D tb X z0 (sbV tb M b v cap k f) n) (me_Qi D z0 (nI k) (sbV tb M b v cap k f) n) 0 0 (me_A z0) := by
  refine me_open (by decide) (Nat.le_of_ble_eq_true rfl) ?_
  intro p e s m args below meth c ls hC hr hlk hnm hM hl
  have hl : lv_has ls 1 [(0, .ref b)] := hl
  have hx := hC.1
  have hb := hC.2.1
  have hw := hC.2.2.2.2.1
  refine lv_aload_n hx hb dJ4_length_8abf5_0 rfl (lv_at hl 0 rfl) ?_
  refine me_callSUi (As := []) (rest := []) hC hl.1 hM (c_J5_length_8abf5 l D tb X z0 n b v cap k f M (by omega)) (kz_J4_343 hw rfl rfl ⟨Nat.le_of_ble_eq_true rfl, Nat.le_of_ble_eq_true rfl⟩) rfl rfl (sb_o (by omega)) rfl (Nat.le_of_ble_eq_true rfl) dJ4_length_8abf5_1 ⟨Nat.le_of_ble_eq_true rfl, Nat.le_of_ble_eq_true rfl⟩ (fun H locs hM => ?_)
  exact me_iret hC hr hlk hM (by first | rfl | simp []) (rfl) (rfl) dJ4_length_8abf5_4
set_option maxHeartbeats 4000000 in
theorem c_J5_charAt_5068e (l : Launch) (D : va_G) (tb : Nat → ClassId) (X : State → Prop) (z0 n : Nat) (kK kV : Nat → Nat) (b v cap k : Nat) (f : Nat → Int32) (M : me_M) (i c9 : Nat)  (hKS : ∀ U, X U → me_ks kK kV z0 U) (hbv : b < v) (hi : i < k) (hkc : k ≤ cap) (hcap : cap ≤ 34) (hc9 : c9 < 128) (hfi : f i = sb_b c9) : Met l yJ5_charAt_5068e (.code yJ5_charAt_5068e cJ5_charAt_5068e 5 (some .char) :: ws_all) ({ frames := 2, cells := 0, slots := 0, locals := 43 } : Room) (me_Pc [.ref b, .int (nI i)] D tb X z0 (sbV tb M b v cap k f) n) (me_Qi D z0 (nI c9) (sbV tb M b v cap k f) n) 0 0 (me_A z0) := by
  refine me_open (by decide) (Nat.le_of_ble_eq_true rfl) ?_
  intro p e s m args below meth c ls hC hr hlk hnm hM hl
  have hl : lv_has ls 5 [(0, .ref b), (1, .int (nI i))] := hl
  have hx := hC.1
  have hb := hC.2.1
  have hw := hC.2.2.2.2.1
  refine lv_aload_n hx hb dJ5_charAt_5068e_0 rfl (lv_at hl 0 rfl) ?_
  refine fg_J5_22 hC hM (sb_o (by omega)) rfl dJ5_charAt_5068e_1 ?_
  refine lv_istore_n (lv' := [(2, .int 0), (0, .ref b), (1, .int (nI i))]) hx hb dJ5_charAt_5068e_4 rfl hl (by decide) rfl (fun ls hl => ?_)
  refine lv_aload_n hx hb dJ5_charAt_5068e_5 rfl (lv_at hl 1 rfl) ?_
  refine fg_J5_15 hC hM (sb_o (by omega)) rfl dJ5_charAt_5068e_6 ?_
  refine lv_astore_n (lv' := [(3, .ref v), (2, .int 0), (0, .ref b), (1, .int (nI i))]) hx hb dJ5_charAt_5068e_9 rfl hl (by decide) rfl (fun ls hl => ?_)
  refine lv_aload_n hx hb dJ5_charAt_5068e_10 rfl (lv_at hl 2 rfl) ?_
  refine fg_J5_79 hC hM (sb_o (by omega)) rfl dJ5_charAt_5068e_11 ?_
  refine lv_aload_n hx hb dJ5_charAt_5068e_14 rfl (lv_at hl 0 rfl) ?_
  refine me_alen (t0 := 1) hC hM sb_a rfl dJ5_charAt_5068e_15 ?_
  refine lv_iload_n hx hb dJ5_charAt_5068e_16 rfl (lv_at hl 1 rfl) ?_
  refine lv_ishr hx hb dJ5_charAt_5068e_17 ?_
  refine me_evi (y := nI cap) (sb_shr0 _) ?_
  refine va_mmin hx hb (hC.2.2.1.trans hl.1.symm) hC.2.2.2.1 (hw _ w_1292) (hw _ w_409) (hw _ w_13) (hw _ w_410) (Nat.le_of_ble_eq_true rfl) (Nat.le_of_ble_eq_true rfl) (by first | omega | exact Nat.le_of_ble_eq_true rfl) (by first | omega | exact Nat.le_of_ble_eq_true rfl) dJ5_charAt_5068e_18 ?_
  refine me_evi (y := nI k) (if_neg (fun z => absurd ((nI_ltI (by omega) (by omega)).mp z) (by omega))) ?_
  refine lv_istore (lv' := [(4, .int (nI k)), (3, .ref v), (2, .int 0), (0, .ref b), (1, .int (nI i))]) hx hb dJ5_charAt_5068e_21 hl (by decide) rfl (fun ls hl => ?_)
  refine lv_iload_n hx hb dJ5_charAt_5068e_23 rfl (lv_at hl 4 rfl) ?_
  refine lv_iload hx hb dJ5_charAt_5068e_24 (lv_at hl 0 rfl) ?_
  refine me_callSv (As := [.int (nI i), .int (nI k)]) (rest := []) hC hl.1 hM (c_J0_checkIndex_df160 l D tb X z0 n kK kV (sbV tb M b v cap k f) i k hKS (by omega) (by omega)) (ks_J5_144 hw rfl rfl ⟨Nat.le_of_ble_eq_true rfl, Nat.le_of_ble_eq_true rfl⟩) rfl rfl (Nat.le_of_ble_eq_true rfl) dJ5_charAt_5068e_26 ⟨Nat.le_of_ble_eq_true rfl, Nat.le_of_ble_eq_true rfl⟩ (fun H locs hM => ?_)
  refine lv_iload_n hx hb dJ5_charAt_5068e_29 rfl (lv_at hl 2 rfl) ?_
  refine lv_if_ne (tgt := 42) hx hb dJ5_charAt_5068e_30 (by decide) (fun c_1 => ?_) (fun c_1 => ?_)
  · exact absurd c_1 (by decide)
  · refine lv_aload_n hx hb dJ5_charAt_5068e_33 rfl (lv_at hl 1 rfl) ?_
    refine lv_iload_n hx hb dJ5_charAt_5068e_34 rfl (lv_at hl 4 rfl) ?_
    refine me_bald (k := i) hC hM sb_a rfl (by omega) (by first | decide | omega) dJ5_charAt_5068e_35 ?_
    refine me_evi (y := sb_b c9) hfi ?_
    refine lv_sipush (v := 255) hx hb dJ5_charAt_5068e_36 (by decide) ?_
    refine lv_iand hx hb dJ5_charAt_5068e_39 ?_
    refine lv_i2c (v := (((sb_b c9) &&& 255).toUInt32 % 65536).toInt32) hx hb dJ5_charAt_5068e_40 rfl ?_
    exact me_tret hC hr hlk hM (by rw [(sb_byte c9 (by omega)).1, (sb_byte c9 (by omega)).2.1]) (by rw [(sb_byte c9 (by omega)).1, (sb_byte c9 (by omega)).2.1]; exact sb_nar c9 hc9) (rfl) (rfl) dJ5_charAt_5068e_41
set_option maxHeartbeats 4000000 in
theorem c_J4_charAt_5068e (l : Launch) (D : va_G) (tb : Nat → ClassId) (X : State → Prop) (z0 n : Nat) (kK kV : Nat → Nat) (b v cap k : Nat) (f : Nat → Int32) (M : me_M) (i c9 : Nat)  (hKS : ∀ U, X U → me_ks kK kV z0 U) (hbv : b < v) (hi : i < k) (hkc : k ≤ cap) (hcap : cap ≤ 34) (hc9 : c9 < 128) (hfi : f i = sb_b c9) : Met l yJ4_charAt_5068e (.code yJ4_charAt_5068e cJ4_charAt_5068e 2 (some .char) :: ws_all) ({ frames := 3, cells := 0, slots := 0, locals := 67 } : Room) (me_Pc [.ref b, .int (nI i)] D tb X z0 (sbV tb M b v cap k f) n) (me_Qi D z0 (nI c9) (sbV tb M b v cap k f) n) 0 0 (me_A z0) := by
  refine me_open (by decide) (Nat.le_of_ble_eq_true rfl) ?_
  intro p e s m args below meth c ls hC hr hlk hnm hM hl
  have hl : lv_has ls 2 [(0, .ref b), (1, .int (nI i))] := hl
  have hx := hC.1
  have hb := hC.2.1
  have hw := hC.2.2.2.2.1
  refine lv_aload_n hx hb dJ4_charAt_5068e_0 rfl (lv_at hl 0 rfl) ?_
  refine lv_iload_n hx hb dJ4_charAt_5068e_1 rfl (lv_at hl 1 rfl) ?_
  refine me_callSUi (As := [.int (nI i)]) (rest := []) hC hl.1 hM (c_J5_charAt_5068e l D tb X z0 n kK kV b v cap k f M i c9 hKS hbv hi hkc hcap hc9 hfi) (kz_J4_329 hw rfl rfl ⟨Nat.le_of_ble_eq_true rfl, Nat.le_of_ble_eq_true rfl⟩) rfl rfl (sb_o (by omega)) rfl (Nat.le_of_ble_eq_true rfl) dJ4_charAt_5068e_2 ⟨Nat.le_of_ble_eq_true rfl, Nat.le_of_ble_eq_true rfl⟩ (fun H locs hM => ?_)
  exact me_tret hC hr hlk hM (by first | rfl | simp []) (sb_nar c9 hc9) (rfl) (rfl) dJ4_charAt_5068e_5
