set_option maxHeartbeats 4000000 in
theorem c_J5_appI_B (l : Launch) (D : va_G) (tb : Nat → ClassId) (X : State → Prop) (z0 n : Nat) (kK kV : Nat → Nat) (kO kT : Nat) (b v cap k w : Nat) (f : Nat → Int32) (M : me_M)  (hKS : ∀ U, X U → me_ks kK kV z0 U) (hKD : ∀ U, X U → me_kd kO kT z0 U) (hbv : b < v) (hvn : v < n) (hMv : M v = none) (hfit : sb_Fit f) (hk0 : cap < k + (sb_dg w + 0)) (hk1 : k + (sb_dg w + 0) ≤ 2 * cap + 2) (hcap : cap ≤ 98) (hw9 : w < 1000000000) : Met l yJ5_append_c97b9 (.code yJ5_append_c97b9 cJ5_append_c97b9 4 (Option.some (Jvm.ClassFile.FieldType.object "java/lang/AbstractStringBuilder")) :: ws_all) ({ frames := 4, cells := 1, slots := 198, locals := 91 } : Room) (me_Pc [.ref b, .int (nI w)] D tb X z0 (sbV tb M b v cap k f) n) (me_Qr D z0 b (sbV tb M b n (2 * cap + 2) (k + (sb_dg w + 0)) (gsF w 0 (k + (sb_dg w + 0)) (va_cpy f (fun _ => 0) 0 0 cap))) (n + 1)) 1 198 (me_A z0) := by
  refine me_open (by decide) (Nat.le_of_ble_eq_true rfl) ?_
  intro p e s m args below meth c ls hC hr hlk hnm hM hl
  have hl : lv_has ls 4 [(0, .ref b), (1, .int (nI w))] := hl
  have hx := hC.1
  have hb := hC.2.1
  have hw := hC.2.2.2.2.1
  have hdw := sb_dg_in w
  refine lv_aload_n hx hb dJ5_append_c97b9_0 rfl (lv_at hl 0 rfl) ?_
  refine fg_J5_79 hC hM (sb_o (by omega)) rfl dJ5_append_c97b9_1 ?_
  refine lv_istore_n (lv' := [(2, .int (nI k)), (0, .ref b), (1, .int (nI w))]) hx hb dJ5_append_c97b9_4 rfl hl (by decide) rfl (fun ls hl => ?_)
  refine lv_iload_n hx hb dJ5_append_c97b9_5 rfl (lv_at hl 0 rfl) ?_
  refine lv_iload_n hx hb dJ5_append_c97b9_6 rfl (lv_at hl 2 rfl) ?_
  refine me_callSi (As := [.int (nI w)]) (rest := [.int (nI k)]) hC hl.1 hM (c_J6_stringSize_0 l D tb X z0 n (sbV tb M b v cap k f) w hw9) (ks_J5_245 hw rfl rfl ⟨Nat.le_of_ble_eq_true rfl, Nat.le_of_ble_eq_true rfl⟩) rfl rfl (Nat.le_of_ble_eq_true rfl) dJ5_append_c97b9_7 ⟨Nat.le_of_ble_eq_true rfl, Nat.le_of_ble_eq_true rfl⟩ (fun H locs hM => ?_)
  refine lv_iadd hx hb dJ5_append_c97b9_10 ?_
  refine lv_istore_n (lv' := [(3, .int ((nI k) + (nI (sb_dg w + 0)))), (2, .int (nI k)), (0, .ref b), (1, .int (nI w))]) hx hb dJ5_append_c97b9_11 rfl hl (by decide) rfl (fun ls hl => ?_)
  refine lv_aload_n hx hb dJ5_append_c97b9_12 rfl (lv_at hl 2 rfl) ?_
  refine lv_iload_n hx hb dJ5_append_c97b9_13 rfl (lv_at hl 0 rfl) ?_
  refine me_stk (st2 := [.int (nI (k + (sb_dg w + 0))), .ref b]) (by rw [(nx_add rfl rfl)]) ?_
  refine me_callUv (As := [.int (nI (k + (sb_dg w + 0)))]) (rest := []) hC hl.1 hM (c_J5_ensure_B l D tb X z0 n kO kT b v cap k f M (k + (sb_dg w + 0)) (fun U h => hKD U h) (by omega) (by omega) (hMv) (by omega) (by omega) (by omega) hfit) (ku_J5_100 hw rfl rfl ⟨Nat.le_of_ble_eq_true rfl, Nat.le_of_ble_eq_true rfl⟩ (va_Nw.use (by decide +kernel) (hKD s hC.2.2.2.2.2.1.2).2.2.2.2.1)) rfl rfl (sb_o (by omega)) rfl (Nat.le_of_ble_eq_true rfl) dJ5_append_c97b9_14 ⟨Nat.le_of_ble_eq_true rfl, Nat.le_of_ble_eq_true rfl⟩ (fun H locs hM => ?_)
  refine lv_aload_n hx hb dJ5_append_c97b9_17 rfl (lv_at hl 2 rfl) ?_
  refine me_callUi (As := []) (rest := []) hC hl.1 hM (c_J5_isLatin1_aae02 l D tb X z0 (n + 1) kK kV b n (2 * cap + 2) k (va_cpy f (fun _ => 0) 0 0 cap) M hKS (by omega)) (ku_J5_83 hw rfl rfl ⟨Nat.le_of_ble_eq_true rfl, Nat.le_of_ble_eq_true rfl⟩ (hw _ w_926)) rfl rfl (sb_o (by omega)) rfl (Nat.le_of_ble_eq_true rfl) dJ5_append_c97b9_18 ⟨Nat.le_of_ble_eq_true rfl, Nat.le_of_ble_eq_true rfl⟩ (fun H locs hM => ?_)
  refine lv_if_eq (tgt := 37) hx hb dJ5_append_c97b9_21 (by decide) (fun c_1 => ?_) (fun c_1 => ?_)
  · exact absurd c_1 (by decide)
  · refine lv_iload_n hx hb dJ5_append_c97b9_24 rfl (lv_at hl 3 rfl) ?_
    refine lv_iload_n hx hb dJ5_append_c97b9_25 rfl (lv_at hl 0 rfl) ?_
    refine lv_aload_n hx hb dJ5_append_c97b9_26 rfl (lv_at hl 2 rfl) ?_
    refine fg_J5_15 hC hM (sb_o (by omega)) rfl dJ5_append_c97b9_27 ?_
    refine me_stk (st2 := [.ref n, .int (nI (k + (sb_dg w + 0))), .int (nI w)]) (by rw [(nx_add rfl rfl)]) ?_
    refine me_callSi (As := [.int (nI w), .int (nI (k + (sb_dg w + 0))), .ref n]) (rest := []) hC hl.1 hM (c_J6_getChars_0 l D tb X z0 (n + 1) kO kT w (k + (sb_dg w + 0)) n (2 * cap + 2) (va_cpy f (fun _ => 0) 0 0 cap) (sbV tb M b n (2 * cap + 2) k (va_cpy f (fun _ => 0) 0 0 cap)) hKD sb_a hw9 (by omega) (by omega) (by omega)) (ks_J5_248 hw rfl rfl ⟨Nat.le_of_ble_eq_true rfl, Nat.le_of_ble_eq_true rfl⟩) rfl rfl (Nat.le_of_ble_eq_true rfl) dJ5_append_c97b9_30 ⟨Nat.le_of_ble_eq_true rfl, Nat.le_of_ble_eq_true rfl⟩ (fun H locs hM => ?_)
    have hM := hM.eq sb_wf
    refine lv_pop hx hb dJ5_append_c97b9_33 rfl ?_
    refine lv_goto (tgt := 48) hx hb dJ5_append_c97b9_34 (by decide) ?_
    refine lv_aload_n hx hb dJ5_append_c97b9_48 rfl (lv_at hl 2 rfl) ?_
    refine lv_iload_n hx hb dJ5_append_c97b9_49 rfl (lv_at hl 0 rfl) ?_
    refine me_evi (y := nI (k + (sb_dg w + 0))) (nx_add rfl rfl) ?_
    refine fp_J5_79 hC hM (sb_o (by omega)) (Nat.le_of_ble_eq_true rfl) (M2 := sbV tb M b n (2 * cap + 2) (k + (sb_dg w + 0)) (gsF w 0 (k + (sb_dg w + 0)) (va_cpy f (fun _ => 0) 0 0 cap))) (sb_wk (by omega)) dJ5_append_c97b9_50 (fun H locs hM => ?_)
    refine lv_aload_n hx hb dJ5_append_c97b9_53 rfl (lv_at hl 2 rfl) ?_
    exact me_aret hC hr (by first | exact Or.inl ⟨_, rfl⟩ | exact Or.inr ⟨_, rfl⟩) hlk hM (rfl) (rfl) dJ5_append_c97b9_54
set_option maxHeartbeats 4000000 in
theorem c_J5_appI_A (l : Launch) (D : va_G) (tb : Nat → ClassId) (X : State → Prop) (z0 n : Nat) (kK kV : Nat → Nat) (kO kT : Nat) (b v cap k w : Nat) (f : Nat → Int32) (M : me_M)  (hKS : ∀ U, X U → me_ks kK kV z0 U) (hKD : ∀ U, X U → me_kd kO kT z0 U) (hbv : b < v) (hk1 : k + (sb_dg w + 0) ≤ cap) (hcap : cap ≤ 198) (hw9 : w < 1000000000) : Met l yJ5_append_c97b9 (.code yJ5_append_c97b9 cJ5_append_c97b9 4 (Option.some (Jvm.ClassFile.FieldType.object "java/lang/AbstractStringBuilder")) :: ws_all) ({ frames := 4, cells := 1, slots := 198, locals := 91 } : Room) (me_Pc [.ref b, .int (nI w)] D tb X z0 (sbV tb M b v cap k f) n) (me_Qr D z0 b (sbV tb M b v cap (k + (sb_dg w + 0)) (gsF w 0 (k + (sb_dg w + 0)) f)) n) 1 198 (me_A z0) := by
  refine me_open (by decide) (Nat.le_of_ble_eq_true rfl) ?_
  intro p e s m args below meth c ls hC hr hlk hnm hM hl
  have hl : lv_has ls 4 [(0, .ref b), (1, .int (nI w))] := hl
  have hx := hC.1
  have hb := hC.2.1
  have hw := hC.2.2.2.2.1
  have hdw := sb_dg_in w
  refine lv_aload_n hx hb dJ5_append_c97b9_0 rfl (lv_at hl 0 rfl) ?_
  refine fg_J5_79 hC hM (sb_o (by omega)) rfl dJ5_append_c97b9_1 ?_
  refine lv_istore_n (lv' := [(2, .int (nI k)), (0, .ref b), (1, .int (nI w))]) hx hb dJ5_append_c97b9_4 rfl hl (by decide) rfl (fun ls hl => ?_)
  refine lv_iload_n hx hb dJ5_append_c97b9_5 rfl (lv_at hl 0 rfl) ?_
  refine lv_iload_n hx hb dJ5_append_c97b9_6 rfl (lv_at hl 2 rfl) ?_
  refine me_callSi (As := [.int (nI w)]) (rest := [.int (nI k)]) hC hl.1 hM (c_J6_stringSize_0 l D tb X z0 n (sbV tb M b v cap k f) w hw9) (ks_J5_245 hw rfl rfl ⟨Nat.le_of_ble_eq_true rfl, Nat.le_of_ble_eq_true rfl⟩) rfl rfl (Nat.le_of_ble_eq_true rfl) dJ5_append_c97b9_7 ⟨Nat.le_of_ble_eq_true rfl, Nat.le_of_ble_eq_true rfl⟩ (fun H locs hM => ?_)
  refine lv_iadd hx hb dJ5_append_c97b9_10 ?_
  refine lv_istore_n (lv' := [(3, .int ((nI k) + (nI (sb_dg w + 0)))), (2, .int (nI k)), (0, .ref b), (1, .int (nI w))]) hx hb dJ5_append_c97b9_11 rfl hl (by decide) rfl (fun ls hl => ?_)
  refine lv_aload_n hx hb dJ5_append_c97b9_12 rfl (lv_at hl 2 rfl) ?_
  refine lv_iload_n hx hb dJ5_append_c97b9_13 rfl (lv_at hl 0 rfl) ?_
  refine me_stk (st2 := [.int (nI (k + (sb_dg w + 0))), .ref b]) (by rw [(nx_add rfl rfl)]) ?_
  refine me_callUv (As := [.int (nI (k + (sb_dg w + 0)))]) (rest := []) hC hl.1 hM (c_J5_ensure_A l D tb X z0 n b v cap k f M (k + (sb_dg w + 0)) (by omega) (by omega) (by omega)) (ku_J5_100 hw rfl rfl ⟨Nat.le_of_ble_eq_true rfl, Nat.le_of_ble_eq_true rfl⟩ (va_Nw.use (by decide +kernel) (hKD s hC.2.2.2.2.2.1.2).2.2.2.2.1)) rfl rfl (sb_o (by omega)) rfl (Nat.le_of_ble_eq_true rfl) dJ5_append_c97b9_14 ⟨Nat.le_of_ble_eq_true rfl, Nat.le_of_ble_eq_true rfl⟩ (fun H locs hM => ?_)
  refine lv_aload_n hx hb dJ5_append_c97b9_17 rfl (lv_at hl 2 rfl) ?_
  refine me_callUi (As := []) (rest := []) hC hl.1 hM (c_J5_isLatin1_aae02 l D tb X z0 n kK kV b v cap k f M hKS (by omega)) (ku_J5_83 hw rfl rfl ⟨Nat.le_of_ble_eq_true rfl, Nat.le_of_ble_eq_true rfl⟩ (hw _ w_926)) rfl rfl (sb_o (by omega)) rfl (Nat.le_of_ble_eq_true rfl) dJ5_append_c97b9_18 ⟨Nat.le_of_ble_eq_true rfl, Nat.le_of_ble_eq_true rfl⟩ (fun H locs hM => ?_)
  refine lv_if_eq (tgt := 37) hx hb dJ5_append_c97b9_21 (by decide) (fun c_1 => ?_) (fun c_1 => ?_)
  · exact absurd c_1 (by decide)
  · refine lv_iload_n hx hb dJ5_append_c97b9_24 rfl (lv_at hl 3 rfl) ?_
    refine lv_iload_n hx hb dJ5_append_c97b9_25 rfl (lv_at hl 0 rfl) ?_
    refine lv_aload_n hx hb dJ5_append_c97b9_26 rfl (lv_at hl 2 rfl) ?_
    refine fg_J5_15 hC hM (sb_o (by omega)) rfl dJ5_append_c97b9_27 ?_
    refine me_stk (st2 := [.ref v, .int (nI (k + (sb_dg w + 0))), .int (nI w)]) (by rw [(nx_add rfl rfl)]) ?_
    refine me_callSi (As := [.int (nI w), .int (nI (k + (sb_dg w + 0))), .ref v]) (rest := []) hC hl.1 hM (c_J6_getChars_0 l D tb X z0 n kO kT w (k + (sb_dg w + 0)) v cap (f) (sbV tb M b v cap k f) hKD sb_a hw9 (by omega) (by omega) (by omega)) (ks_J5_248 hw rfl rfl ⟨Nat.le_of_ble_eq_true rfl, Nat.le_of_ble_eq_true rfl⟩) rfl rfl (Nat.le_of_ble_eq_true rfl) dJ5_append_c97b9_30 ⟨Nat.le_of_ble_eq_true rfl, Nat.le_of_ble_eq_true rfl⟩ (fun H locs hM => ?_)
    have hM := hM.eq sb_wf
    refine lv_pop hx hb dJ5_append_c97b9_33 rfl ?_
    refine lv_goto (tgt := 48) hx hb dJ5_append_c97b9_34 (by decide) ?_
    refine lv_aload_n hx hb dJ5_append_c97b9_48 rfl (lv_at hl 2 rfl) ?_
    refine lv_iload_n hx hb dJ5_append_c97b9_49 rfl (lv_at hl 0 rfl) ?_
    refine me_evi (y := nI (k + (sb_dg w + 0))) (nx_add rfl rfl) ?_
    refine fp_J5_79 hC hM (sb_o (by omega)) (Nat.le_of_ble_eq_true rfl) (M2 := sbV tb M b v cap (k + (sb_dg w + 0)) (gsF w 0 (k + (sb_dg w + 0)) (f))) (sb_wk (by omega)) dJ5_append_c97b9_50 (fun H locs hM => ?_)
    refine lv_aload_n hx hb dJ5_append_c97b9_53 rfl (lv_at hl 2 rfl) ?_
    exact me_aret hC hr (by first | exact Or.inl ⟨_, rfl⟩ | exact Or.inr ⟨_, rfl⟩) hlk hM (rfl) (rfl) dJ5_append_c97b9_54
set_option maxHeartbeats 4000000 in
theorem c_J4_appI_B (l : Launch) (D : va_G) (tb : Nat → ClassId) (X : State → Prop) (z0 n : Nat) (kK kV : Nat → Nat) (kO kT : Nat) (b v cap k w : Nat) (f : Nat → Int32) (M : me_M)  (hKS : ∀ U, X U → me_ks kK kV z0 U) (hKD : ∀ U, X U → me_kd kO kT z0 U) (hbv : b < v) (hvn : v < n) (hMv : M v = none) (hfit : sb_Fit f) (hk0 : cap < k + (sb_dg w + 0)) (hk1 : k + (sb_dg w + 0) ≤ 2 * cap + 2) (hcap : cap ≤ 98) (hw9 : w < 1000000000) : Met l yJ4_append_bf812 (.code yJ4_append_bf812 cJ4_append_bf812 2 (Option.some (Jvm.ClassFile.FieldType.object "java/lang/StringBuilder")) :: ws_all) ({ frames := 5, cells := 1, slots := 198, locals := 114 } : Room) (me_Pc [.ref b, .int (nI w)] D tb X z0 (sbV tb M b v cap k f) n) (me_Qr D z0 b (sbV tb M b n (2 * cap + 2) (k + (sb_dg w + 0)) (gsF w 0 (k + (sb_dg w + 0)) (va_cpy f (fun _ => 0) 0 0 cap))) (n + 1)) 1 198 (me_A z0) := by
  refine me_open (by decide) (Nat.le_of_ble_eq_true rfl) ?_
  intro p e s m args below meth c ls hC hr hlk hnm hM hl
  have hl : lv_has ls 2 [(0, .ref b), (1, .int (nI w))] := hl
  have hx := hC.1
  have hb := hC.2.1
  have hw := hC.2.2.2.2.1
  refine lv_aload_n hx hb dJ4_append_bf812_0 rfl (lv_at hl 0 rfl) ?_
  refine lv_iload_n hx hb dJ4_append_bf812_1 rfl (lv_at hl 1 rfl) ?_
  refine me_callSUr (As := [.int (nI w)]) (rest := []) hC hl.1 hM (c_J5_appI_B l D tb X z0 n kK kV kO kT b v cap k w f M hKS hKD hbv hvn hMv hfit hk0 hk1 hcap hw9) (kz_J4_53 hw rfl rfl ⟨Nat.le_of_ble_eq_true rfl, Nat.le_of_ble_eq_true rfl⟩) rfl rfl (sb_o (by omega)) rfl (Nat.le_of_ble_eq_true rfl) dJ4_append_bf812_2 ⟨Nat.le_of_ble_eq_true rfl, Nat.le_of_ble_eq_true rfl⟩ (fun H locs hM => ?_)
  refine lv_pop hx hb dJ4_append_bf812_5 rfl ?_
  refine lv_aload_n hx hb dJ4_append_bf812_6 rfl (lv_at hl 0 rfl) ?_
  exact me_aret hC hr (by first | exact Or.inl ⟨_, rfl⟩ | exact Or.inr ⟨_, rfl⟩) hlk hM (rfl) (rfl) dJ4_append_bf812_7
set_option maxHeartbeats 4000000 in
theorem c_J4_appI_A (l : Launch) (D : va_G) (tb : Nat → ClassId) (X : State → Prop) (z0 n : Nat) (kK kV : Nat → Nat) (kO kT : Nat) (b v cap k w : Nat) (f : Nat → Int32) (M : me_M)  (hKS : ∀ U, X U → me_ks kK kV z0 U) (hKD : ∀ U, X U → me_kd kO kT z0 U) (hbv : b < v) (hk1 : k + (sb_dg w + 0) ≤ cap) (hcap : cap ≤ 198) (hw9 : w < 1000000000) : Met l yJ4_append_bf812 (.code yJ4_append_bf812 cJ4_append_bf812 2 (Option.some (Jvm.ClassFile.FieldType.object "java/lang/StringBuilder")) :: ws_all) ({ frames := 5, cells := 1, slots := 198, locals := 114 } : Room) (me_Pc [.ref b, .int (nI w)] D tb X z0 (sbV tb M b v cap k f) n) (me_Qr D z0 b (sbV tb M b v cap (k + (sb_dg w + 0)) (gsF w 0 (k + (sb_dg w + 0)) f)) n) 1 198 (me_A z0) := by
  refine me_open (by decide) (Nat.le_of_ble_eq_true rfl) ?_
  intro p e s m args below meth c ls hC hr hlk hnm hM hl
  have hl : lv_has ls 2 [(0, .ref b), (1, .int (nI w))] := hl
  have hx := hC.1
  have hb := hC.2.1
  have hw := hC.2.2.2.2.1
  refine lv_aload_n hx hb dJ4_append_bf812_0 rfl (lv_at hl 0 rfl) ?_
  refine lv_iload_n hx hb dJ4_append_bf812_1 rfl (lv_at hl 1 rfl) ?_
  refine me_callSUr (As := [.int (nI w)]) (rest := []) hC hl.1 hM (c_J5_appI_A l D tb X z0 n kK kV kO kT b v cap k w f M hKS hKD hbv hk1 hcap hw9) (kz_J4_53 hw rfl rfl ⟨Nat.le_of_ble_eq_true rfl, Nat.le_of_ble_eq_true rfl⟩) rfl rfl (sb_o (by omega)) rfl (Nat.le_of_ble_eq_true rfl) dJ4_append_bf812_2 ⟨Nat.le_of_ble_eq_true rfl, Nat.le_of_ble_eq_true rfl⟩ (fun H locs hM => ?_)
  refine lv_pop hx hb dJ4_append_bf812_5 rfl ?_
  refine lv_aload_n hx hb dJ4_append_bf812_6 rfl (lv_at hl 0 rfl) ?_
  exact me_aret hC hr (by first | exact Or.inl ⟨_, rfl⟩ | exact Or.inr ⟨_, rfl⟩) hlk hM (rfl) (rfl) dJ4_append_bf812_7
theorem c_J4_append_bf812 (l : Launch) (D : va_G) (tb : Nat → ClassId) (X : State → Prop) (z0 : Nat) (kK kV : Nat → Nat) (kO kT N0 k w : Nat) (t : Nat → Int32) (M : me_M) (hKS : ∀ U, X U → me_ks kK kV z0 U) (hKD : ∀ U, X U → me_kd kO kT z0 U) (hfr : ∀ q, N0 ≤ q → M q = none) (hk : k + (sb_dg w + 0) ≤ 198) (hw9 : w < 1000000000) (hft : sb_Fit t) : Met l yJ4_append_bf812 (.code yJ4_append_bf812 cJ4_append_bf812 2 (Option.some (Jvm.ClassFile.FieldType.object "java/lang/StringBuilder")) :: ws_all) ({ frames := 5, cells := 1, slots := 198, locals := 114 } : Room) (me_Pc [.ref N0, .int (nI w)] D tb X z0 (sbT tb M N0 k t) (sn N0 k)) (me_Qr D z0 N0 (sbT tb M N0 (k + (sb_dg w + 0)) (gsF w 0 (k + (sb_dg w + 0)) t)) (sn N0 (k + (sb_dg w + 0)))) 1 198 (me_A z0) := by
  have hsc := sb_sc (k := k) (by omega)
  have hvn := sb_vn N0 k
  have hdw := sb_dg_in w
  rcases sb_lv (N0 := N0) (k := k) (k' := k + (sb_dg w + 0)) (by omega) (by omega) (by omega) with ⟨h1, h2, h3, h4, h5⟩ | ⟨h1, h2, h3, h4, h5, h6⟩
  · unfold sbT
    rw [h3, h4, h5, ← gs_tx (w := w) (sg := 0) (k := k) (t := t) (by omega)]
    exact c_J4_appI_A l D tb X z0 (sn N0 k) kK kV kO kT N0 (sv N0 k) (sc k) k w (tx k t) M hKS hKD hvn.1 h1 h2 hw9
  · unfold sbT
    rw [h4, h5, h6, ← gs_tx (w := w) (sg := 0) (k := k) (t := t) (by omega), ← tx_cpy (k := k) (m := sc k) (t := t) hsc.1]
    have h7 : (sn N0 k) < sn N0 k + 1 := Nat.lt_succ_self _
    rw [tx_cpy (k := k) (m := sc k) (t := t) hsc.1]
    have e9 := tx_cpy (k := k) (m := sc k) (t := t) hsc.1
    have hh := c_J4_appI_B l D tb X z0 (sn N0 k) kK kV kO kT N0 (sv N0 k) (sc k) k w (tx k t) M hKS hKD hvn.1 (by omega) (hfr _ (by omega)) (tx_fit hft) h1 h2 h3 hw9
    rw [e9] at hh
    exact hh
set_option maxHeartbeats 4000000 in
theorem c_J5_length_8abf5 (l : Launch) (D : va_G) (tb : Nat → ClassId) (X : State → Prop) (z0 n : Nat) (b v cap k : Nat) (f : Nat → Int32) (M : me_M)  (hbv : b < v) : Met l yJ5_length_8abf5 (.code yJ5_length_8abf5 cJ5_length_8abf5 1 (some .int) :: ws_all) ({ frames := 0, cells := 0, slots := 0, locals := 0 } : Room) (me_Pc [.ref b] D tb X z0 (sbV tb M b v cap k f) n) (me_Qi D z0 (nI k) (sbV tb M b v cap k f) n) 0 0 (me_A z0) := by
  refine me_open (by decide) (Nat.le_of_ble_eq_true rfl) ?_
  intro p e s m args below meth c ls hC hr hlk hnm hM hl
  have hl : lv_has ls 1 [(0, .ref b)] := hl
  have hx := hC.1
  have hb := hC.2.1
  have hw := hC.2.2.2.2.1
  refine lv_aload_n hx hb dJ5_length_8abf5_0 rfl (lv_at hl 0 rfl) ?_
  refine fg_J5_79 hC hM (sb_o (by omega)) rfl dJ5_length_8abf5_1 ?_
  exact me_iret hC hr hlk hM (by first | rfl | simp []) (rfl) (rfl) dJ5_length_8abf5_4
set_option maxHeartbeats 4000000 in
theorem c_J4_length_8abf5 (l : Launch) (D : va_G) (tb : Nat → ClassId) (X : State → Prop) (z0 n : Nat) (b v cap k : Nat) (f : Nat → Int32) (M : me_M)  (hbv : b < v) : Met l yJ4_length_8abf5 (.code yJ4_length_8abf5 cJ4_length_8abf5 1 (some .int) :: ws_all) ({ frames := 1, cells := 0, slots := 0, locals := 20 } : Room) (me_Pc [.ref b] D tb X z0 (sbV tb M b v cap k f) n) (me_Qi D z0 (nI k) (sbV tb M b v cap k f) n) 0 0 (me_A z0) := by
  refine me_open (by decide) (Nat.le_of_ble_eq_true rfl) ?_
  intro p e s m args below meth c ls hC hr hlk hnm hM hl
  have hl : lv_has ls 1 [(0, .ref b)] := hl
  have hx := hC.1
  have hb := hC.2.1
  have hw := hC.2.2.2.2.1
  refine lv_aload_n hx hb dJ4_length_8abf5_0 rfl (lv_at hl 0 rfl) ?_
  refine me_callSUi (As := []) (rest := []) hC hl.1 hM (c_J5_length_8abf5 l D tb X z0 n b v cap k f M (by omega)) (kz_J4_343 hw rfl rfl ⟨Nat.le_of_ble_eq_true rfl, Nat.le_of_ble_eq_true rfl⟩) rfl rfl (sb_o (by omega)) rfl (Nat.le_of_ble_eq_true rfl) dJ4_length_8abf5_1 ⟨Nat.le_of_ble_eq_true rfl, Nat.le_of_ble_eq_true rfl⟩ (fun H locs hM => ?_)
  exact me_iret hC hr hlk hM (by first | rfl | simp []) (rfl) (rfl) dJ4_length_8abf5_4
set_option maxHeartbeats 4000000 in
theorem c_J5_getValue_6d5f1 (l : Launch) (D : va_G) (tb : Nat → ClassId) (X : State → Prop) (z0 n : Nat) (b v cap k : Nat) (f : Nat → Int32) (M : me_M)  (hbv : b < v) : Met l yJ5_getValue_6d5f1 (.code yJ5_getValue_6d5f1 cJ5_getValue_6d5f1 1 (Option.some (Jvm.ClassFile.FieldType.array Jvm.ClassFile.FieldType.byte)) :: ws_all) ({ frames := 0, cells := 0, slots := 0, locals := 0 } : Room) (me_Pc [.ref b] D tb X z0 (sbV tb M b v cap k f) n) (me_Qr D z0 v (sbV tb M b v cap k f) n) 0 0 (me_A z0) := by
  refine me_open (by decide) (Nat.le_of_ble_eq_true rfl) ?_
  intro p e s m args below meth c ls hC hr hlk hnm hM hl
  have hl : lv_has ls 1 [(0, .ref b)] := hl
  have hx := hC.1
  have hb := hC.2.1
  have hw := hC.2.2.2.2.1
  refine lv_aload_n hx hb dJ5_getValue_6d5f1_0 rfl (lv_at hl 0 rfl) ?_
  refine fg_J5_15 hC hM (sb_o (by omega)) rfl dJ5_getValue_6d5f1_1 ?_
  exact me_aret hC hr (by first | exact Or.inl ⟨_, rfl⟩ | exact Or.inr ⟨_, rfl⟩) hlk hM (rfl) (rfl) dJ5_getValue_6d5f1_4
