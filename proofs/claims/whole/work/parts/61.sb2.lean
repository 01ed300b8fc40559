set_option maxHeartbeats 4000000 in
theorem c_J5_appC_B (l : Launch) (D : va_G) (tb : Nat → ClassId) (X : State → Prop) (z0 n : Nat) (kK kV : Nat → Nat) (kO kT : Nat) (b v w : Nat) (f : Nat → Int32) (M : me_M)  (hKS : ∀ U, X U → me_ks kK kV z0 U) (hKD : ∀ U, X U → me_kd kO kT z0 U) (hbv : b < v) (hvn : v < n) (hMv : M v = none) (hfit : sb_Fit f) (hw9 : w < 256) : Met l yJ5_append_3fe6f (.code yJ5_append_3fe6f cJ5_append_3fe6f 2 (Option.some (Jvm.ClassFile.FieldType.object "java/lang/AbstractStringBuilder")) :: ws_all) ({ frames := 4, cells := 1, slots := 34, locals := 91 } : Room) (me_Pc [.ref b, .int (nI w)] D tb X z0 (sbV tb M b v 16 16 f) n) (me_Qr D z0 b (sbV tb M b n 34 17 (upd (va_cpy f (fun _ => 0) 0 0 16) 16 (sb_b w))) (n + 1)) 1 34 (me_A z0) := by
  refine me_open (by decide) (Nat.le_of_ble_eq_true rfl) ?_
  intro p e s m args below meth c ls hC hr hlk hnm hM hl
  have hl : lv_has ls 2 [(0, .ref b), (1, .int (nI w))] := hl
  have hx := hC.1
  have hb := hC.2.1
  have hw := hC.2.2.2.2.1
  refine lv_aload_n hx hb dJ5_append_3fe6f_0 rfl (lv_at hl 0 rfl) ?_
  refine lv_aload_n hx hb dJ5_append_3fe6f_1 rfl (lv_at hl 0 rfl) ?_
  refine fg_J5_79 hC hM (sb_o (by omega)) rfl dJ5_append_3fe6f_2 ?_
  refine lv_iconst (v := 1) hx hb dJ5_append_3fe6f_5 (by decide) ?_
  refine lv_iadd hx hb dJ5_append_3fe6f_6 ?_
  refine me_stk (st2 := [.int (nI (16 + 1)), .ref b]) (by rw [(nx_add rfl (show (1 : Int32) = nI 1 from rfl))]) ?_
  refine me_callUv (As := [.int (nI (16 + 1))]) (rest := []) hC hl.1 hM (c_J5_ensure_B l D tb X z0 n kO kT b v 16 f M (16 + 1) (fun U h => hKD U h) (by omega) (by omega) (hMv) (by omega) (by omega) hfit) (ku_J5_100 hw rfl rfl ⟨Nat.le_of_ble_eq_true rfl, Nat.le_of_ble_eq_true rfl⟩ (va_Nw.use (by decide +kernel) (hKD s hC.2.2.2.2.2.1.2).2.2.2.2.1)) rfl rfl (sb_o (by omega)) rfl (Nat.le_of_ble_eq_true rfl) dJ5_append_3fe6f_7 ⟨Nat.le_of_ble_eq_true rfl, Nat.le_of_ble_eq_true rfl⟩ (fun H locs hM => ?_)
  refine lv_aload_n hx hb dJ5_append_3fe6f_10 rfl (lv_at hl 0 rfl) ?_
  refine me_callUi (As := []) (rest := []) hC hl.1 hM (c_J5_isLatin1_aae02 l D tb X z0 (n + 1) kK kV b n 34 16 (va_cpy f (fun _ => 0) 0 0 16) M hKS (by omega)) (ku_J5_83 hw rfl rfl ⟨Nat.le_of_ble_eq_true rfl, Nat.le_of_ble_eq_true rfl⟩ (hw _ w_1213)) rfl rfl (sb_o (by omega)) rfl (Nat.le_of_ble_eq_true rfl) dJ5_append_3fe6f_11 ⟨Nat.le_of_ble_eq_true rfl, Nat.le_of_ble_eq_true rfl⟩ (fun H locs hM => ?_)
  refine lv_if_eq (tgt := 45) hx hb dJ5_append_3fe6f_14 (by decide) (fun c_1 => ?_) (fun c_1 => ?_)
  · exact absurd c_1 (by decide)
  · refine lv_iload_n hx hb dJ5_append_3fe6f_17 rfl (lv_at hl 1 rfl) ?_
    refine me_callSi (As := [.int (nI w)]) (rest := []) hC hl.1 hM (c_J1_canEncode_fc78d l D tb X z0 (n + 1) (sbV tb M b n 34 16 (va_cpy f (fun _ => 0) 0 0 16)) w hw9) (ks_J5_191 hw rfl rfl ⟨Nat.le_of_ble_eq_true rfl, Nat.le_of_ble_eq_true rfl⟩) rfl rfl (Nat.le_of_ble_eq_true rfl) dJ5_append_3fe6f_18 ⟨Nat.le_of_ble_eq_true rfl, Nat.le_of_ble_eq_true rfl⟩ (fun H locs hM => ?_)
    refine lv_if_eq (tgt := 45) hx hb dJ5_append_3fe6f_21 (by decide) (fun c_2 => ?_) (fun c_2 => ?_)
    · exact absurd c_2 (by decide)
    · refine lv_aload_n hx hb dJ5_append_3fe6f_24 rfl (lv_at hl 0 rfl) ?_
      refine fg_J5_15 hC hM (sb_o (by omega)) rfl dJ5_append_3fe6f_25 ?_
      refine lv_aload_n hx hb dJ5_append_3fe6f_28 rfl (lv_at hl 0 rfl) ?_
      refine lv_dup hx hb dJ5_append_3fe6f_29 rfl ?_
      refine fg_J5_79 hC hM (sb_o (by omega)) rfl dJ5_append_3fe6f_30 ?_
      refine lv_dup_x1 hx hb dJ5_append_3fe6f_33 rfl rfl ?_
      refine lv_iconst (v := 1) hx hb dJ5_append_3fe6f_34 (by decide) ?_
      refine lv_iadd hx hb dJ5_append_3fe6f_35 ?_
      refine me_evi (y := nI (16 + 1)) (nx_add rfl (show (1 : Int32) = nI 1 from rfl)) ?_
      refine fp_J5_79 hC hM (sb_o (by omega)) (Nat.le_of_ble_eq_true rfl) (M2 := sbV tb M b n 34 (16 + 1) (va_cpy f (fun _ => 0) 0 0 16)) (sb_wk (by omega)) dJ5_append_3fe6f_36 (fun H locs hM => ?_)
      refine lv_iload_n hx hb dJ5_append_3fe6f_39 rfl (lv_at hl 1 rfl) ?_
      refine lv_i2b (v := (nI w).toInt8.toInt32) hx hb dJ5_append_3fe6f_40 rfl ?_
      refine me_bast (k := 16) (M2 := sbV tb M b n 34 (16 + 1) (upd (va_cpy f (fun _ => 0) 0 0 16) 16 (vp_nar .byte ((nI w).toInt8.toInt32)))) hC hM sb_a rfl (by omega) (by first | decide | omega) sb_wf dJ5_append_3fe6f_41 (fun H locs hM => ?_)
      refine lv_goto (tgt := 75) hx hb dJ5_append_3fe6f_42 (by decide) ?_
      refine lv_aload_n hx hb dJ5_append_3fe6f_75 rfl (lv_at hl 0 rfl) ?_
      exact me_aret hC hr (by first | exact Or.inl ⟨_, rfl⟩ | exact Or.inr ⟨_, rfl⟩) hlk hM (by rw [pk_vb]; rfl) (rfl) dJ5_append_3fe6f_76
set_option maxHeartbeats 4000000 in
theorem c_J5_appC_A (l : Launch) (D : va_G) (tb : Nat → ClassId) (X : State → Prop) (z0 n : Nat) (kK kV : Nat → Nat) (kO kT : Nat) (b v cap k : Nat) (f : Nat → Int32) (M : me_M) (w : Nat)  (hKS : ∀ U, X U → me_ks kK kV z0 U) (hKD : ∀ U, X U → me_kd kO kT z0 U) (hbv : b < v) (hk : k + 1 ≤ cap) (hcap : cap ≤ 34) (hw9 : w < 256) : Met l yJ5_append_3fe6f (.code yJ5_append_3fe6f cJ5_append_3fe6f 2 (Option.some (Jvm.ClassFile.FieldType.object "java/lang/AbstractStringBuilder")) :: ws_all) ({ frames := 4, cells := 1, slots := 34, locals := 91 } : Room) (me_Pc [.ref b, .int (nI w)] D tb X z0 (sbV tb M b v cap k f) n) (me_Qr D z0 b (sbV tb M b v cap (k + 1) (upd f k (sb_b w))) n) 1 34 (me_A z0) := by
  refine me_open (by decide) (Nat.le_of_ble_eq_true rfl) ?_
  intro p e s m args below meth c ls hC hr hlk hnm hM hl
  have hl : lv_has ls 2 [(0, .ref b), (1, .int (nI w))] := hl
  have hx := hC.1
  have hb := hC.2.1
  have hw := hC.2.2.2.2.1
  refine lv_aload_n hx hb dJ5_append_3fe6f_0 rfl (lv_at hl 0 rfl) ?_
  refine lv_aload_n hx hb dJ5_append_3fe6f_1 rfl (lv_at hl 0 rfl) ?_
  refine fg_J5_79 hC hM (sb_o (by omega)) rfl dJ5_append_3fe6f_2 ?_
  refine lv_iconst (v := 1) hx hb dJ5_append_3fe6f_5 (by decide) ?_
  refine lv_iadd hx hb dJ5_append_3fe6f_6 ?_
  refine me_stk (st2 := [.int (nI (k + 1)), .ref b]) (by rw [(nx_add rfl (show (1 : Int32) = nI 1 from rfl))]) ?_
  refine me_callUv (As := [.int (nI (k + 1))]) (rest := []) hC hl.1 hM (c_J5_ensure_A l D tb X z0 n b v cap k f M (k + 1) (by omega) (by omega) (by omega)) (ku_J5_100 hw rfl rfl ⟨Nat.le_of_ble_eq_true rfl, Nat.le_of_ble_eq_true rfl⟩ (va_Nw.use (by decide +kernel) (hKD s hC.2.2.2.2.2.1.2).2.2.2.2.1)) rfl rfl (sb_o (by omega)) rfl (Nat.le_of_ble_eq_true rfl) dJ5_append_3fe6f_7 ⟨Nat.le_of_ble_eq_true rfl, Nat.le_of_ble_eq_true rfl⟩ (fun H locs hM => ?_)
  refine lv_aload_n hx hb dJ5_append_3fe6f_10 rfl (lv_at hl 0 rfl) ?_
  refine me_callUi (As := []) (rest := []) hC hl.1 hM (c_J5_isLatin1_aae02 l D tb X z0 n kK kV b v cap k f M hKS (by omega)) (ku_J5_83 hw rfl rfl ⟨Nat.le_of_ble_eq_true rfl, Nat.le_of_ble_eq_true rfl⟩ (hw _ w_1213)) rfl rfl (sb_o (by omega)) rfl (Nat.le_of_ble_eq_true rfl) dJ5_append_3fe6f_11 ⟨Nat.le_of_ble_eq_true rfl, Nat.le_of_ble_eq_true rfl⟩ (fun H locs hM => ?_)
  refine lv_if_eq (tgt := 45) hx hb dJ5_append_3fe6f_14 (by decide) (fun c_1 => ?_) (fun c_1 => ?_)
  · exact absurd c_1 (by decide)
  · refine lv_iload_n hx hb dJ5_append_3fe6f_17 rfl (lv_at hl 1 rfl) ?_
    refine me_callSi (As := [.int (nI w)]) (rest := []) hC hl.1 hM (c_J1_canEncode_fc78d l D tb X z0 n (sbV tb M b v cap k f) w hw9) (ks_J5_191 hw rfl rfl ⟨Nat.le_of_ble_eq_true rfl, Nat.le_of_ble_eq_true rfl⟩) rfl rfl (Nat.le_of_ble_eq_true rfl) dJ5_append_3fe6f_18 ⟨Nat.le_of_ble_eq_true rfl, Nat.le_of_ble_eq_true rfl⟩ (fun H locs hM => ?_)
    refine lv_if_eq (tgt := 45) hx hb dJ5_append_3fe6f_21 (by decide) (fun c_2 => ?_) (fun c_2 => ?_)
    · exact absurd c_2 (by decide)
    · refine lv_aload_n hx hb dJ5_append_3fe6f_24 rfl (lv_at hl 0 rfl) ?_
      refine fg_J5_15 hC hM (sb_o (by omega)) rfl dJ5_append_3fe6f_25 ?_
      refine lv_aload_n hx hb dJ5_append_3fe6f_28 rfl (lv_at hl 0 rfl) ?_
      refine lv_dup hx hb dJ5_append_3fe6f_29 rfl ?_
      refine fg_J5_79 hC hM (sb_o (by omega)) rfl dJ5_append_3fe6f_30 ?_
      refine lv_dup_x1 hx hb dJ5_append_3fe6f_33 rfl rfl ?_
      refine lv_iconst (v := 1) hx hb dJ5_append_3fe6f_34 (by decide) ?_
      refine lv_iadd hx hb dJ5_append_3fe6f_35 ?_
      refine me_evi (y := nI (k + 1)) (nx_add rfl (show (1 : Int32) = nI 1 from rfl)) ?_
      refine fp_J5_79 hC hM (sb_o (by omega)) (Nat.le_of_ble_eq_true rfl) (M2 := sbV tb M b v cap (k + 1) f) (sb_wk (by omega)) dJ5_append_3fe6f_36 (fun H locs hM => ?_)
      refine lv_iload_n hx hb dJ5_append_3fe6f_39 rfl (lv_at hl 1 rfl) ?_
      refine lv_i2b (v := (nI w).toInt8.toInt32) hx hb dJ5_append_3fe6f_40 rfl ?_
      refine me_bast (k := k) (M2 := sbV tb M b v cap (k + 1) (upd f k (vp_nar .byte ((nI w).toInt8.toInt32)))) hC hM sb_a rfl (by omega) (by first | decide | omega) sb_wf dJ5_append_3fe6f_41 (fun H locs hM => ?_)
      refine lv_goto (tgt := 75) hx hb dJ5_append_3fe6f_42 (by decide) ?_
      refine lv_aload_n hx hb dJ5_append_3fe6f_75 rfl (lv_at hl 0 rfl) ?_
      exact me_aret hC hr (by first | exact Or.inl ⟨_, rfl⟩ | exact Or.inr ⟨_, rfl⟩) hlk hM (by rw [pk_vb]; rfl) (rfl) dJ5_append_3fe6f_76
set_option maxHeartbeats 4000000 in
theorem c_J4_appC_B (l : Launch) (D : va_G) (tb : Nat → ClassId) (X : State → Prop) (z0 n : Nat) (kK kV : Nat → Nat) (kO kT : Nat) (b v w : Nat) (f : Nat → Int32) (M : me_M)  (hKS : ∀ U, X U → me_ks kK kV z0 U) (hKD : ∀ U, X U → me_kd kO kT z0 U) (hbv : b < v) (hvn : v < n) (hMv : M v = none) (hfit : sb_Fit f) (hw9 : w < 256) : Met l yJ4_append_cf468 (.code yJ4_append_cf468 cJ4_append_cf468 2 (Option.some (Jvm.ClassFile.FieldType.object "java/lang/StringBuilder")) :: ws_all) ({ frames := 5, cells := 1, slots := 34, locals := 112 } : Room) (me_Pc [.ref b, .int (nI w)] D tb X z0 (sbV tb M b v 16 16 f) n) (me_Qr D z0 b (sbV tb M b n 34 17 (upd (va_cpy f (fun _ => 0) 0 0 16) 16 (sb_b w))) (n + 1)) 1 34 (me_A z0) := by
  refine me_open (by decide) (Nat.le_of_ble_eq_true rfl) ?_
  intro p e s m args below meth c ls hC hr hlk hnm hM hl
  have hl : lv_has ls 2 [(0, .ref b), (1, .int (nI w))] := hl
  have hx := hC.1
  have hb := hC.2.1
  have hw := hC.2.2.2.2.1
  refine lv_aload_n hx hb dJ4_append_cf468_0 rfl (lv_at hl 0 rfl) ?_
  refine lv_iload_n hx hb dJ4_append_cf468_1 rfl (lv_at hl 1 rfl) ?_
  refine me_callSUr (As := [.int (nI w)]) (rest := []) hC hl.1 hM (c_J5_appC_B l D tb X z0 n kK kV kO kT b v w f M hKS hKD hbv hvn hMv hfit hw9) (kz_J4_50 hw rfl rfl ⟨Nat.le_of_ble_eq_true rfl, Nat.le_of_ble_eq_true rfl⟩) rfl rfl (sb_o (by omega)) rfl (Nat.le_of_ble_eq_true rfl) dJ4_append_cf468_2 ⟨Nat.le_of_ble_eq_true rfl, Nat.le_of_ble_eq_true rfl⟩ (fun H locs hM => ?_)
  refine lv_pop hx hb dJ4_append_cf468_5 rfl ?_
  refine lv_aload_n hx hb dJ4_append_cf468_6 rfl (lv_at hl 0 rfl) ?_
  exact me_aret hC hr (by first | exact Or.inl ⟨_, rfl⟩ | exact Or.inr ⟨_, rfl⟩) hlk hM (rfl) (rfl) dJ4_append_cf468_7
set_option maxHeartbeats 4000000 in
theorem c_J4_appC_A (l : Launch) (D : va_G) (tb : Nat → ClassId) (X : State → Prop) (z0 n : Nat) (kK kV : Nat → Nat) (kO kT : Nat) (b v cap k : Nat) (f : Nat → Int32) (M : me_M) (w : Nat)  (hKS : ∀ U, X U → me_ks kK kV z0 U) (hKD : ∀ U, X U → me_kd kO kT z0 U) (hbv : b < v) (hk : k + 1 ≤ cap) (hcap : cap ≤ 34) (hw9 : w < 256) : Met l yJ4_append_cf468 (.code yJ4_append_cf468 cJ4_append_cf468 2 (Option.some (Jvm.ClassFile.FieldType.object "java/lang/StringBuilder")) :: ws_all) ({ frames := 5, cells := 1, slots := 34, locals := 112 } : Room) (me_Pc [.ref b, .int (nI w)] D tb X z0 (sbV tb M b v cap k f) n) (me_Qr D z0 b (sbV tb M b v cap (k + 1) (upd f k (sb_b w))) n) 1 34 (me_A z0) := by
  refine me_open (by decide) (Nat.le_of_ble_eq_true rfl) ?_
  intro p e s m args below meth c ls hC hr hlk hnm hM hl
  have hl : lv_has ls 2 [(0, .ref b), (1, .int (nI w))] := hl
  have hx := hC.1
  have hb := hC.2.1
  have hw := hC.2.2.2.2.1
  refine lv_aload_n hx hb dJ4_append_cf468_0 rfl (lv_at hl 0 rfl) ?_
  refine lv_iload_n hx hb dJ4_append_cf468_1 rfl (lv_at hl 1 rfl) ?_
  refine me_callSUr (As := [.int (nI w)]) (rest := []) hC hl.1 hM (c_J5_appC_A l D tb X z0 n kK kV kO kT b v cap k f M w hKS hKD hbv hk hcap hw9) (kz_J4_50 hw rfl rfl ⟨Nat.le_of_ble_eq_true rfl, Nat.le_of_ble_eq_true rfl⟩) rfl rfl (sb_o (by omega)) rfl (Nat.le_of_ble_eq_true rfl) dJ4_append_cf468_2 ⟨Nat.le_of_ble_eq_true rfl, Nat.le_of_ble_eq_true rfl⟩ (fun H locs hM => ?_)
  refine lv_pop hx hb dJ4_append_cf468_5 rfl ?_
  refine lv_aload_n hx hb dJ4_append_cf468_6 rfl (lv_at hl 0 rfl) ?_
  exact me_aret hC hr (by first | exact Or.inl ⟨_, rfl⟩ | exact Or.inr ⟨_, rfl⟩) hlk hM (rfl) (rfl) dJ4_append_cf468_7
theorem c_J4_append_cf468 (l : Launch) (D : va_G) (tb : Nat → ClassId) (X : State → Prop) (z0 : Nat) (kK kV : Nat → Nat) (kO kT N0 k w : Nat) (t : Nat → Int32) (M : me_M) (hKS : ∀ U, X U → me_ks kK kV z0 U) (hKD : ∀ U, X U → me_kd kO kT z0 U) (hfr : ∀ q, N0 ≤ q → M q = none) (hk : k < 34) (hw9 : w < 256) (hft : sb_Fit t) : Met l yJ4_append_cf468 (.code yJ4_append_cf468 cJ4_append_cf468 2 (Option.some (Jvm.ClassFile.FieldType.object "java/lang/StringBuilder")) :: ws_all) ({ frames := 5, cells := 1, slots := 34, locals := 112 } : Room) (me_Pc [.ref N0, .int (nI w)] D tb X z0 (sbT tb M N0 k t) (sn N0 k)) (me_Qr D z0 N0 (sbT tb M N0 (k + 1) (upd t k (sb_b w))) (sn N0 (k + 1))) 1 34 (me_A z0) := by
  rcases (show k ≤ 15 ∨ k = 16 ∨ 17 ≤ k by omega) with h | rfl | h
  · have e1 : sbT tb M N0 k t = sbV tb M N0 (N0 + 1) 16 k (tx k t) := sbT_lo (by omega)
    have e2 : sbT tb M N0 (k + 1) (upd t k (sb_b w)) = sbV tb M N0 (N0 + 1) 16 (k + 1) (upd (tx k t) k (sb_b w)) := by rw [sbT_lo (by omega), tx_put]
    rw [e1, e2, sn_lo (by omega), sn_lo (by omega)]
    exact c_J4_appC_A l D tb X z0 (N0 + 2) kK kV kO kT N0 (N0 + 1) 16 k (tx k t) M w hKS hKD (by omega) (by omega) (by omega) hw9
  · have e1 : sbT tb M N0 16 t = sbV tb M N0 (N0 + 1) 16 16 (tx 16 t) := sbT_lo (by omega)
    have e2 : sbT tb M N0 (16 + 1) (upd t 16 (sb_b w)) = sbV tb M N0 (N0 + 2) 34 17 (upd (va_cpy (tx 16 t) (fun _ => 0) 0 0 16) 16 (sb_b w)) := by rw [sbT_hi (by omega), tx_cpy (by omega), tx_put]
    rw [e1, e2, sn_lo (by omega), sn_hi (by omega)]
    exact c_J4_appC_B l D tb X z0 (N0 + 2) kK kV kO kT N0 (N0 + 1) w (tx 16 t) M hKS hKD (by omega) (by omega) (hfr _ (by omega)) (tx_fit hft) hw9
  · have e1 : sbT tb M N0 k t = sbV tb M N0 (N0 + 2) 34 k (tx k t) := sbT_hi (by omega)
    have e2 : sbT tb M N0 (k + 1) (upd t k (sb_b w)) = sbV tb M N0 (N0 + 2) 34 (k + 1) (upd (tx k t) k (sb_b w)) := by rw [sbT_hi (by omega), tx_put]
    rw [e1, e2, sn_hi (by omega), sn_hi (by omega)]
    exact c_J4_appC_A l D tb X z0 (N0 + 3) kK kV kO kT N0 (N0 + 2) 34 k (tx k t) M w hKS hKD (by omega) (by omega) (by omega) hw9
