set_option maxHeartbeats 4000000 in
theorem c_J5_appC_B (l : Launch) (D : va_G) (tb : Nat → ClassId) (X : State → Prop) (z0 n : Nat) (kK kV : Nat → Nat) (kO kT : Nat) (b v cap k w : Nat) (f : Nat → Int32) (M : me_M)  (hKS : ∀ U, X U → me_ks kK kV z0 U) (hKD : ∀ U, X U → me_kd kO kT z0 U) (hbv : b < v) (hvn : v < n) (hMv : M v = none) (hfit : sb_Fit f) (hk1 : cap < k + 1) (hk2 : k ≤ cap) (hcap : cap ≤ 98) (hw9 : w < 256) : Met l yJ5_append_3fe6f (.code yJ5_append_3fe6f cJ5_append_3fe6f 2 (Option.some (Jvm.ClassFile.FieldType.object "java/lang/AbstractStringBuilder")) :: ws_all) ({ frames := 4, cells := 1, slots := 198, locals := 91 } : Room) (me_Pc [.ref b, .int (nI w)] D tb X z0 (sbV tb M b v cap k f) n) (me_Qr D z0 b (sbV tb M b n (2 * cap + 2) (k + 1) (upd (va_cpy f (fun _ => 0) 0 0 cap) k (sb_b w))) (n + 1)) 1 198 (me_A z0) := by
  refine me_open (by decide) (Nat.le_of_ble_eq_true rfl) ?_
  intro p e s m args below meth c ls hC hr hlk hnm hM hl
  have hl : lv_has ls 2 [(0, .ref b), (1, .int (nI w))] := hl
  have hx := hC.1
  have hb := hC.2.1
  have hw := hC.2.2.2.2.1
  refine lv_aload_n hx hb dJ5_append_3fe6f_0 rfl (lv_at hl 0 rfl) ?_
  refine lv_aload_n hx hb dJ5_append_3fe6f_1 rfl (lv_at hl 0 rfl) ?_
  refine fg_J5_79 hC hM (sb_o (by omega)) rfl dJ5_append_3fe6f_2 ?_
  refine lv_iconst (v := 1) hx hb dJ5_append_3fe6f_5 (by decide) ?_
  refine lv_iadd hx hb dJ5_append_3fe6f_6 ?_
  refine me_stk (st2 := [.int (nI (k + 1)), .ref b]) (by rw [(nx_add rfl (show (1 : Int32) = nI 1 from rfl))]) ?_
  refine me_callUv (As := [.int (nI (k + 1))]) (rest := []) hC hl.1 hM (c_J5_ensure_B l D tb X z0 n kO kT b v cap k f M (k + 1) (fun U h => hKD U h) (by omega) (by omega) (hMv) (by omega) (by omega) (by omega) hfit) (ku_J5_100 hw rfl rfl ⟨Nat.le_of_ble_eq_true rfl, Nat.le_of_ble_eq_true rfl⟩ (va_Nw.use (by decide +kernel) (hKD s hC.2.2.2.2.2.1.2).2.2.2.2.1)) rfl rfl (sb_o (by omega)) rfl (Nat.le_of_ble_eq_true rfl) dJ5_append_3fe6f_7 ⟨Nat.le_of_ble_eq_true rfl, Nat.le_of_ble_eq_true rfl⟩ (fun H locs hM => ?_)
  refine lv_aload_n hx hb dJ5_append_3fe6f_10 rfl (lv_at hl 0 rfl) ?_
  refine me_callUi (As := []) (rest := []) hC hl.1 hM (c_J5_isLatin1_aae02 l D tb X z0 (n + 1) kK kV b n (2 * cap + 2) k (va_cpy f (fun _ => 0) 0 0 cap) M hKS (by omega)) (ku_J5_83 hw rfl rfl ⟨Nat.le_of_ble_eq_true rfl, Nat.le_of_ble_eq_true rfl⟩ (hw _ w_926)) rfl rfl (sb_o (by omega)) rfl (Nat.le_of_ble_eq_true rfl) dJ5_append_3fe6f_11 ⟨Nat.le_of_ble_eq_true rfl, Nat.le_of_ble_eq_true rfl⟩ (fun H locs hM => ?_)
  refine lv_if_eq (tgt := 45) hx hb dJ5_append_3fe6f_14 (by decide) (fun c_1 => ?_) (fun c_1 => ?_)
  · exact absurd c_1 (by decide)
  · refine lv_iload_n hx hb dJ5_append_3fe6f_17 rfl (lv_at hl 1 rfl) ?_
    refine me_callSi (As := [.int (nI w)]) (rest := []) hC hl.1 hM (c_J1_canEncode_fc78d l D tb X z0 (n + 1) (sbV tb M b n (2 * cap + 2) k (va_cpy f (fun _ => 0) 0 0 cap)) w hw9) (ks_J5_191 hw rfl rfl ⟨Nat.le_of_ble_eq_true rfl, Nat.le_of_ble_eq_true rfl⟩) rfl rfl (Nat.le_of_ble_eq_true rfl) dJ5_append_3fe6f_18 ⟨Nat.le_of_ble_eq_true rfl, Nat.le_of_ble_eq_true rfl⟩ (fun H locs hM => ?_)
    refine lv_if_eq (tgt := 45) hx hb dJ5_append_3fe6f_21 (by decide) (fun c_2 => ?_) (fun c_2 => ?_)
    · exact absurd c_2 (by decide)
    · refine lv_aload_n hx hb dJ5_append_3fe6f_24 rfl (lv_at hl 0 rfl) ?_
      refine fg_J5_15 hC hM (sb_o (by omega)) rfl dJ5_append_3fe6f_25 ?_
      refine lv_aload_n hx hb dJ5_append_3fe6f_28 rfl (lv_at hl 0 rfl) ?_
      refine lv_dup hx hb dJ5_append_3fe6f_29 rfl ?_
      refine fg_J5_79 hC hM (sb_o (by omega)) rfl dJ5_append_3fe6f_30 ?_
      refine lv_dup_x1 hx hb dJ5_append_3fe6f_33 rfl rfl ?_
      refine lv_iconst (v := 1) hx hb dJ5_append_3fe6f_34 (by decide) ?_
      refine lv_iadd hx hb dJ5_append_3fe6f_35 ?_
      refine me_evi (y := nI (k + 1)) (nx_add rfl (show (1 : Int32) = nI 1 from rfl)) ?_
      refine fp_J5_79 hC hM (sb_o (by omega)) (Nat.le_of_ble_eq_true rfl) (M2 := sbV tb M b n (2 * cap + 2) (k + 1) (va_cpy f (fun _ => 0) 0 0 cap)) (sb_wk (by omega)) dJ5_append_3fe6f_36 (fun H locs hM => ?_)
      refine lv_iload_n hx hb dJ5_append_3fe6f_39 rfl (lv_at hl 1 rfl) ?_
      refine lv_i2b (v := (nI w).toInt8.toInt32) hx hb dJ5_append_3fe6f_40 rfl ?_
      refine me_bast (k := k) (M2 := sbV tb M b n (2 * cap + 2) (k + 1) (upd (va_cpy f (fun _ => 0) 0 0 cap) k (vp_nar .byte ((nI w).toInt8.toInt32)))) hC hM sb_a rfl (by omega) (by first | decide | omega) sb_wf dJ5_append_3fe6f_41 (fun H locs hM => ?_)
      refine lv_goto (tgt := 75) hx hb dJ5_append_3fe6f_42 (by decide) ?_
      refine lv_aload_n hx hb dJ5_append_3fe6f_75 rfl (lv_at hl 0 rfl) ?_
      exact me_aret hC hr (by first | exact Or.inl ⟨_, rfl⟩ | exact Or.inr ⟨_, rfl⟩) hlk hM (by rw [pk_vb]; rfl) (rfl) dJ5_append_3fe6f_76
set_option maxHeartbeats 4000000 in
theorem c_J5_appC_A (l : Launch) (D : va_G) (tb : Nat → ClassId) (X : State → Prop) (z0 n : Nat) (kK kV : Nat → Nat) (kO kT : Nat) (b v cap k : Nat) (f : Nat → Int32) (M : me_M) (w : Nat)  (hKS : ∀ U, X U → me_ks kK kV z0 U) (hKD : ∀ U, X U → me_kd kO kT z0 U) (hbv : b < v) (hk : k + 1 ≤ cap) (hcap : cap ≤ 198) (hw9 : w < 256) : Met l yJ5_append_3fe6f (.code yJ5_append_3fe6f cJ5_append_3fe6f 2 (Option.some (Jvm.ClassFile.FieldType.object "java/lang/AbstractStringBuilder")) :: ws_all) ({ frames := 4, cells := 1, slots := 198, locals := 91 } : Room) (me_Pc [.ref b, .int (nI w)] D tb X z0 (sbV tb M b v cap k f) n) (me_Qr D z0 b (sbV tb M b v cap (k + 1) (upd f k (sb_b w))) n) 1 198 (me_A z0) := by
  refine me_open (by decide) (Nat.le_of_ble_eq_true rfl) ?_
  intro p e s m args below meth c ls hC hr hlk hnm hM hl
  have hl : lv_has ls 2 [(0, .ref b), (1, .int (nI w))] := hl
  have hx := hC.1
  have hb := hC.2.1
  have hw := hC.2.2.2.2.1
  refine lv_aload_n hx hb dJ5_append_3fe6f_0 rfl (lv_at hl 0 rfl) ?_
  refine lv_aload_n hx hb dJ5_append_3fe6f_1 rfl (lv_at hl 0 rfl) ?_
  refine fg_J5_79 hC hM (sb_o (by omega)) rfl dJ5_append_3fe6f_2 ?_
  refine lv_iconst (v := 1) hx hb dJ5_append_3fe6f_5 (by decide) ?_
  refine lv_iadd hx hb dJ5_append_3fe6f_6 ?_
  refine me_stk (st2 := [.int (nI (k + 1)), .ref b]) (by rw [(nx_add rfl (show (1 : Int32) = nI 1 from rfl))]) ?_
  refine me_callUv (As := [.int (nI (k + 1))]) (rest := []) hC hl.1 hM (c_J5_ensure_A l D tb X z0 n b v cap k f M (k + 1) (by omega) (by omega) (by omega)) (ku_J5_100 hw rfl rfl ⟨Nat.le_of_ble_eq_true rfl, Nat.le_of_ble_eq_true rfl⟩ (va_Nw.use (by decide +kernel) (hKD s hC.2.2.2.2.2.1.2).2.2.2.2.1)) rfl rfl (sb_o (by omega)) rfl (Nat.le_of_ble_eq_true rfl) dJ5_append_3fe6f_7 ⟨Nat.le_of_ble_eq_true rfl, Nat.le_of_ble_eq_true rfl⟩ (fun H locs hM => ?_)
  refine lv_aload_n hx hb dJ5_append_3fe6f_10 rfl (lv_at hl 0 rfl) ?_
  refine me_callUi (As := []) (rest := []) hC hl.1 hM (c_J5_isLatin1_aae02 l D tb X z0 n kK kV b v cap k f M hKS (by omega)) (ku_J5_83 hw rfl rfl ⟨Nat.le_of_ble_eq_true rfl, Nat.le_of_ble_eq_true rfl⟩ (hw _ w_926)) rfl rfl (sb_o (by omega)) rfl (Nat.le_of_ble_eq_true rfl) dJ5_append_3fe6f_11 ⟨Nat.le_of_ble_eq_true rfl, Nat.le_of_ble_eq_true rfl⟩ (fun H locs hM => ?_)
  refine lv_if_eq (tgt := 45) hx hb dJ5_append_3fe6f_14 (by decide) (fun c_1 => ?_) (fun c_1 => ?_)
  · exact absurd c_1 (by decide)
  · refine lv_iload_n hx hb dJ5_append_3fe6f_17 rfl (lv_at hl 1 rfl) ?_
    refine me_callSi (As := [.int (nI w)]) (rest := []) hC hl.1 hM (c_J1_canEncode_fc78d l D tb X z0 n (sbV tb M b v cap k f) w hw9) (ks_J5_191 hw rfl rfl ⟨Nat.le_of_ble_eq_true rfl, Nat.le_of_ble_eq_true rfl⟩) rfl rfl (Nat.le_of_ble_eq_true rfl) dJ5_append_3fe6f_18 ⟨Nat.le_of_ble_eq_true rfl, Nat.le_of_ble_eq_true rfl⟩ (fun H locs hM => ?_)
    refine lv_if_eq (tgt := 45) hx hb dJ5_append_3fe6f_21 (by decide) (fun c_2 => ?_) (fun c_2 => ?_)
    · exact absurd c_2 (by decide)
    · refine lv_aload_n hx hb dJ5_append_3fe6f_24 rfl (lv_at hl 0 rfl) ?_
      refine fg_J5_15 hC hM (sb_o (by omega)) rfl dJ5_append_3fe6f_25 ?_
      refine lv_aload_n hx hb dJ5_append_3fe6f_28 rfl (lv_at hl 0 rfl) ?_
      refine lv_dup hx hb dJ5_append_3fe6f_29 rfl ?_
      refine fg_J5_79 hC hM (sb_o (by omega)) rfl dJ5_append_3fe6f_30 ?_
      refine lv_dup_x1 hx hb dJ5_append_3fe6f_33 rfl rfl ?_
      refine lv_iconst (v := 1) hx hb dJ5_append_3fe6f_34 (by decide) ?_
      refine lv_iadd hx hb dJ5_append_3fe6f_35 ?_
      refine me_evi (y := nI (k + 1)) (nx_add rfl (show (1 : Int32) = nI 1 from rfl)) ?_
      refine fp_J5_79 hC hM (sb_o (by omega)) (Nat.le_of_ble_eq_true rfl) (M2 := sbV tb M b v cap (k + 1) f) (sb_wk (by omega)) dJ5_append_3fe6f_36 (fun H locs hM => ?_)
      refine lv_iload_n hx hb dJ5_append_3fe6f_39 rfl (lv_at hl 1 rfl) ?_
      refine lv_i2b (v := (nI w).toInt8.toInt32) hx hb dJ5_append_3fe6f_40 rfl ?_
      refine me_bast (k := k) (M2 := sbV tb M b v cap (k + 1) (upd f k (vp_nar .byte ((nI w).toInt8.toInt32)))) hC hM sb_a rfl (by omega) (by first | decide | omega) sb_wf dJ5_append_3fe6f_41 (fun H locs hM => ?_)
      refine lv_goto (tgt := 75) hx hb dJ5_append_3fe6f_42 (by decide) ?_
      refine lv_aload_n hx hb dJ5_append_3fe6f_75 rfl (lv_at hl 0 rfl) ?_
      exact me_aret hC hr (by first | exact Or.inl ⟨_, rfl⟩ | exact Or.inr ⟨_, rfl⟩) hlk hM (by rw [pk_vb]; rfl) (rfl) dJ5_append_3fe6f_76
set_option maxHeartbeats 4000000 in
theorem c_J4_appC_B (l : Launch) (D : va_G) (tb : Nat → ClassId) (X : State → Prop) (z0 n : Nat) (kK kV : Nat → Nat) (kO kT : Nat) (b v cap k w : Nat) (f : Nat → Int32) (M : me_M)  (hKS : ∀ U, X U → me_ks kK kV z0 U) (hKD : ∀ U, X U → me_kd kO kT z0 U) (hbv : b < v) (hvn : v < n) (hMv : M v = none) (hfit : sb_Fit f) (hk1 : cap < k + 1) (hk2 : k ≤ cap) (hcap : cap ≤ 98) (hw9 : w < 256) : Met l yJ4_append_cf468 (.code yJ4_append_cf468 cJ4_append_cf468 2 (Option.some (Jvm.ClassFile.FieldType.object "java/lang/StringBuilder")) :: ws_all) ({ frames := 5, cells := 1, slots := 198, locals := 112 } : Room) (me_Pc [.ref b, .int (nI w)] D tb X z0 (sbV tb M b v cap k f) n) (me_Qr D z0 b (sbV tb M b n (2 * cap + 2) (k + 1) (upd (va_cpy f (fun _ => 0) 0 0 cap) k (sb_b w))) (n + 1)) 1 198 (me_A z0) := by
  refine me_open (by decide) (Nat.le_of_ble_eq_true rfl) ?_
  intro p e s m args below meth c ls hC hr hlk hnm hM hl
  have hl : lv_has ls 2 [(0, .ref b), (1, .int (nI w))] := hl
  have hx := hC.1
  have hb := hC.2.1
  have hw := hC.2.2.2.2.1
  refine lv_aload_n hx hb dJ4_append_cf468_0 rfl (lv_at hl 0 rfl) ?_
  refine lv_iload_n hx hb dJ4_append_cf468_1 rfl (lv_at hl 1 rfl) ?_
  refine me_callSUr (As := [.int (nI w)]) (rest := []) hC hl.1 hM (c_J5_appC_B l D tb X z0 n kK kV kO kT b v cap k w f M hKS hKD hbv hvn hMv hfit hk1 hk2 hcap hw9) (kz_J4_50 hw rfl rfl ⟨Nat.le_of_ble_eq_true rfl, Nat.le_of_ble_eq_true rfl⟩) rfl rfl (sb_o (by omega)) rfl (Nat.le_of_ble_eq_true rfl) dJ4_append_cf468_2 ⟨Nat.le_of_ble_eq_true rfl, Nat.le_of_ble_eq_true rfl⟩ (fun H locs hM => ?_)
  refine lv_pop hx hb dJ4_append_cf468_5 rfl ?_
  refine lv_aload_n hx hb dJ4_append_cf468_6 rfl (lv_at hl 0 rfl) ?_
  exact me_aret hC hr (by first | exact Or.inl ⟨_, rfl⟩ | exact Or.inr ⟨_, rfl⟩) hlk hM (rfl) (rfl) dJ4_append_cf468_7
set_option maxHeartbeats 4000000 in
theorem c_J4_appC_A (l : Launch) (D : va_G) (tb : Nat → ClassId) (X : State → Prop) (z0 n : Nat) (kK kV : Nat → Nat) (kO kT : Nat) (b v cap k : Nat) (f : Nat → Int32) (M : me_M) (w : Nat)  (hKS : ∀ U, X U → me_ks kK kV z0 U) (hKD : ∀ U, X U → me_kd kO kT z0 U) (hbv : b < v) (hk : k + 1 ≤ cap) (hcap : cap ≤ 198) (hw9 : w < 256) : Met l yJ4_append_cf468 (.code yJ4_append_cf468 cJ4_append_cf468 2 (Option.some (Jvm.ClassFile.FieldType.object "java/lang/StringBuilder")) :: ws_all) ({ frames := 5, cells := 1, slots := 198, locals := 112 } : Room) (me_Pc [.ref b, .int (nI w)] D tb X z0 (sbV tb M b v cap k f) n) (me_Qr D z0 b (sbV tb M b v cap (k + 1) (upd f k (sb_b w))) n) 1 198 (me_A z0) := by
  refine me_open (by decide) (Nat.le_of_ble_eq_true rfl) ?_
  intro p e s m args below meth c ls hC hr hlk hnm hM hl
  have hl : lv_has ls 2 [(0, .ref b), (1, .int (nI w))] := hl
  have hx := hC.1
  have hb := hC.2.1
  have hw := hC.2.2.2.2.1
  refine lv_aload_n hx hb dJ4_append_cf468_0 rfl (lv_at hl 0 rfl) ?_
  refine lv_iload_n hx hb dJ4_append_cf468_1 rfl (lv_at hl 1 rfl) ?_
  refine me_callSUr (As := [.int (nI w)]) (rest := []) hC hl.1 hM (c_J5_appC_A l D tb X z0 n kK kV kO kT b v cap k f M w hKS hKD hbv hk hcap hw9) (kz_J4_50 hw rfl rfl ⟨Nat.le_of_ble_eq_true rfl, Nat.le_of_ble_eq_true rfl⟩) rfl rfl (sb_o (by omega)) rfl (Nat.le_of_ble_eq_true rfl) dJ4_append_cf468_2 ⟨Nat.le_of_ble_eq_true rfl, Nat.le_of_ble_eq_true rfl⟩ (fun H locs hM => ?_)
  refine lv_pop hx hb dJ4_append_cf468_5 rfl ?_
  refine lv_aload_n hx hb dJ4_append_cf468_6 rfl (lv_at hl 0 rfl) ?_
  exact me_aret hC hr (by first | exact Or.inl ⟨_, rfl⟩ | exact Or.inr ⟨_, rfl⟩) hlk hM (rfl) (rfl) dJ4_append_cf468_7
theorem c_J4_append_cf468 (l : Launch) (D : va_G) (tb : Nat → ClassId) (X : State → Prop) (z0 : Nat) (kK kV : Nat → Nat) (kO kT N0 k w : Nat) (t : Nat → Int32) (M : me_M) (hKS : ∀ U, X U → me_ks kK kV z0 U) (hKD : ∀ U, X U → me_kd kO kT z0 U) (hfr : ∀ q, N0 ≤ q → M q = none) (hk : k + 1 ≤ 198) (hw9 : w < 256) (hft : sb_Fit t) : Met l yJ4_append_cf468 (.code yJ4_append_cf468 cJ4_append_cf468 2 (Option.some (Jvm.ClassFile.FieldType.object "java/lang/StringBuilder")) :: ws_all) ({ frames := 5, cells := 1, slots := 198, locals := 112 } : Room) (me_Pc [.ref N0, .int (nI w)] D tb X z0 (sbT tb M N0 k t) (sn N0 k)) (me_Qr D z0 N0 (sbT tb M N0 (k + 1) (upd t k (sb_b w))) (sn N0 (k + 1))) 1 198 (me_A z0) := by
  have hsc := sb_sc (k := k) (by omega)
  have hvn := sb_vn N0 k
  skip
  rcases sb_lv (N0 := N0) (k := k) (k' := k + 1) (by omega) (by omega) (by omega) with ⟨h1, h2, h3, h4, h5⟩ | ⟨h1, h2, h3, h4, h5, h6⟩
  · unfold sbT
    rw [h3, h4, h5, ← tx_put (k := k) (t := t) (x := sb_b w)]
    exact c_J4_appC_A l D tb X z0 (sn N0 k) kK kV kO kT N0 (sv N0 k) (sc k) k (tx k t) M w hKS hKD hvn.1 h1 h2 hw9
  · unfold sbT
    rw [h4, h5, h6, ← tx_put (k := k) (t := t) (x := sb_b w), ← tx_cpy (k := k) (m := sc k) (t := t) hsc.1]
    have h7 : (sn N0 k) < sn N0 k + 1 := Nat.lt_succ_self _
    rw [tx_cpy (k := k) (m := sc k) (t := t) hsc.1]
    have e9 := tx_cpy (k := k) (m := sc k) (t := t) hsc.1
    have hh := c_J4_appC_B l D tb X z0 (sn N0 k) kK kV kO kT N0 (sv N0 k) (sc k) k w (tx k t) M hKS hKD hvn.1 (by omega) (hfr _ (by omega)) (tx_fit hft) h1 hsc.1 h3 hw9
    rw [e9] at hh
    exact hh
set_option maxHeartbeats 4000000 in
theorem c_J5_inflateIfNeededFor_a7421 (l : Launch) (D : va_G) (tb : Nat → ClassId) (X : State → Prop) (z0 n : Nat) (kK kV : Nat → Nat) (b v cap k : Nat) (f : Nat → Int32) (M : me_M) (i : Nat)  (hKS : ∀ U, X U → me_ks kK kV z0 U) (hi : i < 12) (hbv : b < v) : Met l yJ5_inflateIfNeededFor_a7421 (.code yJ5_inflateIfNeededFor_a7421 cJ5_inflateIfNeededFor_a7421 2 none :: ws_all) ({ frames := 1, cells := 0, slots := 0, locals := 20 } : Room) (me_Pc [.ref b, .ref (kK i)] D tb X z0 (sbV tb M b v cap k f) n) (me_Qv D z0 (sbV tb M b v cap k f) n) 0 0 (me_A z0) := by
  refine me_open (by decide) (Nat.le_of_ble_eq_true rfl) ?_
  intro p e s m args below meth c ls hC hr hlk hnm hM hl
  have hl : lv_has ls 2 [(0, .ref b), (1, .ref (kK i))] := hl
  have hx := hC.1
  have hb := hC.2.1
  have hw := hC.2.2.2.2.1
  refine va_gets hx hb (hKS s hC.2.2.2.2.2.1.2).2.1 hM.2.2.2.2 hC.2.2.2.1 (hw _ w_928) (fun _ h => h) dJ5_inflateIfNeededFor_a7421_0 ?_
  refine lv_if_eq (tgt := 21) hx hb dJ5_inflateIfNeededFor_a7421_3 (by decide) (fun c_1 => ?_) (fun c_1 => ?_)
  · exact absurd c_1 (by decide)
  · refine lv_aload_n hx hb dJ5_inflateIfNeededFor_a7421_6 rfl (lv_at hl 0 rfl) ?_
    refine fg_J5_22 hC hM (sb_o (by omega)) rfl dJ5_inflateIfNeededFor_a7421_7 ?_
    refine lv_aload_n hx hb dJ5_inflateIfNeededFor_a7421_10 rfl (lv_at hl 1 rfl) ?_
    refine me_callVri (As := []) (rest := [.int 0]) hC hl.1 hM (c_J0_coder_7d493 l D tb X z0 n kK kV (sbV tb M b v cap k f) i hKS hi) (kv_J5_40 hw rfl rfl ⟨Nat.le_of_ble_eq_true rfl, Nat.le_of_ble_eq_true rfl⟩) rfl (vk_recv (hKS s hC.2.2.2.2.2.1.2).1 hi hM.2.2.2.2) rfl (Nat.le_of_ble_eq_true rfl) dJ5_inflateIfNeededFor_a7421_11 ⟨Nat.le_of_ble_eq_true rfl, Nat.le_of_ble_eq_true rfl⟩ (fun H locs hM => ?_)
    refine lv_icmp_eq (tgt := 21) hx hb dJ5_inflateIfNeededFor_a7421_14 (by decide) (fun c_2 => ?_) (fun c_2 => ?_)
    · exact me_vret hC hr hlk hM (rfl) (rfl) dJ5_inflateIfNeededFor_a7421_21
    · exact absurd c_2 (by decide)
set_option maxHeartbeats 4000000 in
theorem c_J0_getBytes_840e7 (l : Launch) (D : va_G) (tb : Nat → ClassId) (X : State → Prop) (z0 n : Nat) (kK kV : Nat → Nat) (b v cap k : Nat) (f : Nat → Int32) (M : me_M) (i d : Nat)  (hKS : ∀ U, X U → me_ks kK kV z0 U) (hi : i < 12) (hbv : b < v) (hd : d + ks_len.getD i 0 ≤ cap) (hcap : cap ≤ 198) : Met l yJ0_getBytes_840e7 (.code yJ0_getBytes_840e7 cJ0_getBytes_840e7 4 none :: ws_all) ({ frames := 1, cells := 0, slots := 0, locals := 44 } : Room) (me_Pc [.ref (kK i), .ref v, .int (nI d), .int 0] D tb X z0 (sbV tb M b v cap k f) n) (me_Qv D z0 (sbV tb M b v cap k (va_cpy (ks_c i) (f) 0 (d) (ks_len.getD i 0))) n) 0 0 (me_A z0) := by
  refine me_open (by decide) (Nat.le_of_ble_eq_true rfl) ?_
  intro p e s m args below meth c ls hC hr hlk hnm hM hl
  have hl : lv_has ls 4 [(0, .ref (kK i)), (1, .ref v), (2, .int (nI d)), (3, .int 0)] := hl
  have hx := hC.1
  have hb := hC.2.1
  have hw := hC.2.2.2.2.1
  have hsm := ks_small i hi
  refine lv_aload_n hx hb dJ0_getBytes_840e7_0 rfl (lv_at hl 0 rfl) ?_
  refine me_callVri (As := []) (rest := []) hC hl.1 hM (c_J0_coder_7d493 l D tb X z0 n kK kV (sbV tb M b v cap k f) i hKS hi) (kv_J0_335 hw rfl rfl ⟨Nat.le_of_ble_eq_true rfl, Nat.le_of_ble_eq_true rfl⟩) rfl (vk_recv (hKS s hC.2.2.2.2.2.1.2).1 hi hM.2.2.2.2) rfl (Nat.le_of_ble_eq_true rfl) dJ0_getBytes_840e7_1 ⟨Nat.le_of_ble_eq_true rfl, Nat.le_of_ble_eq_true rfl⟩ (fun H locs hM => ?_)
  refine lv_iload_n hx hb dJ0_getBytes_840e7_4 rfl (lv_at hl 3 rfl) ?_
  refine lv_icmp_ne (tgt := 28) hx hb dJ0_getBytes_840e7_5 (by decide) (fun c_1 => ?_) (fun c_1 => ?_)
  · exact absurd c_1 (by decide)
  · refine lv_aload_n hx hb dJ0_getBytes_840e7_8 rfl (lv_at hl 0 rfl) ?_
    refine vk_getf hx hb ((hKS s hC.2.2.2.2.2.1.2).1.1 _ hi).2.2.1 hM.2.2.2.2 hC.2.2.2.1 (hw _ w_1090) (fun _ h => h) dJ0_getBytes_840e7_9 ?_
    refine lv_iconst (v := 0) hx hb dJ0_getBytes_840e7_12 (by decide) ?_
    refine lv_aload_n hx hb dJ0_getBytes_840e7_13 rfl (lv_at hl 1 rfl) ?_
    refine lv_iload_n hx hb dJ0_getBytes_840e7_14 rfl (lv_at hl 2 rfl) ?_
    refine lv_iload_n hx hb dJ0_getBytes_840e7_15 rfl (lv_at hl 3 rfl) ?_
    refine lv_ishl hx hb dJ0_getBytes_840e7_16 ?_
    refine me_evi (y := nI d) (sb_shl0 _) ?_
    refine lv_aload_n hx hb dJ0_getBytes_840e7_17 rfl (lv_at hl 0 rfl) ?_
    refine vk_getf hx hb ((hKS s hC.2.2.2.2.2.1.2).1.1 _ hi).2.2.1 hM.2.2.2.2 hC.2.2.2.1 (hw _ w_1090) (fun _ h => h) dJ0_getBytes_840e7_18 ?_
    refine va_tlen hx hb ((hKS s hC.2.2.2.2.2.1.2).1.1 _ hi).2.2.2 hM.2.2.2.2 (v := nI (ks_len.getD i 0)) rfl dJ0_getBytes_840e7_21 ?_
    refine me_copyt (f := ks_c i) (k := (ks_len.getD i 0)) (d := d) hC hl.1 hM w_975 w_922 w_921 w_18 ((hKS s hC.2.2.2.2.2.1.2).1.1 _ hi).2.2.2 sb_a (by omega) (by omega) (by omega) (ks_fit i hi) (M2 := sbV tb M b v cap k (va_cpy (ks_c i) f 0 d (ks_len.getD i 0))) sb_wf (Nat.le_of_ble_eq_true rfl) (Nat.le_of_ble_eq_true rfl) dJ0_getBytes_840e7_22 (fun H locs hM => ?_)
    refine lv_goto (tgt := 43) hx hb dJ0_getBytes_840e7_25 (by decide) ?_
    exact me_vret hC hr hlk hM (rfl) (rfl) dJ0_getBytes_840e7_43
set_option maxHeartbeats 4000000 in
theorem c_J5_putStringAt_47b60 (l : Launch) (D : va_G) (tb : Nat → ClassId) (X : State → Prop) (z0 n : Nat) (kK kV : Nat → Nat) (kO kT : Nat) (b v cap k : Nat) (f : Nat → Int32) (M : me_M) (i d : Nat)  (hKS : ∀ U, X U → me_ks kK kV z0 U) (hKD : ∀ U, X U → me_kd kO kT z0 U) (hi : i < 12) (hbv : b < v) (hd : d + ks_len.getD i 0 ≤ cap) (hcap : cap ≤ 198) : Met l yJ5_putStringAt_47b60 (.code yJ5_putStringAt_47b60 cJ5_putStringAt_47b60 3 none :: ws_all) ({ frames := 2, cells := 0, slots := 0, locals := 67 } : Room) (me_Pc [.ref b, .int (nI d), .ref (kK i)] D tb X z0 (sbV tb M b v cap k f) n) (me_Qv D z0 (sbV tb M b v cap k (va_cpy (ks_c i) (f) 0 (d) (ks_len.getD i 0))) n) 0 0 (me_A z0) := by
  refine me_open (by decide) (Nat.le_of_ble_eq_true rfl) ?_
  intro p e s m args below meth c ls hC hr hlk hnm hM hl
  have hl : lv_has ls 3 [(0, .ref b), (1, .int (nI d)), (2, .ref (kK i))] := hl
  have hx := hC.1
  have hb := hC.2.1
  have hw := hC.2.2.2.2.1
  have hsm := ks_small i hi
  refine lv_aload_n hx hb dJ5_putStringAt_47b60_0 rfl (lv_at hl 0 rfl) ?_
  refine lv_aload_n hx hb dJ5_putStringAt_47b60_1 rfl (lv_at hl 2 rfl) ?_
  refine me_callUv (As := [.ref (kK i)]) (rest := []) hC hl.1 hM (c_J5_inflateIfNeededFor_a7421 l D tb X z0 n kK kV b v cap k f M i hKS hi (by omega)) (ku_J5_397 hw rfl rfl ⟨Nat.le_of_ble_eq_true rfl, Nat.le_of_ble_eq_true rfl⟩ (va_Nw.use (by decide +kernel) (hKD s hC.2.2.2.2.2.1.2).2.2.2.2.2.2.2.1)) rfl rfl (sb_o (by omega)) rfl (Nat.le_of_ble_eq_true rfl) dJ5_putStringAt_47b60_2 ⟨Nat.le_of_ble_eq_true rfl, Nat.le_of_ble_eq_true rfl⟩ (fun H locs hM => ?_)
  refine lv_aload_n hx hb dJ5_putStringAt_47b60_5 rfl (lv_at hl 2 rfl) ?_
  refine lv_aload_n hx hb dJ5_putStringAt_47b60_6 rfl (lv_at hl 0 rfl) ?_
  refine fg_J5_15 hC hM (sb_o (by omega)) rfl dJ5_putStringAt_47b60_7 ?_
  refine lv_iload_n hx hb dJ5_putStringAt_47b60_10 rfl (lv_at hl 1 rfl) ?_
  refine lv_aload_n hx hb dJ5_putStringAt_47b60_11 rfl (lv_at hl 0 rfl) ?_
  refine fg_J5_22 hC hM (sb_o (by omega)) rfl dJ5_putStringAt_47b60_12 ?_
  refine me_callVrv (As := [.ref v, .int (nI d), .int 0]) (rest := []) hC hl.1 hM (c_J0_getBytes_840e7 l D tb X z0 n kK kV b v cap k f M i d hKS hi (by omega) (by omega) (by omega)) (kv_J5_399 hw rfl rfl ⟨Nat.le_of_ble_eq_true rfl, Nat.le_of_ble_eq_true rfl⟩) rfl (vk_recv (hKS s hC.2.2.2.2.2.1.2).1 hi hM.2.2.2.2) rfl (Nat.le_of_ble_eq_true rfl) dJ5_putStringAt_47b60_15 ⟨Nat.le_of_ble_eq_true rfl, Nat.le_of_ble_eq_true rfl⟩ (fun H locs hM => ?_)
  exact me_vret hC hr hlk hM (rfl) (rfl) dJ5_putStringAt_47b60_18
set_option maxHeartbeats 4000000 in
theorem c_J5_appS_B (l : Launch) (D : va_G) (tb : Nat → ClassId) (X : State → Prop) (z0 n : Nat) (kK kV : Nat → Nat) (kO kT : Nat) (b v cap k i : Nat) (f : Nat → Int32) (M : me_M)  (hKS : ∀ U, X U → me_ks kK kV z0 U) (hKD : ∀ U, X U → me_kd kO kT z0 U) (hi : i < 12) (hbv : b < v) (hvn : v < n) (hMv : M v = none) (hfit : sb_Fit f) (hk1 : cap < k + ks_len.getD i 0) (hk2 : k + ks_len.getD i 0 ≤ 2 * cap + 2) (hcap : cap ≤ 98) : Met l yJ5_append_cf1ce (.code yJ5_append_cf1ce cJ5_append_cf1ce 3 (Option.some (Jvm.ClassFile.FieldType.object "java/lang/AbstractStringBuilder")) :: ws_all) ({ frames := 4, cells := 1, slots := 198, locals := 91 } : Room) (me_Pc [.ref b, .ref (kK i)] D tb X z0 (sbV tb M b v cap k f) n) (me_Qr D z0 b (sbV tb M b n (2 * cap + 2) (k + ks_len.getD i 0) (va_cpy (ks_c i) (va_cpy f (fun _ => 0) 0 0 cap) 0 (k) (ks_len.getD i 0))) (n + 1)) 1 198 (me_A z0) := by
  refine me_open (by decide) (Nat.le_of_ble_eq_true rfl) ?_
  intro p e s m args below meth c ls hC hr hlk hnm hM hl
  have hl : lv_has ls 3 [(0, .ref b), (1, .ref (kK i))] := hl
  have hx := hC.1
  have hb := hC.2.1
  have hw := hC.2.2.2.2.1
  have hsm := ks_small i hi
  refine lv_aload_n hx hb dJ5_append_cf1ce_0 rfl (lv_at hl 1 rfl) ?_
  refine lv_ifnonnull (tgt := 9) hx hb dJ5_append_cf1ce_1 (by decide) ?_
  refine lv_aload_n hx hb dJ5_append_cf1ce_9 rfl (lv_at hl 1 rfl) ?_
  refine me_callVri (As := []) (rest := []) hC hl.1 hM (c_J0_length_8abf5 l D tb X z0 n kK kV (sbV tb M b v cap k f) i hKS hi) (kv_J5_32 hw rfl rfl ⟨Nat.le_of_ble_eq_true rfl, Nat.le_of_ble_eq_true rfl⟩) rfl (vk_recv (hKS s hC.2.2.2.2.2.1.2).1 hi hM.2.2.2.2) rfl (Nat.le_of_ble_eq_true rfl) dJ5_append_cf1ce_10 ⟨Nat.le_of_ble_eq_true rfl, Nat.le_of_ble_eq_true rfl⟩ (fun H locs hM => ?_)
  refine lv_istore_n (lv' := [(2, .int (nI (ks_len.getD i 0))), (0, .ref b), (1, .ref (kK i))]) hx hb dJ5_append_cf1ce_13 rfl hl (by decide) rfl (fun ls hl => ?_)
  refine lv_aload_n hx hb dJ5_append_cf1ce_14 rfl (lv_at hl 1 rfl) ?_
  refine lv_aload_n hx hb dJ5_append_cf1ce_15 rfl (lv_at hl 1 rfl) ?_
  refine fg_J5_79 hC hM (sb_o (by omega)) rfl dJ5_append_cf1ce_16 ?_
  refine lv_iload_n hx hb dJ5_append_cf1ce_19 rfl (lv_at hl 0 rfl) ?_
  refine lv_iadd hx hb dJ5_append_cf1ce_20 ?_
  refine me_stk (st2 := [.int (nI (k + (ks_len.getD i 0))), .ref b]) (by rw [(nx_add rfl rfl)]) ?_
  refine me_callUv (As := [.int (nI (k + (ks_len.getD i 0)))]) (rest := []) hC hl.1 hM (c_J5_ensure_B l D tb X z0 n kO kT b v cap k f M (k + (ks_len.getD i 0)) (fun U h => hKD U h) (by omega) (by omega) (hMv) (by omega) (by omega) (by omega) hfit) (ku_J5_100 hw rfl rfl ⟨Nat.le_of_ble_eq_true rfl, Nat.le_of_ble_eq_true rfl⟩ (va_Nw.use (by decide +kernel) (hKD s hC.2.2.2.2.2.1.2).2.2.2.2.1)) rfl rfl (sb_o (by omega)) rfl (Nat.le_of_ble_eq_true rfl) dJ5_append_cf1ce_21 ⟨Nat.le_of_ble_eq_true rfl, Nat.le_of_ble_eq_true rfl⟩ (fun H locs hM => ?_)
  refine lv_aload_n hx hb dJ5_append_cf1ce_24 rfl (lv_at hl 1 rfl) ?_
  refine lv_aload_n hx hb dJ5_append_cf1ce_25 rfl (lv_at hl 1 rfl) ?_
  refine fg_J5_79 hC hM (sb_o (by omega)) rfl dJ5_append_cf1ce_26 ?_
  refine lv_aload_n hx hb dJ5_append_cf1ce_29 rfl (lv_at hl 2 rfl) ?_
  refine me_callUv (As := [.int (nI k), .ref (kK i)]) (rest := []) hC hl.1 hM (c_J5_putStringAt_47b60 l D tb X z0 (n + 1) kK kV kO kT b n (2 * cap + 2) k (va_cpy f (fun _ => 0) 0 0 cap) M i k hKS hKD hi (by omega) (by omega) (by omega)) (ku_J5_208 hw rfl rfl ⟨Nat.le_of_ble_eq_true rfl, Nat.le_of_ble_eq_true rfl⟩ (va_Nw.use (by decide +kernel) (hKD s hC.2.2.2.2.2.1.2).2.2.2.2.2.2.1)) rfl rfl (sb_o (by omega)) rfl (Nat.le_of_ble_eq_true rfl) dJ5_append_cf1ce_30 ⟨Nat.le_of_ble_eq_true rfl, Nat.le_of_ble_eq_true rfl⟩ (fun H locs hM => ?_)
  refine lv_aload_n hx hb dJ5_append_cf1ce_33 rfl (lv_at hl 1 rfl) ?_
  refine lv_dup hx hb dJ5_append_cf1ce_34 rfl ?_
  refine fg_J5_79 hC hM (sb_o (by omega)) rfl dJ5_append_cf1ce_35 ?_
  refine lv_iload_n hx hb dJ5_append_cf1ce_38 rfl (lv_at hl 0 rfl) ?_
  refine lv_iadd hx hb dJ5_append_cf1ce_39 ?_
  refine me_evi (y := nI (k + (ks_len.getD i 0))) (nx_add rfl rfl) ?_
  refine fp_J5_79 hC hM (sb_o (by omega)) (Nat.le_of_ble_eq_true rfl) (M2 := sbV tb M b n (2 * cap + 2) (k + (ks_len.getD i 0)) (va_cpy (ks_c i) (va_cpy f (fun _ => 0) 0 0 cap) 0 (k) (ks_len.getD i 0))) (sb_wk (by omega)) dJ5_append_cf1ce_40 (fun H locs hM => ?_)
  refine lv_aload_n hx hb dJ5_append_cf1ce_43 rfl (lv_at hl 1 rfl) ?_
  exact me_aret hC hr (by first | exact Or.inl ⟨_, rfl⟩ | exact Or.inr ⟨_, rfl⟩) hlk hM (rfl) (rfl) dJ5_append_cf1ce_44
set_option maxHeartbeats 4000000 in
theorem c_J5_appS_A (l : Launch) (D : va_G) (tb : Nat → ClassId) (X : State → Prop) (z0 n : Nat) (kK kV : Nat → Nat) (kO kT : Nat) (b v cap k : Nat) (f : Nat → Int32) (M : me_M) (i : Nat)  (hKS : ∀ U, X U → me_ks kK kV z0 U) (hKD : ∀ U, X U → me_kd kO kT z0 U) (hi : i < 12) (hbv : b < v) (hk : k + ks_len.getD i 0 ≤ cap) (hcap : cap ≤ 198) : Met l yJ5_append_cf1ce (.code yJ5_append_cf1ce cJ5_append_cf1ce 3 (Option.some (Jvm.ClassFile.FieldType.object "java/lang/AbstractStringBuilder")) :: ws_all) ({ frames := 4, cells := 1, slots := 198, locals := 91 } : Room) (me_Pc [.ref b, .ref (kK i)] D tb X z0 (sbV tb M b v cap k f) n) (me_Qr D z0 b (sbV tb M b v cap (k + ks_len.getD i 0) (va_cpy (ks_c i) (f) 0 (k) (ks_len.getD i 0))) n) 1 198 (me_A z0) := by
  refine me_open (by decide) (Nat.le_of_ble_eq_true rfl) ?_
  intro p e s m args below meth c ls hC hr hlk hnm hM hl
  have hl : lv_has ls 3 [(0, .ref b), (1, .ref (kK i))] := hl
  have hx := hC.1
  have hb := hC.2.1
  have hw := hC.2.2.2.2.1
  have hsm := ks_small i hi
  refine lv_aload_n hx hb dJ5_append_cf1ce_0 rfl (lv_at hl 1 rfl) ?_
  refine lv_ifnonnull (tgt := 9) hx hb dJ5_append_cf1ce_1 (by decide) ?_
  refine lv_aload_n hx hb dJ5_append_cf1ce_9 rfl (lv_at hl 1 rfl) ?_
  refine me_callVri (As := []) (rest := []) hC hl.1 hM (c_J0_length_8abf5 l D tb X z0 n kK kV (sbV tb M b v cap k f) i hKS hi) (kv_J5_32 hw rfl rfl ⟨Nat.le_of_ble_eq_true rfl, Nat.le_of_ble_eq_true rfl⟩) rfl (vk_recv (hKS s hC.2.2.2.2.2.1.2).1 hi hM.2.2.2.2) rfl (Nat.le_of_ble_eq_true rfl) dJ5_append_cf1ce_10 ⟨Nat.le_of_ble_eq_true rfl, Nat.le_of_ble_eq_true rfl⟩ (fun H locs hM => ?_)
  refine lv_istore_n (lv' := [(2, .int (nI (ks_len.getD i 0))), (0, .ref b), (1, .ref (kK i))]) hx hb dJ5_append_cf1ce_13 rfl hl (by decide) rfl (fun ls hl => ?_)
  refine lv_aload_n hx hb dJ5_append_cf1ce_14 rfl (lv_at hl 1 rfl) ?_
  refine lv_aload_n hx hb dJ5_append_cf1ce_15 rfl (lv_at hl 1 rfl) ?_
  refine fg_J5_79 hC hM (sb_o (by omega)) rfl dJ5_append_cf1ce_16 ?_
  refine lv_iload_n hx hb dJ5_append_cf1ce_19 rfl (lv_at hl 0 rfl) ?_
  refine lv_iadd hx hb dJ5_append_cf1ce_20 ?_
  refine me_stk (st2 := [.int (nI (k + (ks_len.getD i 0))), .ref b]) (by rw [(nx_add rfl rfl)]) ?_
  refine me_callUv (As := [.int (nI (k + (ks_len.getD i 0)))]) (rest := []) hC hl.1 hM (c_J5_ensure_A l D tb X z0 n b v cap k f M (k + (ks_len.getD i 0)) (by omega) (by omega) (by omega)) (ku_J5_100 hw rfl rfl ⟨Nat.le_of_ble_eq_true rfl, Nat.le_of_ble_eq_true rfl⟩ (va_Nw.use (by decide +kernel) (hKD s hC.2.2.2.2.2.1.2).2.2.2.2.1)) rfl rfl (sb_o (by omega)) rfl (Nat.le_of_ble_eq_true rfl) dJ5_append_cf1ce_21 ⟨Nat.le_of_ble_eq_true rfl, Nat.le_of_ble_eq_true rfl⟩ (fun H locs hM => ?_)
  refine lv_aload_n hx hb dJ5_append_cf1ce_24 rfl (lv_at hl 1 rfl) ?_
  refine lv_aload_n hx hb dJ5_append_cf1ce_25 rfl (lv_at hl 1 rfl) ?_
  refine fg_J5_79 hC hM (sb_o (by omega)) rfl dJ5_append_cf1ce_26 ?_
  refine lv_aload_n hx hb dJ5_append_cf1ce_29 rfl (lv_at hl 2 rfl) ?_
  refine me_callUv (As := [.int (nI k), .ref (kK i)]) (rest := []) hC hl.1 hM (c_J5_putStringAt_47b60 l D tb X z0 n kK kV kO kT b v cap k f M i k hKS hKD hi (by omega) (by omega) (by omega)) (ku_J5_208 hw rfl rfl ⟨Nat.le_of_ble_eq_true rfl, Nat.le_of_ble_eq_true rfl⟩ (va_Nw.use (by decide +kernel) (hKD s hC.2.2.2.2.2.1.2).2.2.2.2.2.2.1)) rfl rfl (sb_o (by omega)) rfl (Nat.le_of_ble_eq_true rfl) dJ5_append_cf1ce_30 ⟨Nat.le_of_ble_eq_true rfl, Nat.le_of_ble_eq_true rfl⟩ (fun H locs hM => ?_)
  refine lv_aload_n hx hb dJ5_append_cf1ce_33 rfl (lv_at hl 1 rfl) ?_
  refine lv_dup hx hb dJ5_append_cf1ce_34 rfl ?_
  refine fg_J5_79 hC hM (sb_o (by omega)) rfl dJ5_append_cf1ce_35 ?_
  refine lv_iload_n hx hb dJ5_append_cf1ce_38 rfl (lv_at hl 0 rfl) ?_
  refine lv_iadd hx hb dJ5_append_cf1ce_39 ?_
  refine me_evi (y := nI (k + (ks_len.getD i 0))) (nx_add rfl rfl) ?_
  refine fp_J5_79 hC hM (sb_o (by omega)) (Nat.le_of_ble_eq_true rfl) (M2 := sbV tb M b v cap (k + (ks_len.getD i 0)) (va_cpy (ks_c i) (f) 0 (k) (ks_len.getD i 0))) (sb_wk (by omega)) dJ5_append_cf1ce_40 (fun H locs hM => ?_)
  refine lv_aload_n hx hb dJ5_append_cf1ce_43 rfl (lv_at hl 1 rfl) ?_
  exact me_aret hC hr (by first | exact Or.inl ⟨_, rfl⟩ | exact Or.inr ⟨_, rfl⟩) hlk hM (rfl) (rfl) dJ5_append_cf1ce_44
set_option maxHeartbeats 4000000 in
theorem c_J4_appS_B (l : Launch) (D : va_G) (tb : Nat → ClassId) (X : State → Prop) (z0 n : Nat) (kK kV : Nat → Nat) (kO kT : Nat) (b v cap k i : Nat) (f : Nat → Int32) (M : me_M)  (hKS : ∀ U, X U → me_ks kK kV z0 U) (hKD : ∀ U, X U → me_kd kO kT z0 U) (hi : i < 12) (hbv : b < v) (hvn : v < n) (hMv : M v = none) (hfit : sb_Fit f) (hk1 : cap < k + ks_len.getD i 0) (hk2 : k + ks_len.getD i 0 ≤ 2 * cap + 2) (hcap : cap ≤ 98) : Met l yJ4_append_15ec4 (.code yJ4_append_15ec4 cJ4_append_15ec4 2 (Option.some (Jvm.ClassFile.FieldType.object "java/lang/StringBuilder")) :: ws_all) ({ frames := 5, cells := 1, slots := 198, locals := 113 } : Room) (me_Pc [.ref b, .ref (kK i)] D tb X z0 (sbV tb M b v cap k f) n) (me_Qr D z0 b (sbV tb M b n (2 * cap + 2) (k + ks_len.getD i 0) (va_cpy (ks_c i) (va_cpy f (fun _ => 0) 0 0 cap) 0 (k) (ks_len.getD i 0))) (n + 1)) 1 198 (me_A z0) := by
  refine me_open (by decide) (Nat.le_of_ble_eq_true rfl) ?_
  intro p e s m args below meth c ls hC hr hlk hnm hM hl
  have hl : lv_has ls 2 [(0, .ref b), (1, .ref (kK i))] := hl
  have hx := hC.1
  have hb := hC.2.1
  have hw := hC.2.2.2.2.1
  refine lv_aload_n hx hb dJ4_append_15ec4_0 rfl (lv_at hl 0 rfl) ?_
  refine lv_aload_n hx hb dJ4_append_15ec4_1 rfl (lv_at hl 1 rfl) ?_
  refine me_callSUr (As := [.ref (kK i)]) (rest := []) hC hl.1 hM (c_J5_appS_B l D tb X z0 n kK kV kO kT b v cap k i f M hKS hKD hi hbv hvn hMv hfit hk1 hk2 hcap) (kz_J4_29 hw rfl rfl ⟨Nat.le_of_ble_eq_true rfl, Nat.le_of_ble_eq_true rfl⟩) rfl rfl (sb_o (by omega)) rfl (Nat.le_of_ble_eq_true rfl) dJ4_append_15ec4_2 ⟨Nat.le_of_ble_eq_true rfl, Nat.le_of_ble_eq_true rfl⟩ (fun H locs hM => ?_)
  refine lv_pop hx hb dJ4_append_15ec4_5 rfl ?_
  refine lv_aload_n hx hb dJ4_append_15ec4_6 rfl (lv_at hl 0 rfl) ?_
  exact me_aret hC hr (by first | exact Or.inl ⟨_, rfl⟩ | exact Or.inr ⟨_, rfl⟩) hlk hM (rfl) (rfl) dJ4_append_15ec4_7
set_option maxHeartbeats 4000000 in
theorem c_J4_appS_A (l : Launch) (D : va_G) (tb : Nat → ClassId) (X : State → Prop) (z0 n : Nat) (kK kV : Nat → Nat) (kO kT : Nat) (b v cap k : Nat) (f : Nat → Int32) (M : me_M) (i : Nat)  (hKS : ∀ U, X U → me_ks kK kV z0 U) (hKD : ∀ U, X U → me_kd kO kT z0 U) (hi : i < 12) (hbv : b < v) (hk : k + ks_len.getD i 0 ≤ cap) (hcap : cap ≤ 198) : Met l yJ4_append_15ec4 (.code yJ4_append_15ec4 cJ4_append_15ec4 2 (Option.some (Jvm.ClassFile.FieldType.object "java/lang/StringBuilder")) :: ws_all) ({ frames := 5, cells := 1, slots := 198, locals := 113 } : Room) (me_Pc [.ref b, .ref (kK i)] D tb X z0 (sbV tb M b v cap k f) n) (me_Qr D z0 b (sbV tb M b v cap (k + ks_len.getD i 0) (va_cpy (ks_c i) (f) 0 (k) (ks_len.getD i 0))) n) 1 198 (me_A z0) := by
  refine me_open (by decide) (Nat.le_of_ble_eq_true rfl) ?_
  intro p e s m args below meth c ls hC hr hlk hnm hM hl
  have hl : lv_has ls 2 [(0, .ref b), (1, .ref (kK i))] := hl
  have hx := hC.1
  have hb := hC.2.1
  have hw := hC.2.2.2.2.1
  refine lv_aload_n hx hb dJ4_append_15ec4_0 rfl (lv_at hl 0 rfl) ?_
  refine lv_aload_n hx hb dJ4_append_15ec4_1 rfl (lv_at hl 1 rfl) ?_
  refine me_callSUr (As := [.ref (kK i)]) (rest := []) hC hl.1 hM (c_J5_appS_A l D tb X z0 n kK kV kO kT b v cap k f M i hKS hKD hi (by omega) (by omega) (by omega)) (kz_J4_29 hw rfl rfl ⟨Nat.le_of_ble_eq_true rfl, Nat.le_of_ble_eq_true rfl⟩) rfl rfl (sb_o (by omega)) rfl (Nat.le_of_ble_eq_true rfl) dJ4_append_15ec4_2 ⟨Nat.le_of_ble_eq_true rfl, Nat.le_of_ble_eq_true rfl⟩ (fun H locs hM => ?_)
  refine lv_pop hx hb dJ4_append_15ec4_5 rfl ?_
  refine lv_aload_n hx hb dJ4_append_15ec4_6 rfl (lv_at hl 0 rfl) ?_
  exact me_aret hC hr (by first | exact Or.inl ⟨_, rfl⟩ | exact Or.inr ⟨_, rfl⟩) hlk hM (rfl) (rfl) dJ4_append_15ec4_7
set_option maxHeartbeats 4000000 in
theorem c_J4_appS_O (l : Launch) (D : va_G) (tb : Nat → ClassId) (X : State → Prop) (z0 n : Nat) (kK kV : Nat → Nat) (kO kT : Nat) (b v cap k : Nat) (f : Nat → Int32) (M : me_M) (i : Nat)  (hKS : ∀ U, X U → me_ks kK kV z0 U) (hKD : ∀ U, X U → me_kd kO kT z0 U) (hi : i < 12) (hbv : b < v) (hk : k + ks_len.getD i 0 ≤ cap) (hcap : cap ≤ 198) : Met l yJ4_append_cf1ce (.code yJ4_append_cf1ce cJ4_append_cf1ce 2 (Option.some (Jvm.ClassFile.FieldType.object "java/lang/AbstractStringBuilder")) :: ws_all) ({ frames := 6, cells := 1, slots := 198, locals := 134 } : Room) (me_Pc [.ref b, .ref (kK i)] D tb X z0 (sbV tb M b v cap k f) n) (me_Qr D z0 b (sbV tb M b v cap (k + ks_len.getD i 0) (va_cpy (ks_c i) (f) 0 (k) (ks_len.getD i 0))) n) 1 198 (me_A z0) := by
  refine me_open (by decide) (Nat.le_of_ble_eq_true rfl) ?_
  intro p e s m args below meth c ls hC hr hlk hnm hM hl
  have hl : lv_has ls 2 [(0, .ref b), (1, .ref (kK i))] := hl
  have hx := hC.1
  have hb := hC.2.1
  have hw := hC.2.2.2.2.1
  refine lv_aload_n hx hb dJ4_append_cf1ce_0 rfl (lv_at hl 0 rfl) ?_
  refine lv_aload_n hx hb dJ4_append_cf1ce_1 rfl (lv_at hl 1 rfl) ?_
  refine me_callVr (As := [.ref (kK i)]) (rest := []) hC hl.1 hM (c_J4_appS_A l D tb X z0 n kK kV kO kT b v cap k f M i hKS hKD hi (by omega) (by omega) (by omega)) (kv_J4_23 hw rfl rfl ⟨Nat.le_of_ble_eq_true rfl, Nat.le_of_ble_eq_true rfl⟩) rfl rfl (sb_o (by omega)) rfl (Nat.le_of_ble_eq_true rfl) dJ4_append_cf1ce_2 ⟨Nat.le_of_ble_eq_true rfl, Nat.le_of_ble_eq_true rfl⟩ (fun H locs hM => ?_)
  exact me_aret hC hr (by first | exact Or.inl ⟨_, rfl⟩ | exact Or.inr ⟨_, rfl⟩) hlk hM (rfl) (rfl) dJ4_append_cf1ce_5
theorem c_J4_append_15ec4 (l : Launch) (D : va_G) (tb : Nat → ClassId) (X : State → Prop) (z0 : Nat) (kK kV : Nat → Nat) (kO kT N0 k i : Nat) (t : Nat → Int32) (M : me_M) (hKS : ∀ U, X U → me_ks kK kV z0 U) (hKD : ∀ U, X U → me_kd kO kT z0 U) (hfr : ∀ q, N0 ≤ q → M q = none) (hk : k + ks_len.getD i 0 ≤ 198) (hi : i < 12) (hl : ks_len.getD i 0 ≤ 10) (hft : sb_Fit t) : Met l yJ4_append_15ec4 (.code yJ4_append_15ec4 cJ4_append_15ec4 2 (Option.some (Jvm.ClassFile.FieldType.object "java/lang/StringBuilder")) :: ws_all) ({ frames := 5, cells := 1, slots := 198, locals := 113 } : Room) (me_Pc [.ref N0, .ref (kK i)] D tb X z0 (sbT tb M N0 k t) (sn N0 k)) (me_Qr D z0 N0 (sbT tb M N0 (k + ks_len.getD i 0) (va_cpy (ks_c i) (t) 0 (k) (ks_len.getD i 0))) (sn N0 (k + ks_len.getD i 0))) 1 198 (me_A z0) := by
  have hsc := sb_sc (k := k) (by omega)
  have hvn := sb_vn N0 k
  skip
  rcases sb_lv (N0 := N0) (k := k) (k' := k + ks_len.getD i 0) (by omega) (by omega) (by omega) with ⟨h1, h2, h3, h4, h5⟩ | ⟨h1, h2, h3, h4, h5, h6⟩
  · unfold sbT
    rw [h3, h4, h5, ← tx_cat (k := k) (t := t) (f := ks_c i) (m := ks_len.getD i 0)]
    exact c_J4_appS_A l D tb X z0 (sn N0 k) kK kV kO kT N0 (sv N0 k) (sc k) k (tx k t) M i hKS hKD hi hvn.1 h1 h2
  · unfold sbT
    rw [h4, h5, h6, ← tx_cat (k := k) (t := t) (f := ks_c i) (m := ks_len.getD i 0), ← tx_cpy (k := k) (m := sc k) (t := t) hsc.1]
    have h7 : (sn N0 k) < sn N0 k + 1 := Nat.lt_succ_self _
    rw [tx_cpy (k := k) (m := sc k) (t := t) hsc.1]
    have e9 := tx_cpy (k := k) (m := sc k) (t := t) hsc.1
    have hh := c_J4_appS_B l D tb X z0 (sn N0 k) kK kV kO kT N0 (sv N0 k) (sc k) k i (tx k t) M hKS hKD hi hvn.1 (by omega) (hfr _ (by omega)) (tx_fit hft) h1 h2 h3
    rw [e9] at hh
    exact hh
set_option maxHeartbeats 4000000 in
theorem c_J5_init_a7421 (l : Launch) (D : va_G) (tb : Nat → ClassId) (X : State → Prop) (z0 n : Nat) (kK kV : Nat → Nat) (kO kT : Nat) (b : Nat) (M : me_M)  (hKS : ∀ U, X U → me_ks kK kV z0 U) (hKD : ∀ U, X U → me_kd kO kT z0 U) (he : M b = some (.inr (9, [.null, .int 0, .int 0, .int 0]))) (hbn : b < n) : Met l yJ5_init_a7421 (.code yJ5_init_a7421 cJ5_init_a7421 5 none :: ws_all) ({ frames := 7, cells := 2, slots := 221, locals := 155 } : Room) (me_Pc [.ref b, .ref (kK 8)] D tb X z0 (M) n) (me_Qv D z0 (sbV tb M b n 23 (0 + ks_len.getD 8 0) (va_cpy (ks_c 8) (fun _ => 0) 0 (0) (ks_len.getD 8 0))) (n + 1)) 2 221 (me_A z0) := by
  refine me_open (by decide) (Nat.le_of_ble_eq_true rfl) ?_
  intro p e s m args below meth c ls hC hr hlk hnm hM hl
  have hl : lv_has ls 5 [(0, .ref b), (1, .ref (kK 8))] := hl
  have hx := hC.1
  have hb := hC.2.1
  have hw := hC.2.2.2.2.1
  refine lv_aload_n hx hb dJ5_init_a7421_0 rfl (lv_at hl 0 rfl) ?_
  refine W.objInit hx hb hC.2.2.2.1 (hw _ w_864) (hw _ w_32) (hw _ w_33) rfl (by rw [hC.2.2.1]; exact hl.1) rfl dJ5_init_a7421_1 (Nat.le_of_ble_eq_true rfl) (Nat.le_of_ble_eq_true rfl) ?_
  refine W.eq (g2 := F0 m 4 ls []) rfl ?_
  refine lv_aload_n hx hb dJ5_init_a7421_4 rfl (lv_at hl 1 rfl) ?_
  refine me_callVri (As := []) (rest := []) hC hl.1 hM (c_J0_length_8abf5 l D tb X z0 n kK kV M 8 hKS (show 8 < 12 by decide)) (kv_J5_32 hw rfl rfl ⟨Nat.le_of_ble_eq_true rfl, Nat.le_of_ble_eq_true rfl⟩) rfl (vk_recv (hKS s hC.2.2.2.2.2.1.2).1 (show 8 < 12 by decide) hM.2.2.2.2) rfl (Nat.le_of_ble_eq_true rfl) dJ5_init_a7421_5 ⟨Nat.le_of_ble_eq_true rfl, Nat.le_of_ble_eq_true rfl⟩ (fun H locs hM => ?_)
  refine me_evi (y := 7) (by decide +kernel) ?_
  refine lv_istore_n (lv' := [(2, .int 7), (0, .ref b), (1, .ref (kK 8))]) hx hb dJ5_init_a7421_8 rfl hl (by decide) rfl (fun ls hl => ?_)
  refine lv_iload_n hx hb dJ5_init_a7421_9 rfl (lv_at hl 0 rfl) ?_
  refine lv_ldc (v := 2147483631) hx hb hC.2.2.2.1 (hw _ w_866) dJ5_init_a7421_10 ?_
  refine lv_icmp_ge (tgt := 22) hx hb dJ5_init_a7421_12 (by decide) (fun c_1 => ?_) (fun c_1 => ?_)
  · exact absurd c_1 (by decide)
  · have c_1q := c_1
    have c_1 := Int32.not_le.mp c_1
    refine lv_iload_n hx hb dJ5_init_a7421_15 rfl (lv_at hl 0 rfl) ?_
    refine lv_bipush (v := 16) hx hb dJ5_init_a7421_16 (by decide) ?_
    refine lv_iadd hx hb dJ5_init_a7421_18 ?_
    refine me_evi (y := 23) (by decide) ?_
    refine lv_goto (tgt := 24) hx hb dJ5_init_a7421_19 (by decide) ?_
    refine lv_istore_n (lv' := [(3, .int 23), (2, .int 7), (0, .ref b), (1, .ref (kK 8))]) hx hb dJ5_init_a7421_24 rfl hl (by decide) rfl (fun ls hl => ?_)
    refine lv_aload_n hx hb dJ5_init_a7421_25 rfl (lv_at hl 3 rfl) ?_
    refine me_callVri (As := []) (rest := []) hC hl.1 hM (c_J0_coder_7d493 l D tb X z0 n kK kV M 8 hKS (show 8 < 12 by decide)) (kv_J5_40 hw rfl rfl ⟨Nat.le_of_ble_eq_true rfl, Nat.le_of_ble_eq_true rfl⟩) rfl (vk_recv (hKS s hC.2.2.2.2.2.1.2).1 (show 8 < 12 by decide) hM.2.2.2.2) rfl (Nat.le_of_ble_eq_true rfl) dJ5_init_a7421_26 ⟨Nat.le_of_ble_eq_true rfl, Nat.le_of_ble_eq_true rfl⟩ (fun H locs hM => ?_)
    refine lv_istore (lv' := [(4, .int 0), (3, .int 23), (2, .int 7), (0, .ref b), (1, .ref (kK 8))]) hx hb dJ5_init_a7421_29 hl (by decide) rfl (fun ls hl => ?_)
    refine lv_aload_n hx hb dJ5_init_a7421_31 rfl (lv_at hl 3 rfl) ?_
    refine lv_iload hx hb dJ5_init_a7421_32 (lv_at hl 0 rfl) ?_
    refine fp_J5_22 hC hM he (Nat.le_of_ble_eq_true rfl) (by first | rfl | decide) (by first | rfl | decide) (M2 := me_up M b (.inr (9, [.null, .int 0, .int 0, .int 0]))) rfl dJ5_init_a7421_34 (fun H locs hM => ?_)
    refine lv_aload_n hx hb dJ5_init_a7421_37 rfl (lv_at hl 3 rfl) ?_
    refine lv_iload hx hb dJ5_init_a7421_38 (lv_at hl 0 rfl) ?_
    refine lv_if_ne (tgt := 49) hx hb dJ5_init_a7421_40 (by decide) (fun c_2 => ?_) (fun c_2 => ?_)
    · exact absurd c_2 (by decide)
    · refine lv_iload_n hx hb dJ5_init_a7421_43 rfl (lv_at hl 1 rfl) ?_
      refine me_newa (atype := .byte) (N' := 23) (a0 := (23, .inl (fun _ => 0))) (k := 1) (M2 := me_up (me_up M b (.inr (9, [.null, .int 0, .int 0, .int 0]))) n (.inl (tb 1, 23, .inl (fun _ => 0)))) hC hM w_331 rfl (fun _ => rfl) (by decide) (by decide) (by decide) (Nat.le_of_ble_eq_true rfl) (Nat.le_of_ble_eq_true rfl) rfl dJ5_init_a7421_44 (fun H hM => ?_)
      refine lv_goto (tgt := 53) hx hb dJ5_init_a7421_46 (by decide) ?_
      refine fp_J5_15 hC hM ((me_up_n (by omega)).trans (me_up_s _ _ _)) (Nat.le_of_ble_eq_true rfl) (M2 := me_up (me_up (me_up M b (.inr (9, [.null, .int 0, .int 0, .int 0]))) n (.inl (tb 1, 23, .inl (fun _ => 0)))) b (.inr (9, [.ref n, .int 0, .int 0, .int 0]))) rfl dJ5_init_a7421_53 (fun H locs hM => ?_)
      have hM := hM.eq (M2 := sbV tb M b n 23 0 (fun _ => 0)) (by rw [up_comm (a := n) (b := b) (by omega), me_up_up]; rfl)
      refine lv_aload_n hx hb dJ5_init_a7421_56 rfl (lv_at hl 3 rfl) ?_
      refine lv_aload_n hx hb dJ5_init_a7421_57 rfl (lv_at hl 4 rfl) ?_
      refine me_callUr (As := [.ref (kK 8)]) (rest := []) hC hl.1 hM (c_J4_appS_O l D tb X z0 (n + 1) kK kV kO kT b n 23 0 (fun _ => 0) M 8 hKS hKD (by decide) (by omega) (by decide) (by decide)) (ku_J5_43 hw rfl rfl ⟨Nat.le_of_ble_eq_true rfl, Nat.le_of_ble_eq_true rfl⟩ (hw _ w_879)) rfl rfl (sb_o (by omega)) rfl (Nat.le_of_ble_eq_true rfl) dJ5_init_a7421_58 ⟨Nat.le_of_ble_eq_true rfl, Nat.le_of_ble_eq_true rfl⟩ (fun H locs hM => ?_)
      refine lv_pop hx hb dJ5_init_a7421_61 rfl ?_
      exact me_vret hC hr hlk hM (rfl) (rfl) dJ5_init_a7421_62
set_option maxHeartbeats 4000000 in
theorem c_J4_init_a7421 (l : Launch) (D : va_G) (tb : Nat → ClassId) (X : State → Prop) (z0 n : Nat) (kK kV : Nat → Nat) (kO kT : Nat) (b : Nat) (M : me_M)  (hKS : ∀ U, X U → me_ks kK kV z0 U) (hKD : ∀ U, X U → me_kd kO kT z0 U) (he : M b = some (.inr (9, [.null, .int 0, .int 0, .int 0]))) (hbn : b < n) : Met l yJ4_init_a7421 (.code yJ4_init_a7421 cJ4_init_a7421 2 none :: ws_all) ({ frames := 8, cells := 2, slots := 221, locals := 179 } : Room) (me_Pc [.ref b, .ref (kK 8)] D tb X z0 (M) n) (me_Qv D z0 (sbV tb M b n 23 (0 + ks_len.getD 8 0) (va_cpy (ks_c 8) (fun _ => 0) 0 (0) (ks_len.getD 8 0))) (n + 1)) 2 221 (me_A z0) := by
  refine me_open (by decide) (Nat.le_of_ble_eq_true rfl) ?_
  intro p e s m args below meth c ls hC hr hlk hnm hM hl
  have hl : lv_has ls 2 [(0, .ref b), (1, .ref (kK 8))] := hl
  have hx := hC.1
  have hb := hC.2.1
  have hw := hC.2.2.2.2.1
  refine lv_aload_n hx hb dJ4_init_a7421_0 rfl (lv_at hl 0 rfl) ?_
  refine lv_aload_n hx hb dJ4_init_a7421_1 rfl (lv_at hl 1 rfl) ?_
  refine me_callIv (As := [.ref (kK 8)]) (rest := []) hC hl.1 hM (c_J5_init_a7421 l D tb X z0 n kK kV kO kT b M hKS hKD he hbn) (ki_J4_7 hw rfl rfl ⟨Nat.le_of_ble_eq_true rfl, Nat.le_of_ble_eq_true rfl⟩) rfl rfl (Nat.le_of_ble_eq_true rfl) dJ4_init_a7421_2 ⟨Nat.le_of_ble_eq_true rfl, Nat.le_of_ble_eq_true rfl⟩ (fun H locs hM => ?_)
  exact me_vret hC hr hlk hM (rfl) (rfl) dJ4_init_a7421_5
