set_option maxHeartbeats 4000000 in
theorem c_X8_thrown (l : Launch) (D : va_G) (tb : Nat → ClassId) (X : State → Prop) (z0 n : Nat) (mo : Nat) (F w av od sv sl nz ip ot : Nat → Int32) (M0 : me_M)  : Met l yX8_thrown (.code yX8_thrown cX8_thrown 1 (some .int) :: ws_all) ({ frames := 0, cells := 0, slots := 0, locals := 0 } : Room) (me_Pc [.ref mo] D tb X z0 (mq tb mo F w av od sv sl nz ip ot M0) n) (me_Qi D z0 (F 0) (mq tb mo F w av od sv sl nz ip ot M0) n) 0 0 (me_A z0) := by
  refine me_open (by decide) (Nat.le_of_ble_eq_true rfl) ?_
  intro p e s m args below meth c ls hC hr hlk hnm hM hl
  have hl : lv_has ls 1 [(0, .ref mo)] := hl
  have hx := hC.1
  have hb := hC.2.1
  have hw := hC.2.2.2.2.1
  refine lv_aload_n hx hb dX8_thrown_0 rfl (lv_at hl 0 rfl) ?_
  refine fg_X8_64 hC hM mq_F rfl dX8_thrown_1 ?_
  exact me_iret hC hr hlk hM (by first | rfl | simp []) (rfl) (rfl) dX8_thrown_4
set_option maxHeartbeats 4000000 in
theorem c_X8_refuse (l : Launch) (D : va_G) (tb : Nat → ClassId) (X : State → Prop) (z0 n : Nat) (mo : Nat) (F w av od sv sl nz ip ot : Nat → Int32) (M0 : me_M) (x : Int32)  : Met l yX8_refuse (.code yX8_refuse cX8_refuse 2 (some .int) :: ws_all) ({ frames := 0, cells := 0, slots := 0, locals := 0 } : Room) (me_Pc [.ref mo, .int x] D tb X z0 (mq tb mo F w av od sv sl nz ip ot M0) n) (me_Qi D z0 0 (mq tb mo (upd F 0 x) w av od sv sl nz ip ot M0) n) 0 0 (me_A z0) := by
  refine me_open (by decide) (Nat.le_of_ble_eq_true rfl) ?_
  intro p e s m args below meth c ls hC hr hlk hnm hM hl
  have hl : lv_has ls 2 [(0, .ref mo), (1, .int x)] := hl
  have hx := hC.1
  have hb := hC.2.1
  have hw := hC.2.2.2.2.1
  refine lv_aload_n hx hb dX8_refuse_0 rfl (lv_at hl 0 rfl) ?_
  refine lv_iload_n hx hb dX8_refuse_1 rfl (lv_at hl 1 rfl) ?_
  refine fp_X8_64 hC hM mq_F (Nat.le_of_ble_eq_true rfl) (M2 := mq tb mo (upd F 0 x) w av od sv sl nz ip ot M0) (mq_wF (i := 0) (by simp [upd])) dX8_refuse_2 (fun H locs hM => ?_)
  refine lv_iconst (v := 0) hx hb dX8_refuse_5 (by decide) ?_
  exact me_iret hC hr hlk hM (by first | rfl | simp []) (rfl) (rfl) dX8_refuse_6
set_option maxHeartbeats 4000000 in
theorem c_X8_told (l : Launch) (D : va_G) (tb : Nat → ClassId) (X : State → Prop) (z0 n : Nat) (mo : Nat) (F w av od sv sl nz ip ot : Nat → Int32) (M0 : me_M) (x : Int32)  : Met l yX8_told (.code yX8_told cX8_told 2 (some .int) :: ws_all) ({ frames := 0, cells := 0, slots := 0, locals := 0 } : Room) (me_Pc [.ref mo, .int x] D tb X z0 (mq tb mo F w av od sv sl nz ip ot M0) n) (me_Qi D z0 x (mq tb mo (upd F 0 0) w av od sv sl nz ip ot M0) n) 0 0 (me_A z0) := by
  refine me_open (by decide) (Nat.le_of_ble_eq_true rfl) ?_
  intro p e s m args below meth c ls hC hr hlk hnm hM hl
  have hl : lv_has ls 2 [(0, .ref mo), (1, .int x)] := hl
  have hx := hC.1
  have hb := hC.2.1
  have hw := hC.2.2.2.2.1
  refine lv_aload_n hx hb dX8_told_0 rfl (lv_at hl 0 rfl) ?_
  refine lv_iconst (v := 0) hx hb dX8_told_1 (by decide) ?_
  refine fp_X8_64 hC hM mq_F (Nat.le_of_ble_eq_true rfl) (M2 := mq tb mo (upd F 0 0) w av od sv sl nz ip ot M0) (mq_wF (i := 0) (by simp [upd])) dX8_told_2 (fun H locs hM => ?_)
  refine lv_iload_n hx hb dX8_told_5 rfl (lv_at hl 1 rfl) ?_
  exact me_iret hC hr hlk hM (by first | rfl | simp []) (rfl) (rfl) dX8_told_6
set_option maxHeartbeats 4000000 in
theorem c_X8_in (l : Launch) (D : va_G) (tb : Nat → ClassId) (X : State → Prop) (z0 n : Nat) (M : me_M) (x y9 z9 : Int32)  : Met l yX8_in (.code yX8_in cX8_in 3 (some .boolean) :: ws_all) ({ frames := 0, cells := 0, slots := 0, locals := 0 } : Room) (me_Pc [.int x, .int y9, .int z9] D tb X z0 (M) n) (me_Qi D z0 (b1 (inP x y9 z9)) (M) n) 0 0 (me_A z0) := by
  refine me_open (by decide) (Nat.le_of_ble_eq_true rfl) ?_
  intro p e s m args below meth c ls hC hr hlk hnm hM hl
  have hl : lv_has ls 3 [(0, .int x), (1, .int y9), (2, .int z9)] := hl
  have hx := hC.1
  have hb := hC.2.1
  have hw := hC.2.2.2.2.1
  refine lv_iload_n hx hb dX8_in_0 rfl (lv_at hl 0 rfl) ?_
  refine lv_iload_n hx hb dX8_in_1 rfl (lv_at hl 1 rfl) ?_
  refine lv_icmp_lt (tgt := 14) hx hb dX8_in_2 (by decide) (fun c_1 => ?_) (fun c_1 => ?_)
  · have c_1q := Int32.not_le.mpr c_1
    refine lv_iconst (v := 0) hx hb dX8_in_14 (by decide) ?_
    exact me_zret hC hr hlk hM (by first | rfl | simp [b1, inP, c_1, c_1q]) (by first | decide | simp) (rfl) (rfl) dX8_in_15
  · have c_1q := Int32.not_lt.mp c_1
    refine lv_iload_n hx hb dX8_in_5 rfl (lv_at hl 0 rfl) ?_
    refine lv_iload_n hx hb dX8_in_6 rfl (lv_at hl 2 rfl) ?_
    refine lv_icmp_gt (tgt := 14) hx hb dX8_in_7 (by decide) (fun c_2 => ?_) (fun c_2 => ?_)
    · have c_2q := Int32.not_le.mpr c_2
      refine lv_iconst (v := 0) hx hb dX8_in_14 (by decide) ?_
      exact me_zret hC hr hlk hM (by first | rfl | simp [b1, inP, c_1, c_2, c_1q, c_2q]) (by first | decide | simp) (rfl) (rfl) dX8_in_15
    · have c_2q := Int32.not_lt.mp c_2
      refine lv_iconst (v := 1) hx hb dX8_in_10 (by decide) ?_
      refine lv_goto (tgt := 15) hx hb dX8_in_11 (by decide) ?_
      exact me_zret hC hr hlk hM (by first | rfl | simp [b1, inP, c_1, c_2, c_1q, c_2q]) (by first | decide | simp) (rfl) (rfl) dX8_in_15
set_option maxHeartbeats 4000000 in
theorem c_X8_without (l : Launch) (D : va_G) (tb : Nat → ClassId) (X : State → Prop) (z0 n : Nat) (M : me_M) (x : Int32)  : Met l yX8_without (.code yX8_without cX8_without 1 (some .int) :: ws_all) ({ frames := 0, cells := 0, slots := 0, locals := 0 } : Room) (me_Pc [.int x] D tb X z0 (M) n) (me_Qi D z0 (if x < 0 then -x else x) (M) n) 0 0 (me_A z0) := by
  refine me_open (by decide) (Nat.le_of_ble_eq_true rfl) ?_
  intro p e s m args below meth c ls hC hr hlk hnm hM hl
  have hl : lv_has ls 1 [(0, .int x)] := hl
  have hx := hC.1
  have hb := hC.2.1
  have hw := hC.2.2.2.2.1
  refine lv_iload_n hx hb dX8_without_0 rfl (lv_at hl 0 rfl) ?_
  refine lv_if_ge (tgt := 9) hx hb dX8_without_1 (by decide) (fun c_1 => ?_) (fun c_1 => ?_)
  · have c_1q := c_1
    have c_1 := Int32.not_lt.mpr c_1
    refine lv_iload_n hx hb dX8_without_9 rfl (lv_at hl 0 rfl) ?_
    exact me_iret hC hr hlk hM (by first | rfl | simp [c_1, c_1q]) (rfl) (rfl) dX8_without_10
  · have c_1q := c_1
    have c_1 := Int32.not_le.mp c_1
    refine lv_iload_n hx hb dX8_without_4 rfl (lv_at hl 0 rfl) ?_
    refine lv_ineg hx hb dX8_without_5 ?_
    refine lv_goto (tgt := 10) hx hb dX8_without_6 (by decide) ?_
    exact me_iret hC hr hlk hM (by first | rfl | simp [c_1, c_1q]) (rfl) (rfl) dX8_without_10
set_option maxHeartbeats 4000000 in
theorem c_X8_s (l : Launch) (D : va_G) (tb : Nat → ClassId) (X : State → Prop) (z0 n : Nat) (M : me_M) (k : Nat)  : Met l yX8_s (.code yX8_s cX8_s 1 (some .int) :: ws_all) ({ frames := 0, cells := 0, slots := 0, locals := 0 } : Room) (me_Pc [.int (nI k)] D tb X z0 (M) n) (me_Qi D z0 (nI (9 + 10 * k)) (M) n) 0 0 (me_A z0) := by
  refine me_open (by decide) (Nat.le_of_ble_eq_true rfl) ?_
  intro p e s m args below meth c ls hC hr hlk hnm hM hl
  have hl : lv_has ls 1 [(0, .int (nI k))] := hl
  have hx := hC.1
  have hb := hC.2.1
  have hw := hC.2.2.2.2.1
  refine lv_bipush (v := 9) hx hb dX8_s_0 (by decide) ?_
  refine lv_bipush (v := 10) hx hb dX8_s_2 (by decide) ?_
  refine lv_iload_n hx hb dX8_s_4 rfl (lv_at hl 0 rfl) ?_
  refine lv_imul hx hb dX8_s_5 ?_
  refine lv_iadd hx hb dX8_s_6 ?_
  exact me_iret hC hr hlk hM ((nx_add (nx_c 9) (nx_mul (nx_c 10) rfl))) (rfl) (rfl) dX8_s_7
set_option maxHeartbeats 4000000 in
theorem c_X8_b (l : Launch) (D : va_G) (tb : Nat → ClassId) (X : State → Prop) (z0 n : Nat) (M : me_M) (k : Nat)  : Met l yX8_b (.code yX8_b cX8_b 1 (some .int) :: ws_all) ({ frames := 0, cells := 0, slots := 0, locals := 0 } : Room) (me_Pc [.int (nI k)] D tb X z0 (M) n) (me_Qi D z0 (nI (89 + 11 * k)) (M) n) 0 0 (me_A z0) := by
  refine me_open (by decide) (Nat.le_of_ble_eq_true rfl) ?_
  intro p e s m args below meth c ls hC hr hlk hnm hM hl
  have hl : lv_has ls 1 [(0, .int (nI k))] := hl
  have hx := hC.1
  have hb := hC.2.1
  have hw := hC.2.2.2.2.1
  refine lv_bipush (v := 89) hx hb dX8_b_0 (by decide) ?_
  refine lv_bipush (v := 11) hx hb dX8_b_2 (by decide) ?_
  refine lv_iload_n hx hb dX8_b_4 rfl (lv_at hl 0 rfl) ?_
  refine lv_imul hx hb dX8_b_5 ?_
  refine lv_iadd hx hb dX8_b_6 ?_
  exact me_iret hC hr hlk hM ((nx_add (nx_c 89) (nx_mul (nx_c 11) rfl))) (rfl) (rfl) dX8_b_7
set_option maxHeartbeats 4000000 in
theorem c_X8_p (l : Launch) (D : va_G) (tb : Nat → ClassId) (X : State → Prop) (z0 n : Nat) (M : me_M) (k : Nat)  : Met l yX8_p (.code yX8_p cX8_p 1 (some .int) :: ws_all) ({ frames := 0, cells := 0, slots := 0, locals := 0 } : Room) (me_Pc [.int (nI k)] D tb X z0 (M) n) (me_Qi D z0 (nI (221 + 4 * k)) (M) n) 0 0 (me_A z0) := by
  refine me_open (by decide) (Nat.le_of_ble_eq_true rfl) ?_
  intro p e s m args below meth c ls hC hr hlk hnm hM hl
  have hl : lv_has ls 1 [(0, .int (nI k))] := hl
  have hx := hC.1
  have hb := hC.2.1
  have hw := hC.2.2.2.2.1
  refine lv_sipush (v := 221) hx hb dX8_p_0 (by decide) ?_
  refine lv_iconst (v := 4) hx hb dX8_p_3 (by decide) ?_
  refine lv_iload_n hx hb dX8_p_4 rfl (lv_at hl 0 rfl) ?_
  refine lv_imul hx hb dX8_p_5 ?_
  refine lv_iadd hx hb dX8_p_6 ?_
  exact me_iret hC hr hlk hM ((nx_add (nx_c 221) (nx_mul (nx_c 4) rfl))) (rfl) (rfl) dX8_p_7
set_option maxHeartbeats 4000000 in
theorem c_X8_l (l : Launch) (D : va_G) (tb : Nat → ClassId) (X : State → Prop) (z0 n : Nat) (M : me_M) (k : Nat)  : Met l yX8_l (.code yX8_l cX8_l 1 (some .int) :: ws_all) ({ frames := 0, cells := 0, slots := 0, locals := 0 } : Room) (me_Pc [.int (nI k)] D tb X z0 (M) n) (me_Qi D z0 (nI (261 + 5 * k)) (M) n) 0 0 (me_A z0) := by
  refine me_open (by decide) (Nat.le_of_ble_eq_true rfl) ?_
  intro p e s m args below meth c ls hC hr hlk hnm hM hl
  have hl : lv_has ls 1 [(0, .int (nI k))] := hl
  have hx := hC.1
  have hb := hC.2.1
  have hw := hC.2.2.2.2.1
  refine lv_sipush (v := 261) hx hb dX8_l_0 (by decide) ?_
  refine lv_iconst (v := 5) hx hb dX8_l_3 (by decide) ?_
  refine lv_iload_n hx hb dX8_l_4 rfl (lv_at hl 0 rfl) ?_
  refine lv_imul hx hb dX8_l_5 ?_
  refine lv_iadd hx hb dX8_l_6 ?_
  exact me_iret hC hr hlk hM ((nx_add (nx_c 261) (nx_mul (nx_c 5) rfl))) (rfl) (rfl) dX8_l_7
set_option maxHeartbeats 4000000 in
theorem c_X8_isStreet (l : Launch) (D : va_G) (tb : Nat → ClassId) (X : State → Prop) (z0 n : Nat) (mo : Nat) (F w av od sv sl nz ip ot : Nat → Int32) (M0 : me_M) (x : Int32)  : Met l yX8_isStreet (.code yX8_isStreet cX8_isStreet 2 (some .boolean) :: ws_all) ({ frames := 1, cells := 0, slots := 0, locals := 22 } : Room) (me_Pc [.ref mo, .int x] D tb X z0 (mq tb mo F w av od sv sl nz ip ot M0) n) (me_Qi D z0 (b1 (inP x 0 (w 3 - 1))) (mq tb mo F w av od sv sl nz ip ot M0) n) 0 0 (me_A z0) := by
  refine me_open (by decide) (Nat.le_of_ble_eq_true rfl) ?_
  intro p e s m args below meth c ls hC hr hlk hnm hM hl
  have hl : lv_has ls 2 [(0, .ref mo), (1, .int x)] := hl
  have hx := hC.1
  have hb := hC.2.1
  have hw := hC.2.2.2.2.1
  refine lv_iload_n hx hb dX8_isStreet_0 rfl (lv_at hl 1 rfl) ?_
  refine lv_iconst (v := 0) hx hb dX8_isStreet_1 (by decide) ?_
  refine lv_aload_n hx hb dX8_isStreet_2 rfl (lv_at hl 0 rfl) ?_
  refine fg_X8_13 hC hM mq_F rfl dX8_isStreet_3 ?_
  refine lv_iconst (v := 3) hx hb dX8_isStreet_6 (by decide) ?_
  refine me_iald (k := 3) hC hM mq_w (nx_c 3) (by omega) (by decide) dX8_isStreet_7 ?_
  refine lv_iconst (v := 1) hx hb dX8_isStreet_8 (by decide) ?_
  refine lv_isub hx hb dX8_isStreet_9 ?_
  refine me_callSi (As := [.int x, .int 0, .int ((w 3) - 1)]) (rest := []) hC hl.1 hM (c_X8_in l D tb X z0 n _ x 0 ((w 3) - 1) ) (ks_X8_67 hw rfl rfl ⟨Nat.le_of_ble_eq_true rfl, Nat.le_of_ble_eq_true rfl⟩) rfl rfl (Nat.le_of_ble_eq_true rfl) dX8_isStreet_10 ⟨Nat.le_of_ble_eq_true rfl, Nat.le_of_ble_eq_true rfl⟩ (fun H locs hM => ?_)
  exact me_zret hC hr hlk hM (rfl) (b1_01 _) (rfl) (rfl) dX8_isStreet_13
set_option maxHeartbeats 4000000 in
theorem c_X8_isBorrower (l : Launch) (D : va_G) (tb : Nat → ClassId) (X : State → Prop) (z0 n : Nat) (mo : Nat) (F w av od sv sl nz ip ot : Nat → Int32) (M0 : me_M) (x : Int32)  : Met l yX8_isBorrower (.code yX8_isBorrower cX8_isBorrower 2 (some .boolean) :: ws_all) ({ frames := 1, cells := 0, slots := 0, locals := 22 } : Room) (me_Pc [.ref mo, .int x] D tb X z0 (mq tb mo F w av od sv sl nz ip ot M0) n) (me_Qi D z0 (b1 (inP x 0 (w 4 - 1))) (mq tb mo F w av od sv sl nz ip ot M0) n) 0 0 (me_A z0) := by
  refine me_open (by decide) (Nat.le_of_ble_eq_true rfl) ?_
  intro p e s m args below meth c ls hC hr hlk hnm hM hl
  have hl : lv_has ls 2 [(0, .ref mo), (1, .int x)] := hl
  have hx := hC.1
  have hb := hC.2.1
  have hw := hC.2.2.2.2.1
  refine lv_iload_n hx hb dX8_isBorrower_0 rfl (lv_at hl 1 rfl) ?_
  refine lv_iconst (v := 0) hx hb dX8_isBorrower_1 (by decide) ?_
  refine lv_aload_n hx hb dX8_isBorrower_2 rfl (lv_at hl 0 rfl) ?_
  refine fg_X8_13 hC hM mq_F rfl dX8_isBorrower_3 ?_
  refine lv_iconst (v := 4) hx hb dX8_isBorrower_6 (by decide) ?_
  refine me_iald (k := 4) hC hM mq_w (nx_c 4) (by omega) (by decide) dX8_isBorrower_7 ?_
  refine lv_iconst (v := 1) hx hb dX8_isBorrower_8 (by decide) ?_
  refine lv_isub hx hb dX8_isBorrower_9 ?_
  refine me_callSi (As := [.int x, .int 0, .int ((w 4) - 1)]) (rest := []) hC hl.1 hM (c_X8_in l D tb X z0 n _ x 0 ((w 4) - 1) ) (ks_X8_67 hw rfl rfl ⟨Nat.le_of_ble_eq_true rfl, Nat.le_of_ble_eq_true rfl⟩) rfl rfl (Nat.le_of_ble_eq_true rfl) dX8_isBorrower_10 ⟨Nat.le_of_ble_eq_true rfl, Nat.le_of_ble_eq_true rfl⟩ (fun H locs hM => ?_)
  exact me_zret hC hr hlk hM (rfl) (b1_01 _) (rfl) (rfl) dX8_isBorrower_13
set_option maxHeartbeats 4000000 in
theorem c_X8_isPermit (l : Launch) (D : va_G) (tb : Nat → ClassId) (X : State → Prop) (z0 n : Nat) (mo : Nat) (F w av od sv sl nz ip ot : Nat → Int32) (M0 : me_M) (x : Int32)  : Met l yX8_isPermit (.code yX8_isPermit cX8_isPermit 2 (some .boolean) :: ws_all) ({ frames := 1, cells := 0, slots := 0, locals := 22 } : Room) (me_Pc [.ref mo, .int x] D tb X z0 (mq tb mo F w av od sv sl nz ip ot M0) n) (me_Qi D z0 (b1 (inP x 0 (w 5 - 1))) (mq tb mo F w av od sv sl nz ip ot M0) n) 0 0 (me_A z0) := by
  refine me_open (by decide) (Nat.le_of_ble_eq_true rfl) ?_
  intro p e s m args below meth c ls hC hr hlk hnm hM hl
  have hl : lv_has ls 2 [(0, .ref mo), (1, .int x)] := hl
  have hx := hC.1
  have hb := hC.2.1
  have hw := hC.2.2.2.2.1
  refine lv_iload_n hx hb dX8_isPermit_0 rfl (lv_at hl 1 rfl) ?_
  refine lv_iconst (v := 0) hx hb dX8_isPermit_1 (by decide) ?_
  refine lv_aload_n hx hb dX8_isPermit_2 rfl (lv_at hl 0 rfl) ?_
  refine fg_X8_13 hC hM mq_F rfl dX8_isPermit_3 ?_
  refine lv_iconst (v := 5) hx hb dX8_isPermit_6 (by decide) ?_
  refine me_iald (k := 5) hC hM mq_w (nx_c 5) (by omega) (by decide) dX8_isPermit_7 ?_
  refine lv_iconst (v := 1) hx hb dX8_isPermit_8 (by decide) ?_
  refine lv_isub hx hb dX8_isPermit_9 ?_
  refine me_callSi (As := [.int x, .int 0, .int ((w 5) - 1)]) (rest := []) hC hl.1 hM (c_X8_in l D tb X z0 n _ x 0 ((w 5) - 1) ) (ks_X8_67 hw rfl rfl ⟨Nat.le_of_ble_eq_true rfl, Nat.le_of_ble_eq_true rfl⟩) rfl rfl (Nat.le_of_ble_eq_true rfl) dX8_isPermit_10 ⟨Nat.le_of_ble_eq_true rfl, Nat.le_of_ble_eq_true rfl⟩ (fun H locs hM => ?_)
  exact me_zret hC hr hlk hM (rfl) (b1_01 _) (rfl) (rfl) dX8_isPermit_13
set_option maxHeartbeats 4000000 in
theorem c_X8_isLoan (l : Launch) (D : va_G) (tb : Nat → ClassId) (X : State → Prop) (z0 n : Nat) (mo : Nat) (F w av od sv sl nz ip ot : Nat → Int32) (M0 : me_M) (x : Int32)  : Met l yX8_isLoan (.code yX8_isLoan cX8_isLoan 2 (some .boolean) :: ws_all) ({ frames := 1, cells := 0, slots := 0, locals := 22 } : Room) (me_Pc [.ref mo, .int x] D tb X z0 (mq tb mo F w av od sv sl nz ip ot M0) n) (me_Qi D z0 (b1 (inP x 0 (w 6 - 1))) (mq tb mo F w av od sv sl nz ip ot M0) n) 0 0 (me_A z0) := by
  refine me_open (by decide) (Nat.le_of_ble_eq_true rfl) ?_
  intro p e s m args below meth c ls hC hr hlk hnm hM hl
  have hl : lv_has ls 2 [(0, .ref mo), (1, .int x)] := hl
  have hx := hC.1
  have hb := hC.2.1
  have hw := hC.2.2.2.2.1
  refine lv_iload_n hx hb dX8_isLoan_0 rfl (lv_at hl 1 rfl) ?_
  refine lv_iconst (v := 0) hx hb dX8_isLoan_1 (by decide) ?_
  refine lv_aload_n hx hb dX8_isLoan_2 rfl (lv_at hl 0 rfl) ?_
  refine fg_X8_13 hC hM mq_F rfl dX8_isLoan_3 ?_
  refine lv_bipush (v := 6) hx hb dX8_isLoan_6 (by decide) ?_
  refine me_iald (k := 6) hC hM mq_w (nx_c 6) (by omega) (by decide) dX8_isLoan_8 ?_
  refine lv_iconst (v := 1) hx hb dX8_isLoan_9 (by decide) ?_
  refine lv_isub hx hb dX8_isLoan_10 ?_
  refine me_callSi (As := [.int x, .int 0, .int ((w 6) - 1)]) (rest := []) hC hl.1 hM (c_X8_in l D tb X z0 n _ x 0 ((w 6) - 1) ) (ks_X8_67 hw rfl rfl ⟨Nat.le_of_ble_eq_true rfl, Nat.le_of_ble_eq_true rfl⟩) rfl rfl (Nat.le_of_ble_eq_true rfl) dX8_isLoan_11 ⟨Nat.le_of_ble_eq_true rfl, Nat.le_of_ble_eq_true rfl⟩ (fun H locs hM => ?_)
  exact me_zret hC hr hlk hM (rfl) (b1_01 _) (rfl) (rfl) dX8_isLoan_14
set_option maxHeartbeats 4000000 in
theorem c_X8_names (l : Launch) (D : va_G) (tb : Nat → ClassId) (X : State → Prop) (z0 n : Nat) (mo : Nat) (F w av od sv sl nz ip ot : Nat → Int32) (M0 : me_M) (a0 : Nat)  (ha0 : a0 + 6 ≤ 411) : Met l yX8_names (.code yX8_names cX8_names 3 none :: ws_all) ({ frames := 0, cells := 0, slots := 0, locals := 0 } : Room) (me_Pc [.ref mo, .int (nI a0)] D tb X z0 (mq tb mo F w av od sv sl nz ip ot M0) n) (me_Qv D z0 (mq tb mo F (cq w sl a0 6) av od sv sl nz ip ot M0) n) 0 0 (me_A z0) := by
  refine me_open (by decide) (Nat.le_of_ble_eq_true rfl) ?_
  intro p e s m args below meth c ls hC hr hlk hnm hM hl
  have hl : lv_has ls 3 [(0, .ref mo), (1, .int (nI a0))] := hl
  have hx := hC.1
  have hb := hC.2.1
  have hw := hC.2.2.2.2.1
  refine lv_iconst (v := 0) hx hb dX8_names_0 (by decide) ?_
  refine lv_istore_n (lv' := [(2, .int 0), (0, .ref mo), (1, .int (nI a0))]) hx hb dX8_names_1 rfl hl (by decide) rfl (fun ls hl => ?_)
  have lp_2 : ∀ (r : Nat) (k : Nat) (H : Heap) (locs : List Loc) (ls : Array Slot), (k + r = 6) → me_at D z0 (mq tb mo F (cq w sl a0 k) av od sv sl nz ip ot M0) n s H locs → lv_has ls 3 [(0, .ref mo), (1, .int (nI a0)), (2, .int (nI k))] → W p l e (({ frames := 0, cells := 0, slots := 0, locals := 0 } : Room)) s m args below meth c H locs 0 0 (MQ below (me_Qv D z0 (mq tb mo F (cq w sl a0 6) av od sv sl nz ip ot M0) n) args s 0 0 (me_A z0)) (F0 m 2 ls []) := by
    intro r
    refine Nat.strongRecOn r ?_
    intro r ih_2 k H locs ls hk hM hl
    refine lv_iload_n hx hb dX8_names_2 rfl (lv_at hl 2 rfl) ?_
    refine lv_bipush (v := 6) hx hb dX8_names_3 (by decide) ?_
    refine lv_icmp_ge (tgt := 28) hx hb dX8_names_5 (by decide) (fun c_1 => ?_) (fun c_1 => ?_)
    · have c_1 := (br_le (nx_c 6) rfl (by omega) (by omega)).mp c_1
      exact me_vret hC hr hlk hM (by rw [show k = 6 by omega]) (rfl) dX8_names_28
    · have c_1 := (not_congr (br_le (nx_c 6) rfl (by omega) (by omega))).mp c_1
      obtain ⟨r1, rfl⟩ : ∃ r1, r = r1 + 1 := ⟨r - 1, by omega⟩
      refine lv_aload_n hx hb dX8_names_8 rfl (lv_at hl 0 rfl) ?_
      refine fg_X8_13 hC hM mq_F rfl dX8_names_9 ?_
      refine lv_iload_n hx hb dX8_names_12 rfl (lv_at hl 1 rfl) ?_
      refine lv_iload_n hx hb dX8_names_13 rfl (lv_at hl 2 rfl) ?_
      refine lv_iadd hx hb dX8_names_14 ?_
      refine lv_aload_n hx hb dX8_names_15 rfl (lv_at hl 0 rfl) ?_
      refine fg_X8_25 hC hM mq_F rfl dX8_names_16 ?_
      refine lv_iload_n hx hb dX8_names_19 rfl (lv_at hl 2 rfl) ?_
      refine me_iald (k := k) hC hM mq_sl rfl (by omega) (by decide) dX8_names_20 ?_
      refine me_iast (k := a0 + k) (M2 := mq tb mo F (upd (cq w sl a0 k) (a0 + k) (sl (k))) av od sv sl nz ip ot M0) hC hM mq_w (nx_add rfl rfl) (by omega) (by decide) mq_w_w dX8_names_21 (fun H locs hM => ?_)
      refine lv_iinc (v := nI (k + 1)) (lv' := [(2, .int (nI (k + 1))), (0, .ref mo), (1, .int (nI a0))]) hx hb dX8_names_22 hl (k := 2) rfl (nx_add rfl rfl) (by decide) rfl (fun ls hl => ?_)
      refine lv_goto (tgt := 2) hx hb dX8_names_25 (by decide) ?_
      exact ih_2 r1 (by omega) (k + 1) _ _ _ (by omega) (hM.eq (by rw [cq_s])) (lv_sub hl [1, 2, 0] rfl)
  exact lp_2 6 0 _ _ _ (by omega) (hM.eq (by rw [cq_0])) (lv_sub hl [1, 2, 0] rfl)
set_option maxHeartbeats 4000000 in
theorem c_X8_isSpelled (l : Launch) (D : va_G) (tb : Nat → ClassId) (X : State → Prop) (z0 n : Nat) (mo : Nat) (F w av od sv sl nz ip ot : Nat → Int32) (M0 : me_M) (a0 : Nat)  (ha0 : a0 + 6 ≤ 411) : Met l yX8_isSpelled (.code yX8_isSpelled cX8_isSpelled 3 (some .boolean) :: ws_all) ({ frames := 0, cells := 0, slots := 0, locals := 0 } : Room) (me_Pc [.ref mo, .int (nI a0)] D tb X z0 (mq tb mo F w av od sv sl nz ip ot M0) n) (me_Qi D z0 (b1 (isP w sl a0)) (mq tb mo F w av od sv sl nz ip ot M0) n) 0 0 (me_A z0) := by
  refine me_open (by decide) (Nat.le_of_ble_eq_true rfl) ?_
  intro p e s m args below meth c ls hC hr hlk hnm hM hl
  have hl : lv_has ls 3 [(0, .ref mo), (1, .int (nI a0))] := hl
  have hx := hC.1
  have hb := hC.2.1
  have hw := hC.2.2.2.2.1
  refine lv_iconst (v := 0) hx hb dX8_isSpelled_0 (by decide) ?_
  refine lv_istore_n (lv' := [(2, .int 0), (0, .ref mo), (1, .int (nI a0))]) hx hb dX8_isSpelled_1 rfl hl (by decide) rfl (fun ls hl => ?_)
  have lp_2 : ∀ (r : Nat) (k : Nat) (H : Heap) (locs : List Loc) (ls : Array Slot), (k + r = 6) → (∀ i, i < k → w (a0 + i) = sl i) → me_at D z0 (mq tb mo F w av od sv sl nz ip ot M0) n s H locs → lv_has ls 3 [(0, .ref mo), (1, .int (nI a0)), (2, .int (nI k))] → W p l e (({ frames := 0, cells := 0, slots := 0, locals := 0 } : Room)) s m args below meth c H locs 0 0 (MQ below (me_Qi D z0 (b1 (isP w sl a0)) (mq tb mo F w av od sv sl nz ip ot M0) n) args s 0 0 (me_A z0)) (F0 m 2 ls []) := by
    intro r
    refine Nat.strongRecOn r ?_
    intro r ih_2 k H locs ls hk hq hM hl
    refine lv_iload_n hx hb dX8_isSpelled_2 rfl (lv_at hl 2 rfl) ?_
    refine lv_bipush (v := 6) hx hb dX8_isSpelled_3 (by decide) ?_
    refine lv_icmp_ge (tgt := 33) hx hb dX8_isSpelled_5 (by decide) (fun c_1 => ?_) (fun c_1 => ?_)
    · have c_1 := (br_le (nx_c 6) rfl (by omega) (by omega)).mp c_1
      refine lv_iconst (v := 1) hx hb dX8_isSpelled_33 (by decide) ?_
      exact me_zret hC hr hlk hM (b1_t (isP_t (k := k) (by omega) hq)) (by first | decide | simp) (rfl) (rfl) dX8_isSpelled_34
    · have c_1 := (not_congr (br_le (nx_c 6) rfl (by omega) (by omega))).mp c_1
      obtain ⟨r1, rfl⟩ : ∃ r1, r = r1 + 1 := ⟨r - 1, by omega⟩
      refine lv_aload_n hx hb dX8_isSpelled_8 rfl (lv_at hl 0 rfl) ?_
      refine fg_X8_13 hC hM mq_F rfl dX8_isSpelled_9 ?_
      refine lv_iload_n hx hb dX8_isSpelled_12 rfl (lv_at hl 1 rfl) ?_
      refine lv_iload_n hx hb dX8_isSpelled_13 rfl (lv_at hl 2 rfl) ?_
      refine lv_iadd hx hb dX8_isSpelled_14 ?_
      refine me_iald (k := a0 + k) hC hM mq_w (nx_add rfl rfl) (by omega) (by decide) dX8_isSpelled_15 ?_
      refine lv_aload_n hx hb dX8_isSpelled_16 rfl (lv_at hl 0 rfl) ?_
      refine fg_X8_25 hC hM mq_F rfl dX8_isSpelled_17 ?_
      refine lv_iload_n hx hb dX8_isSpelled_20 rfl (lv_at hl 2 rfl) ?_
      refine me_iald (k := k) hC hM mq_sl rfl (by omega) (by decide) dX8_isSpelled_21 ?_
      refine lv_icmp_eq (tgt := 27) hx hb dX8_isSpelled_22 (by decide) (fun c_2 => ?_) (fun c_2 => ?_)
      · refine lv_iinc (v := nI (k + 1)) (lv' := [(2, .int (nI (k + 1))), (0, .ref mo), (1, .int (nI a0))]) hx hb dX8_isSpelled_27 hl (k := 2) rfl (nx_add rfl rfl) (by decide) rfl (fun ls hl => ?_)
        refine lv_goto (tgt := 2) hx hb dX8_isSpelled_30 (by decide) ?_
        exact ih_2 r1 (by omega) (k + 1) _ _ _ (by omega) (isP_s hq c_2) hM (lv_sub hl [1, 2, 0] rfl)
      · refine lv_iconst (v := 0) hx hb dX8_isSpelled_25 (by decide) ?_
        exact me_zret hC hr hlk hM (b1_f (isP_f (k := k) (by omega) c_2)) (by first | decide | simp) (rfl) (rfl) dX8_isSpelled_26
  exact lp_2 6 0 _ _ _ (by omega) (fun i hi => by omega) hM (lv_sub hl [1, 2, 0] rfl)
set_option maxHeartbeats 4000000 in
theorem c_X8_streetSpelled (l : Launch) (D : va_G) (tb : Nat → ClassId) (X : State → Prop) (z0 n : Nat) (mo : Nat) (F w av od sv sl nz ip ot : Nat → Int32) (M0 : me_M) (S : Nat)  (hS : w 3 = nI S) (hS0 : S ≤ 8) : Met l yX8_streetSpelled (.code yX8_streetSpelled cX8_streetSpelled 2 (some .int) :: ws_all) ({ frames := 1, cells := 0, slots := 0, locals := 22 } : Room) (me_Pc [.ref mo] D tb X z0 (mq tb mo F w av od sv sl nz ip ot M0) n) (me_Qi D z0 (ssF w sl S) (mq tb mo F w av od sv sl nz ip ot M0) n) 0 0 (me_A z0) := by
  refine me_open (by decide) (Nat.le_of_ble_eq_true rfl) ?_
  intro p e s m args below meth c ls hC hr hlk hnm hM hl
  have hl : lv_has ls 2 [(0, .ref mo)] := hl
  have hx := hC.1
  have hb := hC.2.1
  have hw := hC.2.2.2.2.1
  refine lv_iconst (v := 0) hx hb dX8_streetSpelled_0 (by decide) ?_
  refine lv_istore_n (lv' := [(1, .int 0), (0, .ref mo)]) hx hb dX8_streetSpelled_1 rfl hl (by decide) rfl (fun ls hl => ?_)
  have lp_2 : ∀ (r : Nat) (k : Nat) (H : Heap) (locs : List Loc) (ls : Array Slot), (k + r = S) → (ssF w sl S = fi (fun k => isP w sl (9 + 10 * k + 4)) r k) → me_at D z0 (mq tb mo F w av od sv sl nz ip ot M0) n s H locs → lv_has ls 2 [(0, .ref mo), (1, .int (nI k))] → W p l e (({ frames := 1, cells := 0, slots := 0, locals := 22 } : Room)) s m args below meth c H locs 0 0 (MQ below (me_Qi D z0 (ssF w sl S) (mq tb mo F w av od sv sl nz ip ot M0) n) args s 0 0 (me_A z0)) (F0 m 2 ls []) := by
    intro r
    refine Nat.strongRecOn r ?_
    intro r ih_2 k H locs ls hk hq hM hl
    refine lv_iload_n hx hb dX8_streetSpelled_2 rfl (lv_at hl 1 rfl) ?_
    refine lv_aload_n hx hb dX8_streetSpelled_3 rfl (lv_at hl 0 rfl) ?_
    refine fg_X8_13 hC hM mq_F rfl dX8_streetSpelled_4 ?_
    refine lv_iconst (v := 3) hx hb dX8_streetSpelled_7 (by decide) ?_
    refine me_iald (k := 3) hC hM mq_w (nx_c 3) (by omega) (by decide) dX8_streetSpelled_8 ?_
    refine lv_icmp_ge (tgt := 33) hx hb dX8_streetSpelled_9 (by decide) (fun c_1 => ?_) (fun c_1 => ?_)
    · have c_1 := (br_le hS rfl (by omega) (by omega)).mp c_1
      refine lv_iconst (v := (-1)) hx hb dX8_streetSpelled_33 (by decide) ?_
      exact me_iret hC hr hlk hM (by rw [hq, show r = 0 by omega]; rfl) (rfl) (rfl) dX8_streetSpelled_34
    · have c_1 := (not_congr (br_le hS rfl (by omega) (by omega))).mp c_1
      obtain ⟨r1, rfl⟩ : ∃ r1, r = r1 + 1 := ⟨r - 1, by omega⟩
      refine lv_aload_n hx hb dX8_streetSpelled_12 rfl (lv_at hl 0 rfl) ?_
      refine lv_iload_n hx hb dX8_streetSpelled_13 rfl (lv_at hl 1 rfl) ?_
      refine me_callSi (As := [.int (nI k)]) (rest := [.ref mo]) hC hl.1 hM (c_X8_s l D tb X z0 n _ k ) (ks_X8_71 hw rfl rfl ⟨Nat.le_of_ble_eq_true rfl, Nat.le_of_ble_eq_true rfl⟩) rfl rfl (Nat.le_of_ble_eq_true rfl) dX8_streetSpelled_14 ⟨Nat.le_of_ble_eq_true rfl, Nat.le_of_ble_eq_true rfl⟩ (fun H locs hM => ?_)
      refine lv_iconst (v := 4) hx hb dX8_streetSpelled_17 (by decide) ?_
      refine lv_iadd hx hb dX8_streetSpelled_18 ?_
      refine me_stk (st2 := [.int (nI (9 + 10 * k + 4)), .ref mo]) (by rw [(nx_add rfl (nx_c 4))]) ?_
      refine me_callVi (As := [.int (nI (9 + 10 * k + 4))]) (rest := []) hC hl.1 hM (c_X8_isSpelled l D tb X z0 n mo F w av od sv sl nz ip ot M0 (9 + 10 * k + 4) (by omega)) (kv_X8_74 hw rfl rfl ⟨Nat.le_of_ble_eq_true rfl, Nat.le_of_ble_eq_true rfl⟩) rfl rfl mq_F rfl (Nat.le_of_ble_eq_true rfl) dX8_streetSpelled_19 ⟨Nat.le_of_ble_eq_true rfl, Nat.le_of_ble_eq_true rfl⟩ (fun H locs hM => ?_)
      refine lv_if_eq (tgt := 27) hx hb dX8_streetSpelled_22 (by decide) (fun c_2 => ?_) (fun c_2 => ?_)
      · have c_2 := b1_0.mp c_2
        refine lv_iinc (v := nI (k + 1)) (lv' := [(1, .int (nI (k + 1))), (0, .ref mo)]) hx hb dX8_streetSpelled_27 hl (k := 1) rfl (nx_add rfl rfl) (by decide) rfl (fun ls hl => ?_)
        refine lv_goto (tgt := 2) hx hb dX8_streetSpelled_30 (by decide) ?_
        exact ih_2 r1 (by omega) (k + 1) _ _ _ (by omega) (hq.trans (fi_f (P := fun k => isP w sl (9 + 10 * k + 4)) (k := k) (c_2))) hM (lv_sub hl [1, 0] rfl)
      · have c_2 := b1_n0.mp c_2
        refine lv_iload_n hx hb dX8_streetSpelled_25 rfl (lv_at hl 1 rfl) ?_
        exact me_iret hC hr hlk hM (by rw [hq, fi_t (P := fun k => isP w sl (9 + 10 * k + 4)) (k := k) (c_2)]) (rfl) (rfl) dX8_streetSpelled_26
  exact lp_2 S 0 _ _ _ (by omega) rfl hM (lv_sub hl [1, 0] rfl)
set_option maxHeartbeats 4000000 in
theorem c_X8_borrowerSpelled (l : Launch) (D : va_G) (tb : Nat → ClassId) (X : State → Prop) (z0 n : Nat) (mo : Nat) (F w av od sv sl nz ip ot : Nat → Int32) (M0 : me_M) (B : Nat)  (hB : w 4 = nI B) (hB0 : B ≤ 12) : Met l yX8_borrowerSpelled (.code yX8_borrowerSpelled cX8_borrowerSpelled 2 (some .int) :: ws_all) ({ frames := 1, cells := 0, slots := 0, locals := 22 } : Room) (me_Pc [.ref mo] D tb X z0 (mq tb mo F w av od sv sl nz ip ot M0) n) (me_Qi D z0 (bsF' w sl B) (mq tb mo F w av od sv sl nz ip ot M0) n) 0 0 (me_A z0) := by
  refine me_open (by decide) (Nat.le_of_ble_eq_true rfl) ?_
  intro p e s m args below meth c ls hC hr hlk hnm hM hl
  have hl : lv_has ls 2 [(0, .ref mo)] := hl
  have hx := hC.1
  have hb := hC.2.1
  have hw := hC.2.2.2.2.1
  refine lv_iconst (v := 0) hx hb dX8_borrowerSpelled_0 (by decide) ?_
  refine lv_istore_n (lv' := [(1, .int 0), (0, .ref mo)]) hx hb dX8_borrowerSpelled_1 rfl hl (by decide) rfl (fun ls hl => ?_)
  have lp_2 : ∀ (r : Nat) (k : Nat) (H : Heap) (locs : List Loc) (ls : Array Slot), (k + r = B) → (bsF' w sl B = fi (fun k => isP w sl (89 + 11 * k + 5)) r k) → me_at D z0 (mq tb mo F w av od sv sl nz ip ot M0) n s H locs → lv_has ls 2 [(0, .ref mo), (1, .int (nI k))] → W p l e (({ frames := 1, cells := 0, slots := 0, locals := 22 } : Room)) s m args below meth c H locs 0 0 (MQ below (me_Qi D z0 (bsF' w sl B) (mq tb mo F w av od sv sl nz ip ot M0) n) args s 0 0 (me_A z0)) (F0 m 2 ls []) := by
    intro r
    refine Nat.strongRecOn r ?_
    intro r ih_2 k H locs ls hk hq hM hl
    refine lv_iload_n hx hb dX8_borrowerSpelled_2 rfl (lv_at hl 1 rfl) ?_
    refine lv_aload_n hx hb dX8_borrowerSpelled_3 rfl (lv_at hl 0 rfl) ?_
    refine fg_X8_13 hC hM mq_F rfl dX8_borrowerSpelled_4 ?_
    refine lv_iconst (v := 4) hx hb dX8_borrowerSpelled_7 (by decide) ?_
    refine me_iald (k := 4) hC hM mq_w (nx_c 4) (by omega) (by decide) dX8_borrowerSpelled_8 ?_
    refine lv_icmp_ge (tgt := 33) hx hb dX8_borrowerSpelled_9 (by decide) (fun c_1 => ?_) (fun c_1 => ?_)
    · have c_1 := (br_le hB rfl (by omega) (by omega)).mp c_1
      refine lv_iconst (v := (-1)) hx hb dX8_borrowerSpelled_33 (by decide) ?_
      exact me_iret hC hr hlk hM (by rw [hq, show r = 0 by omega]; rfl) (rfl) (rfl) dX8_borrowerSpelled_34
    · have c_1 := (not_congr (br_le hB rfl (by omega) (by omega))).mp c_1
      obtain ⟨r1, rfl⟩ : ∃ r1, r = r1 + 1 := ⟨r - 1, by omega⟩
      refine lv_aload_n hx hb dX8_borrowerSpelled_12 rfl (lv_at hl 0 rfl) ?_
      refine lv_iload_n hx hb dX8_borrowerSpelled_13 rfl (lv_at hl 1 rfl) ?_
      refine me_callSi (As := [.int (nI k)]) (rest := [.ref mo]) hC hl.1 hM (c_X8_b l D tb X z0 n _ k ) (ks_X8_78 hw rfl rfl ⟨Nat.le_of_ble_eq_true rfl, Nat.le_of_ble_eq_true rfl⟩) rfl rfl (Nat.le_of_ble_eq_true rfl) dX8_borrowerSpelled_14 ⟨Nat.le_of_ble_eq_true rfl, Nat.le_of_ble_eq_true rfl⟩ (fun H locs hM => ?_)
      refine lv_iconst (v := 5) hx hb dX8_borrowerSpelled_17 (by decide) ?_
      refine lv_iadd hx hb dX8_borrowerSpelled_18 ?_
      refine me_stk (st2 := [.int (nI (89 + 11 * k + 5)), .ref mo]) (by rw [(nx_add rfl (nx_c 5))]) ?_
      refine me_callVi (As := [.int (nI (89 + 11 * k + 5))]) (rest := []) hC hl.1 hM (c_X8_isSpelled l D tb X z0 n mo F w av od sv sl nz ip ot M0 (89 + 11 * k + 5) (by omega)) (kv_X8_74 hw rfl rfl ⟨Nat.le_of_ble_eq_true rfl, Nat.le_of_ble_eq_true rfl⟩) rfl rfl mq_F rfl (Nat.le_of_ble_eq_true rfl) dX8_borrowerSpelled_19 ⟨Nat.le_of_ble_eq_true rfl, Nat.le_of_ble_eq_true rfl⟩ (fun H locs hM => ?_)
      refine lv_if_eq (tgt := 27) hx hb dX8_borrowerSpelled_22 (by decide) (fun c_2 => ?_) (fun c_2 => ?_)
      · have c_2 := b1_0.mp c_2
        refine lv_iinc (v := nI (k + 1)) (lv' := [(1, .int (nI (k + 1))), (0, .ref mo)]) hx hb dX8_borrowerSpelled_27 hl (k := 1) rfl (nx_add rfl rfl) (by decide) rfl (fun ls hl => ?_)
        refine lv_goto (tgt := 2) hx hb dX8_borrowerSpelled_30 (by decide) ?_
        exact ih_2 r1 (by omega) (k + 1) _ _ _ (by omega) (hq.trans (fi_f (P := fun k => isP w sl (89 + 11 * k + 5)) (k := k) (c_2))) hM (lv_sub hl [1, 0] rfl)
      · have c_2 := b1_n0.mp c_2
        refine lv_iload_n hx hb dX8_borrowerSpelled_25 rfl (lv_at hl 1 rfl) ?_
        exact me_iret hC hr hlk hM (by rw [hq, fi_t (P := fun k => isP w sl (89 + 11 * k + 5)) (k := k) (c_2)]) (rfl) (rfl) dX8_borrowerSpelled_26
  exact lp_2 B 0 _ _ _ (by omega) rfl hM (lv_sub hl [1, 0] rfl)
set_option maxHeartbeats 4000000 in
theorem c_X8_isNightHour (l : Launch) (D : va_G) (tb : Nat → ClassId) (X : State → Prop) (z0 n : Nat) (M : me_M) (h : Int32)  : Met l yX8_isNightHour (.code yX8_isNightHour cX8_isNightHour 2 (some .boolean) :: ws_all) ({ frames := 0, cells := 0, slots := 0, locals := 0 } : Room) (me_Pc [.int h] D tb X z0 (M) n) (me_Qi D z0 (b1 (nh h)) (M) n) 0 0 (me_A z0) := by
  refine me_open (by decide) (Nat.le_of_ble_eq_true rfl) ?_
  intro p e s m args below meth c ls hC hr hlk hnm hM hl
  have hl : lv_has ls 2 [(0, .int h)] := hl
  have hx := hC.1
  have hb := hC.2.1
  have hw := hC.2.2.2.2.1
  refine lv_iload_n hx hb dX8_isNightHour_0 rfl (lv_at hl 0 rfl) ?_
  refine lv_bipush (v := 24) hx hb dX8_isNightHour_1 (by decide) ?_
  refine lv_irem hx hb dX8_isNightHour_3 (by decide) ?_
  refine lv_istore_n (lv' := [(1, .int (h - h / 24 * 24)), (0, .int h)]) hx hb dX8_isNightHour_4 rfl hl (by decide) rfl (fun ls hl => ?_)
  refine lv_iload_n hx hb dX8_isNightHour_5 rfl (lv_at hl 0 rfl) ?_
  refine lv_bipush (v := 6) hx hb dX8_isNightHour_6 (by decide) ?_
  refine lv_icmp_lt (tgt := 17) hx hb dX8_isNightHour_8 (by decide) (fun c_1 => ?_) (fun c_1 => ?_)
  · have c_1q := Int32.not_le.mpr c_1
    refine lv_iconst (v := 1) hx hb dX8_isNightHour_17 (by decide) ?_
    refine lv_goto (tgt := 22) hx hb dX8_isNightHour_18 (by decide) ?_
    exact me_zret hC hr hlk hM (by simp only [nh6] at *; simp [b1, nh, c_1, c_1q]) (by first | decide | simp) (rfl) (rfl) dX8_isNightHour_22
  · have c_1q := Int32.not_lt.mp c_1
    refine lv_iload_n hx hb dX8_isNightHour_11 rfl (lv_at hl 0 rfl) ?_
    refine lv_bipush (v := 22) hx hb dX8_isNightHour_12 (by decide) ?_
    refine lv_icmp_lt (tgt := 21) hx hb dX8_isNightHour_14 (by decide) (fun c_2 => ?_) (fun c_2 => ?_)
    · have c_2q := Int32.not_le.mpr c_2
      refine lv_iconst (v := 0) hx hb dX8_isNightHour_21 (by decide) ?_
      exact me_zret hC hr hlk hM (by simp only [nh6] at *; simp [b1, nh, c_1, c_2, c_1q, c_2q]) (by first | decide | simp) (rfl) (rfl) dX8_isNightHour_22
    · have c_2q := Int32.not_lt.mp c_2
      refine lv_iconst (v := 1) hx hb dX8_isNightHour_17 (by decide) ?_
      refine lv_goto (tgt := 22) hx hb dX8_isNightHour_18 (by decide) ?_
      exact me_zret hC hr hlk hM (by simp only [nh6] at *; simp [b1, nh, c_1, c_2, c_1q, c_2q]) (by first | decide | simp) (rfl) (rfl) dX8_isNightHour_22
set_option maxHeartbeats 4000000 in
theorem c_X8_inHorizon (l : Launch) (D : va_G) (tb : Nat → ClassId) (X : State → Prop) (z0 n : Nat) (mo : Nat) (F w av od sv sl nz ip ot : Nat → Int32) (M0 : me_M) (x : Int32)  : Met l yX8_inHorizon (.code yX8_inHorizon cX8_inHorizon 2 (some .boolean) :: ws_all) ({ frames := 0, cells := 0, slots := 0, locals := 0 } : Room) (me_Pc [.ref mo, .int x] D tb X z0 (mq tb mo F w av od sv sl nz ip ot M0) n) (me_Qi D z0 (b1 (ihP w x)) (mq tb mo F w av od sv sl nz ip ot M0) n) 0 0 (me_A z0) := by
  refine me_open (by decide) (Nat.le_of_ble_eq_true rfl) ?_
  intro p e s m args below meth c ls hC hr hlk hnm hM hl
  have hl : lv_has ls 2 [(0, .ref mo), (1, .int x)] := hl
  have hx := hC.1
  have hb := hC.2.1
  have hw := hC.2.2.2.2.1
  refine lv_iload_n hx hb dX8_inHorizon_0 rfl (lv_at hl 1 rfl) ?_
  refine lv_aload_n hx hb dX8_inHorizon_1 rfl (lv_at hl 0 rfl) ?_
  refine fg_X8_13 hC hM mq_F rfl dX8_inHorizon_2 ?_
  refine lv_iconst (v := 2) hx hb dX8_inHorizon_5 (by decide) ?_
  refine me_iald (k := 2) hC hM mq_w (nx_c 2) (by omega) (by decide) dX8_inHorizon_6 ?_
  refine lv_icmp_lt (tgt := 27) hx hb dX8_inHorizon_7 (by decide) (fun c_1 => ?_) (fun c_1 => ?_)
  · have c_1q := Int32.not_le.mpr c_1
    refine lv_iconst (v := 0) hx hb dX8_inHorizon_27 (by decide) ?_
    exact me_zret hC hr hlk hM (by first | rfl | simp [b1, ihP, c_1, c_1q]) (by first | decide | simp) (rfl) (rfl) dX8_inHorizon_28
  · have c_1q := Int32.not_lt.mp c_1
    refine lv_iload_n hx hb dX8_inHorizon_10 rfl (lv_at hl 1 rfl) ?_
    refine lv_aload_n hx hb dX8_inHorizon_11 rfl (lv_at hl 0 rfl) ?_
    refine fg_X8_13 hC hM mq_F rfl dX8_inHorizon_12 ?_
    refine lv_iconst (v := 2) hx hb dX8_inHorizon_15 (by decide) ?_
    refine me_iald (k := 2) hC hM mq_w (nx_c 2) (by omega) (by decide) dX8_inHorizon_16 ?_
    refine lv_bipush (v := 48) hx hb dX8_inHorizon_17 (by decide) ?_
    refine lv_iadd hx hb dX8_inHorizon_19 ?_
    refine lv_icmp_ge (tgt := 27) hx hb dX8_inHorizon_20 (by decide) (fun c_2 => ?_) (fun c_2 => ?_)
    · have c_2q := c_2
      have c_2 := Int32.not_lt.mpr c_2
      refine lv_iconst (v := 0) hx hb dX8_inHorizon_27 (by decide) ?_
      exact me_zret hC hr hlk hM (by first | rfl | simp [b1, ihP, c_1, c_2, c_1q, c_2q]) (by first | decide | simp) (rfl) (rfl) dX8_inHorizon_28
    · have c_2q := c_2
      have c_2 := Int32.not_le.mp c_2
      refine lv_iconst (v := 1) hx hb dX8_inHorizon_23 (by decide) ?_
      refine lv_goto (tgt := 28) hx hb dX8_inHorizon_24 (by decide) ?_
      exact me_zret hC hr hlk hM (by first | rfl | simp [b1, ihP, c_1, c_2, c_1q, c_2q]) (by first | decide | simp) (rfl) (rfl) dX8_inHorizon_28
set_option maxHeartbeats 4000000 in
theorem c_X8_areHours (l : Launch) (D : va_G) (tb : Nat → ClassId) (X : State → Prop) (z0 n : Nat) (mo : Nat) (F w av od sv sl nz ip ot : Nat → Int32) (M0 : me_M) (x y9 z9 : Int32)  : Met l yX8_areHours (.code yX8_areHours cX8_areHours 4 (some .boolean) :: ws_all) ({ frames := 1, cells := 0, slots := 0, locals := 22 } : Room) (me_Pc [.ref mo, .int x, .int y9, .int z9] D tb X z0 (mq tb mo F w av od sv sl nz ip ot M0) n) (me_Qi D z0 (b1 (ahP w x y9 z9)) (mq tb mo F w av od sv sl nz ip ot M0) n) 0 0 (me_A z0) := by
  refine me_open (by decide) (Nat.le_of_ble_eq_true rfl) ?_
  intro p e s m args below meth c ls hC hr hlk hnm hM hl
  have hl : lv_has ls 4 [(0, .ref mo), (1, .int x), (2, .int y9), (3, .int z9)] := hl
  have hx := hC.1
  have hb := hC.2.1
  have hw := hC.2.2.2.2.1
  refine lv_iload_n hx hb dX8_areHours_0 rfl (lv_at hl 2 rfl) ?_
  refine lv_iconst (v := 1) hx hb dX8_areHours_1 (by decide) ?_
  refine lv_iload_n hx hb dX8_areHours_2 rfl (lv_at hl 3 rfl) ?_
  refine me_callSi (As := [.int y9, .int 1, .int z9]) (rest := []) hC hl.1 hM (c_X8_in l D tb X z0 n _ y9 1 z9 ) (ks_X8_67 hw rfl rfl ⟨Nat.le_of_ble_eq_true rfl, Nat.le_of_ble_eq_true rfl⟩) rfl rfl (Nat.le_of_ble_eq_true rfl) dX8_areHours_3 ⟨Nat.le_of_ble_eq_true rfl, Nat.le_of_ble_eq_true rfl⟩ (fun H locs hM => ?_)
  refine lv_if_eq (tgt := 33) hx hb dX8_areHours_6 (by decide) (fun c_1 => ?_) (fun c_1 => ?_)
  · have c_1 := b1_0.mp c_1
    refine lv_iconst (v := 0) hx hb dX8_areHours_33 (by decide) ?_
    exact me_zret hC hr hlk hM (b1_f (fun z => c_1 z.1)) (by first | decide | simp) (rfl) (rfl) dX8_areHours_34
  · have c_1 := b1_n0.mp c_1
    refine lv_aload_n hx hb dX8_areHours_9 rfl (lv_at hl 0 rfl) ?_
    refine lv_iload_n hx hb dX8_areHours_10 rfl (lv_at hl 1 rfl) ?_
    refine me_callVi (As := [.int x]) (rest := []) hC hl.1 hM (c_X8_inHorizon l D tb X z0 n mo F w av od sv sl nz ip ot M0 x ) (kv_X8_84 hw rfl rfl ⟨Nat.le_of_ble_eq_true rfl, Nat.le_of_ble_eq_true rfl⟩) rfl rfl mq_F rfl (Nat.le_of_ble_eq_true rfl) dX8_areHours_11 ⟨Nat.le_of_ble_eq_true rfl, Nat.le_of_ble_eq_true rfl⟩ (fun H locs hM => ?_)
    refine lv_if_eq (tgt := 33) hx hb dX8_areHours_14 (by decide) (fun c_2 => ?_) (fun c_2 => ?_)
    · have c_2 := b1_0.mp c_2
      refine lv_iconst (v := 0) hx hb dX8_areHours_33 (by decide) ?_
      exact me_zret hC hr hlk hM (b1_f (fun z => c_2 z.2.1)) (by first | decide | simp) (rfl) (rfl) dX8_areHours_34
    · have c_2 := b1_n0.mp c_2
      refine lv_aload_n hx hb dX8_areHours_17 rfl (lv_at hl 0 rfl) ?_
      refine lv_iload_n hx hb dX8_areHours_18 rfl (lv_at hl 1 rfl) ?_
      refine lv_iload_n hx hb dX8_areHours_19 rfl (lv_at hl 2 rfl) ?_
      refine lv_iadd hx hb dX8_areHours_20 ?_
      refine lv_iconst (v := 1) hx hb dX8_areHours_21 (by decide) ?_
      refine lv_isub hx hb dX8_areHours_22 ?_
      refine me_callVi (As := [.int ((x + y9) - 1)]) (rest := []) hC hl.1 hM (c_X8_inHorizon l D tb X z0 n mo F w av od sv sl nz ip ot M0 ((x + y9) - 1) ) (kv_X8_84 hw rfl rfl ⟨Nat.le_of_ble_eq_true rfl, Nat.le_of_ble_eq_true rfl⟩) rfl rfl mq_F rfl (Nat.le_of_ble_eq_true rfl) dX8_areHours_23 ⟨Nat.le_of_ble_eq_true rfl, Nat.le_of_ble_eq_true rfl⟩ (fun H locs hM => ?_)
      refine lv_if_eq (tgt := 33) hx hb dX8_areHours_26 (by decide) (fun c_3 => ?_) (fun c_3 => ?_)
      · have c_3 := b1_0.mp c_3
        refine lv_iconst (v := 0) hx hb dX8_areHours_33 (by decide) ?_
        exact me_zret hC hr hlk hM (b1_f (fun z => c_3 z.2.2)) (by first | decide | simp) (rfl) (rfl) dX8_areHours_34
      · have c_3 := b1_n0.mp c_3
        refine lv_iconst (v := 1) hx hb dX8_areHours_29 (by decide) ?_
        refine lv_goto (tgt := 34) hx hb dX8_areHours_30 (by decide) ?_
        exact me_zret hC hr hlk hM (b1_t ⟨c_1, c_2, c_3⟩) (by first | decide | simp) (rfl) (rfl) dX8_areHours_34
set_option maxHeartbeats 4000000 in
theorem c_X8_covers (l : Launch) (D : va_G) (tb : Nat → ClassId) (X : State → Prop) (z0 n : Nat) (mo : Nat) (F w av od sv sl nz ip ot : Nat → Int32) (M0 : me_M) (k : Nat) (f h : Int32)  (hk0 : k < 10) (hZ : wz w) : Met l yX8_covers (.code yX8_covers cX8_covers 6 (some .boolean) :: ws_all) ({ frames := 1, cells := 0, slots := 0, locals := 20 } : Room) (me_Pc [.ref mo, .int (nI k), .int f, .int h] D tb X z0 (mq tb mo F w av od sv sl nz ip ot M0) n) (me_Qi D z0 (b1 (cvK w k f h)) (mq tb mo F w av od sv sl nz ip ot M0) n) 0 0 (me_A z0) := by
  refine me_open (by decide) (Nat.le_of_ble_eq_true rfl) ?_
  intro p e s m args below meth c ls hC hr hlk hnm hM hl
  have hl : lv_has ls 6 [(0, .ref mo), (1, .int (nI k)), (2, .int f), (3, .int h)] := hl
  have hx := hC.1
  have hb := hC.2.1
  have hw := hC.2.2.2.2.1
  refine lv_iload_n hx hb dX8_covers_0 rfl (lv_at hl 1 rfl) ?_
  refine me_callSi (As := [.int (nI k)]) (rest := []) hC hl.1 hM (c_X8_p l D tb X z0 n _ k ) (ks_X8_87 hw rfl rfl ⟨Nat.le_of_ble_eq_true rfl, Nat.le_of_ble_eq_true rfl⟩) rfl rfl (Nat.le_of_ble_eq_true rfl) dX8_covers_1 ⟨Nat.le_of_ble_eq_true rfl, Nat.le_of_ble_eq_true rfl⟩ (fun H locs hM => ?_)
  refine lv_istore (lv' := [(4, .int (nI (221 + 4 * k))), (0, .ref mo), (1, .int (nI k)), (2, .int f), (3, .int h)]) hx hb dX8_covers_4 hl (by decide) rfl (fun ls hl => ?_)
  refine lv_aload_n hx hb dX8_covers_6 rfl (lv_at hl 1 rfl) ?_
  refine fg_X8_13 hC hM mq_F rfl dX8_covers_7 ?_
  refine lv_iload hx hb dX8_covers_10 (lv_at hl 0 rfl) ?_
  refine lv_iconst (v := 0) hx hb dX8_covers_12 (by decide) ?_
  refine lv_iadd hx hb dX8_covers_13 ?_
  refine me_iald (k := 221 + 4 * k) hC hM mq_w (nx_z rfl) (by omega) (by decide) dX8_covers_14 ?_
  refine lv_iload_n hx hb dX8_covers_15 rfl (lv_at hl 3 rfl) ?_
  refine lv_icmp_ne (tgt := 35) hx hb dX8_covers_16 (by decide) (fun c_1 => ?_) (fun c_1 => ?_)
  · refine lv_iconst (v := 0) hx hb dX8_covers_35 (by decide) ?_
    refine lv_istore (lv' := [(5, .int 0), (4, .int (nI (221 + 4 * k))), (0, .ref mo), (1, .int (nI k)), (2, .int f), (3, .int h)]) hx hb dX8_covers_36 hl (by decide) rfl (fun ls hl => ?_)
    refine lv_iload hx hb dX8_covers_38 (lv_at hl 0 rfl) ?_
    refine lv_if_eq (tgt := 83) hx hb dX8_covers_40 (by decide) (fun c_2 => ?_) (fun c_2 => ?_)
    · refine lv_iconst (v := 0) hx hb dX8_covers_83 (by decide) ?_
      exact me_zret hC hr hlk hM (by have hbz_ := hZ.1 k (by omega); clear hl; simp [b1, cvK, cv, hbz_, (show bz 0 = 0 by decide), c_1, c_2]) (by first | decide | simp) (rfl) (rfl) dX8_covers_84
    · exact absurd c_2 (by decide)
  · refine lv_aload_n hx hb dX8_covers_19 rfl (lv_at hl 1 rfl) ?_
    refine fg_X8_13 hC hM mq_F rfl dX8_covers_20 ?_
    refine lv_iload hx hb dX8_covers_23 (lv_at hl 0 rfl) ?_
    refine lv_iconst (v := 3) hx hb dX8_covers_25 (by decide) ?_
    refine lv_iadd hx hb dX8_covers_26 ?_
    refine me_iald (k := 221 + 4 * k + 3) hC hM mq_w (nx_add rfl (nx_c 3)) (by omega) (by decide) dX8_covers_27 ?_
    refine lv_if_ne (tgt := 35) hx hb dX8_covers_28 (by decide) (fun c_3 => ?_) (fun c_3 => ?_)
    · refine lv_iconst (v := 0) hx hb dX8_covers_35 (by decide) ?_
      refine lv_istore (lv' := [(5, .int 0), (4, .int (nI (221 + 4 * k))), (0, .ref mo), (1, .int (nI k)), (2, .int f), (3, .int h)]) hx hb dX8_covers_36 hl (by decide) rfl (fun ls hl => ?_)
      refine lv_iload hx hb dX8_covers_38 (lv_at hl 0 rfl) ?_
      refine lv_if_eq (tgt := 83) hx hb dX8_covers_40 (by decide) (fun c_4 => ?_) (fun c_4 => ?_)
      · refine lv_iconst (v := 0) hx hb dX8_covers_83 (by decide) ?_
        exact me_zret hC hr hlk hM (by have hbz_ := hZ.1 k (by omega); clear hl; simp [b1, cvK, cv, hbz_, (show bz 0 = 0 by decide), c_1, c_3, c_4]) (by first | decide | simp) (rfl) (rfl) dX8_covers_84
      · exact absurd c_4 (by decide)
    · refine lv_iconst (v := 1) hx hb dX8_covers_31 (by decide) ?_
      refine lv_goto (tgt := 36) hx hb dX8_covers_32 (by decide) ?_
      refine lv_istore (lv' := [(5, .int 1), (4, .int (nI (221 + 4 * k))), (0, .ref mo), (1, .int (nI k)), (2, .int f), (3, .int h)]) hx hb dX8_covers_36 hl (by decide) rfl (fun ls hl => ?_)
      refine lv_iload hx hb dX8_covers_38 (lv_at hl 0 rfl) ?_
      refine lv_if_eq (tgt := 83) hx hb dX8_covers_40 (by decide) (fun c_5 => ?_) (fun c_5 => ?_)
      · exact absurd c_5 (by decide)
      · refine lv_iload_n hx hb dX8_covers_43 rfl (lv_at hl 5 rfl) ?_
        refine lv_aload_n hx hb dX8_covers_44 rfl (lv_at hl 2 rfl) ?_
        refine fg_X8_13 hC hM mq_F rfl dX8_covers_45 ?_
        refine lv_iload hx hb dX8_covers_48 (lv_at hl 1 rfl) ?_
        refine lv_iconst (v := 1) hx hb dX8_covers_50 (by decide) ?_
        refine lv_iadd hx hb dX8_covers_51 ?_
        refine me_iald (k := 221 + 4 * k + 1) hC hM mq_w (nx_add rfl (show (1 : Int32) = nI 1 from rfl)) (by omega) (by decide) dX8_covers_52 ?_
        refine lv_icmp_lt (tgt := 83) hx hb dX8_covers_53 (by decide) (fun c_6 => ?_) (fun c_6 => ?_)
        · have c_6q := Int32.not_le.mpr c_6
          refine lv_iconst (v := 0) hx hb dX8_covers_83 (by decide) ?_
          exact me_zret hC hr hlk hM (by have hbz_ := hZ.1 k (by omega); clear hl; simp [b1, cvK, cv, hbz_, (show bz 0 = 0 by decide), c_1, c_3, c_5, c_6, c_6q]) (by first | decide | simp) (rfl) (rfl) dX8_covers_84
        · have c_6q := Int32.not_lt.mp c_6
          refine lv_iload_n hx hb dX8_covers_56 rfl (lv_at hl 5 rfl) ?_
          refine lv_aload_n hx hb dX8_covers_57 rfl (lv_at hl 2 rfl) ?_
          refine fg_X8_13 hC hM mq_F rfl dX8_covers_58 ?_
          refine lv_iload hx hb dX8_covers_61 (lv_at hl 1 rfl) ?_
          refine lv_iconst (v := 1) hx hb dX8_covers_63 (by decide) ?_
          refine lv_iadd hx hb dX8_covers_64 ?_
          refine me_iald (k := 221 + 4 * k + 1) hC hM mq_w (nx_add rfl (show (1 : Int32) = nI 1 from rfl)) (by omega) (by decide) dX8_covers_65 ?_
          refine lv_aload_n hx hb dX8_covers_66 rfl (lv_at hl 2 rfl) ?_
          refine fg_X8_13 hC hM mq_F rfl dX8_covers_67 ?_
          refine lv_iload hx hb dX8_covers_70 (lv_at hl 1 rfl) ?_
          refine lv_iconst (v := 2) hx hb dX8_covers_72 (by decide) ?_
          refine lv_iadd hx hb dX8_covers_73 ?_
          refine me_iald (k := 221 + 4 * k + 2) hC hM mq_w (nx_add rfl (nx_c 2)) (by omega) (by decide) dX8_covers_74 ?_
          refine lv_iadd hx hb dX8_covers_75 ?_
          refine lv_icmp_ge (tgt := 83) hx hb dX8_covers_76 (by decide) (fun c_7 => ?_) (fun c_7 => ?_)
          · have c_7q := c_7
            have c_7 := Int32.not_lt.mpr c_7
            refine lv_iconst (v := 0) hx hb dX8_covers_83 (by decide) ?_
            exact me_zret hC hr hlk hM (by have hbz_ := hZ.1 k (by omega); clear hl; simp [b1, cvK, cv, hbz_, (show bz 0 = 0 by decide), c_1, c_3, c_5, c_6, c_7, c_6q, c_7q]) (by first | decide | simp) (rfl) (rfl) dX8_covers_84
          · have c_7q := c_7
            have c_7 := Int32.not_le.mp c_7
            refine lv_iconst (v := 1) hx hb dX8_covers_79 (by decide) ?_
            refine lv_goto (tgt := 84) hx hb dX8_covers_80 (by decide) ?_
            exact me_zret hC hr hlk hM (by have hbz_ := hZ.1 k (by omega); clear hl; simp [b1, cvK, cv, hbz_, (show bz 0 = 0 by decide), c_1, c_3, c_5, c_6, c_7, c_6q, c_7q]) (by first | decide | simp) (rfl) (rfl) dX8_covers_84
set_option maxHeartbeats 4000000 in
theorem c_X8_permitAt (l : Launch) (D : va_G) (tb : Nat → ClassId) (X : State → Prop) (z0 n : Nat) (mo : Nat) (F w av od sv sl nz ip ot : Nat → Int32) (M0 : me_M) (P : Nat) (f h : Int32)  (hP : w 5 = nI P) (hP0 : P ≤ 10) (hZ : wz w) : Met l yX8_permitAt (.code yX8_permitAt cX8_permitAt 4 (some .int) :: ws_all) ({ frames := 2, cells := 0, slots := 0, locals := 45 } : Room) (me_Pc [.ref mo, .int f, .int h] D tb X z0 (mq tb mo F w av od sv sl nz ip ot M0) n) (me_Qi D z0 (peF w P f h) (mq tb mo F w av od sv sl nz ip ot M0) n) 0 0 (me_A z0) := by
  refine me_open (by decide) (Nat.le_of_ble_eq_true rfl) ?_
  intro p e s m args below meth c ls hC hr hlk hnm hM hl
  have hl : lv_has ls 4 [(0, .ref mo), (1, .int f), (2, .int h)] := hl
  have hx := hC.1
  have hb := hC.2.1
  have hw := hC.2.2.2.2.1
  refine lv_iconst (v := 0) hx hb dX8_permitAt_0 (by decide) ?_
  refine lv_istore_n (lv' := [(3, .int 0), (0, .ref mo), (1, .int f), (2, .int h)]) hx hb dX8_permitAt_1 rfl hl (by decide) rfl (fun ls hl => ?_)
  have lp_2 : ∀ (r : Nat) (k : Nat) (H : Heap) (locs : List Loc) (ls : Array Slot), (k + r = P) → (peF w P f h = fi (fun k => cvK w k f h) r k) → me_at D z0 (mq tb mo F w av od sv sl nz ip ot M0) n s H locs → lv_has ls 4 [(0, .ref mo), (1, .int f), (2, .int h), (3, .int (nI k))] → W p l e (({ frames := 2, cells := 0, slots := 0, locals := 45 } : Room)) s m args below meth c H locs 0 0 (MQ below (me_Qi D z0 (peF w P f h) (mq tb mo F w av od sv sl nz ip ot M0) n) args s 0 0 (me_A z0)) (F0 m 2 ls []) := by
    intro r
    refine Nat.strongRecOn r ?_
    intro r ih_2 k H locs ls hk hq hM hl
    refine lv_iload_n hx hb dX8_permitAt_2 rfl (lv_at hl 3 rfl) ?_
    refine lv_aload_n hx hb dX8_permitAt_3 rfl (lv_at hl 0 rfl) ?_
    refine fg_X8_13 hC hM mq_F rfl dX8_permitAt_4 ?_
    refine lv_iconst (v := 5) hx hb dX8_permitAt_7 (by decide) ?_
    refine me_iald (k := 5) hC hM mq_w (nx_c 5) (by omega) (by decide) dX8_permitAt_8 ?_
    refine lv_icmp_ge (tgt := 30) hx hb dX8_permitAt_9 (by decide) (fun c_1 => ?_) (fun c_1 => ?_)
    · have c_1 := (br_le hP rfl (by omega) (by omega)).mp c_1
      refine lv_iconst (v := (-1)) hx hb dX8_permitAt_30 (by decide) ?_
      exact me_iret hC hr hlk hM (by rw [hq, show r = 0 by omega]; rfl) (rfl) (rfl) dX8_permitAt_31
    · have c_1 := (not_congr (br_le hP rfl (by omega) (by omega))).mp c_1
      obtain ⟨r1, rfl⟩ : ∃ r1, r = r1 + 1 := ⟨r - 1, by omega⟩
      refine lv_aload_n hx hb dX8_permitAt_12 rfl (lv_at hl 0 rfl) ?_
      refine lv_iload_n hx hb dX8_permitAt_13 rfl (lv_at hl 3 rfl) ?_
      refine lv_iload_n hx hb dX8_permitAt_14 rfl (lv_at hl 1 rfl) ?_
      refine lv_iload_n hx hb dX8_permitAt_15 rfl (lv_at hl 2 rfl) ?_
      refine me_callVi (As := [.int (nI k), .int f, .int h]) (rest := []) hC hl.1 hM (c_X8_covers l D tb X z0 n mo F w av od sv sl nz ip ot M0 k f h (by omega) hZ) (kv_X8_90 hw rfl rfl ⟨Nat.le_of_ble_eq_true rfl, Nat.le_of_ble_eq_true rfl⟩) rfl rfl mq_F rfl (Nat.le_of_ble_eq_true rfl) dX8_permitAt_16 ⟨Nat.le_of_ble_eq_true rfl, Nat.le_of_ble_eq_true rfl⟩ (fun H locs hM => ?_)
      refine lv_if_eq (tgt := 24) hx hb dX8_permitAt_19 (by decide) (fun c_2 => ?_) (fun c_2 => ?_)
      · have c_2 := b1_0.mp c_2
        refine lv_iinc (v := nI (k + 1)) (lv' := [(3, .int (nI (k + 1))), (0, .ref mo), (1, .int f), (2, .int h)]) hx hb dX8_permitAt_24 hl (k := 3) rfl (nx_add rfl rfl) (by decide) rfl (fun ls hl => ?_)
        refine lv_goto (tgt := 2) hx hb dX8_permitAt_27 (by decide) ?_
        exact ih_2 r1 (by omega) (k + 1) _ _ _ (by omega) (hq.trans (fi_f (P := fun k => cvK w k f h) (k := k) (c_2))) hM (lv_sub hl [1, 2, 3, 0] rfl)
      · have c_2 := b1_n0.mp c_2
        refine lv_iload_n hx hb dX8_permitAt_22 rfl (lv_at hl 3 rfl) ?_
        exact me_iret hC hr hlk hM (by rw [hq, fi_t (P := fun k => cvK w k f h) (k := k) (c_2)]) (rfl) (rfl) dX8_permitAt_23
  exact lp_2 P 0 _ _ _ (by omega) rfl hM (lv_sub hl [1, 2, 3, 0] rfl)
set_option maxHeartbeats 4000000 in
theorem c_X8_endOf (l : Launch) (D : va_G) (tb : Nat → ClassId) (X : State → Prop) (z0 n : Nat) (mo : Nat) (F w av od sv sl nz ip ot : Nat → Int32) (M0 : me_M) (k : Nat)  (hk0 : k < 30) : Met l yX8_endOf (.code yX8_endOf cX8_endOf 2 (some .int) :: ws_all) ({ frames := 1, cells := 0, slots := 0, locals := 20 } : Room) (me_Pc [.ref mo, .int (nI k)] D tb X z0 (mq tb mo F w av od sv sl nz ip ot M0) n) (me_Qi D z0 (w (261 + 5 * k + 1) + w (261 + 5 * k + 2)) (mq tb mo F w av od sv sl nz ip ot M0) n) 0 0 (me_A z0) := by
  refine me_open (by decide) (Nat.le_of_ble_eq_true rfl) ?_
  intro p e s m args below meth c ls hC hr hlk hnm hM hl
  have hl : lv_has ls 2 [(0, .ref mo), (1, .int (nI k))] := hl
  have hx := hC.1
  have hb := hC.2.1
  have hw := hC.2.2.2.2.1
  refine lv_aload_n hx hb dX8_endOf_0 rfl (lv_at hl 0 rfl) ?_
  refine fg_X8_13 hC hM mq_F rfl dX8_endOf_1 ?_
  refine lv_iload_n hx hb dX8_endOf_4 rfl (lv_at hl 1 rfl) ?_
  refine me_callSi (As := [.int (nI k)]) (rest := [.ref (mo + 2)]) hC hl.1 hM (c_X8_l l D tb X z0 n _ k ) (ks_X8_93 hw rfl rfl ⟨Nat.le_of_ble_eq_true rfl, Nat.le_of_ble_eq_true rfl⟩) rfl rfl (Nat.le_of_ble_eq_true rfl) dX8_endOf_5 ⟨Nat.le_of_ble_eq_true rfl, Nat.le_of_ble_eq_true rfl⟩ (fun H locs hM => ?_)
  refine lv_iconst (v := 1) hx hb dX8_endOf_8 (by decide) ?_
  refine lv_iadd hx hb dX8_endOf_9 ?_
  refine me_iald (k := 261 + 5 * k + 1) hC hM mq_w (nx_add rfl (show (1 : Int32) = nI 1 from rfl)) (by omega) (by decide) dX8_endOf_10 ?_
  refine lv_aload_n hx hb dX8_endOf_11 rfl (lv_at hl 0 rfl) ?_
  refine fg_X8_13 hC hM mq_F rfl dX8_endOf_12 ?_
  refine lv_iload_n hx hb dX8_endOf_15 rfl (lv_at hl 1 rfl) ?_
  refine me_callSi (As := [.int (nI k)]) (rest := [.ref (mo + 2), .int (w (261 + 5 * k + 1))]) hC hl.1 hM (c_X8_l l D tb X z0 n _ k ) (ks_X8_93 hw rfl rfl ⟨Nat.le_of_ble_eq_true rfl, Nat.le_of_ble_eq_true rfl⟩) rfl rfl (Nat.le_of_ble_eq_true rfl) dX8_endOf_16 ⟨Nat.le_of_ble_eq_true rfl, Nat.le_of_ble_eq_true rfl⟩ (fun H locs hM => ?_)
  refine lv_iconst (v := 2) hx hb dX8_endOf_19 (by decide) ?_
  refine lv_iadd hx hb dX8_endOf_20 ?_
  refine me_iald (k := 261 + 5 * k + 2) hC hM mq_w (nx_add rfl (nx_c 2)) (by omega) (by decide) dX8_endOf_21 ?_
  refine lv_iadd hx hb dX8_endOf_22 ?_
  exact me_iret hC hr hlk hM (by first | rfl | simp []) (rfl) (rfl) dX8_endOf_23
set_option maxHeartbeats 4000000 in
theorem c_X8_isLive (l : Launch) (D : va_G) (tb : Nat → ClassId) (X : State → Prop) (z0 n : Nat) (mo : Nat) (F w av od sv sl nz ip ot : Nat → Int32) (M0 : me_M) (k : Nat)  (hk0 : k < 30) : Met l yX8_isLive (.code yX8_isLive cX8_isLive 2 (some .boolean) :: ws_all) ({ frames := 1, cells := 0, slots := 0, locals := 20 } : Room) (me_Pc [.ref mo, .int (nI k)] D tb X z0 (mq tb mo F w av od sv sl nz ip ot M0) n) (me_Qi D z0 (b1 (w (261 + 5 * k + 4) ≤ 1)) (mq tb mo F w av od sv sl nz ip ot M0) n) 0 0 (me_A z0) := by
  refine me_open (by decide) (Nat.le_of_ble_eq_true rfl) ?_
  intro p e s m args below meth c ls hC hr hlk hnm hM hl
  have hl : lv_has ls 2 [(0, .ref mo), (1, .int (nI k))] := hl
  have hx := hC.1
  have hb := hC.2.1
  have hw := hC.2.2.2.2.1
  refine lv_aload_n hx hb dX8_isLive_0 rfl (lv_at hl 0 rfl) ?_
  refine fg_X8_13 hC hM mq_F rfl dX8_isLive_1 ?_
  refine lv_iload_n hx hb dX8_isLive_4 rfl (lv_at hl 1 rfl) ?_
  refine me_callSi (As := [.int (nI k)]) (rest := [.ref (mo + 2)]) hC hl.1 hM (c_X8_l l D tb X z0 n _ k ) (ks_X8_93 hw rfl rfl ⟨Nat.le_of_ble_eq_true rfl, Nat.le_of_ble_eq_true rfl⟩) rfl rfl (Nat.le_of_ble_eq_true rfl) dX8_isLive_5 ⟨Nat.le_of_ble_eq_true rfl, Nat.le_of_ble_eq_true rfl⟩ (fun H locs hM => ?_)
  refine lv_iconst (v := 4) hx hb dX8_isLive_8 (by decide) ?_
  refine lv_iadd hx hb dX8_isLive_9 ?_
  refine me_iald (k := 261 + 5 * k + 4) hC hM mq_w (nx_add rfl (nx_c 4)) (by omega) (by decide) dX8_isLive_10 ?_
  refine lv_iconst (v := 1) hx hb dX8_isLive_11 (by decide) ?_
  refine lv_icmp_gt (tgt := 19) hx hb dX8_isLive_12 (by decide) (fun c_1 => ?_) (fun c_1 => ?_)
  · have c_1q := Int32.not_le.mpr c_1
    refine lv_iconst (v := 0) hx hb dX8_isLive_19 (by decide) ?_
    exact me_zret hC hr hlk hM (by first | rfl | simp [b1, c_1, c_1q]) (by first | decide | simp) (rfl) (rfl) dX8_isLive_20
  · have c_1q := Int32.not_lt.mp c_1
    refine lv_iconst (v := 1) hx hb dX8_isLive_15 (by decide) ?_
    refine lv_goto (tgt := 20) hx hb dX8_isLive_16 (by decide) ?_
    exact me_zret hC hr hlk hM (by first | rfl | simp [b1, c_1, c_1q]) (by first | decide | simp) (rfl) (rfl) dX8_isLive_20
set_option maxHeartbeats 4000000 in
theorem c_X8_holds (l : Launch) (D : va_G) (tb : Nat → ClassId) (X : State → Prop) (z0 n : Nat) (mo : Nat) (F w av od sv sl nz ip ot : Nat → Int32) (M0 : me_M) (k hh : Nat)  (hk0 : k < 30) (hh0 : hh ≤ 30000) (hZ : wz w) : Met l yX8_holds (.code yX8_holds cX8_holds 3 (some .boolean) :: ws_all) ({ frames := 2, cells := 0, slots := 0, locals := 41 } : Room) (me_Pc [.ref mo, .int (nI k), .int (nI hh)] D tb X z0 (mq tb mo F w av od sv sl nz ip ot M0) n) (me_Qi D z0 (b1 (hdK w k (nI hh) 1)) (mq tb mo F w av od sv sl nz ip ot M0) n) 0 0 (me_A z0) := by
  refine me_open (by decide) (Nat.le_of_ble_eq_true rfl) ?_
  intro p e s m args below meth c ls hC hr hlk hnm hM hl
  have hl : lv_has ls 3 [(0, .ref mo), (1, .int (nI k)), (2, .int (nI hh))] := hl
  have hx := hC.1
  have hb := hC.2.1
  have hw := hC.2.2.2.2.1
  refine lv_aload_n hx hb dX8_holds_0 rfl (lv_at hl 0 rfl) ?_
  refine lv_iload_n hx hb dX8_holds_1 rfl (lv_at hl 1 rfl) ?_
  refine me_callVi (As := [.int (nI k)]) (rest := []) hC hl.1 hM (c_X8_isLive l D tb X z0 n mo F w av od sv sl nz ip ot M0 k (by omega)) (kv_X8_96 hw rfl rfl ⟨Nat.le_of_ble_eq_true rfl, Nat.le_of_ble_eq_true rfl⟩) rfl rfl mq_F rfl (Nat.le_of_ble_eq_true rfl) dX8_holds_2 ⟨Nat.le_of_ble_eq_true rfl, Nat.le_of_ble_eq_true rfl⟩ (fun H locs hM => ?_)
  refine lv_if_eq (tgt := 36) hx hb dX8_holds_5 (by decide) (fun c_1 => ?_) (fun c_1 => ?_)
  · have c_1 := b1_0.mp c_1
    refine lv_iconst (v := 0) hx hb dX8_holds_36 (by decide) ?_
    exact me_zret hC hr hlk hM (by have hz_ := le1 (hZ.2 k (by omega)); clear hl; simp only [hz_] at *; simp [b1, hdK, hd, lt_succ (show hh < 2 ^ 31 - 1 by omega), c_1]) (by first | decide | simp) (rfl) (rfl) dX8_holds_37
  · have c_1 := b1_n0.mp c_1
    refine lv_iload_n hx hb dX8_holds_8 rfl (lv_at hl 2 rfl) ?_
    refine lv_aload_n hx hb dX8_holds_9 rfl (lv_at hl 0 rfl) ?_
    refine fg_X8_13 hC hM mq_F rfl dX8_holds_10 ?_
    refine lv_iload_n hx hb dX8_holds_13 rfl (lv_at hl 1 rfl) ?_
    refine me_callSi (As := [.int (nI k)]) (rest := [.ref (mo + 2), .int (nI hh)]) hC hl.1 hM (c_X8_l l D tb X z0 n _ k ) (ks_X8_93 hw rfl rfl ⟨Nat.le_of_ble_eq_true rfl, Nat.le_of_ble_eq_true rfl⟩) rfl rfl (Nat.le_of_ble_eq_true rfl) dX8_holds_14 ⟨Nat.le_of_ble_eq_true rfl, Nat.le_of_ble_eq_true rfl⟩ (fun H locs hM => ?_)
    refine lv_iconst (v := 1) hx hb dX8_holds_17 (by decide) ?_
    refine lv_iadd hx hb dX8_holds_18 ?_
    refine me_iald (k := 261 + 5 * k + 1) hC hM mq_w (nx_add rfl (show (1 : Int32) = nI 1 from rfl)) (by omega) (by decide) dX8_holds_19 ?_
    refine lv_icmp_lt (tgt := 36) hx hb dX8_holds_20 (by decide) (fun c_2 => ?_) (fun c_2 => ?_)
    · have c_2q := Int32.not_le.mpr c_2
      refine lv_iconst (v := 0) hx hb dX8_holds_36 (by decide) ?_
      exact me_zret hC hr hlk hM (by have hz_ := le1 (hZ.2 k (by omega)); clear hl; simp only [hz_] at *; simp [b1, hdK, hd, lt_succ (show hh < 2 ^ 31 - 1 by omega), c_1, c_2, c_2q]) (by first | decide | simp) (rfl) (rfl) dX8_holds_37
    · have c_2q := Int32.not_lt.mp c_2
      refine lv_iload_n hx hb dX8_holds_23 rfl (lv_at hl 2 rfl) ?_
      refine lv_aload_n hx hb dX8_holds_24 rfl (lv_at hl 0 rfl) ?_
      refine lv_iload_n hx hb dX8_holds_25 rfl (lv_at hl 1 rfl) ?_
      refine me_callVi (As := [.int (nI k)]) (rest := [.int (nI hh)]) hC hl.1 hM (c_X8_endOf l D tb X z0 n mo F w av od sv sl nz ip ot M0 k (by omega)) (kv_X8_99 hw rfl rfl ⟨Nat.le_of_ble_eq_true rfl, Nat.le_of_ble_eq_true rfl⟩) rfl rfl mq_F rfl (Nat.le_of_ble_eq_true rfl) dX8_holds_26 ⟨Nat.le_of_ble_eq_true rfl, Nat.le_of_ble_eq_true rfl⟩ (fun H locs hM => ?_)
      refine lv_icmp_ge (tgt := 36) hx hb dX8_holds_29 (by decide) (fun c_3 => ?_) (fun c_3 => ?_)
      · have c_3q := c_3
        have c_3 := Int32.not_lt.mpr c_3
        refine lv_iconst (v := 0) hx hb dX8_holds_36 (by decide) ?_
        exact me_zret hC hr hlk hM (by have hz_ := le1 (hZ.2 k (by omega)); clear hl; simp only [hz_] at *; simp [b1, hdK, hd, lt_succ (show hh < 2 ^ 31 - 1 by omega), c_1, c_2, c_3, c_2q, c_3q]) (by first | decide | simp) (rfl) (rfl) dX8_holds_37
      · have c_3q := c_3
        have c_3 := Int32.not_le.mp c_3
        refine lv_iconst (v := 1) hx hb dX8_holds_32 (by decide) ?_
        refine lv_goto (tgt := 37) hx hb dX8_holds_33 (by decide) ?_
        exact me_zret hC hr hlk hM (by have hz_ := le1 (hZ.2 k (by omega)); clear hl; simp only [hz_] at *; simp [b1, hdK, hd, lt_succ (show hh < 2 ^ 31 - 1 by omega), c_1, c_2, c_3, c_2q, c_3q]) (by first | decide | simp) (rfl) (rfl) dX8_holds_37
set_option maxHeartbeats 4000000 in
theorem c_X8_holderAt (l : Launch) (D : va_G) (tb : Nat → ClassId) (X : State → Prop) (z0 n : Nat) (mo : Nat) (F w av od sv sl nz ip ot : Nat → Int32) (M0 : me_M) (L hh : Nat)  (hL : w 6 = nI L) (hL0 : L ≤ 30) (hh0 : hh ≤ 30000) (hZ : wz w) : Met l yX8_holderAt (.code yX8_holderAt cX8_holderAt 3 (some .int) :: ws_all) ({ frames := 3, cells := 0, slots := 0, locals := 63 } : Room) (me_Pc [.ref mo, .int (nI hh)] D tb X z0 (mq tb mo F w av od sv sl nz ip ot M0) n) (me_Qi D z0 (hoF w L (nI hh)) (mq tb mo F w av od sv sl nz ip ot M0) n) 0 0 (me_A z0) := by
  refine me_open (by decide) (Nat.le_of_ble_eq_true rfl) ?_
  intro p e s m args below meth c ls hC hr hlk hnm hM hl
  have hl : lv_has ls 3 [(0, .ref mo), (1, .int (nI hh))] := hl
  have hx := hC.1
  have hb := hC.2.1
  have hw := hC.2.2.2.2.1
  refine lv_iconst (v := 0) hx hb dX8_holderAt_0 (by decide) ?_
  refine lv_istore_n (lv' := [(2, .int 0), (0, .ref mo), (1, .int (nI hh))]) hx hb dX8_holderAt_1 rfl hl (by decide) rfl (fun ls hl => ?_)
  have lp_2 : ∀ (r : Nat) (k : Nat) (H : Heap) (locs : List Loc) (ls : Array Slot), (k + r = L) → (hoF w L (nI hh) = fi (fun k => hdK w k (nI hh) 1) r k) → me_at D z0 (mq tb mo F w av od sv sl nz ip ot M0) n s H locs → lv_has ls 3 [(0, .ref mo), (1, .int (nI hh)), (2, .int (nI k))] → W p l e (({ frames := 3, cells := 0, slots := 0, locals := 63 } : Room)) s m args below meth c H locs 0 0 (MQ below (me_Qi D z0 (hoF w L (nI hh)) (mq tb mo F w av od sv sl nz ip ot M0) n) args s 0 0 (me_A z0)) (F0 m 2 ls []) := by
    intro r
    refine Nat.strongRecOn r ?_
    intro r ih_2 k H locs ls hk hq hM hl
    refine lv_iload_n hx hb dX8_holderAt_2 rfl (lv_at hl 2 rfl) ?_
    refine lv_aload_n hx hb dX8_holderAt_3 rfl (lv_at hl 0 rfl) ?_
    refine fg_X8_13 hC hM mq_F rfl dX8_holderAt_4 ?_
    refine lv_bipush (v := 6) hx hb dX8_holderAt_7 (by decide) ?_
    refine me_iald (k := 6) hC hM mq_w (nx_c 6) (by omega) (by decide) dX8_holderAt_9 ?_
    refine lv_icmp_ge (tgt := 30) hx hb dX8_holderAt_10 (by decide) (fun c_1 => ?_) (fun c_1 => ?_)
    · have c_1 := (br_le hL rfl (by omega) (by omega)).mp c_1
      refine lv_iconst (v := (-1)) hx hb dX8_holderAt_30 (by decide) ?_
      exact me_iret hC hr hlk hM (by rw [hq, show r = 0 by omega]; rfl) (rfl) (rfl) dX8_holderAt_31
    · have c_1 := (not_congr (br_le hL rfl (by omega) (by omega))).mp c_1
      obtain ⟨r1, rfl⟩ : ∃ r1, r = r1 + 1 := ⟨r - 1, by omega⟩
      refine lv_aload_n hx hb dX8_holderAt_13 rfl (lv_at hl 0 rfl) ?_
      refine lv_iload_n hx hb dX8_holderAt_14 rfl (lv_at hl 2 rfl) ?_
      refine lv_iload_n hx hb dX8_holderAt_15 rfl (lv_at hl 1 rfl) ?_
      refine me_callVi (As := [.int (nI k), .int (nI hh)]) (rest := []) hC hl.1 hM (c_X8_holds l D tb X z0 n mo F w av od sv sl nz ip ot M0 k hh (by omega) (by omega) hZ) (kv_X8_102 hw rfl rfl ⟨Nat.le_of_ble_eq_true rfl, Nat.le_of_ble_eq_true rfl⟩) rfl rfl mq_F rfl (Nat.le_of_ble_eq_true rfl) dX8_holderAt_16 ⟨Nat.le_of_ble_eq_true rfl, Nat.le_of_ble_eq_true rfl⟩ (fun H locs hM => ?_)
      refine lv_if_eq (tgt := 24) hx hb dX8_holderAt_19 (by decide) (fun c_2 => ?_) (fun c_2 => ?_)
      · have c_2 := b1_0.mp c_2
        refine lv_iinc (v := nI (k + 1)) (lv' := [(2, .int (nI (k + 1))), (0, .ref mo), (1, .int (nI hh))]) hx hb dX8_holderAt_24 hl (k := 2) rfl (nx_add rfl rfl) (by decide) rfl (fun ls hl => ?_)
        refine lv_goto (tgt := 2) hx hb dX8_holderAt_27 (by decide) ?_
        exact ih_2 r1 (by omega) (k + 1) _ _ _ (by omega) (hq.trans (fi_f (P := fun k => hdK w k (nI hh) 1) (k := k) (c_2))) hM (lv_sub hl [1, 2, 0] rfl)
      · have c_2 := b1_n0.mp c_2
        refine lv_iload_n hx hb dX8_holderAt_22 rfl (lv_at hl 2 rfl) ?_
        exact me_iret hC hr hlk hM (by rw [hq, fi_t (P := fun k => hdK w k (nI hh) 1) (k := k) (c_2)]) (rfl) (rfl) dX8_holderAt_23
  exact lp_2 L 0 _ _ _ (by omega) rfl hM (lv_sub hl [1, 2, 0] rfl)
set_option maxHeartbeats 4000000 in
theorem c_X8_meets (l : Launch) (D : va_G) (tb : Nat → ClassId) (X : State → Prop) (z0 n : Nat) (mo : Nat) (F w av od sv sl nz ip ot : Nat → Int32) (M0 : me_M) (k : Nat) (f h : Int32)  (hk0 : k < 30) (hZ : wz w) : Met l yX8_meets (.code yX8_meets cX8_meets 4 (some .boolean) :: ws_all) ({ frames := 2, cells := 0, slots := 0, locals := 41 } : Room) (me_Pc [.ref mo, .int (nI k), .int f, .int h] D tb X z0 (mq tb mo F w av od sv sl nz ip ot M0) n) (me_Qi D z0 (b1 (hdK w k f h)) (mq tb mo F w av od sv sl nz ip ot M0) n) 0 0 (me_A z0) := by
  refine me_open (by decide) (Nat.le_of_ble_eq_true rfl) ?_
  intro p e s m args below meth c ls hC hr hlk hnm hM hl
  have hl : lv_has ls 4 [(0, .ref mo), (1, .int (nI k)), (2, .int f), (3, .int h)] := hl
  have hx := hC.1
  have hb := hC.2.1
  have hw := hC.2.2.2.2.1
  refine lv_aload_n hx hb dX8_meets_0 rfl (lv_at hl 0 rfl) ?_
  refine lv_iload_n hx hb dX8_meets_1 rfl (lv_at hl 1 rfl) ?_
  refine me_callVi (As := [.int (nI k)]) (rest := []) hC hl.1 hM (c_X8_isLive l D tb X z0 n mo F w av od sv sl nz ip ot M0 k (by omega)) (kv_X8_96 hw rfl rfl ⟨Nat.le_of_ble_eq_true rfl, Nat.le_of_ble_eq_true rfl⟩) rfl rfl mq_F rfl (Nat.le_of_ble_eq_true rfl) dX8_meets_2 ⟨Nat.le_of_ble_eq_true rfl, Nat.le_of_ble_eq_true rfl⟩ (fun H locs hM => ?_)
  refine lv_if_eq (tgt := 38) hx hb dX8_meets_5 (by decide) (fun c_1 => ?_) (fun c_1 => ?_)
  · have c_1 := b1_0.mp c_1
    refine lv_iconst (v := 0) hx hb dX8_meets_38 (by decide) ?_
    exact me_zret hC hr hlk hM (by have hz_ := le1 (hZ.2 k (by omega)); clear hl; simp only [hz_] at *; simp [b1, hdK, hd, c_1]) (by first | decide | simp) (rfl) (rfl) dX8_meets_39
  · have c_1 := b1_n0.mp c_1
    refine lv_aload_n hx hb dX8_meets_8 rfl (lv_at hl 0 rfl) ?_
    refine fg_X8_13 hC hM mq_F rfl dX8_meets_9 ?_
    refine lv_iload_n hx hb dX8_meets_12 rfl (lv_at hl 1 rfl) ?_
    refine me_callSi (As := [.int (nI k)]) (rest := [.ref (mo + 2)]) hC hl.1 hM (c_X8_l l D tb X z0 n _ k ) (ks_X8_93 hw rfl rfl ⟨Nat.le_of_ble_eq_true rfl, Nat.le_of_ble_eq_true rfl⟩) rfl rfl (Nat.le_of_ble_eq_true rfl) dX8_meets_13 ⟨Nat.le_of_ble_eq_true rfl, Nat.le_of_ble_eq_true rfl⟩ (fun H locs hM => ?_)
    refine lv_iconst (v := 1) hx hb dX8_meets_16 (by decide) ?_
    refine lv_iadd hx hb dX8_meets_17 ?_
    refine me_iald (k := 261 + 5 * k + 1) hC hM mq_w (nx_add rfl (show (1 : Int32) = nI 1 from rfl)) (by omega) (by decide) dX8_meets_18 ?_
    refine lv_iload_n hx hb dX8_meets_19 rfl (lv_at hl 2 rfl) ?_
    refine lv_iload_n hx hb dX8_meets_20 rfl (lv_at hl 3 rfl) ?_
    refine lv_iadd hx hb dX8_meets_21 ?_
    refine lv_icmp_ge (tgt := 38) hx hb dX8_meets_22 (by decide) (fun c_2 => ?_) (fun c_2 => ?_)
    · have c_2q := c_2
      have c_2 := Int32.not_lt.mpr c_2
      refine lv_iconst (v := 0) hx hb dX8_meets_38 (by decide) ?_
      exact me_zret hC hr hlk hM (by have hz_ := le1 (hZ.2 k (by omega)); clear hl; simp only [hz_] at *; simp [b1, hdK, hd, c_1, c_2, c_2q]) (by first | decide | simp) (rfl) (rfl) dX8_meets_39
    · have c_2q := c_2
      have c_2 := Int32.not_le.mp c_2
      refine lv_aload_n hx hb dX8_meets_25 rfl (lv_at hl 0 rfl) ?_
      refine lv_iload_n hx hb dX8_meets_26 rfl (lv_at hl 1 rfl) ?_
      refine me_callVi (As := [.int (nI k)]) (rest := []) hC hl.1 hM (c_X8_endOf l D tb X z0 n mo F w av od sv sl nz ip ot M0 k (by omega)) (kv_X8_99 hw rfl rfl ⟨Nat.le_of_ble_eq_true rfl, Nat.le_of_ble_eq_true rfl⟩) rfl rfl mq_F rfl (Nat.le_of_ble_eq_true rfl) dX8_meets_27 ⟨Nat.le_of_ble_eq_true rfl, Nat.le_of_ble_eq_true rfl⟩ (fun H locs hM => ?_)
      refine lv_iload_n hx hb dX8_meets_30 rfl (lv_at hl 2 rfl) ?_
      refine lv_icmp_le (tgt := 38) hx hb dX8_meets_31 (by decide) (fun c_3 => ?_) (fun c_3 => ?_)
      · have c_3q := c_3
        have c_3 := Int32.not_lt.mpr c_3
        refine lv_iconst (v := 0) hx hb dX8_meets_38 (by decide) ?_
        exact me_zret hC hr hlk hM (by have hz_ := le1 (hZ.2 k (by omega)); clear hl; simp only [hz_] at *; simp [b1, hdK, hd, c_1, c_2, c_3, c_2q, c_3q]) (by first | decide | simp) (rfl) (rfl) dX8_meets_39
      · have c_3q := c_3
        have c_3 := Int32.not_le.mp c_3
        refine lv_iconst (v := 1) hx hb dX8_meets_34 (by decide) ?_
        refine lv_goto (tgt := 39) hx hb dX8_meets_35 (by decide) ?_
        exact me_zret hC hr hlk hM (by have hz_ := le1 (hZ.2 k (by omega)); clear hl; simp only [hz_] at *; simp [b1, hdK, hd, c_1, c_2, c_3, c_2q, c_3q]) (by first | decide | simp) (rfl) (rfl) dX8_meets_39
set_option maxHeartbeats 4000000 in
theorem c_X8_homeOf (l : Launch) (D : va_G) (tb : Nat → ClassId) (X : State → Prop) (z0 n : Nat) (mo : Nat) (F w av od sv sl nz ip ot : Nat → Int32) (M0 : me_M) (b : Nat)  (hb0 : b < 12) : Met l yX8_homeOf (.code yX8_homeOf cX8_homeOf 2 (some .int) :: ws_all) ({ frames := 1, cells := 0, slots := 0, locals := 20 } : Room) (me_Pc [.ref mo, .int (nI b)] D tb X z0 (mq tb mo F w av od sv sl nz ip ot M0) n) (me_Qi D z0 (w (89 + 11 * b)) (mq tb mo F w av od sv sl nz ip ot M0) n) 0 0 (me_A z0) := by
  refine me_open (by decide) (Nat.le_of_ble_eq_true rfl) ?_
  intro p e s m args below meth c ls hC hr hlk hnm hM hl
  have hl : lv_has ls 2 [(0, .ref mo), (1, .int (nI b))] := hl
  have hx := hC.1
  have hb := hC.2.1
  have hw := hC.2.2.2.2.1
  refine lv_aload_n hx hb dX8_homeOf_0 rfl (lv_at hl 0 rfl) ?_
  refine fg_X8_13 hC hM mq_F rfl dX8_homeOf_1 ?_
  refine lv_iload_n hx hb dX8_homeOf_4 rfl (lv_at hl 1 rfl) ?_
  refine me_callSi (As := [.int (nI b)]) (rest := [.ref (mo + 2)]) hC hl.1 hM (c_X8_b l D tb X z0 n _ b ) (ks_X8_78 hw rfl rfl ⟨Nat.le_of_ble_eq_true rfl, Nat.le_of_ble_eq_true rfl⟩) rfl rfl (Nat.le_of_ble_eq_true rfl) dX8_homeOf_5 ⟨Nat.le_of_ble_eq_true rfl, Nat.le_of_ble_eq_true rfl⟩ (fun H locs hM => ?_)
  refine lv_iconst (v := 0) hx hb dX8_homeOf_8 (by decide) ?_
  refine lv_iadd hx hb dX8_homeOf_9 ?_
  refine me_iald (k := 89 + 11 * b) hC hM mq_w (nx_z rfl) (by omega) (by decide) dX8_homeOf_10 ?_
  exact me_iret hC hr hlk hM (by first | rfl | simp []) (rfl) (rfl) dX8_homeOf_11
set_option maxHeartbeats 4000000 in
theorem c_X8_loanStreet (l : Launch) (D : va_G) (tb : Nat → ClassId) (X : State → Prop) (z0 n : Nat) (mo : Nat) (F w av od sv sl nz ip ot : Nat → Int32) (M0 : me_M) (S B L P : Nat) (k : Nat)  (hW : wf w S B L P) (hk : k < L) : Met l yX8_loanStreet (.code yX8_loanStreet cX8_loanStreet 2 (some .int) :: ws_all) ({ frames := 2, cells := 0, slots := 0, locals := 41 } : Room) (me_Pc [.ref mo, .int (nI k)] D tb X z0 (mq tb mo F w av od sv sl nz ip ot M0) n) (me_Qi D z0 (w (89 + 11 * ow w k)) (mq tb mo F w av od sv sl nz ip ot M0) n) 0 0 (me_A z0) := by
  refine me_open (by decide) (Nat.le_of_ble_eq_true rfl) ?_
  intro p e s m args below meth c ls hC hr hlk hnm hM hl
  have hl : lv_has ls 2 [(0, .ref mo), (1, .int (nI k))] := hl
  have hx := hC.1
  have hb := hC.2.1
  have hw := hC.2.2.2.2.1
  obtain ⟨hS, hS0, hB, hB0, hL, hL0, hP, hP0, hwb, hwl⟩ := id hW
  have hkl_ := hwl k (by omega)
  refine lv_aload_n hx hb dX8_loanStreet_0 rfl (lv_at hl 0 rfl) ?_
  refine lv_aload_n hx hb dX8_loanStreet_1 rfl (lv_at hl 0 rfl) ?_
  refine fg_X8_13 hC hM mq_F rfl dX8_loanStreet_2 ?_
  refine lv_iload_n hx hb dX8_loanStreet_5 rfl (lv_at hl 1 rfl) ?_
  refine me_callSi (As := [.int (nI k)]) (rest := [.ref (mo + 2), .ref mo]) hC hl.1 hM (c_X8_l l D tb X z0 n _ k ) (ks_X8_93 hw rfl rfl ⟨Nat.le_of_ble_eq_true rfl, Nat.le_of_ble_eq_true rfl⟩) rfl rfl (Nat.le_of_ble_eq_true rfl) dX8_loanStreet_6 ⟨Nat.le_of_ble_eq_true rfl, Nat.le_of_ble_eq_true rfl⟩ (fun H locs hM => ?_)
  refine lv_iconst (v := 0) hx hb dX8_loanStreet_9 (by decide) ?_
  refine lv_iadd hx hb dX8_loanStreet_10 ?_
  refine me_iald (k := 261 + 5 * k) hC hM mq_w (nx_z rfl) (by omega) (by decide) dX8_loanStreet_11 ?_
  refine me_stk (st2 := [.int (nI (ow w k)), .ref mo]) (by rw [(hwl k (by omega)).1]) ?_
  refine me_callVi (As := [.int (nI (ow w k))]) (rest := []) hC hl.1 hM (c_X8_homeOf l D tb X z0 n mo F w av od sv sl nz ip ot M0 (ow w k) (by omega)) (kv_X8_106 hw rfl rfl ⟨Nat.le_of_ble_eq_true rfl, Nat.le_of_ble_eq_true rfl⟩) rfl rfl mq_F rfl (Nat.le_of_ble_eq_true rfl) dX8_loanStreet_12 ⟨Nat.le_of_ble_eq_true rfl, Nat.le_of_ble_eq_true rfl⟩ (fun H locs hM => ?_)
  exact me_iret hC hr hlk hM (by first | rfl | simp []) (rfl) (rfl) dX8_loanStreet_15
set_option maxHeartbeats 4000000 in
theorem c_X8_plannedNoise (l : Launch) (D : va_G) (tb : Nat → ClassId) (X : State → Prop) (z0 n : Nat) (mo : Nat) (F w av od sv sl nz ip ot : Nat → Int32) (M0 : me_M) (S B L P : Nat) (s0 hh : Nat)  (hW : wf w S B L P) (hZ : wz w) (hs9 : s0 < S) (hh0 : hh ≤ 30000) : Met l yX8_plannedNoise (.code yX8_plannedNoise cX8_plannedNoise 5 (some .int) :: ws_all) ({ frames := 4, cells := 0, slots := 0, locals := 85 } : Room) (me_Pc [.ref mo, .int (nI s0), .int (nI hh)] D tb X z0 (mq tb mo F w av od sv sl nz ip ot M0) n) (me_Qi D z0 (noF w L P s0 (nI hh)) (mq tb mo F w av od sv sl nz ip ot M0) n) 0 0 (me_A z0) := by
  refine me_open (by decide) (Nat.le_of_ble_eq_true rfl) ?_
  intro p e s m args below meth c ls hC hr hlk hnm hM hl
  have hl : lv_has ls 5 [(0, .ref mo), (1, .int (nI s0)), (2, .int (nI hh))] := hl
  have hx := hC.1
  have hb := hC.2.1
  have hw := hC.2.2.2.2.1
  obtain ⟨hS, hS0, hB, hB0, hL, hL0, hP, hP0, hwb, hwl⟩ := id hW
  refine lv_aload_n hx hb dX8_plannedNoise_0 rfl (lv_at hl 0 rfl) ?_
  refine lv_iload_n hx hb dX8_plannedNoise_1 rfl (lv_at hl 2 rfl) ?_
  refine me_callVi (As := [.int (nI hh)]) (rest := []) hC hl.1 hM (c_X8_holderAt l D tb X z0 n mo F w av od sv sl nz ip ot M0 L hh hL hL0 (by omega) hZ) (kv_X8_109 hw rfl rfl ⟨Nat.le_of_ble_eq_true rfl, Nat.le_of_ble_eq_true rfl⟩) rfl rfl mq_F rfl (Nat.le_of_ble_eq_true rfl) dX8_plannedNoise_2 ⟨Nat.le_of_ble_eq_true rfl, Nat.le_of_ble_eq_true rfl⟩ (fun H locs hM => ?_)
  refine lv_istore_n (lv' := [(3, .int (hoF w L (nI hh))), (0, .ref mo), (1, .int (nI s0)), (2, .int (nI hh))]) hx hb dX8_plannedNoise_5 rfl hl (by decide) rfl (fun ls hl => ?_)
  refine lv_iload_n hx hb dX8_plannedNoise_6 rfl (lv_at hl 0 rfl) ?_
  refine lv_iconst (v := (-1)) hx hb dX8_plannedNoise_7 (by decide) ?_
  refine lv_icmp_eq (tgt := 22) hx hb dX8_plannedNoise_8 (by decide) (fun c_1 => ?_) (fun c_1 => ?_)
  · refine lv_aload_n hx hb dX8_plannedNoise_22 rfl (lv_at hl 1 rfl) ?_
    refine fg_X8_13 hC hM mq_F rfl dX8_plannedNoise_23 ?_
    refine lv_iload_n hx hb dX8_plannedNoise_26 rfl (lv_at hl 2 rfl) ?_
    refine me_callSi (As := [.int (nI s0)]) (rest := [.ref (mo + 2)]) hC hl.1 hM (c_X8_s l D tb X z0 n _ s0 ) (ks_X8_71 hw rfl rfl ⟨Nat.le_of_ble_eq_true rfl, Nat.le_of_ble_eq_true rfl⟩) rfl rfl (Nat.le_of_ble_eq_true rfl) dX8_plannedNoise_27 ⟨Nat.le_of_ble_eq_true rfl, Nat.le_of_ble_eq_true rfl⟩ (fun H locs hM => ?_)
    refine lv_iload_n hx hb dX8_plannedNoise_30 rfl (lv_at hl 3 rfl) ?_
    refine me_callSi (As := [.int (nI hh)]) (rest := [.int (nI (9 + 10 * s0)), .ref (mo + 2)]) hC hl.1 hM (c_X8_isNightHour l D tb X z0 n _ (nI hh) ) (ks_X8_115 hw rfl rfl ⟨Nat.le_of_ble_eq_true rfl, Nat.le_of_ble_eq_true rfl⟩) rfl rfl (Nat.le_of_ble_eq_true rfl) dX8_plannedNoise_31 ⟨Nat.le_of_ble_eq_true rfl, Nat.le_of_ble_eq_true rfl⟩ (fun H locs hM => ?_)
    refine lv_if_eq (tgt := 41) hx hb dX8_plannedNoise_34 (by decide) (fun c_2 => ?_) (fun c_2 => ?_)
    · have c_2 := b1_0.mp c_2
      refine lv_iconst (v := 0) hx hb dX8_plannedNoise_41 (by decide) ?_
      refine lv_iadd hx hb dX8_plannedNoise_42 ?_
      refine me_iald (k := 9 + 10 * s0) hC hM mq_w (nx_z rfl) (by omega) (by decide) dX8_plannedNoise_43 ?_
      refine lv_istore (lv' := [(4, .int (w (9 + 10 * s0))), (3, .int (hoF w L (nI hh))), (0, .ref mo), (1, .int (nI s0)), (2, .int (nI hh))]) hx hb dX8_plannedNoise_44 hl (by decide) rfl (fun ls hl => ?_)
      refine lv_iload hx hb dX8_plannedNoise_46 (lv_at hl 0 rfl) ?_
      refine lv_aload_n hx hb dX8_plannedNoise_48 rfl (lv_at hl 2 rfl) ?_
      refine lv_iload_n hx hb dX8_plannedNoise_49 rfl (lv_at hl 3 rfl) ?_
      refine lv_iload_n hx hb dX8_plannedNoise_50 rfl (lv_at hl 4 rfl) ?_
      refine me_callVi (As := [.int (nI s0), .int (nI hh)]) (rest := [.int (w (9 + 10 * s0))]) hC hl.1 hM (c_X8_permitAt l D tb X z0 n mo F w av od sv sl nz ip ot M0 P (nI s0) (nI hh) hP hP0 hZ) (kv_X8_118 hw rfl rfl ⟨Nat.le_of_ble_eq_true rfl, Nat.le_of_ble_eq_true rfl⟩) rfl rfl mq_F rfl (Nat.le_of_ble_eq_true rfl) dX8_plannedNoise_51 ⟨Nat.le_of_ble_eq_true rfl, Nat.le_of_ble_eq_true rfl⟩ (fun H locs hM => ?_)
      refine lv_iconst (v := (-1)) hx hb dX8_plannedNoise_54 (by decide) ?_
      refine lv_icmp_ne (tgt := 62) hx hb dX8_plannedNoise_55 (by decide) (fun c_3 => ?_) (fun c_3 => ?_)
      · refine lv_bipush (v := 40) hx hb dX8_plannedNoise_62 (by decide) ?_
        refine lv_iadd hx hb dX8_plannedNoise_64 ?_
        exact me_iret hC hr hlk hM (by simp [noF, c_1, c_2, c_3]) (rfl) (rfl) dX8_plannedNoise_65
      · refine lv_iconst (v := 0) hx hb dX8_plannedNoise_58 (by decide) ?_
        refine lv_goto (tgt := 64) hx hb dX8_plannedNoise_59 (by decide) ?_
        refine lv_iadd hx hb dX8_plannedNoise_64 ?_
        exact me_iret hC hr hlk hM (by simp [noF, c_1, c_2, c_3]) (rfl) (rfl) dX8_plannedNoise_65
    · have c_2 := b1_n0.mp c_2
      refine lv_iconst (v := 1) hx hb dX8_plannedNoise_37 (by decide) ?_
      refine lv_goto (tgt := 42) hx hb dX8_plannedNoise_38 (by decide) ?_
      refine lv_iadd hx hb dX8_plannedNoise_42 ?_
      refine me_iald (k := 9 + 10 * s0 + 1) hC hM mq_w (nx_add rfl (show (1 : Int32) = nI 1 from rfl)) (by omega) (by decide) dX8_plannedNoise_43 ?_
      refine lv_istore (lv' := [(4, .int (w (9 + 10 * s0 + 1))), (3, .int (hoF w L (nI hh))), (0, .ref mo), (1, .int (nI s0)), (2, .int (nI hh))]) hx hb dX8_plannedNoise_44 hl (by decide) rfl (fun ls hl => ?_)
      refine lv_iload hx hb dX8_plannedNoise_46 (lv_at hl 0 rfl) ?_
      refine lv_aload_n hx hb dX8_plannedNoise_48 rfl (lv_at hl 2 rfl) ?_
      refine lv_iload_n hx hb dX8_plannedNoise_49 rfl (lv_at hl 3 rfl) ?_
      refine lv_iload_n hx hb dX8_plannedNoise_50 rfl (lv_at hl 4 rfl) ?_
      refine me_callVi (As := [.int (nI s0), .int (nI hh)]) (rest := [.int (w (9 + 10 * s0 + 1))]) hC hl.1 hM (c_X8_permitAt l D tb X z0 n mo F w av od sv sl nz ip ot M0 P (nI s0) (nI hh) hP hP0 hZ) (kv_X8_118 hw rfl rfl ⟨Nat.le_of_ble_eq_true rfl, Nat.le_of_ble_eq_true rfl⟩) rfl rfl mq_F rfl (Nat.le_of_ble_eq_true rfl) dX8_plannedNoise_51 ⟨Nat.le_of_ble_eq_true rfl, Nat.le_of_ble_eq_true rfl⟩ (fun H locs hM => ?_)
      refine lv_iconst (v := (-1)) hx hb dX8_plannedNoise_54 (by decide) ?_
      refine lv_icmp_ne (tgt := 62) hx hb dX8_plannedNoise_55 (by decide) (fun c_4 => ?_) (fun c_4 => ?_)
      · refine lv_bipush (v := 40) hx hb dX8_plannedNoise_62 (by decide) ?_
        refine lv_iadd hx hb dX8_plannedNoise_64 ?_
        exact me_iret hC hr hlk hM (by simp [noF, c_1, c_2, c_4]) (rfl) (rfl) dX8_plannedNoise_65
      · refine lv_iconst (v := 0) hx hb dX8_plannedNoise_58 (by decide) ?_
        refine lv_goto (tgt := 64) hx hb dX8_plannedNoise_59 (by decide) ?_
        refine lv_iadd hx hb dX8_plannedNoise_64 ?_
        exact me_iret hC hr hlk hM (by simp [noF, c_1, c_2, c_4]) (rfl) (rfl) dX8_plannedNoise_65
  · obtain ⟨kk, hkk0, hkk, -⟩ := hoF_le w L (nI (hh)) (by omega) c_1
    have hct : (hoF w L (nI (hh))).toNatClampNeg = kk := by rw [hkk]; exact nI_clamp (by omega)
    have hkl_ := hwl kk hkk0
    refine lv_aload_n hx hb dX8_plannedNoise_11 rfl (lv_at hl 1 rfl) ?_
    refine lv_iload_n hx hb dX8_plannedNoise_12 rfl (lv_at hl 0 rfl) ?_
    refine me_stk (st2 := [.int (nI kk), .ref mo]) (by rw [hkk]) ?_
    refine me_callVi (As := [.int (nI kk)]) (rest := []) hC hl.1 hM (c_X8_loanStreet l D tb X z0 n mo F w av od sv sl nz ip ot M0 S B L P kk hW (by omega)) (kv_X8_112 hw rfl rfl ⟨Nat.le_of_ble_eq_true rfl, Nat.le_of_ble_eq_true rfl⟩) rfl rfl mq_F rfl (Nat.le_of_ble_eq_true rfl) dX8_plannedNoise_13 ⟨Nat.le_of_ble_eq_true rfl, Nat.le_of_ble_eq_true rfl⟩ (fun H locs hM => ?_)
    refine lv_iload_n hx hb dX8_plannedNoise_16 rfl (lv_at hl 2 rfl) ?_
    refine lv_icmp_ne (tgt := 22) hx hb dX8_plannedNoise_17 (by decide) (fun c_5 => ?_) (fun c_5 => ?_)
    · refine lv_aload_n hx hb dX8_plannedNoise_22 rfl (lv_at hl 1 rfl) ?_
      refine fg_X8_13 hC hM mq_F rfl dX8_plannedNoise_23 ?_
      refine lv_iload_n hx hb dX8_plannedNoise_26 rfl (lv_at hl 2 rfl) ?_
      refine me_callSi (As := [.int (nI s0)]) (rest := [.ref (mo + 2)]) hC hl.1 hM (c_X8_s l D tb X z0 n _ s0 ) (ks_X8_71 hw rfl rfl ⟨Nat.le_of_ble_eq_true rfl, Nat.le_of_ble_eq_true rfl⟩) rfl rfl (Nat.le_of_ble_eq_true rfl) dX8_plannedNoise_27 ⟨Nat.le_of_ble_eq_true rfl, Nat.le_of_ble_eq_true rfl⟩ (fun H locs hM => ?_)
      refine lv_iload_n hx hb dX8_plannedNoise_30 rfl (lv_at hl 3 rfl) ?_
      refine me_callSi (As := [.int (nI hh)]) (rest := [.int (nI (9 + 10 * s0)), .ref (mo + 2)]) hC hl.1 hM (c_X8_isNightHour l D tb X z0 n _ (nI hh) ) (ks_X8_115 hw rfl rfl ⟨Nat.le_of_ble_eq_true rfl, Nat.le_of_ble_eq_true rfl⟩) rfl rfl (Nat.le_of_ble_eq_true rfl) dX8_plannedNoise_31 ⟨Nat.le_of_ble_eq_true rfl, Nat.le_of_ble_eq_true rfl⟩ (fun H locs hM => ?_)
      refine lv_if_eq (tgt := 41) hx hb dX8_plannedNoise_34 (by decide) (fun c_6 => ?_) (fun c_6 => ?_)
      · have c_6 := b1_0.mp c_6
        refine lv_iconst (v := 0) hx hb dX8_plannedNoise_41 (by decide) ?_
        refine lv_iadd hx hb dX8_plannedNoise_42 ?_
        refine me_iald (k := 9 + 10 * s0) hC hM mq_w (nx_z rfl) (by omega) (by decide) dX8_plannedNoise_43 ?_
        refine lv_istore (lv' := [(4, .int (w (9 + 10 * s0))), (3, .int (hoF w L (nI hh))), (0, .ref mo), (1, .int (nI s0)), (2, .int (nI hh))]) hx hb dX8_plannedNoise_44 hl (by decide) rfl (fun ls hl => ?_)
        refine lv_iload hx hb dX8_plannedNoise_46 (lv_at hl 0 rfl) ?_
        refine lv_aload_n hx hb dX8_plannedNoise_48 rfl (lv_at hl 2 rfl) ?_
        refine lv_iload_n hx hb dX8_plannedNoise_49 rfl (lv_at hl 3 rfl) ?_
        refine lv_iload_n hx hb dX8_plannedNoise_50 rfl (lv_at hl 4 rfl) ?_
        refine me_callVi (As := [.int (nI s0), .int (nI hh)]) (rest := [.int (w (9 + 10 * s0))]) hC hl.1 hM (c_X8_permitAt l D tb X z0 n mo F w av od sv sl nz ip ot M0 P (nI s0) (nI hh) hP hP0 hZ) (kv_X8_118 hw rfl rfl ⟨Nat.le_of_ble_eq_true rfl, Nat.le_of_ble_eq_true rfl⟩) rfl rfl mq_F rfl (Nat.le_of_ble_eq_true rfl) dX8_plannedNoise_51 ⟨Nat.le_of_ble_eq_true rfl, Nat.le_of_ble_eq_true rfl⟩ (fun H locs hM => ?_)
        refine lv_iconst (v := (-1)) hx hb dX8_plannedNoise_54 (by decide) ?_
        refine lv_icmp_ne (tgt := 62) hx hb dX8_plannedNoise_55 (by decide) (fun c_7 => ?_) (fun c_7 => ?_)
        · refine lv_bipush (v := 40) hx hb dX8_plannedNoise_62 (by decide) ?_
          refine lv_iadd hx hb dX8_plannedNoise_64 ?_
          exact me_iret hC hr hlk hM (by simp [noF, c_1, c_5, c_6, c_7, hct]) (rfl) (rfl) dX8_plannedNoise_65
        · refine lv_iconst (v := 0) hx hb dX8_plannedNoise_58 (by decide) ?_
          refine lv_goto (tgt := 64) hx hb dX8_plannedNoise_59 (by decide) ?_
          refine lv_iadd hx hb dX8_plannedNoise_64 ?_
          exact me_iret hC hr hlk hM (by simp [noF, c_1, c_5, c_6, c_7, hct]) (rfl) (rfl) dX8_plannedNoise_65
      · have c_6 := b1_n0.mp c_6
        refine lv_iconst (v := 1) hx hb dX8_plannedNoise_37 (by decide) ?_
        refine lv_goto (tgt := 42) hx hb dX8_plannedNoise_38 (by decide) ?_
        refine lv_iadd hx hb dX8_plannedNoise_42 ?_
        refine me_iald (k := 9 + 10 * s0 + 1) hC hM mq_w (nx_add rfl (show (1 : Int32) = nI 1 from rfl)) (by omega) (by decide) dX8_plannedNoise_43 ?_
        refine lv_istore (lv' := [(4, .int (w (9 + 10 * s0 + 1))), (3, .int (hoF w L (nI hh))), (0, .ref mo), (1, .int (nI s0)), (2, .int (nI hh))]) hx hb dX8_plannedNoise_44 hl (by decide) rfl (fun ls hl => ?_)
        refine lv_iload hx hb dX8_plannedNoise_46 (lv_at hl 0 rfl) ?_
        refine lv_aload_n hx hb dX8_plannedNoise_48 rfl (lv_at hl 2 rfl) ?_
        refine lv_iload_n hx hb dX8_plannedNoise_49 rfl (lv_at hl 3 rfl) ?_
        refine lv_iload_n hx hb dX8_plannedNoise_50 rfl (lv_at hl 4 rfl) ?_
        refine me_callVi (As := [.int (nI s0), .int (nI hh)]) (rest := [.int (w (9 + 10 * s0 + 1))]) hC hl.1 hM (c_X8_permitAt l D tb X z0 n mo F w av od sv sl nz ip ot M0 P (nI s0) (nI hh) hP hP0 hZ) (kv_X8_118 hw rfl rfl ⟨Nat.le_of_ble_eq_true rfl, Nat.le_of_ble_eq_true rfl⟩) rfl rfl mq_F rfl (Nat.le_of_ble_eq_true rfl) dX8_plannedNoise_51 ⟨Nat.le_of_ble_eq_true rfl, Nat.le_of_ble_eq_true rfl⟩ (fun H locs hM => ?_)
        refine lv_iconst (v := (-1)) hx hb dX8_plannedNoise_54 (by decide) ?_
        refine lv_icmp_ne (tgt := 62) hx hb dX8_plannedNoise_55 (by decide) (fun c_8 => ?_) (fun c_8 => ?_)
        · refine lv_bipush (v := 40) hx hb dX8_plannedNoise_62 (by decide) ?_
          refine lv_iadd hx hb dX8_plannedNoise_64 ?_
          exact me_iret hC hr hlk hM (by simp [noF, c_1, c_5, c_6, c_8, hct]) (rfl) (rfl) dX8_plannedNoise_65
        · refine lv_iconst (v := 0) hx hb dX8_plannedNoise_58 (by decide) ?_
          refine lv_goto (tgt := 64) hx hb dX8_plannedNoise_59 (by decide) ?_
          refine lv_iadd hx hb dX8_plannedNoise_64 ?_
          exact me_iret hC hr hlk hM (by simp [noF, c_1, c_5, c_6, c_8, hct]) (rfl) (rfl) dX8_plannedNoise_65
    · refine lv_iconst (v := 0) hx hb dX8_plannedNoise_20 (by decide) ?_
      exact me_iret hC hr hlk hM (by simp [noF, c_1, c_5, hct]) (rfl) (rfl) dX8_plannedNoise_21
set_option maxHeartbeats 4000000 in
theorem c_X8_priceFor (l : Launch) (D : va_G) (tb : Nat → ClassId) (X : State → Prop) (z0 n : Nat) (mo : Nat) (F w av od sv sl nz ip ot : Nat → Int32) (M0 : me_M) (S B L P : Nat) (b : Nat) (n9 : Int32)  (hW : wf w S B L P) (hb9 : b < B) : Met l yX8_priceFor (.code yX8_priceFor cX8_priceFor 3 (some .int) :: ws_all) ({ frames := 2, cells := 0, slots := 0, locals := 41 } : Room) (me_Pc [.ref mo, .int (nI b), .int n9] D tb X z0 (mq tb mo F w av od sv sl nz ip ot M0) n) (me_Qi D z0 (prF w b n9) (mq tb mo F w av od sv sl nz ip ot M0) n) 0 0 (me_A z0) := by
  refine me_open (by decide) (Nat.le_of_ble_eq_true rfl) ?_
  intro p e s m args below meth c ls hC hr hlk hnm hM hl
  have hl : lv_has ls 3 [(0, .ref mo), (1, .int (nI b)), (2, .int n9)] := hl
  have hx := hC.1
  have hb := hC.2.1
  have hw := hC.2.2.2.2.1
  obtain ⟨hS, hS0, hB, hB0, hL, hL0, hP, hP0, hwb, hwl⟩ := id hW
  have hkb_ := hwb b (by omega)
  refine lv_iload_n hx hb dX8_priceFor_0 rfl (lv_at hl 2 rfl) ?_
  refine lv_aload_n hx hb dX8_priceFor_1 rfl (lv_at hl 0 rfl) ?_
  refine fg_X8_13 hC hM mq_F rfl dX8_priceFor_2 ?_
  refine lv_aload_n hx hb dX8_priceFor_5 rfl (lv_at hl 0 rfl) ?_
  refine lv_iload_n hx hb dX8_priceFor_6 rfl (lv_at hl 1 rfl) ?_
  refine me_callVi (As := [.int (nI b)]) (rest := [.ref (mo + 2), .int n9]) hC hl.1 hM (c_X8_homeOf l D tb X z0 n mo F w av od sv sl nz ip ot M0 b (by omega)) (kv_X8_106 hw rfl rfl ⟨Nat.le_of_ble_eq_true rfl, Nat.le_of_ble_eq_true rfl⟩) rfl rfl mq_F rfl (Nat.le_of_ble_eq_true rfl) dX8_priceFor_7 ⟨Nat.le_of_ble_eq_true rfl, Nat.le_of_ble_eq_true rfl⟩ (fun H locs hM => ?_)
  refine me_stk (st2 := [.int (nI (hm w b)), .ref (mo + 2), .int n9]) (by rw [(hwb b (by omega)).1]) ?_
  refine me_callSi (As := [.int (nI (hm w b))]) (rest := [.ref (mo + 2), .int n9]) hC hl.1 hM (c_X8_s l D tb X z0 n _ (hm w b) ) (ks_X8_71 hw rfl rfl ⟨Nat.le_of_ble_eq_true rfl, Nat.le_of_ble_eq_true rfl⟩) rfl rfl (Nat.le_of_ble_eq_true rfl) dX8_priceFor_10 ⟨Nat.le_of_ble_eq_true rfl, Nat.le_of_ble_eq_true rfl⟩ (fun H locs hM => ?_)
  refine lv_iconst (v := 0) hx hb dX8_priceFor_13 (by decide) ?_
  refine lv_iadd hx hb dX8_priceFor_14 ?_
  refine me_iald (k := 9 + 10 * (hm w b)) hC hM mq_w (nx_z rfl) (by omega) (by decide) dX8_priceFor_15 ?_
  refine lv_bipush (v := 10) hx hb dX8_priceFor_16 (by decide) ?_
  refine lv_idiv hx hb dX8_priceFor_18 (by decide) ?_
  refine lv_iconst (v := 1) hx hb dX8_priceFor_19 (by decide) ?_
  refine lv_iadd hx hb dX8_priceFor_20 ?_
  refine lv_imul hx hb dX8_priceFor_21 ?_
  exact me_iret hC hr hlk hM (by simp [prF]) (rfl) (rfl) dX8_priceFor_22
set_option maxHeartbeats 4000000 in
theorem c_X8_firstOverdue (l : Launch) (D : va_G) (tb : Nat → ClassId) (X : State → Prop) (z0 n : Nat) (mo : Nat) (F w av od sv sl nz ip ot : Nat → Int32) (M0 : me_M) (L : Nat) (b : Int32)  (hL : w 6 = nI L) (hL0 : L ≤ 30) : Met l yX8_firstOverdue (.code yX8_firstOverdue cX8_firstOverdue 3 (some .int) :: ws_all) ({ frames := 1, cells := 0, slots := 0, locals := 20 } : Room) (me_Pc [.ref mo, .int b] D tb X z0 (mq tb mo F w av od sv sl nz ip ot M0) n) (me_Qi D z0 (ovF w L b) (mq tb mo F w av od sv sl nz ip ot M0) n) 0 0 (me_A z0) := by
  refine me_open (by decide) (Nat.le_of_ble_eq_true rfl) ?_
  intro p e s m args below meth c ls hC hr hlk hnm hM hl
  have hl : lv_has ls 3 [(0, .ref mo), (1, .int b)] := hl
  have hx := hC.1
  have hb := hC.2.1
  have hw := hC.2.2.2.2.1
  refine lv_iconst (v := 0) hx hb dX8_firstOverdue_0 (by decide) ?_
  refine lv_istore_n (lv' := [(2, .int 0), (0, .ref mo), (1, .int b)]) hx hb dX8_firstOverdue_1 rfl hl (by decide) rfl (fun ls hl => ?_)
  have lp_2 : ∀ (r : Nat) (k : Nat) (H : Heap) (locs : List Loc) (ls : Array Slot), (k + r = L) → (ovF w L b = fi (fun k => w (261 + 5 * k) = b ∧ w (261 + 5 * k + 4) = 4) r k) → me_at D z0 (mq tb mo F w av od sv sl nz ip ot M0) n s H locs → lv_has ls 3 [(0, .ref mo), (1, .int b), (2, .int (nI k))] → W p l e (({ frames := 1, cells := 0, slots := 0, locals := 20 } : Room)) s m args below meth c H locs 0 0 (MQ below (me_Qi D z0 (ovF w L b) (mq tb mo F w av od sv sl nz ip ot M0) n) args s 0 0 (me_A z0)) (F0 m 2 ls []) := by
    intro r
    refine Nat.strongRecOn r ?_
    intro r ih_2 k H locs ls hk hq hM hl
    refine lv_iload_n hx hb dX8_firstOverdue_2 rfl (lv_at hl 2 rfl) ?_
    refine lv_aload_n hx hb dX8_firstOverdue_3 rfl (lv_at hl 0 rfl) ?_
    refine fg_X8_13 hC hM mq_F rfl dX8_firstOverdue_4 ?_
    refine lv_bipush (v := 6) hx hb dX8_firstOverdue_7 (by decide) ?_
    refine me_iald (k := 6) hC hM mq_w (nx_c 6) (by omega) (by decide) dX8_firstOverdue_9 ?_
    refine lv_icmp_ge (tgt := 51) hx hb dX8_firstOverdue_10 (by decide) (fun c_1 => ?_) (fun c_1 => ?_)
    · have c_1 := (br_le hL rfl (by omega) (by omega)).mp c_1
      refine lv_iconst (v := (-1)) hx hb dX8_firstOverdue_51 (by decide) ?_
      exact me_iret hC hr hlk hM (by rw [hq, show r = 0 by omega]; rfl) (rfl) (rfl) dX8_firstOverdue_52
    · have c_1 := (not_congr (br_le hL rfl (by omega) (by omega))).mp c_1
      obtain ⟨r1, rfl⟩ : ∃ r1, r = r1 + 1 := ⟨r - 1, by omega⟩
      refine lv_aload_n hx hb dX8_firstOverdue_13 rfl (lv_at hl 0 rfl) ?_
      refine fg_X8_13 hC hM mq_F rfl dX8_firstOverdue_14 ?_
      refine lv_iload_n hx hb dX8_firstOverdue_17 rfl (lv_at hl 2 rfl) ?_
      refine me_callSi (As := [.int (nI k)]) (rest := [.ref (mo + 2)]) hC hl.1 hM (c_X8_l l D tb X z0 n _ k ) (ks_X8_93 hw rfl rfl ⟨Nat.le_of_ble_eq_true rfl, Nat.le_of_ble_eq_true rfl⟩) rfl rfl (Nat.le_of_ble_eq_true rfl) dX8_firstOverdue_18 ⟨Nat.le_of_ble_eq_true rfl, Nat.le_of_ble_eq_true rfl⟩ (fun H locs hM => ?_)
      refine lv_iconst (v := 0) hx hb dX8_firstOverdue_21 (by decide) ?_
      refine lv_iadd hx hb dX8_firstOverdue_22 ?_
      refine me_iald (k := 261 + 5 * k) hC hM mq_w (nx_z rfl) (by omega) (by decide) dX8_firstOverdue_23 ?_
      refine lv_iload_n hx hb dX8_firstOverdue_24 rfl (lv_at hl 1 rfl) ?_
      refine lv_icmp_ne (tgt := 45) hx hb dX8_firstOverdue_25 (by decide) (fun c_2 => ?_) (fun c_2 => ?_)
      · refine lv_iinc (v := nI (k + 1)) (lv' := [(2, .int (nI (k + 1))), (0, .ref mo), (1, .int b)]) hx hb dX8_firstOverdue_45 hl (k := 2) rfl (nx_add rfl rfl) (by decide) rfl (fun ls hl => ?_)
        refine lv_goto (tgt := 2) hx hb dX8_firstOverdue_48 (by decide) ?_
        exact ih_2 r1 (by omega) (k + 1) _ _ _ (by omega) (hq.trans (fi_f (P := fun k => w (261 + 5 * k) = b ∧ w (261 + 5 * k + 4) = 4) (k := k) (fun z => c_2 z.1))) hM (lv_sub hl [1, 2, 0] rfl)
      · refine lv_aload_n hx hb dX8_firstOverdue_28 rfl (lv_at hl 0 rfl) ?_
        refine fg_X8_13 hC hM mq_F rfl dX8_firstOverdue_29 ?_
        refine lv_iload_n hx hb dX8_firstOverdue_32 rfl (lv_at hl 2 rfl) ?_
        refine me_callSi (As := [.int (nI k)]) (rest := [.ref (mo + 2)]) hC hl.1 hM (c_X8_l l D tb X z0 n _ k ) (ks_X8_93 hw rfl rfl ⟨Nat.le_of_ble_eq_true rfl, Nat.le_of_ble_eq_true rfl⟩) rfl rfl (Nat.le_of_ble_eq_true rfl) dX8_firstOverdue_33 ⟨Nat.le_of_ble_eq_true rfl, Nat.le_of_ble_eq_true rfl⟩ (fun H locs hM => ?_)
        refine lv_iconst (v := 4) hx hb dX8_firstOverdue_36 (by decide) ?_
        refine lv_iadd hx hb dX8_firstOverdue_37 ?_
        refine me_iald (k := 261 + 5 * k + 4) hC hM mq_w (nx_add rfl (nx_c 4)) (by omega) (by decide) dX8_firstOverdue_38 ?_
        refine lv_iconst (v := 4) hx hb dX8_firstOverdue_39 (by decide) ?_
        refine lv_icmp_ne (tgt := 45) hx hb dX8_firstOverdue_40 (by decide) (fun c_3 => ?_) (fun c_3 => ?_)
        · refine lv_iinc (v := nI (k + 1)) (lv' := [(2, .int (nI (k + 1))), (0, .ref mo), (1, .int b)]) hx hb dX8_firstOverdue_45 hl (k := 2) rfl (nx_add rfl rfl) (by decide) rfl (fun ls hl => ?_)
          refine lv_goto (tgt := 2) hx hb dX8_firstOverdue_48 (by decide) ?_
          exact ih_2 r1 (by omega) (k + 1) _ _ _ (by omega) (hq.trans (fi_f (P := fun k => w (261 + 5 * k) = b ∧ w (261 + 5 * k + 4) = 4) (k := k) (fun z => c_3 z.2))) hM (lv_sub hl [1, 2, 0] rfl)
        · refine lv_iload_n hx hb dX8_firstOverdue_43 rfl (lv_at hl 2 rfl) ?_
          exact me_iret hC hr hlk hM (by rw [hq, fi_t (P := fun k => w (261 + 5 * k) = b ∧ w (261 + 5 * k + 4) = 4) (k := k) (⟨c_2, c_3⟩)]) (rfl) (rfl) dX8_firstOverdue_44
  exact lp_2 L 0 _ _ _ (by omega) rfl hM (lv_sub hl [1, 2, 0] rfl)
set_option maxHeartbeats 4000000 in
theorem c_X8_drumsIn (l : Launch) (D : va_G) (tb : Nat → ClassId) (X : State → Prop) (z0 n : Nat) (mo : Nat) (F w av od sv sl nz ip ot : Nat → Int32) (M0 : me_M) (S B L P : Nat) (f : Int32) (s0 n9 : Nat)  (hW : wf w S B L P) (hZ : wz w) (hs9 : s0 + n9 < 25000) : Met l yX8_drumsIn (.code yX8_drumsIn cX8_drumsIn 5 (some .int) :: ws_all) ({ frames := 3, cells := 0, slots := 0, locals := 68 } : Room) (me_Pc [.ref mo, .int f, .int (nI s0), .int (nI n9)] D tb X z0 (mq tb mo F w av od sv sl nz ip ot M0) n) (me_Qi D z0 (fv (fun j => peF w P f (nI (s0 + j))) n9 0) (mq tb mo F w av od sv sl nz ip ot M0) n) 0 0 (me_A z0) := by
  refine me_open (by decide) (Nat.le_of_ble_eq_true rfl) ?_
  intro p e s m args below meth c ls hC hr hlk hnm hM hl
  have hl : lv_has ls 5 [(0, .ref mo), (1, .int f), (2, .int (nI s0)), (3, .int (nI n9))] := hl
  have hx := hC.1
  have hb := hC.2.1
  have hw := hC.2.2.2.2.1
  obtain ⟨hS, hS0, hB, hB0, hL, hL0, hP, hP0, hwb, hwl⟩ := id hW
  refine lv_iload_n hx hb dX8_drumsIn_0 rfl (lv_at hl 2 rfl) ?_
  refine lv_istore (lv' := [(4, .int (nI s0)), (0, .ref mo), (1, .int f), (2, .int (nI s0)), (3, .int (nI n9))]) hx hb dX8_drumsIn_1 hl (by decide) rfl (fun ls hl => ?_)
  have lp_3 : ∀ (r : Nat) (j : Nat) (H : Heap) (locs : List Loc) (ls : Array Slot), (j + r = n9) → (fv (fun j => peF w P f (nI (s0 + j))) n9 0 = fv (fun j => peF w P f (nI (s0 + j))) r j) → me_at D z0 (mq tb mo F w av od sv sl nz ip ot M0) n s H locs → lv_has ls 5 [(0, .ref mo), (1, .int f), (2, .int (nI s0)), (3, .int (nI n9)), (4, .int (nI (s0 + j)))] → W p l e (({ frames := 3, cells := 0, slots := 0, locals := 68 } : Room)) s m args below meth c H locs 0 0 (MQ below (me_Qi D z0 (fv (fun j => peF w P f (nI (s0 + j))) n9 0) (mq tb mo F w av od sv sl nz ip ot M0) n) args s 0 0 (me_A z0)) (F0 m 3 ls []) := by
    intro r
    refine Nat.strongRecOn r ?_
    intro r ih_3 j H locs ls hk hq hM hl
    refine lv_iload hx hb dX8_drumsIn_3 (lv_at hl 4 rfl) ?_
    refine lv_iload_n hx hb dX8_drumsIn_5 rfl (lv_at hl 2 rfl) ?_
    refine lv_iload_n hx hb dX8_drumsIn_6 rfl (lv_at hl 3 rfl) ?_
    refine lv_iadd hx hb dX8_drumsIn_7 ?_
    refine lv_icmp_ge (tgt := 36) hx hb dX8_drumsIn_8 (by decide) (fun c_1 => ?_) (fun c_1 => ?_)
    · have c_1 := (br_le (nx_add rfl rfl) rfl (by omega) (by omega)).mp c_1
      refine lv_iconst (v := (-1)) hx hb dX8_drumsIn_36 (by decide) ?_
      exact me_iret hC hr hlk hM (by rw [hq, show r = 0 by omega]; rfl) (rfl) (rfl) dX8_drumsIn_37
    · have c_1 := (not_congr (br_le (nx_add rfl rfl) rfl (by omega) (by omega))).mp c_1
      obtain ⟨r1, rfl⟩ : ∃ r1, r = r1 + 1 := ⟨r - 1, by omega⟩
      refine lv_aload_n hx hb dX8_drumsIn_11 rfl (lv_at hl 0 rfl) ?_
      refine lv_iload_n hx hb dX8_drumsIn_12 rfl (lv_at hl 1 rfl) ?_
      refine lv_iload hx hb dX8_drumsIn_13 (lv_at hl 4 rfl) ?_
      refine me_callVi (As := [.int f, .int (nI (s0 + j))]) (rest := []) hC hl.1 hM (c_X8_permitAt l D tb X z0 n mo F w av od sv sl nz ip ot M0 P f (nI (s0 + j)) hP hP0 hZ) (kv_X8_118 hw rfl rfl ⟨Nat.le_of_ble_eq_true rfl, Nat.le_of_ble_eq_true rfl⟩) rfl rfl mq_F rfl (Nat.le_of_ble_eq_true rfl) dX8_drumsIn_15 ⟨Nat.le_of_ble_eq_true rfl, Nat.le_of_ble_eq_true rfl⟩ (fun H locs hM => ?_)
      refine lv_iconst (v := (-1)) hx hb dX8_drumsIn_18 (by decide) ?_
      refine lv_icmp_eq (tgt := 30) hx hb dX8_drumsIn_19 (by decide) (fun c_2 => ?_) (fun c_2 => ?_)
      · refine lv_iinc (v := nI (s0 + j + 1)) (lv' := [(4, .int (nI (s0 + j + 1))), (0, .ref mo), (1, .int f), (2, .int (nI s0)), (3, .int (nI n9))]) hx hb dX8_drumsIn_30 hl (k := 4) rfl (nx_add rfl rfl) (by decide) rfl (fun ls hl => ?_)
        refine lv_goto (tgt := 3) hx hb dX8_drumsIn_33 (by decide) ?_
        exact ih_3 r1 (by omega) (j + 1) _ _ _ (by omega) (hq.trans (fv_f (F := fun j => peF w P f (nI (s0 + j))) (k := j) (c_2))) hM (lv_sub hl [1, 2, 3, 4, 0] rfl)
      · refine lv_aload_n hx hb dX8_drumsIn_22 rfl (lv_at hl 0 rfl) ?_
        refine lv_iload_n hx hb dX8_drumsIn_23 rfl (lv_at hl 1 rfl) ?_
        refine lv_iload hx hb dX8_drumsIn_24 (lv_at hl 4 rfl) ?_
        refine me_callVi (As := [.int f, .int (nI (s0 + j))]) (rest := []) hC hl.1 hM (c_X8_permitAt l D tb X z0 n mo F w av od sv sl nz ip ot M0 P f (nI (s0 + j)) hP hP0 hZ) (kv_X8_118 hw rfl rfl ⟨Nat.le_of_ble_eq_true rfl, Nat.le_of_ble_eq_true rfl⟩) rfl rfl mq_F rfl (Nat.le_of_ble_eq_true rfl) dX8_drumsIn_26 ⟨Nat.le_of_ble_eq_true rfl, Nat.le_of_ble_eq_true rfl⟩ (fun H locs hM => ?_)
        exact me_iret hC hr hlk hM (by rw [hq, fv_t (F := fun j => peF w P f (nI (s0 + j))) (k := j) c_2]) (rfl) (rfl) dX8_drumsIn_29
  exact lp_3 n9 0 _ _ _ (by omega) rfl hM (lv_sub hl [1, 2, 3, 4, 0] rfl)
set_option maxHeartbeats 4000000 in
theorem c_X8_yields (l : Launch) (D : va_G) (tb : Nat → ClassId) (X : State → Prop) (z0 n : Nat) (mo : Nat) (F w av od sv sl nz ip ot : Nat → Int32) (M0 : me_M) (S B L P : Nat) (k b : Nat)  (hW : wf w S B L P) (hk : k < L) (hb9 : b < B) : Met l yX8_yields (.code yX8_yields cX8_yields 3 (some .boolean) :: ws_all) ({ frames := 1, cells := 0, slots := 0, locals := 20 } : Room) (me_Pc [.ref mo, .int (nI k), .int (nI b)] D tb X z0 (mq tb mo F w av od sv sl nz ip ot M0) n) (me_Qi D z0 (b1 (cdF w b k)) (mq tb mo F w av od sv sl nz ip ot M0) n) 0 0 (me_A z0) := by
  refine me_open (by decide) (Nat.le_of_ble_eq_true rfl) ?_
  intro p e s m args below meth c ls hC hr hlk hnm hM hl
  have hl : lv_has ls 3 [(0, .ref mo), (1, .int (nI k)), (2, .int (nI b))] := hl
  have hx := hC.1
  have hb := hC.2.1
  have hw := hC.2.2.2.2.1
  obtain ⟨hS, hS0, hB, hB0, hL, hL0, hP, hP0, hwb, hwl⟩ := id hW
  have hkl_ := hwl k (by omega)
  refine lv_aload_n hx hb dX8_yields_0 rfl (lv_at hl 0 rfl) ?_
  refine fg_X8_13 hC hM mq_F rfl dX8_yields_1 ?_
  refine lv_iload_n hx hb dX8_yields_4 rfl (lv_at hl 1 rfl) ?_
  refine me_callSi (As := [.int (nI k)]) (rest := [.ref (mo + 2)]) hC hl.1 hM (c_X8_l l D tb X z0 n _ k ) (ks_X8_93 hw rfl rfl ⟨Nat.le_of_ble_eq_true rfl, Nat.le_of_ble_eq_true rfl⟩) rfl rfl (Nat.le_of_ble_eq_true rfl) dX8_yields_5 ⟨Nat.le_of_ble_eq_true rfl, Nat.le_of_ble_eq_true rfl⟩ (fun H locs hM => ?_)
  refine lv_iconst (v := 4) hx hb dX8_yields_8 (by decide) ?_
  refine lv_iadd hx hb dX8_yields_9 ?_
  refine me_iald (k := 261 + 5 * k + 4) hC hM mq_w (nx_add rfl (nx_c 4)) (by omega) (by decide) dX8_yields_10 ?_
  refine lv_if_ne (tgt := 53) hx hb dX8_yields_11 (by decide) (fun c_1 => ?_) (fun c_1 => ?_)
  · refine lv_iconst (v := 0) hx hb dX8_yields_53 (by decide) ?_
    exact me_zret hC hr hlk hM (by first | rfl | simp [b1, cdF, c_1]) (by first | decide | simp) (rfl) (rfl) dX8_yields_54
  · refine lv_aload_n hx hb dX8_yields_14 rfl (lv_at hl 0 rfl) ?_
    refine fg_X8_13 hC hM mq_F rfl dX8_yields_15 ?_
    refine lv_aload_n hx hb dX8_yields_18 rfl (lv_at hl 0 rfl) ?_
    refine fg_X8_13 hC hM mq_F rfl dX8_yields_19 ?_
    refine lv_iload_n hx hb dX8_yields_22 rfl (lv_at hl 1 rfl) ?_
    refine me_callSi (As := [.int (nI k)]) (rest := [.ref (mo + 2), .ref (mo + 2)]) hC hl.1 hM (c_X8_l l D tb X z0 n _ k ) (ks_X8_93 hw rfl rfl ⟨Nat.le_of_ble_eq_true rfl, Nat.le_of_ble_eq_true rfl⟩) rfl rfl (Nat.le_of_ble_eq_true rfl) dX8_yields_23 ⟨Nat.le_of_ble_eq_true rfl, Nat.le_of_ble_eq_true rfl⟩ (fun H locs hM => ?_)
    refine lv_iconst (v := 0) hx hb dX8_yields_26 (by decide) ?_
    refine lv_iadd hx hb dX8_yields_27 ?_
    refine me_iald (k := 261 + 5 * k) hC hM mq_w (nx_z rfl) (by omega) (by decide) dX8_yields_28 ?_
    refine me_stk (st2 := [.int (nI (ow w k)), .ref (mo + 2)]) (by rw [(hwl k (by omega)).1]) ?_
    refine me_callSi (As := [.int (nI (ow w k))]) (rest := [.ref (mo + 2)]) hC hl.1 hM (c_X8_b l D tb X z0 n _ (ow w k) ) (ks_X8_78 hw rfl rfl ⟨Nat.le_of_ble_eq_true rfl, Nat.le_of_ble_eq_true rfl⟩) rfl rfl (Nat.le_of_ble_eq_true rfl) dX8_yields_29 ⟨Nat.le_of_ble_eq_true rfl, Nat.le_of_ble_eq_true rfl⟩ (fun H locs hM => ?_)
    refine lv_iconst (v := 1) hx hb dX8_yields_32 (by decide) ?_
    refine lv_iadd hx hb dX8_yields_33 ?_
    refine me_iald (k := 89 + 11 * (ow w k) + 1) hC hM mq_w (nx_add rfl (show (1 : Int32) = nI 1 from rfl)) (by omega) (by decide) dX8_yields_34 ?_
    refine lv_aload_n hx hb dX8_yields_35 rfl (lv_at hl 0 rfl) ?_
    refine fg_X8_13 hC hM mq_F rfl dX8_yields_36 ?_
    refine lv_iload_n hx hb dX8_yields_39 rfl (lv_at hl 2 rfl) ?_
    refine me_callSi (As := [.int (nI b)]) (rest := [.ref (mo + 2), .int (w (89 + 11 * (ow w k) + 1))]) hC hl.1 hM (c_X8_b l D tb X z0 n _ b ) (ks_X8_78 hw rfl rfl ⟨Nat.le_of_ble_eq_true rfl, Nat.le_of_ble_eq_true rfl⟩) rfl rfl (Nat.le_of_ble_eq_true rfl) dX8_yields_40 ⟨Nat.le_of_ble_eq_true rfl, Nat.le_of_ble_eq_true rfl⟩ (fun H locs hM => ?_)
    refine lv_iconst (v := 1) hx hb dX8_yields_43 (by decide) ?_
    refine lv_iadd hx hb dX8_yields_44 ?_
    refine me_iald (k := 89 + 11 * b + 1) hC hM mq_w (nx_add rfl (show (1 : Int32) = nI 1 from rfl)) (by omega) (by decide) dX8_yields_45 ?_
    refine lv_icmp_ge (tgt := 53) hx hb dX8_yields_46 (by decide) (fun c_2 => ?_) (fun c_2 => ?_)
    · have c_2q := c_2
      have c_2 := Int32.not_lt.mpr c_2
      refine lv_iconst (v := 0) hx hb dX8_yields_53 (by decide) ?_
      exact me_zret hC hr hlk hM (by first | rfl | simp [b1, cdF, c_1, c_2, c_2q]) (by first | decide | simp) (rfl) (rfl) dX8_yields_54
    · have c_2q := c_2
      have c_2 := Int32.not_le.mp c_2
      refine lv_iconst (v := 1) hx hb dX8_yields_49 (by decide) ?_
      refine lv_goto (tgt := 54) hx hb dX8_yields_50 (by decide) ?_
      exact me_zret hC hr hlk hM (by first | rfl | simp [b1, cdF, c_1, c_2, c_2q]) (by first | decide | simp) (rfl) (rfl) dX8_yields_54
set_option maxHeartbeats 4000000 in
theorem c_X8_firstKept (l : Launch) (D : va_G) (tb : Nat → ClassId) (X : State → Prop) (z0 n : Nat) (mo : Nat) (F w av od sv sl nz ip ot : Nat → Int32) (M0 : me_M) (S B L P : Nat) (b s0 n9 : Nat)  (hW : wf w S B L P) (hZ : wz w) (hb9 : b < B) (hs9 : s0 + n9 < 25000) : Met l yX8_firstKept (.code yX8_firstKept cX8_firstKept 6 (some .int) :: ws_all) ({ frames := 4, cells := 0, slots := 0, locals := 85 } : Room) (me_Pc [.ref mo, .int (nI b), .int (nI s0), .int (nI n9)] D tb X z0 (mq tb mo F w av od sv sl nz ip ot M0) n) (me_Qi D z0 (foF w L b s0 n9) (mq tb mo F w av od sv sl nz ip ot M0) n) 0 0 (me_A z0) := by
  refine me_open (by decide) (Nat.le_of_ble_eq_true rfl) ?_
  intro p e s m args below meth c ls hC hr hlk hnm hM hl
  have hl : lv_has ls 6 [(0, .ref mo), (1, .int (nI b)), (2, .int (nI s0)), (3, .int (nI n9))] := hl
  have hx := hC.1
  have hb := hC.2.1
  have hw := hC.2.2.2.2.1
  obtain ⟨hS, hS0, hB, hB0, hL, hL0, hP, hP0, hwb, hwl⟩ := id hW
  refine lv_iload_n hx hb dX8_firstKept_0 rfl (lv_at hl 2 rfl) ?_
  refine lv_istore (lv' := [(4, .int (nI s0)), (0, .ref mo), (1, .int (nI b)), (2, .int (nI s0)), (3, .int (nI n9))]) hx hb dX8_firstKept_1 hl (by decide) rfl (fun ls hl => ?_)
  have lp_3 : ∀ (r : Nat) (j : Nat) (H : Heap) (locs : List Loc) (ls : Array Slot), (j + r = n9) → (foF w L b s0 n9 = fv (fun j => obF w L b (nI (s0 + j))) r j) → me_at D z0 (mq tb mo F w av od sv sl nz ip ot M0) n s H locs → lv_has ls 6 [(0, .ref mo), (1, .int (nI b)), (2, .int (nI s0)), (3, .int (nI n9)), (4, .int (nI (s0 + j)))] → W p l e (({ frames := 4, cells := 0, slots := 0, locals := 85 } : Room)) s m args below meth c H locs 0 0 (MQ below (me_Qi D z0 (foF w L b s0 n9) (mq tb mo F w av od sv sl nz ip ot M0) n) args s 0 0 (me_A z0)) (F0 m 3 ls []) := by
    intro r
    refine Nat.strongRecOn r ?_
    intro r ih_3 j H locs ls hk hq hM hl
    refine lv_iload hx hb dX8_firstKept_3 (lv_at hl 4 rfl) ?_
    refine lv_iload_n hx hb dX8_firstKept_5 rfl (lv_at hl 2 rfl) ?_
    refine lv_iload_n hx hb dX8_firstKept_6 rfl (lv_at hl 3 rfl) ?_
    refine lv_iadd hx hb dX8_firstKept_7 ?_
    refine lv_icmp_ge (tgt := 44) hx hb dX8_firstKept_8 (by decide) (fun c_1 => ?_) (fun c_1 => ?_)
    · have c_1 := (br_le (nx_add rfl rfl) rfl (by omega) (by omega)).mp c_1
      refine lv_iconst (v := (-1)) hx hb dX8_firstKept_44 (by decide) ?_
      exact me_iret hC hr hlk hM (by rw [hq, show r = 0 by omega]; rfl) (rfl) (rfl) dX8_firstKept_45
    · have c_1 := (not_congr (br_le (nx_add rfl rfl) rfl (by omega) (by omega))).mp c_1
      obtain ⟨r1, rfl⟩ : ∃ r1, r = r1 + 1 := ⟨r - 1, by omega⟩
      refine lv_aload_n hx hb dX8_firstKept_11 rfl (lv_at hl 0 rfl) ?_
      refine lv_iload hx hb dX8_firstKept_12 (lv_at hl 4 rfl) ?_
      refine me_callVi (As := [.int (nI (s0 + j))]) (rest := []) hC hl.1 hM (c_X8_holderAt l D tb X z0 n mo F w av od sv sl nz ip ot M0 L (s0 + j) hL hL0 (by omega) hZ) (kv_X8_109 hw rfl rfl ⟨Nat.le_of_ble_eq_true rfl, Nat.le_of_ble_eq_true rfl⟩) rfl rfl mq_F rfl (Nat.le_of_ble_eq_true rfl) dX8_firstKept_14 ⟨Nat.le_of_ble_eq_true rfl, Nat.le_of_ble_eq_true rfl⟩ (fun H locs hM => ?_)
      refine lv_istore (lv' := [(5, .int (hoF w L (nI (s0 + j)))), (0, .ref mo), (1, .int (nI b)), (2, .int (nI s0)), (3, .int (nI n9)), (4, .int (nI (s0 + j)))]) hx hb dX8_firstKept_17 hl (by decide) rfl (fun ls hl => ?_)
      refine lv_iload hx hb dX8_firstKept_19 (lv_at hl 0 rfl) ?_
      refine lv_iconst (v := (-1)) hx hb dX8_firstKept_21 (by decide) ?_
      refine lv_icmp_eq (tgt := 38) hx hb dX8_firstKept_22 (by decide) (fun c_2 => ?_) (fun c_2 => ?_)
      · refine lv_iinc (v := nI (s0 + j + 1)) (lv' := [(4, .int (nI (s0 + j + 1))), (5, .int (hoF w L (nI (s0 + j)))), (0, .ref mo), (1, .int (nI b)), (2, .int (nI s0)), (3, .int (nI n9))]) hx hb dX8_firstKept_38 hl (k := 5) rfl (nx_add rfl rfl) (by decide) rfl (fun ls hl => ?_)
        refine lv_goto (tgt := 3) hx hb dX8_firstKept_41 (by decide) ?_
        exact ih_3 r1 (by omega) (j + 1) _ _ _ (by omega) (hq.trans (fv_f (F := fun j => obF w L b (nI (s0 + j))) (k := j) (by simp [obF, c_2]))) hM (lv_sub hl [2, 3, 4, 5, 0] rfl)
      · obtain ⟨kk, hkk0, hkk, -⟩ := hoF_le w L (nI (s0 + j)) (by omega) c_2
        have hct : (hoF w L (nI (s0 + j))).toNatClampNeg = kk := by rw [hkk]; exact nI_clamp (by omega)
        have hkl_ := hwl kk hkk0
        refine lv_aload_n hx hb dX8_firstKept_25 rfl (lv_at hl 1 rfl) ?_
        refine lv_iload hx hb dX8_firstKept_26 (lv_at hl 0 rfl) ?_
        refine lv_iload_n hx hb dX8_firstKept_28 rfl (lv_at hl 2 rfl) ?_
        refine me_stk (st2 := [.int (nI b), .int (nI kk), .ref mo]) (by rw [hkk]) ?_
        refine me_callVi (As := [.int (nI kk), .int (nI b)]) (rest := []) hC hl.1 hM (c_X8_yields l D tb X z0 n mo F w av od sv sl nz ip ot M0 S B L P kk b hW (by omega) (by omega)) (kv_X8_122 hw rfl rfl ⟨Nat.le_of_ble_eq_true rfl, Nat.le_of_ble_eq_true rfl⟩) rfl rfl mq_F rfl (Nat.le_of_ble_eq_true rfl) dX8_firstKept_29 ⟨Nat.le_of_ble_eq_true rfl, Nat.le_of_ble_eq_true rfl⟩ (fun H locs hM => ?_)
        refine lv_if_ne (tgt := 38) hx hb dX8_firstKept_32 (by decide) (fun c_3 => ?_) (fun c_3 => ?_)
        · have c_3 := b1_n0.mp c_3
          refine lv_iinc (v := nI (s0 + j + 1)) (lv' := [(4, .int (nI (s0 + j + 1))), (5, .int (hoF w L (nI (s0 + j)))), (0, .ref mo), (1, .int (nI b)), (2, .int (nI s0)), (3, .int (nI n9))]) hx hb dX8_firstKept_38 hl (k := 5) rfl (nx_add rfl rfl) (by decide) rfl (fun ls hl => ?_)
          refine lv_goto (tgt := 3) hx hb dX8_firstKept_41 (by decide) ?_
          exact ih_3 r1 (by omega) (j + 1) _ _ _ (by omega) (hq.trans (fv_f (F := fun j => obF w L b (nI (s0 + j))) (k := j) (by simp only [obF]; rw [if_neg]; intro z; rw [hct] at z; exact z.2 c_3))) hM (lv_sub hl [2, 3, 4, 5, 0] rfl)
        · have c_3 := b1_0.mp c_3
          refine lv_iload hx hb dX8_firstKept_35 (lv_at hl 0 rfl) ?_
          exact me_iret hC hr hlk hM (by rw [hq, fv_t (F := fun j => obF w L b (nI (s0 + j))) (k := j) (by simp only [obF]; rw [if_pos ⟨c_2, by rw [hct]; exact c_3⟩]; exact c_2)]; simp only [obF]; rw [if_pos ⟨c_2, by rw [hct]; exact c_3⟩]) (rfl) (rfl) dX8_firstKept_37
  exact lp_3 n9 0 _ _ _ (by omega) rfl hM (lv_sub hl [1, 2, 3, 4, 0] rfl)
set_option maxHeartbeats 4000000 in
theorem c_X8_reasonFor (l : Launch) (D : va_G) (tb : Nat → ClassId) (X : State → Prop) (z0 n : Nat) (mo : Nat) (F w av od sv sl nz ip ot : Nat → Int32) (M0 : me_M) (S B L P : Nat) (b s0 n9 : Nat)  (hW : wf w S B L P) (hZ : wz w) (hb9 : b < B) (hs9 : s0 + n9 < 25000) : Met l yX8_reasonFor (.code yX8_reasonFor cX8_reasonFor 4 (some .int) :: ws_all) ({ frames := 5, cells := 0, slots := 0, locals := 110 } : Room) (me_Pc [.ref mo, .int (nI b), .int (nI s0), .int (nI n9)] D tb X z0 (mq tb mo F w av od sv sl nz ip ot M0) n) (me_Qi D z0 (reF w L P b s0 n9) (mq tb mo F w av od sv sl nz ip ot M0) n) 0 0 (me_A z0) := by
  refine me_open (by decide) (Nat.le_of_ble_eq_true rfl) ?_
  intro p e s m args below meth c ls hC hr hlk hnm hM hl
  have hl : lv_has ls 4 [(0, .ref mo), (1, .int (nI b)), (2, .int (nI s0)), (3, .int (nI n9))] := hl
  have hx := hC.1
  have hb := hC.2.1
  have hw := hC.2.2.2.2.1
  obtain ⟨hS, hS0, hB, hB0, hL, hL0, hP, hP0, hwb, hwl⟩ := id hW
  refine lv_aload_n hx hb dX8_reasonFor_0 rfl (lv_at hl 0 rfl) ?_
  refine lv_iload_n hx hb dX8_reasonFor_1 rfl (lv_at hl 1 rfl) ?_
  refine me_callVi (As := [.int (nI b)]) (rest := []) hC hl.1 hM (c_X8_firstOverdue l D tb X z0 n mo F w av od sv sl nz ip ot M0 L (nI b) hL hL0) (kv_X8_125 hw rfl rfl ⟨Nat.le_of_ble_eq_true rfl, Nat.le_of_ble_eq_true rfl⟩) rfl rfl mq_F rfl (Nat.le_of_ble_eq_true rfl) dX8_reasonFor_2 ⟨Nat.le_of_ble_eq_true rfl, Nat.le_of_ble_eq_true rfl⟩ (fun H locs hM => ?_)
  refine lv_iconst (v := (-1)) hx hb dX8_reasonFor_5 (by decide) ?_
  refine lv_icmp_eq (tgt := 11) hx hb dX8_reasonFor_6 (by decide) (fun c_1 => ?_) (fun c_1 => ?_)
  · refine lv_aload_n hx hb dX8_reasonFor_11 rfl (lv_at hl 0 rfl) ?_
    refine lv_aload_n hx hb dX8_reasonFor_12 rfl (lv_at hl 0 rfl) ?_
    refine lv_iload_n hx hb dX8_reasonFor_13 rfl (lv_at hl 1 rfl) ?_
    refine me_callVi (As := [.int (nI b)]) (rest := [.ref mo]) hC hl.1 hM (c_X8_homeOf l D tb X z0 n mo F w av od sv sl nz ip ot M0 b (by omega)) (kv_X8_106 hw rfl rfl ⟨Nat.le_of_ble_eq_true rfl, Nat.le_of_ble_eq_true rfl⟩) rfl rfl mq_F rfl (Nat.le_of_ble_eq_true rfl) dX8_reasonFor_14 ⟨Nat.le_of_ble_eq_true rfl, Nat.le_of_ble_eq_true rfl⟩ (fun H locs hM => ?_)
    refine lv_iload_n hx hb dX8_reasonFor_17 rfl (lv_at hl 2 rfl) ?_
    refine lv_iload_n hx hb dX8_reasonFor_18 rfl (lv_at hl 3 rfl) ?_
    refine me_callVi (As := [.int (w (89 + 11 * b)), .int (nI s0), .int (nI n9)]) (rest := []) hC hl.1 hM (c_X8_drumsIn l D tb X z0 n mo F w av od sv sl nz ip ot M0 S B L P (w (89 + 11 * b)) s0 n9 hW hZ (by omega)) (kv_X8_128 hw rfl rfl ⟨Nat.le_of_ble_eq_true rfl, Nat.le_of_ble_eq_true rfl⟩) rfl rfl mq_F rfl (Nat.le_of_ble_eq_true rfl) dX8_reasonFor_19 ⟨Nat.le_of_ble_eq_true rfl, Nat.le_of_ble_eq_true rfl⟩ (fun H locs hM => ?_)
    refine lv_iconst (v := (-1)) hx hb dX8_reasonFor_22 (by decide) ?_
    refine lv_icmp_eq (tgt := 28) hx hb dX8_reasonFor_23 (by decide) (fun c_2 => ?_) (fun c_2 => ?_)
    · refine lv_aload_n hx hb dX8_reasonFor_28 rfl (lv_at hl 0 rfl) ?_
      refine lv_iload_n hx hb dX8_reasonFor_29 rfl (lv_at hl 1 rfl) ?_
      refine lv_iload_n hx hb dX8_reasonFor_30 rfl (lv_at hl 2 rfl) ?_
      refine lv_iload_n hx hb dX8_reasonFor_31 rfl (lv_at hl 3 rfl) ?_
      refine me_callVi (As := [.int (nI b), .int (nI s0), .int (nI n9)]) (rest := []) hC hl.1 hM (c_X8_firstKept l D tb X z0 n mo F w av od sv sl nz ip ot M0 S B L P b s0 n9 hW hZ (by omega) (by omega)) (kv_X8_132 hw rfl rfl ⟨Nat.le_of_ble_eq_true rfl, Nat.le_of_ble_eq_true rfl⟩) rfl rfl mq_F rfl (Nat.le_of_ble_eq_true rfl) dX8_reasonFor_32 ⟨Nat.le_of_ble_eq_true rfl, Nat.le_of_ble_eq_true rfl⟩ (fun H locs hM => ?_)
      refine lv_iconst (v := (-1)) hx hb dX8_reasonFor_35 (by decide) ?_
      refine lv_icmp_eq (tgt := 41) hx hb dX8_reasonFor_36 (by decide) (fun c_3 => ?_) (fun c_3 => ?_)
      · refine lv_aload_n hx hb dX8_reasonFor_41 rfl (lv_at hl 0 rfl) ?_
        refine fg_X8_13 hC hM mq_F rfl dX8_reasonFor_42 ?_
        refine lv_iload_n hx hb dX8_reasonFor_45 rfl (lv_at hl 1 rfl) ?_
        refine me_callSi (As := [.int (nI b)]) (rest := [.ref (mo + 2)]) hC hl.1 hM (c_X8_b l D tb X z0 n _ b ) (ks_X8_78 hw rfl rfl ⟨Nat.le_of_ble_eq_true rfl, Nat.le_of_ble_eq_true rfl⟩) rfl rfl (Nat.le_of_ble_eq_true rfl) dX8_reasonFor_46 ⟨Nat.le_of_ble_eq_true rfl, Nat.le_of_ble_eq_true rfl⟩ (fun H locs hM => ?_)
        refine lv_iconst (v := 2) hx hb dX8_reasonFor_49 (by decide) ?_
        refine lv_iadd hx hb dX8_reasonFor_50 ?_
        refine me_iald (k := 89 + 11 * b + 2) hC hM mq_w (nx_add rfl (nx_c 2)) (by omega) (by decide) dX8_reasonFor_51 ?_
        refine lv_aload_n hx hb dX8_reasonFor_52 rfl (lv_at hl 0 rfl) ?_
        refine lv_iload_n hx hb dX8_reasonFor_53 rfl (lv_at hl 1 rfl) ?_
        refine lv_iload_n hx hb dX8_reasonFor_54 rfl (lv_at hl 3 rfl) ?_
        refine me_callVi (As := [.int (nI b), .int (nI n9)]) (rest := [.int (w (89 + 11 * b + 2))]) hC hl.1 hM (c_X8_priceFor l D tb X z0 n mo F w av od sv sl nz ip ot M0 S B L P b (nI n9) hW (by omega)) (kv_X8_135 hw rfl rfl ⟨Nat.le_of_ble_eq_true rfl, Nat.le_of_ble_eq_true rfl⟩) rfl rfl mq_F rfl (Nat.le_of_ble_eq_true rfl) dX8_reasonFor_55 ⟨Nat.le_of_ble_eq_true rfl, Nat.le_of_ble_eq_true rfl⟩ (fun H locs hM => ?_)
        refine lv_icmp_ge (tgt := 63) hx hb dX8_reasonFor_58 (by decide) (fun c_4 => ?_) (fun c_4 => ?_)
        · have c_4q := c_4
          have c_4 := Int32.not_lt.mpr c_4
          refine lv_aload_n hx hb dX8_reasonFor_63 rfl (lv_at hl 0 rfl) ?_
          refine fg_X8_13 hC hM mq_F rfl dX8_reasonFor_64 ?_
          refine lv_bipush (v := 6) hx hb dX8_reasonFor_67 (by decide) ?_
          refine me_iald (k := 6) hC hM mq_w (nx_c 6) (by omega) (by decide) dX8_reasonFor_69 ?_
          refine lv_bipush (v := 30) hx hb dX8_reasonFor_70 (by decide) ?_
          refine lv_icmp_ne (tgt := 79) hx hb dX8_reasonFor_72 (by decide) (fun c_5 => ?_) (fun c_5 => ?_)
          · refine lv_iconst (v := 0) hx hb dX8_reasonFor_79 (by decide) ?_
            exact me_iret hC hr hlk hM (by first | rfl | simp [reF, fpF, c_1, c_2, c_3, c_4, c_5, c_4q]) (rfl) (rfl) dX8_reasonFor_80
          · refine lv_iconst (v := 5) hx hb dX8_reasonFor_75 (by decide) ?_
            refine lv_goto (tgt := 80) hx hb dX8_reasonFor_76 (by decide) ?_
            exact me_iret hC hr hlk hM (by first | rfl | simp [reF, fpF, c_1, c_2, c_3, c_4, c_5, c_4q]) (rfl) (rfl) dX8_reasonFor_80
        · have c_4q := c_4
          have c_4 := Int32.not_le.mp c_4
          refine lv_iconst (v := 4) hx hb dX8_reasonFor_61 (by decide) ?_
          exact me_iret hC hr hlk hM (by first | rfl | simp [reF, fpF, c_1, c_2, c_3, c_4, c_4q]) (rfl) (rfl) dX8_reasonFor_62
      · refine lv_iconst (v := 3) hx hb dX8_reasonFor_39 (by decide) ?_
        exact me_iret hC hr hlk hM (by first | rfl | simp [reF, fpF, c_1, c_2, c_3]) (rfl) (rfl) dX8_reasonFor_40
    · refine lv_iconst (v := 2) hx hb dX8_reasonFor_26 (by decide) ?_
      exact me_iret hC hr hlk hM (by first | rfl | simp [reF, fpF, c_1, c_2]) (rfl) (rfl) dX8_reasonFor_27
  · refine lv_iconst (v := 1) hx hb dX8_reasonFor_9 (by decide) ?_
    exact me_iret hC hr hlk hM (by first | rfl | simp [reF, fpF, c_1]) (rfl) (rfl) dX8_reasonFor_10
