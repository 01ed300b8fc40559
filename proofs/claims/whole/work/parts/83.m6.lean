set_option maxHeartbeats 4000000 in
theorem c_X8_errorKind (l : Launch) (D : va_G) (tb : Nat → ClassId) (X : State → Prop) (z0 n : Nat) (mo : Nat) (F w av od sv sl nz ip ot : Nat → Int32) (M0 : me_M)  : Met l yX8_errorKind (.code yX8_errorKind cX8_errorKind 1 (some .int) :: ws_all) ({ frames := 1, cells := 0, slots := 0, locals := 21 } : Room) (me_Pc [.ref mo] D tb X z0 (mq tb mo F w av od sv sl nz ip ot M0) n) (me_Qi D z0 (F 5) (mq tb mo (upd F 0 0) w av od sv sl nz ip ot M0) n) 0 0 (me_A z0) := by
  refine me_open (by decide) (Nat.le_of_ble_eq_true rfl) ?_
  intro p e s m args below meth c ls hC hr hlk hnm hM hl
  have hl : lv_has ls 1 [(0, .ref mo)] := hl
  have hx := hC.1
  have hb := hC.2.1
  have hw := hC.2.2.2.2.1
  refine lv_aload_n hx hb dX8_errorKind_0 rfl (lv_at hl 0 rfl) ?_
  refine lv_aload_n hx hb dX8_errorKind_1 rfl (lv_at hl 0 rfl) ?_
  refine fg_X8_280 hC hM mq_F rfl dX8_errorKind_2 ?_
  refine me_callVi (As := [.int (F 5)]) (rest := []) hC hl.1 hM (c_X8_told l D tb X z0 n mo F w av od sv sl nz ip ot M0 (F 5) ) (kv_X8_271 hw rfl rfl ⟨Nat.le_of_ble_eq_true rfl, Nat.le_of_ble_eq_true rfl⟩) rfl rfl mq_F rfl (Nat.le_of_ble_eq_true rfl) dX8_errorKind_5 ⟨Nat.le_of_ble_eq_true rfl, Nat.le_of_ble_eq_true rfl⟩ (fun H locs hM => ?_)
  exact me_iret hC hr hlk hM (by first | rfl | simp []) (rfl) (rfl) dX8_errorKind_8
set_option maxHeartbeats 4000000 in
theorem c_X8_errorOffset (l : Launch) (D : va_G) (tb : Nat → ClassId) (X : State → Prop) (z0 n : Nat) (mo : Nat) (F w av od sv sl nz ip ot : Nat → Int32) (M0 : me_M)  : Met l yX8_errorOffset (.code yX8_errorOffset cX8_errorOffset 1 (some .int) :: ws_all) ({ frames := 1, cells := 0, slots := 0, locals := 21 } : Room) (me_Pc [.ref mo] D tb X z0 (mq tb mo F w av od sv sl nz ip ot M0) n) (me_Qi D z0 (F 6) (mq tb mo (upd F 0 0) w av od sv sl nz ip ot M0) n) 0 0 (me_A z0) := by
  refine me_open (by decide) (Nat.le_of_ble_eq_true rfl) ?_
  intro p e s m args below meth c ls hC hr hlk hnm hM hl
  have hl : lv_has ls 1 [(0, .ref mo)] := hl
  have hx := hC.1
  have hb := hC.2.1
  have hw := hC.2.2.2.2.1
  refine lv_aload_n hx hb dX8_errorOffset_0 rfl (lv_at hl 0 rfl) ?_
  refine lv_aload_n hx hb dX8_errorOffset_1 rfl (lv_at hl 0 rfl) ?_
  refine fg_X8_38 hC hM mq_F rfl dX8_errorOffset_2 ?_
  refine me_callVi (As := [.int (F 6)]) (rest := []) hC hl.1 hM (c_X8_told l D tb X z0 n mo F w av od sv sl nz ip ot M0 (F 6) ) (kv_X8_271 hw rfl rfl ⟨Nat.le_of_ble_eq_true rfl, Nat.le_of_ble_eq_true rfl⟩) rfl rfl mq_F rfl (Nat.le_of_ble_eq_true rfl) dX8_errorOffset_5 ⟨Nat.le_of_ble_eq_true rfl, Nat.le_of_ble_eq_true rfl⟩ (fun H locs hM => ?_)
  exact me_iret hC hr hlk hM (by first | rfl | simp []) (rfl) (rfl) dX8_errorOffset_8
set_option maxHeartbeats 4000000 in
theorem c_X8_clock (l : Launch) (D : va_G) (tb : Nat → ClassId) (X : State → Prop) (z0 n : Nat) (mo : Nat) (F w av od sv sl nz ip ot : Nat → Int32) (M0 : me_M)  : Met l yX8_clock (.code yX8_clock cX8_clock 1 (some .int) :: ws_all) ({ frames := 1, cells := 0, slots := 0, locals := 21 } : Room) (me_Pc [.ref mo] D tb X z0 (mq tb mo F w av od sv sl nz ip ot M0) n) (me_Qi D z0 (w 2) (mq tb mo (upd F 0 0) w av od sv sl nz ip ot M0) n) 0 0 (me_A z0) := by
  refine me_open (by decide) (Nat.le_of_ble_eq_true rfl) ?_
  intro p e s m args below meth c ls hC hr hlk hnm hM hl
  have hl : lv_has ls 1 [(0, .ref mo)] := hl
  have hx := hC.1
  have hb := hC.2.1
  have hw := hC.2.2.2.2.1
  refine lv_aload_n hx hb dX8_clock_0 rfl (lv_at hl 0 rfl) ?_
  refine lv_aload_n hx hb dX8_clock_1 rfl (lv_at hl 0 rfl) ?_
  refine fg_X8_13 hC hM mq_F rfl dX8_clock_2 ?_
  refine lv_iconst (v := 2) hx hb dX8_clock_5 (by decide) ?_
  refine me_iald (k := 2) hC hM mq_w (nx_c 2) (by omega) (by decide) dX8_clock_6 ?_
  refine me_callVi (As := [.int (w 2)]) (rest := []) hC hl.1 hM (c_X8_told l D tb X z0 n mo F w av od sv sl nz ip ot M0 (w 2) ) (kv_X8_271 hw rfl rfl ⟨Nat.le_of_ble_eq_true rfl, Nat.le_of_ble_eq_true rfl⟩) rfl rfl mq_F rfl (Nat.le_of_ble_eq_true rfl) dX8_clock_7 ⟨Nat.le_of_ble_eq_true rfl, Nat.le_of_ble_eq_true rfl⟩ (fun H locs hM => ?_)
  exact me_iret hC hr hlk hM (by first | rfl | simp []) (rfl) (rfl) dX8_clock_10
set_option maxHeartbeats 4000000 in
theorem c_X8_gracePeriod (l : Launch) (D : va_G) (tb : Nat → ClassId) (X : State → Prop) (z0 n : Nat) (mo : Nat) (F w av od sv sl nz ip ot : Nat → Int32) (M0 : me_M)  : Met l yX8_gracePeriod (.code yX8_gracePeriod cX8_gracePeriod 1 (some .int) :: ws_all) ({ frames := 1, cells := 0, slots := 0, locals := 21 } : Room) (me_Pc [.ref mo] D tb X z0 (mq tb mo F w av od sv sl nz ip ot M0) n) (me_Qi D z0 (w 0) (mq tb mo (upd F 0 0) w av od sv sl nz ip ot M0) n) 0 0 (me_A z0) := by
  refine me_open (by decide) (Nat.le_of_ble_eq_true rfl) ?_
  intro p e s m args below meth c ls hC hr hlk hnm hM hl
  have hl : lv_has ls 1 [(0, .ref mo)] := hl
  have hx := hC.1
  have hb := hC.2.1
  have hw := hC.2.2.2.2.1
  refine lv_aload_n hx hb dX8_gracePeriod_0 rfl (lv_at hl 0 rfl) ?_
  refine lv_aload_n hx hb dX8_gracePeriod_1 rfl (lv_at hl 0 rfl) ?_
  refine fg_X8_13 hC hM mq_F rfl dX8_gracePeriod_2 ?_
  refine lv_iconst (v := 0) hx hb dX8_gracePeriod_5 (by decide) ?_
  refine me_iald (k := 0) hC hM mq_w (show (0 : Int32) = nI 0 from rfl) (by omega) (by decide) dX8_gracePeriod_6 ?_
  refine me_callVi (As := [.int (w 0)]) (rest := []) hC hl.1 hM (c_X8_told l D tb X z0 n mo F w av od sv sl nz ip ot M0 (w 0) ) (kv_X8_271 hw rfl rfl ⟨Nat.le_of_ble_eq_true rfl, Nat.le_of_ble_eq_true rfl⟩) rfl rfl mq_F rfl (Nat.le_of_ble_eq_true rfl) dX8_gracePeriod_7 ⟨Nat.le_of_ble_eq_true rfl, Nat.le_of_ble_eq_true rfl⟩ (fun H locs hM => ?_)
  exact me_iret hC hr hlk hM (by first | rfl | simp []) (rfl) (rfl) dX8_gracePeriod_10
set_option maxHeartbeats 4000000 in
theorem c_X8_lateFee (l : Launch) (D : va_G) (tb : Nat → ClassId) (X : State → Prop) (z0 n : Nat) (mo : Nat) (F w av od sv sl nz ip ot : Nat → Int32) (M0 : me_M)  : Met l yX8_lateFee (.code yX8_lateFee cX8_lateFee 1 (some .int) :: ws_all) ({ frames := 1, cells := 0, slots := 0, locals := 21 } : Room) (me_Pc [.ref mo] D tb X z0 (mq tb mo F w av od sv sl nz ip ot M0) n) (me_Qi D z0 (w 1) (mq tb mo (upd F 0 0) w av od sv sl nz ip ot M0) n) 0 0 (me_A z0) := by
  refine me_open (by decide) (Nat.le_of_ble_eq_true rfl) ?_
  intro p e s m args below meth c ls hC hr hlk hnm hM hl
  have hl : lv_has ls 1 [(0, .ref mo)] := hl
  have hx := hC.1
  have hb := hC.2.1
  have hw := hC.2.2.2.2.1
  refine lv_aload_n hx hb dX8_lateFee_0 rfl (lv_at hl 0 rfl) ?_
  refine lv_aload_n hx hb dX8_lateFee_1 rfl (lv_at hl 0 rfl) ?_
  refine fg_X8_13 hC hM mq_F rfl dX8_lateFee_2 ?_
  refine lv_iconst (v := 1) hx hb dX8_lateFee_5 (by decide) ?_
  refine me_iald (k := 1) hC hM mq_w (show (1 : Int32) = nI 1 from rfl) (by omega) (by decide) dX8_lateFee_6 ?_
  refine me_callVi (As := [.int (w 1)]) (rest := []) hC hl.1 hM (c_X8_told l D tb X z0 n mo F w av od sv sl nz ip ot M0 (w 1) ) (kv_X8_271 hw rfl rfl ⟨Nat.le_of_ble_eq_true rfl, Nat.le_of_ble_eq_true rfl⟩) rfl rfl mq_F rfl (Nat.le_of_ble_eq_true rfl) dX8_lateFee_7 ⟨Nat.le_of_ble_eq_true rfl, Nat.le_of_ble_eq_true rfl⟩ (fun H locs hM => ?_)
  exact me_iret hC hr hlk hM (by first | rfl | simp []) (rfl) (rfl) dX8_lateFee_10
set_option maxHeartbeats 4000000 in
theorem c_X8_streetCount (l : Launch) (D : va_G) (tb : Nat → ClassId) (X : State → Prop) (z0 n : Nat) (mo : Nat) (F w av od sv sl nz ip ot : Nat → Int32) (M0 : me_M)  : Met l yX8_streetCount (.code yX8_streetCount cX8_streetCount 1 (some .int) :: ws_all) ({ frames := 1, cells := 0, slots := 0, locals := 21 } : Room) (me_Pc [.ref mo] D tb X z0 (mq tb mo F w av od sv sl nz ip ot M0) n) (me_Qi D z0 (w 3) (mq tb mo (upd F 0 0) w av od sv sl nz ip ot M0) n) 0 0 (me_A z0) := by
  refine me_open (by decide) (Nat.le_of_ble_eq_true rfl) ?_
  intro p e s m args below meth c ls hC hr hlk hnm hM hl
  have hl : lv_has ls 1 [(0, .ref mo)] := hl
  have hx := hC.1
  have hb := hC.2.1
  have hw := hC.2.2.2.2.1
  refine lv_aload_n hx hb dX8_streetCount_0 rfl (lv_at hl 0 rfl) ?_
  refine lv_aload_n hx hb dX8_streetCount_1 rfl (lv_at hl 0 rfl) ?_
  refine fg_X8_13 hC hM mq_F rfl dX8_streetCount_2 ?_
  refine lv_iconst (v := 3) hx hb dX8_streetCount_5 (by decide) ?_
  refine me_iald (k := 3) hC hM mq_w (nx_c 3) (by omega) (by decide) dX8_streetCount_6 ?_
  refine me_callVi (As := [.int (w 3)]) (rest := []) hC hl.1 hM (c_X8_told l D tb X z0 n mo F w av od sv sl nz ip ot M0 (w 3) ) (kv_X8_271 hw rfl rfl ⟨Nat.le_of_ble_eq_true rfl, Nat.le_of_ble_eq_true rfl⟩) rfl rfl mq_F rfl (Nat.le_of_ble_eq_true rfl) dX8_streetCount_7 ⟨Nat.le_of_ble_eq_true rfl, Nat.le_of_ble_eq_true rfl⟩ (fun H locs hM => ?_)
  exact me_iret hC hr hlk hM (by first | rfl | simp []) (rfl) (rfl) dX8_streetCount_10
set_option maxHeartbeats 4000000 in
theorem c_X8_borrowerCount (l : Launch) (D : va_G) (tb : Nat → ClassId) (X : State → Prop) (z0 n : Nat) (mo : Nat) (F w av od sv sl nz ip ot : Nat → Int32) (M0 : me_M)  : Met l yX8_borrowerCount (.code yX8_borrowerCount cX8_borrowerCount 1 (some .int) :: ws_all) ({ frames := 1, cells := 0, slots := 0, locals := 21 } : Room) (me_Pc [.ref mo] D tb X z0 (mq tb mo F w av od sv sl nz ip ot M0) n) (me_Qi D z0 (w 4) (mq tb mo (upd F 0 0) w av od sv sl nz ip ot M0) n) 0 0 (me_A z0) := by
  refine me_open (by decide) (Nat.le_of_ble_eq_true rfl) ?_
  intro p e s m args below meth c ls hC hr hlk hnm hM hl
  have hl : lv_has ls 1 [(0, .ref mo)] := hl
  have hx := hC.1
  have hb := hC.2.1
  have hw := hC.2.2.2.2.1
  refine lv_aload_n hx hb dX8_borrowerCount_0 rfl (lv_at hl 0 rfl) ?_
  refine lv_aload_n hx hb dX8_borrowerCount_1 rfl (lv_at hl 0 rfl) ?_
  refine fg_X8_13 hC hM mq_F rfl dX8_borrowerCount_2 ?_
  refine lv_iconst (v := 4) hx hb dX8_borrowerCount_5 (by decide) ?_
  refine me_iald (k := 4) hC hM mq_w (nx_c 4) (by omega) (by decide) dX8_borrowerCount_6 ?_
  refine me_callVi (As := [.int (w 4)]) (rest := []) hC hl.1 hM (c_X8_told l D tb X z0 n mo F w av od sv sl nz ip ot M0 (w 4) ) (kv_X8_271 hw rfl rfl ⟨Nat.le_of_ble_eq_true rfl, Nat.le_of_ble_eq_true rfl⟩) rfl rfl mq_F rfl (Nat.le_of_ble_eq_true rfl) dX8_borrowerCount_7 ⟨Nat.le_of_ble_eq_true rfl, Nat.le_of_ble_eq_true rfl⟩ (fun H locs hM => ?_)
  exact me_iret hC hr hlk hM (by first | rfl | simp []) (rfl) (rfl) dX8_borrowerCount_10
set_option maxHeartbeats 4000000 in
theorem c_X8_loanCount (l : Launch) (D : va_G) (tb : Nat → ClassId) (X : State → Prop) (z0 n : Nat) (mo : Nat) (F w av od sv sl nz ip ot : Nat → Int32) (M0 : me_M)  : Met l yX8_loanCount (.code yX8_loanCount cX8_loanCount 1 (some .int) :: ws_all) ({ frames := 1, cells := 0, slots := 0, locals := 21 } : Room) (me_Pc [.ref mo] D tb X z0 (mq tb mo F w av od sv sl nz ip ot M0) n) (me_Qi D z0 (w 6) (mq tb mo (upd F 0 0) w av od sv sl nz ip ot M0) n) 0 0 (me_A z0) := by
  refine me_open (by decide) (Nat.le_of_ble_eq_true rfl) ?_
  intro p e s m args below meth c ls hC hr hlk hnm hM hl
  have hl : lv_has ls 1 [(0, .ref mo)] := hl
  have hx := hC.1
  have hb := hC.2.1
  have hw := hC.2.2.2.2.1
  refine lv_aload_n hx hb dX8_loanCount_0 rfl (lv_at hl 0 rfl) ?_
  refine lv_aload_n hx hb dX8_loanCount_1 rfl (lv_at hl 0 rfl) ?_
  refine fg_X8_13 hC hM mq_F rfl dX8_loanCount_2 ?_
  refine lv_bipush (v := 6) hx hb dX8_loanCount_5 (by decide) ?_
  refine me_iald (k := 6) hC hM mq_w (nx_c 6) (by omega) (by decide) dX8_loanCount_7 ?_
  refine me_callVi (As := [.int (w 6)]) (rest := []) hC hl.1 hM (c_X8_told l D tb X z0 n mo F w av od sv sl nz ip ot M0 (w 6) ) (kv_X8_271 hw rfl rfl ⟨Nat.le_of_ble_eq_true rfl, Nat.le_of_ble_eq_true rfl⟩) rfl rfl mq_F rfl (Nat.le_of_ble_eq_true rfl) dX8_loanCount_8 ⟨Nat.le_of_ble_eq_true rfl, Nat.le_of_ble_eq_true rfl⟩ (fun H locs hM => ?_)
  exact me_iret hC hr hlk hM (by first | rfl | simp []) (rfl) (rfl) dX8_loanCount_11
set_option maxHeartbeats 4000000 in
theorem c_X8_permitCount (l : Launch) (D : va_G) (tb : Nat → ClassId) (X : State → Prop) (z0 n : Nat) (mo : Nat) (F w av od sv sl nz ip ot : Nat → Int32) (M0 : me_M)  : Met l yX8_permitCount (.code yX8_permitCount cX8_permitCount 1 (some .int) :: ws_all) ({ frames := 1, cells := 0, slots := 0, locals := 21 } : Room) (me_Pc [.ref mo] D tb X z0 (mq tb mo F w av od sv sl nz ip ot M0) n) (me_Qi D z0 (w 5) (mq tb mo (upd F 0 0) w av od sv sl nz ip ot M0) n) 0 0 (me_A z0) := by
  refine me_open (by decide) (Nat.le_of_ble_eq_true rfl) ?_
  intro p e s m args below meth c ls hC hr hlk hnm hM hl
  have hl : lv_has ls 1 [(0, .ref mo)] := hl
  have hx := hC.1
  have hb := hC.2.1
  have hw := hC.2.2.2.2.1
  refine lv_aload_n hx hb dX8_permitCount_0 rfl (lv_at hl 0 rfl) ?_
  refine lv_aload_n hx hb dX8_permitCount_1 rfl (lv_at hl 0 rfl) ?_
  refine fg_X8_13 hC hM mq_F rfl dX8_permitCount_2 ?_
  refine lv_iconst (v := 5) hx hb dX8_permitCount_5 (by decide) ?_
  refine me_iald (k := 5) hC hM mq_w (nx_c 5) (by omega) (by decide) dX8_permitCount_6 ?_
  refine me_callVi (As := [.int (w 5)]) (rest := []) hC hl.1 hM (c_X8_told l D tb X z0 n mo F w av od sv sl nz ip ot M0 (w 5) ) (kv_X8_271 hw rfl rfl ⟨Nat.le_of_ble_eq_true rfl, Nat.le_of_ble_eq_true rfl⟩) rfl rfl mq_F rfl (Nat.le_of_ble_eq_true rfl) dX8_permitCount_7 ⟨Nat.le_of_ble_eq_true rfl, Nat.le_of_ble_eq_true rfl⟩ (fun H locs hM => ?_)
  exact me_iret hC hr hlk hM (by first | rfl | simp []) (rfl) (rfl) dX8_permitCount_10
set_option maxHeartbeats 4000000 in
theorem c_X8_undoCount (l : Launch) (D : va_G) (tb : Nat → ClassId) (X : State → Prop) (z0 n : Nat) (mo : Nat) (F w av od sv sl nz ip ot : Nat → Int32) (M0 : me_M)  : Met l yX8_undoCount (.code yX8_undoCount cX8_undoCount 1 (some .int) :: ws_all) ({ frames := 1, cells := 0, slots := 0, locals := 21 } : Room) (me_Pc [.ref mo] D tb X z0 (mq tb mo F w av od sv sl nz ip ot M0) n) (me_Qi D z0 (F 1) (mq tb mo (upd F 0 0) w av od sv sl nz ip ot M0) n) 0 0 (me_A z0) := by
  refine me_open (by decide) (Nat.le_of_ble_eq_true rfl) ?_
  intro p e s m args below meth c ls hC hr hlk hnm hM hl
  have hl : lv_has ls 1 [(0, .ref mo)] := hl
  have hx := hC.1
  have hb := hC.2.1
  have hw := hC.2.2.2.2.1
  refine lv_aload_n hx hb dX8_undoCount_0 rfl (lv_at hl 0 rfl) ?_
  refine lv_aload_n hx hb dX8_undoCount_1 rfl (lv_at hl 0 rfl) ?_
  refine fg_X8_163 hC hM mq_F rfl dX8_undoCount_2 ?_
  refine me_callVi (As := [.int (F 1)]) (rest := []) hC hl.1 hM (c_X8_told l D tb X z0 n mo F w av od sv sl nz ip ot M0 (F 1) ) (kv_X8_271 hw rfl rfl ⟨Nat.le_of_ble_eq_true rfl, Nat.le_of_ble_eq_true rfl⟩) rfl rfl mq_F rfl (Nat.le_of_ble_eq_true rfl) dX8_undoCount_5 ⟨Nat.le_of_ble_eq_true rfl, Nat.le_of_ble_eq_true rfl⟩ (fun H locs hM => ?_)
  exact me_iret hC hr hlk hM (by first | rfl | simp []) (rfl) (rfl) dX8_undoCount_8
set_option maxHeartbeats 4000000 in
theorem c_X8_isNight (l : Launch) (D : va_G) (tb : Nat → ClassId) (X : State → Prop) (z0 n : Nat) (mo : Nat) (F w av od sv sl nz ip ot : Nat → Int32) (M0 : me_M)  : Met l yX8_isNight (.code yX8_isNight cX8_isNight 1 (some .boolean) :: ws_all) ({ frames := 1, cells := 0, slots := 0, locals := 21 } : Room) (me_Pc [.ref mo] D tb X z0 (mq tb mo F w av od sv sl nz ip ot M0) n) (me_Qi D z0 (b1 (nh (w 2))) (mq tb mo (upd F 0 0) w av od sv sl nz ip ot M0) n) 0 0 (me_A z0) := by
  refine me_open (by decide) (Nat.le_of_ble_eq_true rfl) ?_
  intro p e s m args below meth c ls hC hr hlk hnm hM hl
  have hl : lv_has ls 1 [(0, .ref mo)] := hl
  have hx := hC.1
  have hb := hC.2.1
  have hw := hC.2.2.2.2.1
  refine lv_aload_n hx hb dX8_isNight_0 rfl (lv_at hl 0 rfl) ?_
  refine lv_iconst (v := 0) hx hb dX8_isNight_1 (by decide) ?_
  refine fp_X8_64 hC hM mq_F (Nat.le_of_ble_eq_true rfl) (M2 := mq tb mo (upd F 0 0) w av od sv sl nz ip ot M0) (mq_wF (i := 0) (by simp [upd])) dX8_isNight_2 (fun H locs hM => ?_)
  refine lv_aload_n hx hb dX8_isNight_5 rfl (lv_at hl 0 rfl) ?_
  refine fg_X8_13 hC hM mq_F rfl dX8_isNight_6 ?_
  refine lv_iconst (v := 2) hx hb dX8_isNight_9 (by decide) ?_
  refine me_iald (k := 2) hC hM mq_w (nx_c 2) (by omega) (by decide) dX8_isNight_10 ?_
  refine me_callSi (As := [.int (w 2)]) (rest := []) hC hl.1 hM (c_X8_isNightHour l D tb X z0 n _ (w 2) ) (ks_X8_115 hw rfl rfl ⟨Nat.le_of_ble_eq_true rfl, Nat.le_of_ble_eq_true rfl⟩) rfl rfl (Nat.le_of_ble_eq_true rfl) dX8_isNight_11 ⟨Nat.le_of_ble_eq_true rfl, Nat.le_of_ble_eq_true rfl⟩ (fun H locs hM => ?_)
  exact me_zret hC hr hlk hM (rfl) (b1_01 _) (rfl) (rfl) dX8_isNight_14
set_option maxHeartbeats 4000000 in
theorem c_X8_noiseNow (l : Launch) (D : va_G) (tb : Nat → ClassId) (X : State → Prop) (z0 n : Nat) (mo : Nat) (F w av od sv sl nz ip ot : Nat → Int32) (M0 : me_M) (S B L P : Nat) (T : Nat) (s0 : Nat)  (hO : ok1 S B L P T w) (hT0 : T ≤ 9999) (hs9 : s0 < S) : Met l yX8_noiseNow (.code yX8_noiseNow cX8_noiseNow 2 (some .int) :: ws_all) ({ frames := 5, cells := 0, slots := 0, locals := 109 } : Room) (me_Pc [.ref mo, .int (nI s0)] D tb X z0 (mq tb mo F w av od sv sl nz ip ot M0) n) (me_Qi D z0 (noF w L P s0 (nI T)) (mq tb mo (upd F 0 0) w av od sv sl nz ip ot M0) n) 0 0 (me_A z0) := by
  refine me_open (by decide) (Nat.le_of_ble_eq_true rfl) ?_
  intro p e s m args below meth c ls hC hr hlk hnm hM hl
  have hl : lv_has ls 2 [(0, .ref mo), (1, .int (nI s0))] := hl
  have hx := hC.1
  have hb := hC.2.1
  have hw := hC.2.2.2.2.1
  obtain ⟨hW, hZ, hT⟩ := id hO
  obtain ⟨hS, hS0, hB, hB0, hL, hL0, hP, hP0, hwb, hwl⟩ := id hW
  have hT2 : T ≤ 20000 := by omega
  refine lv_aload_n hx hb dX8_noiseNow_0 rfl (lv_at hl 0 rfl) ?_
  refine lv_iload_n hx hb dX8_noiseNow_1 rfl (lv_at hl 1 rfl) ?_
  refine me_callVi (As := [.int (nI s0)]) (rest := []) hC hl.1 hM (c_X8_isStreet l D tb X z0 n mo F w av od sv sl nz ip ot M0 (nI s0) ) (kv_X8_289 hw rfl rfl ⟨Nat.le_of_ble_eq_true rfl, Nat.le_of_ble_eq_true rfl⟩) rfl rfl mq_F rfl (Nat.le_of_ble_eq_true rfl) dX8_noiseNow_2 ⟨Nat.le_of_ble_eq_true rfl, Nat.le_of_ble_eq_true rfl⟩ (fun H locs hM => ?_)
  refine lv_if_eq (tgt := 26) hx hb dX8_noiseNow_5 (by decide) (fun c_1 => ?_) (fun c_1 => ?_)
  · have c_1 := b1_0.mp c_1
    exact absurd (in_c hS (by omega) hs9) c_1
  · have c_1 := b1_n0.mp c_1
    refine lv_aload_n hx hb dX8_noiseNow_8 rfl (lv_at hl 0 rfl) ?_
    refine lv_aload_n hx hb dX8_noiseNow_9 rfl (lv_at hl 0 rfl) ?_
    refine lv_iload_n hx hb dX8_noiseNow_10 rfl (lv_at hl 1 rfl) ?_
    refine lv_aload_n hx hb dX8_noiseNow_11 rfl (lv_at hl 0 rfl) ?_
    refine fg_X8_13 hC hM mq_F rfl dX8_noiseNow_12 ?_
    refine lv_iconst (v := 2) hx hb dX8_noiseNow_15 (by decide) ?_
    refine me_iald (k := 2) hC hM mq_w (nx_c 2) (by omega) (by decide) dX8_noiseNow_16 ?_
    refine me_stk (st2 := [.int (nI T), .int (nI s0), .ref mo, .ref mo]) (by rw [hT]) ?_
    refine me_callVi (As := [.int (nI s0), .int (nI T)]) (rest := [.ref mo]) hC hl.1 hM (c_X8_plannedNoise l D tb X z0 n mo F w av od sv sl nz ip ot M0 S B L P s0 T hW hZ (by omega) (by omega)) (kv_X8_144 hw rfl rfl ⟨Nat.le_of_ble_eq_true rfl, Nat.le_of_ble_eq_true rfl⟩) rfl rfl mq_F rfl (Nat.le_of_ble_eq_true rfl) dX8_noiseNow_17 ⟨Nat.le_of_ble_eq_true rfl, Nat.le_of_ble_eq_true rfl⟩ (fun H locs hM => ?_)
    refine me_callVi (As := [.int (noF w L P s0 (nI T))]) (rest := []) hC hl.1 hM (c_X8_told l D tb X z0 n mo F w av od sv sl nz ip ot M0 (noF w L P s0 (nI T)) ) (kv_X8_271 hw rfl rfl ⟨Nat.le_of_ble_eq_true rfl, Nat.le_of_ble_eq_true rfl⟩) rfl rfl mq_F rfl (Nat.le_of_ble_eq_true rfl) dX8_noiseNow_20 ⟨Nat.le_of_ble_eq_true rfl, Nat.le_of_ble_eq_true rfl⟩ (fun H locs hM => ?_)
    refine lv_goto (tgt := 31) hx hb dX8_noiseNow_23 (by decide) ?_
    exact me_iret hC hr hlk hM (by first | rfl | simp [c_1]) (rfl) (rfl) dX8_noiseNow_31
set_option maxHeartbeats 4000000 in
theorem c_X8_noiseNow_x1 (l : Launch) (D : va_G) (tb : Nat → ClassId) (X : State → Prop) (z0 n : Nat) (mo : Nat) (F w av od sv sl nz ip ot : Nat → Int32) (M0 : me_M) (S B L P : Nat) (T : Nat) (x : Int32)  (hO : ok1 S B L P T w) (hT0 : T ≤ 9999) (hbad : x < 0 ∨ w 3 ≤ x) : Met l yX8_noiseNow (.code yX8_noiseNow cX8_noiseNow 2 (some .int) :: ws_all) ({ frames := 2, cells := 0, slots := 0, locals := 43 } : Room) (me_Pc [.ref mo, .int x] D tb X z0 (mq tb mo F w av od sv sl nz ip ot M0) n) (me_Qi D z0 0 (mq tb mo (upd F 0 1) w av od sv sl nz ip ot M0) n) 0 0 (me_A z0) := by
  refine me_open (by decide) (Nat.le_of_ble_eq_true rfl) ?_
  intro p e s m args below meth c ls hC hr hlk hnm hM hl
  have hl : lv_has ls 2 [(0, .ref mo), (1, .int x)] := hl
  have hx := hC.1
  have hb := hC.2.1
  have hw := hC.2.2.2.2.1
  obtain ⟨hW, hZ, hT⟩ := id hO
  obtain ⟨hS, hS0, hB, hB0, hL, hL0, hP, hP0, hwb, hwl⟩ := id hW
  have hT2 : T ≤ 20000 := by omega
  refine lv_aload_n hx hb dX8_noiseNow_0 rfl (lv_at hl 0 rfl) ?_
  refine lv_iload_n hx hb dX8_noiseNow_1 rfl (lv_at hl 1 rfl) ?_
  refine me_callVi (As := [.int x]) (rest := []) hC hl.1 hM (c_X8_isStreet l D tb X z0 n mo F w av od sv sl nz ip ot M0 x ) (kv_X8_289 hw rfl rfl ⟨Nat.le_of_ble_eq_true rfl, Nat.le_of_ble_eq_true rfl⟩) rfl rfl mq_F rfl (Nat.le_of_ble_eq_true rfl) dX8_noiseNow_2 ⟨Nat.le_of_ble_eq_true rfl, Nat.le_of_ble_eq_true rfl⟩ (fun H locs hM => ?_)
  refine lv_if_eq (tgt := 26) hx hb dX8_noiseNow_5 (by decide) (fun c_1 => ?_) (fun c_1 => ?_)
  · have c_1 := b1_0.mp c_1
    refine lv_aload_n hx hb dX8_noiseNow_26 rfl (lv_at hl 0 rfl) ?_
    refine lv_iconst (v := 1) hx hb dX8_noiseNow_27 (by decide) ?_
    refine me_callVi (As := [.int 1]) (rest := []) hC hl.1 hM (c_X8_refuse l D tb X z0 n mo F w av od sv sl nz ip ot M0 (1 : Int32) ) (kv_X8_265 hw rfl rfl ⟨Nat.le_of_ble_eq_true rfl, Nat.le_of_ble_eq_true rfl⟩) rfl rfl mq_F rfl (Nat.le_of_ble_eq_true rfl) dX8_noiseNow_28 ⟨Nat.le_of_ble_eq_true rfl, Nat.le_of_ble_eq_true rfl⟩ (fun H locs hM => ?_)
    exact me_iret hC hr hlk hM (rfl) (rfl) (rfl) dX8_noiseNow_31
  · have c_1 := b1_n0.mp c_1
    exact absurd c_1 (in_x hS (by omega) hbad)
set_option maxHeartbeats 4000000 in
theorem c_X8_noiseAt (l : Launch) (D : va_G) (tb : Nat → ClassId) (X : State → Prop) (z0 n : Nat) (mo : Nat) (F w av od sv sl nz ip ot : Nat → Int32) (M0 : me_M) (S B L P : Nat) (T : Nat) (s0 h0 : Nat)  (hO : ok1 S B L P T w) (hT0 : T ≤ 9999) (hs9 : s0 < S) (hh1 : T ≤ h0) (hh2 : h0 < T + 48) : Met l yX8_noiseAt (.code yX8_noiseAt cX8_noiseAt 3 (some .int) :: ws_all) ({ frames := 5, cells := 0, slots := 0, locals := 109 } : Room) (me_Pc [.ref mo, .int (nI s0), .int (nI h0)] D tb X z0 (mq tb mo F w av od sv sl nz ip ot M0) n) (me_Qi D z0 (noF w L P s0 (nI h0)) (mq tb mo (upd F 0 0) w av od sv sl nz ip ot M0) n) 0 0 (me_A z0) := by
  refine me_open (by decide) (Nat.le_of_ble_eq_true rfl) ?_
  intro p e s m args below meth c ls hC hr hlk hnm hM hl
  have hl : lv_has ls 3 [(0, .ref mo), (1, .int (nI s0)), (2, .int (nI h0))] := hl
  have hx := hC.1
  have hb := hC.2.1
  have hw := hC.2.2.2.2.1
  obtain ⟨hW, hZ, hT⟩ := id hO
  obtain ⟨hS, hS0, hB, hB0, hL, hL0, hP, hP0, hwb, hwl⟩ := id hW
  have hT2 : T ≤ 20000 := by omega
  refine lv_aload_n hx hb dX8_noiseAt_0 rfl (lv_at hl 0 rfl) ?_
  refine lv_iload_n hx hb dX8_noiseAt_1 rfl (lv_at hl 1 rfl) ?_
  refine me_callVi (As := [.int (nI s0)]) (rest := []) hC hl.1 hM (c_X8_isStreet l D tb X z0 n mo F w av od sv sl nz ip ot M0 (nI s0) ) (kv_X8_289 hw rfl rfl ⟨Nat.le_of_ble_eq_true rfl, Nat.le_of_ble_eq_true rfl⟩) rfl rfl mq_F rfl (Nat.le_of_ble_eq_true rfl) dX8_noiseAt_2 ⟨Nat.le_of_ble_eq_true rfl, Nat.le_of_ble_eq_true rfl⟩ (fun H locs hM => ?_)
  refine lv_if_ne (tgt := 14) hx hb dX8_noiseAt_5 (by decide) (fun c_1 => ?_) (fun c_1 => ?_)
  · have c_1 := b1_n0.mp c_1
    refine lv_aload_n hx hb dX8_noiseAt_14 rfl (lv_at hl 0 rfl) ?_
    refine lv_iload_n hx hb dX8_noiseAt_15 rfl (lv_at hl 2 rfl) ?_
    refine me_callVi (As := [.int (nI h0)]) (rest := []) hC hl.1 hM (c_X8_inHorizon l D tb X z0 n mo F w av od sv sl nz ip ot M0 (nI h0) ) (kv_X8_84 hw rfl rfl ⟨Nat.le_of_ble_eq_true rfl, Nat.le_of_ble_eq_true rfl⟩) rfl rfl mq_F rfl (Nat.le_of_ble_eq_true rfl) dX8_noiseAt_16 ⟨Nat.le_of_ble_eq_true rfl, Nat.le_of_ble_eq_true rfl⟩ (fun H locs hM => ?_)
    refine lv_if_eq (tgt := 35) hx hb dX8_noiseAt_19 (by decide) (fun c_2 => ?_) (fun c_2 => ?_)
    · have c_2 := b1_0.mp c_2
      exact absurd (ih_c hT hT2 hh1 hh2) c_2
    · have c_2 := b1_n0.mp c_2
      refine lv_aload_n hx hb dX8_noiseAt_22 rfl (lv_at hl 0 rfl) ?_
      refine lv_aload_n hx hb dX8_noiseAt_23 rfl (lv_at hl 0 rfl) ?_
      refine lv_iload_n hx hb dX8_noiseAt_24 rfl (lv_at hl 1 rfl) ?_
      refine lv_iload_n hx hb dX8_noiseAt_25 rfl (lv_at hl 2 rfl) ?_
      refine me_callVi (As := [.int (nI s0), .int (nI h0)]) (rest := [.ref mo]) hC hl.1 hM (c_X8_plannedNoise l D tb X z0 n mo F w av od sv sl nz ip ot M0 S B L P s0 h0 hW hZ (by omega) (by omega)) (kv_X8_144 hw rfl rfl ⟨Nat.le_of_ble_eq_true rfl, Nat.le_of_ble_eq_true rfl⟩) rfl rfl mq_F rfl (Nat.le_of_ble_eq_true rfl) dX8_noiseAt_26 ⟨Nat.le_of_ble_eq_true rfl, Nat.le_of_ble_eq_true rfl⟩ (fun H locs hM => ?_)
      refine me_callVi (As := [.int (noF w L P s0 (nI h0))]) (rest := []) hC hl.1 hM (c_X8_told l D tb X z0 n mo F w av od sv sl nz ip ot M0 (noF w L P s0 (nI h0)) ) (kv_X8_271 hw rfl rfl ⟨Nat.le_of_ble_eq_true rfl, Nat.le_of_ble_eq_true rfl⟩) rfl rfl mq_F rfl (Nat.le_of_ble_eq_true rfl) dX8_noiseAt_29 ⟨Nat.le_of_ble_eq_true rfl, Nat.le_of_ble_eq_true rfl⟩ (fun H locs hM => ?_)
      refine lv_goto (tgt := 40) hx hb dX8_noiseAt_32 (by decide) ?_
      exact me_iret hC hr hlk hM (by first | rfl | simp [c_1, c_2]) (rfl) (rfl) dX8_noiseAt_40
  · have c_1 := b1_0.mp c_1
    exact absurd (in_c hS (by omega) hs9) c_1
set_option maxHeartbeats 4000000 in
theorem c_X8_noiseAt_x1 (l : Launch) (D : va_G) (tb : Nat → ClassId) (X : State → Prop) (z0 n : Nat) (mo : Nat) (F w av od sv sl nz ip ot : Nat → Int32) (M0 : me_M) (S B L P : Nat) (T : Nat) (x : Int32) (y9 : Int32)  (hO : ok1 S B L P T w) (hT0 : T ≤ 9999) (hbad : x < 0 ∨ w 3 ≤ x) : Met l yX8_noiseAt (.code yX8_noiseAt cX8_noiseAt 3 (some .int) :: ws_all) ({ frames := 2, cells := 0, slots := 0, locals := 43 } : Room) (me_Pc [.ref mo, .int x, .int y9] D tb X z0 (mq tb mo F w av od sv sl nz ip ot M0) n) (me_Qi D z0 0 (mq tb mo (upd F 0 1) w av od sv sl nz ip ot M0) n) 0 0 (me_A z0) := by
  refine me_open (by decide) (Nat.le_of_ble_eq_true rfl) ?_
  intro p e s m args below meth c ls hC hr hlk hnm hM hl
  have hl : lv_has ls 3 [(0, .ref mo), (1, .int x), (2, .int y9)] := hl
  have hx := hC.1
  have hb := hC.2.1
  have hw := hC.2.2.2.2.1
  obtain ⟨hW, hZ, hT⟩ := id hO
  obtain ⟨hS, hS0, hB, hB0, hL, hL0, hP, hP0, hwb, hwl⟩ := id hW
  have hT2 : T ≤ 20000 := by omega
  refine lv_aload_n hx hb dX8_noiseAt_0 rfl (lv_at hl 0 rfl) ?_
  refine lv_iload_n hx hb dX8_noiseAt_1 rfl (lv_at hl 1 rfl) ?_
  refine me_callVi (As := [.int x]) (rest := []) hC hl.1 hM (c_X8_isStreet l D tb X z0 n mo F w av od sv sl nz ip ot M0 x ) (kv_X8_289 hw rfl rfl ⟨Nat.le_of_ble_eq_true rfl, Nat.le_of_ble_eq_true rfl⟩) rfl rfl mq_F rfl (Nat.le_of_ble_eq_true rfl) dX8_noiseAt_2 ⟨Nat.le_of_ble_eq_true rfl, Nat.le_of_ble_eq_true rfl⟩ (fun H locs hM => ?_)
  refine lv_if_ne (tgt := 14) hx hb dX8_noiseAt_5 (by decide) (fun c_1 => ?_) (fun c_1 => ?_)
  · have c_1 := b1_n0.mp c_1
    exact absurd c_1 (in_x hS (by omega) hbad)
  · have c_1 := b1_0.mp c_1
    refine lv_aload_n hx hb dX8_noiseAt_8 rfl (lv_at hl 0 rfl) ?_
    refine lv_iconst (v := 1) hx hb dX8_noiseAt_9 (by decide) ?_
    refine me_callVi (As := [.int 1]) (rest := []) hC hl.1 hM (c_X8_refuse l D tb X z0 n mo F w av od sv sl nz ip ot M0 (1 : Int32) ) (kv_X8_265 hw rfl rfl ⟨Nat.le_of_ble_eq_true rfl, Nat.le_of_ble_eq_true rfl⟩) rfl rfl mq_F rfl (Nat.le_of_ble_eq_true rfl) dX8_noiseAt_10 ⟨Nat.le_of_ble_eq_true rfl, Nat.le_of_ble_eq_true rfl⟩ (fun H locs hM => ?_)
    exact me_iret hC hr hlk hM (rfl) (rfl) (rfl) dX8_noiseAt_13
set_option maxHeartbeats 4000000 in
theorem c_X8_noiseAt_x2 (l : Launch) (D : va_G) (tb : Nat → ClassId) (X : State → Prop) (z0 n : Nat) (mo : Nat) (F w av od sv sl nz ip ot : Nat → Int32) (M0 : me_M) (S B L P : Nat) (T : Nat) (s0 : Nat) (x : Int32)  (hO : ok1 S B L P T w) (hT0 : T ≤ 9999) (hs9 : s0 < S) (hbad : x < w 2 ∨ w 2 + 48 ≤ x) : Met l yX8_noiseAt (.code yX8_noiseAt cX8_noiseAt 3 (some .int) :: ws_all) ({ frames := 2, cells := 0, slots := 0, locals := 43 } : Room) (me_Pc [.ref mo, .int (nI s0), .int x] D tb X z0 (mq tb mo F w av od sv sl nz ip ot M0) n) (me_Qi D z0 0 (mq tb mo (upd F 0 2) w av od sv sl nz ip ot M0) n) 0 0 (me_A z0) := by
  refine me_open (by decide) (Nat.le_of_ble_eq_true rfl) ?_
  intro p e s m args below meth c ls hC hr hlk hnm hM hl
  have hl : lv_has ls 3 [(0, .ref mo), (1, .int (nI s0)), (2, .int x)] := hl
  have hx := hC.1
  have hb := hC.2.1
  have hw := hC.2.2.2.2.1
  obtain ⟨hW, hZ, hT⟩ := id hO
  obtain ⟨hS, hS0, hB, hB0, hL, hL0, hP, hP0, hwb, hwl⟩ := id hW
  have hT2 : T ≤ 20000 := by omega
  refine lv_aload_n hx hb dX8_noiseAt_0 rfl (lv_at hl 0 rfl) ?_
  refine lv_iload_n hx hb dX8_noiseAt_1 rfl (lv_at hl 1 rfl) ?_
  refine me_callVi (As := [.int (nI s0)]) (rest := []) hC hl.1 hM (c_X8_isStreet l D tb X z0 n mo F w av od sv sl nz ip ot M0 (nI s0) ) (kv_X8_289 hw rfl rfl ⟨Nat.le_of_ble_eq_true rfl, Nat.le_of_ble_eq_true rfl⟩) rfl rfl mq_F rfl (Nat.le_of_ble_eq_true rfl) dX8_noiseAt_2 ⟨Nat.le_of_ble_eq_true rfl, Nat.le_of_ble_eq_true rfl⟩ (fun H locs hM => ?_)
  refine lv_if_ne (tgt := 14) hx hb dX8_noiseAt_5 (by decide) (fun c_1 => ?_) (fun c_1 => ?_)
  · have c_1 := b1_n0.mp c_1
    refine lv_aload_n hx hb dX8_noiseAt_14 rfl (lv_at hl 0 rfl) ?_
    refine lv_iload_n hx hb dX8_noiseAt_15 rfl (lv_at hl 2 rfl) ?_
    refine me_callVi (As := [.int x]) (rest := []) hC hl.1 hM (c_X8_inHorizon l D tb X z0 n mo F w av od sv sl nz ip ot M0 x ) (kv_X8_84 hw rfl rfl ⟨Nat.le_of_ble_eq_true rfl, Nat.le_of_ble_eq_true rfl⟩) rfl rfl mq_F rfl (Nat.le_of_ble_eq_true rfl) dX8_noiseAt_16 ⟨Nat.le_of_ble_eq_true rfl, Nat.le_of_ble_eq_true rfl⟩ (fun H locs hM => ?_)
    refine lv_if_eq (tgt := 35) hx hb dX8_noiseAt_19 (by decide) (fun c_2 => ?_) (fun c_2 => ?_)
    · have c_2 := b1_0.mp c_2
      refine lv_aload_n hx hb dX8_noiseAt_35 rfl (lv_at hl 0 rfl) ?_
      refine lv_iconst (v := 2) hx hb dX8_noiseAt_36 (by decide) ?_
      refine me_callVi (As := [.int 2]) (rest := []) hC hl.1 hM (c_X8_refuse l D tb X z0 n mo F w av od sv sl nz ip ot M0 (2 : Int32) ) (kv_X8_265 hw rfl rfl ⟨Nat.le_of_ble_eq_true rfl, Nat.le_of_ble_eq_true rfl⟩) rfl rfl mq_F rfl (Nat.le_of_ble_eq_true rfl) dX8_noiseAt_37 ⟨Nat.le_of_ble_eq_true rfl, Nat.le_of_ble_eq_true rfl⟩ (fun H locs hM => ?_)
      exact me_iret hC hr hlk hM (rfl) (rfl) (rfl) dX8_noiseAt_40
    · have c_2 := b1_n0.mp c_2
      exact absurd c_2 (ih_x hbad)
  · have c_1 := b1_0.mp c_1
    exact absurd (in_c hS (by omega) hs9) c_1
set_option maxHeartbeats 4000000 in
theorem c_X8_noiseTotal (l : Launch) (D : va_G) (tb : Nat → ClassId) (X : State → Prop) (z0 n : Nat) (mo : Nat) (F w av od sv sl nz ip ot : Nat → Int32) (M0 : me_M) (S B L P : Nat) (T : Nat) (s0 : Nat)  (hO : ok1 S B L P T w) (hT0 : T ≤ 9999) (hs9 : s0 < S) : Met l yX8_noiseTotal (.code yX8_noiseTotal cX8_noiseTotal 2 (some .int) :: ws_all) ({ frames := 2, cells := 0, slots := 0, locals := 43 } : Room) (me_Pc [.ref mo, .int (nI s0)] D tb X z0 (mq tb mo F w av od sv sl nz ip ot M0) n) (me_Qi D z0 (w (9 + 10 * s0 + 2)) (mq tb mo (upd F 0 0) w av od sv sl nz ip ot M0) n) 0 0 (me_A z0) := by
  refine me_open (by decide) (Nat.le_of_ble_eq_true rfl) ?_
  intro p e s m args below meth c ls hC hr hlk hnm hM hl
  have hl : lv_has ls 2 [(0, .ref mo), (1, .int (nI s0))] := hl
  have hx := hC.1
  have hb := hC.2.1
  have hw := hC.2.2.2.2.1
  obtain ⟨hW, hZ, hT⟩ := id hO
  obtain ⟨hS, hS0, hB, hB0, hL, hL0, hP, hP0, hwb, hwl⟩ := id hW
  have hT2 : T ≤ 20000 := by omega
  refine lv_aload_n hx hb dX8_noiseTotal_0 rfl (lv_at hl 0 rfl) ?_
  refine lv_iload_n hx hb dX8_noiseTotal_1 rfl (lv_at hl 1 rfl) ?_
  refine me_callVi (As := [.int (nI s0)]) (rest := []) hC hl.1 hM (c_X8_isStreet l D tb X z0 n mo F w av od sv sl nz ip ot M0 (nI s0) ) (kv_X8_289 hw rfl rfl ⟨Nat.le_of_ble_eq_true rfl, Nat.le_of_ble_eq_true rfl⟩) rfl rfl mq_F rfl (Nat.le_of_ble_eq_true rfl) dX8_noiseTotal_2 ⟨Nat.le_of_ble_eq_true rfl, Nat.le_of_ble_eq_true rfl⟩ (fun H locs hM => ?_)
  refine lv_if_eq (tgt := 26) hx hb dX8_noiseTotal_5 (by decide) (fun c_1 => ?_) (fun c_1 => ?_)
  · have c_1 := b1_0.mp c_1
    exact absurd (in_c hS (by omega) hs9) c_1
  · have c_1 := b1_n0.mp c_1
    refine lv_aload_n hx hb dX8_noiseTotal_8 rfl (lv_at hl 0 rfl) ?_
    refine lv_aload_n hx hb dX8_noiseTotal_9 rfl (lv_at hl 0 rfl) ?_
    refine fg_X8_13 hC hM mq_F rfl dX8_noiseTotal_10 ?_
    refine lv_iload_n hx hb dX8_noiseTotal_13 rfl (lv_at hl 1 rfl) ?_
    refine me_callSi (As := [.int (nI s0)]) (rest := [.ref (mo + 2), .ref mo]) hC hl.1 hM (c_X8_s l D tb X z0 n _ s0 ) (ks_X8_71 hw rfl rfl ⟨Nat.le_of_ble_eq_true rfl, Nat.le_of_ble_eq_true rfl⟩) rfl rfl (Nat.le_of_ble_eq_true rfl) dX8_noiseTotal_14 ⟨Nat.le_of_ble_eq_true rfl, Nat.le_of_ble_eq_true rfl⟩ (fun H locs hM => ?_)
    refine lv_iconst (v := 2) hx hb dX8_noiseTotal_17 (by decide) ?_
    refine lv_iadd hx hb dX8_noiseTotal_18 ?_
    refine me_iald (k := 9 + 10 * s0 + 2) hC hM mq_w (nx_add rfl (nx_c 2)) (by omega) (by decide) dX8_noiseTotal_19 ?_
    refine me_callVi (As := [.int (w (9 + 10 * s0 + 2))]) (rest := []) hC hl.1 hM (c_X8_told l D tb X z0 n mo F w av od sv sl nz ip ot M0 (w (9 + 10 * s0 + 2)) ) (kv_X8_271 hw rfl rfl ⟨Nat.le_of_ble_eq_true rfl, Nat.le_of_ble_eq_true rfl⟩) rfl rfl mq_F rfl (Nat.le_of_ble_eq_true rfl) dX8_noiseTotal_20 ⟨Nat.le_of_ble_eq_true rfl, Nat.le_of_ble_eq_true rfl⟩ (fun H locs hM => ?_)
    refine lv_goto (tgt := 31) hx hb dX8_noiseTotal_23 (by decide) ?_
    exact me_iret hC hr hlk hM (by first | rfl | simp [c_1]) (rfl) (rfl) dX8_noiseTotal_31
set_option maxHeartbeats 4000000 in
theorem c_X8_noiseTotal_x1 (l : Launch) (D : va_G) (tb : Nat → ClassId) (X : State → Prop) (z0 n : Nat) (mo : Nat) (F w av od sv sl nz ip ot : Nat → Int32) (M0 : me_M) (S B L P : Nat) (T : Nat) (x : Int32)  (hO : ok1 S B L P T w) (hT0 : T ≤ 9999) (hbad : x < 0 ∨ w 3 ≤ x) : Met l yX8_noiseTotal (.code yX8_noiseTotal cX8_noiseTotal 2 (some .int) :: ws_all) ({ frames := 2, cells := 0, slots := 0, locals := 43 } : Room) (me_Pc [.ref mo, .int x] D tb X z0 (mq tb mo F w av od sv sl nz ip ot M0) n) (me_Qi D z0 0 (mq tb mo (upd F 0 1) w av od sv sl nz ip ot M0) n) 0 0 (me_A z0) := by
  refine me_open (by decide) (Nat.le_of_ble_eq_true rfl) ?_
  intro p e s m args below meth c ls hC hr hlk hnm hM hl
  have hl : lv_has ls 2 [(0, .ref mo), (1, .int x)] := hl
  have hx := hC.1
  have hb := hC.2.1
  have hw := hC.2.2.2.2.1
  obtain ⟨hW, hZ, hT⟩ := id hO
  obtain ⟨hS, hS0, hB, hB0, hL, hL0, hP, hP0, hwb, hwl⟩ := id hW
  have hT2 : T ≤ 20000 := by omega
  refine lv_aload_n hx hb dX8_noiseTotal_0 rfl (lv_at hl 0 rfl) ?_
  refine lv_iload_n hx hb dX8_noiseTotal_1 rfl (lv_at hl 1 rfl) ?_
  refine me_callVi (As := [.int x]) (rest := []) hC hl.1 hM (c_X8_isStreet l D tb X z0 n mo F w av od sv sl nz ip ot M0 x ) (kv_X8_289 hw rfl rfl ⟨Nat.le_of_ble_eq_true rfl, Nat.le_of_ble_eq_true rfl⟩) rfl rfl mq_F rfl (Nat.le_of_ble_eq_true rfl) dX8_noiseTotal_2 ⟨Nat.le_of_ble_eq_true rfl, Nat.le_of_ble_eq_true rfl⟩ (fun H locs hM => ?_)
  refine lv_if_eq (tgt := 26) hx hb dX8_noiseTotal_5 (by decide) (fun c_1 => ?_) (fun c_1 => ?_)
  · have c_1 := b1_0.mp c_1
    refine lv_aload_n hx hb dX8_noiseTotal_26 rfl (lv_at hl 0 rfl) ?_
    refine lv_iconst (v := 1) hx hb dX8_noiseTotal_27 (by decide) ?_
    refine me_callVi (As := [.int 1]) (rest := []) hC hl.1 hM (c_X8_refuse l D tb X z0 n mo F w av od sv sl nz ip ot M0 (1 : Int32) ) (kv_X8_265 hw rfl rfl ⟨Nat.le_of_ble_eq_true rfl, Nat.le_of_ble_eq_true rfl⟩) rfl rfl mq_F rfl (Nat.le_of_ble_eq_true rfl) dX8_noiseTotal_28 ⟨Nat.le_of_ble_eq_true rfl, Nat.le_of_ble_eq_true rfl⟩ (fun H locs hM => ?_)
    exact me_iret hC hr hlk hM (rfl) (rfl) (rfl) dX8_noiseTotal_31
  · have c_1 := b1_n0.mp c_1
    exact absurd c_1 (in_x hS (by omega) hbad)
set_option maxHeartbeats 4000000 in
theorem c_X8_quietHours (l : Launch) (D : va_G) (tb : Nat → ClassId) (X : State → Prop) (z0 n : Nat) (mo : Nat) (F w av od sv sl nz ip ot : Nat → Int32) (M0 : me_M) (S B L P : Nat) (T : Nat) (s0 : Nat)  (hO : ok1 S B L P T w) (hT0 : T ≤ 9999) (hs9 : s0 < S) : Met l yX8_quietHours (.code yX8_quietHours cX8_quietHours 2 (some .int) :: ws_all) ({ frames := 2, cells := 0, slots := 0, locals := 43 } : Room) (me_Pc [.ref mo, .int (nI s0)] D tb X z0 (mq tb mo F w av od sv sl nz ip ot M0) n) (me_Qi D z0 (w (9 + 10 * s0 + 3)) (mq tb mo (upd F 0 0) w av od sv sl nz ip ot M0) n) 0 0 (me_A z0) := by
  refine me_open (by decide) (Nat.le_of_ble_eq_true rfl) ?_
  intro p e s m args below meth c ls hC hr hlk hnm hM hl
  have hl : lv_has ls 2 [(0, .ref mo), (1, .int (nI s0))] := hl
  have hx := hC.1
  have hb := hC.2.1
  have hw := hC.2.2.2.2.1
  obtain ⟨hW, hZ, hT⟩ := id hO
  obtain ⟨hS, hS0, hB, hB0, hL, hL0, hP, hP0, hwb, hwl⟩ := id hW
  have hT2 : T ≤ 20000 := by omega
  refine lv_aload_n hx hb dX8_quietHours_0 rfl (lv_at hl 0 rfl) ?_
  refine lv_iload_n hx hb dX8_quietHours_1 rfl (lv_at hl 1 rfl) ?_
  refine me_callVi (As := [.int (nI s0)]) (rest := []) hC hl.1 hM (c_X8_isStreet l D tb X z0 n mo F w av od sv sl nz ip ot M0 (nI s0) ) (kv_X8_289 hw rfl rfl ⟨Nat.le_of_ble_eq_true rfl, Nat.le_of_ble_eq_true rfl⟩) rfl rfl mq_F rfl (Nat.le_of_ble_eq_true rfl) dX8_quietHours_2 ⟨Nat.le_of_ble_eq_true rfl, Nat.le_of_ble_eq_true rfl⟩ (fun H locs hM => ?_)
  refine lv_if_eq (tgt := 26) hx hb dX8_quietHours_5 (by decide) (fun c_1 => ?_) (fun c_1 => ?_)
  · have c_1 := b1_0.mp c_1
    exact absurd (in_c hS (by omega) hs9) c_1
  · have c_1 := b1_n0.mp c_1
    refine lv_aload_n hx hb dX8_quietHours_8 rfl (lv_at hl 0 rfl) ?_
    refine lv_aload_n hx hb dX8_quietHours_9 rfl (lv_at hl 0 rfl) ?_
    refine fg_X8_13 hC hM mq_F rfl dX8_quietHours_10 ?_
    refine lv_iload_n hx hb dX8_quietHours_13 rfl (lv_at hl 1 rfl) ?_
    refine me_callSi (As := [.int (nI s0)]) (rest := [.ref (mo + 2), .ref mo]) hC hl.1 hM (c_X8_s l D tb X z0 n _ s0 ) (ks_X8_71 hw rfl rfl ⟨Nat.le_of_ble_eq_true rfl, Nat.le_of_ble_eq_true rfl⟩) rfl rfl (Nat.le_of_ble_eq_true rfl) dX8_quietHours_14 ⟨Nat.le_of_ble_eq_true rfl, Nat.le_of_ble_eq_true rfl⟩ (fun H locs hM => ?_)
    refine lv_iconst (v := 3) hx hb dX8_quietHours_17 (by decide) ?_
    refine lv_iadd hx hb dX8_quietHours_18 ?_
    refine me_iald (k := 9 + 10 * s0 + 3) hC hM mq_w (nx_add rfl (nx_c 3)) (by omega) (by decide) dX8_quietHours_19 ?_
    refine me_callVi (As := [.int (w (9 + 10 * s0 + 3))]) (rest := []) hC hl.1 hM (c_X8_told l D tb X z0 n mo F w av od sv sl nz ip ot M0 (w (9 + 10 * s0 + 3)) ) (kv_X8_271 hw rfl rfl ⟨Nat.le_of_ble_eq_true rfl, Nat.le_of_ble_eq_true rfl⟩) rfl rfl mq_F rfl (Nat.le_of_ble_eq_true rfl) dX8_quietHours_20 ⟨Nat.le_of_ble_eq_true rfl, Nat.le_of_ble_eq_true rfl⟩ (fun H locs hM => ?_)
    refine lv_goto (tgt := 31) hx hb dX8_quietHours_23 (by decide) ?_
    exact me_iret hC hr hlk hM (by first | rfl | simp [c_1]) (rfl) (rfl) dX8_quietHours_31
set_option maxHeartbeats 4000000 in
theorem c_X8_quietHours_x1 (l : Launch) (D : va_G) (tb : Nat → ClassId) (X : State → Prop) (z0 n : Nat) (mo : Nat) (F w av od sv sl nz ip ot : Nat → Int32) (M0 : me_M) (S B L P : Nat) (T : Nat) (x : Int32)  (hO : ok1 S B L P T w) (hT0 : T ≤ 9999) (hbad : x < 0 ∨ w 3 ≤ x) : Met l yX8_quietHours (.code yX8_quietHours cX8_quietHours 2 (some .int) :: ws_all) ({ frames := 2, cells := 0, slots := 0, locals := 43 } : Room) (me_Pc [.ref mo, .int x] D tb X z0 (mq tb mo F w av od sv sl nz ip ot M0) n) (me_Qi D z0 0 (mq tb mo (upd F 0 1) w av od sv sl nz ip ot M0) n) 0 0 (me_A z0) := by
  refine me_open (by decide) (Nat.le_of_ble_eq_true rfl) ?_
  intro p e s m args below meth c ls hC hr hlk hnm hM hl
  have hl : lv_has ls 2 [(0, .ref mo), (1, .int x)] := hl
  have hx := hC.1
  have hb := hC.2.1
  have hw := hC.2.2.2.2.1
  obtain ⟨hW, hZ, hT⟩ := id hO
  obtain ⟨hS, hS0, hB, hB0, hL, hL0, hP, hP0, hwb, hwl⟩ := id hW
  have hT2 : T ≤ 20000 := by omega
  refine lv_aload_n hx hb dX8_quietHours_0 rfl (lv_at hl 0 rfl) ?_
  refine lv_iload_n hx hb dX8_quietHours_1 rfl (lv_at hl 1 rfl) ?_
  refine me_callVi (As := [.int x]) (rest := []) hC hl.1 hM (c_X8_isStreet l D tb X z0 n mo F w av od sv sl nz ip ot M0 x ) (kv_X8_289 hw rfl rfl ⟨Nat.le_of_ble_eq_true rfl, Nat.le_of_ble_eq_true rfl⟩) rfl rfl mq_F rfl (Nat.le_of_ble_eq_true rfl) dX8_quietHours_2 ⟨Nat.le_of_ble_eq_true rfl, Nat.le_of_ble_eq_true rfl⟩ (fun H locs hM => ?_)
  refine lv_if_eq (tgt := 26) hx hb dX8_quietHours_5 (by decide) (fun c_1 => ?_) (fun c_1 => ?_)
  · have c_1 := b1_0.mp c_1
    refine lv_aload_n hx hb dX8_quietHours_26 rfl (lv_at hl 0 rfl) ?_
    refine lv_iconst (v := 1) hx hb dX8_quietHours_27 (by decide) ?_
    refine me_callVi (As := [.int 1]) (rest := []) hC hl.1 hM (c_X8_refuse l D tb X z0 n mo F w av od sv sl nz ip ot M0 (1 : Int32) ) (kv_X8_265 hw rfl rfl ⟨Nat.le_of_ble_eq_true rfl, Nat.le_of_ble_eq_true rfl⟩) rfl rfl mq_F rfl (Nat.le_of_ble_eq_true rfl) dX8_quietHours_28 ⟨Nat.le_of_ble_eq_true rfl, Nat.le_of_ble_eq_true rfl⟩ (fun H locs hM => ?_)
    exact me_iret hC hr hlk hM (rfl) (rfl) (rfl) dX8_quietHours_31
  · have c_1 := b1_n0.mp c_1
    exact absurd c_1 (in_x hS (by omega) hbad)
set_option maxHeartbeats 4000000 in
theorem c_X8_loudestStreet (l : Launch) (D : va_G) (tb : Nat → ClassId) (X : State → Prop) (z0 n : Nat) (mo : Nat) (F w av od sv sl nz ip ot : Nat → Int32) (M0 : me_M) (S B L P : Nat) (T : Nat)  (hO : ok1 S B L P T w) (hT0 : T ≤ 9999) : Met l yX8_loudestStreet (.code yX8_loudestStreet cX8_loudestStreet 3 (some .int) :: ws_all) ({ frames := 1, cells := 0, slots := 0, locals := 21 } : Room) (me_Pc [.ref mo] D tb X z0 (mq tb mo F w av od sv sl nz ip ot M0) n) (me_Qi D z0 (loudF w S) (mq tb mo (upd F 0 0) w av od sv sl nz ip ot M0) n) 0 0 (me_A z0) := by
  refine me_open (by decide) (Nat.le_of_ble_eq_true rfl) ?_
  intro p e s m args below meth c ls hC hr hlk hnm hM hl
  have hl : lv_has ls 3 [(0, .ref mo)] := hl
  have hx := hC.1
  have hb := hC.2.1
  have hw := hC.2.2.2.2.1
  obtain ⟨hW, hZ, hT⟩ := id hO
  obtain ⟨hS, hS0, hB, hB0, hL, hL0, hP, hP0, hwb, hwl⟩ := id hW
  have hT2 : T ≤ 20000 := by omega
  refine lv_iconst (v := (-1)) hx hb dX8_loudestStreet_0 (by decide) ?_
  refine lv_istore_n (lv' := [(1, .int (-1)), (0, .ref mo)]) hx hb dX8_loudestStreet_1 rfl hl (by decide) rfl (fun ls hl => ?_)
  refine lv_iconst (v := 0) hx hb dX8_loudestStreet_2 (by decide) ?_
  refine lv_istore_n (lv' := [(2, .int 0), (1, .int (-1)), (0, .ref mo)]) hx hb dX8_loudestStreet_3 rfl hl (by decide) rfl (fun ls hl => ?_)
  have lp_4 : ∀ (r : Nat) (k : Nat) (bst : Int32) (H : Heap) (locs : List Loc) (ls : Array Slot), (k + r = S) → (loudF w S = bsF (fun k => w (9 + 10 * k + 2)) r k bst) → (bst = -1 ∨ ∃ j, j < k ∧ bst = nI j) → me_at D z0 (mq tb mo F w av od sv sl nz ip ot M0) n s H locs → lv_has ls 3 [(0, .ref mo), (1, .int bst), (2, .int (nI k))] → W p l e (({ frames := 1, cells := 0, slots := 0, locals := 21 } : Room)) s m args below meth c H locs 0 0 (MQ below (me_Qi D z0 (loudF w S) (mq tb mo (upd F 0 0) w av od sv sl nz ip ot M0) n) args s 0 0 (me_A z0)) (F0 m 4 ls []) := by
    intro r
    refine Nat.strongRecOn r ?_
    intro r ih_4 k bst H locs ls hk hq hbb hM hl
    refine lv_iload_n hx hb dX8_loudestStreet_4 rfl (lv_at hl 2 rfl) ?_
    refine lv_aload_n hx hb dX8_loudestStreet_5 rfl (lv_at hl 0 rfl) ?_
    refine fg_X8_13 hC hM mq_F rfl dX8_loudestStreet_6 ?_
    refine lv_iconst (v := 3) hx hb dX8_loudestStreet_9 (by decide) ?_
    refine me_iald (k := 3) hC hM mq_w (nx_c 3) (by omega) (by decide) dX8_loudestStreet_10 ?_
    refine lv_icmp_ge (tgt := 56) hx hb dX8_loudestStreet_11 (by decide) (fun c_1 => ?_) (fun c_1 => ?_)
    · have c_1 := (br_le hS rfl (by omega) (by omega)).mp c_1
      refine lv_aload_n hx hb dX8_loudestStreet_56 rfl (lv_at hl 0 rfl) ?_
      refine lv_iload_n hx hb dX8_loudestStreet_57 rfl (lv_at hl 1 rfl) ?_
      refine me_callVi (As := [.int bst]) (rest := []) hC hl.1 hM (c_X8_told l D tb X z0 n mo F w av od sv sl nz ip ot M0 bst ) (kv_X8_271 hw rfl rfl ⟨Nat.le_of_ble_eq_true rfl, Nat.le_of_ble_eq_true rfl⟩) rfl rfl mq_F rfl (Nat.le_of_ble_eq_true rfl) dX8_loudestStreet_58 ⟨Nat.le_of_ble_eq_true rfl, Nat.le_of_ble_eq_true rfl⟩ (fun H locs hM => ?_)
      exact me_iret hC hr hlk hM (by rw [hq, show r = 0 by omega]; rfl) (rfl) (rfl) dX8_loudestStreet_61
    · have c_1 := (not_congr (br_le hS rfl (by omega) (by omega))).mp c_1
      obtain ⟨r1, rfl⟩ : ∃ r1, r = r1 + 1 := ⟨r - 1, by omega⟩
      refine lv_iload_n hx hb dX8_loudestStreet_14 rfl (lv_at hl 1 rfl) ?_
      refine lv_iconst (v := (-1)) hx hb dX8_loudestStreet_15 (by decide) ?_
      refine lv_icmp_eq (tgt := 44) hx hb dX8_loudestStreet_16 (by decide) (fun c_2 => ?_) (fun c_2 => ?_)
      · refine lv_iload_n hx hb dX8_loudestStreet_44 rfl (lv_at hl 2 rfl) ?_
        refine lv_goto (tgt := 49) hx hb dX8_loudestStreet_45 (by decide) ?_
        refine lv_istore_n (lv' := [(1, .int (nI k)), (0, .ref mo), (2, .int (nI k))]) hx hb dX8_loudestStreet_49 rfl hl (by decide) rfl (fun ls hl => ?_)
        refine lv_iinc (v := nI (k + 1)) (lv' := [(2, .int (nI (k + 1))), (1, .int (nI k)), (0, .ref mo)]) hx hb dX8_loudestStreet_50 hl (k := 2) rfl (nx_add rfl rfl) (by decide) rfl (fun ls hl => ?_)
        refine lv_goto (tgt := 4) hx hb dX8_loudestStreet_53 (by decide) ?_
        exact ih_4 r1 (by omega) (k + 1) (nI k) _ _ _ (by omega) (by rw [hq]; show bsF (fun k => w (9 + 10 * k + 2)) r1 (k + 1) (if bst = -1 ∨ (fun k => w (9 + 10 * k + 2)) bst.toNatClampNeg < (fun k => w (9 + 10 * k + 2)) k then nI k else bst) = _; rw [if_pos (Or.inl c_2)]) (Or.inr ⟨k, by omega, rfl⟩) hM (lv_sub hl [2, 1, 0] rfl)
      · obtain ⟨jb, hjb0, hjb⟩ := hbb.resolve_left c_2
        have hjc : bst.toNatClampNeg = jb := by rw [hjb]; exact nI_clamp (by omega)
        refine lv_aload_n hx hb dX8_loudestStreet_19 rfl (lv_at hl 0 rfl) ?_
        refine fg_X8_13 hC hM mq_F rfl dX8_loudestStreet_20 ?_
        refine lv_iload_n hx hb dX8_loudestStreet_23 rfl (lv_at hl 2 rfl) ?_
        refine me_callSi (As := [.int (nI k)]) (rest := [.ref (mo + 2)]) hC hl.1 hM (c_X8_s l D tb X z0 n _ k ) (ks_X8_71 hw rfl rfl ⟨Nat.le_of_ble_eq_true rfl, Nat.le_of_ble_eq_true rfl⟩) rfl rfl (Nat.le_of_ble_eq_true rfl) dX8_loudestStreet_24 ⟨Nat.le_of_ble_eq_true rfl, Nat.le_of_ble_eq_true rfl⟩ (fun H locs hM => ?_)
        refine lv_iconst (v := 2) hx hb dX8_loudestStreet_27 (by decide) ?_
        refine lv_iadd hx hb dX8_loudestStreet_28 ?_
        refine me_iald (k := 9 + 10 * k + 2) hC hM mq_w (nx_add rfl (nx_c 2)) (by omega) (by decide) dX8_loudestStreet_29 ?_
        refine lv_aload_n hx hb dX8_loudestStreet_30 rfl (lv_at hl 0 rfl) ?_
        refine fg_X8_13 hC hM mq_F rfl dX8_loudestStreet_31 ?_
        refine lv_iload_n hx hb dX8_loudestStreet_34 rfl (lv_at hl 1 rfl) ?_
        refine me_stk (st2 := [.int (nI jb), .ref (mo + 2), .int (w (9 + 10 * k + 2))]) (by rw [hjb]) ?_
        refine me_callSi (As := [.int (nI jb)]) (rest := [.ref (mo + 2), .int (w (9 + 10 * k + 2))]) hC hl.1 hM (c_X8_s l D tb X z0 n _ jb ) (ks_X8_71 hw rfl rfl ⟨Nat.le_of_ble_eq_true rfl, Nat.le_of_ble_eq_true rfl⟩) rfl rfl (Nat.le_of_ble_eq_true rfl) dX8_loudestStreet_35 ⟨Nat.le_of_ble_eq_true rfl, Nat.le_of_ble_eq_true rfl⟩ (fun H locs hM => ?_)
        refine lv_iconst (v := 2) hx hb dX8_loudestStreet_38 (by decide) ?_
        refine lv_iadd hx hb dX8_loudestStreet_39 ?_
        refine me_iald (k := 9 + 10 * jb + 2) hC hM mq_w (nx_add rfl (nx_c 2)) (by omega) (by decide) dX8_loudestStreet_40 ?_
        refine lv_icmp_le (tgt := 48) hx hb dX8_loudestStreet_41 (by decide) (fun c_3 => ?_) (fun c_3 => ?_)
        · have c_3q := c_3
          have c_3 := Int32.not_lt.mpr c_3
          refine lv_iload_n hx hb dX8_loudestStreet_48 rfl (lv_at hl 1 rfl) ?_
          refine lv_istore_n (lv' := [(1, .int bst), (0, .ref mo), (2, .int (nI k))]) hx hb dX8_loudestStreet_49 rfl hl (by decide) rfl (fun ls hl => ?_)
          refine lv_iinc (v := nI (k + 1)) (lv' := [(2, .int (nI (k + 1))), (1, .int bst), (0, .ref mo)]) hx hb dX8_loudestStreet_50 hl (k := 2) rfl (nx_add rfl rfl) (by decide) rfl (fun ls hl => ?_)
          refine lv_goto (tgt := 4) hx hb dX8_loudestStreet_53 (by decide) ?_
          exact ih_4 r1 (by omega) (k + 1) bst _ _ _ (by omega) (by rw [hq]; show bsF (fun k => w (9 + 10 * k + 2)) r1 (k + 1) (if bst = -1 ∨ (fun k => w (9 + 10 * k + 2)) bst.toNatClampNeg < (fun k => w (9 + 10 * k + 2)) k then nI k else bst) = _; rw [if_neg (fun z => z.elim c_2 (fun z => by rw [hjc] at z; exact c_3 z))]) (hbb.imp id (fun ⟨j, a, b⟩ => ⟨j, by omega, b⟩)) hM (lv_sub hl [2, 1, 0] rfl)
        · have c_3q := c_3
          have c_3 := Int32.not_le.mp c_3
          refine lv_iload_n hx hb dX8_loudestStreet_44 rfl (lv_at hl 2 rfl) ?_
          refine lv_goto (tgt := 49) hx hb dX8_loudestStreet_45 (by decide) ?_
          refine lv_istore_n (lv' := [(1, .int (nI k)), (0, .ref mo), (2, .int (nI k))]) hx hb dX8_loudestStreet_49 rfl hl (by decide) rfl (fun ls hl => ?_)
          refine lv_iinc (v := nI (k + 1)) (lv' := [(2, .int (nI (k + 1))), (1, .int (nI k)), (0, .ref mo)]) hx hb dX8_loudestStreet_50 hl (k := 2) rfl (nx_add rfl rfl) (by decide) rfl (fun ls hl => ?_)
          refine lv_goto (tgt := 4) hx hb dX8_loudestStreet_53 (by decide) ?_
          exact ih_4 r1 (by omega) (k + 1) (nI k) _ _ _ (by omega) (by rw [hq]; show bsF (fun k => w (9 + 10 * k + 2)) r1 (k + 1) (if bst = -1 ∨ (fun k => w (9 + 10 * k + 2)) bst.toNatClampNeg < (fun k => w (9 + 10 * k + 2)) k then nI k else bst) = _; rw [if_pos (Or.inr (by rw [hjc]; exact c_3))]) (Or.inr ⟨k, by omega, rfl⟩) hM (lv_sub hl [2, 1, 0] rfl)
  exact lp_4 S 0 (-1) _ _ _ (by omega) rfl (Or.inl rfl) hM (lv_sub hl [2, 1, 0] rfl)
set_option maxHeartbeats 4000000 in
theorem c_X8_mostIll (l : Launch) (D : va_G) (tb : Nat → ClassId) (X : State → Prop) (z0 n : Nat) (mo : Nat) (F w av od sv sl nz ip ot : Nat → Int32) (M0 : me_M) (S B L P : Nat) (T : Nat)  (hO : ok1 S B L P T w) (hT0 : T ≤ 9999) : Met l yX8_mostIll (.code yX8_mostIll cX8_mostIll 3 (some .int) :: ws_all) ({ frames := 1, cells := 0, slots := 0, locals := 21 } : Room) (me_Pc [.ref mo] D tb X z0 (mq tb mo F w av od sv sl nz ip ot M0) n) (me_Qi D z0 (illF w B) (mq tb mo (upd F 0 0) w av od sv sl nz ip ot M0) n) 0 0 (me_A z0) := by
  refine me_open (by decide) (Nat.le_of_ble_eq_true rfl) ?_
  intro p e s m args below meth c ls hC hr hlk hnm hM hl
  have hl : lv_has ls 3 [(0, .ref mo)] := hl
  have hx := hC.1
  have hb := hC.2.1
  have hw := hC.2.2.2.2.1
  obtain ⟨hW, hZ, hT⟩ := id hO
  obtain ⟨hS, hS0, hB, hB0, hL, hL0, hP, hP0, hwb, hwl⟩ := id hW
  have hT2 : T ≤ 20000 := by omega
  refine lv_iconst (v := (-1)) hx hb dX8_mostIll_0 (by decide) ?_
  refine lv_istore_n (lv' := [(1, .int (-1)), (0, .ref mo)]) hx hb dX8_mostIll_1 rfl hl (by decide) rfl (fun ls hl => ?_)
  refine lv_iconst (v := 0) hx hb dX8_mostIll_2 (by decide) ?_
  refine lv_istore_n (lv' := [(2, .int 0), (1, .int (-1)), (0, .ref mo)]) hx hb dX8_mostIll_3 rfl hl (by decide) rfl (fun ls hl => ?_)
  have lp_4 : ∀ (r : Nat) (k : Nat) (bst : Int32) (H : Heap) (locs : List Loc) (ls : Array Slot), (k + r = B) → (illF w B = bsF (fun k => w (89 + 11 * k + 1)) r k bst) → (bst = -1 ∨ ∃ j, j < k ∧ bst = nI j) → me_at D z0 (mq tb mo F w av od sv sl nz ip ot M0) n s H locs → lv_has ls 3 [(0, .ref mo), (1, .int bst), (2, .int (nI k))] → W p l e (({ frames := 1, cells := 0, slots := 0, locals := 21 } : Room)) s m args below meth c H locs 0 0 (MQ below (me_Qi D z0 (illF w B) (mq tb mo (upd F 0 0) w av od sv sl nz ip ot M0) n) args s 0 0 (me_A z0)) (F0 m 4 ls []) := by
    intro r
    refine Nat.strongRecOn r ?_
    intro r ih_4 k bst H locs ls hk hq hbb hM hl
    refine lv_iload_n hx hb dX8_mostIll_4 rfl (lv_at hl 2 rfl) ?_
    refine lv_aload_n hx hb dX8_mostIll_5 rfl (lv_at hl 0 rfl) ?_
    refine fg_X8_13 hC hM mq_F rfl dX8_mostIll_6 ?_
    refine lv_iconst (v := 4) hx hb dX8_mostIll_9 (by decide) ?_
    refine me_iald (k := 4) hC hM mq_w (nx_c 4) (by omega) (by decide) dX8_mostIll_10 ?_
    refine lv_icmp_ge (tgt := 56) hx hb dX8_mostIll_11 (by decide) (fun c_1 => ?_) (fun c_1 => ?_)
    · have c_1 := (br_le hB rfl (by omega) (by omega)).mp c_1
      refine lv_aload_n hx hb dX8_mostIll_56 rfl (lv_at hl 0 rfl) ?_
      refine lv_iload_n hx hb dX8_mostIll_57 rfl (lv_at hl 1 rfl) ?_
      refine me_callVi (As := [.int bst]) (rest := []) hC hl.1 hM (c_X8_told l D tb X z0 n mo F w av od sv sl nz ip ot M0 bst ) (kv_X8_271 hw rfl rfl ⟨Nat.le_of_ble_eq_true rfl, Nat.le_of_ble_eq_true rfl⟩) rfl rfl mq_F rfl (Nat.le_of_ble_eq_true rfl) dX8_mostIll_58 ⟨Nat.le_of_ble_eq_true rfl, Nat.le_of_ble_eq_true rfl⟩ (fun H locs hM => ?_)
      exact me_iret hC hr hlk hM (by rw [hq, show r = 0 by omega]; rfl) (rfl) (rfl) dX8_mostIll_61
    · have c_1 := (not_congr (br_le hB rfl (by omega) (by omega))).mp c_1
      obtain ⟨r1, rfl⟩ : ∃ r1, r = r1 + 1 := ⟨r - 1, by omega⟩
      refine lv_iload_n hx hb dX8_mostIll_14 rfl (lv_at hl 1 rfl) ?_
      refine lv_iconst (v := (-1)) hx hb dX8_mostIll_15 (by decide) ?_
      refine lv_icmp_eq (tgt := 44) hx hb dX8_mostIll_16 (by decide) (fun c_2 => ?_) (fun c_2 => ?_)
      · refine lv_iload_n hx hb dX8_mostIll_44 rfl (lv_at hl 2 rfl) ?_
        refine lv_goto (tgt := 49) hx hb dX8_mostIll_45 (by decide) ?_
        refine lv_istore_n (lv' := [(1, .int (nI k)), (0, .ref mo), (2, .int (nI k))]) hx hb dX8_mostIll_49 rfl hl (by decide) rfl (fun ls hl => ?_)
        refine lv_iinc (v := nI (k + 1)) (lv' := [(2, .int (nI (k + 1))), (1, .int (nI k)), (0, .ref mo)]) hx hb dX8_mostIll_50 hl (k := 2) rfl (nx_add rfl rfl) (by decide) rfl (fun ls hl => ?_)
        refine lv_goto (tgt := 4) hx hb dX8_mostIll_53 (by decide) ?_
        exact ih_4 r1 (by omega) (k + 1) (nI k) _ _ _ (by omega) (by rw [hq]; show bsF (fun k => w (89 + 11 * k + 1)) r1 (k + 1) (if bst = -1 ∨ (fun k => w (89 + 11 * k + 1)) bst.toNatClampNeg < (fun k => w (89 + 11 * k + 1)) k then nI k else bst) = _; rw [if_pos (Or.inl c_2)]) (Or.inr ⟨k, by omega, rfl⟩) hM (lv_sub hl [2, 1, 0] rfl)
      · obtain ⟨jb, hjb0, hjb⟩ := hbb.resolve_left c_2
        have hjc : bst.toNatClampNeg = jb := by rw [hjb]; exact nI_clamp (by omega)
        refine lv_aload_n hx hb dX8_mostIll_19 rfl (lv_at hl 0 rfl) ?_
        refine fg_X8_13 hC hM mq_F rfl dX8_mostIll_20 ?_
        refine lv_iload_n hx hb dX8_mostIll_23 rfl (lv_at hl 2 rfl) ?_
        refine me_callSi (As := [.int (nI k)]) (rest := [.ref (mo + 2)]) hC hl.1 hM (c_X8_b l D tb X z0 n _ k ) (ks_X8_78 hw rfl rfl ⟨Nat.le_of_ble_eq_true rfl, Nat.le_of_ble_eq_true rfl⟩) rfl rfl (Nat.le_of_ble_eq_true rfl) dX8_mostIll_24 ⟨Nat.le_of_ble_eq_true rfl, Nat.le_of_ble_eq_true rfl⟩ (fun H locs hM => ?_)
        refine lv_iconst (v := 1) hx hb dX8_mostIll_27 (by decide) ?_
        refine lv_iadd hx hb dX8_mostIll_28 ?_
        refine me_iald (k := 89 + 11 * k + 1) hC hM mq_w (nx_add rfl (show (1 : Int32) = nI 1 from rfl)) (by omega) (by decide) dX8_mostIll_29 ?_
        refine lv_aload_n hx hb dX8_mostIll_30 rfl (lv_at hl 0 rfl) ?_
        refine fg_X8_13 hC hM mq_F rfl dX8_mostIll_31 ?_
        refine lv_iload_n hx hb dX8_mostIll_34 rfl (lv_at hl 1 rfl) ?_
        refine me_stk (st2 := [.int (nI jb), .ref (mo + 2), .int (w (89 + 11 * k + 1))]) (by rw [hjb]) ?_
        refine me_callSi (As := [.int (nI jb)]) (rest := [.ref (mo + 2), .int (w (89 + 11 * k + 1))]) hC hl.1 hM (c_X8_b l D tb X z0 n _ jb ) (ks_X8_78 hw rfl rfl ⟨Nat.le_of_ble_eq_true rfl, Nat.le_of_ble_eq_true rfl⟩) rfl rfl (Nat.le_of_ble_eq_true rfl) dX8_mostIll_35 ⟨Nat.le_of_ble_eq_true rfl, Nat.le_of_ble_eq_true rfl⟩ (fun H locs hM => ?_)
        refine lv_iconst (v := 1) hx hb dX8_mostIll_38 (by decide) ?_
        refine lv_iadd hx hb dX8_mostIll_39 ?_
        refine me_iald (k := 89 + 11 * jb + 1) hC hM mq_w (nx_add rfl (show (1 : Int32) = nI 1 from rfl)) (by omega) (by decide) dX8_mostIll_40 ?_
        refine lv_icmp_le (tgt := 48) hx hb dX8_mostIll_41 (by decide) (fun c_3 => ?_) (fun c_3 => ?_)
        · have c_3q := c_3
          have c_3 := Int32.not_lt.mpr c_3
          refine lv_iload_n hx hb dX8_mostIll_48 rfl (lv_at hl 1 rfl) ?_
          refine lv_istore_n (lv' := [(1, .int bst), (0, .ref mo), (2, .int (nI k))]) hx hb dX8_mostIll_49 rfl hl (by decide) rfl (fun ls hl => ?_)
          refine lv_iinc (v := nI (k + 1)) (lv' := [(2, .int (nI (k + 1))), (1, .int bst), (0, .ref mo)]) hx hb dX8_mostIll_50 hl (k := 2) rfl (nx_add rfl rfl) (by decide) rfl (fun ls hl => ?_)
          refine lv_goto (tgt := 4) hx hb dX8_mostIll_53 (by decide) ?_
          exact ih_4 r1 (by omega) (k + 1) bst _ _ _ (by omega) (by rw [hq]; show bsF (fun k => w (89 + 11 * k + 1)) r1 (k + 1) (if bst = -1 ∨ (fun k => w (89 + 11 * k + 1)) bst.toNatClampNeg < (fun k => w (89 + 11 * k + 1)) k then nI k else bst) = _; rw [if_neg (fun z => z.elim c_2 (fun z => by rw [hjc] at z; exact c_3 z))]) (hbb.imp id (fun ⟨j, a, b⟩ => ⟨j, by omega, b⟩)) hM (lv_sub hl [2, 1, 0] rfl)
        · have c_3q := c_3
          have c_3 := Int32.not_le.mp c_3
          refine lv_iload_n hx hb dX8_mostIll_44 rfl (lv_at hl 2 rfl) ?_
          refine lv_goto (tgt := 49) hx hb dX8_mostIll_45 (by decide) ?_
          refine lv_istore_n (lv' := [(1, .int (nI k)), (0, .ref mo), (2, .int (nI k))]) hx hb dX8_mostIll_49 rfl hl (by decide) rfl (fun ls hl => ?_)
          refine lv_iinc (v := nI (k + 1)) (lv' := [(2, .int (nI (k + 1))), (1, .int (nI k)), (0, .ref mo)]) hx hb dX8_mostIll_50 hl (k := 2) rfl (nx_add rfl rfl) (by decide) rfl (fun ls hl => ?_)
          refine lv_goto (tgt := 4) hx hb dX8_mostIll_53 (by decide) ?_
          exact ih_4 r1 (by omega) (k + 1) (nI k) _ _ _ (by omega) (by rw [hq]; show bsF (fun k => w (89 + 11 * k + 1)) r1 (k + 1) (if bst = -1 ∨ (fun k => w (89 + 11 * k + 1)) bst.toNatClampNeg < (fun k => w (89 + 11 * k + 1)) k then nI k else bst) = _; rw [if_pos (Or.inr (by rw [hjc]; exact c_3))]) (Or.inr ⟨k, by omega, rfl⟩) hM (lv_sub hl [2, 1, 0] rfl)
  exact lp_4 B 0 (-1) _ _ _ (by omega) rfl (Or.inl rfl) hM (lv_sub hl [2, 1, 0] rfl)
set_option maxHeartbeats 4000000 in
theorem c_X8_ofBorrower (l : Launch) (D : va_G) (tb : Nat → ClassId) (X : State → Prop) (z0 n : Nat) (mo : Nat) (F w av od sv sl nz ip ot : Nat → Int32) (M0 : me_M) (S B L P : Nat) (T : Nat) (b j : Nat)  (hO : ok1 S B L P T w) (hT0 : T ≤ 9999) (hb9 : b < B) (hj9 : j < 5) : Met l yX8_ofBorrower (.code yX8_ofBorrower cX8_ofBorrower 3 (some .int) :: ws_all) ({ frames := 2, cells := 0, slots := 0, locals := 43 } : Room) (me_Pc [.ref mo, .int (nI b), .int (nI j)] D tb X z0 (mq tb mo F w av od sv sl nz ip ot M0) n) (me_Qi D z0 (w (89 + 11 * b + j)) (mq tb mo (upd F 0 0) w av od sv sl nz ip ot M0) n) 0 0 (me_A z0) := by
  refine me_open (by decide) (Nat.le_of_ble_eq_true rfl) ?_
  intro p e s m args below meth c ls hC hr hlk hnm hM hl
  have hl : lv_has ls 3 [(0, .ref mo), (1, .int (nI b)), (2, .int (nI j))] := hl
  have hx := hC.1
  have hb := hC.2.1
  have hw := hC.2.2.2.2.1
  obtain ⟨hW, hZ, hT⟩ := id hO
  obtain ⟨hS, hS0, hB, hB0, hL, hL0, hP, hP0, hwb, hwl⟩ := id hW
  have hT2 : T ≤ 20000 := by omega
  refine lv_aload_n hx hb dX8_ofBorrower_0 rfl (lv_at hl 0 rfl) ?_
  refine lv_iload_n hx hb dX8_ofBorrower_1 rfl (lv_at hl 1 rfl) ?_
  refine me_callVi (As := [.int (nI b)]) (rest := []) hC hl.1 hM (c_X8_isBorrower l D tb X z0 n mo F w av od sv sl nz ip ot M0 (nI b) ) (kv_X8_292 hw rfl rfl ⟨Nat.le_of_ble_eq_true rfl, Nat.le_of_ble_eq_true rfl⟩) rfl rfl mq_F rfl (Nat.le_of_ble_eq_true rfl) dX8_ofBorrower_2 ⟨Nat.le_of_ble_eq_true rfl, Nat.le_of_ble_eq_true rfl⟩ (fun H locs hM => ?_)
  refine lv_if_eq (tgt := 26) hx hb dX8_ofBorrower_5 (by decide) (fun c_1 => ?_) (fun c_1 => ?_)
  · have c_1 := b1_0.mp c_1
    exact absurd (in_c hB (by omega) hb9) c_1
  · have c_1 := b1_n0.mp c_1
    refine lv_aload_n hx hb dX8_ofBorrower_8 rfl (lv_at hl 0 rfl) ?_
    refine lv_aload_n hx hb dX8_ofBorrower_9 rfl (lv_at hl 0 rfl) ?_
    refine fg_X8_13 hC hM mq_F rfl dX8_ofBorrower_10 ?_
    refine lv_iload_n hx hb dX8_ofBorrower_13 rfl (lv_at hl 1 rfl) ?_
    refine me_callSi (As := [.int (nI b)]) (rest := [.ref (mo + 2), .ref mo]) hC hl.1 hM (c_X8_b l D tb X z0 n _ b ) (ks_X8_78 hw rfl rfl ⟨Nat.le_of_ble_eq_true rfl, Nat.le_of_ble_eq_true rfl⟩) rfl rfl (Nat.le_of_ble_eq_true rfl) dX8_ofBorrower_14 ⟨Nat.le_of_ble_eq_true rfl, Nat.le_of_ble_eq_true rfl⟩ (fun H locs hM => ?_)
    refine lv_iload_n hx hb dX8_ofBorrower_17 rfl (lv_at hl 2 rfl) ?_
    refine lv_iadd hx hb dX8_ofBorrower_18 ?_
    refine me_iald (k := 89 + 11 * b + j) hC hM mq_w (nx_add rfl rfl) (by omega) (by decide) dX8_ofBorrower_19 ?_
    refine me_callVi (As := [.int (w (89 + 11 * b + j))]) (rest := []) hC hl.1 hM (c_X8_told l D tb X z0 n mo F w av od sv sl nz ip ot M0 (w (89 + 11 * b + j)) ) (kv_X8_271 hw rfl rfl ⟨Nat.le_of_ble_eq_true rfl, Nat.le_of_ble_eq_true rfl⟩) rfl rfl mq_F rfl (Nat.le_of_ble_eq_true rfl) dX8_ofBorrower_20 ⟨Nat.le_of_ble_eq_true rfl, Nat.le_of_ble_eq_true rfl⟩ (fun H locs hM => ?_)
    refine lv_goto (tgt := 31) hx hb dX8_ofBorrower_23 (by decide) ?_
    exact me_iret hC hr hlk hM (by first | rfl | simp [c_1]) (rfl) (rfl) dX8_ofBorrower_31
set_option maxHeartbeats 4000000 in
theorem c_X8_ofBorrower_x1 (l : Launch) (D : va_G) (tb : Nat → ClassId) (X : State → Prop) (z0 n : Nat) (mo : Nat) (F w av od sv sl nz ip ot : Nat → Int32) (M0 : me_M) (S B L P : Nat) (T : Nat) (x y9 : Int32)  (hO : ok1 S B L P T w) (hT0 : T ≤ 9999) (hbad : x < 0 ∨ w 4 ≤ x) : Met l yX8_ofBorrower (.code yX8_ofBorrower cX8_ofBorrower 3 (some .int) :: ws_all) ({ frames := 2, cells := 0, slots := 0, locals := 43 } : Room) (me_Pc [.ref mo, .int x, .int y9] D tb X z0 (mq tb mo F w av od sv sl nz ip ot M0) n) (me_Qi D z0 0 (mq tb mo (upd F 0 1) w av od sv sl nz ip ot M0) n) 0 0 (me_A z0) := by
  refine me_open (by decide) (Nat.le_of_ble_eq_true rfl) ?_
  intro p e s m args below meth c ls hC hr hlk hnm hM hl
  have hl : lv_has ls 3 [(0, .ref mo), (1, .int x), (2, .int y9)] := hl
  have hx := hC.1
  have hb := hC.2.1
  have hw := hC.2.2.2.2.1
  obtain ⟨hW, hZ, hT⟩ := id hO
  obtain ⟨hS, hS0, hB, hB0, hL, hL0, hP, hP0, hwb, hwl⟩ := id hW
  have hT2 : T ≤ 20000 := by omega
  refine lv_aload_n hx hb dX8_ofBorrower_0 rfl (lv_at hl 0 rfl) ?_
  refine lv_iload_n hx hb dX8_ofBorrower_1 rfl (lv_at hl 1 rfl) ?_
  refine me_callVi (As := [.int x]) (rest := []) hC hl.1 hM (c_X8_isBorrower l D tb X z0 n mo F w av od sv sl nz ip ot M0 x ) (kv_X8_292 hw rfl rfl ⟨Nat.le_of_ble_eq_true rfl, Nat.le_of_ble_eq_true rfl⟩) rfl rfl mq_F rfl (Nat.le_of_ble_eq_true rfl) dX8_ofBorrower_2 ⟨Nat.le_of_ble_eq_true rfl, Nat.le_of_ble_eq_true rfl⟩ (fun H locs hM => ?_)
  refine lv_if_eq (tgt := 26) hx hb dX8_ofBorrower_5 (by decide) (fun c_1 => ?_) (fun c_1 => ?_)
  · have c_1 := b1_0.mp c_1
    refine lv_aload_n hx hb dX8_ofBorrower_26 rfl (lv_at hl 0 rfl) ?_
    refine lv_iconst (v := 1) hx hb dX8_ofBorrower_27 (by decide) ?_
    refine me_callVi (As := [.int 1]) (rest := []) hC hl.1 hM (c_X8_refuse l D tb X z0 n mo F w av od sv sl nz ip ot M0 (1 : Int32) ) (kv_X8_265 hw rfl rfl ⟨Nat.le_of_ble_eq_true rfl, Nat.le_of_ble_eq_true rfl⟩) rfl rfl mq_F rfl (Nat.le_of_ble_eq_true rfl) dX8_ofBorrower_28 ⟨Nat.le_of_ble_eq_true rfl, Nat.le_of_ble_eq_true rfl⟩ (fun H locs hM => ?_)
    exact me_iret hC hr hlk hM (rfl) (rfl) (rfl) dX8_ofBorrower_31
  · have c_1 := b1_n0.mp c_1
    exact absurd c_1 (in_x hB (by omega) hbad)
set_option maxHeartbeats 4000000 in
theorem c_X8_ofLoan (l : Launch) (D : va_G) (tb : Nat → ClassId) (X : State → Prop) (z0 n : Nat) (mo : Nat) (F w av od sv sl nz ip ot : Nat → Int32) (M0 : me_M) (S B L P : Nat) (T : Nat) (k j : Nat)  (hO : ok1 S B L P T w) (hT0 : T ≤ 9999) (hk : k < L) (hj9 : j < 5) : Met l yX8_ofLoan (.code yX8_ofLoan cX8_ofLoan 3 (some .int) :: ws_all) ({ frames := 2, cells := 0, slots := 0, locals := 43 } : Room) (me_Pc [.ref mo, .int (nI k), .int (nI j)] D tb X z0 (mq tb mo F w av od sv sl nz ip ot M0) n) (me_Qi D z0 (w (261 + 5 * k + j)) (mq tb mo (upd F 0 0) w av od sv sl nz ip ot M0) n) 0 0 (me_A z0) := by
  refine me_open (by decide) (Nat.le_of_ble_eq_true rfl) ?_
  intro p e s m args below meth c ls hC hr hlk hnm hM hl
  have hl : lv_has ls 3 [(0, .ref mo), (1, .int (nI k)), (2, .int (nI j))] := hl
  have hx := hC.1
  have hb := hC.2.1
  have hw := hC.2.2.2.2.1
  obtain ⟨hW, hZ, hT⟩ := id hO
  obtain ⟨hS, hS0, hB, hB0, hL, hL0, hP, hP0, hwb, hwl⟩ := id hW
  have hT2 : T ≤ 20000 := by omega
  refine lv_aload_n hx hb dX8_ofLoan_0 rfl (lv_at hl 0 rfl) ?_
  refine lv_iload_n hx hb dX8_ofLoan_1 rfl (lv_at hl 1 rfl) ?_
  refine me_callVi (As := [.int (nI k)]) (rest := []) hC hl.1 hM (c_X8_isLoan l D tb X z0 n mo F w av od sv sl nz ip ot M0 (nI k) ) (kv_X8_298 hw rfl rfl ⟨Nat.le_of_ble_eq_true rfl, Nat.le_of_ble_eq_true rfl⟩) rfl rfl mq_F rfl (Nat.le_of_ble_eq_true rfl) dX8_ofLoan_2 ⟨Nat.le_of_ble_eq_true rfl, Nat.le_of_ble_eq_true rfl⟩ (fun H locs hM => ?_)
  refine lv_if_eq (tgt := 26) hx hb dX8_ofLoan_5 (by decide) (fun c_1 => ?_) (fun c_1 => ?_)
  · have c_1 := b1_0.mp c_1
    exact absurd (in_c hL (by omega) hk) c_1
  · have c_1 := b1_n0.mp c_1
    refine lv_aload_n hx hb dX8_ofLoan_8 rfl (lv_at hl 0 rfl) ?_
    refine lv_aload_n hx hb dX8_ofLoan_9 rfl (lv_at hl 0 rfl) ?_
    refine fg_X8_13 hC hM mq_F rfl dX8_ofLoan_10 ?_
    refine lv_iload_n hx hb dX8_ofLoan_13 rfl (lv_at hl 1 rfl) ?_
    refine me_callSi (As := [.int (nI k)]) (rest := [.ref (mo + 2), .ref mo]) hC hl.1 hM (c_X8_l l D tb X z0 n _ k ) (ks_X8_93 hw rfl rfl ⟨Nat.le_of_ble_eq_true rfl, Nat.le_of_ble_eq_true rfl⟩) rfl rfl (Nat.le_of_ble_eq_true rfl) dX8_ofLoan_14 ⟨Nat.le_of_ble_eq_true rfl, Nat.le_of_ble_eq_true rfl⟩ (fun H locs hM => ?_)
    refine lv_iload_n hx hb dX8_ofLoan_17 rfl (lv_at hl 2 rfl) ?_
    refine lv_iadd hx hb dX8_ofLoan_18 ?_
    refine me_iald (k := 261 + 5 * k + j) hC hM mq_w (nx_add rfl rfl) (by omega) (by decide) dX8_ofLoan_19 ?_
    refine me_callVi (As := [.int (w (261 + 5 * k + j))]) (rest := []) hC hl.1 hM (c_X8_told l D tb X z0 n mo F w av od sv sl nz ip ot M0 (w (261 + 5 * k + j)) ) (kv_X8_271 hw rfl rfl ⟨Nat.le_of_ble_eq_true rfl, Nat.le_of_ble_eq_true rfl⟩) rfl rfl mq_F rfl (Nat.le_of_ble_eq_true rfl) dX8_ofLoan_20 ⟨Nat.le_of_ble_eq_true rfl, Nat.le_of_ble_eq_true rfl⟩ (fun H locs hM => ?_)
    refine lv_goto (tgt := 31) hx hb dX8_ofLoan_23 (by decide) ?_
    exact me_iret hC hr hlk hM (by first | rfl | simp [c_1]) (rfl) (rfl) dX8_ofLoan_31
set_option maxHeartbeats 4000000 in
theorem c_X8_ofLoan_x1 (l : Launch) (D : va_G) (tb : Nat → ClassId) (X : State → Prop) (z0 n : Nat) (mo : Nat) (F w av od sv sl nz ip ot : Nat → Int32) (M0 : me_M) (S B L P : Nat) (T : Nat) (x y9 : Int32)  (hO : ok1 S B L P T w) (hT0 : T ≤ 9999) (hbad : x < 0 ∨ w 6 ≤ x) : Met l yX8_ofLoan (.code yX8_ofLoan cX8_ofLoan 3 (some .int) :: ws_all) ({ frames := 2, cells := 0, slots := 0, locals := 43 } : Room) (me_Pc [.ref mo, .int x, .int y9] D tb X z0 (mq tb mo F w av od sv sl nz ip ot M0) n) (me_Qi D z0 0 (mq tb mo (upd F 0 1) w av od sv sl nz ip ot M0) n) 0 0 (me_A z0) := by
  refine me_open (by decide) (Nat.le_of_ble_eq_true rfl) ?_
  intro p e s m args below meth c ls hC hr hlk hnm hM hl
  have hl : lv_has ls 3 [(0, .ref mo), (1, .int x), (2, .int y9)] := hl
  have hx := hC.1
  have hb := hC.2.1
  have hw := hC.2.2.2.2.1
  obtain ⟨hW, hZ, hT⟩ := id hO
  obtain ⟨hS, hS0, hB, hB0, hL, hL0, hP, hP0, hwb, hwl⟩ := id hW
  have hT2 : T ≤ 20000 := by omega
  refine lv_aload_n hx hb dX8_ofLoan_0 rfl (lv_at hl 0 rfl) ?_
  refine lv_iload_n hx hb dX8_ofLoan_1 rfl (lv_at hl 1 rfl) ?_
  refine me_callVi (As := [.int x]) (rest := []) hC hl.1 hM (c_X8_isLoan l D tb X z0 n mo F w av od sv sl nz ip ot M0 x ) (kv_X8_298 hw rfl rfl ⟨Nat.le_of_ble_eq_true rfl, Nat.le_of_ble_eq_true rfl⟩) rfl rfl mq_F rfl (Nat.le_of_ble_eq_true rfl) dX8_ofLoan_2 ⟨Nat.le_of_ble_eq_true rfl, Nat.le_of_ble_eq_true rfl⟩ (fun H locs hM => ?_)
  refine lv_if_eq (tgt := 26) hx hb dX8_ofLoan_5 (by decide) (fun c_1 => ?_) (fun c_1 => ?_)
  · have c_1 := b1_0.mp c_1
    refine lv_aload_n hx hb dX8_ofLoan_26 rfl (lv_at hl 0 rfl) ?_
    refine lv_iconst (v := 1) hx hb dX8_ofLoan_27 (by decide) ?_
    refine me_callVi (As := [.int 1]) (rest := []) hC hl.1 hM (c_X8_refuse l D tb X z0 n mo F w av od sv sl nz ip ot M0 (1 : Int32) ) (kv_X8_265 hw rfl rfl ⟨Nat.le_of_ble_eq_true rfl, Nat.le_of_ble_eq_true rfl⟩) rfl rfl mq_F rfl (Nat.le_of_ble_eq_true rfl) dX8_ofLoan_28 ⟨Nat.le_of_ble_eq_true rfl, Nat.le_of_ble_eq_true rfl⟩ (fun H locs hM => ?_)
    exact me_iret hC hr hlk hM (rfl) (rfl) (rfl) dX8_ofLoan_31
  · have c_1 := b1_n0.mp c_1
    exact absurd c_1 (in_x hL (by omega) hbad)
set_option maxHeartbeats 4000000 in
theorem c_X8_streetOf (l : Launch) (D : va_G) (tb : Nat → ClassId) (X : State → Prop) (z0 n : Nat) (mo : Nat) (F w av od sv sl nz ip ot : Nat → Int32) (M0 : me_M) (S B L P : Nat) (T : Nat) (b : Nat)  (hO : ok1 S B L P T w) (hT0 : T ≤ 9999) (hb9 : b < B) : Met l yX8_streetOf (.code yX8_streetOf cX8_streetOf 2 (some .int) :: ws_all) ({ frames := 3, cells := 0, slots := 0, locals := 65 } : Room) (me_Pc [.ref mo, .int (nI b)] D tb X z0 (mq tb mo F w av od sv sl nz ip ot M0) n) (me_Qi D z0 (w (89 + 11 * b)) (mq tb mo (upd F 0 0) w av od sv sl nz ip ot M0) n) 0 0 (me_A z0) := by
  refine me_open (by decide) (Nat.le_of_ble_eq_true rfl) ?_
  intro p e s m args below meth c ls hC hr hlk hnm hM hl
  have hl : lv_has ls 2 [(0, .ref mo), (1, .int (nI b))] := hl
  have hx := hC.1
  have hb := hC.2.1
  have hw := hC.2.2.2.2.1
  obtain ⟨hW, hZ, hT⟩ := id hO
  obtain ⟨hS, hS0, hB, hB0, hL, hL0, hP, hP0, hwb, hwl⟩ := id hW
  have hT2 : T ≤ 20000 := by omega
  refine lv_aload_n hx hb dX8_streetOf_0 rfl (lv_at hl 0 rfl) ?_
  refine lv_iload_n hx hb dX8_streetOf_1 rfl (lv_at hl 1 rfl) ?_
  refine lv_iconst (v := 0) hx hb dX8_streetOf_2 (by decide) ?_
  refine me_stk (st2 := [.int (nI 0), .int (nI b), .ref mo]) (by rw [(show (0 : Int32) = nI 0 from rfl)]) ?_
  refine me_callVi (As := [.int (nI b), .int (nI 0)]) (rest := []) hC hl.1 hM (c_X8_ofBorrower l D tb X z0 n mo F w av od sv sl nz ip ot M0 S B L P T b 0 hO hT0 (by omega) (by omega)) (kv_X8_295 hw rfl rfl ⟨Nat.le_of_ble_eq_true rfl, Nat.le_of_ble_eq_true rfl⟩) rfl rfl mq_F rfl (Nat.le_of_ble_eq_true rfl) dX8_streetOf_3 ⟨Nat.le_of_ble_eq_true rfl, Nat.le_of_ble_eq_true rfl⟩ (fun H locs hM => ?_)
  exact me_iret hC hr hlk hM (rfl) (rfl) (rfl) dX8_streetOf_6
set_option maxHeartbeats 4000000 in
theorem c_X8_streetOf_x1 (l : Launch) (D : va_G) (tb : Nat → ClassId) (X : State → Prop) (z0 n : Nat) (mo : Nat) (F w av od sv sl nz ip ot : Nat → Int32) (M0 : me_M) (S B L P : Nat) (T : Nat) (x : Int32)  (hO : ok1 S B L P T w) (hT0 : T ≤ 9999) (hbad : x < 0 ∨ w 4 ≤ x) : Met l yX8_streetOf (.code yX8_streetOf cX8_streetOf 2 (some .int) :: ws_all) ({ frames := 3, cells := 0, slots := 0, locals := 65 } : Room) (me_Pc [.ref mo, .int x] D tb X z0 (mq tb mo F w av od sv sl nz ip ot M0) n) (me_Qi D z0 0 (mq tb mo (upd F 0 1) w av od sv sl nz ip ot M0) n) 0 0 (me_A z0) := by
  refine me_open (by decide) (Nat.le_of_ble_eq_true rfl) ?_
  intro p e s m args below meth c ls hC hr hlk hnm hM hl
  have hl : lv_has ls 2 [(0, .ref mo), (1, .int x)] := hl
  have hx := hC.1
  have hb := hC.2.1
  have hw := hC.2.2.2.2.1
  obtain ⟨hW, hZ, hT⟩ := id hO
  obtain ⟨hS, hS0, hB, hB0, hL, hL0, hP, hP0, hwb, hwl⟩ := id hW
  have hT2 : T ≤ 20000 := by omega
  refine lv_aload_n hx hb dX8_streetOf_0 rfl (lv_at hl 0 rfl) ?_
  refine lv_iload_n hx hb dX8_streetOf_1 rfl (lv_at hl 1 rfl) ?_
  refine lv_iconst (v := 0) hx hb dX8_streetOf_2 (by decide) ?_
  refine me_callVi (As := [.int x, .int 0]) (rest := []) hC hl.1 hM (c_X8_ofBorrower_x1 l D tb X z0 n mo F w av od sv sl nz ip ot M0 S B L P T x (0 : Int32) hO hT0 hbad) (kv_X8_295 hw rfl rfl ⟨Nat.le_of_ble_eq_true rfl, Nat.le_of_ble_eq_true rfl⟩) rfl rfl mq_F rfl (Nat.le_of_ble_eq_true rfl) dX8_streetOf_3 ⟨Nat.le_of_ble_eq_true rfl, Nat.le_of_ble_eq_true rfl⟩ (fun H locs hM => ?_)
  exact me_iret hC hr hlk hM (rfl) (rfl) (rfl) dX8_streetOf_6
set_option maxHeartbeats 4000000 in
theorem c_X8_illnessOf (l : Launch) (D : va_G) (tb : Nat → ClassId) (X : State → Prop) (z0 n : Nat) (mo : Nat) (F w av od sv sl nz ip ot : Nat → Int32) (M0 : me_M) (S B L P : Nat) (T : Nat) (b : Nat)  (hO : ok1 S B L P T w) (hT0 : T ≤ 9999) (hb9 : b < B) : Met l yX8_illnessOf (.code yX8_illnessOf cX8_illnessOf 2 (some .int) :: ws_all) ({ frames := 3, cells := 0, slots := 0, locals := 65 } : Room) (me_Pc [.ref mo, .int (nI b)] D tb X z0 (mq tb mo F w av od sv sl nz ip ot M0) n) (me_Qi D z0 (w (89 + 11 * b + 1)) (mq tb mo (upd F 0 0) w av od sv sl nz ip ot M0) n) 0 0 (me_A z0) := by
  refine me_open (by decide) (Nat.le_of_ble_eq_true rfl) ?_
  intro p e s m args below meth c ls hC hr hlk hnm hM hl
  have hl : lv_has ls 2 [(0, .ref mo), (1, .int (nI b))] := hl
  have hx := hC.1
  have hb := hC.2.1
  have hw := hC.2.2.2.2.1
  obtain ⟨hW, hZ, hT⟩ := id hO
  obtain ⟨hS, hS0, hB, hB0, hL, hL0, hP, hP0, hwb, hwl⟩ := id hW
  have hT2 : T ≤ 20000 := by omega
  refine lv_aload_n hx hb dX8_illnessOf_0 rfl (lv_at hl 0 rfl) ?_
  refine lv_iload_n hx hb dX8_illnessOf_1 rfl (lv_at hl 1 rfl) ?_
  refine lv_iconst (v := 1) hx hb dX8_illnessOf_2 (by decide) ?_
  refine me_stk (st2 := [.int (nI 1), .int (nI b), .ref mo]) (by rw [(show (1 : Int32) = nI 1 from rfl)]) ?_
  refine me_callVi (As := [.int (nI b), .int (nI 1)]) (rest := []) hC hl.1 hM (c_X8_ofBorrower l D tb X z0 n mo F w av od sv sl nz ip ot M0 S B L P T b 1 hO hT0 (by omega) (by omega)) (kv_X8_295 hw rfl rfl ⟨Nat.le_of_ble_eq_true rfl, Nat.le_of_ble_eq_true rfl⟩) rfl rfl mq_F rfl (Nat.le_of_ble_eq_true rfl) dX8_illnessOf_3 ⟨Nat.le_of_ble_eq_true rfl, Nat.le_of_ble_eq_true rfl⟩ (fun H locs hM => ?_)
  exact me_iret hC hr hlk hM (rfl) (rfl) (rfl) dX8_illnessOf_6
set_option maxHeartbeats 4000000 in
theorem c_X8_illnessOf_x1 (l : Launch) (D : va_G) (tb : Nat → ClassId) (X : State → Prop) (z0 n : Nat) (mo : Nat) (F w av od sv sl nz ip ot : Nat → Int32) (M0 : me_M) (S B L P : Nat) (T : Nat) (x : Int32)  (hO : ok1 S B L P T w) (hT0 : T ≤ 9999) (hbad : x < 0 ∨ w 4 ≤ x) : Met l yX8_illnessOf (.code yX8_illnessOf cX8_illnessOf 2 (some .int) :: ws_all) ({ frames := 3, cells := 0, slots := 0, locals := 65 } : Room) (me_Pc [.ref mo, .int x] D tb X z0 (mq tb mo F w av od sv sl nz ip ot M0) n) (me_Qi D z0 0 (mq tb mo (upd F 0 1) w av od sv sl nz ip ot M0) n) 0 0 (me_A z0) := by
  refine me_open (by decide) (Nat.le_of_ble_eq_true rfl) ?_
  intro p e s m args below meth c ls hC hr hlk hnm hM hl
  have hl : lv_has ls 2 [(0, .ref mo), (1, .int x)] := hl
  have hx := hC.1
  have hb := hC.2.1
  have hw := hC.2.2.2.2.1
  obtain ⟨hW, hZ, hT⟩ := id hO
  obtain ⟨hS, hS0, hB, hB0, hL, hL0, hP, hP0, hwb, hwl⟩ := id hW
  have hT2 : T ≤ 20000 := by omega
  refine lv_aload_n hx hb dX8_illnessOf_0 rfl (lv_at hl 0 rfl) ?_
  refine lv_iload_n hx hb dX8_illnessOf_1 rfl (lv_at hl 1 rfl) ?_
  refine lv_iconst (v := 1) hx hb dX8_illnessOf_2 (by decide) ?_
  refine me_callVi (As := [.int x, .int 1]) (rest := []) hC hl.1 hM (c_X8_ofBorrower_x1 l D tb X z0 n mo F w av od sv sl nz ip ot M0 S B L P T x (1 : Int32) hO hT0 hbad) (kv_X8_295 hw rfl rfl ⟨Nat.le_of_ble_eq_true rfl, Nat.le_of_ble_eq_true rfl⟩) rfl rfl mq_F rfl (Nat.le_of_ble_eq_true rfl) dX8_illnessOf_3 ⟨Nat.le_of_ble_eq_true rfl, Nat.le_of_ble_eq_true rfl⟩ (fun H locs hM => ?_)
  exact me_iret hC hr hlk hM (rfl) (rfl) (rfl) dX8_illnessOf_6
set_option maxHeartbeats 4000000 in
theorem c_X8_creditOf (l : Launch) (D : va_G) (tb : Nat → ClassId) (X : State → Prop) (z0 n : Nat) (mo : Nat) (F w av od sv sl nz ip ot : Nat → Int32) (M0 : me_M) (S B L P : Nat) (T : Nat) (b : Nat)  (hO : ok1 S B L P T w) (hT0 : T ≤ 9999) (hb9 : b < B) : Met l yX8_creditOf (.code yX8_creditOf cX8_creditOf 2 (some .int) :: ws_all) ({ frames := 3, cells := 0, slots := 0, locals := 65 } : Room) (me_Pc [.ref mo, .int (nI b)] D tb X z0 (mq tb mo F w av od sv sl nz ip ot M0) n) (me_Qi D z0 (w (89 + 11 * b + 2)) (mq tb mo (upd F 0 0) w av od sv sl nz ip ot M0) n) 0 0 (me_A z0) := by
  refine me_open (by decide) (Nat.le_of_ble_eq_true rfl) ?_
  intro p e s m args below meth c ls hC hr hlk hnm hM hl
  have hl : lv_has ls 2 [(0, .ref mo), (1, .int (nI b))] := hl
  have hx := hC.1
  have hb := hC.2.1
  have hw := hC.2.2.2.2.1
  obtain ⟨hW, hZ, hT⟩ := id hO
  obtain ⟨hS, hS0, hB, hB0, hL, hL0, hP, hP0, hwb, hwl⟩ := id hW
  have hT2 : T ≤ 20000 := by omega
  refine lv_aload_n hx hb dX8_creditOf_0 rfl (lv_at hl 0 rfl) ?_
  refine lv_iload_n hx hb dX8_creditOf_1 rfl (lv_at hl 1 rfl) ?_
  refine lv_iconst (v := 2) hx hb dX8_creditOf_2 (by decide) ?_
  refine me_stk (st2 := [.int (nI 2), .int (nI b), .ref mo]) (by rw [(nx_c 2)]) ?_
  refine me_callVi (As := [.int (nI b), .int (nI 2)]) (rest := []) hC hl.1 hM (c_X8_ofBorrower l D tb X z0 n mo F w av od sv sl nz ip ot M0 S B L P T b 2 hO hT0 (by omega) (by omega)) (kv_X8_295 hw rfl rfl ⟨Nat.le_of_ble_eq_true rfl, Nat.le_of_ble_eq_true rfl⟩) rfl rfl mq_F rfl (Nat.le_of_ble_eq_true rfl) dX8_creditOf_3 ⟨Nat.le_of_ble_eq_true rfl, Nat.le_of_ble_eq_true rfl⟩ (fun H locs hM => ?_)
  exact me_iret hC hr hlk hM (rfl) (rfl) (rfl) dX8_creditOf_6
set_option maxHeartbeats 4000000 in
theorem c_X8_creditOf_x1 (l : Launch) (D : va_G) (tb : Nat → ClassId) (X : State → Prop) (z0 n : Nat) (mo : Nat) (F w av od sv sl nz ip ot : Nat → Int32) (M0 : me_M) (S B L P : Nat) (T : Nat) (x : Int32)  (hO : ok1 S B L P T w) (hT0 : T ≤ 9999) (hbad : x < 0 ∨ w 4 ≤ x) : Met l yX8_creditOf (.code yX8_creditOf cX8_creditOf 2 (some .int) :: ws_all) ({ frames := 3, cells := 0, slots := 0, locals := 65 } : Room) (me_Pc [.ref mo, .int x] D tb X z0 (mq tb mo F w av od sv sl nz ip ot M0) n) (me_Qi D z0 0 (mq tb mo (upd F 0 1) w av od sv sl nz ip ot M0) n) 0 0 (me_A z0) := by
  refine me_open (by decide) (Nat.le_of_ble_eq_true rfl) ?_
  intro p e s m args below meth c ls hC hr hlk hnm hM hl
  have hl : lv_has ls 2 [(0, .ref mo), (1, .int x)] := hl
  have hx := hC.1
  have hb := hC.2.1
  have hw := hC.2.2.2.2.1
  obtain ⟨hW, hZ, hT⟩ := id hO
  obtain ⟨hS, hS0, hB, hB0, hL, hL0, hP, hP0, hwb, hwl⟩ := id hW
  have hT2 : T ≤ 20000 := by omega
  refine lv_aload_n hx hb dX8_creditOf_0 rfl (lv_at hl 0 rfl) ?_
  refine lv_iload_n hx hb dX8_creditOf_1 rfl (lv_at hl 1 rfl) ?_
  refine lv_iconst (v := 2) hx hb dX8_creditOf_2 (by decide) ?_
  refine me_callVi (As := [.int x, .int 2]) (rest := []) hC hl.1 hM (c_X8_ofBorrower_x1 l D tb X z0 n mo F w av od sv sl nz ip ot M0 S B L P T x (2 : Int32) hO hT0 hbad) (kv_X8_295 hw rfl rfl ⟨Nat.le_of_ble_eq_true rfl, Nat.le_of_ble_eq_true rfl⟩) rfl rfl mq_F rfl (Nat.le_of_ble_eq_true rfl) dX8_creditOf_3 ⟨Nat.le_of_ble_eq_true rfl, Nat.le_of_ble_eq_true rfl⟩ (fun H locs hM => ?_)
  exact me_iret hC hr hlk hM (rfl) (rfl) (rfl) dX8_creditOf_6
set_option maxHeartbeats 4000000 in
theorem c_X8_borrowerOf (l : Launch) (D : va_G) (tb : Nat → ClassId) (X : State → Prop) (z0 n : Nat) (mo : Nat) (F w av od sv sl nz ip ot : Nat → Int32) (M0 : me_M) (S B L P : Nat) (T : Nat) (k : Nat)  (hO : ok1 S B L P T w) (hT0 : T ≤ 9999) (hk : k < L) : Met l yX8_borrowerOf (.code yX8_borrowerOf cX8_borrowerOf 2 (some .int) :: ws_all) ({ frames := 3, cells := 0, slots := 0, locals := 65 } : Room) (me_Pc [.ref mo, .int (nI k)] D tb X z0 (mq tb mo F w av od sv sl nz ip ot M0) n) (me_Qi D z0 (w (261 + 5 * k)) (mq tb mo (upd F 0 0) w av od sv sl nz ip ot M0) n) 0 0 (me_A z0) := by
  refine me_open (by decide) (Nat.le_of_ble_eq_true rfl) ?_
  intro p e s m args below meth c ls hC hr hlk hnm hM hl
  have hl : lv_has ls 2 [(0, .ref mo), (1, .int (nI k))] := hl
  have hx := hC.1
  have hb := hC.2.1
  have hw := hC.2.2.2.2.1
  obtain ⟨hW, hZ, hT⟩ := id hO
  obtain ⟨hS, hS0, hB, hB0, hL, hL0, hP, hP0, hwb, hwl⟩ := id hW
  have hT2 : T ≤ 20000 := by omega
  refine lv_aload_n hx hb dX8_borrowerOf_0 rfl (lv_at hl 0 rfl) ?_
  refine lv_iload_n hx hb dX8_borrowerOf_1 rfl (lv_at hl 1 rfl) ?_
  refine lv_iconst (v := 0) hx hb dX8_borrowerOf_2 (by decide) ?_
  refine me_stk (st2 := [.int (nI 0), .int (nI k), .ref mo]) (by rw [(show (0 : Int32) = nI 0 from rfl)]) ?_
  refine me_callVi (As := [.int (nI k), .int (nI 0)]) (rest := []) hC hl.1 hM (c_X8_ofLoan l D tb X z0 n mo F w av od sv sl nz ip ot M0 S B L P T k 0 hO hT0 (by omega) (by omega)) (kv_X8_301 hw rfl rfl ⟨Nat.le_of_ble_eq_true rfl, Nat.le_of_ble_eq_true rfl⟩) rfl rfl mq_F rfl (Nat.le_of_ble_eq_true rfl) dX8_borrowerOf_3 ⟨Nat.le_of_ble_eq_true rfl, Nat.le_of_ble_eq_true rfl⟩ (fun H locs hM => ?_)
  exact me_iret hC hr hlk hM (rfl) (rfl) (rfl) dX8_borrowerOf_6
set_option maxHeartbeats 4000000 in
theorem c_X8_borrowerOf_x1 (l : Launch) (D : va_G) (tb : Nat → ClassId) (X : State → Prop) (z0 n : Nat) (mo : Nat) (F w av od sv sl nz ip ot : Nat → Int32) (M0 : me_M) (S B L P : Nat) (T : Nat) (x : Int32)  (hO : ok1 S B L P T w) (hT0 : T ≤ 9999) (hbad : x < 0 ∨ w 6 ≤ x) : Met l yX8_borrowerOf (.code yX8_borrowerOf cX8_borrowerOf 2 (some .int) :: ws_all) ({ frames := 3, cells := 0, slots := 0, locals := 65 } : Room) (me_Pc [.ref mo, .int x] D tb X z0 (mq tb mo F w av od sv sl nz ip ot M0) n) (me_Qi D z0 0 (mq tb mo (upd F 0 1) w av od sv sl nz ip ot M0) n) 0 0 (me_A z0) := by
  refine me_open (by decide) (Nat.le_of_ble_eq_true rfl) ?_
  intro p e s m args below meth c ls hC hr hlk hnm hM hl
  have hl : lv_has ls 2 [(0, .ref mo), (1, .int x)] := hl
  have hx := hC.1
  have hb := hC.2.1
  have hw := hC.2.2.2.2.1
  obtain ⟨hW, hZ, hT⟩ := id hO
  obtain ⟨hS, hS0, hB, hB0, hL, hL0, hP, hP0, hwb, hwl⟩ := id hW
  have hT2 : T ≤ 20000 := by omega
  refine lv_aload_n hx hb dX8_borrowerOf_0 rfl (lv_at hl 0 rfl) ?_
  refine lv_iload_n hx hb dX8_borrowerOf_1 rfl (lv_at hl 1 rfl) ?_
  refine lv_iconst (v := 0) hx hb dX8_borrowerOf_2 (by decide) ?_
  refine me_callVi (As := [.int x, .int 0]) (rest := []) hC hl.1 hM (c_X8_ofLoan_x1 l D tb X z0 n mo F w av od sv sl nz ip ot M0 S B L P T x (0 : Int32) hO hT0 hbad) (kv_X8_301 hw rfl rfl ⟨Nat.le_of_ble_eq_true rfl, Nat.le_of_ble_eq_true rfl⟩) rfl rfl mq_F rfl (Nat.le_of_ble_eq_true rfl) dX8_borrowerOf_3 ⟨Nat.le_of_ble_eq_true rfl, Nat.le_of_ble_eq_true rfl⟩ (fun H locs hM => ?_)
  exact me_iret hC hr hlk hM (rfl) (rfl) (rfl) dX8_borrowerOf_6
set_option maxHeartbeats 4000000 in
theorem c_X8_startOf (l : Launch) (D : va_G) (tb : Nat → ClassId) (X : State → Prop) (z0 n : Nat) (mo : Nat) (F w av od sv sl nz ip ot : Nat → Int32) (M0 : me_M) (S B L P : Nat) (T : Nat) (k : Nat)  (hO : ok1 S B L P T w) (hT0 : T ≤ 9999) (hk : k < L) : Met l yX8_startOf (.code yX8_startOf cX8_startOf 2 (some .int) :: ws_all) ({ frames := 3, cells := 0, slots := 0, locals := 65 } : Room) (me_Pc [.ref mo, .int (nI k)] D tb X z0 (mq tb mo F w av od sv sl nz ip ot M0) n) (me_Qi D z0 (w (261 + 5 * k + 1)) (mq tb mo (upd F 0 0) w av od sv sl nz ip ot M0) n) 0 0 (me_A z0) := by
  refine me_open (by decide) (Nat.le_of_ble_eq_true rfl) ?_
  intro p e s m args below meth c ls hC hr hlk hnm hM hl
  have hl : lv_has ls 2 [(0, .ref mo), (1, .int (nI k))] := hl
  have hx := hC.1
  have hb := hC.2.1
  have hw := hC.2.2.2.2.1
  obtain ⟨hW, hZ, hT⟩ := id hO
  obtain ⟨hS, hS0, hB, hB0, hL, hL0, hP, hP0, hwb, hwl⟩ := id hW
  have hT2 : T ≤ 20000 := by omega
  refine lv_aload_n hx hb dX8_startOf_0 rfl (lv_at hl 0 rfl) ?_
  refine lv_iload_n hx hb dX8_startOf_1 rfl (lv_at hl 1 rfl) ?_
  refine lv_iconst (v := 1) hx hb dX8_startOf_2 (by decide) ?_
  refine me_stk (st2 := [.int (nI 1), .int (nI k), .ref mo]) (by rw [(show (1 : Int32) = nI 1 from rfl)]) ?_
  refine me_callVi (As := [.int (nI k), .int (nI 1)]) (rest := []) hC hl.1 hM (c_X8_ofLoan l D tb X z0 n mo F w av od sv sl nz ip ot M0 S B L P T k 1 hO hT0 (by omega) (by omega)) (kv_X8_301 hw rfl rfl ⟨Nat.le_of_ble_eq_true rfl, Nat.le_of_ble_eq_true rfl⟩) rfl rfl mq_F rfl (Nat.le_of_ble_eq_true rfl) dX8_startOf_3 ⟨Nat.le_of_ble_eq_true rfl, Nat.le_of_ble_eq_true rfl⟩ (fun H locs hM => ?_)
  exact me_iret hC hr hlk hM (rfl) (rfl) (rfl) dX8_startOf_6
set_option maxHeartbeats 4000000 in
theorem c_X8_startOf_x1 (l : Launch) (D : va_G) (tb : Nat → ClassId) (X : State → Prop) (z0 n : Nat) (mo : Nat) (F w av od sv sl nz ip ot : Nat → Int32) (M0 : me_M) (S B L P : Nat) (T : Nat) (x : Int32)  (hO : ok1 S B L P T w) (hT0 : T ≤ 9999) (hbad : x < 0 ∨ w 6 ≤ x) : Met l yX8_startOf (.code yX8_startOf cX8_startOf 2 (some .int) :: ws_all) ({ frames := 3, cells := 0, slots := 0, locals := 65 } : Room) (me_Pc [.ref mo, .int x] D tb X z0 (mq tb mo F w av od sv sl nz ip ot M0) n) (me_Qi D z0 0 (mq tb mo (upd F 0 1) w av od sv sl nz ip ot M0) n) 0 0 (me_A z0) := by
  refine me_open (by decide) (Nat.le_of_ble_eq_true rfl) ?_
  intro p e s m args below meth c ls hC hr hlk hnm hM hl
  have hl : lv_has ls 2 [(0, .ref mo), (1, .int x)] := hl
  have hx := hC.1
  have hb := hC.2.1
  have hw := hC.2.2.2.2.1
  obtain ⟨hW, hZ, hT⟩ := id hO
  obtain ⟨hS, hS0, hB, hB0, hL, hL0, hP, hP0, hwb, hwl⟩ := id hW
  have hT2 : T ≤ 20000 := by omega
  refine lv_aload_n hx hb dX8_startOf_0 rfl (lv_at hl 0 rfl) ?_
  refine lv_iload_n hx hb dX8_startOf_1 rfl (lv_at hl 1 rfl) ?_
  refine lv_iconst (v := 1) hx hb dX8_startOf_2 (by decide) ?_
  refine me_callVi (As := [.int x, .int 1]) (rest := []) hC hl.1 hM (c_X8_ofLoan_x1 l D tb X z0 n mo F w av od sv sl nz ip ot M0 S B L P T x (1 : Int32) hO hT0 hbad) (kv_X8_301 hw rfl rfl ⟨Nat.le_of_ble_eq_true rfl, Nat.le_of_ble_eq_true rfl⟩) rfl rfl mq_F rfl (Nat.le_of_ble_eq_true rfl) dX8_startOf_3 ⟨Nat.le_of_ble_eq_true rfl, Nat.le_of_ble_eq_true rfl⟩ (fun H locs hM => ?_)
  exact me_iret hC hr hlk hM (rfl) (rfl) (rfl) dX8_startOf_6
set_option maxHeartbeats 4000000 in
theorem c_X8_lengthOf (l : Launch) (D : va_G) (tb : Nat → ClassId) (X : State → Prop) (z0 n : Nat) (mo : Nat) (F w av od sv sl nz ip ot : Nat → Int32) (M0 : me_M) (S B L P : Nat) (T : Nat) (k : Nat)  (hO : ok1 S B L P T w) (hT0 : T ≤ 9999) (hk : k < L) : Met l yX8_lengthOf (.code yX8_lengthOf cX8_lengthOf 2 (some .int) :: ws_all) ({ frames := 3, cells := 0, slots := 0, locals := 65 } : Room) (me_Pc [.ref mo, .int (nI k)] D tb X z0 (mq tb mo F w av od sv sl nz ip ot M0) n) (me_Qi D z0 (w (261 + 5 * k + 2)) (mq tb mo (upd F 0 0) w av od sv sl nz ip ot M0) n) 0 0 (me_A z0) := by
  refine me_open (by decide) (Nat.le_of_ble_eq_true rfl) ?_
  intro p e s m args below meth c ls hC hr hlk hnm hM hl
  have hl : lv_has ls 2 [(0, .ref mo), (1, .int (nI k))] := hl
  have hx := hC.1
  have hb := hC.2.1
  have hw := hC.2.2.2.2.1
  obtain ⟨hW, hZ, hT⟩ := id hO
  obtain ⟨hS, hS0, hB, hB0, hL, hL0, hP, hP0, hwb, hwl⟩ := id hW
  have hT2 : T ≤ 20000 := by omega
  refine lv_aload_n hx hb dX8_lengthOf_0 rfl (lv_at hl 0 rfl) ?_
  refine lv_iload_n hx hb dX8_lengthOf_1 rfl (lv_at hl 1 rfl) ?_
  refine lv_iconst (v := 2) hx hb dX8_lengthOf_2 (by decide) ?_
  refine me_stk (st2 := [.int (nI 2), .int (nI k), .ref mo]) (by rw [(nx_c 2)]) ?_
  refine me_callVi (As := [.int (nI k), .int (nI 2)]) (rest := []) hC hl.1 hM (c_X8_ofLoan l D tb X z0 n mo F w av od sv sl nz ip ot M0 S B L P T k 2 hO hT0 (by omega) (by omega)) (kv_X8_301 hw rfl rfl ⟨Nat.le_of_ble_eq_true rfl, Nat.le_of_ble_eq_true rfl⟩) rfl rfl mq_F rfl (Nat.le_of_ble_eq_true rfl) dX8_lengthOf_3 ⟨Nat.le_of_ble_eq_true rfl, Nat.le_of_ble_eq_true rfl⟩ (fun H locs hM => ?_)
  exact me_iret hC hr hlk hM (rfl) (rfl) (rfl) dX8_lengthOf_6
set_option maxHeartbeats 4000000 in
theorem c_X8_lengthOf_x1 (l : Launch) (D : va_G) (tb : Nat → ClassId) (X : State → Prop) (z0 n : Nat) (mo : Nat) (F w av od sv sl nz ip ot : Nat → Int32) (M0 : me_M) (S B L P : Nat) (T : Nat) (x : Int32)  (hO : ok1 S B L P T w) (hT0 : T ≤ 9999) (hbad : x < 0 ∨ w 6 ≤ x) : Met l yX8_lengthOf (.code yX8_lengthOf cX8_lengthOf 2 (some .int) :: ws_all) ({ frames := 3, cells := 0, slots := 0, locals := 65 } : Room) (me_Pc [.ref mo, .int x] D tb X z0 (mq tb mo F w av od sv sl nz ip ot M0) n) (me_Qi D z0 0 (mq tb mo (upd F 0 1) w av od sv sl nz ip ot M0) n) 0 0 (me_A z0) := by
  refine me_open (by decide) (Nat.le_of_ble_eq_true rfl) ?_
  intro p e s m args below meth c ls hC hr hlk hnm hM hl
  have hl : lv_has ls 2 [(0, .ref mo), (1, .int x)] := hl
  have hx := hC.1
  have hb := hC.2.1
  have hw := hC.2.2.2.2.1
  obtain ⟨hW, hZ, hT⟩ := id hO
  obtain ⟨hS, hS0, hB, hB0, hL, hL0, hP, hP0, hwb, hwl⟩ := id hW
  have hT2 : T ≤ 20000 := by omega
  refine lv_aload_n hx hb dX8_lengthOf_0 rfl (lv_at hl 0 rfl) ?_
  refine lv_iload_n hx hb dX8_lengthOf_1 rfl (lv_at hl 1 rfl) ?_
  refine lv_iconst (v := 2) hx hb dX8_lengthOf_2 (by decide) ?_
  refine me_callVi (As := [.int x, .int 2]) (rest := []) hC hl.1 hM (c_X8_ofLoan_x1 l D tb X z0 n mo F w av od sv sl nz ip ot M0 S B L P T x (2 : Int32) hO hT0 hbad) (kv_X8_301 hw rfl rfl ⟨Nat.le_of_ble_eq_true rfl, Nat.le_of_ble_eq_true rfl⟩) rfl rfl mq_F rfl (Nat.le_of_ble_eq_true rfl) dX8_lengthOf_3 ⟨Nat.le_of_ble_eq_true rfl, Nat.le_of_ble_eq_true rfl⟩ (fun H locs hM => ?_)
  exact me_iret hC hr hlk hM (rfl) (rfl) (rfl) dX8_lengthOf_6
set_option maxHeartbeats 4000000 in
theorem c_X8_priceOf (l : Launch) (D : va_G) (tb : Nat → ClassId) (X : State → Prop) (z0 n : Nat) (mo : Nat) (F w av od sv sl nz ip ot : Nat → Int32) (M0 : me_M) (S B L P : Nat) (T : Nat) (k : Nat)  (hO : ok1 S B L P T w) (hT0 : T ≤ 9999) (hk : k < L) : Met l yX8_priceOf (.code yX8_priceOf cX8_priceOf 2 (some .int) :: ws_all) ({ frames := 3, cells := 0, slots := 0, locals := 65 } : Room) (me_Pc [.ref mo, .int (nI k)] D tb X z0 (mq tb mo F w av od sv sl nz ip ot M0) n) (me_Qi D z0 (w (261 + 5 * k + 3)) (mq tb mo (upd F 0 0) w av od sv sl nz ip ot M0) n) 0 0 (me_A z0) := by
  refine me_open (by decide) (Nat.le_of_ble_eq_true rfl) ?_
  intro p e s m args below meth c ls hC hr hlk hnm hM hl
  have hl : lv_has ls 2 [(0, .ref mo), (1, .int (nI k))] := hl
  have hx := hC.1
  have hb := hC.2.1
  have hw := hC.2.2.2.2.1
  obtain ⟨hW, hZ, hT⟩ := id hO
  obtain ⟨hS, hS0, hB, hB0, hL, hL0, hP, hP0, hwb, hwl⟩ := id hW
  have hT2 : T ≤ 20000 := by omega
  refine lv_aload_n hx hb dX8_priceOf_0 rfl (lv_at hl 0 rfl) ?_
  refine lv_iload_n hx hb dX8_priceOf_1 rfl (lv_at hl 1 rfl) ?_
  refine lv_iconst (v := 3) hx hb dX8_priceOf_2 (by decide) ?_
  refine me_stk (st2 := [.int (nI 3), .int (nI k), .ref mo]) (by rw [(nx_c 3)]) ?_
  refine me_callVi (As := [.int (nI k), .int (nI 3)]) (rest := []) hC hl.1 hM (c_X8_ofLoan l D tb X z0 n mo F w av od sv sl nz ip ot M0 S B L P T k 3 hO hT0 (by omega) (by omega)) (kv_X8_301 hw rfl rfl ⟨Nat.le_of_ble_eq_true rfl, Nat.le_of_ble_eq_true rfl⟩) rfl rfl mq_F rfl (Nat.le_of_ble_eq_true rfl) dX8_priceOf_3 ⟨Nat.le_of_ble_eq_true rfl, Nat.le_of_ble_eq_true rfl⟩ (fun H locs hM => ?_)
  exact me_iret hC hr hlk hM (rfl) (rfl) (rfl) dX8_priceOf_6
set_option maxHeartbeats 4000000 in
theorem c_X8_priceOf_x1 (l : Launch) (D : va_G) (tb : Nat → ClassId) (X : State → Prop) (z0 n : Nat) (mo : Nat) (F w av od sv sl nz ip ot : Nat → Int32) (M0 : me_M) (S B L P : Nat) (T : Nat) (x : Int32)  (hO : ok1 S B L P T w) (hT0 : T ≤ 9999) (hbad : x < 0 ∨ w 6 ≤ x) : Met l yX8_priceOf (.code yX8_priceOf cX8_priceOf 2 (some .int) :: ws_all) ({ frames := 3, cells := 0, slots := 0, locals := 65 } : Room) (me_Pc [.ref mo, .int x] D tb X z0 (mq tb mo F w av od sv sl nz ip ot M0) n) (me_Qi D z0 0 (mq tb mo (upd F 0 1) w av od sv sl nz ip ot M0) n) 0 0 (me_A z0) := by
  refine me_open (by decide) (Nat.le_of_ble_eq_true rfl) ?_
  intro p e s m args below meth c ls hC hr hlk hnm hM hl
  have hl : lv_has ls 2 [(0, .ref mo), (1, .int x)] := hl
  have hx := hC.1
  have hb := hC.2.1
  have hw := hC.2.2.2.2.1
  obtain ⟨hW, hZ, hT⟩ := id hO
  obtain ⟨hS, hS0, hB, hB0, hL, hL0, hP, hP0, hwb, hwl⟩ := id hW
  have hT2 : T ≤ 20000 := by omega
  refine lv_aload_n hx hb dX8_priceOf_0 rfl (lv_at hl 0 rfl) ?_
  refine lv_iload_n hx hb dX8_priceOf_1 rfl (lv_at hl 1 rfl) ?_
  refine lv_iconst (v := 3) hx hb dX8_priceOf_2 (by decide) ?_
  refine me_callVi (As := [.int x, .int 3]) (rest := []) hC hl.1 hM (c_X8_ofLoan_x1 l D tb X z0 n mo F w av od sv sl nz ip ot M0 S B L P T x (3 : Int32) hO hT0 hbad) (kv_X8_301 hw rfl rfl ⟨Nat.le_of_ble_eq_true rfl, Nat.le_of_ble_eq_true rfl⟩) rfl rfl mq_F rfl (Nat.le_of_ble_eq_true rfl) dX8_priceOf_3 ⟨Nat.le_of_ble_eq_true rfl, Nat.le_of_ble_eq_true rfl⟩ (fun H locs hM => ?_)
  exact me_iret hC hr hlk hM (rfl) (rfl) (rfl) dX8_priceOf_6
set_option maxHeartbeats 4000000 in
theorem c_X8_statusOf (l : Launch) (D : va_G) (tb : Nat → ClassId) (X : State → Prop) (z0 n : Nat) (mo : Nat) (F w av od sv sl nz ip ot : Nat → Int32) (M0 : me_M) (S B L P : Nat) (T : Nat) (k : Nat)  (hO : ok1 S B L P T w) (hT0 : T ≤ 9999) (hk : k < L) : Met l yX8_statusOf (.code yX8_statusOf cX8_statusOf 2 (some .int) :: ws_all) ({ frames := 3, cells := 0, slots := 0, locals := 65 } : Room) (me_Pc [.ref mo, .int (nI k)] D tb X z0 (mq tb mo F w av od sv sl nz ip ot M0) n) (me_Qi D z0 (w (261 + 5 * k + 4)) (mq tb mo (upd F 0 0) w av od sv sl nz ip ot M0) n) 0 0 (me_A z0) := by
  refine me_open (by decide) (Nat.le_of_ble_eq_true rfl) ?_
  intro p e s m args below meth c ls hC hr hlk hnm hM hl
  have hl : lv_has ls 2 [(0, .ref mo), (1, .int (nI k))] := hl
  have hx := hC.1
  have hb := hC.2.1
  have hw := hC.2.2.2.2.1
  obtain ⟨hW, hZ, hT⟩ := id hO
  obtain ⟨hS, hS0, hB, hB0, hL, hL0, hP, hP0, hwb, hwl⟩ := id hW
  have hT2 : T ≤ 20000 := by omega
  refine lv_aload_n hx hb dX8_statusOf_0 rfl (lv_at hl 0 rfl) ?_
  refine lv_iload_n hx hb dX8_statusOf_1 rfl (lv_at hl 1 rfl) ?_
  refine lv_iconst (v := 4) hx hb dX8_statusOf_2 (by decide) ?_
  refine me_stk (st2 := [.int (nI 4), .int (nI k), .ref mo]) (by rw [(nx_c 4)]) ?_
  refine me_callVi (As := [.int (nI k), .int (nI 4)]) (rest := []) hC hl.1 hM (c_X8_ofLoan l D tb X z0 n mo F w av od sv sl nz ip ot M0 S B L P T k 4 hO hT0 (by omega) (by omega)) (kv_X8_301 hw rfl rfl ⟨Nat.le_of_ble_eq_true rfl, Nat.le_of_ble_eq_true rfl⟩) rfl rfl mq_F rfl (Nat.le_of_ble_eq_true rfl) dX8_statusOf_3 ⟨Nat.le_of_ble_eq_true rfl, Nat.le_of_ble_eq_true rfl⟩ (fun H locs hM => ?_)
  exact me_iret hC hr hlk hM (rfl) (rfl) (rfl) dX8_statusOf_6
set_option maxHeartbeats 4000000 in
theorem c_X8_statusOf_x1 (l : Launch) (D : va_G) (tb : Nat → ClassId) (X : State → Prop) (z0 n : Nat) (mo : Nat) (F w av od sv sl nz ip ot : Nat → Int32) (M0 : me_M) (S B L P : Nat) (T : Nat) (x : Int32)  (hO : ok1 S B L P T w) (hT0 : T ≤ 9999) (hbad : x < 0 ∨ w 6 ≤ x) : Met l yX8_statusOf (.code yX8_statusOf cX8_statusOf 2 (some .int) :: ws_all) ({ frames := 3, cells := 0, slots := 0, locals := 65 } : Room) (me_Pc [.ref mo, .int x] D tb X z0 (mq tb mo F w av od sv sl nz ip ot M0) n) (me_Qi D z0 0 (mq tb mo (upd F 0 1) w av od sv sl nz ip ot M0) n) 0 0 (me_A z0) := by
  refine me_open (by decide) (Nat.le_of_ble_eq_true rfl) ?_
  intro p e s m args below meth c ls hC hr hlk hnm hM hl
  have hl : lv_has ls 2 [(0, .ref mo), (1, .int x)] := hl
  have hx := hC.1
  have hb := hC.2.1
  have hw := hC.2.2.2.2.1
  obtain ⟨hW, hZ, hT⟩ := id hO
  obtain ⟨hS, hS0, hB, hB0, hL, hL0, hP, hP0, hwb, hwl⟩ := id hW
  have hT2 : T ≤ 20000 := by omega
  refine lv_aload_n hx hb dX8_statusOf_0 rfl (lv_at hl 0 rfl) ?_
  refine lv_iload_n hx hb dX8_statusOf_1 rfl (lv_at hl 1 rfl) ?_
  refine lv_iconst (v := 4) hx hb dX8_statusOf_2 (by decide) ?_
  refine me_callVi (As := [.int x, .int 4]) (rest := []) hC hl.1 hM (c_X8_ofLoan_x1 l D tb X z0 n mo F w av od sv sl nz ip ot M0 S B L P T x (4 : Int32) hO hT0 hbad) (kv_X8_301 hw rfl rfl ⟨Nat.le_of_ble_eq_true rfl, Nat.le_of_ble_eq_true rfl⟩) rfl rfl mq_F rfl (Nat.le_of_ble_eq_true rfl) dX8_statusOf_3 ⟨Nat.le_of_ble_eq_true rfl, Nat.le_of_ble_eq_true rfl⟩ (fun H locs hM => ?_)
  exact me_iret hC hr hlk hM (rfl) (rfl) (rfl) dX8_statusOf_6
set_option maxHeartbeats 4000000 in
theorem c_X8_loansWith (l : Launch) (D : va_G) (tb : Nat → ClassId) (X : State → Prop) (z0 n : Nat) (mo : Nat) (F w av od sv sl nz ip ot : Nat → Int32) (M0 : me_M) (S B L P : Nat) (T : Nat) (x : Nat)  (hO : ok1 S B L P T w) (hT0 : T ≤ 9999) (hx9 : x ≤ 5) : Met l yX8_loansWith (.code yX8_loansWith cX8_loansWith 4 (some .int) :: ws_all) ({ frames := 1, cells := 0, slots := 0, locals := 22 } : Room) (me_Pc [.ref mo, .int (nI x)] D tb X z0 (mq tb mo F w av od sv sl nz ip ot M0) n) (me_Qi D z0 (nI (co (fun k => w (261 + 5 * k + 4) = nI x) L 0)) (mq tb mo (upd F 0 0) w av od sv sl nz ip ot M0) n) 0 0 (me_A z0) := by
  refine me_open (by decide) (Nat.le_of_ble_eq_true rfl) ?_
  intro p e s m args below meth c ls hC hr hlk hnm hM hl
  have hl : lv_has ls 4 [(0, .ref mo), (1, .int (nI x))] := hl
  have hx := hC.1
  have hb := hC.2.1
  have hw := hC.2.2.2.2.1
  obtain ⟨hW, hZ, hT⟩ := id hO
  obtain ⟨hS, hS0, hB, hB0, hL, hL0, hP, hP0, hwb, hwl⟩ := id hW
  have hT2 : T ≤ 20000 := by omega
  refine lv_iload_n hx hb dX8_loansWith_0 rfl (lv_at hl 1 rfl) ?_
  refine lv_iconst (v := 0) hx hb dX8_loansWith_1 (by decide) ?_
  refine lv_iconst (v := 5) hx hb dX8_loansWith_2 (by decide) ?_
  refine me_callSi (As := [.int (nI x), .int 0, .int 5]) (rest := []) hC hl.1 hM (c_X8_in l D tb X z0 n _ (nI x) 0 5 ) (ks_X8_67 hw rfl rfl ⟨Nat.le_of_ble_eq_true rfl, Nat.le_of_ble_eq_true rfl⟩) rfl rfl (Nat.le_of_ble_eq_true rfl) dX8_loansWith_3 ⟨Nat.le_of_ble_eq_true rfl, Nat.le_of_ble_eq_true rfl⟩ (fun H locs hM => ?_)
  refine lv_if_ne (tgt := 15) hx hb dX8_loansWith_6 (by decide) (fun c_1 => ?_) (fun c_1 => ?_)
  · have c_1 := b1_n0.mp c_1
    refine lv_iconst (v := 0) hx hb dX8_loansWith_15 (by decide) ?_
    refine lv_istore_n (lv' := [(2, .int 0), (0, .ref mo), (1, .int (nI x))]) hx hb dX8_loansWith_16 rfl hl (by decide) rfl (fun ls hl => ?_)
    refine lv_iconst (v := 0) hx hb dX8_loansWith_17 (by decide) ?_
    refine lv_istore_n (lv' := [(3, .int 0), (2, .int 0), (0, .ref mo), (1, .int (nI x))]) hx hb dX8_loansWith_18 rfl hl (by decide) rfl (fun ls hl => ?_)
    have lp_19 : ∀ (r : Nat) (k : Nat) (ct : Nat) (H : Heap) (locs : List Loc) (ls : Array Slot), (k + r = L) → (co (fun k => w (261 + 5 * k + 4) = nI x) L 0 = ct + co (fun k => w (261 + 5 * k + 4) = nI x) r k) → me_at D z0 (mq tb mo F w av od sv sl nz ip ot M0) n s H locs → lv_has ls 4 [(0, .ref mo), (1, .int (nI x)), (2, .int (nI ct)), (3, .int (nI k))] → W p l e (({ frames := 1, cells := 0, slots := 0, locals := 22 } : Room)) s m args below meth c H locs 0 0 (MQ below (me_Qi D z0 (nI (co (fun k => w (261 + 5 * k + 4) = nI x) L 0)) (mq tb mo (upd F 0 0) w av od sv sl nz ip ot M0) n) args s 0 0 (me_A z0)) (F0 m 19 ls []) := by
      intro r
      refine Nat.strongRecOn r ?_
      intro r ih_19 k ct H locs ls hk hq hM hl
      refine lv_iload_n hx hb dX8_loansWith_19 rfl (lv_at hl 3 rfl) ?_
      refine lv_aload_n hx hb dX8_loansWith_20 rfl (lv_at hl 0 rfl) ?_
      refine fg_X8_13 hC hM mq_F rfl dX8_loansWith_21 ?_
      refine lv_bipush (v := 6) hx hb dX8_loansWith_24 (by decide) ?_
      refine me_iald (k := 6) hC hM mq_w (nx_c 6) (by omega) (by decide) dX8_loansWith_26 ?_
      refine lv_icmp_ge (tgt := 59) hx hb dX8_loansWith_27 (by decide) (fun c_2 => ?_) (fun c_2 => ?_)
      · have c_2 := (br_le hL rfl (by omega) (by omega)).mp c_2
        refine lv_aload_n hx hb dX8_loansWith_59 rfl (lv_at hl 0 rfl) ?_
        refine lv_iload_n hx hb dX8_loansWith_60 rfl (lv_at hl 2 rfl) ?_
        refine me_callVi (As := [.int (nI ct)]) (rest := []) hC hl.1 hM (c_X8_told l D tb X z0 n mo F w av od sv sl nz ip ot M0 (nI ct) ) (kv_X8_271 hw rfl rfl ⟨Nat.le_of_ble_eq_true rfl, Nat.le_of_ble_eq_true rfl⟩) rfl rfl mq_F rfl (Nat.le_of_ble_eq_true rfl) dX8_loansWith_61 ⟨Nat.le_of_ble_eq_true rfl, Nat.le_of_ble_eq_true rfl⟩ (fun H locs hM => ?_)
        exact me_iret hC hr hlk hM (by rw [hq, show r = 0 by omega]; rfl) (rfl) (rfl) dX8_loansWith_64
      · have c_2 := (not_congr (br_le hL rfl (by omega) (by omega))).mp c_2
        obtain ⟨r1, rfl⟩ : ∃ r1, r = r1 + 1 := ⟨r - 1, by omega⟩
        refine lv_iload_n hx hb dX8_loansWith_30 rfl (lv_at hl 2 rfl) ?_
        refine lv_aload_n hx hb dX8_loansWith_31 rfl (lv_at hl 0 rfl) ?_
        refine fg_X8_13 hC hM mq_F rfl dX8_loansWith_32 ?_
        refine lv_iload_n hx hb dX8_loansWith_35 rfl (lv_at hl 3 rfl) ?_
        refine me_callSi (As := [.int (nI k)]) (rest := [.ref (mo + 2), .int (nI ct)]) hC hl.1 hM (c_X8_l l D tb X z0 n _ k ) (ks_X8_93 hw rfl rfl ⟨Nat.le_of_ble_eq_true rfl, Nat.le_of_ble_eq_true rfl⟩) rfl rfl (Nat.le_of_ble_eq_true rfl) dX8_loansWith_36 ⟨Nat.le_of_ble_eq_true rfl, Nat.le_of_ble_eq_true rfl⟩ (fun H locs hM => ?_)
        refine lv_iconst (v := 4) hx hb dX8_loansWith_39 (by decide) ?_
        refine lv_iadd hx hb dX8_loansWith_40 ?_
        refine me_iald (k := 261 + 5 * k + 4) hC hM mq_w (nx_add rfl (nx_c 4)) (by omega) (by decide) dX8_loansWith_41 ?_
        refine lv_iload_n hx hb dX8_loansWith_42 rfl (lv_at hl 1 rfl) ?_
        refine lv_icmp_ne (tgt := 50) hx hb dX8_loansWith_43 (by decide) (fun c_3 => ?_) (fun c_3 => ?_)
        · refine lv_iconst (v := 0) hx hb dX8_loansWith_50 (by decide) ?_
          refine lv_iadd hx hb dX8_loansWith_51 ?_
          refine me_evi (y := nI ct) (nx_z rfl) ?_
          refine lv_istore_n (lv' := [(2, .int (nI ct)), (0, .ref mo), (1, .int (nI x)), (3, .int (nI k))]) hx hb dX8_loansWith_52 rfl hl (by decide) rfl (fun ls hl => ?_)
          refine lv_iinc (v := nI (k + 1)) (lv' := [(3, .int (nI (k + 1))), (2, .int (nI ct)), (0, .ref mo), (1, .int (nI x))]) hx hb dX8_loansWith_53 hl (k := 3) rfl (nx_add rfl rfl) (by decide) rfl (fun ls hl => ?_)
          refine lv_goto (tgt := 19) hx hb dX8_loansWith_56 (by decide) ?_
          exact ih_19 r1 (by omega) (k + 1) ct _ _ _ (by omega) (by rw [hq, co_f (P := fun k => w (261 + 5 * k + 4) = nI x) (k := k) (c_3)]) hM (lv_sub hl [2, 3, 1, 0] rfl)
        · refine lv_iconst (v := 1) hx hb dX8_loansWith_46 (by decide) ?_
          refine lv_goto (tgt := 51) hx hb dX8_loansWith_47 (by decide) ?_
          refine lv_iadd hx hb dX8_loansWith_51 ?_
          refine me_evi (y := nI (ct + 1)) (nx_add rfl (show (1 : Int32) = nI 1 from rfl)) ?_
          refine lv_istore_n (lv' := [(2, .int (nI (ct + 1))), (0, .ref mo), (1, .int (nI x)), (3, .int (nI k))]) hx hb dX8_loansWith_52 rfl hl (by decide) rfl (fun ls hl => ?_)
          refine lv_iinc (v := nI (k + 1)) (lv' := [(3, .int (nI (k + 1))), (2, .int (nI (ct + 1))), (0, .ref mo), (1, .int (nI x))]) hx hb dX8_loansWith_53 hl (k := 3) rfl (nx_add rfl rfl) (by decide) rfl (fun ls hl => ?_)
          refine lv_goto (tgt := 19) hx hb dX8_loansWith_56 (by decide) ?_
          exact ih_19 r1 (by omega) (k + 1) (ct + 1) _ _ _ (by omega) (by rw [hq, co_t (P := fun k => w (261 + 5 * k + 4) = nI x) (k := k) (c_3)]; omega) hM (lv_sub hl [2, 3, 1, 0] rfl)
    exact lp_19 L 0 0 _ _ _ (by omega) ((Nat.zero_add _).symm) hM (lv_sub hl [2, 3, 1, 0] rfl)
  · have c_1 := b1_0.mp c_1
    exact absurd (in_n (a := 0) (b := 5) (by omega) hx9 (by omega)) c_1
set_option maxHeartbeats 4000000 in
theorem c_X8_loansWith_x1 (l : Launch) (D : va_G) (tb : Nat → ClassId) (X : State → Prop) (z0 n : Nat) (mo : Nat) (F w av od sv sl nz ip ot : Nat → Int32) (M0 : me_M) (S B L P : Nat) (T : Nat) (x : Int32)  (hO : ok1 S B L P T w) (hT0 : T ≤ 9999) (hbad : x < 0 ∨ 5 < x) : Met l yX8_loansWith (.code yX8_loansWith cX8_loansWith 4 (some .int) :: ws_all) ({ frames := 1, cells := 0, slots := 0, locals := 22 } : Room) (me_Pc [.ref mo, .int x] D tb X z0 (mq tb mo F w av od sv sl nz ip ot M0) n) (me_Qi D z0 0 (mq tb mo (upd F 0 1) w av od sv sl nz ip ot M0) n) 0 0 (me_A z0) := by
  refine me_open (by decide) (Nat.le_of_ble_eq_true rfl) ?_
  intro p e s m args below meth c ls hC hr hlk hnm hM hl
  have hl : lv_has ls 4 [(0, .ref mo), (1, .int x)] := hl
  have hx := hC.1
  have hb := hC.2.1
  have hw := hC.2.2.2.2.1
  obtain ⟨hW, hZ, hT⟩ := id hO
  obtain ⟨hS, hS0, hB, hB0, hL, hL0, hP, hP0, hwb, hwl⟩ := id hW
  have hT2 : T ≤ 20000 := by omega
  refine lv_iload_n hx hb dX8_loansWith_0 rfl (lv_at hl 1 rfl) ?_
  refine lv_iconst (v := 0) hx hb dX8_loansWith_1 (by decide) ?_
  refine lv_iconst (v := 5) hx hb dX8_loansWith_2 (by decide) ?_
  refine me_callSi (As := [.int x, .int 0, .int 5]) (rest := []) hC hl.1 hM (c_X8_in l D tb X z0 n _ x 0 5 ) (ks_X8_67 hw rfl rfl ⟨Nat.le_of_ble_eq_true rfl, Nat.le_of_ble_eq_true rfl⟩) rfl rfl (Nat.le_of_ble_eq_true rfl) dX8_loansWith_3 ⟨Nat.le_of_ble_eq_true rfl, Nat.le_of_ble_eq_true rfl⟩ (fun H locs hM => ?_)
  refine lv_if_ne (tgt := 15) hx hb dX8_loansWith_6 (by decide) (fun c_1 => ?_) (fun c_1 => ?_)
  · have c_1 := b1_n0.mp c_1
    exact absurd c_1 (in_y hbad)
  · have c_1 := b1_0.mp c_1
    refine lv_aload_n hx hb dX8_loansWith_9 rfl (lv_at hl 0 rfl) ?_
    refine lv_iconst (v := 1) hx hb dX8_loansWith_10 (by decide) ?_
    refine me_callVi (As := [.int 1]) (rest := []) hC hl.1 hM (c_X8_refuse l D tb X z0 n mo F w av od sv sl nz ip ot M0 (1 : Int32) ) (kv_X8_265 hw rfl rfl ⟨Nat.le_of_ble_eq_true rfl, Nat.le_of_ble_eq_true rfl⟩) rfl rfl mq_F rfl (Nat.le_of_ble_eq_true rfl) dX8_loansWith_11 ⟨Nat.le_of_ble_eq_true rfl, Nat.le_of_ble_eq_true rfl⟩ (fun H locs hM => ?_)
    exact me_iret hC hr hlk hM (rfl) (rfl) (rfl) dX8_loansWith_14
set_option maxHeartbeats 4000000 in
theorem c_X8_overdueLoans (l : Launch) (D : va_G) (tb : Nat → ClassId) (X : State → Prop) (z0 n : Nat) (mo : Nat) (F w av od sv sl nz ip ot : Nat → Int32) (M0 : me_M) (S B L P : Nat) (T : Nat) (b : Nat)  (hO : ok1 S B L P T w) (hT0 : T ≤ 9999) (hb9 : b < B) : Met l yX8_overdueLoans (.code yX8_overdueLoans cX8_overdueLoans 4 (some .int) :: ws_all) ({ frames := 2, cells := 0, slots := 0, locals := 43 } : Room) (me_Pc [.ref mo, .int (nI b)] D tb X z0 (mq tb mo F w av od sv sl nz ip ot M0) n) (me_Qi D z0 (nI (ovN w L b)) (mq tb mo (upd F 0 0) w av od sv sl nz ip ot M0) n) 0 0 (me_A z0) := by
  refine me_open (by decide) (Nat.le_of_ble_eq_true rfl) ?_
  intro p e s m args below meth c ls hC hr hlk hnm hM hl
  have hl : lv_has ls 4 [(0, .ref mo), (1, .int (nI b))] := hl
  have hx := hC.1
  have hb := hC.2.1
  have hw := hC.2.2.2.2.1
  obtain ⟨hW, hZ, hT⟩ := id hO
  obtain ⟨hS, hS0, hB, hB0, hL, hL0, hP, hP0, hwb, hwl⟩ := id hW
  have hT2 : T ≤ 20000 := by omega
  refine lv_aload_n hx hb dX8_overdueLoans_0 rfl (lv_at hl 0 rfl) ?_
  refine lv_iload_n hx hb dX8_overdueLoans_1 rfl (lv_at hl 1 rfl) ?_
  refine me_callVi (As := [.int (nI b)]) (rest := []) hC hl.1 hM (c_X8_isBorrower l D tb X z0 n mo F w av od sv sl nz ip ot M0 (nI b) ) (kv_X8_292 hw rfl rfl ⟨Nat.le_of_ble_eq_true rfl, Nat.le_of_ble_eq_true rfl⟩) rfl rfl mq_F rfl (Nat.le_of_ble_eq_true rfl) dX8_overdueLoans_2 ⟨Nat.le_of_ble_eq_true rfl, Nat.le_of_ble_eq_true rfl⟩ (fun H locs hM => ?_)
  refine lv_if_ne (tgt := 14) hx hb dX8_overdueLoans_5 (by decide) (fun c_1 => ?_) (fun c_1 => ?_)
  · have c_1 := b1_n0.mp c_1
    refine lv_iconst (v := 0) hx hb dX8_overdueLoans_14 (by decide) ?_
    refine lv_istore_n (lv' := [(2, .int 0), (0, .ref mo), (1, .int (nI b))]) hx hb dX8_overdueLoans_15 rfl hl (by decide) rfl (fun ls hl => ?_)
    refine lv_iconst (v := 0) hx hb dX8_overdueLoans_16 (by decide) ?_
    refine lv_istore_n (lv' := [(3, .int 0), (2, .int 0), (0, .ref mo), (1, .int (nI b))]) hx hb dX8_overdueLoans_17 rfl hl (by decide) rfl (fun ls hl => ?_)
    have lp_18 : ∀ (r : Nat) (k : Nat) (ct : Nat) (H : Heap) (locs : List Loc) (ls : Array Slot), (k + r = L) → (ovN w L b = ct + co (fun k => w (261 + 5 * k) = nI b ∧ w (261 + 5 * k + 4) = 4) r k) → me_at D z0 (mq tb mo F w av od sv sl nz ip ot M0) n s H locs → lv_has ls 4 [(0, .ref mo), (1, .int (nI b)), (2, .int (nI ct)), (3, .int (nI k))] → W p l e (({ frames := 2, cells := 0, slots := 0, locals := 43 } : Room)) s m args below meth c H locs 0 0 (MQ below (me_Qi D z0 (nI (ovN w L b)) (mq tb mo (upd F 0 0) w av od sv sl nz ip ot M0) n) args s 0 0 (me_A z0)) (F0 m 18 ls []) := by
      intro r
      refine Nat.strongRecOn r ?_
      intro r ih_18 k ct H locs ls hk hq hM hl
      refine lv_iload_n hx hb dX8_overdueLoans_18 rfl (lv_at hl 3 rfl) ?_
      refine lv_aload_n hx hb dX8_overdueLoans_19 rfl (lv_at hl 0 rfl) ?_
      refine fg_X8_13 hC hM mq_F rfl dX8_overdueLoans_20 ?_
      refine lv_bipush (v := 6) hx hb dX8_overdueLoans_23 (by decide) ?_
      refine me_iald (k := 6) hC hM mq_w (nx_c 6) (by omega) (by decide) dX8_overdueLoans_25 ?_
      refine lv_icmp_ge (tgt := 73) hx hb dX8_overdueLoans_26 (by decide) (fun c_2 => ?_) (fun c_2 => ?_)
      · have c_2 := (br_le hL rfl (by omega) (by omega)).mp c_2
        refine lv_aload_n hx hb dX8_overdueLoans_73 rfl (lv_at hl 0 rfl) ?_
        refine lv_iload_n hx hb dX8_overdueLoans_74 rfl (lv_at hl 2 rfl) ?_
        refine me_callVi (As := [.int (nI ct)]) (rest := []) hC hl.1 hM (c_X8_told l D tb X z0 n mo F w av od sv sl nz ip ot M0 (nI ct) ) (kv_X8_271 hw rfl rfl ⟨Nat.le_of_ble_eq_true rfl, Nat.le_of_ble_eq_true rfl⟩) rfl rfl mq_F rfl (Nat.le_of_ble_eq_true rfl) dX8_overdueLoans_75 ⟨Nat.le_of_ble_eq_true rfl, Nat.le_of_ble_eq_true rfl⟩ (fun H locs hM => ?_)
        exact me_iret hC hr hlk hM (by rw [hq, show r = 0 by omega]; rfl) (rfl) (rfl) dX8_overdueLoans_78
      · have c_2 := (not_congr (br_le hL rfl (by omega) (by omega))).mp c_2
        obtain ⟨r1, rfl⟩ : ∃ r1, r = r1 + 1 := ⟨r - 1, by omega⟩
        refine lv_iload_n hx hb dX8_overdueLoans_29 rfl (lv_at hl 2 rfl) ?_
        refine lv_aload_n hx hb dX8_overdueLoans_30 rfl (lv_at hl 0 rfl) ?_
        refine fg_X8_13 hC hM mq_F rfl dX8_overdueLoans_31 ?_
        refine lv_iload_n hx hb dX8_overdueLoans_34 rfl (lv_at hl 3 rfl) ?_
        refine me_callSi (As := [.int (nI k)]) (rest := [.ref (mo + 2), .int (nI ct)]) hC hl.1 hM (c_X8_l l D tb X z0 n _ k ) (ks_X8_93 hw rfl rfl ⟨Nat.le_of_ble_eq_true rfl, Nat.le_of_ble_eq_true rfl⟩) rfl rfl (Nat.le_of_ble_eq_true rfl) dX8_overdueLoans_35 ⟨Nat.le_of_ble_eq_true rfl, Nat.le_of_ble_eq_true rfl⟩ (fun H locs hM => ?_)
        refine lv_iconst (v := 0) hx hb dX8_overdueLoans_38 (by decide) ?_
        refine lv_iadd hx hb dX8_overdueLoans_39 ?_
        refine me_iald (k := 261 + 5 * k) hC hM mq_w (nx_z rfl) (by omega) (by decide) dX8_overdueLoans_40 ?_
        refine lv_iload_n hx hb dX8_overdueLoans_41 rfl (lv_at hl 1 rfl) ?_
        refine lv_icmp_ne (tgt := 64) hx hb dX8_overdueLoans_42 (by decide) (fun c_3 => ?_) (fun c_3 => ?_)
        · refine lv_iconst (v := 0) hx hb dX8_overdueLoans_64 (by decide) ?_
          refine lv_iadd hx hb dX8_overdueLoans_65 ?_
          refine me_evi (y := nI ct) (nx_z rfl) ?_
          refine lv_istore_n (lv' := [(2, .int (nI ct)), (0, .ref mo), (1, .int (nI b)), (3, .int (nI k))]) hx hb dX8_overdueLoans_66 rfl hl (by decide) rfl (fun ls hl => ?_)
          refine lv_iinc (v := nI (k + 1)) (lv' := [(3, .int (nI (k + 1))), (2, .int (nI ct)), (0, .ref mo), (1, .int (nI b))]) hx hb dX8_overdueLoans_67 hl (k := 3) rfl (nx_add rfl rfl) (by decide) rfl (fun ls hl => ?_)
          refine lv_goto (tgt := 18) hx hb dX8_overdueLoans_70 (by decide) ?_
          exact ih_18 r1 (by omega) (k + 1) ct _ _ _ (by omega) (by rw [hq, co_f (P := fun k => w (261 + 5 * k) = nI b ∧ w (261 + 5 * k + 4) = 4) (k := k) (fun z => c_3 z.1)]) hM (lv_sub hl [2, 3, 1, 0] rfl)
        · refine lv_aload_n hx hb dX8_overdueLoans_45 rfl (lv_at hl 0 rfl) ?_
          refine fg_X8_13 hC hM mq_F rfl dX8_overdueLoans_46 ?_
          refine lv_iload_n hx hb dX8_overdueLoans_49 rfl (lv_at hl 3 rfl) ?_
          refine me_callSi (As := [.int (nI k)]) (rest := [.ref (mo + 2), .int (nI ct)]) hC hl.1 hM (c_X8_l l D tb X z0 n _ k ) (ks_X8_93 hw rfl rfl ⟨Nat.le_of_ble_eq_true rfl, Nat.le_of_ble_eq_true rfl⟩) rfl rfl (Nat.le_of_ble_eq_true rfl) dX8_overdueLoans_50 ⟨Nat.le_of_ble_eq_true rfl, Nat.le_of_ble_eq_true rfl⟩ (fun H locs hM => ?_)
          refine lv_iconst (v := 4) hx hb dX8_overdueLoans_53 (by decide) ?_
          refine lv_iadd hx hb dX8_overdueLoans_54 ?_
          refine me_iald (k := 261 + 5 * k + 4) hC hM mq_w (nx_add rfl (nx_c 4)) (by omega) (by decide) dX8_overdueLoans_55 ?_
          refine lv_iconst (v := 4) hx hb dX8_overdueLoans_56 (by decide) ?_
          refine lv_icmp_ne (tgt := 64) hx hb dX8_overdueLoans_57 (by decide) (fun c_4 => ?_) (fun c_4 => ?_)
          · refine lv_iconst (v := 0) hx hb dX8_overdueLoans_64 (by decide) ?_
            refine lv_iadd hx hb dX8_overdueLoans_65 ?_
            refine me_evi (y := nI ct) (nx_z rfl) ?_
            refine lv_istore_n (lv' := [(2, .int (nI ct)), (0, .ref mo), (1, .int (nI b)), (3, .int (nI k))]) hx hb dX8_overdueLoans_66 rfl hl (by decide) rfl (fun ls hl => ?_)
            refine lv_iinc (v := nI (k + 1)) (lv' := [(3, .int (nI (k + 1))), (2, .int (nI ct)), (0, .ref mo), (1, .int (nI b))]) hx hb dX8_overdueLoans_67 hl (k := 3) rfl (nx_add rfl rfl) (by decide) rfl (fun ls hl => ?_)
            refine lv_goto (tgt := 18) hx hb dX8_overdueLoans_70 (by decide) ?_
            exact ih_18 r1 (by omega) (k + 1) ct _ _ _ (by omega) (by rw [hq, co_f (P := fun k => w (261 + 5 * k) = nI b ∧ w (261 + 5 * k + 4) = 4) (k := k) (fun z => c_4 z.2)]) hM (lv_sub hl [2, 3, 1, 0] rfl)
          · refine lv_iconst (v := 1) hx hb dX8_overdueLoans_60 (by decide) ?_
            refine lv_goto (tgt := 65) hx hb dX8_overdueLoans_61 (by decide) ?_
            refine lv_iadd hx hb dX8_overdueLoans_65 ?_
            refine me_evi (y := nI (ct + 1)) (nx_add rfl (show (1 : Int32) = nI 1 from rfl)) ?_
            refine lv_istore_n (lv' := [(2, .int (nI (ct + 1))), (0, .ref mo), (1, .int (nI b)), (3, .int (nI k))]) hx hb dX8_overdueLoans_66 rfl hl (by decide) rfl (fun ls hl => ?_)
            refine lv_iinc (v := nI (k + 1)) (lv' := [(3, .int (nI (k + 1))), (2, .int (nI (ct + 1))), (0, .ref mo), (1, .int (nI b))]) hx hb dX8_overdueLoans_67 hl (k := 3) rfl (nx_add rfl rfl) (by decide) rfl (fun ls hl => ?_)
            refine lv_goto (tgt := 18) hx hb dX8_overdueLoans_70 (by decide) ?_
            exact ih_18 r1 (by omega) (k + 1) (ct + 1) _ _ _ (by omega) (by rw [hq, co_t (P := fun k => w (261 + 5 * k) = nI b ∧ w (261 + 5 * k + 4) = 4) (k := k) (⟨c_3, c_4⟩)]; omega) hM (lv_sub hl [2, 3, 1, 0] rfl)
    exact lp_18 L 0 0 _ _ _ (by omega) ((Nat.zero_add _).symm) hM (lv_sub hl [2, 3, 1, 0] rfl)
  · have c_1 := b1_0.mp c_1
    exact absurd (in_c hB (by omega) hb9) c_1
set_option maxHeartbeats 4000000 in
theorem c_X8_overdueLoans_x1 (l : Launch) (D : va_G) (tb : Nat → ClassId) (X : State → Prop) (z0 n : Nat) (mo : Nat) (F w av od sv sl nz ip ot : Nat → Int32) (M0 : me_M) (S B L P : Nat) (T : Nat) (x : Int32)  (hO : ok1 S B L P T w) (hT0 : T ≤ 9999) (hbad : x < 0 ∨ w 4 ≤ x) : Met l yX8_overdueLoans (.code yX8_overdueLoans cX8_overdueLoans 4 (some .int) :: ws_all) ({ frames := 2, cells := 0, slots := 0, locals := 43 } : Room) (me_Pc [.ref mo, .int x] D tb X z0 (mq tb mo F w av od sv sl nz ip ot M0) n) (me_Qi D z0 0 (mq tb mo (upd F 0 1) w av od sv sl nz ip ot M0) n) 0 0 (me_A z0) := by
  refine me_open (by decide) (Nat.le_of_ble_eq_true rfl) ?_
  intro p e s m args below meth c ls hC hr hlk hnm hM hl
  have hl : lv_has ls 4 [(0, .ref mo), (1, .int x)] := hl
  have hx := hC.1
  have hb := hC.2.1
  have hw := hC.2.2.2.2.1
  obtain ⟨hW, hZ, hT⟩ := id hO
  obtain ⟨hS, hS0, hB, hB0, hL, hL0, hP, hP0, hwb, hwl⟩ := id hW
  have hT2 : T ≤ 20000 := by omega
  refine lv_aload_n hx hb dX8_overdueLoans_0 rfl (lv_at hl 0 rfl) ?_
  refine lv_iload_n hx hb dX8_overdueLoans_1 rfl (lv_at hl 1 rfl) ?_
  refine me_callVi (As := [.int x]) (rest := []) hC hl.1 hM (c_X8_isBorrower l D tb X z0 n mo F w av od sv sl nz ip ot M0 x ) (kv_X8_292 hw rfl rfl ⟨Nat.le_of_ble_eq_true rfl, Nat.le_of_ble_eq_true rfl⟩) rfl rfl mq_F rfl (Nat.le_of_ble_eq_true rfl) dX8_overdueLoans_2 ⟨Nat.le_of_ble_eq_true rfl, Nat.le_of_ble_eq_true rfl⟩ (fun H locs hM => ?_)
  refine lv_if_ne (tgt := 14) hx hb dX8_overdueLoans_5 (by decide) (fun c_1 => ?_) (fun c_1 => ?_)
  · have c_1 := b1_n0.mp c_1
    exact absurd c_1 (in_x hB (by omega) hbad)
  · have c_1 := b1_0.mp c_1
    refine lv_aload_n hx hb dX8_overdueLoans_8 rfl (lv_at hl 0 rfl) ?_
    refine lv_iconst (v := 1) hx hb dX8_overdueLoans_9 (by decide) ?_
    refine me_callVi (As := [.int 1]) (rest := []) hC hl.1 hM (c_X8_refuse l D tb X z0 n mo F w av od sv sl nz ip ot M0 (1 : Int32) ) (kv_X8_265 hw rfl rfl ⟨Nat.le_of_ble_eq_true rfl, Nat.le_of_ble_eq_true rfl⟩) rfl rfl mq_F rfl (Nat.le_of_ble_eq_true rfl) dX8_overdueLoans_10 ⟨Nat.le_of_ble_eq_true rfl, Nat.le_of_ble_eq_true rfl⟩ (fun H locs hM => ?_)
    exact me_iret hC hr hlk hM (rfl) (rfl) (rfl) dX8_overdueLoans_13
set_option maxHeartbeats 4000000 in
theorem c_X8_holderOf (l : Launch) (D : va_G) (tb : Nat → ClassId) (X : State → Prop) (z0 n : Nat) (mo : Nat) (F w av od sv sl nz ip ot : Nat → Int32) (M0 : me_M) (S B L P : Nat) (T : Nat) (h0 : Nat)  (hO : ok1 S B L P T w) (hT0 : T ≤ 9999) (hh1 : T ≤ h0) (hh2 : h0 < T + 48) : Met l yX8_holderOf (.code yX8_holderOf cX8_holderOf 2 (some .int) :: ws_all) ({ frames := 4, cells := 0, slots := 0, locals := 85 } : Room) (me_Pc [.ref mo, .int (nI h0)] D tb X z0 (mq tb mo F w av od sv sl nz ip ot M0) n) (me_Qi D z0 (hoF w L (nI h0)) (mq tb mo (upd F 0 0) w av od sv sl nz ip ot M0) n) 0 0 (me_A z0) := by
  refine me_open (by decide) (Nat.le_of_ble_eq_true rfl) ?_
  intro p e s m args below meth c ls hC hr hlk hnm hM hl
  have hl : lv_has ls 2 [(0, .ref mo), (1, .int (nI h0))] := hl
  have hx := hC.1
  have hb := hC.2.1
  have hw := hC.2.2.2.2.1
  obtain ⟨hW, hZ, hT⟩ := id hO
  obtain ⟨hS, hS0, hB, hB0, hL, hL0, hP, hP0, hwb, hwl⟩ := id hW
  have hT2 : T ≤ 20000 := by omega
  refine lv_aload_n hx hb dX8_holderOf_0 rfl (lv_at hl 0 rfl) ?_
  refine lv_iload_n hx hb dX8_holderOf_1 rfl (lv_at hl 1 rfl) ?_
  refine me_callVi (As := [.int (nI h0)]) (rest := []) hC hl.1 hM (c_X8_inHorizon l D tb X z0 n mo F w av od sv sl nz ip ot M0 (nI h0) ) (kv_X8_84 hw rfl rfl ⟨Nat.le_of_ble_eq_true rfl, Nat.le_of_ble_eq_true rfl⟩) rfl rfl mq_F rfl (Nat.le_of_ble_eq_true rfl) dX8_holderOf_2 ⟨Nat.le_of_ble_eq_true rfl, Nat.le_of_ble_eq_true rfl⟩ (fun H locs hM => ?_)
  refine lv_if_eq (tgt := 20) hx hb dX8_holderOf_5 (by decide) (fun c_1 => ?_) (fun c_1 => ?_)
  · have c_1 := b1_0.mp c_1
    exact absurd (ih_c hT hT2 hh1 hh2) c_1
  · have c_1 := b1_n0.mp c_1
    refine lv_aload_n hx hb dX8_holderOf_8 rfl (lv_at hl 0 rfl) ?_
    refine lv_aload_n hx hb dX8_holderOf_9 rfl (lv_at hl 0 rfl) ?_
    refine lv_iload_n hx hb dX8_holderOf_10 rfl (lv_at hl 1 rfl) ?_
    refine me_callVi (As := [.int (nI h0)]) (rest := [.ref mo]) hC hl.1 hM (c_X8_holderAt l D tb X z0 n mo F w av od sv sl nz ip ot M0 L h0 hL hL0 (by omega) hZ) (kv_X8_109 hw rfl rfl ⟨Nat.le_of_ble_eq_true rfl, Nat.le_of_ble_eq_true rfl⟩) rfl rfl mq_F rfl (Nat.le_of_ble_eq_true rfl) dX8_holderOf_11 ⟨Nat.le_of_ble_eq_true rfl, Nat.le_of_ble_eq_true rfl⟩ (fun H locs hM => ?_)
    refine me_callVi (As := [.int (hoF w L (nI h0))]) (rest := []) hC hl.1 hM (c_X8_told l D tb X z0 n mo F w av od sv sl nz ip ot M0 (hoF w L (nI h0)) ) (kv_X8_271 hw rfl rfl ⟨Nat.le_of_ble_eq_true rfl, Nat.le_of_ble_eq_true rfl⟩) rfl rfl mq_F rfl (Nat.le_of_ble_eq_true rfl) dX8_holderOf_14 ⟨Nat.le_of_ble_eq_true rfl, Nat.le_of_ble_eq_true rfl⟩ (fun H locs hM => ?_)
    refine lv_goto (tgt := 25) hx hb dX8_holderOf_17 (by decide) ?_
    exact me_iret hC hr hlk hM (by first | rfl | simp [c_1]) (rfl) (rfl) dX8_holderOf_25
set_option maxHeartbeats 4000000 in
theorem c_X8_holderOf_x1 (l : Launch) (D : va_G) (tb : Nat → ClassId) (X : State → Prop) (z0 n : Nat) (mo : Nat) (F w av od sv sl nz ip ot : Nat → Int32) (M0 : me_M) (S B L P : Nat) (T : Nat) (x : Int32)  (hO : ok1 S B L P T w) (hT0 : T ≤ 9999) (hbad : x < w 2 ∨ w 2 + 48 ≤ x) : Met l yX8_holderOf (.code yX8_holderOf cX8_holderOf 2 (some .int) :: ws_all) ({ frames := 1, cells := 0, slots := 0, locals := 21 } : Room) (me_Pc [.ref mo, .int x] D tb X z0 (mq tb mo F w av od sv sl nz ip ot M0) n) (me_Qi D z0 0 (mq tb mo (upd F 0 1) w av od sv sl nz ip ot M0) n) 0 0 (me_A z0) := by
  refine me_open (by decide) (Nat.le_of_ble_eq_true rfl) ?_
  intro p e s m args below meth c ls hC hr hlk hnm hM hl
  have hl : lv_has ls 2 [(0, .ref mo), (1, .int x)] := hl
  have hx := hC.1
  have hb := hC.2.1
  have hw := hC.2.2.2.2.1
  obtain ⟨hW, hZ, hT⟩ := id hO
  obtain ⟨hS, hS0, hB, hB0, hL, hL0, hP, hP0, hwb, hwl⟩ := id hW
  have hT2 : T ≤ 20000 := by omega
  refine lv_aload_n hx hb dX8_holderOf_0 rfl (lv_at hl 0 rfl) ?_
  refine lv_iload_n hx hb dX8_holderOf_1 rfl (lv_at hl 1 rfl) ?_
  refine me_callVi (As := [.int x]) (rest := []) hC hl.1 hM (c_X8_inHorizon l D tb X z0 n mo F w av od sv sl nz ip ot M0 x ) (kv_X8_84 hw rfl rfl ⟨Nat.le_of_ble_eq_true rfl, Nat.le_of_ble_eq_true rfl⟩) rfl rfl mq_F rfl (Nat.le_of_ble_eq_true rfl) dX8_holderOf_2 ⟨Nat.le_of_ble_eq_true rfl, Nat.le_of_ble_eq_true rfl⟩ (fun H locs hM => ?_)
  refine lv_if_eq (tgt := 20) hx hb dX8_holderOf_5 (by decide) (fun c_1 => ?_) (fun c_1 => ?_)
  · have c_1 := b1_0.mp c_1
    refine lv_aload_n hx hb dX8_holderOf_20 rfl (lv_at hl 0 rfl) ?_
    refine lv_iconst (v := 1) hx hb dX8_holderOf_21 (by decide) ?_
    refine me_callVi (As := [.int 1]) (rest := []) hC hl.1 hM (c_X8_refuse l D tb X z0 n mo F w av od sv sl nz ip ot M0 (1 : Int32) ) (kv_X8_265 hw rfl rfl ⟨Nat.le_of_ble_eq_true rfl, Nat.le_of_ble_eq_true rfl⟩) rfl rfl mq_F rfl (Nat.le_of_ble_eq_true rfl) dX8_holderOf_22 ⟨Nat.le_of_ble_eq_true rfl, Nat.le_of_ble_eq_true rfl⟩ (fun H locs hM => ?_)
    exact me_iret hC hr hlk hM (rfl) (rfl) (rfl) dX8_holderOf_25
  · have c_1 := b1_n0.mp c_1
    exact absurd c_1 (ih_x hbad)
set_option maxHeartbeats 4000000 in
theorem c_X8_permitFor (l : Launch) (D : va_G) (tb : Nat → ClassId) (X : State → Prop) (z0 n : Nat) (mo : Nat) (F w av od sv sl nz ip ot : Nat → Int32) (M0 : me_M) (S B L P : Nat) (T : Nat) (s0 h0 : Nat)  (hO : ok1 S B L P T w) (hT0 : T ≤ 9999) (hs9 : s0 < S) (hh1 : T ≤ h0) (hh2 : h0 < T + 48) : Met l yX8_permitFor (.code yX8_permitFor cX8_permitFor 3 (some .int) :: ws_all) ({ frames := 3, cells := 0, slots := 0, locals := 68 } : Room) (me_Pc [.ref mo, .int (nI s0), .int (nI h0)] D tb X z0 (mq tb mo F w av od sv sl nz ip ot M0) n) (me_Qi D z0 (peF w P (nI s0) (nI h0)) (mq tb mo (upd F 0 0) w av od sv sl nz ip ot M0) n) 0 0 (me_A z0) := by
  refine me_open (by decide) (Nat.le_of_ble_eq_true rfl) ?_
  intro p e s m args below meth c ls hC hr hlk hnm hM hl
  have hl : lv_has ls 3 [(0, .ref mo), (1, .int (nI s0)), (2, .int (nI h0))] := hl
  have hx := hC.1
  have hb := hC.2.1
  have hw := hC.2.2.2.2.1
  obtain ⟨hW, hZ, hT⟩ := id hO
  obtain ⟨hS, hS0, hB, hB0, hL, hL0, hP, hP0, hwb, hwl⟩ := id hW
  have hT2 : T ≤ 20000 := by omega
  refine lv_aload_n hx hb dX8_permitFor_0 rfl (lv_at hl 0 rfl) ?_
  refine lv_iload_n hx hb dX8_permitFor_1 rfl (lv_at hl 1 rfl) ?_
  refine me_callVi (As := [.int (nI s0)]) (rest := []) hC hl.1 hM (c_X8_isStreet l D tb X z0 n mo F w av od sv sl nz ip ot M0 (nI s0) ) (kv_X8_289 hw rfl rfl ⟨Nat.le_of_ble_eq_true rfl, Nat.le_of_ble_eq_true rfl⟩) rfl rfl mq_F rfl (Nat.le_of_ble_eq_true rfl) dX8_permitFor_2 ⟨Nat.le_of_ble_eq_true rfl, Nat.le_of_ble_eq_true rfl⟩ (fun H locs hM => ?_)
  refine lv_if_ne (tgt := 14) hx hb dX8_permitFor_5 (by decide) (fun c_1 => ?_) (fun c_1 => ?_)
  · have c_1 := b1_n0.mp c_1
    refine lv_aload_n hx hb dX8_permitFor_14 rfl (lv_at hl 0 rfl) ?_
    refine lv_iload_n hx hb dX8_permitFor_15 rfl (lv_at hl 2 rfl) ?_
    refine me_callVi (As := [.int (nI h0)]) (rest := []) hC hl.1 hM (c_X8_inHorizon l D tb X z0 n mo F w av od sv sl nz ip ot M0 (nI h0) ) (kv_X8_84 hw rfl rfl ⟨Nat.le_of_ble_eq_true rfl, Nat.le_of_ble_eq_true rfl⟩) rfl rfl mq_F rfl (Nat.le_of_ble_eq_true rfl) dX8_permitFor_16 ⟨Nat.le_of_ble_eq_true rfl, Nat.le_of_ble_eq_true rfl⟩ (fun H locs hM => ?_)
    refine lv_if_eq (tgt := 35) hx hb dX8_permitFor_19 (by decide) (fun c_2 => ?_) (fun c_2 => ?_)
    · have c_2 := b1_0.mp c_2
      exact absurd (ih_c hT hT2 hh1 hh2) c_2
    · have c_2 := b1_n0.mp c_2
      refine lv_aload_n hx hb dX8_permitFor_22 rfl (lv_at hl 0 rfl) ?_
      refine lv_aload_n hx hb dX8_permitFor_23 rfl (lv_at hl 0 rfl) ?_
      refine lv_iload_n hx hb dX8_permitFor_24 rfl (lv_at hl 1 rfl) ?_
      refine lv_iload_n hx hb dX8_permitFor_25 rfl (lv_at hl 2 rfl) ?_
      refine me_callVi (As := [.int (nI s0), .int (nI h0)]) (rest := [.ref mo]) hC hl.1 hM (c_X8_permitAt l D tb X z0 n mo F w av od sv sl nz ip ot M0 P (nI s0) (nI h0) hP hP0 hZ) (kv_X8_118 hw rfl rfl ⟨Nat.le_of_ble_eq_true rfl, Nat.le_of_ble_eq_true rfl⟩) rfl rfl mq_F rfl (Nat.le_of_ble_eq_true rfl) dX8_permitFor_26 ⟨Nat.le_of_ble_eq_true rfl, Nat.le_of_ble_eq_true rfl⟩ (fun H locs hM => ?_)
      refine me_callVi (As := [.int (peF w P (nI s0) (nI h0))]) (rest := []) hC hl.1 hM (c_X8_told l D tb X z0 n mo F w av od sv sl nz ip ot M0 (peF w P (nI s0) (nI h0)) ) (kv_X8_271 hw rfl rfl ⟨Nat.le_of_ble_eq_true rfl, Nat.le_of_ble_eq_true rfl⟩) rfl rfl mq_F rfl (Nat.le_of_ble_eq_true rfl) dX8_permitFor_29 ⟨Nat.le_of_ble_eq_true rfl, Nat.le_of_ble_eq_true rfl⟩ (fun H locs hM => ?_)
      refine lv_goto (tgt := 40) hx hb dX8_permitFor_32 (by decide) ?_
      exact me_iret hC hr hlk hM (by first | rfl | simp [c_1, c_2]) (rfl) (rfl) dX8_permitFor_40
  · have c_1 := b1_0.mp c_1
    exact absurd (in_c hS (by omega) hs9) c_1
set_option maxHeartbeats 4000000 in
theorem c_X8_permitFor_x1 (l : Launch) (D : va_G) (tb : Nat → ClassId) (X : State → Prop) (z0 n : Nat) (mo : Nat) (F w av od sv sl nz ip ot : Nat → Int32) (M0 : me_M) (S B L P : Nat) (T : Nat) (x : Int32) (y9 : Int32)  (hO : ok1 S B L P T w) (hT0 : T ≤ 9999) (hbad : x < 0 ∨ w 3 ≤ x) : Met l yX8_permitFor (.code yX8_permitFor cX8_permitFor 3 (some .int) :: ws_all) ({ frames := 2, cells := 0, slots := 0, locals := 43 } : Room) (me_Pc [.ref mo, .int x, .int y9] D tb X z0 (mq tb mo F w av od sv sl nz ip ot M0) n) (me_Qi D z0 0 (mq tb mo (upd F 0 1) w av od sv sl nz ip ot M0) n) 0 0 (me_A z0) := by
  refine me_open (by decide) (Nat.le_of_ble_eq_true rfl) ?_
  intro p e s m args below meth c ls hC hr hlk hnm hM hl
  have hl : lv_has ls 3 [(0, .ref mo), (1, .int x), (2, .int y9)] := hl
  have hx := hC.1
  have hb := hC.2.1
  have hw := hC.2.2.2.2.1
  obtain ⟨hW, hZ, hT⟩ := id hO
  obtain ⟨hS, hS0, hB, hB0, hL, hL0, hP, hP0, hwb, hwl⟩ := id hW
  have hT2 : T ≤ 20000 := by omega
  refine lv_aload_n hx hb dX8_permitFor_0 rfl (lv_at hl 0 rfl) ?_
  refine lv_iload_n hx hb dX8_permitFor_1 rfl (lv_at hl 1 rfl) ?_
  refine me_callVi (As := [.int x]) (rest := []) hC hl.1 hM (c_X8_isStreet l D tb X z0 n mo F w av od sv sl nz ip ot M0 x ) (kv_X8_289 hw rfl rfl ⟨Nat.le_of_ble_eq_true rfl, Nat.le_of_ble_eq_true rfl⟩) rfl rfl mq_F rfl (Nat.le_of_ble_eq_true rfl) dX8_permitFor_2 ⟨Nat.le_of_ble_eq_true rfl, Nat.le_of_ble_eq_true rfl⟩ (fun H locs hM => ?_)
  refine lv_if_ne (tgt := 14) hx hb dX8_permitFor_5 (by decide) (fun c_1 => ?_) (fun c_1 => ?_)
  · have c_1 := b1_n0.mp c_1
    exact absurd c_1 (in_x hS (by omega) hbad)
  · have c_1 := b1_0.mp c_1
    refine lv_aload_n hx hb dX8_permitFor_8 rfl (lv_at hl 0 rfl) ?_
    refine lv_iconst (v := 1) hx hb dX8_permitFor_9 (by decide) ?_
    refine me_callVi (As := [.int 1]) (rest := []) hC hl.1 hM (c_X8_refuse l D tb X z0 n mo F w av od sv sl nz ip ot M0 (1 : Int32) ) (kv_X8_265 hw rfl rfl ⟨Nat.le_of_ble_eq_true rfl, Nat.le_of_ble_eq_true rfl⟩) rfl rfl mq_F rfl (Nat.le_of_ble_eq_true rfl) dX8_permitFor_10 ⟨Nat.le_of_ble_eq_true rfl, Nat.le_of_ble_eq_true rfl⟩ (fun H locs hM => ?_)
    exact me_iret hC hr hlk hM (rfl) (rfl) (rfl) dX8_permitFor_13
set_option maxHeartbeats 4000000 in
theorem c_X8_permitFor_x2 (l : Launch) (D : va_G) (tb : Nat → ClassId) (X : State → Prop) (z0 n : Nat) (mo : Nat) (F w av od sv sl nz ip ot : Nat → Int32) (M0 : me_M) (S B L P : Nat) (T : Nat) (s0 : Nat) (x : Int32)  (hO : ok1 S B L P T w) (hT0 : T ≤ 9999) (hs9 : s0 < S) (hbad : x < w 2 ∨ w 2 + 48 ≤ x) : Met l yX8_permitFor (.code yX8_permitFor cX8_permitFor 3 (some .int) :: ws_all) ({ frames := 2, cells := 0, slots := 0, locals := 43 } : Room) (me_Pc [.ref mo, .int (nI s0), .int x] D tb X z0 (mq tb mo F w av od sv sl nz ip ot M0) n) (me_Qi D z0 0 (mq tb mo (upd F 0 2) w av od sv sl nz ip ot M0) n) 0 0 (me_A z0) := by
  refine me_open (by decide) (Nat.le_of_ble_eq_true rfl) ?_
  intro p e s m args below meth c ls hC hr hlk hnm hM hl
  have hl : lv_has ls 3 [(0, .ref mo), (1, .int (nI s0)), (2, .int x)] := hl
  have hx := hC.1
  have hb := hC.2.1
  have hw := hC.2.2.2.2.1
  obtain ⟨hW, hZ, hT⟩ := id hO
  obtain ⟨hS, hS0, hB, hB0, hL, hL0, hP, hP0, hwb, hwl⟩ := id hW
  have hT2 : T ≤ 20000 := by omega
  refine lv_aload_n hx hb dX8_permitFor_0 rfl (lv_at hl 0 rfl) ?_
  refine lv_iload_n hx hb dX8_permitFor_1 rfl (lv_at hl 1 rfl) ?_
  refine me_callVi (As := [.int (nI s0)]) (rest := []) hC hl.1 hM (c_X8_isStreet l D tb X z0 n mo F w av od sv sl nz ip ot M0 (nI s0) ) (kv_X8_289 hw rfl rfl ⟨Nat.le_of_ble_eq_true rfl, Nat.le_of_ble_eq_true rfl⟩) rfl rfl mq_F rfl (Nat.le_of_ble_eq_true rfl) dX8_permitFor_2 ⟨Nat.le_of_ble_eq_true rfl, Nat.le_of_ble_eq_true rfl⟩ (fun H locs hM => ?_)
  refine lv_if_ne (tgt := 14) hx hb dX8_permitFor_5 (by decide) (fun c_1 => ?_) (fun c_1 => ?_)
  · have c_1 := b1_n0.mp c_1
    refine lv_aload_n hx hb dX8_permitFor_14 rfl (lv_at hl 0 rfl) ?_
    refine lv_iload_n hx hb dX8_permitFor_15 rfl (lv_at hl 2 rfl) ?_
    refine me_callVi (As := [.int x]) (rest := []) hC hl.1 hM (c_X8_inHorizon l D tb X z0 n mo F w av od sv sl nz ip ot M0 x ) (kv_X8_84 hw rfl rfl ⟨Nat.le_of_ble_eq_true rfl, Nat.le_of_ble_eq_true rfl⟩) rfl rfl mq_F rfl (Nat.le_of_ble_eq_true rfl) dX8_permitFor_16 ⟨Nat.le_of_ble_eq_true rfl, Nat.le_of_ble_eq_true rfl⟩ (fun H locs hM => ?_)
    refine lv_if_eq (tgt := 35) hx hb dX8_permitFor_19 (by decide) (fun c_2 => ?_) (fun c_2 => ?_)
    · have c_2 := b1_0.mp c_2
      refine lv_aload_n hx hb dX8_permitFor_35 rfl (lv_at hl 0 rfl) ?_
      refine lv_iconst (v := 2) hx hb dX8_permitFor_36 (by decide) ?_
      refine me_callVi (As := [.int 2]) (rest := []) hC hl.1 hM (c_X8_refuse l D tb X z0 n mo F w av od sv sl nz ip ot M0 (2 : Int32) ) (kv_X8_265 hw rfl rfl ⟨Nat.le_of_ble_eq_true rfl, Nat.le_of_ble_eq_true rfl⟩) rfl rfl mq_F rfl (Nat.le_of_ble_eq_true rfl) dX8_permitFor_37 ⟨Nat.le_of_ble_eq_true rfl, Nat.le_of_ble_eq_true rfl⟩ (fun H locs hM => ?_)
      exact me_iret hC hr hlk hM (rfl) (rfl) (rfl) dX8_permitFor_40
    · have c_2 := b1_n0.mp c_2
      exact absurd c_2 (ih_x hbad)
  · have c_1 := b1_0.mp c_1
    exact absurd (in_c hS (by omega) hs9) c_1
set_option maxHeartbeats 4000000 in
theorem c_X8_freeHours (l : Launch) (D : va_G) (tb : Nat → ClassId) (X : State → Prop) (z0 n : Nat) (mo : Nat) (F w av od sv sl nz ip ot : Nat → Int32) (M0 : me_M) (S B L P : Nat) (T : Nat)  (hO : ok1 S B L P T w) (hT0 : T ≤ 9999) : Met l yX8_freeHours (.code yX8_freeHours cX8_freeHours 1 (some .int) :: ws_all) ({ frames := 5, cells := 0, slots := 0, locals := 107 } : Room) (me_Pc [.ref mo] D tb X z0 (mq tb mo F w av od sv sl nz ip ot M0) n) (me_Qi D z0 (nI (frM w L T)) (mq tb mo (upd F 0 0) w av od sv sl nz ip ot M0) n) 0 0 (me_A z0) := by
  refine me_open (by decide) (Nat.le_of_ble_eq_true rfl) ?_
  intro p e s m args below meth c ls hC hr hlk hnm hM hl
  have hl : lv_has ls 1 [(0, .ref mo)] := hl
  have hx := hC.1
  have hb := hC.2.1
  have hw := hC.2.2.2.2.1
  obtain ⟨hW, hZ, hT⟩ := id hO
  obtain ⟨hS, hS0, hB, hB0, hL, hL0, hP, hP0, hwb, hwl⟩ := id hW
  have hT2 : T ≤ 20000 := by omega
  refine lv_aload_n hx hb dX8_freeHours_0 rfl (lv_at hl 0 rfl) ?_
  refine lv_aload_n hx hb dX8_freeHours_1 rfl (lv_at hl 0 rfl) ?_
  refine me_callVi (As := []) (rest := [.ref mo]) hC hl.1 hM (c_X8_freeMany l D tb X z0 n mo F w av od sv sl nz ip ot M0 L T hL hL0 hZ hT (by omega)) (kv_X8_304 hw rfl rfl ⟨Nat.le_of_ble_eq_true rfl, Nat.le_of_ble_eq_true rfl⟩) rfl rfl mq_F rfl (Nat.le_of_ble_eq_true rfl) dX8_freeHours_2 ⟨Nat.le_of_ble_eq_true rfl, Nat.le_of_ble_eq_true rfl⟩ (fun H locs hM => ?_)
  refine me_callVi (As := [.int (nI (frM w L T))]) (rest := []) hC hl.1 hM (c_X8_told l D tb X z0 n mo F w av od sv sl nz ip ot M0 (nI (frM w L T)) ) (kv_X8_271 hw rfl rfl ⟨Nat.le_of_ble_eq_true rfl, Nat.le_of_ble_eq_true rfl⟩) rfl rfl mq_F rfl (Nat.le_of_ble_eq_true rfl) dX8_freeHours_5 ⟨Nat.le_of_ble_eq_true rfl, Nat.le_of_ble_eq_true rfl⟩ (fun H locs hM => ?_)
  exact me_iret hC hr hlk hM (by first | rfl | simp []) (rfl) (rfl) dX8_freeHours_8
set_option maxHeartbeats 4000000 in
theorem c_X8_quote (l : Launch) (D : va_G) (tb : Nat → ClassId) (X : State → Prop) (z0 n : Nat) (mo : Nat) (F w av od sv sl nz ip ot : Nat → Int32) (M0 : me_M) (S B L P : Nat) (T : Nat) (b n9 : Nat)  (hO : ok1 S B L P T w) (hT0 : T ≤ 9999) (hb9 : b < B) (hn1 : 1 ≤ n9) (hn2 : n9 ≤ 6) : Met l yX8_quote (.code yX8_quote cX8_quote 3 (some .int) :: ws_all) ({ frames := 3, cells := 0, slots := 0, locals := 63 } : Room) (me_Pc [.ref mo, .int (nI b), .int (nI n9)] D tb X z0 (mq tb mo F w av od sv sl nz ip ot M0) n) (me_Qi D z0 (prF w b (nI n9)) (mq tb mo (upd F 0 0) w av od sv sl nz ip ot M0) n) 0 0 (me_A z0) := by
  refine me_open (by decide) (Nat.le_of_ble_eq_true rfl) ?_
  intro p e s m args below meth c ls hC hr hlk hnm hM hl
  have hl : lv_has ls 3 [(0, .ref mo), (1, .int (nI b)), (2, .int (nI n9))] := hl
  have hx := hC.1
  have hb := hC.2.1
  have hw := hC.2.2.2.2.1
  obtain ⟨hW, hZ, hT⟩ := id hO
  obtain ⟨hS, hS0, hB, hB0, hL, hL0, hP, hP0, hwb, hwl⟩ := id hW
  have hT2 : T ≤ 20000 := by omega
  refine lv_aload_n hx hb dX8_quote_0 rfl (lv_at hl 0 rfl) ?_
  refine lv_iload_n hx hb dX8_quote_1 rfl (lv_at hl 1 rfl) ?_
  refine me_callVi (As := [.int (nI b)]) (rest := []) hC hl.1 hM (c_X8_isBorrower l D tb X z0 n mo F w av od sv sl nz ip ot M0 (nI b) ) (kv_X8_292 hw rfl rfl ⟨Nat.le_of_ble_eq_true rfl, Nat.le_of_ble_eq_true rfl⟩) rfl rfl mq_F rfl (Nat.le_of_ble_eq_true rfl) dX8_quote_2 ⟨Nat.le_of_ble_eq_true rfl, Nat.le_of_ble_eq_true rfl⟩ (fun H locs hM => ?_)
  refine lv_if_ne (tgt := 14) hx hb dX8_quote_5 (by decide) (fun c_1 => ?_) (fun c_1 => ?_)
  · have c_1 := b1_n0.mp c_1
    refine lv_iload_n hx hb dX8_quote_14 rfl (lv_at hl 2 rfl) ?_
    refine lv_iconst (v := 1) hx hb dX8_quote_15 (by decide) ?_
    refine lv_bipush (v := 6) hx hb dX8_quote_16 (by decide) ?_
    refine me_callSi (As := [.int (nI n9), .int 1, .int 6]) (rest := []) hC hl.1 hM (c_X8_in l D tb X z0 n _ (nI n9) 1 6 ) (ks_X8_67 hw rfl rfl ⟨Nat.le_of_ble_eq_true rfl, Nat.le_of_ble_eq_true rfl⟩) rfl rfl (Nat.le_of_ble_eq_true rfl) dX8_quote_18 ⟨Nat.le_of_ble_eq_true rfl, Nat.le_of_ble_eq_true rfl⟩ (fun H locs hM => ?_)
    refine lv_if_eq (tgt := 37) hx hb dX8_quote_21 (by decide) (fun c_2 => ?_) (fun c_2 => ?_)
    · have c_2 := b1_0.mp c_2
      exact absurd (in_n (a := 1) (b := 6) hn1 hn2 (by omega)) c_2
    · have c_2 := b1_n0.mp c_2
      refine lv_aload_n hx hb dX8_quote_24 rfl (lv_at hl 0 rfl) ?_
      refine lv_aload_n hx hb dX8_quote_25 rfl (lv_at hl 0 rfl) ?_
      refine lv_iload_n hx hb dX8_quote_26 rfl (lv_at hl 1 rfl) ?_
      refine lv_iload_n hx hb dX8_quote_27 rfl (lv_at hl 2 rfl) ?_
      refine me_callVi (As := [.int (nI b), .int (nI n9)]) (rest := [.ref mo]) hC hl.1 hM (c_X8_priceFor l D tb X z0 n mo F w av od sv sl nz ip ot M0 S B L P b (nI n9) hW (by omega)) (kv_X8_135 hw rfl rfl ⟨Nat.le_of_ble_eq_true rfl, Nat.le_of_ble_eq_true rfl⟩) rfl rfl mq_F rfl (Nat.le_of_ble_eq_true rfl) dX8_quote_28 ⟨Nat.le_of_ble_eq_true rfl, Nat.le_of_ble_eq_true rfl⟩ (fun H locs hM => ?_)
      refine me_callVi (As := [.int (prF w b (nI n9))]) (rest := []) hC hl.1 hM (c_X8_told l D tb X z0 n mo F w av od sv sl nz ip ot M0 (prF w b (nI n9)) ) (kv_X8_271 hw rfl rfl ⟨Nat.le_of_ble_eq_true rfl, Nat.le_of_ble_eq_true rfl⟩) rfl rfl mq_F rfl (Nat.le_of_ble_eq_true rfl) dX8_quote_31 ⟨Nat.le_of_ble_eq_true rfl, Nat.le_of_ble_eq_true rfl⟩ (fun H locs hM => ?_)
      refine lv_goto (tgt := 42) hx hb dX8_quote_34 (by decide) ?_
      exact me_iret hC hr hlk hM (by first | rfl | simp [c_1, c_2]) (rfl) (rfl) dX8_quote_42
  · have c_1 := b1_0.mp c_1
    exact absurd (in_c hB (by omega) hb9) c_1
set_option maxHeartbeats 4000000 in
theorem c_X8_quote_x1 (l : Launch) (D : va_G) (tb : Nat → ClassId) (X : State → Prop) (z0 n : Nat) (mo : Nat) (F w av od sv sl nz ip ot : Nat → Int32) (M0 : me_M) (S B L P : Nat) (T : Nat) (x : Int32) (y9 : Int32)  (hO : ok1 S B L P T w) (hT0 : T ≤ 9999) (hbad : x < 0 ∨ w 4 ≤ x) : Met l yX8_quote (.code yX8_quote cX8_quote 3 (some .int) :: ws_all) ({ frames := 2, cells := 0, slots := 0, locals := 43 } : Room) (me_Pc [.ref mo, .int x, .int y9] D tb X z0 (mq tb mo F w av od sv sl nz ip ot M0) n) (me_Qi D z0 0 (mq tb mo (upd F 0 1) w av od sv sl nz ip ot M0) n) 0 0 (me_A z0) := by
  refine me_open (by decide) (Nat.le_of_ble_eq_true rfl) ?_
  intro p e s m args below meth c ls hC hr hlk hnm hM hl
  have hl : lv_has ls 3 [(0, .ref mo), (1, .int x), (2, .int y9)] := hl
  have hx := hC.1
  have hb := hC.2.1
  have hw := hC.2.2.2.2.1
  obtain ⟨hW, hZ, hT⟩ := id hO
  obtain ⟨hS, hS0, hB, hB0, hL, hL0, hP, hP0, hwb, hwl⟩ := id hW
  have hT2 : T ≤ 20000 := by omega
  refine lv_aload_n hx hb dX8_quote_0 rfl (lv_at hl 0 rfl) ?_
  refine lv_iload_n hx hb dX8_quote_1 rfl (lv_at hl 1 rfl) ?_
  refine me_callVi (As := [.int x]) (rest := []) hC hl.1 hM (c_X8_isBorrower l D tb X z0 n mo F w av od sv sl nz ip ot M0 x ) (kv_X8_292 hw rfl rfl ⟨Nat.le_of_ble_eq_true rfl, Nat.le_of_ble_eq_true rfl⟩) rfl rfl mq_F rfl (Nat.le_of_ble_eq_true rfl) dX8_quote_2 ⟨Nat.le_of_ble_eq_true rfl, Nat.le_of_ble_eq_true rfl⟩ (fun H locs hM => ?_)
  refine lv_if_ne (tgt := 14) hx hb dX8_quote_5 (by decide) (fun c_1 => ?_) (fun c_1 => ?_)
  · have c_1 := b1_n0.mp c_1
    exact absurd c_1 (in_x hB (by omega) hbad)
  · have c_1 := b1_0.mp c_1
    refine lv_aload_n hx hb dX8_quote_8 rfl (lv_at hl 0 rfl) ?_
    refine lv_iconst (v := 1) hx hb dX8_quote_9 (by decide) ?_
    refine me_callVi (As := [.int 1]) (rest := []) hC hl.1 hM (c_X8_refuse l D tb X z0 n mo F w av od sv sl nz ip ot M0 (1 : Int32) ) (kv_X8_265 hw rfl rfl ⟨Nat.le_of_ble_eq_true rfl, Nat.le_of_ble_eq_true rfl⟩) rfl rfl mq_F rfl (Nat.le_of_ble_eq_true rfl) dX8_quote_10 ⟨Nat.le_of_ble_eq_true rfl, Nat.le_of_ble_eq_true rfl⟩ (fun H locs hM => ?_)
    exact me_iret hC hr hlk hM (rfl) (rfl) (rfl) dX8_quote_13
set_option maxHeartbeats 4000000 in
theorem c_X8_quote_x2 (l : Launch) (D : va_G) (tb : Nat → ClassId) (X : State → Prop) (z0 n : Nat) (mo : Nat) (F w av od sv sl nz ip ot : Nat → Int32) (M0 : me_M) (S B L P : Nat) (T : Nat) (b : Nat) (x : Int32)  (hO : ok1 S B L P T w) (hT0 : T ≤ 9999) (hb9 : b < B) (hbad : x < 1 ∨ 6 < x) : Met l yX8_quote (.code yX8_quote cX8_quote 3 (some .int) :: ws_all) ({ frames := 2, cells := 0, slots := 0, locals := 43 } : Room) (me_Pc [.ref mo, .int (nI b), .int x] D tb X z0 (mq tb mo F w av od sv sl nz ip ot M0) n) (me_Qi D z0 0 (mq tb mo (upd F 0 2) w av od sv sl nz ip ot M0) n) 0 0 (me_A z0) := by
  refine me_open (by decide) (Nat.le_of_ble_eq_true rfl) ?_
  intro p e s m args below meth c ls hC hr hlk hnm hM hl
  have hl : lv_has ls 3 [(0, .ref mo), (1, .int (nI b)), (2, .int x)] := hl
  have hx := hC.1
  have hb := hC.2.1
  have hw := hC.2.2.2.2.1
  obtain ⟨hW, hZ, hT⟩ := id hO
  obtain ⟨hS, hS0, hB, hB0, hL, hL0, hP, hP0, hwb, hwl⟩ := id hW
  have hT2 : T ≤ 20000 := by omega
  refine lv_aload_n hx hb dX8_quote_0 rfl (lv_at hl 0 rfl) ?_
  refine lv_iload_n hx hb dX8_quote_1 rfl (lv_at hl 1 rfl) ?_
  refine me_callVi (As := [.int (nI b)]) (rest := []) hC hl.1 hM (c_X8_isBorrower l D tb X z0 n mo F w av od sv sl nz ip ot M0 (nI b) ) (kv_X8_292 hw rfl rfl ⟨Nat.le_of_ble_eq_true rfl, Nat.le_of_ble_eq_true rfl⟩) rfl rfl mq_F rfl (Nat.le_of_ble_eq_true rfl) dX8_quote_2 ⟨Nat.le_of_ble_eq_true rfl, Nat.le_of_ble_eq_true rfl⟩ (fun H locs hM => ?_)
  refine lv_if_ne (tgt := 14) hx hb dX8_quote_5 (by decide) (fun c_1 => ?_) (fun c_1 => ?_)
  · have c_1 := b1_n0.mp c_1
    refine lv_iload_n hx hb dX8_quote_14 rfl (lv_at hl 2 rfl) ?_
    refine lv_iconst (v := 1) hx hb dX8_quote_15 (by decide) ?_
    refine lv_bipush (v := 6) hx hb dX8_quote_16 (by decide) ?_
    refine me_callSi (As := [.int x, .int 1, .int 6]) (rest := []) hC hl.1 hM (c_X8_in l D tb X z0 n _ x 1 6 ) (ks_X8_67 hw rfl rfl ⟨Nat.le_of_ble_eq_true rfl, Nat.le_of_ble_eq_true rfl⟩) rfl rfl (Nat.le_of_ble_eq_true rfl) dX8_quote_18 ⟨Nat.le_of_ble_eq_true rfl, Nat.le_of_ble_eq_true rfl⟩ (fun H locs hM => ?_)
    refine lv_if_eq (tgt := 37) hx hb dX8_quote_21 (by decide) (fun c_2 => ?_) (fun c_2 => ?_)
    · have c_2 := b1_0.mp c_2
      refine lv_aload_n hx hb dX8_quote_37 rfl (lv_at hl 0 rfl) ?_
      refine lv_iconst (v := 2) hx hb dX8_quote_38 (by decide) ?_
      refine me_callVi (As := [.int 2]) (rest := []) hC hl.1 hM (c_X8_refuse l D tb X z0 n mo F w av od sv sl nz ip ot M0 (2 : Int32) ) (kv_X8_265 hw rfl rfl ⟨Nat.le_of_ble_eq_true rfl, Nat.le_of_ble_eq_true rfl⟩) rfl rfl mq_F rfl (Nat.le_of_ble_eq_true rfl) dX8_quote_39 ⟨Nat.le_of_ble_eq_true rfl, Nat.le_of_ble_eq_true rfl⟩ (fun H locs hM => ?_)
      exact me_iret hC hr hlk hM (rfl) (rfl) (rfl) dX8_quote_42
    · have c_2 := b1_n0.mp c_2
      exact absurd c_2 (in_y hbad)
  · have c_1 := b1_0.mp c_1
    exact absurd (in_c hB (by omega) hb9) c_1
set_option maxHeartbeats 4000000 in
theorem c_X8_refusal (l : Launch) (D : va_G) (tb : Nat → ClassId) (X : State → Prop) (z0 n : Nat) (mo : Nat) (F w av od sv sl nz ip ot : Nat → Int32) (M0 : me_M) (S B L P : Nat) (T : Nat) (b s0 n9 : Nat)  (hO : ok1 S B L P T w) (hT0 : T ≤ 9999) (hb9 : b < B) (hn1 : 1 ≤ n9) (hn2 : n9 ≤ 6) (hs1 : T ≤ s0) (hs2 : s0 + n9 ≤ T + 48) : Met l yX8_refusal (.code yX8_refusal cX8_refusal 4 (some .int) :: ws_all) ({ frames := 6, cells := 0, slots := 0, locals := 133 } : Room) (me_Pc [.ref mo, .int (nI b), .int (nI s0), .int (nI n9)] D tb X z0 (mq tb mo F w av od sv sl nz ip ot M0) n) (me_Qi D z0 (reF w L P b s0 n9) (mq tb mo (upd F 0 0) w av od sv sl nz ip ot M0) n) 0 0 (me_A z0) := by
  refine me_open (by decide) (Nat.le_of_ble_eq_true rfl) ?_
  intro p e s m args below meth c ls hC hr hlk hnm hM hl
  have hl : lv_has ls 4 [(0, .ref mo), (1, .int (nI b)), (2, .int (nI s0)), (3, .int (nI n9))] := hl
  have hx := hC.1
  have hb := hC.2.1
  have hw := hC.2.2.2.2.1
  obtain ⟨hW, hZ, hT⟩ := id hO
  obtain ⟨hS, hS0, hB, hB0, hL, hL0, hP, hP0, hwb, hwl⟩ := id hW
  have hT2 : T ≤ 20000 := by omega
  refine lv_aload_n hx hb dX8_refusal_0 rfl (lv_at hl 0 rfl) ?_
  refine lv_iload_n hx hb dX8_refusal_1 rfl (lv_at hl 1 rfl) ?_
  refine me_callVi (As := [.int (nI b)]) (rest := []) hC hl.1 hM (c_X8_isBorrower l D tb X z0 n mo F w av od sv sl nz ip ot M0 (nI b) ) (kv_X8_292 hw rfl rfl ⟨Nat.le_of_ble_eq_true rfl, Nat.le_of_ble_eq_true rfl⟩) rfl rfl mq_F rfl (Nat.le_of_ble_eq_true rfl) dX8_refusal_2 ⟨Nat.le_of_ble_eq_true rfl, Nat.le_of_ble_eq_true rfl⟩ (fun H locs hM => ?_)
  refine lv_if_ne (tgt := 14) hx hb dX8_refusal_5 (by decide) (fun c_1 => ?_) (fun c_1 => ?_)
  · have c_1 := b1_n0.mp c_1
    refine lv_aload_n hx hb dX8_refusal_14 rfl (lv_at hl 0 rfl) ?_
    refine lv_iload_n hx hb dX8_refusal_15 rfl (lv_at hl 2 rfl) ?_
    refine lv_iload_n hx hb dX8_refusal_16 rfl (lv_at hl 3 rfl) ?_
    refine lv_bipush (v := 6) hx hb dX8_refusal_17 (by decide) ?_
    refine me_callVi (As := [.int (nI s0), .int (nI n9), .int 6]) (rest := []) hC hl.1 hM (c_X8_areHours l D tb X z0 n mo F w av od sv sl nz ip ot M0 (nI s0) (nI n9) 6 ) (kv_X8_307 hw rfl rfl ⟨Nat.le_of_ble_eq_true rfl, Nat.le_of_ble_eq_true rfl⟩) rfl rfl mq_F rfl (Nat.le_of_ble_eq_true rfl) dX8_refusal_19 ⟨Nat.le_of_ble_eq_true rfl, Nat.le_of_ble_eq_true rfl⟩ (fun H locs hM => ?_)
    refine lv_if_eq (tgt := 39) hx hb dX8_refusal_22 (by decide) (fun c_2 => ?_) (fun c_2 => ?_)
    · have c_2 := b1_0.mp c_2
      exact absurd (ah_c (m := 6) hT hT2 hn1 hn2 (by omega) hs1 hs2) c_2
    · have c_2 := b1_n0.mp c_2
      refine lv_aload_n hx hb dX8_refusal_25 rfl (lv_at hl 0 rfl) ?_
      refine lv_aload_n hx hb dX8_refusal_26 rfl (lv_at hl 0 rfl) ?_
      refine lv_iload_n hx hb dX8_refusal_27 rfl (lv_at hl 1 rfl) ?_
      refine lv_iload_n hx hb dX8_refusal_28 rfl (lv_at hl 2 rfl) ?_
      refine lv_iload_n hx hb dX8_refusal_29 rfl (lv_at hl 3 rfl) ?_
      refine me_callVi (As := [.int (nI b), .int (nI s0), .int (nI n9)]) (rest := [.ref mo]) hC hl.1 hM (c_X8_reasonFor l D tb X z0 n mo F w av od sv sl nz ip ot M0 S B L P b s0 n9 hW hZ (by omega) (by omega)) (kv_X8_232 hw rfl rfl ⟨Nat.le_of_ble_eq_true rfl, Nat.le_of_ble_eq_true rfl⟩) rfl rfl mq_F rfl (Nat.le_of_ble_eq_true rfl) dX8_refusal_30 ⟨Nat.le_of_ble_eq_true rfl, Nat.le_of_ble_eq_true rfl⟩ (fun H locs hM => ?_)
      refine me_callVi (As := [.int (reF w L P b s0 n9)]) (rest := []) hC hl.1 hM (c_X8_told l D tb X z0 n mo F w av od sv sl nz ip ot M0 (reF w L P b s0 n9) ) (kv_X8_271 hw rfl rfl ⟨Nat.le_of_ble_eq_true rfl, Nat.le_of_ble_eq_true rfl⟩) rfl rfl mq_F rfl (Nat.le_of_ble_eq_true rfl) dX8_refusal_33 ⟨Nat.le_of_ble_eq_true rfl, Nat.le_of_ble_eq_true rfl⟩ (fun H locs hM => ?_)
      refine lv_goto (tgt := 44) hx hb dX8_refusal_36 (by decide) ?_
      exact me_iret hC hr hlk hM (by first | rfl | simp [c_1, c_2]) (rfl) (rfl) dX8_refusal_44
  · have c_1 := b1_0.mp c_1
    exact absurd (in_c hB (by omega) hb9) c_1
set_option maxHeartbeats 4000000 in
theorem c_X8_refusal_x1 (l : Launch) (D : va_G) (tb : Nat → ClassId) (X : State → Prop) (z0 n : Nat) (mo : Nat) (F w av od sv sl nz ip ot : Nat → Int32) (M0 : me_M) (S B L P : Nat) (T : Nat) (x : Int32) (y9 z9 : Int32)  (hO : ok1 S B L P T w) (hT0 : T ≤ 9999) (hbad : x < 0 ∨ w 4 ≤ x) : Met l yX8_refusal (.code yX8_refusal cX8_refusal 4 (some .int) :: ws_all) ({ frames := 2, cells := 0, slots := 0, locals := 43 } : Room) (me_Pc [.ref mo, .int x, .int y9, .int z9] D tb X z0 (mq tb mo F w av od sv sl nz ip ot M0) n) (me_Qi D z0 0 (mq tb mo (upd F 0 1) w av od sv sl nz ip ot M0) n) 0 0 (me_A z0) := by
  refine me_open (by decide) (Nat.le_of_ble_eq_true rfl) ?_
  intro p e s m args below meth c ls hC hr hlk hnm hM hl
  have hl : lv_has ls 4 [(0, .ref mo), (1, .int x), (2, .int y9), (3, .int z9)] := hl
  have hx := hC.1
  have hb := hC.2.1
  have hw := hC.2.2.2.2.1
  obtain ⟨hW, hZ, hT⟩ := id hO
  obtain ⟨hS, hS0, hB, hB0, hL, hL0, hP, hP0, hwb, hwl⟩ := id hW
  have hT2 : T ≤ 20000 := by omega
  refine lv_aload_n hx hb dX8_refusal_0 rfl (lv_at hl 0 rfl) ?_
  refine lv_iload_n hx hb dX8_refusal_1 rfl (lv_at hl 1 rfl) ?_
  refine me_callVi (As := [.int x]) (rest := []) hC hl.1 hM (c_X8_isBorrower l D tb X z0 n mo F w av od sv sl nz ip ot M0 x ) (kv_X8_292 hw rfl rfl ⟨Nat.le_of_ble_eq_true rfl, Nat.le_of_ble_eq_true rfl⟩) rfl rfl mq_F rfl (Nat.le_of_ble_eq_true rfl) dX8_refusal_2 ⟨Nat.le_of_ble_eq_true rfl, Nat.le_of_ble_eq_true rfl⟩ (fun H locs hM => ?_)
  refine lv_if_ne (tgt := 14) hx hb dX8_refusal_5 (by decide) (fun c_1 => ?_) (fun c_1 => ?_)
  · have c_1 := b1_n0.mp c_1
    exact absurd c_1 (in_x hB (by omega) hbad)
  · have c_1 := b1_0.mp c_1
    refine lv_aload_n hx hb dX8_refusal_8 rfl (lv_at hl 0 rfl) ?_
    refine lv_iconst (v := 1) hx hb dX8_refusal_9 (by decide) ?_
    refine me_callVi (As := [.int 1]) (rest := []) hC hl.1 hM (c_X8_refuse l D tb X z0 n mo F w av od sv sl nz ip ot M0 (1 : Int32) ) (kv_X8_265 hw rfl rfl ⟨Nat.le_of_ble_eq_true rfl, Nat.le_of_ble_eq_true rfl⟩) rfl rfl mq_F rfl (Nat.le_of_ble_eq_true rfl) dX8_refusal_10 ⟨Nat.le_of_ble_eq_true rfl, Nat.le_of_ble_eq_true rfl⟩ (fun H locs hM => ?_)
    exact me_iret hC hr hlk hM (rfl) (rfl) (rfl) dX8_refusal_13
set_option maxHeartbeats 4000000 in
theorem c_X8_refusal_x2 (l : Launch) (D : va_G) (tb : Nat → ClassId) (X : State → Prop) (z0 n : Nat) (mo : Nat) (F w av od sv sl nz ip ot : Nat → Int32) (M0 : me_M) (S B L P : Nat) (T : Nat) (b : Nat) (x0 x : Int32)  (hO : ok1 S B L P T w) (hT0 : T ≤ 9999) (hb9 : b < B) (hbad : x < 1 ∨ 6 < x) : Met l yX8_refusal (.code yX8_refusal cX8_refusal 4 (some .int) :: ws_all) ({ frames := 2, cells := 0, slots := 0, locals := 45 } : Room) (me_Pc [.ref mo, .int (nI b), .int x0, .int x] D tb X z0 (mq tb mo F w av od sv sl nz ip ot M0) n) (me_Qi D z0 0 (mq tb mo (upd F 0 2) w av od sv sl nz ip ot M0) n) 0 0 (me_A z0) := by
  refine me_open (by decide) (Nat.le_of_ble_eq_true rfl) ?_
  intro p e s m args below meth c ls hC hr hlk hnm hM hl
  have hl : lv_has ls 4 [(0, .ref mo), (1, .int (nI b)), (2, .int x0), (3, .int x)] := hl
  have hx := hC.1
  have hb := hC.2.1
  have hw := hC.2.2.2.2.1
  obtain ⟨hW, hZ, hT⟩ := id hO
  obtain ⟨hS, hS0, hB, hB0, hL, hL0, hP, hP0, hwb, hwl⟩ := id hW
  have hT2 : T ≤ 20000 := by omega
  refine lv_aload_n hx hb dX8_refusal_0 rfl (lv_at hl 0 rfl) ?_
  refine lv_iload_n hx hb dX8_refusal_1 rfl (lv_at hl 1 rfl) ?_
  refine me_callVi (As := [.int (nI b)]) (rest := []) hC hl.1 hM (c_X8_isBorrower l D tb X z0 n mo F w av od sv sl nz ip ot M0 (nI b) ) (kv_X8_292 hw rfl rfl ⟨Nat.le_of_ble_eq_true rfl, Nat.le_of_ble_eq_true rfl⟩) rfl rfl mq_F rfl (Nat.le_of_ble_eq_true rfl) dX8_refusal_2 ⟨Nat.le_of_ble_eq_true rfl, Nat.le_of_ble_eq_true rfl⟩ (fun H locs hM => ?_)
  refine lv_if_ne (tgt := 14) hx hb dX8_refusal_5 (by decide) (fun c_1 => ?_) (fun c_1 => ?_)
  · have c_1 := b1_n0.mp c_1
    refine lv_aload_n hx hb dX8_refusal_14 rfl (lv_at hl 0 rfl) ?_
    refine lv_iload_n hx hb dX8_refusal_15 rfl (lv_at hl 2 rfl) ?_
    refine lv_iload_n hx hb dX8_refusal_16 rfl (lv_at hl 3 rfl) ?_
    refine lv_bipush (v := 6) hx hb dX8_refusal_17 (by decide) ?_
    refine me_callVi (As := [.int x0, .int x, .int 6]) (rest := []) hC hl.1 hM (c_X8_areHours l D tb X z0 n mo F w av od sv sl nz ip ot M0 x0 x 6 ) (kv_X8_307 hw rfl rfl ⟨Nat.le_of_ble_eq_true rfl, Nat.le_of_ble_eq_true rfl⟩) rfl rfl mq_F rfl (Nat.le_of_ble_eq_true rfl) dX8_refusal_19 ⟨Nat.le_of_ble_eq_true rfl, Nat.le_of_ble_eq_true rfl⟩ (fun H locs hM => ?_)
    refine lv_if_eq (tgt := 39) hx hb dX8_refusal_22 (by decide) (fun c_2 => ?_) (fun c_2 => ?_)
    · have c_2 := b1_0.mp c_2
      refine lv_aload_n hx hb dX8_refusal_39 rfl (lv_at hl 0 rfl) ?_
      refine lv_iconst (v := 2) hx hb dX8_refusal_40 (by decide) ?_
      refine me_callVi (As := [.int 2]) (rest := []) hC hl.1 hM (c_X8_refuse l D tb X z0 n mo F w av od sv sl nz ip ot M0 (2 : Int32) ) (kv_X8_265 hw rfl rfl ⟨Nat.le_of_ble_eq_true rfl, Nat.le_of_ble_eq_true rfl⟩) rfl rfl mq_F rfl (Nat.le_of_ble_eq_true rfl) dX8_refusal_41 ⟨Nat.le_of_ble_eq_true rfl, Nat.le_of_ble_eq_true rfl⟩ (fun H locs hM => ?_)
      exact me_iret hC hr hlk hM (rfl) (rfl) (rfl) dX8_refusal_44
    · have c_2 := b1_n0.mp c_2
      exact absurd c_2 (ah_x1 hbad)
  · have c_1 := b1_0.mp c_1
    exact absurd (in_c hB (by omega) hb9) c_1
set_option maxHeartbeats 4000000 in
theorem c_X8_refusal_x3 (l : Launch) (D : va_G) (tb : Nat → ClassId) (X : State → Prop) (z0 n : Nat) (mo : Nat) (F w av od sv sl nz ip ot : Nat → Int32) (M0 : me_M) (S B L P : Nat) (T : Nat) (b : Nat) (x0 : Int32) (n9 : Nat)  (hO : ok1 S B L P T w) (hT0 : T ≤ 9999) (hb9 : b < B) (hn1 : 1 ≤ n9) (hn2 : n9 ≤ 6) (hbad : x0 < w 2 ∨ w 2 + 48 - nI n9 < x0) : Met l yX8_refusal (.code yX8_refusal cX8_refusal 4 (some .int) :: ws_all) ({ frames := 2, cells := 0, slots := 0, locals := 45 } : Room) (me_Pc [.ref mo, .int (nI b), .int x0, .int (nI n9)] D tb X z0 (mq tb mo F w av od sv sl nz ip ot M0) n) (me_Qi D z0 0 (mq tb mo (upd F 0 2) w av od sv sl nz ip ot M0) n) 0 0 (me_A z0) := by
  refine me_open (by decide) (Nat.le_of_ble_eq_true rfl) ?_
  intro p e s m args below meth c ls hC hr hlk hnm hM hl
  have hl : lv_has ls 4 [(0, .ref mo), (1, .int (nI b)), (2, .int x0), (3, .int (nI n9))] := hl
  have hx := hC.1
  have hb := hC.2.1
  have hw := hC.2.2.2.2.1
  obtain ⟨hW, hZ, hT⟩ := id hO
  obtain ⟨hS, hS0, hB, hB0, hL, hL0, hP, hP0, hwb, hwl⟩ := id hW
  have hT2 : T ≤ 20000 := by omega
  refine lv_aload_n hx hb dX8_refusal_0 rfl (lv_at hl 0 rfl) ?_
  refine lv_iload_n hx hb dX8_refusal_1 rfl (lv_at hl 1 rfl) ?_
  refine me_callVi (As := [.int (nI b)]) (rest := []) hC hl.1 hM (c_X8_isBorrower l D tb X z0 n mo F w av od sv sl nz ip ot M0 (nI b) ) (kv_X8_292 hw rfl rfl ⟨Nat.le_of_ble_eq_true rfl, Nat.le_of_ble_eq_true rfl⟩) rfl rfl mq_F rfl (Nat.le_of_ble_eq_true rfl) dX8_refusal_2 ⟨Nat.le_of_ble_eq_true rfl, Nat.le_of_ble_eq_true rfl⟩ (fun H locs hM => ?_)
  refine lv_if_ne (tgt := 14) hx hb dX8_refusal_5 (by decide) (fun c_1 => ?_) (fun c_1 => ?_)
  · have c_1 := b1_n0.mp c_1
    refine lv_aload_n hx hb dX8_refusal_14 rfl (lv_at hl 0 rfl) ?_
    refine lv_iload_n hx hb dX8_refusal_15 rfl (lv_at hl 2 rfl) ?_
    refine lv_iload_n hx hb dX8_refusal_16 rfl (lv_at hl 3 rfl) ?_
    refine lv_bipush (v := 6) hx hb dX8_refusal_17 (by decide) ?_
    refine me_callVi (As := [.int x0, .int (nI n9), .int 6]) (rest := []) hC hl.1 hM (c_X8_areHours l D tb X z0 n mo F w av od sv sl nz ip ot M0 x0 (nI n9) 6 ) (kv_X8_307 hw rfl rfl ⟨Nat.le_of_ble_eq_true rfl, Nat.le_of_ble_eq_true rfl⟩) rfl rfl mq_F rfl (Nat.le_of_ble_eq_true rfl) dX8_refusal_19 ⟨Nat.le_of_ble_eq_true rfl, Nat.le_of_ble_eq_true rfl⟩ (fun H locs hM => ?_)
    refine lv_if_eq (tgt := 39) hx hb dX8_refusal_22 (by decide) (fun c_2 => ?_) (fun c_2 => ?_)
    · have c_2 := b1_0.mp c_2
      refine lv_aload_n hx hb dX8_refusal_39 rfl (lv_at hl 0 rfl) ?_
      refine lv_iconst (v := 2) hx hb dX8_refusal_40 (by decide) ?_
      refine me_callVi (As := [.int 2]) (rest := []) hC hl.1 hM (c_X8_refuse l D tb X z0 n mo F w av od sv sl nz ip ot M0 (2 : Int32) ) (kv_X8_265 hw rfl rfl ⟨Nat.le_of_ble_eq_true rfl, Nat.le_of_ble_eq_true rfl⟩) rfl rfl mq_F rfl (Nat.le_of_ble_eq_true rfl) dX8_refusal_41 ⟨Nat.le_of_ble_eq_true rfl, Nat.le_of_ble_eq_true rfl⟩ (fun H locs hM => ?_)
      exact me_iret hC hr hlk hM (rfl) (rfl) (rfl) dX8_refusal_44
    · have c_2 := b1_n0.mp c_2
      exact absurd c_2 (ah_x2 hT hT2 hn1 (by omega) hbad)
  · have c_1 := b1_0.mp c_1
    exact absurd (in_c hB (by omega) hb9) c_1
set_option maxHeartbeats 4000000 in
theorem c_X8_causeOf (l : Launch) (D : va_G) (tb : Nat → ClassId) (X : State → Prop) (z0 n : Nat) (mo : Nat) (F w av od sv sl nz ip ot : Nat → Int32) (M0 : me_M) (S B L P : Nat) (T : Nat) (b s0 n9 : Nat)  (hO : ok1 S B L P T w) (hT0 : T ≤ 9999) (hb9 : b < B) (hs9 : s0 + n9 < 25000) : Met l yX8_causeOf (.code yX8_causeOf cX8_causeOf 5 (some .int) :: ws_all) ({ frames := 5, cells := 0, slots := 0, locals := 110 } : Room) (me_Pc [.ref mo, .int (reF w L P b s0 n9), .int (nI b), .int (nI s0), .int (nI n9)] D tb X z0 (mq tb mo F w av od sv sl nz ip ot M0) n) (me_Qi D z0 (cauF w L P b s0 n9) (mq tb mo F w av od sv sl nz ip ot M0) n) 0 0 (me_A z0) := by
  refine me_open (by decide) (Nat.le_of_ble_eq_true rfl) ?_
  intro p e s m args below meth c ls hC hr hlk hnm hM hl
  have hl : lv_has ls 5 [(0, .ref mo), (1, .int (reF w L P b s0 n9)), (2, .int (nI b)), (3, .int (nI s0)), (4, .int (nI n9))] := hl
  have hx := hC.1
  have hb := hC.2.1
  have hw := hC.2.2.2.2.1
  obtain ⟨hW, hZ, hT⟩ := id hO
  obtain ⟨hS, hS0, hB, hB0, hL, hL0, hP, hP0, hwb, hwl⟩ := id hW
  have hT2 : T ≤ 20000 := by omega
  refine lv_iload_n hx hb dX8_causeOf_0 rfl (lv_at hl 1 rfl) ?_
  rcases reF_01 w L P b s0 n9 with c_1 | c_1 | c_1 | c_1 | c_1 | c_1
  · refine me_evi (y := 0) c_1 ?_
    refine lv_tableOut (tgt := 80) hx hb dX8_causeOf_1 (by decide) (by decide) ?_
    refine lv_iconst (v := (-1)) hx hb dX8_causeOf_80 (by decide) ?_
    exact me_iret hC hr hlk hM (by unfold cauF; simp [c_1, fpF]) (rfl) (rfl) dX8_causeOf_81
  · refine me_evi (y := 1) c_1 ?_
    refine lv_tableIn (tgt := 32) hx hb dX8_causeOf_1 (by decide) (by decide) (off := 31) (by decide) (by decide) ?_
    refine lv_aload_n hx hb dX8_causeOf_32 rfl (lv_at hl 0 rfl) ?_
    refine lv_iload_n hx hb dX8_causeOf_33 rfl (lv_at hl 2 rfl) ?_
    refine me_callVi (As := [.int (nI b)]) (rest := []) hC hl.1 hM (c_X8_firstOverdue l D tb X z0 n mo F w av od sv sl nz ip ot M0 L (nI b) hL hL0) (kv_X8_125 hw rfl rfl ⟨Nat.le_of_ble_eq_true rfl, Nat.le_of_ble_eq_true rfl⟩) rfl rfl mq_F rfl (Nat.le_of_ble_eq_true rfl) dX8_causeOf_34 ⟨Nat.le_of_ble_eq_true rfl, Nat.le_of_ble_eq_true rfl⟩ (fun H locs hM => ?_)
    exact me_iret hC hr hlk hM (by unfold cauF; simp [c_1, fpF]) (rfl) (rfl) dX8_causeOf_37
  · refine me_evi (y := 2) c_1 ?_
    refine lv_tableIn (tgt := 38) hx hb dX8_causeOf_1 (by decide) (by decide) (off := 37) (by decide) (by decide) ?_
    refine lv_aload_n hx hb dX8_causeOf_38 rfl (lv_at hl 0 rfl) ?_
    refine lv_aload_n hx hb dX8_causeOf_39 rfl (lv_at hl 0 rfl) ?_
    refine lv_iload_n hx hb dX8_causeOf_40 rfl (lv_at hl 2 rfl) ?_
    refine me_callVi (As := [.int (nI b)]) (rest := [.ref mo]) hC hl.1 hM (c_X8_homeOf l D tb X z0 n mo F w av od sv sl nz ip ot M0 b (by omega)) (kv_X8_106 hw rfl rfl ⟨Nat.le_of_ble_eq_true rfl, Nat.le_of_ble_eq_true rfl⟩) rfl rfl mq_F rfl (Nat.le_of_ble_eq_true rfl) dX8_causeOf_41 ⟨Nat.le_of_ble_eq_true rfl, Nat.le_of_ble_eq_true rfl⟩ (fun H locs hM => ?_)
    refine lv_iload_n hx hb dX8_causeOf_44 rfl (lv_at hl 3 rfl) ?_
    refine lv_iload hx hb dX8_causeOf_45 (lv_at hl 4 rfl) ?_
    refine me_callVi (As := [.int (w (89 + 11 * b)), .int (nI s0), .int (nI n9)]) (rest := []) hC hl.1 hM (c_X8_drumsIn l D tb X z0 n mo F w av od sv sl nz ip ot M0 S B L P (w (89 + 11 * b)) s0 n9 hW hZ (by omega)) (kv_X8_128 hw rfl rfl ⟨Nat.le_of_ble_eq_true rfl, Nat.le_of_ble_eq_true rfl⟩) rfl rfl mq_F rfl (Nat.le_of_ble_eq_true rfl) dX8_causeOf_47 ⟨Nat.le_of_ble_eq_true rfl, Nat.le_of_ble_eq_true rfl⟩ (fun H locs hM => ?_)
    exact me_iret hC hr hlk hM (by unfold cauF; simp [c_1, fpF]) (rfl) (rfl) dX8_causeOf_50
  · refine me_evi (y := 3) c_1 ?_
    refine lv_tableIn (tgt := 51) hx hb dX8_causeOf_1 (by decide) (by decide) (off := 50) (by decide) (by decide) ?_
    refine lv_aload_n hx hb dX8_causeOf_51 rfl (lv_at hl 0 rfl) ?_
    refine lv_iload_n hx hb dX8_causeOf_52 rfl (lv_at hl 2 rfl) ?_
    refine lv_iload_n hx hb dX8_causeOf_53 rfl (lv_at hl 3 rfl) ?_
    refine lv_iload hx hb dX8_causeOf_54 (lv_at hl 4 rfl) ?_
    refine me_callVi (As := [.int (nI b), .int (nI s0), .int (nI n9)]) (rest := []) hC hl.1 hM (c_X8_firstKept l D tb X z0 n mo F w av od sv sl nz ip ot M0 S B L P b s0 n9 hW hZ (by omega) (by omega)) (kv_X8_132 hw rfl rfl ⟨Nat.le_of_ble_eq_true rfl, Nat.le_of_ble_eq_true rfl⟩) rfl rfl mq_F rfl (Nat.le_of_ble_eq_true rfl) dX8_causeOf_56 ⟨Nat.le_of_ble_eq_true rfl, Nat.le_of_ble_eq_true rfl⟩ (fun H locs hM => ?_)
    exact me_iret hC hr hlk hM (by unfold cauF; simp [c_1, fpF]) (rfl) (rfl) dX8_causeOf_59
  · refine me_evi (y := 4) c_1 ?_
    refine lv_tableIn (tgt := 60) hx hb dX8_causeOf_1 (by decide) (by decide) (off := 59) (by decide) (by decide) ?_
    refine lv_aload_n hx hb dX8_causeOf_60 rfl (lv_at hl 0 rfl) ?_
    refine lv_iload_n hx hb dX8_causeOf_61 rfl (lv_at hl 2 rfl) ?_
    refine lv_iload hx hb dX8_causeOf_62 (lv_at hl 4 rfl) ?_
    refine me_callVi (As := [.int (nI b), .int (nI n9)]) (rest := []) hC hl.1 hM (c_X8_priceFor l D tb X z0 n mo F w av od sv sl nz ip ot M0 S B L P b (nI n9) hW (by omega)) (kv_X8_135 hw rfl rfl ⟨Nat.le_of_ble_eq_true rfl, Nat.le_of_ble_eq_true rfl⟩) rfl rfl mq_F rfl (Nat.le_of_ble_eq_true rfl) dX8_causeOf_64 ⟨Nat.le_of_ble_eq_true rfl, Nat.le_of_ble_eq_true rfl⟩ (fun H locs hM => ?_)
    refine lv_aload_n hx hb dX8_causeOf_67 rfl (lv_at hl 0 rfl) ?_
    refine fg_X8_13 hC hM mq_F rfl dX8_causeOf_68 ?_
    refine lv_iload_n hx hb dX8_causeOf_71 rfl (lv_at hl 2 rfl) ?_
    refine me_callSi (As := [.int (nI b)]) (rest := [.ref (mo + 2), .int (prF w b (nI n9))]) hC hl.1 hM (c_X8_b l D tb X z0 n _ b ) (ks_X8_78 hw rfl rfl ⟨Nat.le_of_ble_eq_true rfl, Nat.le_of_ble_eq_true rfl⟩) rfl rfl (Nat.le_of_ble_eq_true rfl) dX8_causeOf_72 ⟨Nat.le_of_ble_eq_true rfl, Nat.le_of_ble_eq_true rfl⟩ (fun H locs hM => ?_)
    refine lv_iconst (v := 2) hx hb dX8_causeOf_75 (by decide) ?_
    refine lv_iadd hx hb dX8_causeOf_76 ?_
    refine me_iald (k := 89 + 11 * b + 2) hC hM mq_w (nx_add rfl (nx_c 2)) (by omega) (by decide) dX8_causeOf_77 ?_
    refine lv_isub hx hb dX8_causeOf_78 ?_
    exact me_iret hC hr hlk hM (by unfold cauF; simp [c_1, fpF]) (rfl) (rfl) dX8_causeOf_79
  · refine me_evi (y := 5) c_1 ?_
    refine lv_tableOut (tgt := 80) hx hb dX8_causeOf_1 (by decide) (by decide) ?_
    refine lv_iconst (v := (-1)) hx hb dX8_causeOf_80 (by decide) ?_
    exact me_iret hC hr hlk hM (by unfold cauF; simp [c_1, fpF]) (rfl) (rfl) dX8_causeOf_81
set_option maxHeartbeats 4000000 in
theorem c_X8_refusalCause (l : Launch) (D : va_G) (tb : Nat → ClassId) (X : State → Prop) (z0 n : Nat) (mo : Nat) (F w av od sv sl nz ip ot : Nat → Int32) (M0 : me_M) (S B L P : Nat) (T : Nat) (b s0 n9 : Nat)  (hO : ok1 S B L P T w) (hT0 : T ≤ 9999) (hb9 : b < B) (hn1 : 1 ≤ n9) (hn2 : n9 ≤ 6) (hs1 : T ≤ s0) (hs2 : s0 + n9 ≤ T + 48) : Met l yX8_refusalCause (.code yX8_refusalCause cX8_refusalCause 4 (some .int) :: ws_all) ({ frames := 6, cells := 0, slots := 0, locals := 134 } : Room) (me_Pc [.ref mo, .int (nI b), .int (nI s0), .int (nI n9)] D tb X z0 (mq tb mo F w av od sv sl nz ip ot M0) n) (me_Qi D z0 (cauF w L P b s0 n9) (mq tb mo (upd F 0 0) w av od sv sl nz ip ot M0) n) 0 0 (me_A z0) := by
  refine me_open (by decide) (Nat.le_of_ble_eq_true rfl) ?_
  intro p e s m args below meth c ls hC hr hlk hnm hM hl
  have hl : lv_has ls 4 [(0, .ref mo), (1, .int (nI b)), (2, .int (nI s0)), (3, .int (nI n9))] := hl
  have hx := hC.1
  have hb := hC.2.1
  have hw := hC.2.2.2.2.1
  obtain ⟨hW, hZ, hT⟩ := id hO
  obtain ⟨hS, hS0, hB, hB0, hL, hL0, hP, hP0, hwb, hwl⟩ := id hW
  have hT2 : T ≤ 20000 := by omega
  refine lv_aload_n hx hb dX8_refusalCause_0 rfl (lv_at hl 0 rfl) ?_
  refine lv_iload_n hx hb dX8_refusalCause_1 rfl (lv_at hl 1 rfl) ?_
  refine me_callVi (As := [.int (nI b)]) (rest := []) hC hl.1 hM (c_X8_isBorrower l D tb X z0 n mo F w av od sv sl nz ip ot M0 (nI b) ) (kv_X8_292 hw rfl rfl ⟨Nat.le_of_ble_eq_true rfl, Nat.le_of_ble_eq_true rfl⟩) rfl rfl mq_F rfl (Nat.le_of_ble_eq_true rfl) dX8_refusalCause_2 ⟨Nat.le_of_ble_eq_true rfl, Nat.le_of_ble_eq_true rfl⟩ (fun H locs hM => ?_)
  refine lv_if_ne (tgt := 14) hx hb dX8_refusalCause_5 (by decide) (fun c_1 => ?_) (fun c_1 => ?_)
  · have c_1 := b1_n0.mp c_1
    refine lv_aload_n hx hb dX8_refusalCause_14 rfl (lv_at hl 0 rfl) ?_
    refine lv_iload_n hx hb dX8_refusalCause_15 rfl (lv_at hl 2 rfl) ?_
    refine lv_iload_n hx hb dX8_refusalCause_16 rfl (lv_at hl 3 rfl) ?_
    refine lv_bipush (v := 6) hx hb dX8_refusalCause_17 (by decide) ?_
    refine me_callVi (As := [.int (nI s0), .int (nI n9), .int 6]) (rest := []) hC hl.1 hM (c_X8_areHours l D tb X z0 n mo F w av od sv sl nz ip ot M0 (nI s0) (nI n9) 6 ) (kv_X8_307 hw rfl rfl ⟨Nat.le_of_ble_eq_true rfl, Nat.le_of_ble_eq_true rfl⟩) rfl rfl mq_F rfl (Nat.le_of_ble_eq_true rfl) dX8_refusalCause_19 ⟨Nat.le_of_ble_eq_true rfl, Nat.le_of_ble_eq_true rfl⟩ (fun H locs hM => ?_)
    refine lv_if_ne (tgt := 31) hx hb dX8_refusalCause_22 (by decide) (fun c_2 => ?_) (fun c_2 => ?_)
    · have c_2 := b1_n0.mp c_2
      refine lv_aload_n hx hb dX8_refusalCause_31 rfl (lv_at hl 0 rfl) ?_
      refine lv_aload_n hx hb dX8_refusalCause_32 rfl (lv_at hl 0 rfl) ?_
      refine lv_aload_n hx hb dX8_refusalCause_33 rfl (lv_at hl 0 rfl) ?_
      refine lv_iload_n hx hb dX8_refusalCause_34 rfl (lv_at hl 1 rfl) ?_
      refine lv_iload_n hx hb dX8_refusalCause_35 rfl (lv_at hl 2 rfl) ?_
      refine lv_iload_n hx hb dX8_refusalCause_36 rfl (lv_at hl 3 rfl) ?_
      refine me_callVi (As := [.int (nI b), .int (nI s0), .int (nI n9)]) (rest := [.ref mo, .ref mo]) hC hl.1 hM (c_X8_reasonFor l D tb X z0 n mo F w av od sv sl nz ip ot M0 S B L P b s0 n9 hW hZ (by omega) (by omega)) (kv_X8_232 hw rfl rfl ⟨Nat.le_of_ble_eq_true rfl, Nat.le_of_ble_eq_true rfl⟩) rfl rfl mq_F rfl (Nat.le_of_ble_eq_true rfl) dX8_refusalCause_37 ⟨Nat.le_of_ble_eq_true rfl, Nat.le_of_ble_eq_true rfl⟩ (fun H locs hM => ?_)
      refine lv_iload_n hx hb dX8_refusalCause_40 rfl (lv_at hl 1 rfl) ?_
      refine lv_iload_n hx hb dX8_refusalCause_41 rfl (lv_at hl 2 rfl) ?_
      refine lv_iload_n hx hb dX8_refusalCause_42 rfl (lv_at hl 3 rfl) ?_
      refine me_callVi (As := [.int (reF w L P b s0 n9), .int (nI b), .int (nI s0), .int (nI n9)]) (rest := [.ref mo]) hC hl.1 hM (c_X8_causeOf l D tb X z0 n mo F w av od sv sl nz ip ot M0 S B L P T b s0 n9 hO hT0 (by omega) (by omega)) (kv_X8_310 hw rfl rfl ⟨Nat.le_of_ble_eq_true rfl, Nat.le_of_ble_eq_true rfl⟩) rfl rfl mq_F rfl (Nat.le_of_ble_eq_true rfl) dX8_refusalCause_43 ⟨Nat.le_of_ble_eq_true rfl, Nat.le_of_ble_eq_true rfl⟩ (fun H locs hM => ?_)
      refine me_callVi (As := [.int (cauF w L P b s0 n9)]) (rest := []) hC hl.1 hM (c_X8_told l D tb X z0 n mo F w av od sv sl nz ip ot M0 (cauF w L P b s0 n9) ) (kv_X8_271 hw rfl rfl ⟨Nat.le_of_ble_eq_true rfl, Nat.le_of_ble_eq_true rfl⟩) rfl rfl mq_F rfl (Nat.le_of_ble_eq_true rfl) dX8_refusalCause_46 ⟨Nat.le_of_ble_eq_true rfl, Nat.le_of_ble_eq_true rfl⟩ (fun H locs hM => ?_)
      exact me_iret hC hr hlk hM (by first | rfl | simp [c_1, c_2]) (rfl) (rfl) dX8_refusalCause_49
    · have c_2 := b1_0.mp c_2
      exact absurd (ah_c (m := 6) hT hT2 hn1 hn2 (by omega) hs1 hs2) c_2
  · have c_1 := b1_0.mp c_1
    exact absurd (in_c hB (by omega) hb9) c_1
set_option maxHeartbeats 4000000 in
theorem c_X8_refusalCause_x1 (l : Launch) (D : va_G) (tb : Nat → ClassId) (X : State → Prop) (z0 n : Nat) (mo : Nat) (F w av od sv sl nz ip ot : Nat → Int32) (M0 : me_M) (S B L P : Nat) (T : Nat) (x : Int32) (y9 z9 : Int32)  (hO : ok1 S B L P T w) (hT0 : T ≤ 9999) (hbad : x < 0 ∨ w 4 ≤ x) : Met l yX8_refusalCause (.code yX8_refusalCause cX8_refusalCause 4 (some .int) :: ws_all) ({ frames := 2, cells := 0, slots := 0, locals := 43 } : Room) (me_Pc [.ref mo, .int x, .int y9, .int z9] D tb X z0 (mq tb mo F w av od sv sl nz ip ot M0) n) (me_Qi D z0 0 (mq tb mo (upd F 0 1) w av od sv sl nz ip ot M0) n) 0 0 (me_A z0) := by
  refine me_open (by decide) (Nat.le_of_ble_eq_true rfl) ?_
  intro p e s m args below meth c ls hC hr hlk hnm hM hl
  have hl : lv_has ls 4 [(0, .ref mo), (1, .int x), (2, .int y9), (3, .int z9)] := hl
  have hx := hC.1
  have hb := hC.2.1
  have hw := hC.2.2.2.2.1
  obtain ⟨hW, hZ, hT⟩ := id hO
  obtain ⟨hS, hS0, hB, hB0, hL, hL0, hP, hP0, hwb, hwl⟩ := id hW
  have hT2 : T ≤ 20000 := by omega
  refine lv_aload_n hx hb dX8_refusalCause_0 rfl (lv_at hl 0 rfl) ?_
  refine lv_iload_n hx hb dX8_refusalCause_1 rfl (lv_at hl 1 rfl) ?_
  refine me_callVi (As := [.int x]) (rest := []) hC hl.1 hM (c_X8_isBorrower l D tb X z0 n mo F w av od sv sl nz ip ot M0 x ) (kv_X8_292 hw rfl rfl ⟨Nat.le_of_ble_eq_true rfl, Nat.le_of_ble_eq_true rfl⟩) rfl rfl mq_F rfl (Nat.le_of_ble_eq_true rfl) dX8_refusalCause_2 ⟨Nat.le_of_ble_eq_true rfl, Nat.le_of_ble_eq_true rfl⟩ (fun H locs hM => ?_)
  refine lv_if_ne (tgt := 14) hx hb dX8_refusalCause_5 (by decide) (fun c_1 => ?_) (fun c_1 => ?_)
  · have c_1 := b1_n0.mp c_1
    exact absurd c_1 (in_x hB (by omega) hbad)
  · have c_1 := b1_0.mp c_1
    refine lv_aload_n hx hb dX8_refusalCause_8 rfl (lv_at hl 0 rfl) ?_
    refine lv_iconst (v := 1) hx hb dX8_refusalCause_9 (by decide) ?_
    refine me_callVi (As := [.int 1]) (rest := []) hC hl.1 hM (c_X8_refuse l D tb X z0 n mo F w av od sv sl nz ip ot M0 (1 : Int32) ) (kv_X8_265 hw rfl rfl ⟨Nat.le_of_ble_eq_true rfl, Nat.le_of_ble_eq_true rfl⟩) rfl rfl mq_F rfl (Nat.le_of_ble_eq_true rfl) dX8_refusalCause_10 ⟨Nat.le_of_ble_eq_true rfl, Nat.le_of_ble_eq_true rfl⟩ (fun H locs hM => ?_)
    exact me_iret hC hr hlk hM (rfl) (rfl) (rfl) dX8_refusalCause_13
set_option maxHeartbeats 4000000 in
theorem c_X8_refusalCause_x2 (l : Launch) (D : va_G) (tb : Nat → ClassId) (X : State → Prop) (z0 n : Nat) (mo : Nat) (F w av od sv sl nz ip ot : Nat → Int32) (M0 : me_M) (S B L P : Nat) (T : Nat) (b : Nat) (x0 x : Int32)  (hO : ok1 S B L P T w) (hT0 : T ≤ 9999) (hb9 : b < B) (hbad : x < 1 ∨ 6 < x) : Met l yX8_refusalCause (.code yX8_refusalCause cX8_refusalCause 4 (some .int) :: ws_all) ({ frames := 2, cells := 0, slots := 0, locals := 45 } : Room) (me_Pc [.ref mo, .int (nI b), .int x0, .int x] D tb X z0 (mq tb mo F w av od sv sl nz ip ot M0) n) (me_Qi D z0 0 (mq tb mo (upd F 0 2) w av od sv sl nz ip ot M0) n) 0 0 (me_A z0) := by
  refine me_open (by decide) (Nat.le_of_ble_eq_true rfl) ?_
  intro p e s m args below meth c ls hC hr hlk hnm hM hl
  have hl : lv_has ls 4 [(0, .ref mo), (1, .int (nI b)), (2, .int x0), (3, .int x)] := hl
  have hx := hC.1
  have hb := hC.2.1
  have hw := hC.2.2.2.2.1
  obtain ⟨hW, hZ, hT⟩ := id hO
  obtain ⟨hS, hS0, hB, hB0, hL, hL0, hP, hP0, hwb, hwl⟩ := id hW
  have hT2 : T ≤ 20000 := by omega
  refine lv_aload_n hx hb dX8_refusalCause_0 rfl (lv_at hl 0 rfl) ?_
  refine lv_iload_n hx hb dX8_refusalCause_1 rfl (lv_at hl 1 rfl) ?_
  refine me_callVi (As := [.int (nI b)]) (rest := []) hC hl.1 hM (c_X8_isBorrower l D tb X z0 n mo F w av od sv sl nz ip ot M0 (nI b) ) (kv_X8_292 hw rfl rfl ⟨Nat.le_of_ble_eq_true rfl, Nat.le_of_ble_eq_true rfl⟩) rfl rfl mq_F rfl (Nat.le_of_ble_eq_true rfl) dX8_refusalCause_2 ⟨Nat.le_of_ble_eq_true rfl, Nat.le_of_ble_eq_true rfl⟩ (fun H locs hM => ?_)
  refine lv_if_ne (tgt := 14) hx hb dX8_refusalCause_5 (by decide) (fun c_1 => ?_) (fun c_1 => ?_)
  · have c_1 := b1_n0.mp c_1
    refine lv_aload_n hx hb dX8_refusalCause_14 rfl (lv_at hl 0 rfl) ?_
    refine lv_iload_n hx hb dX8_refusalCause_15 rfl (lv_at hl 2 rfl) ?_
    refine lv_iload_n hx hb dX8_refusalCause_16 rfl (lv_at hl 3 rfl) ?_
    refine lv_bipush (v := 6) hx hb dX8_refusalCause_17 (by decide) ?_
    refine me_callVi (As := [.int x0, .int x, .int 6]) (rest := []) hC hl.1 hM (c_X8_areHours l D tb X z0 n mo F w av od sv sl nz ip ot M0 x0 x 6 ) (kv_X8_307 hw rfl rfl ⟨Nat.le_of_ble_eq_true rfl, Nat.le_of_ble_eq_true rfl⟩) rfl rfl mq_F rfl (Nat.le_of_ble_eq_true rfl) dX8_refusalCause_19 ⟨Nat.le_of_ble_eq_true rfl, Nat.le_of_ble_eq_true rfl⟩ (fun H locs hM => ?_)
    refine lv_if_ne (tgt := 31) hx hb dX8_refusalCause_22 (by decide) (fun c_2 => ?_) (fun c_2 => ?_)
    · have c_2 := b1_n0.mp c_2
      exact absurd c_2 (ah_x1 hbad)
    · have c_2 := b1_0.mp c_2
      refine lv_aload_n hx hb dX8_refusalCause_25 rfl (lv_at hl 0 rfl) ?_
      refine lv_iconst (v := 2) hx hb dX8_refusalCause_26 (by decide) ?_
      refine me_callVi (As := [.int 2]) (rest := []) hC hl.1 hM (c_X8_refuse l D tb X z0 n mo F w av od sv sl nz ip ot M0 (2 : Int32) ) (kv_X8_265 hw rfl rfl ⟨Nat.le_of_ble_eq_true rfl, Nat.le_of_ble_eq_true rfl⟩) rfl rfl mq_F rfl (Nat.le_of_ble_eq_true rfl) dX8_refusalCause_27 ⟨Nat.le_of_ble_eq_true rfl, Nat.le_of_ble_eq_true rfl⟩ (fun H locs hM => ?_)
      exact me_iret hC hr hlk hM (rfl) (rfl) (rfl) dX8_refusalCause_30
  · have c_1 := b1_0.mp c_1
    exact absurd (in_c hB (by omega) hb9) c_1
set_option maxHeartbeats 4000000 in
theorem c_X8_refusalCause_x3 (l : Launch) (D : va_G) (tb : Nat → ClassId) (X : State → Prop) (z0 n : Nat) (mo : Nat) (F w av od sv sl nz ip ot : Nat → Int32) (M0 : me_M) (S B L P : Nat) (T : Nat) (b : Nat) (x0 : Int32) (n9 : Nat)  (hO : ok1 S B L P T w) (hT0 : T ≤ 9999) (hb9 : b < B) (hn1 : 1 ≤ n9) (hn2 : n9 ≤ 6) (hbad : x0 < w 2 ∨ w 2 + 48 - nI n9 < x0) : Met l yX8_refusalCause (.code yX8_refusalCause cX8_refusalCause 4 (some .int) :: ws_all) ({ frames := 2, cells := 0, slots := 0, locals := 45 } : Room) (me_Pc [.ref mo, .int (nI b), .int x0, .int (nI n9)] D tb X z0 (mq tb mo F w av od sv sl nz ip ot M0) n) (me_Qi D z0 0 (mq tb mo (upd F 0 2) w av od sv sl nz ip ot M0) n) 0 0 (me_A z0) := by
  refine me_open (by decide) (Nat.le_of_ble_eq_true rfl) ?_
  intro p e s m args below meth c ls hC hr hlk hnm hM hl
  have hl : lv_has ls 4 [(0, .ref mo), (1, .int (nI b)), (2, .int x0), (3, .int (nI n9))] := hl
  have hx := hC.1
  have hb := hC.2.1
  have hw := hC.2.2.2.2.1
  obtain ⟨hW, hZ, hT⟩ := id hO
  obtain ⟨hS, hS0, hB, hB0, hL, hL0, hP, hP0, hwb, hwl⟩ := id hW
  have hT2 : T ≤ 20000 := by omega
  refine lv_aload_n hx hb dX8_refusalCause_0 rfl (lv_at hl 0 rfl) ?_
  refine lv_iload_n hx hb dX8_refusalCause_1 rfl (lv_at hl 1 rfl) ?_
  refine me_callVi (As := [.int (nI b)]) (rest := []) hC hl.1 hM (c_X8_isBorrower l D tb X z0 n mo F w av od sv sl nz ip ot M0 (nI b) ) (kv_X8_292 hw rfl rfl ⟨Nat.le_of_ble_eq_true rfl, Nat.le_of_ble_eq_true rfl⟩) rfl rfl mq_F rfl (Nat.le_of_ble_eq_true rfl) dX8_refusalCause_2 ⟨Nat.le_of_ble_eq_true rfl, Nat.le_of_ble_eq_true rfl⟩ (fun H locs hM => ?_)
  refine lv_if_ne (tgt := 14) hx hb dX8_refusalCause_5 (by decide) (fun c_1 => ?_) (fun c_1 => ?_)
  · have c_1 := b1_n0.mp c_1
    refine lv_aload_n hx hb dX8_refusalCause_14 rfl (lv_at hl 0 rfl) ?_
    refine lv_iload_n hx hb dX8_refusalCause_15 rfl (lv_at hl 2 rfl) ?_
    refine lv_iload_n hx hb dX8_refusalCause_16 rfl (lv_at hl 3 rfl) ?_
    refine lv_bipush (v := 6) hx hb dX8_refusalCause_17 (by decide) ?_
    refine me_callVi (As := [.int x0, .int (nI n9), .int 6]) (rest := []) hC hl.1 hM (c_X8_areHours l D tb X z0 n mo F w av od sv sl nz ip ot M0 x0 (nI n9) 6 ) (kv_X8_307 hw rfl rfl ⟨Nat.le_of_ble_eq_true rfl, Nat.le_of_ble_eq_true rfl⟩) rfl rfl mq_F rfl (Nat.le_of_ble_eq_true rfl) dX8_refusalCause_19 ⟨Nat.le_of_ble_eq_true rfl, Nat.le_of_ble_eq_true rfl⟩ (fun H locs hM => ?_)
    refine lv_if_ne (tgt := 31) hx hb dX8_refusalCause_22 (by decide) (fun c_2 => ?_) (fun c_2 => ?_)
    · have c_2 := b1_n0.mp c_2
      exact absurd c_2 (ah_x2 hT hT2 hn1 (by omega) hbad)
    · have c_2 := b1_0.mp c_2
      refine lv_aload_n hx hb dX8_refusalCause_25 rfl (lv_at hl 0 rfl) ?_
      refine lv_iconst (v := 2) hx hb dX8_refusalCause_26 (by decide) ?_
      refine me_callVi (As := [.int 2]) (rest := []) hC hl.1 hM (c_X8_refuse l D tb X z0 n mo F w av od sv sl nz ip ot M0 (2 : Int32) ) (kv_X8_265 hw rfl rfl ⟨Nat.le_of_ble_eq_true rfl, Nat.le_of_ble_eq_true rfl⟩) rfl rfl mq_F rfl (Nat.le_of_ble_eq_true rfl) dX8_refusalCause_27 ⟨Nat.le_of_ble_eq_true rfl, Nat.le_of_ble_eq_true rfl⟩ (fun H locs hM => ?_)
      exact me_iret hC hr hlk hM (rfl) (rfl) (rfl) dX8_refusalCause_30
  · have c_1 := b1_0.mp c_1
    exact absurd (in_c hB (by omega) hb9) c_1
set_option maxHeartbeats 4000000 in
theorem c_X8_displacedBy (l : Launch) (D : va_G) (tb : Nat → ClassId) (X : State → Prop) (z0 n : Nat) (mo : Nat) (F w av od sv sl nz ip ot : Nat → Int32) (M0 : me_M) (S B L P : Nat) (T : Nat) (b s0 n9 : Nat)  (hO : ok1 S B L P T w) (hT0 : T ≤ 9999) (hb9 : b < B) (hn1 : 1 ≤ n9) (hn2 : n9 ≤ 6) (hs1 : T ≤ s0) (hs2 : s0 + n9 ≤ T + 48) : Met l yX8_displacedBy (.code yX8_displacedBy cX8_displacedBy 4 (some .int) :: ws_all) ({ frames := 6, cells := 0, slots := 0, locals := 133 } : Room) (me_Pc [.ref mo, .int (nI b), .int (nI s0), .int (nI n9)] D tb X z0 (mq tb mo F w av od sv sl nz ip ot M0) n) (me_Qi D z0 (dispF w L P b s0 n9) (mq tb mo (upd F 0 0) w av od sv sl nz ip ot M0) n) 0 0 (me_A z0) := by
  refine me_open (by decide) (Nat.le_of_ble_eq_true rfl) ?_
  intro p e s m args below meth c ls hC hr hlk hnm hM hl
  have hl : lv_has ls 4 [(0, .ref mo), (1, .int (nI b)), (2, .int (nI s0)), (3, .int (nI n9))] := hl
  have hx := hC.1
  have hb := hC.2.1
  have hw := hC.2.2.2.2.1
  obtain ⟨hW, hZ, hT⟩ := id hO
  obtain ⟨hS, hS0, hB, hB0, hL, hL0, hP, hP0, hwb, hwl⟩ := id hW
  have hT2 : T ≤ 20000 := by omega
  refine lv_aload_n hx hb dX8_displacedBy_0 rfl (lv_at hl 0 rfl) ?_
  refine lv_iload_n hx hb dX8_displacedBy_1 rfl (lv_at hl 1 rfl) ?_
  refine me_callVi (As := [.int (nI b)]) (rest := []) hC hl.1 hM (c_X8_isBorrower l D tb X z0 n mo F w av od sv sl nz ip ot M0 (nI b) ) (kv_X8_292 hw rfl rfl ⟨Nat.le_of_ble_eq_true rfl, Nat.le_of_ble_eq_true rfl⟩) rfl rfl mq_F rfl (Nat.le_of_ble_eq_true rfl) dX8_displacedBy_2 ⟨Nat.le_of_ble_eq_true rfl, Nat.le_of_ble_eq_true rfl⟩ (fun H locs hM => ?_)
  refine lv_if_ne (tgt := 14) hx hb dX8_displacedBy_5 (by decide) (fun c_1 => ?_) (fun c_1 => ?_)
  · have c_1 := b1_n0.mp c_1
    refine lv_aload_n hx hb dX8_displacedBy_14 rfl (lv_at hl 0 rfl) ?_
    refine lv_iload_n hx hb dX8_displacedBy_15 rfl (lv_at hl 2 rfl) ?_
    refine lv_iload_n hx hb dX8_displacedBy_16 rfl (lv_at hl 3 rfl) ?_
    refine lv_bipush (v := 6) hx hb dX8_displacedBy_17 (by decide) ?_
    refine me_callVi (As := [.int (nI s0), .int (nI n9), .int 6]) (rest := []) hC hl.1 hM (c_X8_areHours l D tb X z0 n mo F w av od sv sl nz ip ot M0 (nI s0) (nI n9) 6 ) (kv_X8_307 hw rfl rfl ⟨Nat.le_of_ble_eq_true rfl, Nat.le_of_ble_eq_true rfl⟩) rfl rfl mq_F rfl (Nat.le_of_ble_eq_true rfl) dX8_displacedBy_19 ⟨Nat.le_of_ble_eq_true rfl, Nat.le_of_ble_eq_true rfl⟩ (fun H locs hM => ?_)
    refine lv_if_ne (tgt := 31) hx hb dX8_displacedBy_22 (by decide) (fun c_2 => ?_) (fun c_2 => ?_)
    · have c_2 := b1_n0.mp c_2
      refine lv_aload_n hx hb dX8_displacedBy_31 rfl (lv_at hl 0 rfl) ?_
      refine lv_aload_n hx hb dX8_displacedBy_32 rfl (lv_at hl 0 rfl) ?_
      refine lv_iload_n hx hb dX8_displacedBy_33 rfl (lv_at hl 1 rfl) ?_
      refine lv_iload_n hx hb dX8_displacedBy_34 rfl (lv_at hl 2 rfl) ?_
      refine lv_iload_n hx hb dX8_displacedBy_35 rfl (lv_at hl 3 rfl) ?_
      refine me_callVi (As := [.int (nI b), .int (nI s0), .int (nI n9)]) (rest := [.ref mo]) hC hl.1 hM (c_X8_reasonFor l D tb X z0 n mo F w av od sv sl nz ip ot M0 S B L P b s0 n9 hW hZ (by omega) (by omega)) (kv_X8_232 hw rfl rfl ⟨Nat.le_of_ble_eq_true rfl, Nat.le_of_ble_eq_true rfl⟩) rfl rfl mq_F rfl (Nat.le_of_ble_eq_true rfl) dX8_displacedBy_36 ⟨Nat.le_of_ble_eq_true rfl, Nat.le_of_ble_eq_true rfl⟩ (fun H locs hM => ?_)
      refine lv_if_ne (tgt := 51) hx hb dX8_displacedBy_39 (by decide) (fun c_3 => ?_) (fun c_3 => ?_)
      · refine lv_iconst (v := (-1)) hx hb dX8_displacedBy_51 (by decide) ?_
        refine me_callVi (As := [.int (-1)]) (rest := []) hC hl.1 hM (c_X8_told l D tb X z0 n mo F w av od sv sl nz ip ot M0 (-1) ) (kv_X8_271 hw rfl rfl ⟨Nat.le_of_ble_eq_true rfl, Nat.le_of_ble_eq_true rfl⟩) rfl rfl mq_F rfl (Nat.le_of_ble_eq_true rfl) dX8_displacedBy_52 ⟨Nat.le_of_ble_eq_true rfl, Nat.le_of_ble_eq_true rfl⟩ (fun H locs hM => ?_)
        exact me_iret hC hr hlk hM (by first | rfl | simp [dispF, c_1, c_2, c_3]) (rfl) (rfl) dX8_displacedBy_55
      · refine lv_aload_n hx hb dX8_displacedBy_42 rfl (lv_at hl 0 rfl) ?_
        refine lv_iload_n hx hb dX8_displacedBy_43 rfl (lv_at hl 2 rfl) ?_
        refine lv_iload_n hx hb dX8_displacedBy_44 rfl (lv_at hl 3 rfl) ?_
        refine me_callVi (As := [.int (nI s0), .int (nI n9)]) (rest := [.ref mo]) hC hl.1 hM (c_X8_displacedMany l D tb X z0 n mo F w av od sv sl nz ip ot M0 L (nI s0) (nI n9) hL hL0 hZ) (kv_X8_314 hw rfl rfl ⟨Nat.le_of_ble_eq_true rfl, Nat.le_of_ble_eq_true rfl⟩) rfl rfl mq_F rfl (Nat.le_of_ble_eq_true rfl) dX8_displacedBy_45 ⟨Nat.le_of_ble_eq_true rfl, Nat.le_of_ble_eq_true rfl⟩ (fun H locs hM => ?_)
        refine lv_goto (tgt := 52) hx hb dX8_displacedBy_48 (by decide) ?_
        refine me_callVi (As := [.int (nI (loF w L (nI s0) (nI n9)))]) (rest := []) hC hl.1 hM (c_X8_told l D tb X z0 n mo F w av od sv sl nz ip ot M0 (nI (loF w L (nI s0) (nI n9))) ) (kv_X8_271 hw rfl rfl ⟨Nat.le_of_ble_eq_true rfl, Nat.le_of_ble_eq_true rfl⟩) rfl rfl mq_F rfl (Nat.le_of_ble_eq_true rfl) dX8_displacedBy_52 ⟨Nat.le_of_ble_eq_true rfl, Nat.le_of_ble_eq_true rfl⟩ (fun H locs hM => ?_)
        exact me_iret hC hr hlk hM (by first | rfl | simp [dispF, c_1, c_2, c_3]) (rfl) (rfl) dX8_displacedBy_55
    · have c_2 := b1_0.mp c_2
      exact absurd (ah_c (m := 6) hT hT2 hn1 hn2 (by omega) hs1 hs2) c_2
  · have c_1 := b1_0.mp c_1
    exact absurd (in_c hB (by omega) hb9) c_1
set_option maxHeartbeats 4000000 in
theorem c_X8_displacedBy_x1 (l : Launch) (D : va_G) (tb : Nat → ClassId) (X : State → Prop) (z0 n : Nat) (mo : Nat) (F w av od sv sl nz ip ot : Nat → Int32) (M0 : me_M) (S B L P : Nat) (T : Nat) (x : Int32) (y9 z9 : Int32)  (hO : ok1 S B L P T w) (hT0 : T ≤ 9999) (hbad : x < 0 ∨ w 4 ≤ x) : Met l yX8_displacedBy (.code yX8_displacedBy cX8_displacedBy 4 (some .int) :: ws_all) ({ frames := 2, cells := 0, slots := 0, locals := 43 } : Room) (me_Pc [.ref mo, .int x, .int y9, .int z9] D tb X z0 (mq tb mo F w av od sv sl nz ip ot M0) n) (me_Qi D z0 0 (mq tb mo (upd F 0 1) w av od sv sl nz ip ot M0) n) 0 0 (me_A z0) := by
  refine me_open (by decide) (Nat.le_of_ble_eq_true rfl) ?_
  intro p e s m args below meth c ls hC hr hlk hnm hM hl
  have hl : lv_has ls 4 [(0, .ref mo), (1, .int x), (2, .int y9), (3, .int z9)] := hl
  have hx := hC.1
  have hb := hC.2.1
  have hw := hC.2.2.2.2.1
  obtain ⟨hW, hZ, hT⟩ := id hO
  obtain ⟨hS, hS0, hB, hB0, hL, hL0, hP, hP0, hwb, hwl⟩ := id hW
  have hT2 : T ≤ 20000 := by omega
  refine lv_aload_n hx hb dX8_displacedBy_0 rfl (lv_at hl 0 rfl) ?_
  refine lv_iload_n hx hb dX8_displacedBy_1 rfl (lv_at hl 1 rfl) ?_
  refine me_callVi (As := [.int x]) (rest := []) hC hl.1 hM (c_X8_isBorrower l D tb X z0 n mo F w av od sv sl nz ip ot M0 x ) (kv_X8_292 hw rfl rfl ⟨Nat.le_of_ble_eq_true rfl, Nat.le_of_ble_eq_true rfl⟩) rfl rfl mq_F rfl (Nat.le_of_ble_eq_true rfl) dX8_displacedBy_2 ⟨Nat.le_of_ble_eq_true rfl, Nat.le_of_ble_eq_true rfl⟩ (fun H locs hM => ?_)
  refine lv_if_ne (tgt := 14) hx hb dX8_displacedBy_5 (by decide) (fun c_1 => ?_) (fun c_1 => ?_)
  · have c_1 := b1_n0.mp c_1
    exact absurd c_1 (in_x hB (by omega) hbad)
  · have c_1 := b1_0.mp c_1
    refine lv_aload_n hx hb dX8_displacedBy_8 rfl (lv_at hl 0 rfl) ?_
    refine lv_iconst (v := 1) hx hb dX8_displacedBy_9 (by decide) ?_
    refine me_callVi (As := [.int 1]) (rest := []) hC hl.1 hM (c_X8_refuse l D tb X z0 n mo F w av od sv sl nz ip ot M0 (1 : Int32) ) (kv_X8_265 hw rfl rfl ⟨Nat.le_of_ble_eq_true rfl, Nat.le_of_ble_eq_true rfl⟩) rfl rfl mq_F rfl (Nat.le_of_ble_eq_true rfl) dX8_displacedBy_10 ⟨Nat.le_of_ble_eq_true rfl, Nat.le_of_ble_eq_true rfl⟩ (fun H locs hM => ?_)
    exact me_iret hC hr hlk hM (rfl) (rfl) (rfl) dX8_displacedBy_13
set_option maxHeartbeats 4000000 in
theorem c_X8_displacedBy_x2 (l : Launch) (D : va_G) (tb : Nat → ClassId) (X : State → Prop) (z0 n : Nat) (mo : Nat) (F w av od sv sl nz ip ot : Nat → Int32) (M0 : me_M) (S B L P : Nat) (T : Nat) (b : Nat) (x0 x : Int32)  (hO : ok1 S B L P T w) (hT0 : T ≤ 9999) (hb9 : b < B) (hbad : x < 1 ∨ 6 < x) : Met l yX8_displacedBy (.code yX8_displacedBy cX8_displacedBy 4 (some .int) :: ws_all) ({ frames := 2, cells := 0, slots := 0, locals := 45 } : Room) (me_Pc [.ref mo, .int (nI b), .int x0, .int x] D tb X z0 (mq tb mo F w av od sv sl nz ip ot M0) n) (me_Qi D z0 0 (mq tb mo (upd F 0 2) w av od sv sl nz ip ot M0) n) 0 0 (me_A z0) := by
  refine me_open (by decide) (Nat.le_of_ble_eq_true rfl) ?_
  intro p e s m args below meth c ls hC hr hlk hnm hM hl
  have hl : lv_has ls 4 [(0, .ref mo), (1, .int (nI b)), (2, .int x0), (3, .int x)] := hl
  have hx := hC.1
  have hb := hC.2.1
  have hw := hC.2.2.2.2.1
  obtain ⟨hW, hZ, hT⟩ := id hO
  obtain ⟨hS, hS0, hB, hB0, hL, hL0, hP, hP0, hwb, hwl⟩ := id hW
  have hT2 : T ≤ 20000 := by omega
  refine lv_aload_n hx hb dX8_displacedBy_0 rfl (lv_at hl 0 rfl) ?_
  refine lv_iload_n hx hb dX8_displacedBy_1 rfl (lv_at hl 1 rfl) ?_
  refine me_callVi (As := [.int (nI b)]) (rest := []) hC hl.1 hM (c_X8_isBorrower l D tb X z0 n mo F w av od sv sl nz ip ot M0 (nI b) ) (kv_X8_292 hw rfl rfl ⟨Nat.le_of_ble_eq_true rfl, Nat.le_of_ble_eq_true rfl⟩) rfl rfl mq_F rfl (Nat.le_of_ble_eq_true rfl) dX8_displacedBy_2 ⟨Nat.le_of_ble_eq_true rfl, Nat.le_of_ble_eq_true rfl⟩ (fun H locs hM => ?_)
  refine lv_if_ne (tgt := 14) hx hb dX8_displacedBy_5 (by decide) (fun c_1 => ?_) (fun c_1 => ?_)
  · have c_1 := b1_n0.mp c_1
    refine lv_aload_n hx hb dX8_displacedBy_14 rfl (lv_at hl 0 rfl) ?_
    refine lv_iload_n hx hb dX8_displacedBy_15 rfl (lv_at hl 2 rfl) ?_
    refine lv_iload_n hx hb dX8_displacedBy_16 rfl (lv_at hl 3 rfl) ?_
    refine lv_bipush (v := 6) hx hb dX8_displacedBy_17 (by decide) ?_
    refine me_callVi (As := [.int x0, .int x, .int 6]) (rest := []) hC hl.1 hM (c_X8_areHours l D tb X z0 n mo F w av od sv sl nz ip ot M0 x0 x 6 ) (kv_X8_307 hw rfl rfl ⟨Nat.le_of_ble_eq_true rfl, Nat.le_of_ble_eq_true rfl⟩) rfl rfl mq_F rfl (Nat.le_of_ble_eq_true rfl) dX8_displacedBy_19 ⟨Nat.le_of_ble_eq_true rfl, Nat.le_of_ble_eq_true rfl⟩ (fun H locs hM => ?_)
    refine lv_if_ne (tgt := 31) hx hb dX8_displacedBy_22 (by decide) (fun c_2 => ?_) (fun c_2 => ?_)
    · have c_2 := b1_n0.mp c_2
      exact absurd c_2 (ah_x1 hbad)
    · have c_2 := b1_0.mp c_2
      refine lv_aload_n hx hb dX8_displacedBy_25 rfl (lv_at hl 0 rfl) ?_
      refine lv_iconst (v := 2) hx hb dX8_displacedBy_26 (by decide) ?_
      refine me_callVi (As := [.int 2]) (rest := []) hC hl.1 hM (c_X8_refuse l D tb X z0 n mo F w av od sv sl nz ip ot M0 (2 : Int32) ) (kv_X8_265 hw rfl rfl ⟨Nat.le_of_ble_eq_true rfl, Nat.le_of_ble_eq_true rfl⟩) rfl rfl mq_F rfl (Nat.le_of_ble_eq_true rfl) dX8_displacedBy_27 ⟨Nat.le_of_ble_eq_true rfl, Nat.le_of_ble_eq_true rfl⟩ (fun H locs hM => ?_)
      exact me_iret hC hr hlk hM (rfl) (rfl) (rfl) dX8_displacedBy_30
  · have c_1 := b1_0.mp c_1
    exact absurd (in_c hB (by omega) hb9) c_1
set_option maxHeartbeats 4000000 in
theorem c_X8_displacedBy_x3 (l : Launch) (D : va_G) (tb : Nat → ClassId) (X : State → Prop) (z0 n : Nat) (mo : Nat) (F w av od sv sl nz ip ot : Nat → Int32) (M0 : me_M) (S B L P : Nat) (T : Nat) (b : Nat) (x0 : Int32) (n9 : Nat)  (hO : ok1 S B L P T w) (hT0 : T ≤ 9999) (hb9 : b < B) (hn1 : 1 ≤ n9) (hn2 : n9 ≤ 6) (hbad : x0 < w 2 ∨ w 2 + 48 - nI n9 < x0) : Met l yX8_displacedBy (.code yX8_displacedBy cX8_displacedBy 4 (some .int) :: ws_all) ({ frames := 2, cells := 0, slots := 0, locals := 45 } : Room) (me_Pc [.ref mo, .int (nI b), .int x0, .int (nI n9)] D tb X z0 (mq tb mo F w av od sv sl nz ip ot M0) n) (me_Qi D z0 0 (mq tb mo (upd F 0 2) w av od sv sl nz ip ot M0) n) 0 0 (me_A z0) := by
  refine me_open (by decide) (Nat.le_of_ble_eq_true rfl) ?_
  intro p e s m args below meth c ls hC hr hlk hnm hM hl
  have hl : lv_has ls 4 [(0, .ref mo), (1, .int (nI b)), (2, .int x0), (3, .int (nI n9))] := hl
  have hx := hC.1
  have hb := hC.2.1
  have hw := hC.2.2.2.2.1
  obtain ⟨hW, hZ, hT⟩ := id hO
  obtain ⟨hS, hS0, hB, hB0, hL, hL0, hP, hP0, hwb, hwl⟩ := id hW
  have hT2 : T ≤ 20000 := by omega
  refine lv_aload_n hx hb dX8_displacedBy_0 rfl (lv_at hl 0 rfl) ?_
  refine lv_iload_n hx hb dX8_displacedBy_1 rfl (lv_at hl 1 rfl) ?_
  refine me_callVi (As := [.int (nI b)]) (rest := []) hC hl.1 hM (c_X8_isBorrower l D tb X z0 n mo F w av od sv sl nz ip ot M0 (nI b) ) (kv_X8_292 hw rfl rfl ⟨Nat.le_of_ble_eq_true rfl, Nat.le_of_ble_eq_true rfl⟩) rfl rfl mq_F rfl (Nat.le_of_ble_eq_true rfl) dX8_displacedBy_2 ⟨Nat.le_of_ble_eq_true rfl, Nat.le_of_ble_eq_true rfl⟩ (fun H locs hM => ?_)
  refine lv_if_ne (tgt := 14) hx hb dX8_displacedBy_5 (by decide) (fun c_1 => ?_) (fun c_1 => ?_)
  · have c_1 := b1_n0.mp c_1
    refine lv_aload_n hx hb dX8_displacedBy_14 rfl (lv_at hl 0 rfl) ?_
    refine lv_iload_n hx hb dX8_displacedBy_15 rfl (lv_at hl 2 rfl) ?_
    refine lv_iload_n hx hb dX8_displacedBy_16 rfl (lv_at hl 3 rfl) ?_
    refine lv_bipush (v := 6) hx hb dX8_displacedBy_17 (by decide) ?_
    refine me_callVi (As := [.int x0, .int (nI n9), .int 6]) (rest := []) hC hl.1 hM (c_X8_areHours l D tb X z0 n mo F w av od sv sl nz ip ot M0 x0 (nI n9) 6 ) (kv_X8_307 hw rfl rfl ⟨Nat.le_of_ble_eq_true rfl, Nat.le_of_ble_eq_true rfl⟩) rfl rfl mq_F rfl (Nat.le_of_ble_eq_true rfl) dX8_displacedBy_19 ⟨Nat.le_of_ble_eq_true rfl, Nat.le_of_ble_eq_true rfl⟩ (fun H locs hM => ?_)
    refine lv_if_ne (tgt := 31) hx hb dX8_displacedBy_22 (by decide) (fun c_2 => ?_) (fun c_2 => ?_)
    · have c_2 := b1_n0.mp c_2
      exact absurd c_2 (ah_x2 hT hT2 hn1 (by omega) hbad)
    · have c_2 := b1_0.mp c_2
      refine lv_aload_n hx hb dX8_displacedBy_25 rfl (lv_at hl 0 rfl) ?_
      refine lv_iconst (v := 2) hx hb dX8_displacedBy_26 (by decide) ?_
      refine me_callVi (As := [.int 2]) (rest := []) hC hl.1 hM (c_X8_refuse l D tb X z0 n mo F w av od sv sl nz ip ot M0 (2 : Int32) ) (kv_X8_265 hw rfl rfl ⟨Nat.le_of_ble_eq_true rfl, Nat.le_of_ble_eq_true rfl⟩) rfl rfl mq_F rfl (Nat.le_of_ble_eq_true rfl) dX8_displacedBy_27 ⟨Nat.le_of_ble_eq_true rfl, Nat.le_of_ble_eq_true rfl⟩ (fun H locs hM => ?_)
      exact me_iret hC hr hlk hM (rfl) (rfl) (rfl) dX8_displacedBy_30
  · have c_1 := b1_0.mp c_1
    exact absurd (in_c hB (by omega) hb9) c_1
set_option maxHeartbeats 4000000 in
theorem c_X8_earliestStart (l : Launch) (D : va_G) (tb : Nat → ClassId) (X : State → Prop) (z0 n : Nat) (mo : Nat) (F w av od sv sl nz ip ot : Nat → Int32) (M0 : me_M) (S B L P : Nat) (T : Nat) (b n9 : Nat)  (hO : ok1 S B L P T w) (hT0 : T ≤ 9999) (hb9 : b < B) (hn1 : 1 ≤ n9) (hn2 : n9 ≤ 6) : Met l yX8_earliestStart (.code yX8_earliestStart cX8_earliestStart 3 (some .int) :: ws_all) ({ frames := 7, cells := 0, slots := 0, locals := 158 } : Room) (me_Pc [.ref mo, .int (nI b), .int (nI n9)] D tb X z0 (mq tb mo F w av od sv sl nz ip ot M0) n) (me_Qi D z0 (eaF w L P b n9 T 30) (mq tb mo (upd F 0 0) w av od sv sl nz ip ot M0) n) 0 0 (me_A z0) := by
  refine me_open (by decide) (Nat.le_of_ble_eq_true rfl) ?_
  intro p e s m args below meth c ls hC hr hlk hnm hM hl
  have hl : lv_has ls 3 [(0, .ref mo), (1, .int (nI b)), (2, .int (nI n9))] := hl
  have hx := hC.1
  have hb := hC.2.1
  have hw := hC.2.2.2.2.1
  obtain ⟨hW, hZ, hT⟩ := id hO
  obtain ⟨hS, hS0, hB, hB0, hL, hL0, hP, hP0, hwb, hwl⟩ := id hW
  have hT2 : T ≤ 20000 := by omega
  refine lv_aload_n hx hb dX8_earliestStart_0 rfl (lv_at hl 0 rfl) ?_
  refine lv_iload_n hx hb dX8_earliestStart_1 rfl (lv_at hl 1 rfl) ?_
  refine me_callVi (As := [.int (nI b)]) (rest := []) hC hl.1 hM (c_X8_isBorrower l D tb X z0 n mo F w av od sv sl nz ip ot M0 (nI b) ) (kv_X8_292 hw rfl rfl ⟨Nat.le_of_ble_eq_true rfl, Nat.le_of_ble_eq_true rfl⟩) rfl rfl mq_F rfl (Nat.le_of_ble_eq_true rfl) dX8_earliestStart_2 ⟨Nat.le_of_ble_eq_true rfl, Nat.le_of_ble_eq_true rfl⟩ (fun H locs hM => ?_)
  refine lv_if_ne (tgt := 14) hx hb dX8_earliestStart_5 (by decide) (fun c_1 => ?_) (fun c_1 => ?_)
  · have c_1 := b1_n0.mp c_1
    refine lv_iload_n hx hb dX8_earliestStart_14 rfl (lv_at hl 2 rfl) ?_
    refine lv_iconst (v := 1) hx hb dX8_earliestStart_15 (by decide) ?_
    refine lv_bipush (v := 6) hx hb dX8_earliestStart_16 (by decide) ?_
    refine me_callSi (As := [.int (nI n9), .int 1, .int 6]) (rest := []) hC hl.1 hM (c_X8_in l D tb X z0 n _ (nI n9) 1 6 ) (ks_X8_67 hw rfl rfl ⟨Nat.le_of_ble_eq_true rfl, Nat.le_of_ble_eq_true rfl⟩) rfl rfl (Nat.le_of_ble_eq_true rfl) dX8_earliestStart_18 ⟨Nat.le_of_ble_eq_true rfl, Nat.le_of_ble_eq_true rfl⟩ (fun H locs hM => ?_)
    refine lv_if_eq (tgt := 39) hx hb dX8_earliestStart_21 (by decide) (fun c_2 => ?_) (fun c_2 => ?_)
    · have c_2 := b1_0.mp c_2
      exact absurd (in_n (a := 1) (b := 6) hn1 hn2 (by omega)) c_2
    · have c_2 := b1_n0.mp c_2
      refine lv_aload_n hx hb dX8_earliestStart_24 rfl (lv_at hl 0 rfl) ?_
      refine lv_aload_n hx hb dX8_earliestStart_25 rfl (lv_at hl 0 rfl) ?_
      refine lv_iload_n hx hb dX8_earliestStart_26 rfl (lv_at hl 1 rfl) ?_
      refine lv_iload_n hx hb dX8_earliestStart_27 rfl (lv_at hl 2 rfl) ?_
      refine lv_bipush (v := 30) hx hb dX8_earliestStart_28 (by decide) ?_
      refine me_callVi (As := [.int (nI b), .int (nI n9), .int 30]) (rest := [.ref mo]) hC hl.1 hM (c_X8_earliest l D tb X z0 n mo F w av od sv sl nz ip ot M0 S B L P T b n9 30 hO (by omega) (by omega) (by omega)) (kv_X8_317 hw rfl rfl ⟨Nat.le_of_ble_eq_true rfl, Nat.le_of_ble_eq_true rfl⟩) rfl rfl mq_F rfl (Nat.le_of_ble_eq_true rfl) dX8_earliestStart_30 ⟨Nat.le_of_ble_eq_true rfl, Nat.le_of_ble_eq_true rfl⟩ (fun H locs hM => ?_)
      refine me_callVi (As := [.int (eaF w L P b n9 T 30)]) (rest := []) hC hl.1 hM (c_X8_told l D tb X z0 n mo F w av od sv sl nz ip ot M0 (eaF w L P b n9 T 30) ) (kv_X8_271 hw rfl rfl ⟨Nat.le_of_ble_eq_true rfl, Nat.le_of_ble_eq_true rfl⟩) rfl rfl mq_F rfl (Nat.le_of_ble_eq_true rfl) dX8_earliestStart_33 ⟨Nat.le_of_ble_eq_true rfl, Nat.le_of_ble_eq_true rfl⟩ (fun H locs hM => ?_)
      refine lv_goto (tgt := 44) hx hb dX8_earliestStart_36 (by decide) ?_
      exact me_iret hC hr hlk hM (by first | rfl | simp [c_1, c_2]) (rfl) (rfl) dX8_earliestStart_44
  · have c_1 := b1_0.mp c_1
    exact absurd (in_c hB (by omega) hb9) c_1
set_option maxHeartbeats 4000000 in
theorem c_X8_earliestStart_x1 (l : Launch) (D : va_G) (tb : Nat → ClassId) (X : State → Prop) (z0 n : Nat) (mo : Nat) (F w av od sv sl nz ip ot : Nat → Int32) (M0 : me_M) (S B L P : Nat) (T : Nat) (x : Int32) (y9 : Int32)  (hO : ok1 S B L P T w) (hT0 : T ≤ 9999) (hbad : x < 0 ∨ w 4 ≤ x) : Met l yX8_earliestStart (.code yX8_earliestStart cX8_earliestStart 3 (some .int) :: ws_all) ({ frames := 2, cells := 0, slots := 0, locals := 43 } : Room) (me_Pc [.ref mo, .int x, .int y9] D tb X z0 (mq tb mo F w av od sv sl nz ip ot M0) n) (me_Qi D z0 0 (mq tb mo (upd F 0 1) w av od sv sl nz ip ot M0) n) 0 0 (me_A z0) := by
  refine me_open (by decide) (Nat.le_of_ble_eq_true rfl) ?_
  intro p e s m args below meth c ls hC hr hlk hnm hM hl
  have hl : lv_has ls 3 [(0, .ref mo), (1, .int x), (2, .int y9)] := hl
  have hx := hC.1
  have hb := hC.2.1
  have hw := hC.2.2.2.2.1
  obtain ⟨hW, hZ, hT⟩ := id hO
  obtain ⟨hS, hS0, hB, hB0, hL, hL0, hP, hP0, hwb, hwl⟩ := id hW
  have hT2 : T ≤ 20000 := by omega
  refine lv_aload_n hx hb dX8_earliestStart_0 rfl (lv_at hl 0 rfl) ?_
  refine lv_iload_n hx hb dX8_earliestStart_1 rfl (lv_at hl 1 rfl) ?_
  refine me_callVi (As := [.int x]) (rest := []) hC hl.1 hM (c_X8_isBorrower l D tb X z0 n mo F w av od sv sl nz ip ot M0 x ) (kv_X8_292 hw rfl rfl ⟨Nat.le_of_ble_eq_true rfl, Nat.le_of_ble_eq_true rfl⟩) rfl rfl mq_F rfl (Nat.le_of_ble_eq_true rfl) dX8_earliestStart_2 ⟨Nat.le_of_ble_eq_true rfl, Nat.le_of_ble_eq_true rfl⟩ (fun H locs hM => ?_)
  refine lv_if_ne (tgt := 14) hx hb dX8_earliestStart_5 (by decide) (fun c_1 => ?_) (fun c_1 => ?_)
  · have c_1 := b1_n0.mp c_1
    exact absurd c_1 (in_x hB (by omega) hbad)
  · have c_1 := b1_0.mp c_1
    refine lv_aload_n hx hb dX8_earliestStart_8 rfl (lv_at hl 0 rfl) ?_
    refine lv_iconst (v := 1) hx hb dX8_earliestStart_9 (by decide) ?_
    refine me_callVi (As := [.int 1]) (rest := []) hC hl.1 hM (c_X8_refuse l D tb X z0 n mo F w av od sv sl nz ip ot M0 (1 : Int32) ) (kv_X8_265 hw rfl rfl ⟨Nat.le_of_ble_eq_true rfl, Nat.le_of_ble_eq_true rfl⟩) rfl rfl mq_F rfl (Nat.le_of_ble_eq_true rfl) dX8_earliestStart_10 ⟨Nat.le_of_ble_eq_true rfl, Nat.le_of_ble_eq_true rfl⟩ (fun H locs hM => ?_)
    exact me_iret hC hr hlk hM (rfl) (rfl) (rfl) dX8_earliestStart_13
set_option maxHeartbeats 4000000 in
theorem c_X8_earliestStart_x2 (l : Launch) (D : va_G) (tb : Nat → ClassId) (X : State → Prop) (z0 n : Nat) (mo : Nat) (F w av od sv sl nz ip ot : Nat → Int32) (M0 : me_M) (S B L P : Nat) (T : Nat) (b : Nat) (x : Int32)  (hO : ok1 S B L P T w) (hT0 : T ≤ 9999) (hb9 : b < B) (hbad : x < 1 ∨ 6 < x) : Met l yX8_earliestStart (.code yX8_earliestStart cX8_earliestStart 3 (some .int) :: ws_all) ({ frames := 2, cells := 0, slots := 0, locals := 43 } : Room) (me_Pc [.ref mo, .int (nI b), .int x] D tb X z0 (mq tb mo F w av od sv sl nz ip ot M0) n) (me_Qi D z0 0 (mq tb mo (upd F 0 2) w av od sv sl nz ip ot M0) n) 0 0 (me_A z0) := by
  refine me_open (by decide) (Nat.le_of_ble_eq_true rfl) ?_
  intro p e s m args below meth c ls hC hr hlk hnm hM hl
  have hl : lv_has ls 3 [(0, .ref mo), (1, .int (nI b)), (2, .int x)] := hl
  have hx := hC.1
  have hb := hC.2.1
  have hw := hC.2.2.2.2.1
  obtain ⟨hW, hZ, hT⟩ := id hO
  obtain ⟨hS, hS0, hB, hB0, hL, hL0, hP, hP0, hwb, hwl⟩ := id hW
  have hT2 : T ≤ 20000 := by omega
  refine lv_aload_n hx hb dX8_earliestStart_0 rfl (lv_at hl 0 rfl) ?_
  refine lv_iload_n hx hb dX8_earliestStart_1 rfl (lv_at hl 1 rfl) ?_
  refine me_callVi (As := [.int (nI b)]) (rest := []) hC hl.1 hM (c_X8_isBorrower l D tb X z0 n mo F w av od sv sl nz ip ot M0 (nI b) ) (kv_X8_292 hw rfl rfl ⟨Nat.le_of_ble_eq_true rfl, Nat.le_of_ble_eq_true rfl⟩) rfl rfl mq_F rfl (Nat.le_of_ble_eq_true rfl) dX8_earliestStart_2 ⟨Nat.le_of_ble_eq_true rfl, Nat.le_of_ble_eq_true rfl⟩ (fun H locs hM => ?_)
  refine lv_if_ne (tgt := 14) hx hb dX8_earliestStart_5 (by decide) (fun c_1 => ?_) (fun c_1 => ?_)
  · have c_1 := b1_n0.mp c_1
    refine lv_iload_n hx hb dX8_earliestStart_14 rfl (lv_at hl 2 rfl) ?_
    refine lv_iconst (v := 1) hx hb dX8_earliestStart_15 (by decide) ?_
    refine lv_bipush (v := 6) hx hb dX8_earliestStart_16 (by decide) ?_
    refine me_callSi (As := [.int x, .int 1, .int 6]) (rest := []) hC hl.1 hM (c_X8_in l D tb X z0 n _ x 1 6 ) (ks_X8_67 hw rfl rfl ⟨Nat.le_of_ble_eq_true rfl, Nat.le_of_ble_eq_true rfl⟩) rfl rfl (Nat.le_of_ble_eq_true rfl) dX8_earliestStart_18 ⟨Nat.le_of_ble_eq_true rfl, Nat.le_of_ble_eq_true rfl⟩ (fun H locs hM => ?_)
    refine lv_if_eq (tgt := 39) hx hb dX8_earliestStart_21 (by decide) (fun c_2 => ?_) (fun c_2 => ?_)
    · have c_2 := b1_0.mp c_2
      refine lv_aload_n hx hb dX8_earliestStart_39 rfl (lv_at hl 0 rfl) ?_
      refine lv_iconst (v := 2) hx hb dX8_earliestStart_40 (by decide) ?_
      refine me_callVi (As := [.int 2]) (rest := []) hC hl.1 hM (c_X8_refuse l D tb X z0 n mo F w av od sv sl nz ip ot M0 (2 : Int32) ) (kv_X8_265 hw rfl rfl ⟨Nat.le_of_ble_eq_true rfl, Nat.le_of_ble_eq_true rfl⟩) rfl rfl mq_F rfl (Nat.le_of_ble_eq_true rfl) dX8_earliestStart_41 ⟨Nat.le_of_ble_eq_true rfl, Nat.le_of_ble_eq_true rfl⟩ (fun H locs hM => ?_)
      exact me_iret hC hr hlk hM (rfl) (rfl) (rfl) dX8_earliestStart_44
    · have c_2 := b1_n0.mp c_2
      exact absurd c_2 (in_y hbad)
  · have c_1 := b1_0.mp c_1
    exact absurd (in_c hB (by omega) hb9) c_1
set_option maxHeartbeats 4000000 in
theorem c_X8_earliestPeacefulStart (l : Launch) (D : va_G) (tb : Nat → ClassId) (X : State → Prop) (z0 n : Nat) (mo : Nat) (F w av od sv sl nz ip ot : Nat → Int32) (M0 : me_M) (S B L P : Nat) (T : Nat) (b n9 : Nat)  (hO : ok1 S B L P T w) (hT0 : T ≤ 9999) (hb9 : b < B) (hn1 : 1 ≤ n9) (hn2 : n9 ≤ 6) : Met l yX8_earliestPeacefulStart (.code yX8_earliestPeacefulStart cX8_earliestPeacefulStart 3 (some .int) :: ws_all) ({ frames := 7, cells := 0, slots := 0, locals := 158 } : Room) (me_Pc [.ref mo, .int (nI b), .int (nI n9)] D tb X z0 (mq tb mo F w av od sv sl nz ip ot M0) n) (me_Qi D z0 (eaF w L P b n9 T 0) (mq tb mo (upd F 0 0) w av od sv sl nz ip ot M0) n) 0 0 (me_A z0) := by
  refine me_open (by decide) (Nat.le_of_ble_eq_true rfl) ?_
  intro p e s m args below meth c ls hC hr hlk hnm hM hl
  have hl : lv_has ls 3 [(0, .ref mo), (1, .int (nI b)), (2, .int (nI n9))] := hl
  have hx := hC.1
  have hb := hC.2.1
  have hw := hC.2.2.2.2.1
  obtain ⟨hW, hZ, hT⟩ := id hO
  obtain ⟨hS, hS0, hB, hB0, hL, hL0, hP, hP0, hwb, hwl⟩ := id hW
  have hT2 : T ≤ 20000 := by omega
  refine lv_aload_n hx hb dX8_earliestPeacefulStart_0 rfl (lv_at hl 0 rfl) ?_
  refine lv_iload_n hx hb dX8_earliestPeacefulStart_1 rfl (lv_at hl 1 rfl) ?_
  refine me_callVi (As := [.int (nI b)]) (rest := []) hC hl.1 hM (c_X8_isBorrower l D tb X z0 n mo F w av od sv sl nz ip ot M0 (nI b) ) (kv_X8_292 hw rfl rfl ⟨Nat.le_of_ble_eq_true rfl, Nat.le_of_ble_eq_true rfl⟩) rfl rfl mq_F rfl (Nat.le_of_ble_eq_true rfl) dX8_earliestPeacefulStart_2 ⟨Nat.le_of_ble_eq_true rfl, Nat.le_of_ble_eq_true rfl⟩ (fun H locs hM => ?_)
  refine lv_if_ne (tgt := 14) hx hb dX8_earliestPeacefulStart_5 (by decide) (fun c_1 => ?_) (fun c_1 => ?_)
  · have c_1 := b1_n0.mp c_1
    refine lv_iload_n hx hb dX8_earliestPeacefulStart_14 rfl (lv_at hl 2 rfl) ?_
    refine lv_iconst (v := 1) hx hb dX8_earliestPeacefulStart_15 (by decide) ?_
    refine lv_bipush (v := 6) hx hb dX8_earliestPeacefulStart_16 (by decide) ?_
    refine me_callSi (As := [.int (nI n9), .int 1, .int 6]) (rest := []) hC hl.1 hM (c_X8_in l D tb X z0 n _ (nI n9) 1 6 ) (ks_X8_67 hw rfl rfl ⟨Nat.le_of_ble_eq_true rfl, Nat.le_of_ble_eq_true rfl⟩) rfl rfl (Nat.le_of_ble_eq_true rfl) dX8_earliestPeacefulStart_18 ⟨Nat.le_of_ble_eq_true rfl, Nat.le_of_ble_eq_true rfl⟩ (fun H locs hM => ?_)
    refine lv_if_eq (tgt := 38) hx hb dX8_earliestPeacefulStart_21 (by decide) (fun c_2 => ?_) (fun c_2 => ?_)
    · have c_2 := b1_0.mp c_2
      exact absurd (in_n (a := 1) (b := 6) hn1 hn2 (by omega)) c_2
    · have c_2 := b1_n0.mp c_2
      refine lv_aload_n hx hb dX8_earliestPeacefulStart_24 rfl (lv_at hl 0 rfl) ?_
      refine lv_aload_n hx hb dX8_earliestPeacefulStart_25 rfl (lv_at hl 0 rfl) ?_
      refine lv_iload_n hx hb dX8_earliestPeacefulStart_26 rfl (lv_at hl 1 rfl) ?_
      refine lv_iload_n hx hb dX8_earliestPeacefulStart_27 rfl (lv_at hl 2 rfl) ?_
      refine lv_iconst (v := 0) hx hb dX8_earliestPeacefulStart_28 (by decide) ?_
      refine me_callVi (As := [.int (nI b), .int (nI n9), .int 0]) (rest := [.ref mo]) hC hl.1 hM (c_X8_earliest l D tb X z0 n mo F w av od sv sl nz ip ot M0 S B L P T b n9 0 hO (by omega) (by omega) (by omega)) (kv_X8_317 hw rfl rfl ⟨Nat.le_of_ble_eq_true rfl, Nat.le_of_ble_eq_true rfl⟩) rfl rfl mq_F rfl (Nat.le_of_ble_eq_true rfl) dX8_earliestPeacefulStart_29 ⟨Nat.le_of_ble_eq_true rfl, Nat.le_of_ble_eq_true rfl⟩ (fun H locs hM => ?_)
      refine me_callVi (As := [.int (eaF w L P b n9 T 0)]) (rest := []) hC hl.1 hM (c_X8_told l D tb X z0 n mo F w av od sv sl nz ip ot M0 (eaF w L P b n9 T 0) ) (kv_X8_271 hw rfl rfl ⟨Nat.le_of_ble_eq_true rfl, Nat.le_of_ble_eq_true rfl⟩) rfl rfl mq_F rfl (Nat.le_of_ble_eq_true rfl) dX8_earliestPeacefulStart_32 ⟨Nat.le_of_ble_eq_true rfl, Nat.le_of_ble_eq_true rfl⟩ (fun H locs hM => ?_)
      refine lv_goto (tgt := 43) hx hb dX8_earliestPeacefulStart_35 (by decide) ?_
      exact me_iret hC hr hlk hM (by first | rfl | simp [c_1, c_2]) (rfl) (rfl) dX8_earliestPeacefulStart_43
  · have c_1 := b1_0.mp c_1
    exact absurd (in_c hB (by omega) hb9) c_1
set_option maxHeartbeats 4000000 in
theorem c_X8_earliestPeacefulStart_x1 (l : Launch) (D : va_G) (tb : Nat → ClassId) (X : State → Prop) (z0 n : Nat) (mo : Nat) (F w av od sv sl nz ip ot : Nat → Int32) (M0 : me_M) (S B L P : Nat) (T : Nat) (x : Int32) (y9 : Int32)  (hO : ok1 S B L P T w) (hT0 : T ≤ 9999) (hbad : x < 0 ∨ w 4 ≤ x) : Met l yX8_earliestPeacefulStart (.code yX8_earliestPeacefulStart cX8_earliestPeacefulStart 3 (some .int) :: ws_all) ({ frames := 2, cells := 0, slots := 0, locals := 43 } : Room) (me_Pc [.ref mo, .int x, .int y9] D tb X z0 (mq tb mo F w av od sv sl nz ip ot M0) n) (me_Qi D z0 0 (mq tb mo (upd F 0 1) w av od sv sl nz ip ot M0) n) 0 0 (me_A z0) := by
  refine me_open (by decide) (Nat.le_of_ble_eq_true rfl) ?_
  intro p e s m args below meth c ls hC hr hlk hnm hM hl
  have hl : lv_has ls 3 [(0, .ref mo), (1, .int x), (2, .int y9)] := hl
  have hx := hC.1
  have hb := hC.2.1
  have hw := hC.2.2.2.2.1
  obtain ⟨hW, hZ, hT⟩ := id hO
  obtain ⟨hS, hS0, hB, hB0, hL, hL0, hP, hP0, hwb, hwl⟩ := id hW
  have hT2 : T ≤ 20000 := by omega
  refine lv_aload_n hx hb dX8_earliestPeacefulStart_0 rfl (lv_at hl 0 rfl) ?_
  refine lv_iload_n hx hb dX8_earliestPeacefulStart_1 rfl (lv_at hl 1 rfl) ?_
  refine me_callVi (As := [.int x]) (rest := []) hC hl.1 hM (c_X8_isBorrower l D tb X z0 n mo F w av od sv sl nz ip ot M0 x ) (kv_X8_292 hw rfl rfl ⟨Nat.le_of_ble_eq_true rfl, Nat.le_of_ble_eq_true rfl⟩) rfl rfl mq_F rfl (Nat.le_of_ble_eq_true rfl) dX8_earliestPeacefulStart_2 ⟨Nat.le_of_ble_eq_true rfl, Nat.le_of_ble_eq_true rfl⟩ (fun H locs hM => ?_)
  refine lv_if_ne (tgt := 14) hx hb dX8_earliestPeacefulStart_5 (by decide) (fun c_1 => ?_) (fun c_1 => ?_)
  · have c_1 := b1_n0.mp c_1
    exact absurd c_1 (in_x hB (by omega) hbad)
  · have c_1 := b1_0.mp c_1
    refine lv_aload_n hx hb dX8_earliestPeacefulStart_8 rfl (lv_at hl 0 rfl) ?_
    refine lv_iconst (v := 1) hx hb dX8_earliestPeacefulStart_9 (by decide) ?_
    refine me_callVi (As := [.int 1]) (rest := []) hC hl.1 hM (c_X8_refuse l D tb X z0 n mo F w av od sv sl nz ip ot M0 (1 : Int32) ) (kv_X8_265 hw rfl rfl ⟨Nat.le_of_ble_eq_true rfl, Nat.le_of_ble_eq_true rfl⟩) rfl rfl mq_F rfl (Nat.le_of_ble_eq_true rfl) dX8_earliestPeacefulStart_10 ⟨Nat.le_of_ble_eq_true rfl, Nat.le_of_ble_eq_true rfl⟩ (fun H locs hM => ?_)
    exact me_iret hC hr hlk hM (rfl) (rfl) (rfl) dX8_earliestPeacefulStart_13
set_option maxHeartbeats 4000000 in
theorem c_X8_earliestPeacefulStart_x2 (l : Launch) (D : va_G) (tb : Nat → ClassId) (X : State → Prop) (z0 n : Nat) (mo : Nat) (F w av od sv sl nz ip ot : Nat → Int32) (M0 : me_M) (S B L P : Nat) (T : Nat) (b : Nat) (x : Int32)  (hO : ok1 S B L P T w) (hT0 : T ≤ 9999) (hb9 : b < B) (hbad : x < 1 ∨ 6 < x) : Met l yX8_earliestPeacefulStart (.code yX8_earliestPeacefulStart cX8_earliestPeacefulStart 3 (some .int) :: ws_all) ({ frames := 2, cells := 0, slots := 0, locals := 43 } : Room) (me_Pc [.ref mo, .int (nI b), .int x] D tb X z0 (mq tb mo F w av od sv sl nz ip ot M0) n) (me_Qi D z0 0 (mq tb mo (upd F 0 2) w av od sv sl nz ip ot M0) n) 0 0 (me_A z0) := by
  refine me_open (by decide) (Nat.le_of_ble_eq_true rfl) ?_
  intro p e s m args below meth c ls hC hr hlk hnm hM hl
  have hl : lv_has ls 3 [(0, .ref mo), (1, .int (nI b)), (2, .int x)] := hl
  have hx := hC.1
  have hb := hC.2.1
  have hw := hC.2.2.2.2.1
  obtain ⟨hW, hZ, hT⟩ := id hO
  obtain ⟨hS, hS0, hB, hB0, hL, hL0, hP, hP0, hwb, hwl⟩ := id hW
  have hT2 : T ≤ 20000 := by omega
  refine lv_aload_n hx hb dX8_earliestPeacefulStart_0 rfl (lv_at hl 0 rfl) ?_
  refine lv_iload_n hx hb dX8_earliestPeacefulStart_1 rfl (lv_at hl 1 rfl) ?_
  refine me_callVi (As := [.int (nI b)]) (rest := []) hC hl.1 hM (c_X8_isBorrower l D tb X z0 n mo F w av od sv sl nz ip ot M0 (nI b) ) (kv_X8_292 hw rfl rfl ⟨Nat.le_of_ble_eq_true rfl, Nat.le_of_ble_eq_true rfl⟩) rfl rfl mq_F rfl (Nat.le_of_ble_eq_true rfl) dX8_earliestPeacefulStart_2 ⟨Nat.le_of_ble_eq_true rfl, Nat.le_of_ble_eq_true rfl⟩ (fun H locs hM => ?_)
  refine lv_if_ne (tgt := 14) hx hb dX8_earliestPeacefulStart_5 (by decide) (fun c_1 => ?_) (fun c_1 => ?_)
  · have c_1 := b1_n0.mp c_1
    refine lv_iload_n hx hb dX8_earliestPeacefulStart_14 rfl (lv_at hl 2 rfl) ?_
    refine lv_iconst (v := 1) hx hb dX8_earliestPeacefulStart_15 (by decide) ?_
    refine lv_bipush (v := 6) hx hb dX8_earliestPeacefulStart_16 (by decide) ?_
    refine me_callSi (As := [.int x, .int 1, .int 6]) (rest := []) hC hl.1 hM (c_X8_in l D tb X z0 n _ x 1 6 ) (ks_X8_67 hw rfl rfl ⟨Nat.le_of_ble_eq_true rfl, Nat.le_of_ble_eq_true rfl⟩) rfl rfl (Nat.le_of_ble_eq_true rfl) dX8_earliestPeacefulStart_18 ⟨Nat.le_of_ble_eq_true rfl, Nat.le_of_ble_eq_true rfl⟩ (fun H locs hM => ?_)
    refine lv_if_eq (tgt := 38) hx hb dX8_earliestPeacefulStart_21 (by decide) (fun c_2 => ?_) (fun c_2 => ?_)
    · have c_2 := b1_0.mp c_2
      refine lv_aload_n hx hb dX8_earliestPeacefulStart_38 rfl (lv_at hl 0 rfl) ?_
      refine lv_iconst (v := 2) hx hb dX8_earliestPeacefulStart_39 (by decide) ?_
      refine me_callVi (As := [.int 2]) (rest := []) hC hl.1 hM (c_X8_refuse l D tb X z0 n mo F w av od sv sl nz ip ot M0 (2 : Int32) ) (kv_X8_265 hw rfl rfl ⟨Nat.le_of_ble_eq_true rfl, Nat.le_of_ble_eq_true rfl⟩) rfl rfl mq_F rfl (Nat.le_of_ble_eq_true rfl) dX8_earliestPeacefulStart_40 ⟨Nat.le_of_ble_eq_true rfl, Nat.le_of_ble_eq_true rfl⟩ (fun H locs hM => ?_)
      exact me_iret hC hr hlk hM (rfl) (rfl) (rfl) dX8_earliestPeacefulStart_43
    · have c_2 := b1_n0.mp c_2
      exact absurd c_2 (in_y hbad)
  · have c_1 := b1_0.mp c_1
    exact absurd (in_c hB (by omega) hb9) c_1
set_option maxHeartbeats 4000000 in
theorem c_X8_illnessAfter (l : Launch) (D : va_G) (tb : Nat → ClassId) (X : State → Prop) (z0 n : Nat) (mo : Nat) (F w av od sv sl nz ip ot : Nat → Int32) (M0 : me_M) (S B L P : Nat) (T : Nat) (b hh : Nat)  (hO : ok1 S B L P T w) (hT0 : T ≤ 9999) (hb9 : b < B) (hh0 : hh ≤ 200) : Met l yX8_illnessAfter (.code yX8_illnessAfter cX8_illnessAfter 5 (some .int) :: ws_all) ({ frames := 8, cells := 0, slots := 0, locals := 175 } : Room) (me_Pc [.ref mo, .int (nI b), .int (nI hh)] D tb X z0 (mq tb mo F w av od sv sl nz ip ot M0) n) (me_Qi D z0 ((mpS S B L P hh (w, nz)).1 (89 + 11 * b + 1)) (mq tb mo (upd F 0 0) (cq (mpS S B L P hh (w, nz)).1 (cq av w 0 411) 0 411) (cq av w 0 411) od sv sl ((mpS S B L P hh (w, nz)).2) ip ot M0) n) 0 0 (me_A z0) := by
  refine me_open (by decide) (Nat.le_of_ble_eq_true rfl) ?_
  intro p e s m args below meth c ls hC hr hlk hnm hM hl
  have hl : lv_has ls 5 [(0, .ref mo), (1, .int (nI b)), (2, .int (nI hh))] := hl
  have hx := hC.1
  have hb := hC.2.1
  have hw := hC.2.2.2.2.1
  obtain ⟨hW, hZ, hT⟩ := id hO
  obtain ⟨hS, hS0, hB, hB0, hL, hL0, hP, hP0, hwb, hwl⟩ := id hW
  have hT2 : T ≤ 20000 := by omega
  refine lv_aload_n hx hb dX8_illnessAfter_0 rfl (lv_at hl 0 rfl) ?_
  refine lv_iload_n hx hb dX8_illnessAfter_1 rfl (lv_at hl 1 rfl) ?_
  refine me_callVi (As := [.int (nI b)]) (rest := []) hC hl.1 hM (c_X8_isBorrower l D tb X z0 n mo F w av od sv sl nz ip ot M0 (nI b) ) (kv_X8_292 hw rfl rfl ⟨Nat.le_of_ble_eq_true rfl, Nat.le_of_ble_eq_true rfl⟩) rfl rfl mq_F rfl (Nat.le_of_ble_eq_true rfl) dX8_illnessAfter_2 ⟨Nat.le_of_ble_eq_true rfl, Nat.le_of_ble_eq_true rfl⟩ (fun H locs hM => ?_)
  refine lv_if_ne (tgt := 14) hx hb dX8_illnessAfter_5 (by decide) (fun c_1 => ?_) (fun c_1 => ?_)
  · have c_1 := b1_n0.mp c_1
    refine lv_iload_n hx hb dX8_illnessAfter_14 rfl (lv_at hl 2 rfl) ?_
    refine lv_iconst (v := 0) hx hb dX8_illnessAfter_15 (by decide) ?_
    refine lv_sipush (v := 200) hx hb dX8_illnessAfter_16 (by decide) ?_
    refine me_callSi (As := [.int (nI hh), .int 0, .int 200]) (rest := []) hC hl.1 hM (c_X8_in l D tb X z0 n _ (nI hh) 0 200 ) (ks_X8_67 hw rfl rfl ⟨Nat.le_of_ble_eq_true rfl, Nat.le_of_ble_eq_true rfl⟩) rfl rfl (Nat.le_of_ble_eq_true rfl) dX8_illnessAfter_19 ⟨Nat.le_of_ble_eq_true rfl, Nat.le_of_ble_eq_true rfl⟩ (fun H locs hM => ?_)
    refine lv_if_ne (tgt := 31) hx hb dX8_illnessAfter_22 (by decide) (fun c_2 => ?_) (fun c_2 => ?_)
    · have c_2 := b1_n0.mp c_2
      refine lv_aload_n hx hb dX8_illnessAfter_31 rfl (lv_at hl 0 rfl) ?_
      refine me_callVv (As := []) (rest := []) hC hl.1 hM (c_X8_putsAside l D tb X z0 n mo F w av od sv sl nz ip ot M0  ) (kv_X8_274 hw rfl rfl ⟨Nat.le_of_ble_eq_true rfl, Nat.le_of_ble_eq_true rfl⟩) rfl rfl mq_F rfl (Nat.le_of_ble_eq_true rfl) dX8_illnessAfter_32 ⟨Nat.le_of_ble_eq_true rfl, Nat.le_of_ble_eq_true rfl⟩ (fun H locs hM => ?_)
      refine lv_aload_n hx hb dX8_illnessAfter_35 rfl (lv_at hl 0 rfl) ?_
      refine lv_iload_n hx hb dX8_illnessAfter_36 rfl (lv_at hl 2 rfl) ?_
      refine me_callVi (As := [.int (nI hh)]) (rest := []) hC hl.1 hM (c_X8_passes l D tb X z0 n mo F w (cq av w 0 411) od sv sl nz ip ot M0 S B L P T hh hO (by omega)) (kv_X8_60 hw rfl rfl ⟨Nat.le_of_ble_eq_true rfl, Nat.le_of_ble_eq_true rfl⟩) rfl rfl mq_F rfl (Nat.le_of_ble_eq_true rfl) dX8_illnessAfter_37 ⟨Nat.le_of_ble_eq_true rfl, Nat.le_of_ble_eq_true rfl⟩ (fun H locs hM => ?_)
      refine lv_istore_n (lv' := [(3, .int (nI (mpN S B L P hh (w, nz)))), (0, .ref mo), (1, .int (nI b)), (2, .int (nI hh))]) hx hb dX8_illnessAfter_40 rfl hl (by decide) rfl (fun ls hl => ?_)
      refine lv_aload_n hx hb dX8_illnessAfter_41 rfl (lv_at hl 1 rfl) ?_
      refine fg_X8_13 hC hM mq_F rfl dX8_illnessAfter_42 ?_
      refine lv_iload_n hx hb dX8_illnessAfter_45 rfl (lv_at hl 2 rfl) ?_
      refine me_callSi (As := [.int (nI b)]) (rest := [.ref (mo + 2)]) hC hl.1 hM (c_X8_b l D tb X z0 n _ b ) (ks_X8_78 hw rfl rfl ⟨Nat.le_of_ble_eq_true rfl, Nat.le_of_ble_eq_true rfl⟩) rfl rfl (Nat.le_of_ble_eq_true rfl) dX8_illnessAfter_46 ⟨Nat.le_of_ble_eq_true rfl, Nat.le_of_ble_eq_true rfl⟩ (fun H locs hM => ?_)
      refine lv_iconst (v := 1) hx hb dX8_illnessAfter_49 (by decide) ?_
      refine lv_iadd hx hb dX8_illnessAfter_50 ?_
      refine me_iald (k := 89 + 11 * b + 1) hC hM mq_w (nx_add rfl (show (1 : Int32) = nI 1 from rfl)) (by omega) (by decide) dX8_illnessAfter_51 ?_
      refine lv_istore (lv' := [(4, .int (((mpS S B L P hh (w, nz)).1) (89 + 11 * b + 1))), (3, .int (nI (mpN S B L P hh (w, nz)))), (0, .ref mo), (1, .int (nI b)), (2, .int (nI hh))]) hx hb dX8_illnessAfter_52 hl (by decide) rfl (fun ls hl => ?_)
      refine lv_aload_n hx hb dX8_illnessAfter_54 rfl (lv_at hl 2 rfl) ?_
      refine me_callVv (As := []) (rest := []) hC hl.1 hM (c_X8_putsBack l D tb X z0 n mo F ((mpS S B L P hh (w, nz)).1) (cq av w 0 411) od sv sl ((mpS S B L P hh (w, nz)).2) ip ot M0  ) (kv_X8_283 hw rfl rfl ⟨Nat.le_of_ble_eq_true rfl, Nat.le_of_ble_eq_true rfl⟩) rfl rfl mq_F rfl (Nat.le_of_ble_eq_true rfl) dX8_illnessAfter_55 ⟨Nat.le_of_ble_eq_true rfl, Nat.le_of_ble_eq_true rfl⟩ (fun H locs hM => ?_)
      refine lv_aload_n hx hb dX8_illnessAfter_58 rfl (lv_at hl 2 rfl) ?_
      refine lv_iload hx hb dX8_illnessAfter_59 (lv_at hl 0 rfl) ?_
      refine me_callVi (As := [.int (((mpS S B L P hh (w, nz)).1) (89 + 11 * b + 1))]) (rest := []) hC hl.1 hM (c_X8_told l D tb X z0 n mo F (cq ((mpS S B L P hh (w, nz)).1) (cq av w 0 411) 0 411) (cq av w 0 411) od sv sl ((mpS S B L P hh (w, nz)).2) ip ot M0 (((mpS S B L P hh (w, nz)).1) (89 + 11 * b + 1)) ) (kv_X8_271 hw rfl rfl ⟨Nat.le_of_ble_eq_true rfl, Nat.le_of_ble_eq_true rfl⟩) rfl rfl mq_F rfl (Nat.le_of_ble_eq_true rfl) dX8_illnessAfter_61 ⟨Nat.le_of_ble_eq_true rfl, Nat.le_of_ble_eq_true rfl⟩ (fun H locs hM => ?_)
      exact me_iret hC hr hlk hM (by first | rfl | simp [c_1, c_2]) (rfl) (rfl) dX8_illnessAfter_64
    · have c_2 := b1_0.mp c_2
      exact absurd (in_n (a := 0) (b := 200) (by omega) hh0 (by omega)) c_2
  · have c_1 := b1_0.mp c_1
    exact absurd (in_c hB (by omega) hb9) c_1
set_option maxHeartbeats 4000000 in
theorem c_X8_illnessAfter_x1 (l : Launch) (D : va_G) (tb : Nat → ClassId) (X : State → Prop) (z0 n : Nat) (mo : Nat) (F w av od sv sl nz ip ot : Nat → Int32) (M0 : me_M) (S B L P : Nat) (T : Nat) (x : Int32) (y9 : Int32)  (hO : ok1 S B L P T w) (hT0 : T ≤ 9999) (hbad : x < 0 ∨ w 4 ≤ x) : Met l yX8_illnessAfter (.code yX8_illnessAfter cX8_illnessAfter 5 (some .int) :: ws_all) ({ frames := 2, cells := 0, slots := 0, locals := 43 } : Room) (me_Pc [.ref mo, .int x, .int y9] D tb X z0 (mq tb mo F w av od sv sl nz ip ot M0) n) (me_Qi D z0 0 (mq tb mo (upd F 0 1) w av od sv sl nz ip ot M0) n) 0 0 (me_A z0) := by
  refine me_open (by decide) (Nat.le_of_ble_eq_true rfl) ?_
  intro p e s m args below meth c ls hC hr hlk hnm hM hl
  have hl : lv_has ls 5 [(0, .ref mo), (1, .int x), (2, .int y9)] := hl
  have hx := hC.1
  have hb := hC.2.1
  have hw := hC.2.2.2.2.1
  obtain ⟨hW, hZ, hT⟩ := id hO
  obtain ⟨hS, hS0, hB, hB0, hL, hL0, hP, hP0, hwb, hwl⟩ := id hW
  have hT2 : T ≤ 20000 := by omega
  refine lv_aload_n hx hb dX8_illnessAfter_0 rfl (lv_at hl 0 rfl) ?_
  refine lv_iload_n hx hb dX8_illnessAfter_1 rfl (lv_at hl 1 rfl) ?_
  refine me_callVi (As := [.int x]) (rest := []) hC hl.1 hM (c_X8_isBorrower l D tb X z0 n mo F w av od sv sl nz ip ot M0 x ) (kv_X8_292 hw rfl rfl ⟨Nat.le_of_ble_eq_true rfl, Nat.le_of_ble_eq_true rfl⟩) rfl rfl mq_F rfl (Nat.le_of_ble_eq_true rfl) dX8_illnessAfter_2 ⟨Nat.le_of_ble_eq_true rfl, Nat.le_of_ble_eq_true rfl⟩ (fun H locs hM => ?_)
  refine lv_if_ne (tgt := 14) hx hb dX8_illnessAfter_5 (by decide) (fun c_1 => ?_) (fun c_1 => ?_)
  · have c_1 := b1_n0.mp c_1
    exact absurd c_1 (in_x hB (by omega) hbad)
  · have c_1 := b1_0.mp c_1
    refine lv_aload_n hx hb dX8_illnessAfter_8 rfl (lv_at hl 0 rfl) ?_
    refine lv_iconst (v := 1) hx hb dX8_illnessAfter_9 (by decide) ?_
    refine me_callVi (As := [.int 1]) (rest := []) hC hl.1 hM (c_X8_refuse l D tb X z0 n mo F w av od sv sl nz ip ot M0 (1 : Int32) ) (kv_X8_265 hw rfl rfl ⟨Nat.le_of_ble_eq_true rfl, Nat.le_of_ble_eq_true rfl⟩) rfl rfl mq_F rfl (Nat.le_of_ble_eq_true rfl) dX8_illnessAfter_10 ⟨Nat.le_of_ble_eq_true rfl, Nat.le_of_ble_eq_true rfl⟩ (fun H locs hM => ?_)
    exact me_iret hC hr hlk hM (rfl) (rfl) (rfl) dX8_illnessAfter_13
set_option maxHeartbeats 4000000 in
theorem c_X8_illnessAfter_x2 (l : Launch) (D : va_G) (tb : Nat → ClassId) (X : State → Prop) (z0 n : Nat) (mo : Nat) (F w av od sv sl nz ip ot : Nat → Int32) (M0 : me_M) (S B L P : Nat) (T : Nat) (b : Nat) (x : Int32)  (hO : ok1 S B L P T w) (hT0 : T ≤ 9999) (hb9 : b < B) (hbad : x < 0 ∨ 200 < x) : Met l yX8_illnessAfter (.code yX8_illnessAfter cX8_illnessAfter 5 (some .int) :: ws_all) ({ frames := 2, cells := 0, slots := 0, locals := 43 } : Room) (me_Pc [.ref mo, .int (nI b), .int x] D tb X z0 (mq tb mo F w av od sv sl nz ip ot M0) n) (me_Qi D z0 0 (mq tb mo (upd F 0 2) w av od sv sl nz ip ot M0) n) 0 0 (me_A z0) := by
  refine me_open (by decide) (Nat.le_of_ble_eq_true rfl) ?_
  intro p e s m args below meth c ls hC hr hlk hnm hM hl
  have hl : lv_has ls 5 [(0, .ref mo), (1, .int (nI b)), (2, .int x)] := hl
  have hx := hC.1
  have hb := hC.2.1
  have hw := hC.2.2.2.2.1
  obtain ⟨hW, hZ, hT⟩ := id hO
  obtain ⟨hS, hS0, hB, hB0, hL, hL0, hP, hP0, hwb, hwl⟩ := id hW
  have hT2 : T ≤ 20000 := by omega
  refine lv_aload_n hx hb dX8_illnessAfter_0 rfl (lv_at hl 0 rfl) ?_
  refine lv_iload_n hx hb dX8_illnessAfter_1 rfl (lv_at hl 1 rfl) ?_
  refine me_callVi (As := [.int (nI b)]) (rest := []) hC hl.1 hM (c_X8_isBorrower l D tb X z0 n mo F w av od sv sl nz ip ot M0 (nI b) ) (kv_X8_292 hw rfl rfl ⟨Nat.le_of_ble_eq_true rfl, Nat.le_of_ble_eq_true rfl⟩) rfl rfl mq_F rfl (Nat.le_of_ble_eq_true rfl) dX8_illnessAfter_2 ⟨Nat.le_of_ble_eq_true rfl, Nat.le_of_ble_eq_true rfl⟩ (fun H locs hM => ?_)
  refine lv_if_ne (tgt := 14) hx hb dX8_illnessAfter_5 (by decide) (fun c_1 => ?_) (fun c_1 => ?_)
  · have c_1 := b1_n0.mp c_1
    refine lv_iload_n hx hb dX8_illnessAfter_14 rfl (lv_at hl 2 rfl) ?_
    refine lv_iconst (v := 0) hx hb dX8_illnessAfter_15 (by decide) ?_
    refine lv_sipush (v := 200) hx hb dX8_illnessAfter_16 (by decide) ?_
    refine me_callSi (As := [.int x, .int 0, .int 200]) (rest := []) hC hl.1 hM (c_X8_in l D tb X z0 n _ x 0 200 ) (ks_X8_67 hw rfl rfl ⟨Nat.le_of_ble_eq_true rfl, Nat.le_of_ble_eq_true rfl⟩) rfl rfl (Nat.le_of_ble_eq_true rfl) dX8_illnessAfter_19 ⟨Nat.le_of_ble_eq_true rfl, Nat.le_of_ble_eq_true rfl⟩ (fun H locs hM => ?_)
    refine lv_if_ne (tgt := 31) hx hb dX8_illnessAfter_22 (by decide) (fun c_2 => ?_) (fun c_2 => ?_)
    · have c_2 := b1_n0.mp c_2
      exact absurd c_2 (in_y hbad)
    · have c_2 := b1_0.mp c_2
      refine lv_aload_n hx hb dX8_illnessAfter_25 rfl (lv_at hl 0 rfl) ?_
      refine lv_iconst (v := 2) hx hb dX8_illnessAfter_26 (by decide) ?_
      refine me_callVi (As := [.int 2]) (rest := []) hC hl.1 hM (c_X8_refuse l D tb X z0 n mo F w av od sv sl nz ip ot M0 (2 : Int32) ) (kv_X8_265 hw rfl rfl ⟨Nat.le_of_ble_eq_true rfl, Nat.le_of_ble_eq_true rfl⟩) rfl rfl mq_F rfl (Nat.le_of_ble_eq_true rfl) dX8_illnessAfter_27 ⟨Nat.le_of_ble_eq_true rfl, Nat.le_of_ble_eq_true rfl⟩ (fun H locs hM => ?_)
      exact me_iret hC hr hlk hM (rfl) (rfl) (rfl) dX8_illnessAfter_30
  · have c_1 := b1_0.mp c_1
    exact absurd (in_c hB (by omega) hb9) c_1
set_option maxHeartbeats 4000000 in
theorem c_X8_meanNoise (l : Launch) (D : va_G) (tb : Nat → ClassId) (X : State → Prop) (z0 n : Nat) (mo : Nat) (F w av od sv sl nz ip ot : Nat → Int32) (M0 : me_M) (S B L P : Nat) (T : Nat) (s0 : Nat)  (hO : ok1 S B L P T w) (hT0 : T ≤ 9999) (hs9 : s0 < S) : Met l yX8_meanNoise (.code yX8_meanNoise cX8_meanNoise 2 (some .double) :: ws_all) ({ frames := 2, cells := 0, slots := 0, locals := 43 } : Room) (me_Pc [.ref mo, .int (nI s0)] D tb X z0 (mq tb mo F w av od sv sl nz ip ot M0) n) (me_Qd D z0 (if T = 0 then FP.dconst0 else FP.ddiv (FP.i2d (w (9 + 10 * s0 + 2))) (FP.i2d (nI T))) (mq tb mo (upd F 0 0) w av od sv sl nz ip ot M0) n) 0 0 (me_A z0) := by
  refine me_open (by decide) (Nat.le_of_ble_eq_true rfl) ?_
  intro p e s m args below meth c ls hC hr hlk hnm hM hl
  have hl : lv_has ls 2 [(0, .ref mo), (1, .int (nI s0))] := hl
  have hx := hC.1
  have hb := hC.2.1
  have hw := hC.2.2.2.2.1
  obtain ⟨hW, hZ, hT⟩ := id hO
  obtain ⟨hS, hS0, hB, hB0, hL, hL0, hP, hP0, hwb, hwl⟩ := id hW
  have hT2 : T ≤ 20000 := by omega
  refine lv_aload_n hx hb dX8_meanNoise_0 rfl (lv_at hl 0 rfl) ?_
  refine lv_aload_n hx hb dX8_meanNoise_1 rfl (lv_at hl 0 rfl) ?_
  refine lv_iload_n hx hb dX8_meanNoise_2 rfl (lv_at hl 1 rfl) ?_
  refine me_callVi (As := [.int (nI s0)]) (rest := [.ref mo]) hC hl.1 hM (c_X8_isStreet l D tb X z0 n mo F w av od sv sl nz ip ot M0 (nI s0) ) (kv_X8_289 hw rfl rfl ⟨Nat.le_of_ble_eq_true rfl, Nat.le_of_ble_eq_true rfl⟩) rfl rfl mq_F rfl (Nat.le_of_ble_eq_true rfl) dX8_meanNoise_3 ⟨Nat.le_of_ble_eq_true rfl, Nat.le_of_ble_eq_true rfl⟩ (fun H locs hM => ?_)
  refine lv_if_eq (tgt := 13) hx hb dX8_meanNoise_6 (by decide) (fun c_1 => ?_) (fun c_1 => ?_)
  · have c_1 := b1_0.mp c_1
    exact absurd (in_c hS (by omega) hs9) c_1
  · have c_1 := b1_n0.mp c_1
    refine lv_iconst (v := 0) hx hb dX8_meanNoise_9 (by decide) ?_
    refine lv_goto (tgt := 14) hx hb dX8_meanNoise_10 (by decide) ?_
    refine fp_X8_64 hC hM mq_F (Nat.le_of_ble_eq_true rfl) (M2 := mq tb mo (upd F 0 0) w av od sv sl nz ip ot M0) (mq_wF (i := 0) (by simp [upd])) dX8_meanNoise_14 (fun H locs hM => ?_)
    refine lv_aload_n hx hb dX8_meanNoise_17 rfl (lv_at hl 0 rfl) ?_
    refine fg_X8_64 hC hM mq_F rfl dX8_meanNoise_18 ?_
    refine me_evi (y := 0) (upd_s _ _ _) ?_
    refine lv_iconst (v := 1) hx hb dX8_meanNoise_21 (by decide) ?_
    refine lv_icmp_eq (tgt := 34) hx hb dX8_meanNoise_22 (by decide) (fun c_2 => ?_) (fun c_2 => ?_)
    · exact absurd c_2 (by decide)
    · refine lv_aload_n hx hb dX8_meanNoise_25 rfl (lv_at hl 0 rfl) ?_
      refine fg_X8_13 hC hM mq_F rfl dX8_meanNoise_26 ?_
      refine lv_iconst (v := 2) hx hb dX8_meanNoise_29 (by decide) ?_
      refine me_iald (k := 2) hC hM mq_w (nx_c 2) (by omega) (by decide) dX8_meanNoise_30 ?_
      refine lv_if_ne (tgt := 36) hx hb dX8_meanNoise_31 (by decide) (fun c_3 => ?_) (fun c_3 => ?_)
      · have c_3 := (not_congr (br_eq hT (show (0 : Int32) = nI 0 from rfl) (by omega) (by omega))).mp c_3
        refine lv_aload_n hx hb dX8_meanNoise_36 rfl (lv_at hl 0 rfl) ?_
        refine fg_X8_13 hC hM mq_F rfl dX8_meanNoise_37 ?_
        refine lv_iload_n hx hb dX8_meanNoise_40 rfl (lv_at hl 1 rfl) ?_
        refine me_callSi (As := [.int (nI s0)]) (rest := [.ref (mo + 2)]) hC hl.1 hM (c_X8_s l D tb X z0 n _ s0 ) (ks_X8_71 hw rfl rfl ⟨Nat.le_of_ble_eq_true rfl, Nat.le_of_ble_eq_true rfl⟩) rfl rfl (Nat.le_of_ble_eq_true rfl) dX8_meanNoise_41 ⟨Nat.le_of_ble_eq_true rfl, Nat.le_of_ble_eq_true rfl⟩ (fun H locs hM => ?_)
        refine lv_iconst (v := 2) hx hb dX8_meanNoise_44 (by decide) ?_
        refine lv_iadd hx hb dX8_meanNoise_45 ?_
        refine me_iald (k := 9 + 10 * s0 + 2) hC hM mq_w (nx_add rfl (nx_c 2)) (by omega) (by decide) dX8_meanNoise_46 ?_
        refine lv_i2d hx hb dX8_meanNoise_47 ?_
        refine lv_aload_n hx hb dX8_meanNoise_48 rfl (lv_at hl 0 rfl) ?_
        refine fg_X8_13 hC hM mq_F rfl dX8_meanNoise_49 ?_
        refine lv_iconst (v := 2) hx hb dX8_meanNoise_52 (by decide) ?_
        refine me_iald (k := 2) hC hM mq_w (nx_c 2) (by omega) (by decide) dX8_meanNoise_53 ?_
        refine me_evi (y := nI T) hT ?_
        refine lv_i2d hx hb dX8_meanNoise_54 ?_
        refine lv_ddiv hx hb dX8_meanNoise_55 (fp_mean (by omega) (by omega)) ?_
        exact me_dret hC hr hlk hM ((if_neg c_3).symm) (rfl) (rfl) dX8_meanNoise_56
      · have c_3 := (br_eq hT (show (0 : Int32) = nI 0 from rfl) (by omega) (by omega)).mp c_3
        refine lv_dconst0 hx hb dX8_meanNoise_34 ?_
        exact me_dret hC hr hlk hM ((if_pos c_3).symm) (rfl) (rfl) dX8_meanNoise_35
set_option maxHeartbeats 4000000 in
theorem c_X8_meanNoise_x1 (l : Launch) (D : va_G) (tb : Nat → ClassId) (X : State → Prop) (z0 n : Nat) (mo : Nat) (F w av od sv sl nz ip ot : Nat → Int32) (M0 : me_M) (S B L P : Nat) (T : Nat) (x : Int32)  (hO : ok1 S B L P T w) (hT0 : T ≤ 9999) (hbad : x < 0 ∨ w 3 ≤ x) : Met l yX8_meanNoise (.code yX8_meanNoise cX8_meanNoise 2 (some .double) :: ws_all) ({ frames := 2, cells := 0, slots := 0, locals := 43 } : Room) (me_Pc [.ref mo, .int x] D tb X z0 (mq tb mo F w av od sv sl nz ip ot M0) n) (me_Qd D z0 FP.dconst0 (mq tb mo (upd F 0 1) w av od sv sl nz ip ot M0) n) 0 0 (me_A z0) := by
  refine me_open (by decide) (Nat.le_of_ble_eq_true rfl) ?_
  intro p e s m args below meth c ls hC hr hlk hnm hM hl
  have hl : lv_has ls 2 [(0, .ref mo), (1, .int x)] := hl
  have hx := hC.1
  have hb := hC.2.1
  have hw := hC.2.2.2.2.1
  obtain ⟨hW, hZ, hT⟩ := id hO
  obtain ⟨hS, hS0, hB, hB0, hL, hL0, hP, hP0, hwb, hwl⟩ := id hW
  have hT2 : T ≤ 20000 := by omega
  refine lv_aload_n hx hb dX8_meanNoise_0 rfl (lv_at hl 0 rfl) ?_
  refine lv_aload_n hx hb dX8_meanNoise_1 rfl (lv_at hl 0 rfl) ?_
  refine lv_iload_n hx hb dX8_meanNoise_2 rfl (lv_at hl 1 rfl) ?_
  refine me_callVi (As := [.int x]) (rest := [.ref mo]) hC hl.1 hM (c_X8_isStreet l D tb X z0 n mo F w av od sv sl nz ip ot M0 x ) (kv_X8_289 hw rfl rfl ⟨Nat.le_of_ble_eq_true rfl, Nat.le_of_ble_eq_true rfl⟩) rfl rfl mq_F rfl (Nat.le_of_ble_eq_true rfl) dX8_meanNoise_3 ⟨Nat.le_of_ble_eq_true rfl, Nat.le_of_ble_eq_true rfl⟩ (fun H locs hM => ?_)
  refine lv_if_eq (tgt := 13) hx hb dX8_meanNoise_6 (by decide) (fun c_1 => ?_) (fun c_1 => ?_)
  · have c_1 := b1_0.mp c_1
    refine lv_iconst (v := 1) hx hb dX8_meanNoise_13 (by decide) ?_
    refine fp_X8_64 hC hM mq_F (Nat.le_of_ble_eq_true rfl) (M2 := mq tb mo (upd F 0 1) w av od sv sl nz ip ot M0) (mq_wF (i := 0) (by simp [upd])) dX8_meanNoise_14 (fun H locs hM => ?_)
    refine lv_aload_n hx hb dX8_meanNoise_17 rfl (lv_at hl 0 rfl) ?_
    refine fg_X8_64 hC hM mq_F rfl dX8_meanNoise_18 ?_
    refine me_evi (y := 1) (upd_s _ _ _) ?_
    refine lv_iconst (v := 1) hx hb dX8_meanNoise_21 (by decide) ?_
    refine lv_icmp_eq (tgt := 34) hx hb dX8_meanNoise_22 (by decide) (fun c_2 => ?_) (fun c_2 => ?_)
    · refine lv_dconst0 hx hb dX8_meanNoise_34 ?_
      exact me_dret hC hr hlk hM (rfl) (rfl) (rfl) dX8_meanNoise_35
    · exact absurd c_2 (by decide)
  · have c_1 := b1_n0.mp c_1
    exact absurd c_1 (in_x hS (by omega) hbad)
set_option maxHeartbeats 4000000 in
theorem c_X8_lentShare (l : Launch) (D : va_G) (tb : Nat → ClassId) (X : State → Prop) (z0 n : Nat) (mo : Nat) (F w av od sv sl nz ip ot : Nat → Int32) (M0 : me_M) (S B L P : Nat) (T : Nat)  (hO : ok1 S B L P T w) (hT0 : T ≤ 9999) : Met l yX8_lentShare (.code yX8_lentShare cX8_lentShare 1 (some .float) :: ws_all) ({ frames := 5, cells := 0, slots := 0, locals := 107 } : Room) (me_Pc [.ref mo] D tb X z0 (mq tb mo F w av od sv sl nz ip ot M0) n) (me_Qf D z0 (FP.fdiv (FP.i2f (nI (48 - frM w L T))) 1111490560) (mq tb mo (upd F 0 0) w av od sv sl nz ip ot M0) n) 0 0 (me_A z0) := by
  refine me_open (by decide) (Nat.le_of_ble_eq_true rfl) ?_
  intro p e s m args below meth c ls hC hr hlk hnm hM hl
  have hl : lv_has ls 1 [(0, .ref mo)] := hl
  have hx := hC.1
  have hb := hC.2.1
  have hw := hC.2.2.2.2.1
  obtain ⟨hW, hZ, hT⟩ := id hO
  obtain ⟨hS, hS0, hB, hB0, hL, hL0, hP, hP0, hwb, hwl⟩ := id hW
  have hT2 : T ≤ 20000 := by omega
  have hfr : frM w L T ≤ 48 := co_le _ _ _
  refine lv_aload_n hx hb dX8_lentShare_0 rfl (lv_at hl 0 rfl) ?_
  refine lv_iconst (v := 0) hx hb dX8_lentShare_1 (by decide) ?_
  refine fp_X8_64 hC hM mq_F (Nat.le_of_ble_eq_true rfl) (M2 := mq tb mo (upd F 0 0) w av od sv sl nz ip ot M0) (mq_wF (i := 0) (by simp [upd])) dX8_lentShare_2 (fun H locs hM => ?_)
  refine lv_bipush (v := 48) hx hb dX8_lentShare_5 (by decide) ?_
  refine lv_aload_n hx hb dX8_lentShare_7 rfl (lv_at hl 0 rfl) ?_
  refine me_callVi (As := []) (rest := [.int 48]) hC hl.1 hM (c_X8_freeMany l D tb X z0 n mo (upd F 0 0) w av od sv sl nz ip ot M0 L T hL hL0 hZ hT (by omega)) (kv_X8_304 hw rfl rfl ⟨Nat.le_of_ble_eq_true rfl, Nat.le_of_ble_eq_true rfl⟩) rfl rfl mq_F rfl (Nat.le_of_ble_eq_true rfl) dX8_lentShare_8 ⟨Nat.le_of_ble_eq_true rfl, Nat.le_of_ble_eq_true rfl⟩ (fun H locs hM => ?_)
  refine lv_isub hx hb dX8_lentShare_11 ?_
  refine me_evi (y := nI (48 - (frM w L T))) (nx_sub (nx_c 48) rfl (by omega)) ?_
  refine lv_i2f hx hb dX8_lentShare_12 ?_
  refine lv_ldc_wf hx hb hC.2.2.2.1 (hw _ w_1848) dX8_lentShare_13 ?_
  refine lv_fdiv hx hb dX8_lentShare_16 (fp_share (by omega)) ?_
  exact me_fret hC hr hlk hM (rfl) (rfl) (rfl) dX8_lentShare_17
set_option maxHeartbeats 4000000 in
theorem c_X8_ledgerDifference (l : Launch) (D : va_G) (tb : Nat → ClassId) (X : State → Prop) (z0 n : Nat) (mo : Nat) (F w av od sv sl nz ip ot : Nat → Int32) (M0 : me_M) (S B L P : Nat) (T : Nat)  (hO : ok1 S B L P T w) (hT0 : T ≤ 9999) : Met l yX8_ledgerDifference (.code yX8_ledgerDifference cX8_ledgerDifference 3 (some .int) :: ws_all) ({ frames := 4, cells := 0, slots := 0, locals := 87 } : Room) (me_Pc [.ref mo] D tb X z0 (mq tb mo F w av od sv sl nz ip ot M0) n) (me_Qi D z0 ((if acF w B L < 0 then -(acF w B L) else acF w B L) + nI (twM w L T)) (mq tb mo (upd F 0 0) w av od sv sl nz ip ot M0) n) 0 0 (me_A z0) := by
  refine me_open (by decide) (Nat.le_of_ble_eq_true rfl) ?_
  intro p e s m args below meth c ls hC hr hlk hnm hM hl
  have hl : lv_has ls 3 [(0, .ref mo)] := hl
  have hx := hC.1
  have hb := hC.2.1
  have hw := hC.2.2.2.2.1
  obtain ⟨hW, hZ, hT⟩ := id hO
  obtain ⟨hS, hS0, hB, hB0, hL, hL0, hP, hP0, hwb, hwl⟩ := id hW
  have hT2 : T ≤ 20000 := by omega
  refine lv_aload_n hx hb dX8_ledgerDifference_0 rfl (lv_at hl 0 rfl) ?_
  refine fg_X8_13 hC hM mq_F rfl dX8_ledgerDifference_1 ?_
  refine lv_bipush (v := 8) hx hb dX8_ledgerDifference_4 (by decide) ?_
  refine me_iald (k := 8) hC hM mq_w (nx_c 8) (by omega) (by decide) dX8_ledgerDifference_6 ?_
  refine lv_aload_n hx hb dX8_ledgerDifference_7 rfl (lv_at hl 0 rfl) ?_
  refine fg_X8_13 hC hM mq_F rfl dX8_ledgerDifference_8 ?_
  refine lv_bipush (v := 7) hx hb dX8_ledgerDifference_11 (by decide) ?_
  refine me_iald (k := 7) hC hM mq_w (nx_c 7) (by omega) (by decide) dX8_ledgerDifference_13 ?_
  refine lv_isub hx hb dX8_ledgerDifference_14 ?_
  refine lv_istore_n (lv' := [(1, .int ((w 8) - (w 7))), (0, .ref mo)]) hx hb dX8_ledgerDifference_15 rfl hl (by decide) rfl (fun ls hl => ?_)
  refine lv_iconst (v := 0) hx hb dX8_ledgerDifference_16 (by decide) ?_
  refine lv_istore_n (lv' := [(2, .int 0), (1, .int ((w 8) - (w 7))), (0, .ref mo)]) hx hb dX8_ledgerDifference_17 rfl hl (by decide) rfl (fun ls hl => ?_)
  have lp_18 : ∀ (r : Nat) (k : Nat) (x : Int32) (H : Heap) (locs : List Loc) (ls : Array Slot), (k + r = B) → (acF w B L = suP w L 0 (suF (fun k => w (89 + 11 * k + 2)) r k x)) → me_at D z0 (mq tb mo F w av od sv sl nz ip ot M0) n s H locs → lv_has ls 3 [(0, .ref mo), (1, .int x), (2, .int (nI k))] → W p l e (({ frames := 4, cells := 0, slots := 0, locals := 87 } : Room)) s m args below meth c H locs 0 0 (MQ below (me_Qi D z0 ((if acF w B L < 0 then -(acF w B L) else acF w B L) + nI (twM w L T)) (mq tb mo (upd F 0 0) w av od sv sl nz ip ot M0) n) args s 0 0 (me_A z0)) (F0 m 18 ls []) := by
    intro r
    refine Nat.strongRecOn r ?_
    intro r ih_18 k x H locs ls hk hq hM hl
    refine lv_iload_n hx hb dX8_ledgerDifference_18 rfl (lv_at hl 2 rfl) ?_
    refine lv_aload_n hx hb dX8_ledgerDifference_19 rfl (lv_at hl 0 rfl) ?_
    refine fg_X8_13 hC hM mq_F rfl dX8_ledgerDifference_20 ?_
    refine lv_iconst (v := 4) hx hb dX8_ledgerDifference_23 (by decide) ?_
    refine me_iald (k := 4) hC hM mq_w (nx_c 4) (by omega) (by decide) dX8_ledgerDifference_24 ?_
    refine lv_icmp_ge (tgt := 48) hx hb dX8_ledgerDifference_25 (by decide) (fun c_1 => ?_) (fun c_1 => ?_)
    · have c_1 := (br_le hB rfl (by omega) (by omega)).mp c_1
      refine lv_iconst (v := 0) hx hb dX8_ledgerDifference_48 (by decide) ?_
      refine lv_istore_n (lv' := [(2, .int 0), (0, .ref mo), (1, .int x)]) hx hb dX8_ledgerDifference_49 rfl hl (by decide) rfl (fun ls hl => ?_)
      have lp_50 : ∀ (r : Nat) (k : Nat) (x : Int32) (H : Heap) (locs : List Loc) (ls : Array Slot), (k + r = L) → (acF w B L = suP w r k x) → me_at D z0 (mq tb mo F w av od sv sl nz ip ot M0) n s H locs → lv_has ls 3 [(0, .ref mo), (1, .int x), (2, .int (nI k))] → W p l e (({ frames := 4, cells := 0, slots := 0, locals := 87 } : Room)) s m args below meth c H locs 0 0 (MQ below (me_Qi D z0 ((if acF w B L < 0 then -(acF w B L) else acF w B L) + nI (twM w L T)) (mq tb mo (upd F 0 0) w av od sv sl nz ip ot M0) n) args s 0 0 (me_A z0)) (F0 m 50 ls []) := by
        intro r
        refine Nat.strongRecOn r ?_
        intro r ih_50 k x H locs ls hk hq hM hl
        refine lv_iload_n hx hb dX8_ledgerDifference_50 rfl (lv_at hl 2 rfl) ?_
        refine lv_aload_n hx hb dX8_ledgerDifference_51 rfl (lv_at hl 0 rfl) ?_
        refine fg_X8_13 hC hM mq_F rfl dX8_ledgerDifference_52 ?_
        refine lv_bipush (v := 6) hx hb dX8_ledgerDifference_55 (by decide) ?_
        refine me_iald (k := 6) hC hM mq_w (nx_c 6) (by omega) (by decide) dX8_ledgerDifference_57 ?_
        refine lv_icmp_ge (tgt := 100) hx hb dX8_ledgerDifference_58 (by decide) (fun c_2 => ?_) (fun c_2 => ?_)
        · have c_2 := (br_le hL rfl (by omega) (by omega)).mp c_2
          refine lv_aload_n hx hb dX8_ledgerDifference_100 rfl (lv_at hl 0 rfl) ?_
          have hq9 : acF w B L = x := by rw [hq, show r = 0 by omega]; rfl
          refine lv_iload_n hx hb dX8_ledgerDifference_101 rfl (lv_at hl 1 rfl) ?_
          refine me_callSi (As := [.int x]) (rest := [.ref mo]) hC hl.1 hM (c_X8_without l D tb X z0 n _ x ) (ks_X8_321 hw rfl rfl ⟨Nat.le_of_ble_eq_true rfl, Nat.le_of_ble_eq_true rfl⟩) rfl rfl (Nat.le_of_ble_eq_true rfl) dX8_ledgerDifference_102 ⟨Nat.le_of_ble_eq_true rfl, Nat.le_of_ble_eq_true rfl⟩ (fun H locs hM => ?_)
          refine lv_aload_n hx hb dX8_ledgerDifference_105 rfl (lv_at hl 0 rfl) ?_
          refine me_callVi (As := []) (rest := [.int (if x < 0 then -x else x), .ref mo]) hC hl.1 hM (c_X8_twiceHeld l D tb X z0 n mo F w av od sv sl nz ip ot M0 L T hL hL0 hZ hT (by omega)) (kv_X8_324 hw rfl rfl ⟨Nat.le_of_ble_eq_true rfl, Nat.le_of_ble_eq_true rfl⟩) rfl rfl mq_F rfl (Nat.le_of_ble_eq_true rfl) dX8_ledgerDifference_106 ⟨Nat.le_of_ble_eq_true rfl, Nat.le_of_ble_eq_true rfl⟩ (fun H locs hM => ?_)
          refine lv_iadd hx hb dX8_ledgerDifference_109 ?_
          refine me_callVi (As := [.int ((if x < 0 then -x else x) + (nI (twM w L T)))]) (rest := []) hC hl.1 hM (c_X8_told l D tb X z0 n mo F w av od sv sl nz ip ot M0 ((if x < 0 then -x else x) + (nI (twM w L T))) ) (kv_X8_271 hw rfl rfl ⟨Nat.le_of_ble_eq_true rfl, Nat.le_of_ble_eq_true rfl⟩) rfl rfl mq_F rfl (Nat.le_of_ble_eq_true rfl) dX8_ledgerDifference_110 ⟨Nat.le_of_ble_eq_true rfl, Nat.le_of_ble_eq_true rfl⟩ (fun H locs hM => ?_)
          exact me_iret hC hr hlk hM (by rw [hq9]) (rfl) (rfl) dX8_ledgerDifference_113
        · have c_2 := (not_congr (br_le hL rfl (by omega) (by omega))).mp c_2
          obtain ⟨r1, rfl⟩ : ∃ r1, r = r1 + 1 := ⟨r - 1, by omega⟩
          refine lv_iload_n hx hb dX8_ledgerDifference_61 rfl (lv_at hl 1 rfl) ?_
          refine lv_aload_n hx hb dX8_ledgerDifference_62 rfl (lv_at hl 0 rfl) ?_
          refine fg_X8_13 hC hM mq_F rfl dX8_ledgerDifference_63 ?_
          refine lv_iload_n hx hb dX8_ledgerDifference_66 rfl (lv_at hl 2 rfl) ?_
          refine me_callSi (As := [.int (nI k)]) (rest := [.ref (mo + 2), .int x]) hC hl.1 hM (c_X8_l l D tb X z0 n _ k ) (ks_X8_93 hw rfl rfl ⟨Nat.le_of_ble_eq_true rfl, Nat.le_of_ble_eq_true rfl⟩) rfl rfl (Nat.le_of_ble_eq_true rfl) dX8_ledgerDifference_67 ⟨Nat.le_of_ble_eq_true rfl, Nat.le_of_ble_eq_true rfl⟩ (fun H locs hM => ?_)
          refine lv_iconst (v := 4) hx hb dX8_ledgerDifference_70 (by decide) ?_
          refine lv_iadd hx hb dX8_ledgerDifference_71 ?_
          refine me_iald (k := 261 + 5 * k + 4) hC hM mq_w (nx_add rfl (nx_c 4)) (by omega) (by decide) dX8_ledgerDifference_72 ?_
          refine lv_iconst (v := 5) hx hb dX8_ledgerDifference_73 (by decide) ?_
          refine lv_icmp_ne (tgt := 81) hx hb dX8_ledgerDifference_74 (by decide) (fun c_3 => ?_) (fun c_3 => ?_)
          · refine lv_aload_n hx hb dX8_ledgerDifference_81 rfl (lv_at hl 0 rfl) ?_
            refine fg_X8_13 hC hM mq_F rfl dX8_ledgerDifference_82 ?_
            refine lv_iload_n hx hb dX8_ledgerDifference_85 rfl (lv_at hl 2 rfl) ?_
            refine me_callSi (As := [.int (nI k)]) (rest := [.ref (mo + 2), .int x]) hC hl.1 hM (c_X8_l l D tb X z0 n _ k ) (ks_X8_93 hw rfl rfl ⟨Nat.le_of_ble_eq_true rfl, Nat.le_of_ble_eq_true rfl⟩) rfl rfl (Nat.le_of_ble_eq_true rfl) dX8_ledgerDifference_86 ⟨Nat.le_of_ble_eq_true rfl, Nat.le_of_ble_eq_true rfl⟩ (fun H locs hM => ?_)
            refine lv_iconst (v := 3) hx hb dX8_ledgerDifference_89 (by decide) ?_
            refine lv_iadd hx hb dX8_ledgerDifference_90 ?_
            refine me_iald (k := 261 + 5 * k + 3) hC hM mq_w (nx_add rfl (nx_c 3)) (by omega) (by decide) dX8_ledgerDifference_91 ?_
            refine lv_iadd hx hb dX8_ledgerDifference_92 ?_
            refine lv_istore_n (lv' := [(1, .int (x + (w (261 + 5 * k + 3)))), (0, .ref mo), (2, .int (nI k))]) hx hb dX8_ledgerDifference_93 rfl hl (by decide) rfl (fun ls hl => ?_)
            refine lv_iinc (v := nI (k + 1)) (lv' := [(2, .int (nI (k + 1))), (1, .int (x + (w (261 + 5 * k + 3)))), (0, .ref mo)]) hx hb dX8_ledgerDifference_94 hl (k := 2) rfl (nx_add rfl rfl) (by decide) rfl (fun ls hl => ?_)
            refine lv_goto (tgt := 50) hx hb dX8_ledgerDifference_97 (by decide) ?_
            exact ih_50 r1 (by omega) (k + 1) (x + w (261 + 5 * k + 3)) _ _ _ (by omega) (by rw [hq]; show suP w r1 (k + 1) (if w (261 + 5 * k + 4) = 5 then x else x + w (261 + 5 * k + 3)) = _; rw [if_neg c_3]) hM (lv_sub hl [2, 1, 0] rfl)
          · refine lv_iconst (v := 0) hx hb dX8_ledgerDifference_77 (by decide) ?_
            refine lv_goto (tgt := 92) hx hb dX8_ledgerDifference_78 (by decide) ?_
            refine lv_iadd hx hb dX8_ledgerDifference_92 ?_
            refine me_evi (y := x) (Int32.add_zero x) ?_
            refine lv_istore_n (lv' := [(1, .int x), (0, .ref mo), (2, .int (nI k))]) hx hb dX8_ledgerDifference_93 rfl hl (by decide) rfl (fun ls hl => ?_)
            refine lv_iinc (v := nI (k + 1)) (lv' := [(2, .int (nI (k + 1))), (1, .int x), (0, .ref mo)]) hx hb dX8_ledgerDifference_94 hl (k := 2) rfl (nx_add rfl rfl) (by decide) rfl (fun ls hl => ?_)
            refine lv_goto (tgt := 50) hx hb dX8_ledgerDifference_97 (by decide) ?_
            exact ih_50 r1 (by omega) (k + 1) x _ _ _ (by omega) (by rw [hq]; show suP w r1 (k + 1) (if w (261 + 5 * k + 4) = 5 then x else x + w (261 + 5 * k + 3)) = _; rw [if_pos c_3]) hM (lv_sub hl [2, 1, 0] rfl)
      exact lp_50 L 0 x _ _ _ (by omega) (by rw [hq, show r = 0 by omega]; rfl) hM (lv_sub hl [1, 2, 0] rfl)
    · have c_1 := (not_congr (br_le hB rfl (by omega) (by omega))).mp c_1
      obtain ⟨r1, rfl⟩ : ∃ r1, r = r1 + 1 := ⟨r - 1, by omega⟩
      refine lv_iload_n hx hb dX8_ledgerDifference_28 rfl (lv_at hl 1 rfl) ?_
      refine lv_aload_n hx hb dX8_ledgerDifference_29 rfl (lv_at hl 0 rfl) ?_
      refine fg_X8_13 hC hM mq_F rfl dX8_ledgerDifference_30 ?_
      refine lv_iload_n hx hb dX8_ledgerDifference_33 rfl (lv_at hl 2 rfl) ?_
      refine me_callSi (As := [.int (nI k)]) (rest := [.ref (mo + 2), .int x]) hC hl.1 hM (c_X8_b l D tb X z0 n _ k ) (ks_X8_78 hw rfl rfl ⟨Nat.le_of_ble_eq_true rfl, Nat.le_of_ble_eq_true rfl⟩) rfl rfl (Nat.le_of_ble_eq_true rfl) dX8_ledgerDifference_34 ⟨Nat.le_of_ble_eq_true rfl, Nat.le_of_ble_eq_true rfl⟩ (fun H locs hM => ?_)
      refine lv_iconst (v := 2) hx hb dX8_ledgerDifference_37 (by decide) ?_
      refine lv_iadd hx hb dX8_ledgerDifference_38 ?_
      refine me_iald (k := 89 + 11 * k + 2) hC hM mq_w (nx_add rfl (nx_c 2)) (by omega) (by decide) dX8_ledgerDifference_39 ?_
      refine lv_iadd hx hb dX8_ledgerDifference_40 ?_
      refine lv_istore_n (lv' := [(1, .int (x + (w (89 + 11 * k + 2)))), (0, .ref mo), (2, .int (nI k))]) hx hb dX8_ledgerDifference_41 rfl hl (by decide) rfl (fun ls hl => ?_)
      refine lv_iinc (v := nI (k + 1)) (lv' := [(2, .int (nI (k + 1))), (1, .int (x + (w (89 + 11 * k + 2)))), (0, .ref mo)]) hx hb dX8_ledgerDifference_42 hl (k := 2) rfl (nx_add rfl rfl) (by decide) rfl (fun ls hl => ?_)
      refine lv_goto (tgt := 18) hx hb dX8_ledgerDifference_45 (by decide) ?_
      exact ih_18 r1 (by omega) (k + 1) (x + w (89 + 11 * k + 2)) _ _ _ (by omega) hq hM (lv_sub hl [2, 1, 0] rfl)
  exact lp_18 B 0 (w 8 - w 7) _ _ _ (by omega) rfl hM (lv_sub hl [2, 1, 0] rfl)
