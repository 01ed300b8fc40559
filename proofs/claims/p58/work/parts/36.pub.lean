set_option maxHeartbeats 4000000 in
theorem c_X7_isNight (l : Launch) (D : va_G) (tb : Nat → ClassId) (X : State → Prop) (z0 n : Nat) (bo : Nat) (g : Nat → Int32) (G : Nat → Nat → Int32) (F sf inp out : Nat → Int32) (M0 : me_M) (S B L P : Nat)  : Met l yX7_isNight (.code yX7_isNight cX7_isNight 1 (some .boolean) :: ws_all) ({ frames := 1, cells := 0, slots := 0, locals := 21 } : Room) (me_Pc [.ref bo] D tb X z0 (sp tb (bo + 722) g (bq tb bo G F sf inp out M0)) n) (me_Qi D z0 (b1 (nh (g 2))) (sp tb (bo + 722) g (bq tb bo G F sf inp out M0)) n) 0 0 (me_A z0) := by
  refine me_open (by decide) (Nat.le_of_ble_eq_true rfl) ?_
  intro p e s m args below meth c ls hC hr hlk hnm hM hl
  have hl : lv_has ls 1 [(0, .ref bo)] := hl
  have hx := hC.1
  have hb := hC.2.1
  have hw := hC.2.2.2.2.1
  refine lv_aload_n hx hb dX7_isNight_0 rfl (lv_at hl 0 rfl) ?_
  refine fg_X7_71 hC hM (bq_at h_b) rfl dX7_isNight_1 ?_
  refine fg_X7_114 hC hM (sp_st _ _ _ _) rfl dX7_isNight_4 ?_
  refine me_callSi (As := [.int (g 2)]) (rest := []) hC hl.1 hM (c_X7_isNightHour l D tb X z0 n _ (g 2)) (ks_X7_117 hw rfl rfl ⟨Nat.le_of_ble_eq_true rfl, Nat.le_of_ble_eq_true rfl⟩) rfl rfl (Nat.le_of_ble_eq_true rfl) dX7_isNight_7 ⟨Nat.le_of_ble_eq_true rfl, Nat.le_of_ble_eq_true rfl⟩ (fun H locs hM => ?_)
  exact me_zret hC hr hlk hM (rfl) (b1_01 _) (rfl) (rfl) dX7_isNight_10
set_option maxHeartbeats 4000000 in
theorem c_X7_noiseTotal (l : Launch) (D : va_G) (tb : Nat → ClassId) (X : State → Prop) (z0 n : Nat) (bo : Nat) (g : Nat → Int32) (G : Nat → Nat → Int32) (F sf inp out : Nat → Int32) (M0 : me_M) (S B L P : Nat) (s0 : Nat)  (hW : wf g S B L P) (hs9 : s0 < S) : Met l yX7_noiseTotal (.code yX7_noiseTotal cX7_noiseTotal 2 (some .int) :: ws_all) ({ frames := 1, cells := 0, slots := 0, locals := 21 } : Room) (me_Pc [.ref bo, .int (nI s0)] D tb X z0 (sp tb (bo + 722) g (bq tb bo G F sf inp out M0)) n) (me_Qi D z0 (g (9 + 10 * s0 + 2)) (sp tb (bo + 722) g (bq tb bo G F sf inp out M0)) n) 0 0 (me_A z0) := by
  refine me_open (by decide) (Nat.le_of_ble_eq_true rfl) ?_
  intro p e s m args below meth c ls hC hr hlk hnm hM hl
  have hl : lv_has ls 2 [(0, .ref bo), (1, .int (nI s0))] := hl
  have hx := hC.1
  have hb := hC.2.1
  have hw := hC.2.2.2.2.1
  obtain ⟨hS, hS0, hB, hB0, hL, hL0, hP, hP0, hwb, hwl⟩ := id hW
  refine lv_aload_n hx hb dX7_noiseTotal_0 rfl (lv_at hl 0 rfl) ?_
  refine lv_iload_n hx hb dX7_noiseTotal_1 rfl (lv_at hl 1 rfl) ?_
  refine me_callVv (As := [.int (nI s0)]) (rest := []) hC hl.1 hM (c_X7_needStreet l D tb X z0 n bo g G F sf inp out M0 S B L P s0 hW (by omega)) (kv_X7_145 hw rfl rfl ⟨Nat.le_of_ble_eq_true rfl, Nat.le_of_ble_eq_true rfl⟩) rfl rfl (bq_at h_b) rfl (Nat.le_of_ble_eq_true rfl) dX7_noiseTotal_2 ⟨Nat.le_of_ble_eq_true rfl, Nat.le_of_ble_eq_true rfl⟩ (fun H locs hM => ?_)
  refine lv_aload_n hx hb dX7_noiseTotal_5 rfl (lv_at hl 0 rfl) ?_
  refine fg_X7_71 hC hM (bq_at h_b) rfl dX7_noiseTotal_6 ?_
  refine fg_X7_155 hC hM (sp_st _ _ _ _) rfl dX7_noiseTotal_9 ?_
  refine lv_iload_n hx hb dX7_noiseTotal_12 rfl (lv_at hl 1 rfl) ?_
  refine me_aald (k := s0) hC hM (sp_a1 _ _ _ _) (t0 := 6) rfl rfl (by omega) (by decide) (sp_arr_at (by omega)) dX7_noiseTotal_13 ?_
  refine fg_X7_159 hC hM (sp_street _ _ _ _ (by omega)) rfl dX7_noiseTotal_14 ?_
  exact me_iret hC hr hlk hM (by first | rfl | simp []) (rfl) (rfl) dX7_noiseTotal_17
set_option maxHeartbeats 4000000 in
theorem c_X7_noiseTotal_x1 (l : Launch) (D : va_G) (tb : Nat → ClassId) (X : State → Prop) (z0 n : Nat) (bo : Nat) (g : Nat → Int32) (G : Nat → Nat → Int32) (F sf inp out : Nat → Int32) (M0 : me_M) (S B L P : Nat) (x : Int32)  (hfl : l.stackTraces = false) (hXs : ∀ U, X U → me_xs z0 U) (hbad : x < 0 ∨ g 3 ≤ x) : vx_Met l yX7_noiseTotal (.code yX7_noiseTotal cX7_noiseTotal 2 (some .int) :: ws_all) ({ frames := 7, cells := 1, slots := 6, locals := 111 } : Room) (me_Pc [.ref bo, .int x] D tb X z0 (sp tb (bo + 722) g (bq tb bo G F sf inp out M0)) n) me_no (me_XC D z0 (sp tb (bo + 722) g (bq tb bo G F sf inp out M0)) "java/lang/IndexOutOfBoundsException") 1 6 (me_A z0) := by
  refine me_openX (by decide) (Nat.le_of_ble_eq_true rfl) ?_
  intro p e s m args below meth c ls hC ht hlk hM hl
  have hl : lv_has ls 2 [(0, .ref bo), (1, .int x)] := hl
  have hx := hC.1
  have hb := hC.2.1
  have hw := hC.2.2.2.2.1
  refine lv_aload_n hx hb dX7_noiseTotal_0 rfl (lv_at hl 0 rfl) ?_
  refine lv_iload_n hx hb dX7_noiseTotal_1 rfl (lv_at hl 1 rfl) ?_
  exact me_xV (As := [.int x]) (rest := []) hC hl.1 hM (c_X7_needStreet_x l D tb X z0 n bo g G F sf inp out M0 S B L P x hfl hXs hbad) (kv_X7_145 hw rfl rfl ⟨Nat.le_of_ble_eq_true rfl, Nat.le_of_ble_eq_true rfl⟩) rfl rfl (bq_at h_b) rfl (Nat.le_of_ble_eq_true rfl) dX7_noiseTotal_2 ⟨Nat.le_of_ble_eq_true rfl, Nat.le_of_ble_eq_true rfl⟩ ht hlk (Nat.le_of_ble_eq_true rfl) (Nat.le_of_ble_eq_true rfl)
set_option maxHeartbeats 4000000 in
theorem c_X7_quietHours (l : Launch) (D : va_G) (tb : Nat → ClassId) (X : State → Prop) (z0 n : Nat) (bo : Nat) (g : Nat → Int32) (G : Nat → Nat → Int32) (F sf inp out : Nat → Int32) (M0 : me_M) (S B L P : Nat) (s0 : Nat)  (hW : wf g S B L P) (hs9 : s0 < S) : Met l yX7_quietHours (.code yX7_quietHours cX7_quietHours 2 (some .int) :: ws_all) ({ frames := 1, cells := 0, slots := 0, locals := 21 } : Room) (me_Pc [.ref bo, .int (nI s0)] D tb X z0 (sp tb (bo + 722) g (bq tb bo G F sf inp out M0)) n) (me_Qi D z0 (g (9 + 10 * s0 + 3)) (sp tb (bo + 722) g (bq tb bo G F sf inp out M0)) n) 0 0 (me_A z0) := by
  refine me_open (by decide) (Nat.le_of_ble_eq_true rfl) ?_
  intro p e s m args below meth c ls hC hr hlk hnm hM hl
  have hl : lv_has ls 2 [(0, .ref bo), (1, .int (nI s0))] := hl
  have hx := hC.1
  have hb := hC.2.1
  have hw := hC.2.2.2.2.1
  obtain ⟨hS, hS0, hB, hB0, hL, hL0, hP, hP0, hwb, hwl⟩ := id hW
  refine lv_aload_n hx hb dX7_quietHours_0 rfl (lv_at hl 0 rfl) ?_
  refine lv_iload_n hx hb dX7_quietHours_1 rfl (lv_at hl 1 rfl) ?_
  refine me_callVv (As := [.int (nI s0)]) (rest := []) hC hl.1 hM (c_X7_needStreet l D tb X z0 n bo g G F sf inp out M0 S B L P s0 hW (by omega)) (kv_X7_145 hw rfl rfl ⟨Nat.le_of_ble_eq_true rfl, Nat.le_of_ble_eq_true rfl⟩) rfl rfl (bq_at h_b) rfl (Nat.le_of_ble_eq_true rfl) dX7_quietHours_2 ⟨Nat.le_of_ble_eq_true rfl, Nat.le_of_ble_eq_true rfl⟩ (fun H locs hM => ?_)
  refine lv_aload_n hx hb dX7_quietHours_5 rfl (lv_at hl 0 rfl) ?_
  refine fg_X7_71 hC hM (bq_at h_b) rfl dX7_quietHours_6 ?_
  refine fg_X7_155 hC hM (sp_st _ _ _ _) rfl dX7_quietHours_9 ?_
  refine lv_iload_n hx hb dX7_quietHours_12 rfl (lv_at hl 1 rfl) ?_
  refine me_aald (k := s0) hC hM (sp_a1 _ _ _ _) (t0 := 6) rfl rfl (by omega) (by decide) (sp_arr_at (by omega)) dX7_quietHours_13 ?_
  refine fg_X7_164 hC hM (sp_street _ _ _ _ (by omega)) rfl dX7_quietHours_14 ?_
  exact me_iret hC hr hlk hM (by first | rfl | simp []) (rfl) (rfl) dX7_quietHours_17
set_option maxHeartbeats 4000000 in
theorem c_X7_quietHours_x1 (l : Launch) (D : va_G) (tb : Nat → ClassId) (X : State → Prop) (z0 n : Nat) (bo : Nat) (g : Nat → Int32) (G : Nat → Nat → Int32) (F sf inp out : Nat → Int32) (M0 : me_M) (S B L P : Nat) (x : Int32)  (hfl : l.stackTraces = false) (hXs : ∀ U, X U → me_xs z0 U) (hbad : x < 0 ∨ g 3 ≤ x) : vx_Met l yX7_quietHours (.code yX7_quietHours cX7_quietHours 2 (some .int) :: ws_all) ({ frames := 7, cells := 1, slots := 6, locals := 111 } : Room) (me_Pc [.ref bo, .int x] D tb X z0 (sp tb (bo + 722) g (bq tb bo G F sf inp out M0)) n) me_no (me_XC D z0 (sp tb (bo + 722) g (bq tb bo G F sf inp out M0)) "java/lang/IndexOutOfBoundsException") 1 6 (me_A z0) := by
  refine me_openX (by decide) (Nat.le_of_ble_eq_true rfl) ?_
  intro p e s m args below meth c ls hC ht hlk hM hl
  have hl : lv_has ls 2 [(0, .ref bo), (1, .int x)] := hl
  have hx := hC.1
  have hb := hC.2.1
  have hw := hC.2.2.2.2.1
  refine lv_aload_n hx hb dX7_quietHours_0 rfl (lv_at hl 0 rfl) ?_
  refine lv_iload_n hx hb dX7_quietHours_1 rfl (lv_at hl 1 rfl) ?_
  exact me_xV (As := [.int x]) (rest := []) hC hl.1 hM (c_X7_needStreet_x l D tb X z0 n bo g G F sf inp out M0 S B L P x hfl hXs hbad) (kv_X7_145 hw rfl rfl ⟨Nat.le_of_ble_eq_true rfl, Nat.le_of_ble_eq_true rfl⟩) rfl rfl (bq_at h_b) rfl (Nat.le_of_ble_eq_true rfl) dX7_quietHours_2 ⟨Nat.le_of_ble_eq_true rfl, Nat.le_of_ble_eq_true rfl⟩ ht hlk (Nat.le_of_ble_eq_true rfl) (Nat.le_of_ble_eq_true rfl)
set_option maxHeartbeats 4000000 in
theorem c_X7_noiseNow (l : Launch) (D : va_G) (tb : Nat → ClassId) (X : State → Prop) (z0 n : Nat) (bo : Nat) (g : Nat → Int32) (G : Nat → Nat → Int32) (F sf inp out : Nat → Int32) (M0 : me_M) (S B L P : Nat) (hN : ∀ U, X U → me_nest U) (s0 : Nat)  (hW : wf g S B L P) (hs9 : s0 < S) : Met l yX7_noiseNow (.code yX7_noiseNow cX7_noiseNow 2 (some .int) :: ws_all) ({ frames := 4, cells := 0, slots := 0, locals := 90 } : Room) (me_Pc [.ref bo, .int (nI s0)] D tb X z0 (sp tb (bo + 722) g (bq tb bo G F sf inp out M0)) n) (me_Qi D z0 (noF g L P s0 (g 2)) (sp tb (bo + 722) g (bq tb bo G F sf inp out M0)) n) 0 0 (me_A z0) := by
  refine me_open (by decide) (Nat.le_of_ble_eq_true rfl) ?_
  intro p e s m args below meth c ls hC hr hlk hnm hM hl
  have hl : lv_has ls 2 [(0, .ref bo), (1, .int (nI s0))] := hl
  have hx := hC.1
  have hb := hC.2.1
  have hw := hC.2.2.2.2.1
  obtain ⟨hS, hS0, hB, hB0, hL, hL0, hP, hP0, hwb, hwl⟩ := id hW
  refine lv_aload_n hx hb dX7_noiseNow_0 rfl (lv_at hl 0 rfl) ?_
  refine lv_iload_n hx hb dX7_noiseNow_1 rfl (lv_at hl 1 rfl) ?_
  refine me_callVv (As := [.int (nI s0)]) (rest := []) hC hl.1 hM (c_X7_needStreet l D tb X z0 n bo g G F sf inp out M0 S B L P s0 hW (by omega)) (kv_X7_145 hw rfl rfl ⟨Nat.le_of_ble_eq_true rfl, Nat.le_of_ble_eq_true rfl⟩) rfl rfl (bq_at h_b) rfl (Nat.le_of_ble_eq_true rfl) dX7_noiseNow_2 ⟨Nat.le_of_ble_eq_true rfl, Nat.le_of_ble_eq_true rfl⟩ (fun H locs hM => ?_)
  refine lv_aload_n hx hb dX7_noiseNow_5 rfl (lv_at hl 0 rfl) ?_
  refine fg_X7_71 hC hM (bq_at h_b) rfl dX7_noiseNow_6 ?_
  refine lv_iload_n hx hb dX7_noiseNow_9 rfl (lv_at hl 1 rfl) ?_
  refine lv_aload_n hx hb dX7_noiseNow_10 rfl (lv_at hl 0 rfl) ?_
  refine fg_X7_71 hC hM (bq_at h_b) rfl dX7_noiseNow_11 ?_
  refine fg_X7_114 hC hM (sp_st _ _ _ _) rfl dX7_noiseNow_14 ?_
  refine me_callVi (As := [.int (nI s0), .int (g 2)]) (rest := []) hC hl.1 hM (c_X5_noiseIn l D tb X z0 n (bo + 722) g (bq tb bo G F sf inp out M0) S B L P s0 (g 2) hN hW (by omega)) (kv_X7_148 hw rfl rfl ⟨Nat.le_of_ble_eq_true rfl, Nat.le_of_ble_eq_true rfl⟩) rfl rfl (sp_st _ _ _ _) rfl (Nat.le_of_ble_eq_true rfl) dX7_noiseNow_17 ⟨Nat.le_of_ble_eq_true rfl, Nat.le_of_ble_eq_true rfl⟩ (fun H locs hM => ?_)
  exact me_iret hC hr hlk hM (by first | rfl | simp []) (rfl) (rfl) dX7_noiseNow_20
set_option maxHeartbeats 4000000 in
theorem c_X7_noiseNow_x1 (l : Launch) (D : va_G) (tb : Nat → ClassId) (X : State → Prop) (z0 n : Nat) (bo : Nat) (g : Nat → Int32) (G : Nat → Nat → Int32) (F sf inp out : Nat → Int32) (M0 : me_M) (S B L P : Nat) (x : Int32)  (hfl : l.stackTraces = false) (hXs : ∀ U, X U → me_xs z0 U) (hbad : x < 0 ∨ g 3 ≤ x) : vx_Met l yX7_noiseNow (.code yX7_noiseNow cX7_noiseNow 2 (some .int) :: ws_all) ({ frames := 7, cells := 1, slots := 6, locals := 111 } : Room) (me_Pc [.ref bo, .int x] D tb X z0 (sp tb (bo + 722) g (bq tb bo G F sf inp out M0)) n) me_no (me_XC D z0 (sp tb (bo + 722) g (bq tb bo G F sf inp out M0)) "java/lang/IndexOutOfBoundsException") 1 6 (me_A z0) := by
  refine me_openX (by decide) (Nat.le_of_ble_eq_true rfl) ?_
  intro p e s m args below meth c ls hC ht hlk hM hl
  have hl : lv_has ls 2 [(0, .ref bo), (1, .int x)] := hl
  have hx := hC.1
  have hb := hC.2.1
  have hw := hC.2.2.2.2.1
  refine lv_aload_n hx hb dX7_noiseNow_0 rfl (lv_at hl 0 rfl) ?_
  refine lv_iload_n hx hb dX7_noiseNow_1 rfl (lv_at hl 1 rfl) ?_
  exact me_xV (As := [.int x]) (rest := []) hC hl.1 hM (c_X7_needStreet_x l D tb X z0 n bo g G F sf inp out M0 S B L P x hfl hXs hbad) (kv_X7_145 hw rfl rfl ⟨Nat.le_of_ble_eq_true rfl, Nat.le_of_ble_eq_true rfl⟩) rfl rfl (bq_at h_b) rfl (Nat.le_of_ble_eq_true rfl) dX7_noiseNow_2 ⟨Nat.le_of_ble_eq_true rfl, Nat.le_of_ble_eq_true rfl⟩ ht hlk (Nat.le_of_ble_eq_true rfl) (Nat.le_of_ble_eq_true rfl)
set_option maxHeartbeats 4000000 in
theorem c_X7_noiseAt (l : Launch) (D : va_G) (tb : Nat → ClassId) (X : State → Prop) (z0 n : Nat) (bo : Nat) (g : Nat → Int32) (G : Nat → Nat → Int32) (F sf inp out : Nat → Int32) (M0 : me_M) (S B L P : Nat) (T : Nat) (hN : ∀ U, X U → me_nest U) (s0 h0 : Nat)  (hW : wf g S B L P) (hT : g 2 = nI T) (hT0 : T ≤ 10000) (hs9 : s0 < S) (hh1 : T ≤ h0) (hh2 : h0 < T + 48) : Met l yX7_noiseAt (.code yX7_noiseAt cX7_noiseAt 3 (some .int) :: ws_all) ({ frames := 4, cells := 0, slots := 0, locals := 90 } : Room) (me_Pc [.ref bo, .int (nI s0), .int (nI h0)] D tb X z0 (sp tb (bo + 722) g (bq tb bo G F sf inp out M0)) n) (me_Qi D z0 (noF g L P s0 (nI h0)) (sp tb (bo + 722) g (bq tb bo G F sf inp out M0)) n) 0 0 (me_A z0) := by
  refine me_open (by decide) (Nat.le_of_ble_eq_true rfl) ?_
  intro p e s m args below meth c ls hC hr hlk hnm hM hl
  have hl : lv_has ls 3 [(0, .ref bo), (1, .int (nI s0)), (2, .int (nI h0))] := hl
  have hx := hC.1
  have hb := hC.2.1
  have hw := hC.2.2.2.2.1
  obtain ⟨hS, hS0, hB, hB0, hL, hL0, hP, hP0, hwb, hwl⟩ := id hW
  refine lv_aload_n hx hb dX7_noiseAt_0 rfl (lv_at hl 0 rfl) ?_
  refine lv_iload_n hx hb dX7_noiseAt_1 rfl (lv_at hl 1 rfl) ?_
  refine me_callVv (As := [.int (nI s0)]) (rest := []) hC hl.1 hM (c_X7_needStreet l D tb X z0 n bo g G F sf inp out M0 S B L P s0 hW (by omega)) (kv_X7_145 hw rfl rfl ⟨Nat.le_of_ble_eq_true rfl, Nat.le_of_ble_eq_true rfl⟩) rfl rfl (bq_at h_b) rfl (Nat.le_of_ble_eq_true rfl) dX7_noiseAt_2 ⟨Nat.le_of_ble_eq_true rfl, Nat.le_of_ble_eq_true rfl⟩ (fun H locs hM => ?_)
  refine lv_aload_n hx hb dX7_noiseAt_5 rfl (lv_at hl 0 rfl) ?_
  refine lv_iload_n hx hb dX7_noiseAt_6 rfl (lv_at hl 2 rfl) ?_
  refine me_callVv (As := [.int (nI h0)]) (rest := []) hC hl.1 hM (c_X7_needHour l D tb X z0 n bo g G F sf inp out M0 S B L P h0 T hW hT hT0 (by omega) (by omega)) (kv_X7_152 hw rfl rfl ⟨Nat.le_of_ble_eq_true rfl, Nat.le_of_ble_eq_true rfl⟩) rfl rfl (bq_at h_b) rfl (Nat.le_of_ble_eq_true rfl) dX7_noiseAt_7 ⟨Nat.le_of_ble_eq_true rfl, Nat.le_of_ble_eq_true rfl⟩ (fun H locs hM => ?_)
  refine lv_aload_n hx hb dX7_noiseAt_10 rfl (lv_at hl 0 rfl) ?_
  refine fg_X7_71 hC hM (bq_at h_b) rfl dX7_noiseAt_11 ?_
  refine lv_iload_n hx hb dX7_noiseAt_14 rfl (lv_at hl 1 rfl) ?_
  refine lv_iload_n hx hb dX7_noiseAt_15 rfl (lv_at hl 2 rfl) ?_
  refine me_callVi (As := [.int (nI s0), .int (nI h0)]) (rest := []) hC hl.1 hM (c_X5_noiseIn l D tb X z0 n (bo + 722) g (bq tb bo G F sf inp out M0) S B L P s0 (nI h0) hN hW (by omega)) (kv_X7_148 hw rfl rfl ⟨Nat.le_of_ble_eq_true rfl, Nat.le_of_ble_eq_true rfl⟩) rfl rfl (sp_st _ _ _ _) rfl (Nat.le_of_ble_eq_true rfl) dX7_noiseAt_16 ⟨Nat.le_of_ble_eq_true rfl, Nat.le_of_ble_eq_true rfl⟩ (fun H locs hM => ?_)
  exact me_iret hC hr hlk hM (by first | rfl | simp []) (rfl) (rfl) dX7_noiseAt_19
set_option maxHeartbeats 4000000 in
theorem c_X7_noiseAt_x1 (l : Launch) (D : va_G) (tb : Nat → ClassId) (X : State → Prop) (z0 n : Nat) (bo : Nat) (g : Nat → Int32) (G : Nat → Nat → Int32) (F sf inp out : Nat → Int32) (M0 : me_M) (S B L P : Nat) (x : Int32) (y9 : Int32)  (hfl : l.stackTraces = false) (hXs : ∀ U, X U → me_xs z0 U) (hbad : x < 0 ∨ g 3 ≤ x) : vx_Met l yX7_noiseAt (.code yX7_noiseAt cX7_noiseAt 3 (some .int) :: ws_all) ({ frames := 7, cells := 1, slots := 6, locals := 111 } : Room) (me_Pc [.ref bo, .int x, .int y9] D tb X z0 (sp tb (bo + 722) g (bq tb bo G F sf inp out M0)) n) me_no (me_XC D z0 (sp tb (bo + 722) g (bq tb bo G F sf inp out M0)) "java/lang/IndexOutOfBoundsException") 1 6 (me_A z0) := by
  refine me_openX (by decide) (Nat.le_of_ble_eq_true rfl) ?_
  intro p e s m args below meth c ls hC ht hlk hM hl
  have hl : lv_has ls 3 [(0, .ref bo), (1, .int x), (2, .int y9)] := hl
  have hx := hC.1
  have hb := hC.2.1
  have hw := hC.2.2.2.2.1
  refine lv_aload_n hx hb dX7_noiseAt_0 rfl (lv_at hl 0 rfl) ?_
  refine lv_iload_n hx hb dX7_noiseAt_1 rfl (lv_at hl 1 rfl) ?_
  exact me_xV (As := [.int x]) (rest := []) hC hl.1 hM (c_X7_needStreet_x l D tb X z0 n bo g G F sf inp out M0 S B L P x hfl hXs hbad) (kv_X7_145 hw rfl rfl ⟨Nat.le_of_ble_eq_true rfl, Nat.le_of_ble_eq_true rfl⟩) rfl rfl (bq_at h_b) rfl (Nat.le_of_ble_eq_true rfl) dX7_noiseAt_2 ⟨Nat.le_of_ble_eq_true rfl, Nat.le_of_ble_eq_true rfl⟩ ht hlk (Nat.le_of_ble_eq_true rfl) (Nat.le_of_ble_eq_true rfl)
set_option maxHeartbeats 4000000 in
theorem c_X7_noiseAt_x2 (l : Launch) (D : va_G) (tb : Nat → ClassId) (X : State → Prop) (z0 n : Nat) (bo : Nat) (g : Nat → Int32) (G : Nat → Nat → Int32) (F sf inp out : Nat → Int32) (M0 : me_M) (S B L P : Nat) (s0 : Nat) (x : Int32)  (hfl : l.stackTraces = false) (hXs : ∀ U, X U → me_xs z0 U) (hW : wf g S B L P) (hs9 : s0 < S) (hbad : x < g 2 ∨ g 2 + 48 ≤ x) : vx_Met l yX7_noiseAt (.code yX7_noiseAt cX7_noiseAt 3 (some .int) :: ws_all) ({ frames := 7, cells := 1, slots := 6, locals := 111 } : Room) (me_Pc [.ref bo, .int (nI s0), .int x] D tb X z0 (sp tb (bo + 722) g (bq tb bo G F sf inp out M0)) n) me_no (me_XC D z0 (sp tb (bo + 722) g (bq tb bo G F sf inp out M0)) "java/lang/IllegalArgumentException") 1 6 (me_A z0) := by
  refine me_openX (by decide) (Nat.le_of_ble_eq_true rfl) ?_
  intro p e s m args below meth c ls hC ht hlk hM hl
  have hl : lv_has ls 3 [(0, .ref bo), (1, .int (nI s0)), (2, .int x)] := hl
  have hx := hC.1
  have hb := hC.2.1
  have hw := hC.2.2.2.2.1
  obtain ⟨hS, hS0, hB, hB0, hL, hL0, hP, hP0, hwb, hwl⟩ := id hW
  refine lv_aload_n hx hb dX7_noiseAt_0 rfl (lv_at hl 0 rfl) ?_
  refine lv_iload_n hx hb dX7_noiseAt_1 rfl (lv_at hl 1 rfl) ?_
  refine me_callVv (As := [.int (nI s0)]) (rest := []) hC hl.1 hM (c_X7_needStreet l D tb X z0 n bo g G F sf inp out M0 S B L P s0 hW (by omega)) (kv_X7_145 hw rfl rfl ⟨Nat.le_of_ble_eq_true rfl, Nat.le_of_ble_eq_true rfl⟩) rfl rfl (bq_at h_b) rfl (Nat.le_of_ble_eq_true rfl) dX7_noiseAt_2 ⟨Nat.le_of_ble_eq_true rfl, Nat.le_of_ble_eq_true rfl⟩ (fun H locs hM => ?_)
  refine lv_aload_n hx hb dX7_noiseAt_5 rfl (lv_at hl 0 rfl) ?_
  refine lv_iload_n hx hb dX7_noiseAt_6 rfl (lv_at hl 2 rfl) ?_
  exact me_xV (As := [.int x]) (rest := []) hC hl.1 hM (c_X7_needHour_x l D tb X z0 n bo g G F sf inp out M0 S B L P x hfl hXs hbad) (kv_X7_152 hw rfl rfl ⟨Nat.le_of_ble_eq_true rfl, Nat.le_of_ble_eq_true rfl⟩) rfl rfl (bq_at h_b) rfl (Nat.le_of_ble_eq_true rfl) dX7_noiseAt_7 ⟨Nat.le_of_ble_eq_true rfl, Nat.le_of_ble_eq_true rfl⟩ ht hlk (Nat.le_of_ble_eq_true rfl) (Nat.le_of_ble_eq_true rfl)
set_option maxHeartbeats 4000000 in
theorem c_X7_streetOf (l : Launch) (D : va_G) (tb : Nat → ClassId) (X : State → Prop) (z0 n : Nat) (bo : Nat) (g : Nat → Int32) (G : Nat → Nat → Int32) (F sf inp out : Nat → Int32) (M0 : me_M) (S B L P : Nat) (b : Nat)  (hW : wf g S B L P) (hb9 : b < B) : Met l yX7_streetOf (.code yX7_streetOf cX7_streetOf 2 (some .int) :: ws_all) ({ frames := 1, cells := 0, slots := 0, locals := 21 } : Room) (me_Pc [.ref bo, .int (nI b)] D tb X z0 (sp tb (bo + 722) g (bq tb bo G F sf inp out M0)) n) (me_Qi D z0 (g (89 + 11 * b)) (sp tb (bo + 722) g (bq tb bo G F sf inp out M0)) n) 0 0 (me_A z0) := by
  refine me_open (by decide) (Nat.le_of_ble_eq_true rfl) ?_
  intro p e s m args below meth c ls hC hr hlk hnm hM hl
  have hl : lv_has ls 2 [(0, .ref bo), (1, .int (nI b))] := hl
  have hx := hC.1
  have hb := hC.2.1
  have hw := hC.2.2.2.2.1
  obtain ⟨hS, hS0, hB, hB0, hL, hL0, hP, hP0, hwb, hwl⟩ := id hW
  refine lv_aload_n hx hb dX7_streetOf_0 rfl (lv_at hl 0 rfl) ?_
  refine lv_iload_n hx hb dX7_streetOf_1 rfl (lv_at hl 1 rfl) ?_
  refine me_callVv (As := [.int (nI b)]) (rest := []) hC hl.1 hM (c_X7_needBorrower l D tb X z0 n bo g G F sf inp out M0 S B L P b hW (by omega)) (kv_X7_167 hw rfl rfl ⟨Nat.le_of_ble_eq_true rfl, Nat.le_of_ble_eq_true rfl⟩) rfl rfl (bq_at h_b) rfl (Nat.le_of_ble_eq_true rfl) dX7_streetOf_2 ⟨Nat.le_of_ble_eq_true rfl, Nat.le_of_ble_eq_true rfl⟩ (fun H locs hM => ?_)
  refine lv_aload_n hx hb dX7_streetOf_5 rfl (lv_at hl 0 rfl) ?_
  refine fg_X7_71 hC hM (bq_at h_b) rfl dX7_streetOf_6 ?_
  refine fg_X7_170 hC hM (sp_st _ _ _ _) rfl dX7_streetOf_9 ?_
  refine lv_iload_n hx hb dX7_streetOf_12 rfl (lv_at hl 1 rfl) ?_
  refine me_aald (k := b) hC hM (sp_a2 _ _ _ _) (t0 := 7) rfl rfl (by omega) (by decide) (sp_arr_at (by omega)) dX7_streetOf_13 ?_
  refine fg_X7_174 hC hM (sp_borrower _ _ _ _ (by omega)) rfl dX7_streetOf_14 ?_
  exact me_iret hC hr hlk hM (by first | rfl | simp []) (rfl) (rfl) dX7_streetOf_17
set_option maxHeartbeats 4000000 in
theorem c_X7_streetOf_x1 (l : Launch) (D : va_G) (tb : Nat → ClassId) (X : State → Prop) (z0 n : Nat) (bo : Nat) (g : Nat → Int32) (G : Nat → Nat → Int32) (F sf inp out : Nat → Int32) (M0 : me_M) (S B L P : Nat) (x : Int32)  (hfl : l.stackTraces = false) (hXs : ∀ U, X U → me_xs z0 U) (hbad : x < 0 ∨ g 4 ≤ x) : vx_Met l yX7_streetOf (.code yX7_streetOf cX7_streetOf 2 (some .int) :: ws_all) ({ frames := 7, cells := 1, slots := 6, locals := 111 } : Room) (me_Pc [.ref bo, .int x] D tb X z0 (sp tb (bo + 722) g (bq tb bo G F sf inp out M0)) n) me_no (me_XC D z0 (sp tb (bo + 722) g (bq tb bo G F sf inp out M0)) "java/lang/IndexOutOfBoundsException") 1 6 (me_A z0) := by
  refine me_openX (by decide) (Nat.le_of_ble_eq_true rfl) ?_
  intro p e s m args below meth c ls hC ht hlk hM hl
  have hl : lv_has ls 2 [(0, .ref bo), (1, .int x)] := hl
  have hx := hC.1
  have hb := hC.2.1
  have hw := hC.2.2.2.2.1
  refine lv_aload_n hx hb dX7_streetOf_0 rfl (lv_at hl 0 rfl) ?_
  refine lv_iload_n hx hb dX7_streetOf_1 rfl (lv_at hl 1 rfl) ?_
  exact me_xV (As := [.int x]) (rest := []) hC hl.1 hM (c_X7_needBorrower_x l D tb X z0 n bo g G F sf inp out M0 S B L P x hfl hXs hbad) (kv_X7_167 hw rfl rfl ⟨Nat.le_of_ble_eq_true rfl, Nat.le_of_ble_eq_true rfl⟩) rfl rfl (bq_at h_b) rfl (Nat.le_of_ble_eq_true rfl) dX7_streetOf_2 ⟨Nat.le_of_ble_eq_true rfl, Nat.le_of_ble_eq_true rfl⟩ ht hlk (Nat.le_of_ble_eq_true rfl) (Nat.le_of_ble_eq_true rfl)
set_option maxHeartbeats 4000000 in
theorem c_X7_illnessOf (l : Launch) (D : va_G) (tb : Nat → ClassId) (X : State → Prop) (z0 n : Nat) (bo : Nat) (g : Nat → Int32) (G : Nat → Nat → Int32) (F sf inp out : Nat → Int32) (M0 : me_M) (S B L P : Nat) (b : Nat)  (hW : wf g S B L P) (hb9 : b < B) : Met l yX7_illnessOf (.code yX7_illnessOf cX7_illnessOf 2 (some .int) :: ws_all) ({ frames := 1, cells := 0, slots := 0, locals := 21 } : Room) (me_Pc [.ref bo, .int (nI b)] D tb X z0 (sp tb (bo + 722) g (bq tb bo G F sf inp out M0)) n) (me_Qi D z0 (g (89 + 11 * b + 1)) (sp tb (bo + 722) g (bq tb bo G F sf inp out M0)) n) 0 0 (me_A z0) := by
  refine me_open (by decide) (Nat.le_of_ble_eq_true rfl) ?_
  intro p e s m args below meth c ls hC hr hlk hnm hM hl
  have hl : lv_has ls 2 [(0, .ref bo), (1, .int (nI b))] := hl
  have hx := hC.1
  have hb := hC.2.1
  have hw := hC.2.2.2.2.1
  obtain ⟨hS, hS0, hB, hB0, hL, hL0, hP, hP0, hwb, hwl⟩ := id hW
  refine lv_aload_n hx hb dX7_illnessOf_0 rfl (lv_at hl 0 rfl) ?_
  refine lv_iload_n hx hb dX7_illnessOf_1 rfl (lv_at hl 1 rfl) ?_
  refine me_callVv (As := [.int (nI b)]) (rest := []) hC hl.1 hM (c_X7_needBorrower l D tb X z0 n bo g G F sf inp out M0 S B L P b hW (by omega)) (kv_X7_167 hw rfl rfl ⟨Nat.le_of_ble_eq_true rfl, Nat.le_of_ble_eq_true rfl⟩) rfl rfl (bq_at h_b) rfl (Nat.le_of_ble_eq_true rfl) dX7_illnessOf_2 ⟨Nat.le_of_ble_eq_true rfl, Nat.le_of_ble_eq_true rfl⟩ (fun H locs hM => ?_)
  refine lv_aload_n hx hb dX7_illnessOf_5 rfl (lv_at hl 0 rfl) ?_
  refine fg_X7_71 hC hM (bq_at h_b) rfl dX7_illnessOf_6 ?_
  refine fg_X7_170 hC hM (sp_st _ _ _ _) rfl dX7_illnessOf_9 ?_
  refine lv_iload_n hx hb dX7_illnessOf_12 rfl (lv_at hl 1 rfl) ?_
  refine me_aald (k := b) hC hM (sp_a2 _ _ _ _) (t0 := 7) rfl rfl (by omega) (by decide) (sp_arr_at (by omega)) dX7_illnessOf_13 ?_
  refine fg_X7_179 hC hM (sp_borrower _ _ _ _ (by omega)) rfl dX7_illnessOf_14 ?_
  exact me_iret hC hr hlk hM (by first | rfl | simp []) (rfl) (rfl) dX7_illnessOf_17
set_option maxHeartbeats 4000000 in
theorem c_X7_illnessOf_x1 (l : Launch) (D : va_G) (tb : Nat → ClassId) (X : State → Prop) (z0 n : Nat) (bo : Nat) (g : Nat → Int32) (G : Nat → Nat → Int32) (F sf inp out : Nat → Int32) (M0 : me_M) (S B L P : Nat) (x : Int32)  (hfl : l.stackTraces = false) (hXs : ∀ U, X U → me_xs z0 U) (hbad : x < 0 ∨ g 4 ≤ x) : vx_Met l yX7_illnessOf (.code yX7_illnessOf cX7_illnessOf 2 (some .int) :: ws_all) ({ frames := 7, cells := 1, slots := 6, locals := 111 } : Room) (me_Pc [.ref bo, .int x] D tb X z0 (sp tb (bo + 722) g (bq tb bo G F sf inp out M0)) n) me_no (me_XC D z0 (sp tb (bo + 722) g (bq tb bo G F sf inp out M0)) "java/lang/IndexOutOfBoundsException") 1 6 (me_A z0) := by
  refine me_openX (by decide) (Nat.le_of_ble_eq_true rfl) ?_
  intro p e s m args below meth c ls hC ht hlk hM hl
  have hl : lv_has ls 2 [(0, .ref bo), (1, .int x)] := hl
  have hx := hC.1
  have hb := hC.2.1
  have hw := hC.2.2.2.2.1
  refine lv_aload_n hx hb dX7_illnessOf_0 rfl (lv_at hl 0 rfl) ?_
  refine lv_iload_n hx hb dX7_illnessOf_1 rfl (lv_at hl 1 rfl) ?_
  exact me_xV (As := [.int x]) (rest := []) hC hl.1 hM (c_X7_needBorrower_x l D tb X z0 n bo g G F sf inp out M0 S B L P x hfl hXs hbad) (kv_X7_167 hw rfl rfl ⟨Nat.le_of_ble_eq_true rfl, Nat.le_of_ble_eq_true rfl⟩) rfl rfl (bq_at h_b) rfl (Nat.le_of_ble_eq_true rfl) dX7_illnessOf_2 ⟨Nat.le_of_ble_eq_true rfl, Nat.le_of_ble_eq_true rfl⟩ ht hlk (Nat.le_of_ble_eq_true rfl) (Nat.le_of_ble_eq_true rfl)
set_option maxHeartbeats 4000000 in
theorem c_X7_creditOf (l : Launch) (D : va_G) (tb : Nat → ClassId) (X : State → Prop) (z0 n : Nat) (bo : Nat) (g : Nat → Int32) (G : Nat → Nat → Int32) (F sf inp out : Nat → Int32) (M0 : me_M) (S B L P : Nat) (b : Nat)  (hW : wf g S B L P) (hb9 : b < B) : Met l yX7_creditOf (.code yX7_creditOf cX7_creditOf 2 (some .int) :: ws_all) ({ frames := 1, cells := 0, slots := 0, locals := 21 } : Room) (me_Pc [.ref bo, .int (nI b)] D tb X z0 (sp tb (bo + 722) g (bq tb bo G F sf inp out M0)) n) (me_Qi D z0 (g (89 + 11 * b + 2)) (sp tb (bo + 722) g (bq tb bo G F sf inp out M0)) n) 0 0 (me_A z0) := by
  refine me_open (by decide) (Nat.le_of_ble_eq_true rfl) ?_
  intro p e s m args below meth c ls hC hr hlk hnm hM hl
  have hl : lv_has ls 2 [(0, .ref bo), (1, .int (nI b))] := hl
  have hx := hC.1
  have hb := hC.2.1
  have hw := hC.2.2.2.2.1
  obtain ⟨hS, hS0, hB, hB0, hL, hL0, hP, hP0, hwb, hwl⟩ := id hW
  refine lv_aload_n hx hb dX7_creditOf_0 rfl (lv_at hl 0 rfl) ?_
  refine lv_iload_n hx hb dX7_creditOf_1 rfl (lv_at hl 1 rfl) ?_
  refine me_callVv (As := [.int (nI b)]) (rest := []) hC hl.1 hM (c_X7_needBorrower l D tb X z0 n bo g G F sf inp out M0 S B L P b hW (by omega)) (kv_X7_167 hw rfl rfl ⟨Nat.le_of_ble_eq_true rfl, Nat.le_of_ble_eq_true rfl⟩) rfl rfl (bq_at h_b) rfl (Nat.le_of_ble_eq_true rfl) dX7_creditOf_2 ⟨Nat.le_of_ble_eq_true rfl, Nat.le_of_ble_eq_true rfl⟩ (fun H locs hM => ?_)
  refine lv_aload_n hx hb dX7_creditOf_5 rfl (lv_at hl 0 rfl) ?_
  refine fg_X7_71 hC hM (bq_at h_b) rfl dX7_creditOf_6 ?_
  refine fg_X7_170 hC hM (sp_st _ _ _ _) rfl dX7_creditOf_9 ?_
  refine lv_iload_n hx hb dX7_creditOf_12 rfl (lv_at hl 1 rfl) ?_
  refine me_aald (k := b) hC hM (sp_a2 _ _ _ _) (t0 := 7) rfl rfl (by omega) (by decide) (sp_arr_at (by omega)) dX7_creditOf_13 ?_
  refine fg_X7_182 hC hM (sp_borrower _ _ _ _ (by omega)) rfl dX7_creditOf_14 ?_
  exact me_iret hC hr hlk hM (by first | rfl | simp []) (rfl) (rfl) dX7_creditOf_17
set_option maxHeartbeats 4000000 in
theorem c_X7_creditOf_x1 (l : Launch) (D : va_G) (tb : Nat → ClassId) (X : State → Prop) (z0 n : Nat) (bo : Nat) (g : Nat → Int32) (G : Nat → Nat → Int32) (F sf inp out : Nat → Int32) (M0 : me_M) (S B L P : Nat) (x : Int32)  (hfl : l.stackTraces = false) (hXs : ∀ U, X U → me_xs z0 U) (hbad : x < 0 ∨ g 4 ≤ x) : vx_Met l yX7_creditOf (.code yX7_creditOf cX7_creditOf 2 (some .int) :: ws_all) ({ frames := 7, cells := 1, slots := 6, locals := 111 } : Room) (me_Pc [.ref bo, .int x] D tb X z0 (sp tb (bo + 722) g (bq tb bo G F sf inp out M0)) n) me_no (me_XC D z0 (sp tb (bo + 722) g (bq tb bo G F sf inp out M0)) "java/lang/IndexOutOfBoundsException") 1 6 (me_A z0) := by
  refine me_openX (by decide) (Nat.le_of_ble_eq_true rfl) ?_
  intro p e s m args below meth c ls hC ht hlk hM hl
  have hl : lv_has ls 2 [(0, .ref bo), (1, .int x)] := hl
  have hx := hC.1
  have hb := hC.2.1
  have hw := hC.2.2.2.2.1
  refine lv_aload_n hx hb dX7_creditOf_0 rfl (lv_at hl 0 rfl) ?_
  refine lv_iload_n hx hb dX7_creditOf_1 rfl (lv_at hl 1 rfl) ?_
  exact me_xV (As := [.int x]) (rest := []) hC hl.1 hM (c_X7_needBorrower_x l D tb X z0 n bo g G F sf inp out M0 S B L P x hfl hXs hbad) (kv_X7_167 hw rfl rfl ⟨Nat.le_of_ble_eq_true rfl, Nat.le_of_ble_eq_true rfl⟩) rfl rfl (bq_at h_b) rfl (Nat.le_of_ble_eq_true rfl) dX7_creditOf_2 ⟨Nat.le_of_ble_eq_true rfl, Nat.le_of_ble_eq_true rfl⟩ ht hlk (Nat.le_of_ble_eq_true rfl) (Nat.le_of_ble_eq_true rfl)
set_option maxHeartbeats 4000000 in
theorem c_X7_borrowerOf (l : Launch) (D : va_G) (tb : Nat → ClassId) (X : State → Prop) (z0 n : Nat) (bo : Nat) (g : Nat → Int32) (G : Nat → Nat → Int32) (F sf inp out : Nat → Int32) (M0 : me_M) (S B L P : Nat) (k : Nat)  (hW : wf g S B L P) (hk : k < L) : Met l yX7_borrowerOf (.code yX7_borrowerOf cX7_borrowerOf 2 (some .int) :: ws_all) ({ frames := 1, cells := 0, slots := 0, locals := 21 } : Room) (me_Pc [.ref bo, .int (nI k)] D tb X z0 (sp tb (bo + 722) g (bq tb bo G F sf inp out M0)) n) (me_Qi D z0 (g (261 + 5 * k)) (sp tb (bo + 722) g (bq tb bo G F sf inp out M0)) n) 0 0 (me_A z0) := by
  refine me_open (by decide) (Nat.le_of_ble_eq_true rfl) ?_
  intro p e s m args below meth c ls hC hr hlk hnm hM hl
  have hl : lv_has ls 2 [(0, .ref bo), (1, .int (nI k))] := hl
  have hx := hC.1
  have hb := hC.2.1
  have hw := hC.2.2.2.2.1
  obtain ⟨hS, hS0, hB, hB0, hL, hL0, hP, hP0, hwb, hwl⟩ := id hW
  refine lv_aload_n hx hb dX7_borrowerOf_0 rfl (lv_at hl 0 rfl) ?_
  refine lv_iload_n hx hb dX7_borrowerOf_1 rfl (lv_at hl 1 rfl) ?_
  refine me_callVv (As := [.int (nI k)]) (rest := []) hC hl.1 hM (c_X7_needLoan l D tb X z0 n bo g G F sf inp out M0 S B L P k hW (by omega)) (kv_X7_197 hw rfl rfl ⟨Nat.le_of_ble_eq_true rfl, Nat.le_of_ble_eq_true rfl⟩) rfl rfl (bq_at h_b) rfl (Nat.le_of_ble_eq_true rfl) dX7_borrowerOf_2 ⟨Nat.le_of_ble_eq_true rfl, Nat.le_of_ble_eq_true rfl⟩ (fun H locs hM => ?_)
  refine lv_aload_n hx hb dX7_borrowerOf_5 rfl (lv_at hl 0 rfl) ?_
  refine fg_X7_71 hC hM (bq_at h_b) rfl dX7_borrowerOf_6 ?_
  refine fg_X7_185 hC hM (sp_st _ _ _ _) rfl dX7_borrowerOf_9 ?_
  refine lv_iload_n hx hb dX7_borrowerOf_12 rfl (lv_at hl 1 rfl) ?_
  refine me_aald (k := k) hC hM (sp_a3 _ _ _ _) (t0 := 8) rfl rfl (by omega) (by decide) (sp_arr_at (by omega)) dX7_borrowerOf_13 ?_
  refine fg_X7_189 hC hM (sp_loan _ _ _ _ (by omega)) rfl dX7_borrowerOf_14 ?_
  exact me_iret hC hr hlk hM (by first | rfl | simp []) (rfl) (rfl) dX7_borrowerOf_17
set_option maxHeartbeats 4000000 in
theorem c_X7_borrowerOf_x1 (l : Launch) (D : va_G) (tb : Nat → ClassId) (X : State → Prop) (z0 n : Nat) (bo : Nat) (g : Nat → Int32) (G : Nat → Nat → Int32) (F sf inp out : Nat → Int32) (M0 : me_M) (S B L P : Nat) (x : Int32)  (hfl : l.stackTraces = false) (hXs : ∀ U, X U → me_xs z0 U) (hbad : x < 0 ∨ g 6 ≤ x) : vx_Met l yX7_borrowerOf (.code yX7_borrowerOf cX7_borrowerOf 2 (some .int) :: ws_all) ({ frames := 7, cells := 1, slots := 6, locals := 111 } : Room) (me_Pc [.ref bo, .int x] D tb X z0 (sp tb (bo + 722) g (bq tb bo G F sf inp out M0)) n) me_no (me_XC D z0 (sp tb (bo + 722) g (bq tb bo G F sf inp out M0)) "java/lang/IndexOutOfBoundsException") 1 6 (me_A z0) := by
  refine me_openX (by decide) (Nat.le_of_ble_eq_true rfl) ?_
  intro p e s m args below meth c ls hC ht hlk hM hl
  have hl : lv_has ls 2 [(0, .ref bo), (1, .int x)] := hl
  have hx := hC.1
  have hb := hC.2.1
  have hw := hC.2.2.2.2.1
  refine lv_aload_n hx hb dX7_borrowerOf_0 rfl (lv_at hl 0 rfl) ?_
  refine lv_iload_n hx hb dX7_borrowerOf_1 rfl (lv_at hl 1 rfl) ?_
  exact me_xV (As := [.int x]) (rest := []) hC hl.1 hM (c_X7_needLoan_x l D tb X z0 n bo g G F sf inp out M0 S B L P x hfl hXs hbad) (kv_X7_197 hw rfl rfl ⟨Nat.le_of_ble_eq_true rfl, Nat.le_of_ble_eq_true rfl⟩) rfl rfl (bq_at h_b) rfl (Nat.le_of_ble_eq_true rfl) dX7_borrowerOf_2 ⟨Nat.le_of_ble_eq_true rfl, Nat.le_of_ble_eq_true rfl⟩ ht hlk (Nat.le_of_ble_eq_true rfl) (Nat.le_of_ble_eq_true rfl)
set_option maxHeartbeats 4000000 in
theorem c_X7_startOf (l : Launch) (D : va_G) (tb : Nat → ClassId) (X : State → Prop) (z0 n : Nat) (bo : Nat) (g : Nat → Int32) (G : Nat → Nat → Int32) (F sf inp out : Nat → Int32) (M0 : me_M) (S B L P : Nat) (k : Nat)  (hW : wf g S B L P) (hk : k < L) : Met l yX7_startOf (.code yX7_startOf cX7_startOf 2 (some .int) :: ws_all) ({ frames := 1, cells := 0, slots := 0, locals := 21 } : Room) (me_Pc [.ref bo, .int (nI k)] D tb X z0 (sp tb (bo + 722) g (bq tb bo G F sf inp out M0)) n) (me_Qi D z0 (g (261 + 5 * k + 1)) (sp tb (bo + 722) g (bq tb bo G F sf inp out M0)) n) 0 0 (me_A z0) := by
  refine me_open (by decide) (Nat.le_of_ble_eq_true rfl) ?_
  intro p e s m args below meth c ls hC hr hlk hnm hM hl
  have hl : lv_has ls 2 [(0, .ref bo), (1, .int (nI k))] := hl
  have hx := hC.1
  have hb := hC.2.1
  have hw := hC.2.2.2.2.1
  obtain ⟨hS, hS0, hB, hB0, hL, hL0, hP, hP0, hwb, hwl⟩ := id hW
  refine lv_aload_n hx hb dX7_startOf_0 rfl (lv_at hl 0 rfl) ?_
  refine lv_iload_n hx hb dX7_startOf_1 rfl (lv_at hl 1 rfl) ?_
  refine me_callVv (As := [.int (nI k)]) (rest := []) hC hl.1 hM (c_X7_needLoan l D tb X z0 n bo g G F sf inp out M0 S B L P k hW (by omega)) (kv_X7_197 hw rfl rfl ⟨Nat.le_of_ble_eq_true rfl, Nat.le_of_ble_eq_true rfl⟩) rfl rfl (bq_at h_b) rfl (Nat.le_of_ble_eq_true rfl) dX7_startOf_2 ⟨Nat.le_of_ble_eq_true rfl, Nat.le_of_ble_eq_true rfl⟩ (fun H locs hM => ?_)
  refine lv_aload_n hx hb dX7_startOf_5 rfl (lv_at hl 0 rfl) ?_
  refine fg_X7_71 hC hM (bq_at h_b) rfl dX7_startOf_6 ?_
  refine fg_X7_185 hC hM (sp_st _ _ _ _) rfl dX7_startOf_9 ?_
  refine lv_iload_n hx hb dX7_startOf_12 rfl (lv_at hl 1 rfl) ?_
  refine me_aald (k := k) hC hM (sp_a3 _ _ _ _) (t0 := 8) rfl rfl (by omega) (by decide) (sp_arr_at (by omega)) dX7_startOf_13 ?_
  refine fg_X7_200 hC hM (sp_loan _ _ _ _ (by omega)) rfl dX7_startOf_14 ?_
  exact me_iret hC hr hlk hM (by first | rfl | simp []) (rfl) (rfl) dX7_startOf_17
set_option maxHeartbeats 4000000 in
theorem c_X7_startOf_x1 (l : Launch) (D : va_G) (tb : Nat → ClassId) (X : State → Prop) (z0 n : Nat) (bo : Nat) (g : Nat → Int32) (G : Nat → Nat → Int32) (F sf inp out : Nat → Int32) (M0 : me_M) (S B L P : Nat) (x : Int32)  (hfl : l.stackTraces = false) (hXs : ∀ U, X U → me_xs z0 U) (hbad : x < 0 ∨ g 6 ≤ x) : vx_Met l yX7_startOf (.code yX7_startOf cX7_startOf 2 (some .int) :: ws_all) ({ frames := 7, cells := 1, slots := 6, locals := 111 } : Room) (me_Pc [.ref bo, .int x] D tb X z0 (sp tb (bo + 722) g (bq tb bo G F sf inp out M0)) n) me_no (me_XC D z0 (sp tb (bo + 722) g (bq tb bo G F sf inp out M0)) "java/lang/IndexOutOfBoundsException") 1 6 (me_A z0) := by
  refine me_openX (by decide) (Nat.le_of_ble_eq_true rfl) ?_
  intro p e s m args below meth c ls hC ht hlk hM hl
  have hl : lv_has ls 2 [(0, .ref bo), (1, .int x)] := hl
  have hx := hC.1
  have hb := hC.2.1
  have hw := hC.2.2.2.2.1
  refine lv_aload_n hx hb dX7_startOf_0 rfl (lv_at hl 0 rfl) ?_
  refine lv_iload_n hx hb dX7_startOf_1 rfl (lv_at hl 1 rfl) ?_
  exact me_xV (As := [.int x]) (rest := []) hC hl.1 hM (c_X7_needLoan_x l D tb X z0 n bo g G F sf inp out M0 S B L P x hfl hXs hbad) (kv_X7_197 hw rfl rfl ⟨Nat.le_of_ble_eq_true rfl, Nat.le_of_ble_eq_true rfl⟩) rfl rfl (bq_at h_b) rfl (Nat.le_of_ble_eq_true rfl) dX7_startOf_2 ⟨Nat.le_of_ble_eq_true rfl, Nat.le_of_ble_eq_true rfl⟩ ht hlk (Nat.le_of_ble_eq_true rfl) (Nat.le_of_ble_eq_true rfl)
set_option maxHeartbeats 4000000 in
theorem c_X7_lengthOf (l : Launch) (D : va_G) (tb : Nat → ClassId) (X : State → Prop) (z0 n : Nat) (bo : Nat) (g : Nat → Int32) (G : Nat → Nat → Int32) (F sf inp out : Nat → Int32) (M0 : me_M) (S B L P : Nat) (k : Nat)  (hW : wf g S B L P) (hk : k < L) : Met l yX7_lengthOf (.code yX7_lengthOf cX7_lengthOf 2 (some .int) :: ws_all) ({ frames := 1, cells := 0, slots := 0, locals := 21 } : Room) (me_Pc [.ref bo, .int (nI k)] D tb X z0 (sp tb (bo + 722) g (bq tb bo G F sf inp out M0)) n) (me_Qi D z0 (g (261 + 5 * k + 2)) (sp tb (bo + 722) g (bq tb bo G F sf inp out M0)) n) 0 0 (me_A z0) := by
  refine me_open (by decide) (Nat.le_of_ble_eq_true rfl) ?_
  intro p e s m args below meth c ls hC hr hlk hnm hM hl
  have hl : lv_has ls 2 [(0, .ref bo), (1, .int (nI k))] := hl
  have hx := hC.1
  have hb := hC.2.1
  have hw := hC.2.2.2.2.1
  obtain ⟨hS, hS0, hB, hB0, hL, hL0, hP, hP0, hwb, hwl⟩ := id hW
  refine lv_aload_n hx hb dX7_lengthOf_0 rfl (lv_at hl 0 rfl) ?_
  refine lv_iload_n hx hb dX7_lengthOf_1 rfl (lv_at hl 1 rfl) ?_
  refine me_callVv (As := [.int (nI k)]) (rest := []) hC hl.1 hM (c_X7_needLoan l D tb X z0 n bo g G F sf inp out M0 S B L P k hW (by omega)) (kv_X7_197 hw rfl rfl ⟨Nat.le_of_ble_eq_true rfl, Nat.le_of_ble_eq_true rfl⟩) rfl rfl (bq_at h_b) rfl (Nat.le_of_ble_eq_true rfl) dX7_lengthOf_2 ⟨Nat.le_of_ble_eq_true rfl, Nat.le_of_ble_eq_true rfl⟩ (fun H locs hM => ?_)
  refine lv_aload_n hx hb dX7_lengthOf_5 rfl (lv_at hl 0 rfl) ?_
  refine fg_X7_71 hC hM (bq_at h_b) rfl dX7_lengthOf_6 ?_
  refine fg_X7_185 hC hM (sp_st _ _ _ _) rfl dX7_lengthOf_9 ?_
  refine lv_iload_n hx hb dX7_lengthOf_12 rfl (lv_at hl 1 rfl) ?_
  refine me_aald (k := k) hC hM (sp_a3 _ _ _ _) (t0 := 8) rfl rfl (by omega) (by decide) (sp_arr_at (by omega)) dX7_lengthOf_13 ?_
  refine fg_X7_203 hC hM (sp_loan _ _ _ _ (by omega)) rfl dX7_lengthOf_14 ?_
  exact me_iret hC hr hlk hM (by first | rfl | simp []) (rfl) (rfl) dX7_lengthOf_17
set_option maxHeartbeats 4000000 in
theorem c_X7_lengthOf_x1 (l : Launch) (D : va_G) (tb : Nat → ClassId) (X : State → Prop) (z0 n : Nat) (bo : Nat) (g : Nat → Int32) (G : Nat → Nat → Int32) (F sf inp out : Nat → Int32) (M0 : me_M) (S B L P : Nat) (x : Int32)  (hfl : l.stackTraces = false) (hXs : ∀ U, X U → me_xs z0 U) (hbad : x < 0 ∨ g 6 ≤ x) : vx_Met l yX7_lengthOf (.code yX7_lengthOf cX7_lengthOf 2 (some .int) :: ws_all) ({ frames := 7, cells := 1, slots := 6, locals := 111 } : Room) (me_Pc [.ref bo, .int x] D tb X z0 (sp tb (bo + 722) g (bq tb bo G F sf inp out M0)) n) me_no (me_XC D z0 (sp tb (bo + 722) g (bq tb bo G F sf inp out M0)) "java/lang/IndexOutOfBoundsException") 1 6 (me_A z0) := by
  refine me_openX (by decide) (Nat.le_of_ble_eq_true rfl) ?_
  intro p e s m args below meth c ls hC ht hlk hM hl
  have hl : lv_has ls 2 [(0, .ref bo), (1, .int x)] := hl
  have hx := hC.1
  have hb := hC.2.1
  have hw := hC.2.2.2.2.1
  refine lv_aload_n hx hb dX7_lengthOf_0 rfl (lv_at hl 0 rfl) ?_
  refine lv_iload_n hx hb dX7_lengthOf_1 rfl (lv_at hl 1 rfl) ?_
  exact me_xV (As := [.int x]) (rest := []) hC hl.1 hM (c_X7_needLoan_x l D tb X z0 n bo g G F sf inp out M0 S B L P x hfl hXs hbad) (kv_X7_197 hw rfl rfl ⟨Nat.le_of_ble_eq_true rfl, Nat.le_of_ble_eq_true rfl⟩) rfl rfl (bq_at h_b) rfl (Nat.le_of_ble_eq_true rfl) dX7_lengthOf_2 ⟨Nat.le_of_ble_eq_true rfl, Nat.le_of_ble_eq_true rfl⟩ ht hlk (Nat.le_of_ble_eq_true rfl) (Nat.le_of_ble_eq_true rfl)
set_option maxHeartbeats 4000000 in
theorem c_X7_priceOf (l : Launch) (D : va_G) (tb : Nat → ClassId) (X : State → Prop) (z0 n : Nat) (bo : Nat) (g : Nat → Int32) (G : Nat → Nat → Int32) (F sf inp out : Nat → Int32) (M0 : me_M) (S B L P : Nat) (k : Nat)  (hW : wf g S B L P) (hk : k < L) : Met l yX7_priceOf (.code yX7_priceOf cX7_priceOf 2 (some .int) :: ws_all) ({ frames := 1, cells := 0, slots := 0, locals := 21 } : Room) (me_Pc [.ref bo, .int (nI k)] D tb X z0 (sp tb (bo + 722) g (bq tb bo G F sf inp out M0)) n) (me_Qi D z0 (g (261 + 5 * k + 3)) (sp tb (bo + 722) g (bq tb bo G F sf inp out M0)) n) 0 0 (me_A z0) := by
  refine me_open (by decide) (Nat.le_of_ble_eq_true rfl) ?_
  intro p e s m args below meth c ls hC hr hlk hnm hM hl
  have hl : lv_has ls 2 [(0, .ref bo), (1, .int (nI k))] := hl
  have hx := hC.1
  have hb := hC.2.1
  have hw := hC.2.2.2.2.1
  obtain ⟨hS, hS0, hB, hB0, hL, hL0, hP, hP0, hwb, hwl⟩ := id hW
  refine lv_aload_n hx hb dX7_priceOf_0 rfl (lv_at hl 0 rfl) ?_
  refine lv_iload_n hx hb dX7_priceOf_1 rfl (lv_at hl 1 rfl) ?_
  refine me_callVv (As := [.int (nI k)]) (rest := []) hC hl.1 hM (c_X7_needLoan l D tb X z0 n bo g G F sf inp out M0 S B L P k hW (by omega)) (kv_X7_197 hw rfl rfl ⟨Nat.le_of_ble_eq_true rfl, Nat.le_of_ble_eq_true rfl⟩) rfl rfl (bq_at h_b) rfl (Nat.le_of_ble_eq_true rfl) dX7_priceOf_2 ⟨Nat.le_of_ble_eq_true rfl, Nat.le_of_ble_eq_true rfl⟩ (fun H locs hM => ?_)
  refine lv_aload_n hx hb dX7_priceOf_5 rfl (lv_at hl 0 rfl) ?_
  refine fg_X7_71 hC hM (bq_at h_b) rfl dX7_priceOf_6 ?_
  refine fg_X7_185 hC hM (sp_st _ _ _ _) rfl dX7_priceOf_9 ?_
  refine lv_iload_n hx hb dX7_priceOf_12 rfl (lv_at hl 1 rfl) ?_
  refine me_aald (k := k) hC hM (sp_a3 _ _ _ _) (t0 := 8) rfl rfl (by omega) (by decide) (sp_arr_at (by omega)) dX7_priceOf_13 ?_
  refine fg_X7_205 hC hM (sp_loan _ _ _ _ (by omega)) rfl dX7_priceOf_14 ?_
  exact me_iret hC hr hlk hM (by first | rfl | simp []) (rfl) (rfl) dX7_priceOf_17
set_option maxHeartbeats 4000000 in
theorem c_X7_priceOf_x1 (l : Launch) (D : va_G) (tb : Nat → ClassId) (X : State → Prop) (z0 n : Nat) (bo : Nat) (g : Nat → Int32) (G : Nat → Nat → Int32) (F sf inp out : Nat → Int32) (M0 : me_M) (S B L P : Nat) (x : Int32)  (hfl : l.stackTraces = false) (hXs : ∀ U, X U → me_xs z0 U) (hbad : x < 0 ∨ g 6 ≤ x) : vx_Met l yX7_priceOf (.code yX7_priceOf cX7_priceOf 2 (some .int) :: ws_all) ({ frames := 7, cells := 1, slots := 6, locals := 111 } : Room) (me_Pc [.ref bo, .int x] D tb X z0 (sp tb (bo + 722) g (bq tb bo G F sf inp out M0)) n) me_no (me_XC D z0 (sp tb (bo + 722) g (bq tb bo G F sf inp out M0)) "java/lang/IndexOutOfBoundsException") 1 6 (me_A z0) := by
  refine me_openX (by decide) (Nat.le_of_ble_eq_true rfl) ?_
  intro p e s m args below meth c ls hC ht hlk hM hl
  have hl : lv_has ls 2 [(0, .ref bo), (1, .int x)] := hl
  have hx := hC.1
  have hb := hC.2.1
  have hw := hC.2.2.2.2.1
  refine lv_aload_n hx hb dX7_priceOf_0 rfl (lv_at hl 0 rfl) ?_
  refine lv_iload_n hx hb dX7_priceOf_1 rfl (lv_at hl 1 rfl) ?_
  exact me_xV (As := [.int x]) (rest := []) hC hl.1 hM (c_X7_needLoan_x l D tb X z0 n bo g G F sf inp out M0 S B L P x hfl hXs hbad) (kv_X7_197 hw rfl rfl ⟨Nat.le_of_ble_eq_true rfl, Nat.le_of_ble_eq_true rfl⟩) rfl rfl (bq_at h_b) rfl (Nat.le_of_ble_eq_true rfl) dX7_priceOf_2 ⟨Nat.le_of_ble_eq_true rfl, Nat.le_of_ble_eq_true rfl⟩ ht hlk (Nat.le_of_ble_eq_true rfl) (Nat.le_of_ble_eq_true rfl)
set_option maxHeartbeats 4000000 in
theorem c_X7_statusOf (l : Launch) (D : va_G) (tb : Nat → ClassId) (X : State → Prop) (z0 n : Nat) (bo : Nat) (g : Nat → Int32) (G : Nat → Nat → Int32) (F sf inp out : Nat → Int32) (M0 : me_M) (S B L P : Nat) (k : Nat)  (hW : wf g S B L P) (hk : k < L) : Met l yX7_statusOf (.code yX7_statusOf cX7_statusOf 2 (some .int) :: ws_all) ({ frames := 1, cells := 0, slots := 0, locals := 21 } : Room) (me_Pc [.ref bo, .int (nI k)] D tb X z0 (sp tb (bo + 722) g (bq tb bo G F sf inp out M0)) n) (me_Qi D z0 (g (261 + 5 * k + 4)) (sp tb (bo + 722) g (bq tb bo G F sf inp out M0)) n) 0 0 (me_A z0) := by
  refine me_open (by decide) (Nat.le_of_ble_eq_true rfl) ?_
  intro p e s m args below meth c ls hC hr hlk hnm hM hl
  have hl : lv_has ls 2 [(0, .ref bo), (1, .int (nI k))] := hl
  have hx := hC.1
  have hb := hC.2.1
  have hw := hC.2.2.2.2.1
  obtain ⟨hS, hS0, hB, hB0, hL, hL0, hP, hP0, hwb, hwl⟩ := id hW
  refine lv_aload_n hx hb dX7_statusOf_0 rfl (lv_at hl 0 rfl) ?_
  refine lv_iload_n hx hb dX7_statusOf_1 rfl (lv_at hl 1 rfl) ?_
  refine me_callVv (As := [.int (nI k)]) (rest := []) hC hl.1 hM (c_X7_needLoan l D tb X z0 n bo g G F sf inp out M0 S B L P k hW (by omega)) (kv_X7_197 hw rfl rfl ⟨Nat.le_of_ble_eq_true rfl, Nat.le_of_ble_eq_true rfl⟩) rfl rfl (bq_at h_b) rfl (Nat.le_of_ble_eq_true rfl) dX7_statusOf_2 ⟨Nat.le_of_ble_eq_true rfl, Nat.le_of_ble_eq_true rfl⟩ (fun H locs hM => ?_)
  refine lv_aload_n hx hb dX7_statusOf_5 rfl (lv_at hl 0 rfl) ?_
  refine fg_X7_71 hC hM (bq_at h_b) rfl dX7_statusOf_6 ?_
  refine fg_X7_185 hC hM (sp_st _ _ _ _) rfl dX7_statusOf_9 ?_
  refine lv_iload_n hx hb dX7_statusOf_12 rfl (lv_at hl 1 rfl) ?_
  refine me_aald (k := k) hC hM (sp_a3 _ _ _ _) (t0 := 8) rfl rfl (by omega) (by decide) (sp_arr_at (by omega)) dX7_statusOf_13 ?_
  refine fg_X7_194 hC hM (sp_loan _ _ _ _ (by omega)) rfl dX7_statusOf_14 ?_
  exact me_iret hC hr hlk hM (by first | rfl | simp []) (rfl) (rfl) dX7_statusOf_17
set_option maxHeartbeats 4000000 in
theorem c_X7_statusOf_x1 (l : Launch) (D : va_G) (tb : Nat → ClassId) (X : State → Prop) (z0 n : Nat) (bo : Nat) (g : Nat → Int32) (G : Nat → Nat → Int32) (F sf inp out : Nat → Int32) (M0 : me_M) (S B L P : Nat) (x : Int32)  (hfl : l.stackTraces = false) (hXs : ∀ U, X U → me_xs z0 U) (hbad : x < 0 ∨ g 6 ≤ x) : vx_Met l yX7_statusOf (.code yX7_statusOf cX7_statusOf 2 (some .int) :: ws_all) ({ frames := 7, cells := 1, slots := 6, locals := 111 } : Room) (me_Pc [.ref bo, .int x] D tb X z0 (sp tb (bo + 722) g (bq tb bo G F sf inp out M0)) n) me_no (me_XC D z0 (sp tb (bo + 722) g (bq tb bo G F sf inp out M0)) "java/lang/IndexOutOfBoundsException") 1 6 (me_A z0) := by
  refine me_openX (by decide) (Nat.le_of_ble_eq_true rfl) ?_
  intro p e s m args below meth c ls hC ht hlk hM hl
  have hl : lv_has ls 2 [(0, .ref bo), (1, .int x)] := hl
  have hx := hC.1
  have hb := hC.2.1
  have hw := hC.2.2.2.2.1
  refine lv_aload_n hx hb dX7_statusOf_0 rfl (lv_at hl 0 rfl) ?_
  refine lv_iload_n hx hb dX7_statusOf_1 rfl (lv_at hl 1 rfl) ?_
  exact me_xV (As := [.int x]) (rest := []) hC hl.1 hM (c_X7_needLoan_x l D tb X z0 n bo g G F sf inp out M0 S B L P x hfl hXs hbad) (kv_X7_197 hw rfl rfl ⟨Nat.le_of_ble_eq_true rfl, Nat.le_of_ble_eq_true rfl⟩) rfl rfl (bq_at h_b) rfl (Nat.le_of_ble_eq_true rfl) dX7_statusOf_2 ⟨Nat.le_of_ble_eq_true rfl, Nat.le_of_ble_eq_true rfl⟩ ht hlk (Nat.le_of_ble_eq_true rfl) (Nat.le_of_ble_eq_true rfl)
set_option maxHeartbeats 4000000 in
theorem c_X7_holderOf (l : Launch) (D : va_G) (tb : Nat → ClassId) (X : State → Prop) (z0 n : Nat) (bo : Nat) (g : Nat → Int32) (G : Nat → Nat → Int32) (F sf inp out : Nat → Int32) (M0 : me_M) (S B L P : Nat) (T : Nat) (h0 : Nat)  (hW : wf g S B L P) (hT : g 2 = nI T) (hT0 : T ≤ 10000) (hh1 : T ≤ h0) (hh2 : h0 < T + 48) : Met l yX7_holderOf (.code yX7_holderOf cX7_holderOf 2 (some .int) :: ws_all) ({ frames := 2, cells := 0, slots := 0, locals := 44 } : Room) (me_Pc [.ref bo, .int (nI h0)] D tb X z0 (sp tb (bo + 722) g (bq tb bo G F sf inp out M0)) n) (me_Qi D z0 (hoF g L (nI h0)) (sp tb (bo + 722) g (bq tb bo G F sf inp out M0)) n) 0 0 (me_A z0) := by
  refine me_open (by decide) (Nat.le_of_ble_eq_true rfl) ?_
  intro p e s m args below meth c ls hC hr hlk hnm hM hl
  have hl : lv_has ls 2 [(0, .ref bo), (1, .int (nI h0))] := hl
  have hx := hC.1
  have hb := hC.2.1
  have hw := hC.2.2.2.2.1
  obtain ⟨hS, hS0, hB, hB0, hL, hL0, hP, hP0, hwb, hwl⟩ := id hW
  refine lv_aload_n hx hb dX7_holderOf_0 rfl (lv_at hl 0 rfl) ?_
  refine lv_iload_n hx hb dX7_holderOf_1 rfl (lv_at hl 1 rfl) ?_
  refine me_callVv (As := [.int (nI h0)]) (rest := []) hC hl.1 hM (c_X7_needHour l D tb X z0 n bo g G F sf inp out M0 S B L P h0 T hW hT hT0 (by omega) (by omega)) (kv_X7_152 hw rfl rfl ⟨Nat.le_of_ble_eq_true rfl, Nat.le_of_ble_eq_true rfl⟩) rfl rfl (bq_at h_b) rfl (Nat.le_of_ble_eq_true rfl) dX7_holderOf_2 ⟨Nat.le_of_ble_eq_true rfl, Nat.le_of_ble_eq_true rfl⟩ (fun H locs hM => ?_)
  refine lv_aload_n hx hb dX7_holderOf_5 rfl (lv_at hl 0 rfl) ?_
  refine fg_X7_71 hC hM (bq_at h_b) rfl dX7_holderOf_6 ?_
  refine lv_iload_n hx hb dX7_holderOf_9 rfl (lv_at hl 1 rfl) ?_
  refine me_callVi (As := [.int (nI h0)]) (rest := []) hC hl.1 hM (c_X5_holder l D tb X z0 n (bo + 722) g (bq tb bo G F sf inp out M0) L (nI h0) hL hL0) (kv_X7_208 hw rfl rfl ⟨Nat.le_of_ble_eq_true rfl, Nat.le_of_ble_eq_true rfl⟩) rfl rfl (sp_st _ _ _ _) rfl (Nat.le_of_ble_eq_true rfl) dX7_holderOf_10 ⟨Nat.le_of_ble_eq_true rfl, Nat.le_of_ble_eq_true rfl⟩ (fun H locs hM => ?_)
  exact me_iret hC hr hlk hM (by first | rfl | simp []) (rfl) (rfl) dX7_holderOf_13
set_option maxHeartbeats 4000000 in
theorem c_X7_holderOf_x2 (l : Launch) (D : va_G) (tb : Nat → ClassId) (X : State → Prop) (z0 n : Nat) (bo : Nat) (g : Nat → Int32) (G : Nat → Nat → Int32) (F sf inp out : Nat → Int32) (M0 : me_M) (S B L P : Nat) (x : Int32)  (hfl : l.stackTraces = false) (hXs : ∀ U, X U → me_xs z0 U) (hW : wf g S B L P) (hbad : x < g 2 ∨ g 2 + 48 ≤ x) : vx_Met l yX7_holderOf (.code yX7_holderOf cX7_holderOf 2 (some .int) :: ws_all) ({ frames := 7, cells := 1, slots := 6, locals := 111 } : Room) (me_Pc [.ref bo, .int x] D tb X z0 (sp tb (bo + 722) g (bq tb bo G F sf inp out M0)) n) me_no (me_XC D z0 (sp tb (bo + 722) g (bq tb bo G F sf inp out M0)) "java/lang/IllegalArgumentException") 1 6 (me_A z0) := by
  refine me_openX (by decide) (Nat.le_of_ble_eq_true rfl) ?_
  intro p e s m args below meth c ls hC ht hlk hM hl
  have hl : lv_has ls 2 [(0, .ref bo), (1, .int x)] := hl
  have hx := hC.1
  have hb := hC.2.1
  have hw := hC.2.2.2.2.1
  obtain ⟨hS, hS0, hB, hB0, hL, hL0, hP, hP0, hwb, hwl⟩ := id hW
  refine lv_aload_n hx hb dX7_holderOf_0 rfl (lv_at hl 0 rfl) ?_
  refine lv_iload_n hx hb dX7_holderOf_1 rfl (lv_at hl 1 rfl) ?_
  exact me_xV (As := [.int x]) (rest := []) hC hl.1 hM (c_X7_needHour_x l D tb X z0 n bo g G F sf inp out M0 S B L P x hfl hXs hbad) (kv_X7_152 hw rfl rfl ⟨Nat.le_of_ble_eq_true rfl, Nat.le_of_ble_eq_true rfl⟩) rfl rfl (bq_at h_b) rfl (Nat.le_of_ble_eq_true rfl) dX7_holderOf_2 ⟨Nat.le_of_ble_eq_true rfl, Nat.le_of_ble_eq_true rfl⟩ ht hlk (Nat.le_of_ble_eq_true rfl) (Nat.le_of_ble_eq_true rfl)
set_option maxHeartbeats 4000000 in
theorem c_X7_permitFor (l : Launch) (D : va_G) (tb : Nat → ClassId) (X : State → Prop) (z0 n : Nat) (bo : Nat) (g : Nat → Int32) (G : Nat → Nat → Int32) (F sf inp out : Nat → Int32) (M0 : me_M) (S B L P : Nat) (T : Nat) (s0 h0 : Nat)  (hW : wf g S B L P) (hT : g 2 = nI T) (hT0 : T ≤ 10000) (hs9 : s0 < S) (hh1 : T ≤ h0) (hh2 : h0 < T + 48) : Met l yX7_permitFor (.code yX7_permitFor cX7_permitFor 3 (some .int) :: ws_all) ({ frames := 2, cells := 0, slots := 0, locals := 45 } : Room) (me_Pc [.ref bo, .int (nI s0), .int (nI h0)] D tb X z0 (sp tb (bo + 722) g (bq tb bo G F sf inp out M0)) n) (me_Qi D z0 (peF g P (nI s0) (nI h0)) (sp tb (bo + 722) g (bq tb bo G F sf inp out M0)) n) 0 0 (me_A z0) := by
  refine me_open (by decide) (Nat.le_of_ble_eq_true rfl) ?_
  intro p e s m args below meth c ls hC hr hlk hnm hM hl
  have hl : lv_has ls 3 [(0, .ref bo), (1, .int (nI s0)), (2, .int (nI h0))] := hl
  have hx := hC.1
  have hb := hC.2.1
  have hw := hC.2.2.2.2.1
  obtain ⟨hS, hS0, hB, hB0, hL, hL0, hP, hP0, hwb, hwl⟩ := id hW
  refine lv_aload_n hx hb dX7_permitFor_0 rfl (lv_at hl 0 rfl) ?_
  refine lv_iload_n hx hb dX7_permitFor_1 rfl (lv_at hl 1 rfl) ?_
  refine me_callVv (As := [.int (nI s0)]) (rest := []) hC hl.1 hM (c_X7_needStreet l D tb X z0 n bo g G F sf inp out M0 S B L P s0 hW (by omega)) (kv_X7_145 hw rfl rfl ⟨Nat.le_of_ble_eq_true rfl, Nat.le_of_ble_eq_true rfl⟩) rfl rfl (bq_at h_b) rfl (Nat.le_of_ble_eq_true rfl) dX7_permitFor_2 ⟨Nat.le_of_ble_eq_true rfl, Nat.le_of_ble_eq_true rfl⟩ (fun H locs hM => ?_)
  refine lv_aload_n hx hb dX7_permitFor_5 rfl (lv_at hl 0 rfl) ?_
  refine lv_iload_n hx hb dX7_permitFor_6 rfl (lv_at hl 2 rfl) ?_
  refine me_callVv (As := [.int (nI h0)]) (rest := []) hC hl.1 hM (c_X7_needHour l D tb X z0 n bo g G F sf inp out M0 S B L P h0 T hW hT hT0 (by omega) (by omega)) (kv_X7_152 hw rfl rfl ⟨Nat.le_of_ble_eq_true rfl, Nat.le_of_ble_eq_true rfl⟩) rfl rfl (bq_at h_b) rfl (Nat.le_of_ble_eq_true rfl) dX7_permitFor_7 ⟨Nat.le_of_ble_eq_true rfl, Nat.le_of_ble_eq_true rfl⟩ (fun H locs hM => ?_)
  refine lv_aload_n hx hb dX7_permitFor_10 rfl (lv_at hl 0 rfl) ?_
  refine fg_X7_71 hC hM (bq_at h_b) rfl dX7_permitFor_11 ?_
  refine lv_iload_n hx hb dX7_permitFor_14 rfl (lv_at hl 1 rfl) ?_
  refine lv_iload_n hx hb dX7_permitFor_15 rfl (lv_at hl 2 rfl) ?_
  refine me_callVi (As := [.int (nI s0), .int (nI h0)]) (rest := []) hC hl.1 hM (c_X5_permitAt l D tb X z0 n (bo + 722) g (bq tb bo G F sf inp out M0) P (nI s0) (nI h0) hP hP0) (kv_X7_211 hw rfl rfl ⟨Nat.le_of_ble_eq_true rfl, Nat.le_of_ble_eq_true rfl⟩) rfl rfl (sp_st _ _ _ _) rfl (Nat.le_of_ble_eq_true rfl) dX7_permitFor_16 ⟨Nat.le_of_ble_eq_true rfl, Nat.le_of_ble_eq_true rfl⟩ (fun H locs hM => ?_)
  exact me_iret hC hr hlk hM (by first | rfl | simp []) (rfl) (rfl) dX7_permitFor_19
set_option maxHeartbeats 4000000 in
theorem c_X7_permitFor_x1 (l : Launch) (D : va_G) (tb : Nat → ClassId) (X : State → Prop) (z0 n : Nat) (bo : Nat) (g : Nat → Int32) (G : Nat → Nat → Int32) (F sf inp out : Nat → Int32) (M0 : me_M) (S B L P : Nat) (x : Int32) (y9 : Int32)  (hfl : l.stackTraces = false) (hXs : ∀ U, X U → me_xs z0 U) (hbad : x < 0 ∨ g 3 ≤ x) : vx_Met l yX7_permitFor (.code yX7_permitFor cX7_permitFor 3 (some .int) :: ws_all) ({ frames := 7, cells := 1, slots := 6, locals := 111 } : Room) (me_Pc [.ref bo, .int x, .int y9] D tb X z0 (sp tb (bo + 722) g (bq tb bo G F sf inp out M0)) n) me_no (me_XC D z0 (sp tb (bo + 722) g (bq tb bo G F sf inp out M0)) "java/lang/IndexOutOfBoundsException") 1 6 (me_A z0) := by
  refine me_openX (by decide) (Nat.le_of_ble_eq_true rfl) ?_
  intro p e s m args below meth c ls hC ht hlk hM hl
  have hl : lv_has ls 3 [(0, .ref bo), (1, .int x), (2, .int y9)] := hl
  have hx := hC.1
  have hb := hC.2.1
  have hw := hC.2.2.2.2.1
  refine lv_aload_n hx hb dX7_permitFor_0 rfl (lv_at hl 0 rfl) ?_
  refine lv_iload_n hx hb dX7_permitFor_1 rfl (lv_at hl 1 rfl) ?_
  exact me_xV (As := [.int x]) (rest := []) hC hl.1 hM (c_X7_needStreet_x l D tb X z0 n bo g G F sf inp out M0 S B L P x hfl hXs hbad) (kv_X7_145 hw rfl rfl ⟨Nat.le_of_ble_eq_true rfl, Nat.le_of_ble_eq_true rfl⟩) rfl rfl (bq_at h_b) rfl (Nat.le_of_ble_eq_true rfl) dX7_permitFor_2 ⟨Nat.le_of_ble_eq_true rfl, Nat.le_of_ble_eq_true rfl⟩ ht hlk (Nat.le_of_ble_eq_true rfl) (Nat.le_of_ble_eq_true rfl)
set_option maxHeartbeats 4000000 in
theorem c_X7_permitFor_x2 (l : Launch) (D : va_G) (tb : Nat → ClassId) (X : State → Prop) (z0 n : Nat) (bo : Nat) (g : Nat → Int32) (G : Nat → Nat → Int32) (F sf inp out : Nat → Int32) (M0 : me_M) (S B L P : Nat) (s0 : Nat) (x : Int32)  (hfl : l.stackTraces = false) (hXs : ∀ U, X U → me_xs z0 U) (hW : wf g S B L P) (hs9 : s0 < S) (hbad : x < g 2 ∨ g 2 + 48 ≤ x) : vx_Met l yX7_permitFor (.code yX7_permitFor cX7_permitFor 3 (some .int) :: ws_all) ({ frames := 7, cells := 1, slots := 6, locals := 111 } : Room) (me_Pc [.ref bo, .int (nI s0), .int x] D tb X z0 (sp tb (bo + 722) g (bq tb bo G F sf inp out M0)) n) me_no (me_XC D z0 (sp tb (bo + 722) g (bq tb bo G F sf inp out M0)) "java/lang/IllegalArgumentException") 1 6 (me_A z0) := by
  refine me_openX (by decide) (Nat.le_of_ble_eq_true rfl) ?_
  intro p e s m args below meth c ls hC ht hlk hM hl
  have hl : lv_has ls 3 [(0, .ref bo), (1, .int (nI s0)), (2, .int x)] := hl
  have hx := hC.1
  have hb := hC.2.1
  have hw := hC.2.2.2.2.1
  obtain ⟨hS, hS0, hB, hB0, hL, hL0, hP, hP0, hwb, hwl⟩ := id hW
  refine lv_aload_n hx hb dX7_permitFor_0 rfl (lv_at hl 0 rfl) ?_
  refine lv_iload_n hx hb dX7_permitFor_1 rfl (lv_at hl 1 rfl) ?_
  refine me_callVv (As := [.int (nI s0)]) (rest := []) hC hl.1 hM (c_X7_needStreet l D tb X z0 n bo g G F sf inp out M0 S B L P s0 hW (by omega)) (kv_X7_145 hw rfl rfl ⟨Nat.le_of_ble_eq_true rfl, Nat.le_of_ble_eq_true rfl⟩) rfl rfl (bq_at h_b) rfl (Nat.le_of_ble_eq_true rfl) dX7_permitFor_2 ⟨Nat.le_of_ble_eq_true rfl, Nat.le_of_ble_eq_true rfl⟩ (fun H locs hM => ?_)
  refine lv_aload_n hx hb dX7_permitFor_5 rfl (lv_at hl 0 rfl) ?_
  refine lv_iload_n hx hb dX7_permitFor_6 rfl (lv_at hl 2 rfl) ?_
  exact me_xV (As := [.int x]) (rest := []) hC hl.1 hM (c_X7_needHour_x l D tb X z0 n bo g G F sf inp out M0 S B L P x hfl hXs hbad) (kv_X7_152 hw rfl rfl ⟨Nat.le_of_ble_eq_true rfl, Nat.le_of_ble_eq_true rfl⟩) rfl rfl (bq_at h_b) rfl (Nat.le_of_ble_eq_true rfl) dX7_permitFor_7 ⟨Nat.le_of_ble_eq_true rfl, Nat.le_of_ble_eq_true rfl⟩ ht hlk (Nat.le_of_ble_eq_true rfl) (Nat.le_of_ble_eq_true rfl)
set_option maxHeartbeats 4000000 in
theorem c_X7_freeHours (l : Launch) (D : va_G) (tb : Nat → ClassId) (X : State → Prop) (z0 n : Nat) (bo : Nat) (g : Nat → Int32) (G : Nat → Nat → Int32) (F sf inp out : Nat → Int32) (M0 : me_M) (S B L P : Nat)  (hW : wf g S B L P) : Met l yX7_freeHours (.code yX7_freeHours cX7_freeHours 1 (some .int) :: ws_all) ({ frames := 3, cells := 0, slots := 0, locals := 66 } : Room) (me_Pc [.ref bo] D tb X z0 (sp tb (bo + 722) g (bq tb bo G F sf inp out M0)) n) (me_Qi D z0 (48 - nI (leF g L)) (sp tb (bo + 722) g (bq tb bo G F sf inp out M0)) n) 0 0 (me_A z0) := by
  refine me_open (by decide) (Nat.le_of_ble_eq_true rfl) ?_
  intro p e s m args below meth c ls hC hr hlk hnm hM hl
  have hl : lv_has ls 1 [(0, .ref bo)] := hl
  have hx := hC.1
  have hb := hC.2.1
  have hw := hC.2.2.2.2.1
  obtain ⟨hS, hS0, hB, hB0, hL, hL0, hP, hP0, hwb, hwl⟩ := id hW
  refine lv_bipush (v := 48) hx hb dX7_freeHours_0 (by decide) ?_
  refine lv_aload_n hx hb dX7_freeHours_2 rfl (lv_at hl 0 rfl) ?_
  refine fg_X7_71 hC hM (bq_at h_b) rfl dX7_freeHours_3 ?_
  refine me_callVi (As := []) (rest := [.int 48]) hC hl.1 hM (c_X5_lentHours l D tb X z0 n (bo + 722) g (bq tb bo G F sf inp out M0) S B L P  hW ) (kv_X7_214 hw rfl rfl ⟨Nat.le_of_ble_eq_true rfl, Nat.le_of_ble_eq_true rfl⟩) rfl rfl (sp_st _ _ _ _) rfl (Nat.le_of_ble_eq_true rfl) dX7_freeHours_6 ⟨Nat.le_of_ble_eq_true rfl, Nat.le_of_ble_eq_true rfl⟩ (fun H locs hM => ?_)
  refine lv_isub hx hb dX7_freeHours_9 ?_
  exact me_iret hC hr hlk hM (by first | rfl | simp []) (rfl) (rfl) dX7_freeHours_10
set_option maxHeartbeats 4000000 in
theorem c_X7_quote (l : Launch) (D : va_G) (tb : Nat → ClassId) (X : State → Prop) (z0 n : Nat) (bo : Nat) (g : Nat → Int32) (G : Nat → Nat → Int32) (F sf inp out : Nat → Int32) (M0 : me_M) (S B L P : Nat) (b n9 : Nat)  (hW : wf g S B L P) (hb9 : b < B) (hn1 : 1 ≤ n9) (hn2 : n9 ≤ 6) : Met l yX7_quote (.code yX7_quote cX7_quote 3 (some .int) :: ws_all) ({ frames := 1, cells := 0, slots := 0, locals := 22 } : Room) (me_Pc [.ref bo, .int (nI b), .int (nI n9)] D tb X z0 (sp tb (bo + 722) g (bq tb bo G F sf inp out M0)) n) (me_Qi D z0 (prF g b (nI n9)) (sp tb (bo + 722) g (bq tb bo G F sf inp out M0)) n) 0 0 (me_A z0) := by
  refine me_open (by decide) (Nat.le_of_ble_eq_true rfl) ?_
  intro p e s m args below meth c ls hC hr hlk hnm hM hl
  have hl : lv_has ls 3 [(0, .ref bo), (1, .int (nI b)), (2, .int (nI n9))] := hl
  have hx := hC.1
  have hb := hC.2.1
  have hw := hC.2.2.2.2.1
  obtain ⟨hS, hS0, hB, hB0, hL, hL0, hP, hP0, hwb, hwl⟩ := id hW
  refine lv_aload_n hx hb dX7_quote_0 rfl (lv_at hl 0 rfl) ?_
  refine lv_iload_n hx hb dX7_quote_1 rfl (lv_at hl 1 rfl) ?_
  refine me_callVv (As := [.int (nI b)]) (rest := []) hC hl.1 hM (c_X7_needBorrower l D tb X z0 n bo g G F sf inp out M0 S B L P b hW (by omega)) (kv_X7_167 hw rfl rfl ⟨Nat.le_of_ble_eq_true rfl, Nat.le_of_ble_eq_true rfl⟩) rfl rfl (bq_at h_b) rfl (Nat.le_of_ble_eq_true rfl) dX7_quote_2 ⟨Nat.le_of_ble_eq_true rfl, Nat.le_of_ble_eq_true rfl⟩ (fun H locs hM => ?_)
  refine lv_iload_n hx hb dX7_quote_5 rfl (lv_at hl 2 rfl) ?_
  refine lv_bipush (v := 6) hx hb dX7_quote_6 (by decide) ?_
  refine me_stk (st2 := [.int (nI 6), .int (nI n9)]) (by rw [(nx_c 6)]) ?_
  refine me_callSv (As := [.int (nI n9), .int (nI 6)]) (rest := []) hC hl.1 hM (c_X7_needLength l D tb X z0 n bo g G F sf inp out M0 S B L P n9 6 hW (by omega) (by omega) (by omega)) (ks_X7_217 hw rfl rfl ⟨Nat.le_of_ble_eq_true rfl, Nat.le_of_ble_eq_true rfl⟩) rfl rfl (Nat.le_of_ble_eq_true rfl) dX7_quote_8 ⟨Nat.le_of_ble_eq_true rfl, Nat.le_of_ble_eq_true rfl⟩ (fun H locs hM => ?_)
  refine lv_aload_n hx hb dX7_quote_11 rfl (lv_at hl 0 rfl) ?_
  refine fg_X7_71 hC hM (bq_at h_b) rfl dX7_quote_12 ?_
  refine lv_iload_n hx hb dX7_quote_15 rfl (lv_at hl 1 rfl) ?_
  refine lv_iload_n hx hb dX7_quote_16 rfl (lv_at hl 2 rfl) ?_
  refine me_callVi (As := [.int (nI b), .int (nI n9)]) (rest := []) hC hl.1 hM (c_X5_price l D tb X z0 n (bo + 722) g (bq tb bo G F sf inp out M0) S B L P b (nI n9) hW (by omega)) (kv_X7_221 hw rfl rfl ⟨Nat.le_of_ble_eq_true rfl, Nat.le_of_ble_eq_true rfl⟩) rfl rfl (sp_st _ _ _ _) rfl (Nat.le_of_ble_eq_true rfl) dX7_quote_17 ⟨Nat.le_of_ble_eq_true rfl, Nat.le_of_ble_eq_true rfl⟩ (fun H locs hM => ?_)
  exact me_iret hC hr hlk hM (by first | rfl | simp []) (rfl) (rfl) dX7_quote_20
set_option maxHeartbeats 4000000 in
theorem c_X7_quote_x1 (l : Launch) (D : va_G) (tb : Nat → ClassId) (X : State → Prop) (z0 n : Nat) (bo : Nat) (g : Nat → Int32) (G : Nat → Nat → Int32) (F sf inp out : Nat → Int32) (M0 : me_M) (S B L P : Nat) (x : Int32) (y9 : Int32)  (hfl : l.stackTraces = false) (hXs : ∀ U, X U → me_xs z0 U) (hbad : x < 0 ∨ g 4 ≤ x) : vx_Met l yX7_quote (.code yX7_quote cX7_quote 3 (some .int) :: ws_all) ({ frames := 7, cells := 1, slots := 6, locals := 111 } : Room) (me_Pc [.ref bo, .int x, .int y9] D tb X z0 (sp tb (bo + 722) g (bq tb bo G F sf inp out M0)) n) me_no (me_XC D z0 (sp tb (bo + 722) g (bq tb bo G F sf inp out M0)) "java/lang/IndexOutOfBoundsException") 1 6 (me_A z0) := by
  refine me_openX (by decide) (Nat.le_of_ble_eq_true rfl) ?_
  intro p e s m args below meth c ls hC ht hlk hM hl
  have hl : lv_has ls 3 [(0, .ref bo), (1, .int x), (2, .int y9)] := hl
  have hx := hC.1
  have hb := hC.2.1
  have hw := hC.2.2.2.2.1
  refine lv_aload_n hx hb dX7_quote_0 rfl (lv_at hl 0 rfl) ?_
  refine lv_iload_n hx hb dX7_quote_1 rfl (lv_at hl 1 rfl) ?_
  exact me_xV (As := [.int x]) (rest := []) hC hl.1 hM (c_X7_needBorrower_x l D tb X z0 n bo g G F sf inp out M0 S B L P x hfl hXs hbad) (kv_X7_167 hw rfl rfl ⟨Nat.le_of_ble_eq_true rfl, Nat.le_of_ble_eq_true rfl⟩) rfl rfl (bq_at h_b) rfl (Nat.le_of_ble_eq_true rfl) dX7_quote_2 ⟨Nat.le_of_ble_eq_true rfl, Nat.le_of_ble_eq_true rfl⟩ ht hlk (Nat.le_of_ble_eq_true rfl) (Nat.le_of_ble_eq_true rfl)
set_option maxHeartbeats 4000000 in
theorem c_X7_quote_x2 (l : Launch) (D : va_G) (tb : Nat → ClassId) (X : State → Prop) (z0 n : Nat) (bo : Nat) (g : Nat → Int32) (G : Nat → Nat → Int32) (F sf inp out : Nat → Int32) (M0 : me_M) (S B L P : Nat) (b : Nat) (x : Int32)  (hfl : l.stackTraces = false) (hXs : ∀ U, X U → me_xs z0 U) (hW : wf g S B L P) (hb9 : b < B) (hbad : x < 1 ∨ 6 < x) : vx_Met l yX7_quote (.code yX7_quote cX7_quote 3 (some .int) :: ws_all) ({ frames := 7, cells := 1, slots := 6, locals := 111 } : Room) (me_Pc [.ref bo, .int (nI b), .int x] D tb X z0 (sp tb (bo + 722) g (bq tb bo G F sf inp out M0)) n) me_no (me_XC D z0 (sp tb (bo + 722) g (bq tb bo G F sf inp out M0)) "java/lang/IllegalArgumentException") 1 6 (me_A z0) := by
  refine me_openX (by decide) (Nat.le_of_ble_eq_true rfl) ?_
  intro p e s m args below meth c ls hC ht hlk hM hl
  have hl : lv_has ls 3 [(0, .ref bo), (1, .int (nI b)), (2, .int x)] := hl
  have hx := hC.1
  have hb := hC.2.1
  have hw := hC.2.2.2.2.1
  obtain ⟨hS, hS0, hB, hB0, hL, hL0, hP, hP0, hwb, hwl⟩ := id hW
  refine lv_aload_n hx hb dX7_quote_0 rfl (lv_at hl 0 rfl) ?_
  refine lv_iload_n hx hb dX7_quote_1 rfl (lv_at hl 1 rfl) ?_
  refine me_callVv (As := [.int (nI b)]) (rest := []) hC hl.1 hM (c_X7_needBorrower l D tb X z0 n bo g G F sf inp out M0 S B L P b hW (by omega)) (kv_X7_167 hw rfl rfl ⟨Nat.le_of_ble_eq_true rfl, Nat.le_of_ble_eq_true rfl⟩) rfl rfl (bq_at h_b) rfl (Nat.le_of_ble_eq_true rfl) dX7_quote_2 ⟨Nat.le_of_ble_eq_true rfl, Nat.le_of_ble_eq_true rfl⟩ (fun H locs hM => ?_)
  refine lv_iload_n hx hb dX7_quote_5 rfl (lv_at hl 2 rfl) ?_
  refine lv_bipush (v := 6) hx hb dX7_quote_6 (by decide) ?_
  exact me_xS (As := [.int x, .int 6]) (rest := []) hC hl.1 hM (c_X7_needLength_x l D tb X z0 n bo g G F sf inp out M0 S B L P x 6 hfl hXs hbad) (ks_X7_217 hw rfl rfl ⟨Nat.le_of_ble_eq_true rfl, Nat.le_of_ble_eq_true rfl⟩) rfl rfl (Nat.le_of_ble_eq_true rfl) dX7_quote_8 ⟨Nat.le_of_ble_eq_true rfl, Nat.le_of_ble_eq_true rfl⟩ ht hlk (Nat.le_of_ble_eq_true rfl) (Nat.le_of_ble_eq_true rfl)
set_option maxHeartbeats 4000000 in
theorem c_X7_refusal (l : Launch) (D : va_G) (tb : Nat → ClassId) (X : State → Prop) (z0 n : Nat) (bo : Nat) (g : Nat → Int32) (G : Nat → Nat → Int32) (F sf inp out : Nat → Int32) (M0 : me_M) (S B L P : Nat) (T : Nat) (b s0 n9 : Nat)  (hW : wf g S B L P) (hT : g 2 = nI T) (hT0 : T ≤ 10000) (hb9 : b < B) (hn1 : 1 ≤ n9) (hn2 : n9 ≤ 6) (hs1 : T ≤ s0) (hs2 : s0 + n9 ≤ T + 48) : Met l yX7_refusal (.code yX7_refusal cX7_refusal 4 (some .int) :: ws_all) ({ frames := 4, cells := 0, slots := 0, locals := 93 } : Room) (me_Pc [.ref bo, .int (nI b), .int (nI s0), .int (nI n9)] D tb X z0 (sp tb (bo + 722) g (bq tb bo G F sf inp out M0)) n) (me_Qi D z0 (reF g L P b s0 n9) (sp tb (bo + 722) g (bq tb bo G F sf inp out M0)) n) 0 0 (me_A z0) := by
  refine me_open (by decide) (Nat.le_of_ble_eq_true rfl) ?_
  intro p e s m args below meth c ls hC hr hlk hnm hM hl
  have hl : lv_has ls 4 [(0, .ref bo), (1, .int (nI b)), (2, .int (nI s0)), (3, .int (nI n9))] := hl
  have hx := hC.1
  have hb := hC.2.1
  have hw := hC.2.2.2.2.1
  obtain ⟨hS, hS0, hB, hB0, hL, hL0, hP, hP0, hwb, hwl⟩ := id hW
  refine lv_aload_n hx hb dX7_refusal_0 rfl (lv_at hl 0 rfl) ?_
  refine lv_iload_n hx hb dX7_refusal_1 rfl (lv_at hl 1 rfl) ?_
  refine me_callVv (As := [.int (nI b)]) (rest := []) hC hl.1 hM (c_X7_needBorrower l D tb X z0 n bo g G F sf inp out M0 S B L P b hW (by omega)) (kv_X7_167 hw rfl rfl ⟨Nat.le_of_ble_eq_true rfl, Nat.le_of_ble_eq_true rfl⟩) rfl rfl (bq_at h_b) rfl (Nat.le_of_ble_eq_true rfl) dX7_refusal_2 ⟨Nat.le_of_ble_eq_true rfl, Nat.le_of_ble_eq_true rfl⟩ (fun H locs hM => ?_)
  refine lv_aload_n hx hb dX7_refusal_5 rfl (lv_at hl 0 rfl) ?_
  refine lv_iload_n hx hb dX7_refusal_6 rfl (lv_at hl 2 rfl) ?_
  refine lv_iload_n hx hb dX7_refusal_7 rfl (lv_at hl 3 rfl) ?_
  refine lv_bipush (v := 6) hx hb dX7_refusal_8 (by decide) ?_
  refine me_stk (st2 := [.int (nI 6), .int (nI n9), .int (nI s0), .ref bo]) (by rw [(nx_c 6)]) ?_
  refine me_callVv (As := [.int (nI s0), .int (nI n9), .int (nI 6)]) (rest := []) hC hl.1 hM (c_X7_needSpan l D tb X z0 n bo g G F sf inp out M0 S B L P s0 n9 6 T hW hT hT0 (by omega) (by omega) (by omega) (by omega) (by omega)) (kv_X7_223 hw rfl rfl ⟨Nat.le_of_ble_eq_true rfl, Nat.le_of_ble_eq_true rfl⟩) rfl rfl (bq_at h_b) rfl (Nat.le_of_ble_eq_true rfl) dX7_refusal_10 ⟨Nat.le_of_ble_eq_true rfl, Nat.le_of_ble_eq_true rfl⟩ (fun H locs hM => ?_)
  refine lv_aload_n hx hb dX7_refusal_13 rfl (lv_at hl 0 rfl) ?_
  refine fg_X7_71 hC hM (bq_at h_b) rfl dX7_refusal_14 ?_
  refine lv_iload_n hx hb dX7_refusal_17 rfl (lv_at hl 1 rfl) ?_
  refine lv_iload_n hx hb dX7_refusal_18 rfl (lv_at hl 2 rfl) ?_
  refine lv_iload_n hx hb dX7_refusal_19 rfl (lv_at hl 3 rfl) ?_
  refine me_callVi (As := [.int (nI b), .int (nI s0), .int (nI n9)]) (rest := []) hC hl.1 hM (c_X5_reasonAgainst l D tb X z0 n (bo + 722) g (bq tb bo G F sf inp out M0) S B L P b s0 n9 hW (by omega) (by omega)) (kv_X7_227 hw rfl rfl ⟨Nat.le_of_ble_eq_true rfl, Nat.le_of_ble_eq_true rfl⟩) rfl rfl (sp_st _ _ _ _) rfl (Nat.le_of_ble_eq_true rfl) dX7_refusal_20 ⟨Nat.le_of_ble_eq_true rfl, Nat.le_of_ble_eq_true rfl⟩ (fun H locs hM => ?_)
  exact me_iret hC hr hlk hM (by first | rfl | simp []) (rfl) (rfl) dX7_refusal_23
set_option maxHeartbeats 4000000 in
theorem c_X7_refusal_x1 (l : Launch) (D : va_G) (tb : Nat → ClassId) (X : State → Prop) (z0 n : Nat) (bo : Nat) (g : Nat → Int32) (G : Nat → Nat → Int32) (F sf inp out : Nat → Int32) (M0 : me_M) (S B L P : Nat) (x : Int32) (y9 z9 : Int32)  (hfl : l.stackTraces = false) (hXs : ∀ U, X U → me_xs z0 U) (hbad : x < 0 ∨ g 4 ≤ x) : vx_Met l yX7_refusal (.code yX7_refusal cX7_refusal 4 (some .int) :: ws_all) ({ frames := 7, cells := 1, slots := 6, locals := 111 } : Room) (me_Pc [.ref bo, .int x, .int y9, .int z9] D tb X z0 (sp tb (bo + 722) g (bq tb bo G F sf inp out M0)) n) me_no (me_XC D z0 (sp tb (bo + 722) g (bq tb bo G F sf inp out M0)) "java/lang/IndexOutOfBoundsException") 1 6 (me_A z0) := by
  refine me_openX (by decide) (Nat.le_of_ble_eq_true rfl) ?_
  intro p e s m args below meth c ls hC ht hlk hM hl
  have hl : lv_has ls 4 [(0, .ref bo), (1, .int x), (2, .int y9), (3, .int z9)] := hl
  have hx := hC.1
  have hb := hC.2.1
  have hw := hC.2.2.2.2.1
  refine lv_aload_n hx hb dX7_refusal_0 rfl (lv_at hl 0 rfl) ?_
  refine lv_iload_n hx hb dX7_refusal_1 rfl (lv_at hl 1 rfl) ?_
  exact me_xV (As := [.int x]) (rest := []) hC hl.1 hM (c_X7_needBorrower_x l D tb X z0 n bo g G F sf inp out M0 S B L P x hfl hXs hbad) (kv_X7_167 hw rfl rfl ⟨Nat.le_of_ble_eq_true rfl, Nat.le_of_ble_eq_true rfl⟩) rfl rfl (bq_at h_b) rfl (Nat.le_of_ble_eq_true rfl) dX7_refusal_2 ⟨Nat.le_of_ble_eq_true rfl, Nat.le_of_ble_eq_true rfl⟩ ht hlk (Nat.le_of_ble_eq_true rfl) (Nat.le_of_ble_eq_true rfl)
set_option maxHeartbeats 4000000 in
theorem c_X7_refusal_x2 (l : Launch) (D : va_G) (tb : Nat → ClassId) (X : State → Prop) (z0 n : Nat) (bo : Nat) (g : Nat → Int32) (G : Nat → Nat → Int32) (F sf inp out : Nat → Int32) (M0 : me_M) (S B L P : Nat) (b : Nat) (x0 x : Int32)  (hfl : l.stackTraces = false) (hXs : ∀ U, X U → me_xs z0 U) (hW : wf g S B L P) (hb9 : b < B) (hbad : x < 1 ∨ 6 < x) : vx_Met l yX7_refusal (.code yX7_refusal cX7_refusal 4 (some .int) :: ws_all) ({ frames := 8, cells := 1, slots := 6, locals := 134 } : Room) (me_Pc [.ref bo, .int (nI b), .int x0, .int x] D tb X z0 (sp tb (bo + 722) g (bq tb bo G F sf inp out M0)) n) me_no (me_XC D z0 (sp tb (bo + 722) g (bq tb bo G F sf inp out M0)) "java/lang/IllegalArgumentException") 1 6 (me_A z0) := by
  refine me_openX (by decide) (Nat.le_of_ble_eq_true rfl) ?_
  intro p e s m args below meth c ls hC ht hlk hM hl
  have hl : lv_has ls 4 [(0, .ref bo), (1, .int (nI b)), (2, .int x0), (3, .int x)] := hl
  have hx := hC.1
  have hb := hC.2.1
  have hw := hC.2.2.2.2.1
  obtain ⟨hS, hS0, hB, hB0, hL, hL0, hP, hP0, hwb, hwl⟩ := id hW
  refine lv_aload_n hx hb dX7_refusal_0 rfl (lv_at hl 0 rfl) ?_
  refine lv_iload_n hx hb dX7_refusal_1 rfl (lv_at hl 1 rfl) ?_
  refine me_callVv (As := [.int (nI b)]) (rest := []) hC hl.1 hM (c_X7_needBorrower l D tb X z0 n bo g G F sf inp out M0 S B L P b hW (by omega)) (kv_X7_167 hw rfl rfl ⟨Nat.le_of_ble_eq_true rfl, Nat.le_of_ble_eq_true rfl⟩) rfl rfl (bq_at h_b) rfl (Nat.le_of_ble_eq_true rfl) dX7_refusal_2 ⟨Nat.le_of_ble_eq_true rfl, Nat.le_of_ble_eq_true rfl⟩ (fun H locs hM => ?_)
  refine lv_aload_n hx hb dX7_refusal_5 rfl (lv_at hl 0 rfl) ?_
  refine lv_iload_n hx hb dX7_refusal_6 rfl (lv_at hl 2 rfl) ?_
  refine lv_iload_n hx hb dX7_refusal_7 rfl (lv_at hl 3 rfl) ?_
  refine lv_bipush (v := 6) hx hb dX7_refusal_8 (by decide) ?_
  exact me_xV (As := [.int x0, .int x, .int 6]) (rest := []) hC hl.1 hM (c_X7_needSpan_x1 l D tb X z0 n bo g G F sf inp out M0 S B L P x0 x 6 hfl hXs hbad) (kv_X7_223 hw rfl rfl ⟨Nat.le_of_ble_eq_true rfl, Nat.le_of_ble_eq_true rfl⟩) rfl rfl (bq_at h_b) rfl (Nat.le_of_ble_eq_true rfl) dX7_refusal_10 ⟨Nat.le_of_ble_eq_true rfl, Nat.le_of_ble_eq_true rfl⟩ ht hlk (Nat.le_of_ble_eq_true rfl) (Nat.le_of_ble_eq_true rfl)
set_option maxHeartbeats 4000000 in
theorem c_X7_refusal_x3 (l : Launch) (D : va_G) (tb : Nat → ClassId) (X : State → Prop) (z0 n : Nat) (bo : Nat) (g : Nat → Int32) (G : Nat → Nat → Int32) (F sf inp out : Nat → Int32) (M0 : me_M) (S B L P : Nat) (b : Nat) (x0 : Int32) (n9 : Nat)  (hfl : l.stackTraces = false) (hXs : ∀ U, X U → me_xs z0 U) (hW : wf g S B L P) (hb9 : b < B) (hn1 : 1 ≤ n9) (hn2 : n9 ≤ 6) (hbad : x0 < g 2 ∨ g 2 + 48 - nI n9 < x0) : vx_Met l yX7_refusal (.code yX7_refusal cX7_refusal 4 (some .int) :: ws_all) ({ frames := 7, cells := 1, slots := 6, locals := 113 } : Room) (me_Pc [.ref bo, .int (nI b), .int x0, .int (nI n9)] D tb X z0 (sp tb (bo + 722) g (bq tb bo G F sf inp out M0)) n) me_no (me_XC D z0 (sp tb (bo + 722) g (bq tb bo G F sf inp out M0)) "java/lang/IllegalArgumentException") 1 6 (me_A z0) := by
  refine me_openX (by decide) (Nat.le_of_ble_eq_true rfl) ?_
  intro p e s m args below meth c ls hC ht hlk hM hl
  have hl : lv_has ls 4 [(0, .ref bo), (1, .int (nI b)), (2, .int x0), (3, .int (nI n9))] := hl
  have hx := hC.1
  have hb := hC.2.1
  have hw := hC.2.2.2.2.1
  obtain ⟨hS, hS0, hB, hB0, hL, hL0, hP, hP0, hwb, hwl⟩ := id hW
  refine lv_aload_n hx hb dX7_refusal_0 rfl (lv_at hl 0 rfl) ?_
  refine lv_iload_n hx hb dX7_refusal_1 rfl (lv_at hl 1 rfl) ?_
  refine me_callVv (As := [.int (nI b)]) (rest := []) hC hl.1 hM (c_X7_needBorrower l D tb X z0 n bo g G F sf inp out M0 S B L P b hW (by omega)) (kv_X7_167 hw rfl rfl ⟨Nat.le_of_ble_eq_true rfl, Nat.le_of_ble_eq_true rfl⟩) rfl rfl (bq_at h_b) rfl (Nat.le_of_ble_eq_true rfl) dX7_refusal_2 ⟨Nat.le_of_ble_eq_true rfl, Nat.le_of_ble_eq_true rfl⟩ (fun H locs hM => ?_)
  refine lv_aload_n hx hb dX7_refusal_5 rfl (lv_at hl 0 rfl) ?_
  refine lv_iload_n hx hb dX7_refusal_6 rfl (lv_at hl 2 rfl) ?_
  refine lv_iload_n hx hb dX7_refusal_7 rfl (lv_at hl 3 rfl) ?_
  refine lv_bipush (v := 6) hx hb dX7_refusal_8 (by decide) ?_
  exact me_xV (As := [.int x0, .int (nI n9), .int 6]) (rest := []) hC hl.1 hM (c_X7_needSpan_x2 l D tb X z0 n bo g G F sf inp out M0 S B L P x0 n9 6 hfl hXs (by omega) (by omega) (by omega) hW hbad) (kv_X7_223 hw rfl rfl ⟨Nat.le_of_ble_eq_true rfl, Nat.le_of_ble_eq_true rfl⟩) rfl rfl (bq_at h_b) rfl (Nat.le_of_ble_eq_true rfl) dX7_refusal_10 ⟨Nat.le_of_ble_eq_true rfl, Nat.le_of_ble_eq_true rfl⟩ ht hlk (Nat.le_of_ble_eq_true rfl) (Nat.le_of_ble_eq_true rfl)
set_option maxHeartbeats 4000000 in
theorem c_X7_refusalCause (l : Launch) (D : va_G) (tb : Nat → ClassId) (X : State → Prop) (z0 n : Nat) (bo : Nat) (g : Nat → Int32) (G : Nat → Nat → Int32) (F sf inp out : Nat → Int32) (M0 : me_M) (S B L P : Nat) (T : Nat) (b s0 n9 : Nat)  (hW : wf g S B L P) (hT : g 2 = nI T) (hT0 : T ≤ 10000) (hb9 : b < B) (hn1 : 1 ≤ n9) (hn2 : n9 ≤ 6) (hs1 : T ≤ s0) (hs2 : s0 + n9 ≤ T + 48) : Met l yX7_refusalCause (.code yX7_refusalCause cX7_refusalCause 4 (some .int) :: ws_all) ({ frames := 4, cells := 0, slots := 0, locals := 93 } : Room) (me_Pc [.ref bo, .int (nI b), .int (nI s0), .int (nI n9)] D tb X z0 (sp tb (bo + 722) g (bq tb bo G F sf inp out M0)) n) (me_Qi D z0 (cauF g L P b s0 n9) (sp tb (bo + 722) g (bq tb bo G F sf inp out M0)) n) 0 0 (me_A z0) := by
  refine me_open (by decide) (Nat.le_of_ble_eq_true rfl) ?_
  intro p e s m args below meth c ls hC hr hlk hnm hM hl
  have hl : lv_has ls 4 [(0, .ref bo), (1, .int (nI b)), (2, .int (nI s0)), (3, .int (nI n9))] := hl
  have hx := hC.1
  have hb := hC.2.1
  have hw := hC.2.2.2.2.1
  obtain ⟨hS, hS0, hB, hB0, hL, hL0, hP, hP0, hwb, hwl⟩ := id hW
  refine lv_aload_n hx hb dX7_refusalCause_0 rfl (lv_at hl 0 rfl) ?_
  refine lv_iload_n hx hb dX7_refusalCause_1 rfl (lv_at hl 1 rfl) ?_
  refine me_callVv (As := [.int (nI b)]) (rest := []) hC hl.1 hM (c_X7_needBorrower l D tb X z0 n bo g G F sf inp out M0 S B L P b hW (by omega)) (kv_X7_167 hw rfl rfl ⟨Nat.le_of_ble_eq_true rfl, Nat.le_of_ble_eq_true rfl⟩) rfl rfl (bq_at h_b) rfl (Nat.le_of_ble_eq_true rfl) dX7_refusalCause_2 ⟨Nat.le_of_ble_eq_true rfl, Nat.le_of_ble_eq_true rfl⟩ (fun H locs hM => ?_)
  refine lv_aload_n hx hb dX7_refusalCause_5 rfl (lv_at hl 0 rfl) ?_
  refine lv_iload_n hx hb dX7_refusalCause_6 rfl (lv_at hl 2 rfl) ?_
  refine lv_iload_n hx hb dX7_refusalCause_7 rfl (lv_at hl 3 rfl) ?_
  refine lv_bipush (v := 6) hx hb dX7_refusalCause_8 (by decide) ?_
  refine me_stk (st2 := [.int (nI 6), .int (nI n9), .int (nI s0), .ref bo]) (by rw [(nx_c 6)]) ?_
  refine me_callVv (As := [.int (nI s0), .int (nI n9), .int (nI 6)]) (rest := []) hC hl.1 hM (c_X7_needSpan l D tb X z0 n bo g G F sf inp out M0 S B L P s0 n9 6 T hW hT hT0 (by omega) (by omega) (by omega) (by omega) (by omega)) (kv_X7_223 hw rfl rfl ⟨Nat.le_of_ble_eq_true rfl, Nat.le_of_ble_eq_true rfl⟩) rfl rfl (bq_at h_b) rfl (Nat.le_of_ble_eq_true rfl) dX7_refusalCause_10 ⟨Nat.le_of_ble_eq_true rfl, Nat.le_of_ble_eq_true rfl⟩ (fun H locs hM => ?_)
  refine lv_aload_n hx hb dX7_refusalCause_13 rfl (lv_at hl 0 rfl) ?_
  refine fg_X7_71 hC hM (bq_at h_b) rfl dX7_refusalCause_14 ?_
  refine lv_iload_n hx hb dX7_refusalCause_17 rfl (lv_at hl 1 rfl) ?_
  refine lv_iload_n hx hb dX7_refusalCause_18 rfl (lv_at hl 2 rfl) ?_
  refine lv_iload_n hx hb dX7_refusalCause_19 rfl (lv_at hl 3 rfl) ?_
  refine me_callVi (As := [.int (nI b), .int (nI s0), .int (nI n9)]) (rest := []) hC hl.1 hM (c_X5_reasonAgainst l D tb X z0 n (bo + 722) g (bq tb bo G F sf inp out M0) S B L P b s0 n9 hW (by omega) (by omega)) (kv_X7_227 hw rfl rfl ⟨Nat.le_of_ble_eq_true rfl, Nat.le_of_ble_eq_true rfl⟩) rfl rfl (sp_st _ _ _ _) rfl (Nat.le_of_ble_eq_true rfl) dX7_refusalCause_20 ⟨Nat.le_of_ble_eq_true rfl, Nat.le_of_ble_eq_true rfl⟩ (fun H locs hM => ?_)
  rcases reF_01 g L P b s0 n9 with c_1 | c_1 | c_1 | c_1 | c_1 | c_1
  · refine me_evi (y := 0) c_1 ?_
    refine lv_tableOut (tgt := 106) hx hb dX7_refusalCause_23 (by decide) (by decide) ?_
    refine lv_iconst (v := (-1)) hx hb dX7_refusalCause_106 (by decide) ?_
    exact me_iret hC hr hlk hM (by first | rfl | simp [cauF, c_1]) (rfl) (rfl) dX7_refusalCause_107
  · refine me_evi (y := 1) c_1 ?_
    refine lv_tableIn (tgt := 52) hx hb dX7_refusalCause_23 (by decide) (by decide) (off := 29) (by decide) (by decide) ?_
    refine lv_aload_n hx hb dX7_refusalCause_52 rfl (lv_at hl 0 rfl) ?_
    refine fg_X7_71 hC hM (bq_at h_b) rfl dX7_refusalCause_53 ?_
    refine lv_iload_n hx hb dX7_refusalCause_56 rfl (lv_at hl 1 rfl) ?_
    refine me_callVi (As := [.int (nI b)]) (rest := []) hC hl.1 hM (c_X5_overdueLoan l D tb X z0 n (bo + 722) g (bq tb bo G F sf inp out M0) L (nI b) hL hL0) (kv_X7_231 hw rfl rfl ⟨Nat.le_of_ble_eq_true rfl, Nat.le_of_ble_eq_true rfl⟩) rfl rfl (sp_st _ _ _ _) rfl (Nat.le_of_ble_eq_true rfl) dX7_refusalCause_57 ⟨Nat.le_of_ble_eq_true rfl, Nat.le_of_ble_eq_true rfl⟩ (fun H locs hM => ?_)
    exact me_iret hC hr hlk hM (by first | rfl | simp [cauF, c_1]) (rfl) (rfl) dX7_refusalCause_60
  · refine me_evi (y := 2) c_1 ?_
    refine lv_tableIn (tgt := 61) hx hb dX7_refusalCause_23 (by decide) (by decide) (off := 38) (by decide) (by decide) ?_
    refine lv_aload_n hx hb dX7_refusalCause_61 rfl (lv_at hl 0 rfl) ?_
    refine fg_X7_71 hC hM (bq_at h_b) rfl dX7_refusalCause_62 ?_
    refine lv_iload_n hx hb dX7_refusalCause_65 rfl (lv_at hl 1 rfl) ?_
    refine lv_iload_n hx hb dX7_refusalCause_66 rfl (lv_at hl 2 rfl) ?_
    refine lv_iload_n hx hb dX7_refusalCause_67 rfl (lv_at hl 3 rfl) ?_
    refine me_callVi (As := [.int (nI b), .int (nI s0), .int (nI n9)]) (rest := []) hC hl.1 hM (c_X5_firstPermit l D tb X z0 n (bo + 722) g (bq tb bo G F sf inp out M0) S B L P b s0 n9 hW (by omega) (by omega)) (kv_X7_234 hw rfl rfl ⟨Nat.le_of_ble_eq_true rfl, Nat.le_of_ble_eq_true rfl⟩) rfl rfl (sp_st _ _ _ _) rfl (Nat.le_of_ble_eq_true rfl) dX7_refusalCause_68 ⟨Nat.le_of_ble_eq_true rfl, Nat.le_of_ble_eq_true rfl⟩ (fun H locs hM => ?_)
    exact me_iret hC hr hlk hM (by first | rfl | simp [cauF, c_1]) (rfl) (rfl) dX7_refusalCause_71
  · refine me_evi (y := 3) c_1 ?_
    refine lv_tableIn (tgt := 72) hx hb dX7_refusalCause_23 (by decide) (by decide) (off := 49) (by decide) (by decide) ?_
    refine lv_aload_n hx hb dX7_refusalCause_72 rfl (lv_at hl 0 rfl) ?_
    refine fg_X7_71 hC hM (bq_at h_b) rfl dX7_refusalCause_73 ?_
    refine lv_iload_n hx hb dX7_refusalCause_76 rfl (lv_at hl 1 rfl) ?_
    refine lv_iload_n hx hb dX7_refusalCause_77 rfl (lv_at hl 2 rfl) ?_
    refine lv_iload_n hx hb dX7_refusalCause_78 rfl (lv_at hl 3 rfl) ?_
    refine me_callVi (As := [.int (nI b), .int (nI s0), .int (nI n9)]) (rest := []) hC hl.1 hM (c_X5_firstObstacle l D tb X z0 n (bo + 722) g (bq tb bo G F sf inp out M0) S B L P b s0 n9 hW (by omega) (by omega)) (kv_X7_237 hw rfl rfl ⟨Nat.le_of_ble_eq_true rfl, Nat.le_of_ble_eq_true rfl⟩) rfl rfl (sp_st _ _ _ _) rfl (Nat.le_of_ble_eq_true rfl) dX7_refusalCause_79 ⟨Nat.le_of_ble_eq_true rfl, Nat.le_of_ble_eq_true rfl⟩ (fun H locs hM => ?_)
    exact me_iret hC hr hlk hM (by first | rfl | simp [cauF, c_1]) (rfl) (rfl) dX7_refusalCause_82
  · refine me_evi (y := 4) c_1 ?_
    refine lv_tableIn (tgt := 83) hx hb dX7_refusalCause_23 (by decide) (by decide) (off := 60) (by decide) (by decide) ?_
    refine lv_aload_n hx hb dX7_refusalCause_83 rfl (lv_at hl 0 rfl) ?_
    refine fg_X7_71 hC hM (bq_at h_b) rfl dX7_refusalCause_84 ?_
    refine lv_iload_n hx hb dX7_refusalCause_87 rfl (lv_at hl 1 rfl) ?_
    refine lv_iload_n hx hb dX7_refusalCause_88 rfl (lv_at hl 3 rfl) ?_
    refine me_callVi (As := [.int (nI b), .int (nI n9)]) (rest := []) hC hl.1 hM (c_X5_price l D tb X z0 n (bo + 722) g (bq tb bo G F sf inp out M0) S B L P b (nI n9) hW (by omega)) (kv_X7_221 hw rfl rfl ⟨Nat.le_of_ble_eq_true rfl, Nat.le_of_ble_eq_true rfl⟩) rfl rfl (sp_st _ _ _ _) rfl (Nat.le_of_ble_eq_true rfl) dX7_refusalCause_89 ⟨Nat.le_of_ble_eq_true rfl, Nat.le_of_ble_eq_true rfl⟩ (fun H locs hM => ?_)
    refine lv_aload_n hx hb dX7_refusalCause_92 rfl (lv_at hl 0 rfl) ?_
    refine fg_X7_71 hC hM (bq_at h_b) rfl dX7_refusalCause_93 ?_
    refine fg_X7_170 hC hM (sp_st _ _ _ _) rfl dX7_refusalCause_96 ?_
    refine lv_iload_n hx hb dX7_refusalCause_99 rfl (lv_at hl 1 rfl) ?_
    refine me_aald (k := b) hC hM (sp_a2 _ _ _ _) (t0 := 7) rfl rfl (by omega) (by decide) (sp_arr_at (by omega)) dX7_refusalCause_100 ?_
    refine fg_X7_182 hC hM (sp_borrower _ _ _ _ (by omega)) rfl dX7_refusalCause_101 ?_
    refine lv_isub hx hb dX7_refusalCause_104 ?_
    exact me_iret hC hr hlk hM (by first | rfl | simp [cauF, c_1]) (rfl) (rfl) dX7_refusalCause_105
  · refine me_evi (y := 5) c_1 ?_
    refine lv_tableOut (tgt := 106) hx hb dX7_refusalCause_23 (by decide) (by decide) ?_
    refine lv_iconst (v := (-1)) hx hb dX7_refusalCause_106 (by decide) ?_
    exact me_iret hC hr hlk hM (by first | rfl | simp [cauF, c_1]) (rfl) (rfl) dX7_refusalCause_107
set_option maxHeartbeats 4000000 in
theorem c_X7_refusalCause_x1 (l : Launch) (D : va_G) (tb : Nat → ClassId) (X : State → Prop) (z0 n : Nat) (bo : Nat) (g : Nat → Int32) (G : Nat → Nat → Int32) (F sf inp out : Nat → Int32) (M0 : me_M) (S B L P : Nat) (x : Int32) (y9 z9 : Int32)  (hfl : l.stackTraces = false) (hXs : ∀ U, X U → me_xs z0 U) (hbad : x < 0 ∨ g 4 ≤ x) : vx_Met l yX7_refusalCause (.code yX7_refusalCause cX7_refusalCause 4 (some .int) :: ws_all) ({ frames := 7, cells := 1, slots := 6, locals := 111 } : Room) (me_Pc [.ref bo, .int x, .int y9, .int z9] D tb X z0 (sp tb (bo + 722) g (bq tb bo G F sf inp out M0)) n) me_no (me_XC D z0 (sp tb (bo + 722) g (bq tb bo G F sf inp out M0)) "java/lang/IndexOutOfBoundsException") 1 6 (me_A z0) := by
  refine me_openX (by decide) (Nat.le_of_ble_eq_true rfl) ?_
  intro p e s m args below meth c ls hC ht hlk hM hl
  have hl : lv_has ls 4 [(0, .ref bo), (1, .int x), (2, .int y9), (3, .int z9)] := hl
  have hx := hC.1
  have hb := hC.2.1
  have hw := hC.2.2.2.2.1
  refine lv_aload_n hx hb dX7_refusalCause_0 rfl (lv_at hl 0 rfl) ?_
  refine lv_iload_n hx hb dX7_refusalCause_1 rfl (lv_at hl 1 rfl) ?_
  exact me_xV (As := [.int x]) (rest := []) hC hl.1 hM (c_X7_needBorrower_x l D tb X z0 n bo g G F sf inp out M0 S B L P x hfl hXs hbad) (kv_X7_167 hw rfl rfl ⟨Nat.le_of_ble_eq_true rfl, Nat.le_of_ble_eq_true rfl⟩) rfl rfl (bq_at h_b) rfl (Nat.le_of_ble_eq_true rfl) dX7_refusalCause_2 ⟨Nat.le_of_ble_eq_true rfl, Nat.le_of_ble_eq_true rfl⟩ ht hlk (Nat.le_of_ble_eq_true rfl) (Nat.le_of_ble_eq_true rfl)
set_option maxHeartbeats 4000000 in
theorem c_X7_refusalCause_x2 (l : Launch) (D : va_G) (tb : Nat → ClassId) (X : State → Prop) (z0 n : Nat) (bo : Nat) (g : Nat → Int32) (G : Nat → Nat → Int32) (F sf inp out : Nat → Int32) (M0 : me_M) (S B L P : Nat) (b : Nat) (x0 x : Int32)  (hfl : l.stackTraces = false) (hXs : ∀ U, X U → me_xs z0 U) (hW : wf g S B L P) (hb9 : b < B) (hbad : x < 1 ∨ 6 < x) : vx_Met l yX7_refusalCause (.code yX7_refusalCause cX7_refusalCause 4 (some .int) :: ws_all) ({ frames := 8, cells := 1, slots := 6, locals := 134 } : Room) (me_Pc [.ref bo, .int (nI b), .int x0, .int x] D tb X z0 (sp tb (bo + 722) g (bq tb bo G F sf inp out M0)) n) me_no (me_XC D z0 (sp tb (bo + 722) g (bq tb bo G F sf inp out M0)) "java/lang/IllegalArgumentException") 1 6 (me_A z0) := by
  refine me_openX (by decide) (Nat.le_of_ble_eq_true rfl) ?_
  intro p e s m args below meth c ls hC ht hlk hM hl
  have hl : lv_has ls 4 [(0, .ref bo), (1, .int (nI b)), (2, .int x0), (3, .int x)] := hl
  have hx := hC.1
  have hb := hC.2.1
  have hw := hC.2.2.2.2.1
  obtain ⟨hS, hS0, hB, hB0, hL, hL0, hP, hP0, hwb, hwl⟩ := id hW
  refine lv_aload_n hx hb dX7_refusalCause_0 rfl (lv_at hl 0 rfl) ?_
  refine lv_iload_n hx hb dX7_refusalCause_1 rfl (lv_at hl 1 rfl) ?_
  refine me_callVv (As := [.int (nI b)]) (rest := []) hC hl.1 hM (c_X7_needBorrower l D tb X z0 n bo g G F sf inp out M0 S B L P b hW (by omega)) (kv_X7_167 hw rfl rfl ⟨Nat.le_of_ble_eq_true rfl, Nat.le_of_ble_eq_true rfl⟩) rfl rfl (bq_at h_b) rfl (Nat.le_of_ble_eq_true rfl) dX7_refusalCause_2 ⟨Nat.le_of_ble_eq_true rfl, Nat.le_of_ble_eq_true rfl⟩ (fun H locs hM => ?_)
  refine lv_aload_n hx hb dX7_refusalCause_5 rfl (lv_at hl 0 rfl) ?_
  refine lv_iload_n hx hb dX7_refusalCause_6 rfl (lv_at hl 2 rfl) ?_
  refine lv_iload_n hx hb dX7_refusalCause_7 rfl (lv_at hl 3 rfl) ?_
  refine lv_bipush (v := 6) hx hb dX7_refusalCause_8 (by decide) ?_
  exact me_xV (As := [.int x0, .int x, .int 6]) (rest := []) hC hl.1 hM (c_X7_needSpan_x1 l D tb X z0 n bo g G F sf inp out M0 S B L P x0 x 6 hfl hXs hbad) (kv_X7_223 hw rfl rfl ⟨Nat.le_of_ble_eq_true rfl, Nat.le_of_ble_eq_true rfl⟩) rfl rfl (bq_at h_b) rfl (Nat.le_of_ble_eq_true rfl) dX7_refusalCause_10 ⟨Nat.le_of_ble_eq_true rfl, Nat.le_of_ble_eq_true rfl⟩ ht hlk (Nat.le_of_ble_eq_true rfl) (Nat.le_of_ble_eq_true rfl)
set_option maxHeartbeats 4000000 in
theorem c_X7_refusalCause_x3 (l : Launch) (D : va_G) (tb : Nat → ClassId) (X : State → Prop) (z0 n : Nat) (bo : Nat) (g : Nat → Int32) (G : Nat → Nat → Int32) (F sf inp out : Nat → Int32) (M0 : me_M) (S B L P : Nat) (b : Nat) (x0 : Int32) (n9 : Nat)  (hfl : l.stackTraces = false) (hXs : ∀ U, X U → me_xs z0 U) (hW : wf g S B L P) (hb9 : b < B) (hn1 : 1 ≤ n9) (hn2 : n9 ≤ 6) (hbad : x0 < g 2 ∨ g 2 + 48 - nI n9 < x0) : vx_Met l yX7_refusalCause (.code yX7_refusalCause cX7_refusalCause 4 (some .int) :: ws_all) ({ frames := 7, cells := 1, slots := 6, locals := 113 } : Room) (me_Pc [.ref bo, .int (nI b), .int x0, .int (nI n9)] D tb X z0 (sp tb (bo + 722) g (bq tb bo G F sf inp out M0)) n) me_no (me_XC D z0 (sp tb (bo + 722) g (bq tb bo G F sf inp out M0)) "java/lang/IllegalArgumentException") 1 6 (me_A z0) := by
  refine me_openX (by decide) (Nat.le_of_ble_eq_true rfl) ?_
  intro p e s m args below meth c ls hC ht hlk hM hl
  have hl : lv_has ls 4 [(0, .ref bo), (1, .int (nI b)), (2, .int x0), (3, .int (nI n9))] := hl
  have hx := hC.1
  have hb := hC.2.1
  have hw := hC.2.2.2.2.1
  obtain ⟨hS, hS0, hB, hB0, hL, hL0, hP, hP0, hwb, hwl⟩ := id hW
  refine lv_aload_n hx hb dX7_refusalCause_0 rfl (lv_at hl 0 rfl) ?_
  refine lv_iload_n hx hb dX7_refusalCause_1 rfl (lv_at hl 1 rfl) ?_
  refine me_callVv (As := [.int (nI b)]) (rest := []) hC hl.1 hM (c_X7_needBorrower l D tb X z0 n bo g G F sf inp out M0 S B L P b hW (by omega)) (kv_X7_167 hw rfl rfl ⟨Nat.le_of_ble_eq_true rfl, Nat.le_of_ble_eq_true rfl⟩) rfl rfl (bq_at h_b) rfl (Nat.le_of_ble_eq_true rfl) dX7_refusalCause_2 ⟨Nat.le_of_ble_eq_true rfl, Nat.le_of_ble_eq_true rfl⟩ (fun H locs hM => ?_)
  refine lv_aload_n hx hb dX7_refusalCause_5 rfl (lv_at hl 0 rfl) ?_
  refine lv_iload_n hx hb dX7_refusalCause_6 rfl (lv_at hl 2 rfl) ?_
  refine lv_iload_n hx hb dX7_refusalCause_7 rfl (lv_at hl 3 rfl) ?_
  refine lv_bipush (v := 6) hx hb dX7_refusalCause_8 (by decide) ?_
  exact me_xV (As := [.int x0, .int (nI n9), .int 6]) (rest := []) hC hl.1 hM (c_X7_needSpan_x2 l D tb X z0 n bo g G F sf inp out M0 S B L P x0 n9 6 hfl hXs (by omega) (by omega) (by omega) hW hbad) (kv_X7_223 hw rfl rfl ⟨Nat.le_of_ble_eq_true rfl, Nat.le_of_ble_eq_true rfl⟩) rfl rfl (bq_at h_b) rfl (Nat.le_of_ble_eq_true rfl) dX7_refusalCause_10 ⟨Nat.le_of_ble_eq_true rfl, Nat.le_of_ble_eq_true rfl⟩ ht hlk (Nat.le_of_ble_eq_true rfl) (Nat.le_of_ble_eq_true rfl)
set_option maxHeartbeats 4000000 in
theorem c_X7_displacedBy (l : Launch) (D : va_G) (tb : Nat → ClassId) (X : State → Prop) (z0 n : Nat) (bo : Nat) (g : Nat → Int32) (G : Nat → Nat → Int32) (F sf inp out : Nat → Int32) (M0 : me_M) (S B L P : Nat) (T : Nat) (b s0 n9 : Nat)  (hW : wf g S B L P) (hT : g 2 = nI T) (hT0 : T ≤ 10000) (hb9 : b < B) (hn1 : 1 ≤ n9) (hn2 : n9 ≤ 6) (hs1 : T ≤ s0) (hs2 : s0 + n9 ≤ T + 48) : Met l yX7_displacedBy (.code yX7_displacedBy cX7_displacedBy 4 (some .int) :: ws_all) ({ frames := 4, cells := 0, slots := 0, locals := 93 } : Room) (me_Pc [.ref bo, .int (nI b), .int (nI s0), .int (nI n9)] D tb X z0 (sp tb (bo + 722) g (bq tb bo G F sf inp out M0)) n) (me_Qi D z0 (dispF g L P b s0 n9) (sp tb (bo + 722) g (bq tb bo G F sf inp out M0)) n) 0 0 (me_A z0) := by
  refine me_open (by decide) (Nat.le_of_ble_eq_true rfl) ?_
  intro p e s m args below meth c ls hC hr hlk hnm hM hl
  have hl : lv_has ls 4 [(0, .ref bo), (1, .int (nI b)), (2, .int (nI s0)), (3, .int (nI n9))] := hl
  have hx := hC.1
  have hb := hC.2.1
  have hw := hC.2.2.2.2.1
  obtain ⟨hS, hS0, hB, hB0, hL, hL0, hP, hP0, hwb, hwl⟩ := id hW
  refine lv_aload_n hx hb dX7_displacedBy_0 rfl (lv_at hl 0 rfl) ?_
  refine lv_iload_n hx hb dX7_displacedBy_1 rfl (lv_at hl 1 rfl) ?_
  refine me_callVv (As := [.int (nI b)]) (rest := []) hC hl.1 hM (c_X7_needBorrower l D tb X z0 n bo g G F sf inp out M0 S B L P b hW (by omega)) (kv_X7_167 hw rfl rfl ⟨Nat.le_of_ble_eq_true rfl, Nat.le_of_ble_eq_true rfl⟩) rfl rfl (bq_at h_b) rfl (Nat.le_of_ble_eq_true rfl) dX7_displacedBy_2 ⟨Nat.le_of_ble_eq_true rfl, Nat.le_of_ble_eq_true rfl⟩ (fun H locs hM => ?_)
  refine lv_aload_n hx hb dX7_displacedBy_5 rfl (lv_at hl 0 rfl) ?_
  refine lv_iload_n hx hb dX7_displacedBy_6 rfl (lv_at hl 2 rfl) ?_
  refine lv_iload_n hx hb dX7_displacedBy_7 rfl (lv_at hl 3 rfl) ?_
  refine lv_bipush (v := 6) hx hb dX7_displacedBy_8 (by decide) ?_
  refine me_stk (st2 := [.int (nI 6), .int (nI n9), .int (nI s0), .ref bo]) (by rw [(nx_c 6)]) ?_
  refine me_callVv (As := [.int (nI s0), .int (nI n9), .int (nI 6)]) (rest := []) hC hl.1 hM (c_X7_needSpan l D tb X z0 n bo g G F sf inp out M0 S B L P s0 n9 6 T hW hT hT0 (by omega) (by omega) (by omega) (by omega) (by omega)) (kv_X7_223 hw rfl rfl ⟨Nat.le_of_ble_eq_true rfl, Nat.le_of_ble_eq_true rfl⟩) rfl rfl (bq_at h_b) rfl (Nat.le_of_ble_eq_true rfl) dX7_displacedBy_10 ⟨Nat.le_of_ble_eq_true rfl, Nat.le_of_ble_eq_true rfl⟩ (fun H locs hM => ?_)
  refine lv_aload_n hx hb dX7_displacedBy_13 rfl (lv_at hl 0 rfl) ?_
  refine fg_X7_71 hC hM (bq_at h_b) rfl dX7_displacedBy_14 ?_
  refine lv_iload_n hx hb dX7_displacedBy_17 rfl (lv_at hl 1 rfl) ?_
  refine lv_iload_n hx hb dX7_displacedBy_18 rfl (lv_at hl 2 rfl) ?_
  refine lv_iload_n hx hb dX7_displacedBy_19 rfl (lv_at hl 3 rfl) ?_
  refine me_callVi (As := [.int (nI b), .int (nI s0), .int (nI n9)]) (rest := []) hC hl.1 hM (c_X5_reasonAgainst l D tb X z0 n (bo + 722) g (bq tb bo G F sf inp out M0) S B L P b s0 n9 hW (by omega) (by omega)) (kv_X7_227 hw rfl rfl ⟨Nat.le_of_ble_eq_true rfl, Nat.le_of_ble_eq_true rfl⟩) rfl rfl (sp_st _ _ _ _) rfl (Nat.le_of_ble_eq_true rfl) dX7_displacedBy_20 ⟨Nat.le_of_ble_eq_true rfl, Nat.le_of_ble_eq_true rfl⟩ (fun H locs hM => ?_)
  refine lv_if_eq (tgt := 28) hx hb dX7_displacedBy_23 (by decide) (fun c_1 => ?_) (fun c_1 => ?_)
  · refine lv_aload_n hx hb dX7_displacedBy_28 rfl (lv_at hl 0 rfl) ?_
    refine fg_X7_71 hC hM (bq_at h_b) rfl dX7_displacedBy_29 ?_
    refine lv_iload_n hx hb dX7_displacedBy_32 rfl (lv_at hl 2 rfl) ?_
    refine lv_iload_n hx hb dX7_displacedBy_33 rfl (lv_at hl 3 rfl) ?_
    refine me_callVi (As := [.int (nI s0), .int (nI n9)]) (rest := []) hC hl.1 hM (c_X5_loansIn l D tb X z0 n (bo + 722) g (bq tb bo G F sf inp out M0) L (nI s0) (nI n9) hL hL0) (kv_X7_240 hw rfl rfl ⟨Nat.le_of_ble_eq_true rfl, Nat.le_of_ble_eq_true rfl⟩) rfl rfl (sp_st _ _ _ _) rfl (Nat.le_of_ble_eq_true rfl) dX7_displacedBy_34 ⟨Nat.le_of_ble_eq_true rfl, Nat.le_of_ble_eq_true rfl⟩ (fun H locs hM => ?_)
    exact me_iret hC hr hlk hM (by first | rfl | simp [dispF, c_1]) (rfl) (rfl) dX7_displacedBy_37
  · refine lv_iconst (v := (-1)) hx hb dX7_displacedBy_26 (by decide) ?_
    exact me_iret hC hr hlk hM (by first | rfl | simp [dispF, c_1]) (rfl) (rfl) dX7_displacedBy_27
set_option maxHeartbeats 4000000 in
theorem c_X7_displacedBy_x1 (l : Launch) (D : va_G) (tb : Nat → ClassId) (X : State → Prop) (z0 n : Nat) (bo : Nat) (g : Nat → Int32) (G : Nat → Nat → Int32) (F sf inp out : Nat → Int32) (M0 : me_M) (S B L P : Nat) (x : Int32) (y9 z9 : Int32)  (hfl : l.stackTraces = false) (hXs : ∀ U, X U → me_xs z0 U) (hbad : x < 0 ∨ g 4 ≤ x) : vx_Met l yX7_displacedBy (.code yX7_displacedBy cX7_displacedBy 4 (some .int) :: ws_all) ({ frames := 7, cells := 1, slots := 6, locals := 111 } : Room) (me_Pc [.ref bo, .int x, .int y9, .int z9] D tb X z0 (sp tb (bo + 722) g (bq tb bo G F sf inp out M0)) n) me_no (me_XC D z0 (sp tb (bo + 722) g (bq tb bo G F sf inp out M0)) "java/lang/IndexOutOfBoundsException") 1 6 (me_A z0) := by
  refine me_openX (by decide) (Nat.le_of_ble_eq_true rfl) ?_
  intro p e s m args below meth c ls hC ht hlk hM hl
  have hl : lv_has ls 4 [(0, .ref bo), (1, .int x), (2, .int y9), (3, .int z9)] := hl
  have hx := hC.1
  have hb := hC.2.1
  have hw := hC.2.2.2.2.1
  refine lv_aload_n hx hb dX7_displacedBy_0 rfl (lv_at hl 0 rfl) ?_
  refine lv_iload_n hx hb dX7_displacedBy_1 rfl (lv_at hl 1 rfl) ?_
  exact me_xV (As := [.int x]) (rest := []) hC hl.1 hM (c_X7_needBorrower_x l D tb X z0 n bo g G F sf inp out M0 S B L P x hfl hXs hbad) (kv_X7_167 hw rfl rfl ⟨Nat.le_of_ble_eq_true rfl, Nat.le_of_ble_eq_true rfl⟩) rfl rfl (bq_at h_b) rfl (Nat.le_of_ble_eq_true rfl) dX7_displacedBy_2 ⟨Nat.le_of_ble_eq_true rfl, Nat.le_of_ble_eq_true rfl⟩ ht hlk (Nat.le_of_ble_eq_true rfl) (Nat.le_of_ble_eq_true rfl)
set_option maxHeartbeats 4000000 in
theorem c_X7_displacedBy_x2 (l : Launch) (D : va_G) (tb : Nat → ClassId) (X : State → Prop) (z0 n : Nat) (bo : Nat) (g : Nat → Int32) (G : Nat → Nat → Int32) (F sf inp out : Nat → Int32) (M0 : me_M) (S B L P : Nat) (b : Nat) (x0 x : Int32)  (hfl : l.stackTraces = false) (hXs : ∀ U, X U → me_xs z0 U) (hW : wf g S B L P) (hb9 : b < B) (hbad : x < 1 ∨ 6 < x) : vx_Met l yX7_displacedBy (.code yX7_displacedBy cX7_displacedBy 4 (some .int) :: ws_all) ({ frames := 8, cells := 1, slots := 6, locals := 134 } : Room) (me_Pc [.ref bo, .int (nI b), .int x0, .int x] D tb X z0 (sp tb (bo + 722) g (bq tb bo G F sf inp out M0)) n) me_no (me_XC D z0 (sp tb (bo + 722) g (bq tb bo G F sf inp out M0)) "java/lang/IllegalArgumentException") 1 6 (me_A z0) := by
  refine me_openX (by decide) (Nat.le_of_ble_eq_true rfl) ?_
  intro p e s m args below meth c ls hC ht hlk hM hl
  have hl : lv_has ls 4 [(0, .ref bo), (1, .int (nI b)), (2, .int x0), (3, .int x)] := hl
  have hx := hC.1
  have hb := hC.2.1
  have hw := hC.2.2.2.2.1
  obtain ⟨hS, hS0, hB, hB0, hL, hL0, hP, hP0, hwb, hwl⟩ := id hW
  refine lv_aload_n hx hb dX7_displacedBy_0 rfl (lv_at hl 0 rfl) ?_
  refine lv_iload_n hx hb dX7_displacedBy_1 rfl (lv_at hl 1 rfl) ?_
  refine me_callVv (As := [.int (nI b)]) (rest := []) hC hl.1 hM (c_X7_needBorrower l D tb X z0 n bo g G F sf inp out M0 S B L P b hW (by omega)) (kv_X7_167 hw rfl rfl ⟨Nat.le_of_ble_eq_true rfl, Nat.le_of_ble_eq_true rfl⟩) rfl rfl (bq_at h_b) rfl (Nat.le_of_ble_eq_true rfl) dX7_displacedBy_2 ⟨Nat.le_of_ble_eq_true rfl, Nat.le_of_ble_eq_true rfl⟩ (fun H locs hM => ?_)
  refine lv_aload_n hx hb dX7_displacedBy_5 rfl (lv_at hl 0 rfl) ?_
  refine lv_iload_n hx hb dX7_displacedBy_6 rfl (lv_at hl 2 rfl) ?_
  refine lv_iload_n hx hb dX7_displacedBy_7 rfl (lv_at hl 3 rfl) ?_
  refine lv_bipush (v := 6) hx hb dX7_displacedBy_8 (by decide) ?_
  exact me_xV (As := [.int x0, .int x, .int 6]) (rest := []) hC hl.1 hM (c_X7_needSpan_x1 l D tb X z0 n bo g G F sf inp out M0 S B L P x0 x 6 hfl hXs hbad) (kv_X7_223 hw rfl rfl ⟨Nat.le_of_ble_eq_true rfl, Nat.le_of_ble_eq_true rfl⟩) rfl rfl (bq_at h_b) rfl (Nat.le_of_ble_eq_true rfl) dX7_displacedBy_10 ⟨Nat.le_of_ble_eq_true rfl, Nat.le_of_ble_eq_true rfl⟩ ht hlk (Nat.le_of_ble_eq_true rfl) (Nat.le_of_ble_eq_true rfl)
set_option maxHeartbeats 4000000 in
theorem c_X7_displacedBy_x3 (l : Launch) (D : va_G) (tb : Nat → ClassId) (X : State → Prop) (z0 n : Nat) (bo : Nat) (g : Nat → Int32) (G : Nat → Nat → Int32) (F sf inp out : Nat → Int32) (M0 : me_M) (S B L P : Nat) (b : Nat) (x0 : Int32) (n9 : Nat)  (hfl : l.stackTraces = false) (hXs : ∀ U, X U → me_xs z0 U) (hW : wf g S B L P) (hb9 : b < B) (hn1 : 1 ≤ n9) (hn2 : n9 ≤ 6) (hbad : x0 < g 2 ∨ g 2 + 48 - nI n9 < x0) : vx_Met l yX7_displacedBy (.code yX7_displacedBy cX7_displacedBy 4 (some .int) :: ws_all) ({ frames := 7, cells := 1, slots := 6, locals := 113 } : Room) (me_Pc [.ref bo, .int (nI b), .int x0, .int (nI n9)] D tb X z0 (sp tb (bo + 722) g (bq tb bo G F sf inp out M0)) n) me_no (me_XC D z0 (sp tb (bo + 722) g (bq tb bo G F sf inp out M0)) "java/lang/IllegalArgumentException") 1 6 (me_A z0) := by
  refine me_openX (by decide) (Nat.le_of_ble_eq_true rfl) ?_
  intro p e s m args below meth c ls hC ht hlk hM hl
  have hl : lv_has ls 4 [(0, .ref bo), (1, .int (nI b)), (2, .int x0), (3, .int (nI n9))] := hl
  have hx := hC.1
  have hb := hC.2.1
  have hw := hC.2.2.2.2.1
  obtain ⟨hS, hS0, hB, hB0, hL, hL0, hP, hP0, hwb, hwl⟩ := id hW
  refine lv_aload_n hx hb dX7_displacedBy_0 rfl (lv_at hl 0 rfl) ?_
  refine lv_iload_n hx hb dX7_displacedBy_1 rfl (lv_at hl 1 rfl) ?_
  refine me_callVv (As := [.int (nI b)]) (rest := []) hC hl.1 hM (c_X7_needBorrower l D tb X z0 n bo g G F sf inp out M0 S B L P b hW (by omega)) (kv_X7_167 hw rfl rfl ⟨Nat.le_of_ble_eq_true rfl, Nat.le_of_ble_eq_true rfl⟩) rfl rfl (bq_at h_b) rfl (Nat.le_of_ble_eq_true rfl) dX7_displacedBy_2 ⟨Nat.le_of_ble_eq_true rfl, Nat.le_of_ble_eq_true rfl⟩ (fun H locs hM => ?_)
  refine lv_aload_n hx hb dX7_displacedBy_5 rfl (lv_at hl 0 rfl) ?_
  refine lv_iload_n hx hb dX7_displacedBy_6 rfl (lv_at hl 2 rfl) ?_
  refine lv_iload_n hx hb dX7_displacedBy_7 rfl (lv_at hl 3 rfl) ?_
  refine lv_bipush (v := 6) hx hb dX7_displacedBy_8 (by decide) ?_
  exact me_xV (As := [.int x0, .int (nI n9), .int 6]) (rest := []) hC hl.1 hM (c_X7_needSpan_x2 l D tb X z0 n bo g G F sf inp out M0 S B L P x0 n9 6 hfl hXs (by omega) (by omega) (by omega) hW hbad) (kv_X7_223 hw rfl rfl ⟨Nat.le_of_ble_eq_true rfl, Nat.le_of_ble_eq_true rfl⟩) rfl rfl (bq_at h_b) rfl (Nat.le_of_ble_eq_true rfl) dX7_displacedBy_10 ⟨Nat.le_of_ble_eq_true rfl, Nat.le_of_ble_eq_true rfl⟩ ht hlk (Nat.le_of_ble_eq_true rfl) (Nat.le_of_ble_eq_true rfl)
set_option maxHeartbeats 4000000 in
theorem c_X7_earliestStart (l : Launch) (D : va_G) (tb : Nat → ClassId) (X : State → Prop) (z0 n : Nat) (bo : Nat) (g : Nat → Int32) (G : Nat → Nat → Int32) (F sf inp out : Nat → Int32) (M0 : me_M) (S B L P : Nat) (T : Nat) (b n9 : Nat)  (hW : wf g S B L P) (hT : g 2 = nI T) (hT0 : T ≤ 10000) (hb9 : b < B) (hn1 : 1 ≤ n9) (hn2 : n9 ≤ 6) : Met l yX7_earliestStart (.code yX7_earliestStart cX7_earliestStart 3 (some .int) :: ws_all) ({ frames := 5, cells := 0, slots := 0, locals := 117 } : Room) (me_Pc [.ref bo, .int (nI b), .int (nI n9)] D tb X z0 (sp tb (bo + 722) g (bq tb bo G F sf inp out M0)) n) (me_Qi D z0 (eaF g L P b n9 T 30) (sp tb (bo + 722) g (bq tb bo G F sf inp out M0)) n) 0 0 (me_A z0) := by
  refine me_open (by decide) (Nat.le_of_ble_eq_true rfl) ?_
  intro p e s m args below meth c ls hC hr hlk hnm hM hl
  have hl : lv_has ls 3 [(0, .ref bo), (1, .int (nI b)), (2, .int (nI n9))] := hl
  have hx := hC.1
  have hb := hC.2.1
  have hw := hC.2.2.2.2.1
  obtain ⟨hS, hS0, hB, hB0, hL, hL0, hP, hP0, hwb, hwl⟩ := id hW
  refine lv_aload_n hx hb dX7_earliestStart_0 rfl (lv_at hl 0 rfl) ?_
  refine lv_iload_n hx hb dX7_earliestStart_1 rfl (lv_at hl 1 rfl) ?_
  refine me_callVv (As := [.int (nI b)]) (rest := []) hC hl.1 hM (c_X7_needBorrower l D tb X z0 n bo g G F sf inp out M0 S B L P b hW (by omega)) (kv_X7_167 hw rfl rfl ⟨Nat.le_of_ble_eq_true rfl, Nat.le_of_ble_eq_true rfl⟩) rfl rfl (bq_at h_b) rfl (Nat.le_of_ble_eq_true rfl) dX7_earliestStart_2 ⟨Nat.le_of_ble_eq_true rfl, Nat.le_of_ble_eq_true rfl⟩ (fun H locs hM => ?_)
  refine lv_iload_n hx hb dX7_earliestStart_5 rfl (lv_at hl 2 rfl) ?_
  refine lv_bipush (v := 6) hx hb dX7_earliestStart_6 (by decide) ?_
  refine me_stk (st2 := [.int (nI 6), .int (nI n9)]) (by rw [(nx_c 6)]) ?_
  refine me_callSv (As := [.int (nI n9), .int (nI 6)]) (rest := []) hC hl.1 hM (c_X7_needLength l D tb X z0 n bo g G F sf inp out M0 S B L P n9 6 hW (by omega) (by omega) (by omega)) (ks_X7_217 hw rfl rfl ⟨Nat.le_of_ble_eq_true rfl, Nat.le_of_ble_eq_true rfl⟩) rfl rfl (Nat.le_of_ble_eq_true rfl) dX7_earliestStart_8 ⟨Nat.le_of_ble_eq_true rfl, Nat.le_of_ble_eq_true rfl⟩ (fun H locs hM => ?_)
  refine lv_aload_n hx hb dX7_earliestStart_11 rfl (lv_at hl 0 rfl) ?_
  refine fg_X7_71 hC hM (bq_at h_b) rfl dX7_earliestStart_12 ?_
  refine lv_iload_n hx hb dX7_earliestStart_15 rfl (lv_at hl 1 rfl) ?_
  refine lv_iload_n hx hb dX7_earliestStart_16 rfl (lv_at hl 2 rfl) ?_
  refine lv_bipush (v := 30) hx hb dX7_earliestStart_17 (by decide) ?_
  refine me_callVi (As := [.int (nI b), .int (nI n9), .int 30]) (rest := []) hC hl.1 hM (c_X5_earliest l D tb X z0 n (bo + 722) g (bq tb bo G F sf inp out M0) S B L P b n9 T 30 hW (by omega) (by omega) hT hT0) (kv_X7_243 hw rfl rfl ⟨Nat.le_of_ble_eq_true rfl, Nat.le_of_ble_eq_true rfl⟩) rfl rfl (sp_st _ _ _ _) rfl (Nat.le_of_ble_eq_true rfl) dX7_earliestStart_19 ⟨Nat.le_of_ble_eq_true rfl, Nat.le_of_ble_eq_true rfl⟩ (fun H locs hM => ?_)
  exact me_iret hC hr hlk hM (by first | rfl | simp []) (rfl) (rfl) dX7_earliestStart_22
set_option maxHeartbeats 4000000 in
theorem c_X7_earliestStart_x1 (l : Launch) (D : va_G) (tb : Nat → ClassId) (X : State → Prop) (z0 n : Nat) (bo : Nat) (g : Nat → Int32) (G : Nat → Nat → Int32) (F sf inp out : Nat → Int32) (M0 : me_M) (S B L P : Nat) (x : Int32) (y9 : Int32)  (hfl : l.stackTraces = false) (hXs : ∀ U, X U → me_xs z0 U) (hbad : x < 0 ∨ g 4 ≤ x) : vx_Met l yX7_earliestStart (.code yX7_earliestStart cX7_earliestStart 3 (some .int) :: ws_all) ({ frames := 7, cells := 1, slots := 6, locals := 111 } : Room) (me_Pc [.ref bo, .int x, .int y9] D tb X z0 (sp tb (bo + 722) g (bq tb bo G F sf inp out M0)) n) me_no (me_XC D z0 (sp tb (bo + 722) g (bq tb bo G F sf inp out M0)) "java/lang/IndexOutOfBoundsException") 1 6 (me_A z0) := by
  refine me_openX (by decide) (Nat.le_of_ble_eq_true rfl) ?_
  intro p e s m args below meth c ls hC ht hlk hM hl
  have hl : lv_has ls 3 [(0, .ref bo), (1, .int x), (2, .int y9)] := hl
  have hx := hC.1
  have hb := hC.2.1
  have hw := hC.2.2.2.2.1
  refine lv_aload_n hx hb dX7_earliestStart_0 rfl (lv_at hl 0 rfl) ?_
  refine lv_iload_n hx hb dX7_earliestStart_1 rfl (lv_at hl 1 rfl) ?_
  exact me_xV (As := [.int x]) (rest := []) hC hl.1 hM (c_X7_needBorrower_x l D tb X z0 n bo g G F sf inp out M0 S B L P x hfl hXs hbad) (kv_X7_167 hw rfl rfl ⟨Nat.le_of_ble_eq_true rfl, Nat.le_of_ble_eq_true rfl⟩) rfl rfl (bq_at h_b) rfl (Nat.le_of_ble_eq_true rfl) dX7_earliestStart_2 ⟨Nat.le_of_ble_eq_true rfl, Nat.le_of_ble_eq_true rfl⟩ ht hlk (Nat.le_of_ble_eq_true rfl) (Nat.le_of_ble_eq_true rfl)
set_option maxHeartbeats 4000000 in
theorem c_X7_earliestStart_x2 (l : Launch) (D : va_G) (tb : Nat → ClassId) (X : State → Prop) (z0 n : Nat) (bo : Nat) (g : Nat → Int32) (G : Nat → Nat → Int32) (F sf inp out : Nat → Int32) (M0 : me_M) (S B L P : Nat) (b : Nat) (x : Int32)  (hfl : l.stackTraces = false) (hXs : ∀ U, X U → me_xs z0 U) (hW : wf g S B L P) (hb9 : b < B) (hbad : x < 1 ∨ 6 < x) : vx_Met l yX7_earliestStart (.code yX7_earliestStart cX7_earliestStart 3 (some .int) :: ws_all) ({ frames := 7, cells := 1, slots := 6, locals := 111 } : Room) (me_Pc [.ref bo, .int (nI b), .int x] D tb X z0 (sp tb (bo + 722) g (bq tb bo G F sf inp out M0)) n) me_no (me_XC D z0 (sp tb (bo + 722) g (bq tb bo G F sf inp out M0)) "java/lang/IllegalArgumentException") 1 6 (me_A z0) := by
  refine me_openX (by decide) (Nat.le_of_ble_eq_true rfl) ?_
  intro p e s m args below meth c ls hC ht hlk hM hl
  have hl : lv_has ls 3 [(0, .ref bo), (1, .int (nI b)), (2, .int x)] := hl
  have hx := hC.1
  have hb := hC.2.1
  have hw := hC.2.2.2.2.1
  obtain ⟨hS, hS0, hB, hB0, hL, hL0, hP, hP0, hwb, hwl⟩ := id hW
  refine lv_aload_n hx hb dX7_earliestStart_0 rfl (lv_at hl 0 rfl) ?_
  refine lv_iload_n hx hb dX7_earliestStart_1 rfl (lv_at hl 1 rfl) ?_
  refine me_callVv (As := [.int (nI b)]) (rest := []) hC hl.1 hM (c_X7_needBorrower l D tb X z0 n bo g G F sf inp out M0 S B L P b hW (by omega)) (kv_X7_167 hw rfl rfl ⟨Nat.le_of_ble_eq_true rfl, Nat.le_of_ble_eq_true rfl⟩) rfl rfl (bq_at h_b) rfl (Nat.le_of_ble_eq_true rfl) dX7_earliestStart_2 ⟨Nat.le_of_ble_eq_true rfl, Nat.le_of_ble_eq_true rfl⟩ (fun H locs hM => ?_)
  refine lv_iload_n hx hb dX7_earliestStart_5 rfl (lv_at hl 2 rfl) ?_
  refine lv_bipush (v := 6) hx hb dX7_earliestStart_6 (by decide) ?_
  exact me_xS (As := [.int x, .int 6]) (rest := []) hC hl.1 hM (c_X7_needLength_x l D tb X z0 n bo g G F sf inp out M0 S B L P x 6 hfl hXs hbad) (ks_X7_217 hw rfl rfl ⟨Nat.le_of_ble_eq_true rfl, Nat.le_of_ble_eq_true rfl⟩) rfl rfl (Nat.le_of_ble_eq_true rfl) dX7_earliestStart_8 ⟨Nat.le_of_ble_eq_true rfl, Nat.le_of_ble_eq_true rfl⟩ ht hlk (Nat.le_of_ble_eq_true rfl) (Nat.le_of_ble_eq_true rfl)
set_option maxHeartbeats 4000000 in
theorem c_X7_earliestPeacefulStart (l : Launch) (D : va_G) (tb : Nat → ClassId) (X : State → Prop) (z0 n : Nat) (bo : Nat) (g : Nat → Int32) (G : Nat → Nat → Int32) (F sf inp out : Nat → Int32) (M0 : me_M) (S B L P : Nat) (T : Nat) (b n9 : Nat)  (hW : wf g S B L P) (hT : g 2 = nI T) (hT0 : T ≤ 10000) (hb9 : b < B) (hn1 : 1 ≤ n9) (hn2 : n9 ≤ 6) : Met l yX7_earliestPeacefulStart (.code yX7_earliestPeacefulStart cX7_earliestPeacefulStart 3 (some .int) :: ws_all) ({ frames := 5, cells := 0, slots := 0, locals := 117 } : Room) (me_Pc [.ref bo, .int (nI b), .int (nI n9)] D tb X z0 (sp tb (bo + 722) g (bq tb bo G F sf inp out M0)) n) (me_Qi D z0 (eaF g L P b n9 T 0) (sp tb (bo + 722) g (bq tb bo G F sf inp out M0)) n) 0 0 (me_A z0) := by
  refine me_open (by decide) (Nat.le_of_ble_eq_true rfl) ?_
  intro p e s m args below meth c ls hC hr hlk hnm hM hl
  have hl : lv_has ls 3 [(0, .ref bo), (1, .int (nI b)), (2, .int (nI n9))] := hl
  have hx := hC.1
  have hb := hC.2.1
  have hw := hC.2.2.2.2.1
  obtain ⟨hS, hS0, hB, hB0, hL, hL0, hP, hP0, hwb, hwl⟩ := id hW
  refine lv_aload_n hx hb dX7_earliestPeacefulStart_0 rfl (lv_at hl 0 rfl) ?_
  refine lv_iload_n hx hb dX7_earliestPeacefulStart_1 rfl (lv_at hl 1 rfl) ?_
  refine me_callVv (As := [.int (nI b)]) (rest := []) hC hl.1 hM (c_X7_needBorrower l D tb X z0 n bo g G F sf inp out M0 S B L P b hW (by omega)) (kv_X7_167 hw rfl rfl ⟨Nat.le_of_ble_eq_true rfl, Nat.le_of_ble_eq_true rfl⟩) rfl rfl (bq_at h_b) rfl (Nat.le_of_ble_eq_true rfl) dX7_earliestPeacefulStart_2 ⟨Nat.le_of_ble_eq_true rfl, Nat.le_of_ble_eq_true rfl⟩ (fun H locs hM => ?_)
  refine lv_iload_n hx hb dX7_earliestPeacefulStart_5 rfl (lv_at hl 2 rfl) ?_
  refine lv_bipush (v := 6) hx hb dX7_earliestPeacefulStart_6 (by decide) ?_
  refine me_stk (st2 := [.int (nI 6), .int (nI n9)]) (by rw [(nx_c 6)]) ?_
  refine me_callSv (As := [.int (nI n9), .int (nI 6)]) (rest := []) hC hl.1 hM (c_X7_needLength l D tb X z0 n bo g G F sf inp out M0 S B L P n9 6 hW (by omega) (by omega) (by omega)) (ks_X7_217 hw rfl rfl ⟨Nat.le_of_ble_eq_true rfl, Nat.le_of_ble_eq_true rfl⟩) rfl rfl (Nat.le_of_ble_eq_true rfl) dX7_earliestPeacefulStart_8 ⟨Nat.le_of_ble_eq_true rfl, Nat.le_of_ble_eq_true rfl⟩ (fun H locs hM => ?_)
  refine lv_aload_n hx hb dX7_earliestPeacefulStart_11 rfl (lv_at hl 0 rfl) ?_
  refine fg_X7_71 hC hM (bq_at h_b) rfl dX7_earliestPeacefulStart_12 ?_
  refine lv_iload_n hx hb dX7_earliestPeacefulStart_15 rfl (lv_at hl 1 rfl) ?_
  refine lv_iload_n hx hb dX7_earliestPeacefulStart_16 rfl (lv_at hl 2 rfl) ?_
  refine lv_iconst (v := 0) hx hb dX7_earliestPeacefulStart_17 (by decide) ?_
  refine me_callVi (As := [.int (nI b), .int (nI n9), .int 0]) (rest := []) hC hl.1 hM (c_X5_earliest l D tb X z0 n (bo + 722) g (bq tb bo G F sf inp out M0) S B L P b n9 T 0 hW (by omega) (by omega) hT hT0) (kv_X7_243 hw rfl rfl ⟨Nat.le_of_ble_eq_true rfl, Nat.le_of_ble_eq_true rfl⟩) rfl rfl (sp_st _ _ _ _) rfl (Nat.le_of_ble_eq_true rfl) dX7_earliestPeacefulStart_18 ⟨Nat.le_of_ble_eq_true rfl, Nat.le_of_ble_eq_true rfl⟩ (fun H locs hM => ?_)
  exact me_iret hC hr hlk hM (by first | rfl | simp []) (rfl) (rfl) dX7_earliestPeacefulStart_21
set_option maxHeartbeats 4000000 in
theorem c_X7_earliestPeacefulStart_x1 (l : Launch) (D : va_G) (tb : Nat → ClassId) (X : State → Prop) (z0 n : Nat) (bo : Nat) (g : Nat → Int32) (G : Nat → Nat → Int32) (F sf inp out : Nat → Int32) (M0 : me_M) (S B L P : Nat) (x : Int32) (y9 : Int32)  (hfl : l.stackTraces = false) (hXs : ∀ U, X U → me_xs z0 U) (hbad : x < 0 ∨ g 4 ≤ x) : vx_Met l yX7_earliestPeacefulStart (.code yX7_earliestPeacefulStart cX7_earliestPeacefulStart 3 (some .int) :: ws_all) ({ frames := 7, cells := 1, slots := 6, locals := 111 } : Room) (me_Pc [.ref bo, .int x, .int y9] D tb X z0 (sp tb (bo + 722) g (bq tb bo G F sf inp out M0)) n) me_no (me_XC D z0 (sp tb (bo + 722) g (bq tb bo G F sf inp out M0)) "java/lang/IndexOutOfBoundsException") 1 6 (me_A z0) := by
  refine me_openX (by decide) (Nat.le_of_ble_eq_true rfl) ?_
  intro p e s m args below meth c ls hC ht hlk hM hl
  have hl : lv_has ls 3 [(0, .ref bo), (1, .int x), (2, .int y9)] := hl
  have hx := hC.1
  have hb := hC.2.1
  have hw := hC.2.2.2.2.1
  refine lv_aload_n hx hb dX7_earliestPeacefulStart_0 rfl (lv_at hl 0 rfl) ?_
  refine lv_iload_n hx hb dX7_earliestPeacefulStart_1 rfl (lv_at hl 1 rfl) ?_
  exact me_xV (As := [.int x]) (rest := []) hC hl.1 hM (c_X7_needBorrower_x l D tb X z0 n bo g G F sf inp out M0 S B L P x hfl hXs hbad) (kv_X7_167 hw rfl rfl ⟨Nat.le_of_ble_eq_true rfl, Nat.le_of_ble_eq_true rfl⟩) rfl rfl (bq_at h_b) rfl (Nat.le_of_ble_eq_true rfl) dX7_earliestPeacefulStart_2 ⟨Nat.le_of_ble_eq_true rfl, Nat.le_of_ble_eq_true rfl⟩ ht hlk (Nat.le_of_ble_eq_true rfl) (Nat.le_of_ble_eq_true rfl)
set_option maxHeartbeats 4000000 in
theorem c_X7_earliestPeacefulStart_x2 (l : Launch) (D : va_G) (tb : Nat → ClassId) (X : State → Prop) (z0 n : Nat) (bo : Nat) (g : Nat → Int32) (G : Nat → Nat → Int32) (F sf inp out : Nat → Int32) (M0 : me_M) (S B L P : Nat) (b : Nat) (x : Int32)  (hfl : l.stackTraces = false) (hXs : ∀ U, X U → me_xs z0 U) (hW : wf g S B L P) (hb9 : b < B) (hbad : x < 1 ∨ 6 < x) : vx_Met l yX7_earliestPeacefulStart (.code yX7_earliestPeacefulStart cX7_earliestPeacefulStart 3 (some .int) :: ws_all) ({ frames := 7, cells := 1, slots := 6, locals := 111 } : Room) (me_Pc [.ref bo, .int (nI b), .int x] D tb X z0 (sp tb (bo + 722) g (bq tb bo G F sf inp out M0)) n) me_no (me_XC D z0 (sp tb (bo + 722) g (bq tb bo G F sf inp out M0)) "java/lang/IllegalArgumentException") 1 6 (me_A z0) := by
  refine me_openX (by decide) (Nat.le_of_ble_eq_true rfl) ?_
  intro p e s m args below meth c ls hC ht hlk hM hl
  have hl : lv_has ls 3 [(0, .ref bo), (1, .int (nI b)), (2, .int x)] := hl
  have hx := hC.1
  have hb := hC.2.1
  have hw := hC.2.2.2.2.1
  obtain ⟨hS, hS0, hB, hB0, hL, hL0, hP, hP0, hwb, hwl⟩ := id hW
  refine lv_aload_n hx hb dX7_earliestPeacefulStart_0 rfl (lv_at hl 0 rfl) ?_
  refine lv_iload_n hx hb dX7_earliestPeacefulStart_1 rfl (lv_at hl 1 rfl) ?_
  refine me_callVv (As := [.int (nI b)]) (rest := []) hC hl.1 hM (c_X7_needBorrower l D tb X z0 n bo g G F sf inp out M0 S B L P b hW (by omega)) (kv_X7_167 hw rfl rfl ⟨Nat.le_of_ble_eq_true rfl, Nat.le_of_ble_eq_true rfl⟩) rfl rfl (bq_at h_b) rfl (Nat.le_of_ble_eq_true rfl) dX7_earliestPeacefulStart_2 ⟨Nat.le_of_ble_eq_true rfl, Nat.le_of_ble_eq_true rfl⟩ (fun H locs hM => ?_)
  refine lv_iload_n hx hb dX7_earliestPeacefulStart_5 rfl (lv_at hl 2 rfl) ?_
  refine lv_bipush (v := 6) hx hb dX7_earliestPeacefulStart_6 (by decide) ?_
  exact me_xS (As := [.int x, .int 6]) (rest := []) hC hl.1 hM (c_X7_needLength_x l D tb X z0 n bo g G F sf inp out M0 S B L P x 6 hfl hXs hbad) (ks_X7_217 hw rfl rfl ⟨Nat.le_of_ble_eq_true rfl, Nat.le_of_ble_eq_true rfl⟩) rfl rfl (Nat.le_of_ble_eq_true rfl) dX7_earliestPeacefulStart_8 ⟨Nat.le_of_ble_eq_true rfl, Nat.le_of_ble_eq_true rfl⟩ ht hlk (Nat.le_of_ble_eq_true rfl) (Nat.le_of_ble_eq_true rfl)
set_option maxHeartbeats 4000000 in
theorem c_X7_loansWith (l : Launch) (D : va_G) (tb : Nat → ClassId) (X : State → Prop) (z0 n : Nat) (bo : Nat) (g : Nat → Int32) (G : Nat → Nat → Int32) (F sf inp out : Nat → Int32) (M0 : me_M) (S B L P : Nat) (x : Nat)  (hW : wf g S B L P) (hx9 : x ≤ 5) : Met l yX7_loansWith (.code yX7_loansWith cX7_loansWith 2 (some .int) :: ws_all) ({ frames := 1, cells := 0, slots := 0, locals := 23 } : Room) (me_Pc [.ref bo, .int (nI x)] D tb X z0 (sp tb (bo + 722) g (bq tb bo G F sf inp out M0)) n) (me_Qi D z0 (nI (co (fun k => g (261 + 5 * k + 4) = nI x) L 0)) (sp tb (bo + 722) g (bq tb bo G F sf inp out M0)) n) 0 0 (me_A z0) := by
  refine me_open (by decide) (Nat.le_of_ble_eq_true rfl) ?_
  intro p e s m args below meth c ls hC hr hlk hnm hM hl
  have hl : lv_has ls 2 [(0, .ref bo), (1, .int (nI x))] := hl
  have hx := hC.1
  have hb := hC.2.1
  have hw := hC.2.2.2.2.1
  obtain ⟨hS, hS0, hB, hB0, hL, hL0, hP, hP0, hwb, hwl⟩ := id hW
  refine lv_iload_n hx hb dX7_loansWith_0 rfl (lv_at hl 1 rfl) ?_
  refine lv_if_lt (tgt := 9) hx hb dX7_loansWith_1 (by decide) (fun c_1 => ?_) (fun c_1 => ?_)
  · have c_1 := (br_lt rfl (show (0 : Int32) = nI 0 from rfl) (by omega) (by omega)).mp c_1
    exfalso; omega
  · have c_1 := (not_congr (br_lt rfl (show (0 : Int32) = nI 0 from rfl) (by omega) (by omega))).mp c_1
    refine lv_iload_n hx hb dX7_loansWith_4 rfl (lv_at hl 1 rfl) ?_
    refine lv_iconst (v := 5) hx hb dX7_loansWith_5 (by decide) ?_
    refine lv_icmp_le (tgt := 19) hx hb dX7_loansWith_6 (by decide) (fun c_2 => ?_) (fun c_2 => ?_)
    · have c_2 := (br_le rfl (nx_c 5) (by omega) (by omega)).mp c_2
      refine lv_aload_n hx hb dX7_loansWith_19 rfl (lv_at hl 0 rfl) ?_
      refine fg_X7_71 hC hM (bq_at h_b) rfl dX7_loansWith_20 ?_
      refine lv_iload_n hx hb dX7_loansWith_23 rfl (lv_at hl 1 rfl) ?_
      refine me_callVi (As := [.int (nI x)]) (rest := []) hC hl.1 hM (c_X5_countLoans l D tb X z0 n (bo + 722) g (bq tb bo G F sf inp out M0) L (nI x) hL hL0) (kv_X7_138 hw rfl rfl ⟨Nat.le_of_ble_eq_true rfl, Nat.le_of_ble_eq_true rfl⟩) rfl rfl (sp_st _ _ _ _) rfl (Nat.le_of_ble_eq_true rfl) dX7_loansWith_24 ⟨Nat.le_of_ble_eq_true rfl, Nat.le_of_ble_eq_true rfl⟩ (fun H locs hM => ?_)
      exact me_iret hC hr hlk hM (by first | rfl | simp [c_1, c_2]) (rfl) (rfl) dX7_loansWith_27
    · have c_2 := (not_congr (br_le rfl (nx_c 5) (by omega) (by omega))).mp c_2
      exfalso; omega
set_option maxHeartbeats 4000000 in
theorem c_X7_loansWith_x1 (l : Launch) (D : va_G) (tb : Nat → ClassId) (X : State → Prop) (z0 n : Nat) (bo : Nat) (g : Nat → Int32) (G : Nat → Nat → Int32) (F sf inp out : Nat → Int32) (M0 : me_M) (S B L P : Nat) (x : Int32)  (hfl : l.stackTraces = false) (hXs : ∀ U, X U → me_xs z0 U) (hbad : x < 0 ∨ 5 < x) (hW : wf g S B L P) : vx_Met l yX7_loansWith (.code yX7_loansWith cX7_loansWith 2 (some .int) :: ws_all) ({ frames := 6, cells := 1, slots := 6, locals := 90 } : Room) (me_Pc [.ref bo, .int x] D tb X z0 (sp tb (bo + 722) g (bq tb bo G F sf inp out M0)) n) me_no (me_XC D z0 (sp tb (bo + 722) g (bq tb bo G F sf inp out M0)) "java/lang/IllegalArgumentException") 1 6 (me_A z0) := by
  refine me_openX (by decide) (Nat.le_of_ble_eq_true rfl) ?_
  intro p e s m args below meth c ls hC ht hlk hM hl
  have hl : lv_has ls 2 [(0, .ref bo), (1, .int x)] := hl
  have hx := hC.1
  have hb := hC.2.1
  have hw := hC.2.2.2.2.1
  obtain ⟨hS, hS0, hB, hB0, hL, hL0, hP, hP0, hwb, hwl⟩ := id hW
  refine lv_iload_n hx hb dX7_loansWith_0 rfl (lv_at hl 1 rfl) ?_
  refine lv_if_lt (tgt := 9) hx hb dX7_loansWith_1 (by decide) (fun c_1 => ?_) (fun c_1 => ?_)
  · have c_1q := Int32.not_le.mpr c_1
    exact me_throw (ic := 103) hC hl.1 hM ht hlk (hXs s hC.2.2.2.2.2.1.2) hfl (by decide +kernel) xn_f w_722 w_23 xg_A xb_A xo_A (str_1279) dX7_loansWith_9 dX7_loansWith_12 dX7_loansWith_13 dX7_loansWith_15 dX7_loansWith_18 (Nat.le_of_ble_eq_true rfl) (Nat.le_of_ble_eq_true rfl) (Nat.le_of_ble_eq_true rfl) (Nat.le_of_ble_eq_true rfl) (Nat.le_of_ble_eq_true rfl) (Nat.le_of_ble_eq_true rfl)
  · have c_1q := Int32.not_lt.mp c_1
    refine lv_iload_n hx hb dX7_loansWith_4 rfl (lv_at hl 1 rfl) ?_
    refine lv_iconst (v := 5) hx hb dX7_loansWith_5 (by decide) ?_
    refine lv_icmp_le (tgt := 19) hx hb dX7_loansWith_6 (by decide) (fun c_2 => ?_) (fun c_2 => ?_)
    · have c_2q := c_2
      have c_2 := Int32.not_lt.mpr c_2
      refine lv_aload_n hx hb dX7_loansWith_19 rfl (lv_at hl 0 rfl) ?_
      refine fg_X7_71 hC hM (bq_at h_b) rfl dX7_loansWith_20 ?_
      refine lv_iload_n hx hb dX7_loansWith_23 rfl (lv_at hl 1 rfl) ?_
      refine me_callVi (As := [.int x]) (rest := []) hC hl.1 hM (c_X5_countLoans l D tb X z0 n (bo + 722) g (bq tb bo G F sf inp out M0) L x hL hL0) (kv_X7_138 hw rfl rfl ⟨Nat.le_of_ble_eq_true rfl, Nat.le_of_ble_eq_true rfl⟩) rfl rfl (sp_st _ _ _ _) rfl (Nat.le_of_ble_eq_true rfl) dX7_loansWith_24 ⟨Nat.le_of_ble_eq_true rfl, Nat.le_of_ble_eq_true rfl⟩ (fun H locs hM => ?_)
      exact hbad.elim (fun h => absurd h c_1) (fun h => absurd h c_2)
    · have c_2q := c_2
      have c_2 := Int32.not_le.mp c_2
      exact me_throw (ic := 103) hC hl.1 hM ht hlk (hXs s hC.2.2.2.2.2.1.2) hfl (by decide +kernel) xn_f w_722 w_23 xg_A xb_A xo_A (str_1279) dX7_loansWith_9 dX7_loansWith_12 dX7_loansWith_13 dX7_loansWith_15 dX7_loansWith_18 (Nat.le_of_ble_eq_true rfl) (Nat.le_of_ble_eq_true rfl) (Nat.le_of_ble_eq_true rfl) (Nat.le_of_ble_eq_true rfl) (Nat.le_of_ble_eq_true rfl) (Nat.le_of_ble_eq_true rfl)
set_option maxHeartbeats 4000000 in
theorem c_X7_ledgerDifference (l : Launch) (D : va_G) (tb : Nat → ClassId) (X : State → Prop) (z0 n : Nat) (bo : Nat) (g : Nat → Int32) (G : Nat → Nat → Int32) (F sf inp out : Nat → Int32) (M0 : me_M) (S B L P : Nat)  (hW : wf g S B L P) : Met l yX7_ledgerDifference (.code yX7_ledgerDifference cX7_ledgerDifference 2 (some .int) :: ws_all) ({ frames := 3, cells := 0, slots := 0, locals := 68 } : Room) (me_Pc [.ref bo] D tb X z0 (sp tb (bo + 722) g (bq tb bo G F sf inp out M0)) n) (me_Qi D z0 ((if acF g B L < 0 then -(acF g B L) else acF g B L) + nI (twF g L)) (sp tb (bo + 722) g (bq tb bo G F sf inp out M0)) n) 0 0 (me_A z0) := by
  refine me_open (by decide) (Nat.le_of_ble_eq_true rfl) ?_
  intro p e s m args below meth c ls hC hr hlk hnm hM hl
  have hl : lv_has ls 2 [(0, .ref bo)] := hl
  have hx := hC.1
  have hb := hC.2.1
  have hw := hC.2.2.2.2.1
  obtain ⟨hS, hS0, hB, hB0, hL, hL0, hP, hP0, hwb, hwl⟩ := id hW
  refine lv_aload_n hx hb dX7_ledgerDifference_0 rfl (lv_at hl 0 rfl) ?_
  refine fg_X7_71 hC hM (bq_at h_b) rfl dX7_ledgerDifference_1 ?_
  refine me_callVi (As := []) (rest := []) hC hl.1 hM (c_X5_accountsDifference l D tb X z0 n (bo + 722) g (bq tb bo G F sf inp out M0) S B L P  hW ) (kv_X7_252 hw rfl rfl ⟨Nat.le_of_ble_eq_true rfl, Nat.le_of_ble_eq_true rfl⟩) rfl rfl (sp_st _ _ _ _) rfl (Nat.le_of_ble_eq_true rfl) dX7_ledgerDifference_4 ⟨Nat.le_of_ble_eq_true rfl, Nat.le_of_ble_eq_true rfl⟩ (fun H locs hM => ?_)
  refine lv_istore_n (lv' := [(1, .int (acF g B L)), (0, .ref bo)]) hx hb dX7_ledgerDifference_7 rfl hl (by decide) rfl (fun ls hl => ?_)
  refine lv_iload_n hx hb dX7_ledgerDifference_8 rfl (lv_at hl 0 rfl) ?_
  refine lv_if_ge (tgt := 17) hx hb dX7_ledgerDifference_9 (by decide) (fun c_1 => ?_) (fun c_1 => ?_)
  · have c_1q := c_1
    have c_1 := Int32.not_lt.mpr c_1
    refine lv_iload_n hx hb dX7_ledgerDifference_17 rfl (lv_at hl 0 rfl) ?_
    refine lv_aload_n hx hb dX7_ledgerDifference_18 rfl (lv_at hl 1 rfl) ?_
    refine fg_X7_71 hC hM (bq_at h_b) rfl dX7_ledgerDifference_19 ?_
    refine me_callVi (As := []) (rest := [.int (acF g B L)]) hC hl.1 hM (c_X5_hoursHeldTwice l D tb X z0 n (bo + 722) g (bq tb bo G F sf inp out M0) S B L P  hW ) (kv_X7_255 hw rfl rfl ⟨Nat.le_of_ble_eq_true rfl, Nat.le_of_ble_eq_true rfl⟩) rfl rfl (sp_st _ _ _ _) rfl (Nat.le_of_ble_eq_true rfl) dX7_ledgerDifference_22 ⟨Nat.le_of_ble_eq_true rfl, Nat.le_of_ble_eq_true rfl⟩ (fun H locs hM => ?_)
    refine lv_iadd hx hb dX7_ledgerDifference_25 ?_
    exact me_iret hC hr hlk hM (by rw [if_neg c_1]) (rfl) (rfl) dX7_ledgerDifference_26
  · have c_1q := c_1
    have c_1 := Int32.not_le.mp c_1
    refine lv_iload_n hx hb dX7_ledgerDifference_12 rfl (lv_at hl 0 rfl) ?_
    refine lv_ineg hx hb dX7_ledgerDifference_13 ?_
    refine lv_goto (tgt := 18) hx hb dX7_ledgerDifference_14 (by decide) ?_
    refine lv_aload_n hx hb dX7_ledgerDifference_18 rfl (lv_at hl 1 rfl) ?_
    refine fg_X7_71 hC hM (bq_at h_b) rfl dX7_ledgerDifference_19 ?_
    refine me_callVi (As := []) (rest := [.int (-(acF g B L))]) hC hl.1 hM (c_X5_hoursHeldTwice l D tb X z0 n (bo + 722) g (bq tb bo G F sf inp out M0) S B L P  hW ) (kv_X7_255 hw rfl rfl ⟨Nat.le_of_ble_eq_true rfl, Nat.le_of_ble_eq_true rfl⟩) rfl rfl (sp_st _ _ _ _) rfl (Nat.le_of_ble_eq_true rfl) dX7_ledgerDifference_22 ⟨Nat.le_of_ble_eq_true rfl, Nat.le_of_ble_eq_true rfl⟩ (fun H locs hM => ?_)
    refine lv_iadd hx hb dX7_ledgerDifference_25 ?_
    exact me_iret hC hr hlk hM (by rw [if_pos c_1]) (rfl) (rfl) dX7_ledgerDifference_26
