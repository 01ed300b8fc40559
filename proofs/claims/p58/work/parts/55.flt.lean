set_option maxHeartbeats 4000000 in
theorem c_X7_meanNoise (l : Launch) (D : va_G) (tb : Nat → ClassId) (X : State → Prop) (z0 n : Nat) (bo : Nat) (g : Nat → Int32) (G : Nat → Nat → Int32) (F sf inp out : Nat → Int32) (M0 : me_M) (S B L P : Nat) (T : Nat) (s0 : Nat)  (hW : wf g S B L P) (hT : g 2 = nI T) (hT0 : T ≤ 10000) (hs9 : s0 < S) : Met l yX7_meanNoise (.code yX7_meanNoise cX7_meanNoise 2 (some .double) :: ws_all) ({ frames := 1, cells := 0, slots := 0, locals := 21 } : Room) (me_Pc [.ref bo, .int (nI s0)] D tb X z0 (sp tb (bo + 722) g (bq tb bo G F sf inp out M0)) n) (me_Qd D z0 (if T = 0 then FP.dconst0 else FP.ddiv (FP.i2d (g (9 + 10 * s0 + 2))) (FP.i2d (nI T))) (sp tb (bo + 722) g (bq tb bo G F sf inp out M0)) n) 0 0 (me_A z0) := by
  refine me_open (by decide) (Nat.le_of_ble_eq_true rfl) ?_
  intro p e s m args below meth c ls hC hr hlk hnm hM hl
  have hl : lv_has ls 2 [(0, .ref bo), (1, .int (nI s0))] := hl
  have hx := hC.1
  have hb := hC.2.1
  have hw := hC.2.2.2.2.1
  obtain ⟨hS, hS0, hB, hB0, hL, hL0, hP, hP0, hwb, hwl⟩ := id hW
  refine lv_aload_n hx hb dX7_meanNoise_0 rfl (lv_at hl 0 rfl) ?_
  refine lv_iload_n hx hb dX7_meanNoise_1 rfl (lv_at hl 1 rfl) ?_
  refine me_callVv (As := [.int (nI s0)]) (rest := []) hC hl.1 hM (c_X7_needStreet l D tb X z0 n bo g G F sf inp out M0 S B L P s0 hW (by omega)) (kv_X7_145 hw rfl rfl ⟨Nat.le_of_ble_eq_true rfl, Nat.le_of_ble_eq_true rfl⟩) rfl rfl (bq_at h_b) rfl (Nat.le_of_ble_eq_true rfl) dX7_meanNoise_2 ⟨Nat.le_of_ble_eq_true rfl, Nat.le_of_ble_eq_true rfl⟩ (fun H locs hM => ?_)
  refine lv_aload_n hx hb dX7_meanNoise_5 rfl (lv_at hl 0 rfl) ?_
  refine fg_X7_71 hC hM (bq_at h_b) rfl dX7_meanNoise_6 ?_
  refine fg_X7_114 hC hM (sp_st _ _ _ _) rfl dX7_meanNoise_9 ?_
  refine lv_if_ne (tgt := 17) hx hb dX7_meanNoise_12 (by decide) (fun c_1 => ?_) (fun c_1 => ?_)
  · have c_1 := (not_congr (br_eq hT (show (0 : Int32) = nI 0 from rfl) (by omega) (by omega))).mp c_1
    refine lv_aload_n hx hb dX7_meanNoise_17 rfl (lv_at hl 0 rfl) ?_
    refine fg_X7_71 hC hM (bq_at h_b) rfl dX7_meanNoise_18 ?_
    refine fg_X7_155 hC hM (sp_st _ _ _ _) rfl dX7_meanNoise_21 ?_
    refine lv_iload_n hx hb dX7_meanNoise_24 rfl (lv_at hl 1 rfl) ?_
    refine me_aald (k := s0) hC hM (sp_a1 _ _ _ _) (t0 := 6) rfl rfl (by omega) (by decide) (sp_arr_at (by omega)) dX7_meanNoise_25 ?_
    refine fg_X7_159 hC hM (sp_street _ _ _ _ (by omega)) rfl dX7_meanNoise_26 ?_
    refine lv_i2d hx hb dX7_meanNoise_29 ?_
    refine lv_aload_n hx hb dX7_meanNoise_30 rfl (lv_at hl 0 rfl) ?_
    refine fg_X7_71 hC hM (bq_at h_b) rfl dX7_meanNoise_31 ?_
    refine fg_X7_114 hC hM (sp_st _ _ _ _) rfl dX7_meanNoise_34 ?_
    refine me_evi (y := nI T) hT ?_
    refine lv_i2d hx hb dX7_meanNoise_37 ?_
    refine lv_ddiv hx hb dX7_meanNoise_38 (fp_mean (by omega) (by omega)) ?_
    exact me_dret hC hr hlk hM ((if_neg c_1).symm) (rfl) (rfl) dX7_meanNoise_39
  · have c_1 := (br_eq hT (show (0 : Int32) = nI 0 from rfl) (by omega) (by omega)).mp c_1
    refine lv_dconst0 hx hb dX7_meanNoise_15 ?_
    exact me_dret hC hr hlk hM ((if_pos c_1).symm) (rfl) (rfl) dX7_meanNoise_16
set_option maxHeartbeats 4000000 in
theorem c_X7_meanNoise_x1 (l : Launch) (D : va_G) (tb : Nat → ClassId) (X : State → Prop) (z0 n : Nat) (bo : Nat) (g : Nat → Int32) (G : Nat → Nat → Int32) (F sf inp out : Nat → Int32) (M0 : me_M) (S B L P : Nat) (x : Int32)  (hfl : l.stackTraces = false) (hXs : ∀ U, X U → me_xs z0 U) (hbad : x < 0 ∨ g 3 ≤ x) : vx_Met l yX7_meanNoise (.code yX7_meanNoise cX7_meanNoise 2 (some .double) :: ws_all) ({ frames := 7, cells := 1, slots := 6, locals := 111 } : Room) (me_Pc [.ref bo, .int x] D tb X z0 (sp tb (bo + 722) g (bq tb bo G F sf inp out M0)) n) me_no (me_XC D z0 (sp tb (bo + 722) g (bq tb bo G F sf inp out M0)) "java/lang/IndexOutOfBoundsException") 1 6 (me_A z0) := by
  refine me_openX (by decide) (Nat.le_of_ble_eq_true rfl) ?_
  intro p e s m args below meth c ls hC ht hlk hM hl
  have hl : lv_has ls 2 [(0, .ref bo), (1, .int x)] := hl
  have hx := hC.1
  have hb := hC.2.1
  have hw := hC.2.2.2.2.1
  refine lv_aload_n hx hb dX7_meanNoise_0 rfl (lv_at hl 0 rfl) ?_
  refine lv_iload_n hx hb dX7_meanNoise_1 rfl (lv_at hl 1 rfl) ?_
  exact me_xV (As := [.int x]) (rest := []) hC hl.1 hM (c_X7_needStreet_x l D tb X z0 n bo g G F sf inp out M0 S B L P x hfl hXs hbad) (kv_X7_145 hw rfl rfl ⟨Nat.le_of_ble_eq_true rfl, Nat.le_of_ble_eq_true rfl⟩) rfl rfl (bq_at h_b) rfl (Nat.le_of_ble_eq_true rfl) dX7_meanNoise_2 ⟨Nat.le_of_ble_eq_true rfl, Nat.le_of_ble_eq_true rfl⟩ ht hlk (Nat.le_of_ble_eq_true rfl) (Nat.le_of_ble_eq_true rfl)
set_option maxHeartbeats 4000000 in
theorem c_X7_lentShare (l : Launch) (D : va_G) (tb : Nat → ClassId) (X : State → Prop) (z0 n : Nat) (bo : Nat) (g : Nat → Int32) (G : Nat → Nat → Int32) (F sf inp out : Nat → Int32) (M0 : me_M) (S B L P : Nat)  (hW : wf g S B L P) : Met l yX7_lentShare (.code yX7_lentShare cX7_lentShare 1 (some .float) :: ws_all) ({ frames := 3, cells := 0, slots := 0, locals := 66 } : Room) (me_Pc [.ref bo] D tb X z0 (sp tb (bo + 722) g (bq tb bo G F sf inp out M0)) n) (me_Qf D z0 (FP.fdiv (FP.i2f (nI (leF g L))) 1111490560) (sp tb (bo + 722) g (bq tb bo G F sf inp out M0)) n) 0 0 (me_A z0) := by
  refine me_open (by decide) (Nat.le_of_ble_eq_true rfl) ?_
  intro p e s m args below meth c ls hC hr hlk hnm hM hl
  have hl : lv_has ls 1 [(0, .ref bo)] := hl
  have hx := hC.1
  have hb := hC.2.1
  have hw := hC.2.2.2.2.1
  obtain ⟨hS, hS0, hB, hB0, hL, hL0, hP, hP0, hwb, hwl⟩ := id hW
  refine lv_aload_n hx hb dX7_lentShare_0 rfl (lv_at hl 0 rfl) ?_
  refine fg_X7_71 hC hM (bq_at h_b) rfl dX7_lentShare_1 ?_
  refine me_callVi (As := []) (rest := []) hC hl.1 hM (c_X5_lentHours l D tb X z0 n (bo + 722) g (bq tb bo G F sf inp out M0) S B L P  hW ) (kv_X7_214 hw rfl rfl ⟨Nat.le_of_ble_eq_true rfl, Nat.le_of_ble_eq_true rfl⟩) rfl rfl (sp_st _ _ _ _) rfl (Nat.le_of_ble_eq_true rfl) dX7_lentShare_4 ⟨Nat.le_of_ble_eq_true rfl, Nat.le_of_ble_eq_true rfl⟩ (fun H locs hM => ?_)
  refine lv_i2f hx hb dX7_lentShare_7 ?_
  refine lv_ldcf hx hb hC.2.2.2.1 (hw _ w_1229) dX7_lentShare_8 ?_
  refine lv_fdiv hx hb dX7_lentShare_10 (fp_share (show co _ 48 0 < 49 from Nat.lt_succ_of_le (co_le _ 48 0))) ?_
  exact me_fret hC hr hlk hM (rfl) (rfl) (rfl) dX7_lentShare_11
