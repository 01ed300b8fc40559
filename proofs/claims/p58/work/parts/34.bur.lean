set_option maxHeartbeats 4000000 in
theorem c_X7_needStreet (l : Launch) (D : va_G) (tb : Nat → ClassId) (X : State → Prop) (z0 n : Nat) (bo : Nat) (g : Nat → Int32) (G : Nat → Nat → Int32) (F sf inp out : Nat → Int32) (M0 : me_M) (S B L P : Nat) (s0 : Nat)  (hW : wf g S B L P) (hs9 : s0 < S) : Met l yX7_needStreet (.code yX7_needStreet cX7_needStreet 2 none :: ws_all) ({ frames := 0, cells := 0, slots := 0, locals := 0 } : Room) (me_Pc [.ref bo, .int (nI s0)] D tb X z0 (sp tb (bo + 722) g (bq tb bo G F sf inp out M0)) n) (me_Qv D z0 (sp tb (bo + 722) g (bq tb bo G F sf inp out M0)) n) 0 0 (me_A z0) := by
  refine me_open (by decide) (Nat.le_of_ble_eq_true rfl) ?_
  intro p e s m args below meth c ls hC hr hlk hnm hM hl
  have hl : lv_has ls 2 [(0, .ref bo), (1, .int (nI s0))] := hl
  have hx := hC.1
  have hb := hC.2.1
  have hw := hC.2.2.2.2.1
  obtain ⟨hS, hS0, hB, hB0, hL, hL0, hP, hP0, hwb, hwl⟩ := id hW
  refine lv_iload_n hx hb dX7_needStreet_0 rfl (lv_at hl 1 rfl) ?_
  refine lv_if_lt (tgt := 15) hx hb dX7_needStreet_1 (by decide) (fun c_1 => ?_) (fun c_1 => ?_)
  · have c_1 := (br_lt rfl (show (0 : Int32) = nI 0 from rfl) (by omega) (by omega)).mp c_1
    exfalso; omega
  · have c_1 := (not_congr (br_lt rfl (show (0 : Int32) = nI 0 from rfl) (by omega) (by omega))).mp c_1
    refine lv_iload_n hx hb dX7_needStreet_4 rfl (lv_at hl 1 rfl) ?_
    refine lv_aload_n hx hb dX7_needStreet_5 rfl (lv_at hl 0 rfl) ?_
    refine fg_X7_71 hC hM (bq_at h_b) rfl dX7_needStreet_6 ?_
    refine fg_X7_127 hC hM (sp_st _ _ _ _) rfl dX7_needStreet_9 ?_
    refine lv_icmp_lt (tgt := 26) hx hb dX7_needStreet_12 (by decide) (fun c_2 => ?_) (fun c_2 => ?_)
    · have c_2 := (br_lt rfl hS (by omega) (by omega)).mp c_2
      exact me_vret hC hr hlk hM (rfl) (rfl) dX7_needStreet_26
    · have c_2 := (not_congr (br_lt rfl hS (by omega) (by omega))).mp c_2
      exfalso; omega
set_option maxHeartbeats 4000000 in
theorem c_X7_needBorrower (l : Launch) (D : va_G) (tb : Nat → ClassId) (X : State → Prop) (z0 n : Nat) (bo : Nat) (g : Nat → Int32) (G : Nat → Nat → Int32) (F sf inp out : Nat → Int32) (M0 : me_M) (S B L P : Nat) (b : Nat)  (hW : wf g S B L P) (hb9 : b < B) : Met l yX7_needBorrower (.code yX7_needBorrower cX7_needBorrower 2 none :: ws_all) ({ frames := 0, cells := 0, slots := 0, locals := 0 } : Room) (me_Pc [.ref bo, .int (nI b)] D tb X z0 (sp tb (bo + 722) g (bq tb bo G F sf inp out M0)) n) (me_Qv D z0 (sp tb (bo + 722) g (bq tb bo G F sf inp out M0)) n) 0 0 (me_A z0) := by
  refine me_open (by decide) (Nat.le_of_ble_eq_true rfl) ?_
  intro p e s m args below meth c ls hC hr hlk hnm hM hl
  have hl : lv_has ls 2 [(0, .ref bo), (1, .int (nI b))] := hl
  have hx := hC.1
  have hb := hC.2.1
  have hw := hC.2.2.2.2.1
  obtain ⟨hS, hS0, hB, hB0, hL, hL0, hP, hP0, hwb, hwl⟩ := id hW
  refine lv_iload_n hx hb dX7_needBorrower_0 rfl (lv_at hl 1 rfl) ?_
  refine lv_if_lt (tgt := 15) hx hb dX7_needBorrower_1 (by decide) (fun c_1 => ?_) (fun c_1 => ?_)
  · have c_1 := (br_lt rfl (show (0 : Int32) = nI 0 from rfl) (by omega) (by omega)).mp c_1
    exfalso; omega
  · have c_1 := (not_congr (br_lt rfl (show (0 : Int32) = nI 0 from rfl) (by omega) (by omega))).mp c_1
    refine lv_iload_n hx hb dX7_needBorrower_4 rfl (lv_at hl 1 rfl) ?_
    refine lv_aload_n hx hb dX7_needBorrower_5 rfl (lv_at hl 0 rfl) ?_
    refine fg_X7_71 hC hM (bq_at h_b) rfl dX7_needBorrower_6 ?_
    refine fg_X7_130 hC hM (sp_st _ _ _ _) rfl dX7_needBorrower_9 ?_
    refine lv_icmp_lt (tgt := 26) hx hb dX7_needBorrower_12 (by decide) (fun c_2 => ?_) (fun c_2 => ?_)
    · have c_2 := (br_lt rfl hB (by omega) (by omega)).mp c_2
      exact me_vret hC hr hlk hM (rfl) (rfl) dX7_needBorrower_26
    · have c_2 := (not_congr (br_lt rfl hB (by omega) (by omega))).mp c_2
      exfalso; omega
set_option maxHeartbeats 4000000 in
theorem c_X7_needLoan (l : Launch) (D : va_G) (tb : Nat → ClassId) (X : State → Prop) (z0 n : Nat) (bo : Nat) (g : Nat → Int32) (G : Nat → Nat → Int32) (F sf inp out : Nat → Int32) (M0 : me_M) (S B L P : Nat) (k : Nat)  (hW : wf g S B L P) (hk : k < L) : Met l yX7_needLoan (.code yX7_needLoan cX7_needLoan 2 none :: ws_all) ({ frames := 0, cells := 0, slots := 0, locals := 0 } : Room) (me_Pc [.ref bo, .int (nI k)] D tb X z0 (sp tb (bo + 722) g (bq tb bo G F sf inp out M0)) n) (me_Qv D z0 (sp tb (bo + 722) g (bq tb bo G F sf inp out M0)) n) 0 0 (me_A z0) := by
  refine me_open (by decide) (Nat.le_of_ble_eq_true rfl) ?_
  intro p e s m args below meth c ls hC hr hlk hnm hM hl
  have hl : lv_has ls 2 [(0, .ref bo), (1, .int (nI k))] := hl
  have hx := hC.1
  have hb := hC.2.1
  have hw := hC.2.2.2.2.1
  obtain ⟨hS, hS0, hB, hB0, hL, hL0, hP, hP0, hwb, hwl⟩ := id hW
  refine lv_iload_n hx hb dX7_needLoan_0 rfl (lv_at hl 1 rfl) ?_
  refine lv_if_lt (tgt := 15) hx hb dX7_needLoan_1 (by decide) (fun c_1 => ?_) (fun c_1 => ?_)
  · have c_1 := (br_lt rfl (show (0 : Int32) = nI 0 from rfl) (by omega) (by omega)).mp c_1
    exfalso; omega
  · have c_1 := (not_congr (br_lt rfl (show (0 : Int32) = nI 0 from rfl) (by omega) (by omega))).mp c_1
    refine lv_iload_n hx hb dX7_needLoan_4 rfl (lv_at hl 1 rfl) ?_
    refine lv_aload_n hx hb dX7_needLoan_5 rfl (lv_at hl 0 rfl) ?_
    refine fg_X7_71 hC hM (bq_at h_b) rfl dX7_needLoan_6 ?_
    refine fg_X7_111 hC hM (sp_st _ _ _ _) rfl dX7_needLoan_9 ?_
    refine lv_icmp_lt (tgt := 26) hx hb dX7_needLoan_12 (by decide) (fun c_2 => ?_) (fun c_2 => ?_)
    · have c_2 := (br_lt rfl hL (by omega) (by omega)).mp c_2
      exact me_vret hC hr hlk hM (rfl) (rfl) dX7_needLoan_26
    · have c_2 := (not_congr (br_lt rfl hL (by omega) (by omega))).mp c_2
      exfalso; omega
set_option maxHeartbeats 4000000 in
theorem c_X7_needHour (l : Launch) (D : va_G) (tb : Nat → ClassId) (X : State → Prop) (z0 n : Nat) (bo : Nat) (g : Nat → Int32) (G : Nat → Nat → Int32) (F sf inp out : Nat → Int32) (M0 : me_M) (S B L P : Nat) (h0 T : Nat)  (hW : wf g S B L P) (hT : g 2 = nI T) (hT0 : T ≤ 10000) (hh1 : T ≤ h0) (hh2 : h0 < T + 48) : Met l yX7_needHour (.code yX7_needHour cX7_needHour 2 none :: ws_all) ({ frames := 0, cells := 0, slots := 0, locals := 0 } : Room) (me_Pc [.ref bo, .int (nI h0)] D tb X z0 (sp tb (bo + 722) g (bq tb bo G F sf inp out M0)) n) (me_Qv D z0 (sp tb (bo + 722) g (bq tb bo G F sf inp out M0)) n) 0 0 (me_A z0) := by
  refine me_open (by decide) (Nat.le_of_ble_eq_true rfl) ?_
  intro p e s m args below meth c ls hC hr hlk hnm hM hl
  have hl : lv_has ls 2 [(0, .ref bo), (1, .int (nI h0))] := hl
  have hx := hC.1
  have hb := hC.2.1
  have hw := hC.2.2.2.2.1
  obtain ⟨hS, hS0, hB, hB0, hL, hL0, hP, hP0, hwb, hwl⟩ := id hW
  refine lv_iload_n hx hb dX7_needHour_0 rfl (lv_at hl 1 rfl) ?_
  refine lv_aload_n hx hb dX7_needHour_1 rfl (lv_at hl 0 rfl) ?_
  refine fg_X7_71 hC hM (bq_at h_b) rfl dX7_needHour_2 ?_
  refine fg_X7_114 hC hM (sp_st _ _ _ _) rfl dX7_needHour_5 ?_
  refine lv_icmp_lt (tgt := 25) hx hb dX7_needHour_8 (by decide) (fun c_1 => ?_) (fun c_1 => ?_)
  · have c_1 := (br_lt rfl hT (by omega) (by omega)).mp c_1
    exfalso; omega
  · have c_1 := (not_congr (br_lt rfl hT (by omega) (by omega))).mp c_1
    refine lv_iload_n hx hb dX7_needHour_11 rfl (lv_at hl 1 rfl) ?_
    refine lv_aload_n hx hb dX7_needHour_12 rfl (lv_at hl 0 rfl) ?_
    refine fg_X7_71 hC hM (bq_at h_b) rfl dX7_needHour_13 ?_
    refine fg_X7_114 hC hM (sp_st _ _ _ _) rfl dX7_needHour_16 ?_
    refine lv_bipush (v := 48) hx hb dX7_needHour_19 (by decide) ?_
    refine lv_iadd hx hb dX7_needHour_21 ?_
    refine lv_icmp_lt (tgt := 36) hx hb dX7_needHour_22 (by decide) (fun c_2 => ?_) (fun c_2 => ?_)
    · have c_2 := (br_lt rfl (nx_add hT (nx_c 48)) (by omega) (by omega)).mp c_2
      exact me_vret hC hr hlk hM (rfl) (rfl) dX7_needHour_36
    · have c_2 := (not_congr (br_lt rfl (nx_add hT (nx_c 48)) (by omega) (by omega))).mp c_2
      exfalso; omega
set_option maxHeartbeats 4000000 in
theorem c_X7_needLength (l : Launch) (D : va_G) (tb : Nat → ClassId) (X : State → Prop) (z0 n : Nat) (bo : Nat) (g : Nat → Int32) (G : Nat → Nat → Int32) (F sf inp out : Nat → Int32) (M0 : me_M) (S B L P : Nat) (n9 mo : Nat)  (hW : wf g S B L P) (h1 : 1 ≤ n9) (h2 : n9 ≤ mo) (h3 : mo ≤ 100) : Met l yX7_needLength (.code yX7_needLength cX7_needLength 2 none :: ws_all) ({ frames := 0, cells := 0, slots := 0, locals := 0 } : Room) (me_Pc [.int (nI n9), .int (nI mo)] D tb X z0 (sp tb (bo + 722) g (bq tb bo G F sf inp out M0)) n) (me_Qv D z0 (sp tb (bo + 722) g (bq tb bo G F sf inp out M0)) n) 0 0 (me_A z0) := by
  refine me_open (by decide) (Nat.le_of_ble_eq_true rfl) ?_
  intro p e s m args below meth c ls hC hr hlk hnm hM hl
  have hl : lv_has ls 2 [(0, .int (nI n9)), (1, .int (nI mo))] := hl
  have hx := hC.1
  have hb := hC.2.1
  have hw := hC.2.2.2.2.1
  obtain ⟨hS, hS0, hB, hB0, hL, hL0, hP, hP0, hwb, hwl⟩ := id hW
  refine lv_iload_n hx hb dX7_needLength_0 rfl (lv_at hl 0 rfl) ?_
  refine lv_iconst (v := 1) hx hb dX7_needLength_1 (by decide) ?_
  refine lv_icmp_lt (tgt := 10) hx hb dX7_needLength_2 (by decide) (fun c_1 => ?_) (fun c_1 => ?_)
  · have c_1 := (br_lt rfl (show (1 : Int32) = nI 1 from rfl) (by omega) (by omega)).mp c_1
    exfalso; omega
  · have c_1 := (not_congr (br_lt rfl (show (1 : Int32) = nI 1 from rfl) (by omega) (by omega))).mp c_1
    refine lv_iload_n hx hb dX7_needLength_5 rfl (lv_at hl 0 rfl) ?_
    refine lv_iload_n hx hb dX7_needLength_6 rfl (lv_at hl 1 rfl) ?_
    refine lv_icmp_le (tgt := 20) hx hb dX7_needLength_7 (by decide) (fun c_2 => ?_) (fun c_2 => ?_)
    · have c_2 := (br_le rfl rfl (by omega) (by omega)).mp c_2
      exact me_vret hC hr hlk hM (rfl) (rfl) dX7_needLength_20
    · have c_2 := (not_congr (br_le rfl rfl (by omega) (by omega))).mp c_2
      exfalso; omega
set_option maxHeartbeats 4000000 in
theorem c_X7_needSlot (l : Launch) (D : va_G) (tb : Nat → ClassId) (X : State → Prop) (z0 n : Nat) (bo : Nat) (g : Nat → Int32) (G : Nat → Nat → Int32) (F sf inp out : Nat → Int32) (M0 : me_M) (S B L P : Nat) (k : Nat)  (hW : wf g S B L P) (hk : k < 2) : Met l yX7_needSlot (.code yX7_needSlot cX7_needSlot 1 none :: ws_all) ({ frames := 0, cells := 0, slots := 0, locals := 0 } : Room) (me_Pc [.int (nI k)] D tb X z0 (sp tb (bo + 722) g (bq tb bo G F sf inp out M0)) n) (me_Qv D z0 (sp tb (bo + 722) g (bq tb bo G F sf inp out M0)) n) 0 0 (me_A z0) := by
  refine me_open (by decide) (Nat.le_of_ble_eq_true rfl) ?_
  intro p e s m args below meth c ls hC hr hlk hnm hM hl
  have hl : lv_has ls 1 [(0, .int (nI k))] := hl
  have hx := hC.1
  have hb := hC.2.1
  have hw := hC.2.2.2.2.1
  obtain ⟨hS, hS0, hB, hB0, hL, hL0, hP, hP0, hwb, hwl⟩ := id hW
  refine lv_iload_n hx hb dX7_needSlot_0 rfl (lv_at hl 0 rfl) ?_
  refine lv_if_lt (tgt := 9) hx hb dX7_needSlot_1 (by decide) (fun c_1 => ?_) (fun c_1 => ?_)
  · have c_1 := (br_lt rfl (show (0 : Int32) = nI 0 from rfl) (by omega) (by omega)).mp c_1
    exfalso; omega
  · have c_1 := (not_congr (br_lt rfl (show (0 : Int32) = nI 0 from rfl) (by omega) (by omega))).mp c_1
    refine lv_iload_n hx hb dX7_needSlot_4 rfl (lv_at hl 0 rfl) ?_
    refine lv_iconst (v := 2) hx hb dX7_needSlot_5 (by decide) ?_
    refine lv_icmp_lt (tgt := 20) hx hb dX7_needSlot_6 (by decide) (fun c_2 => ?_) (fun c_2 => ?_)
    · have c_2 := (br_lt rfl (nx_c 2) (by omega) (by omega)).mp c_2
      exact me_vret hC hr hlk hM (rfl) (rfl) dX7_needSlot_20
    · have c_2 := (not_congr (br_lt rfl (nx_c 2) (by omega) (by omega))).mp c_2
      exfalso; omega
set_option maxHeartbeats 4000000 in
theorem c_X7_needSpan (l : Launch) (D : va_G) (tb : Nat → ClassId) (X : State → Prop) (z0 n : Nat) (bo : Nat) (g : Nat → Int32) (G : Nat → Nat → Int32) (F sf inp out : Nat → Int32) (M0 : me_M) (S B L P : Nat) (s0 n9 mo T : Nat)  (hW : wf g S B L P) (hT : g 2 = nI T) (hT0 : T ≤ 10000) (h1 : 1 ≤ n9) (h2 : n9 ≤ mo) (h3 : mo ≤ 48) (h4 : T ≤ s0) (h5 : s0 + n9 ≤ T + 48) : Met l yX7_needSpan (.code yX7_needSpan cX7_needSpan 4 none :: ws_all) ({ frames := 1, cells := 0, slots := 0, locals := 21 } : Room) (me_Pc [.ref bo, .int (nI s0), .int (nI n9), .int (nI mo)] D tb X z0 (sp tb (bo + 722) g (bq tb bo G F sf inp out M0)) n) (me_Qv D z0 (sp tb (bo + 722) g (bq tb bo G F sf inp out M0)) n) 0 0 (me_A z0) := by
  refine me_open (by decide) (Nat.le_of_ble_eq_true rfl) ?_
  intro p e s m args below meth c ls hC hr hlk hnm hM hl
  have hl : lv_has ls 4 [(0, .ref bo), (1, .int (nI s0)), (2, .int (nI n9)), (3, .int (nI mo))] := hl
  have hx := hC.1
  have hb := hC.2.1
  have hw := hC.2.2.2.2.1
  obtain ⟨hS, hS0, hB, hB0, hL, hL0, hP, hP0, hwb, hwl⟩ := id hW
  refine lv_iload_n hx hb dX7_needSpan_0 rfl (lv_at hl 2 rfl) ?_
  refine lv_iload_n hx hb dX7_needSpan_1 rfl (lv_at hl 3 rfl) ?_
  refine me_callSv (As := [.int (nI n9), .int (nI mo)]) (rest := []) hC hl.1 hM (c_X7_needLength l D tb X z0 n bo g G F sf inp out M0 S B L P n9 mo hW (by omega) (by omega) (by omega)) (ks_X7_217 hw rfl rfl ⟨Nat.le_of_ble_eq_true rfl, Nat.le_of_ble_eq_true rfl⟩) rfl rfl (Nat.le_of_ble_eq_true rfl) dX7_needSpan_2 ⟨Nat.le_of_ble_eq_true rfl, Nat.le_of_ble_eq_true rfl⟩ (fun H locs hM => ?_)
  refine lv_iload_n hx hb dX7_needSpan_5 rfl (lv_at hl 1 rfl) ?_
  refine lv_aload_n hx hb dX7_needSpan_6 rfl (lv_at hl 0 rfl) ?_
  refine fg_X7_71 hC hM (bq_at h_b) rfl dX7_needSpan_7 ?_
  refine fg_X7_114 hC hM (sp_st _ _ _ _) rfl dX7_needSpan_10 ?_
  refine lv_icmp_lt (tgt := 32) hx hb dX7_needSpan_13 (by decide) (fun c_1 => ?_) (fun c_1 => ?_)
  · have c_1 := (br_lt rfl hT (by omega) (by omega)).mp c_1
    exfalso; omega
  · have c_1 := (not_congr (br_lt rfl hT (by omega) (by omega))).mp c_1
    refine lv_iload_n hx hb dX7_needSpan_16 rfl (lv_at hl 1 rfl) ?_
    refine lv_aload_n hx hb dX7_needSpan_17 rfl (lv_at hl 0 rfl) ?_
    refine fg_X7_71 hC hM (bq_at h_b) rfl dX7_needSpan_18 ?_
    refine fg_X7_114 hC hM (sp_st _ _ _ _) rfl dX7_needSpan_21 ?_
    refine lv_bipush (v := 48) hx hb dX7_needSpan_24 (by decide) ?_
    refine lv_iadd hx hb dX7_needSpan_26 ?_
    refine lv_iload_n hx hb dX7_needSpan_27 rfl (lv_at hl 2 rfl) ?_
    refine lv_isub hx hb dX7_needSpan_28 ?_
    refine lv_icmp_le (tgt := 43) hx hb dX7_needSpan_29 (by decide) (fun c_2 => ?_) (fun c_2 => ?_)
    · have c_2 := (br_le rfl (nx_sub (nx_add hT (nx_c 48)) rfl (by omega)) (by omega) (by omega)).mp c_2
      exact me_vret hC hr hlk hM (rfl) (rfl) dX7_needSpan_43
    · have c_2 := (not_congr (br_le rfl (nx_sub (nx_add hT (nx_c 48)) rfl (by omega)) (by omega) (by omega))).mp c_2
      exfalso; omega
set_option maxHeartbeats 4000000 in
theorem c_X7_needStreet_x (l : Launch) (D : va_G) (tb : Nat → ClassId) (X : State → Prop) (z0 n : Nat) (bo : Nat) (g : Nat → Int32) (G : Nat → Nat → Int32) (F sf inp out : Nat → Int32) (M0 : me_M) (S B L P : Nat) (x : Int32)  (hfl : l.stackTraces = false) (hXs : ∀ U, X U → me_xs z0 U) (hbad : x < 0 ∨ g 3 ≤ x) : vx_Met l yX7_needStreet (.code yX7_needStreet cX7_needStreet 2 none :: ws_all) ({ frames := 6, cells := 1, slots := 6, locals := 90 } : Room) (me_Pc [.ref bo, .int x] D tb X z0 (sp tb (bo + 722) g (bq tb bo G F sf inp out M0)) n) me_no (me_XC D z0 (sp tb (bo + 722) g (bq tb bo G F sf inp out M0)) "java/lang/IndexOutOfBoundsException") 1 6 (me_A z0) := by
  refine me_openX (by decide) (Nat.le_of_ble_eq_true rfl) ?_
  intro p e s m args below meth c ls hC ht hlk hM hl
  have hl : lv_has ls 2 [(0, .ref bo), (1, .int x)] := hl
  have hx := hC.1
  have hb := hC.2.1
  have hw := hC.2.2.2.2.1
  refine lv_iload_n hx hb dX7_needStreet_0 rfl (lv_at hl 1 rfl) ?_
  refine lv_if_lt (tgt := 15) hx hb dX7_needStreet_1 (by decide) (fun c_1 => ?_) (fun c_1 => ?_)
  · have c_1q := Int32.not_le.mpr c_1
    exact me_throwW (ic := 89) hC hl.1 hM ht hlk (hXs s hC.2.2.2.2.2.1.2) hfl (by decide +kernel) xn_f w_577 w_25 xg_I xb_I xo_I (str_816) dX7_needStreet_15 dX7_needStreet_18 dX7_needStreet_19 dX7_needStreet_22 dX7_needStreet_25 (Nat.le_of_ble_eq_true rfl) (Nat.le_of_ble_eq_true rfl) (Nat.le_of_ble_eq_true rfl) (Nat.le_of_ble_eq_true rfl) (Nat.le_of_ble_eq_true rfl) (Nat.le_of_ble_eq_true rfl)
  · have c_1q := Int32.not_lt.mp c_1
    refine lv_iload_n hx hb dX7_needStreet_4 rfl (lv_at hl 1 rfl) ?_
    refine lv_aload_n hx hb dX7_needStreet_5 rfl (lv_at hl 0 rfl) ?_
    refine fg_X7_71 hC hM (bq_at h_b) rfl dX7_needStreet_6 ?_
    refine fg_X7_127 hC hM (sp_st _ _ _ _) rfl dX7_needStreet_9 ?_
    refine lv_icmp_lt (tgt := 26) hx hb dX7_needStreet_12 (by decide) (fun c_2 => ?_) (fun c_2 => ?_)
    · have c_2q := Int32.not_le.mpr c_2
      exact hbad.elim (fun h => absurd h c_1) (fun h => absurd c_2 (Int32.not_lt.mpr h))
    · have c_2q := Int32.not_lt.mp c_2
      exact me_throwW (ic := 89) hC hl.1 hM ht hlk (hXs s hC.2.2.2.2.2.1.2) hfl (by decide +kernel) xn_f w_577 w_25 xg_I xb_I xo_I (str_816) dX7_needStreet_15 dX7_needStreet_18 dX7_needStreet_19 dX7_needStreet_22 dX7_needStreet_25 (Nat.le_of_ble_eq_true rfl) (Nat.le_of_ble_eq_true rfl) (Nat.le_of_ble_eq_true rfl) (Nat.le_of_ble_eq_true rfl) (Nat.le_of_ble_eq_true rfl) (Nat.le_of_ble_eq_true rfl)
set_option maxHeartbeats 4000000 in
theorem c_X7_needBorrower_x (l : Launch) (D : va_G) (tb : Nat → ClassId) (X : State → Prop) (z0 n : Nat) (bo : Nat) (g : Nat → Int32) (G : Nat → Nat → Int32) (F sf inp out : Nat → Int32) (M0 : me_M) (S B L P : Nat) (x : Int32)  (hfl : l.stackTraces = false) (hXs : ∀ U, X U → me_xs z0 U) (hbad : x < 0 ∨ g 4 ≤ x) : vx_Met l yX7_needBorrower (.code yX7_needBorrower cX7_needBorrower 2 none :: ws_all) ({ frames := 6, cells := 1, slots := 6, locals := 90 } : Room) (me_Pc [.ref bo, .int x] D tb X z0 (sp tb (bo + 722) g (bq tb bo G F sf inp out M0)) n) me_no (me_XC D z0 (sp tb (bo + 722) g (bq tb bo G F sf inp out M0)) "java/lang/IndexOutOfBoundsException") 1 6 (me_A z0) := by
  refine me_openX (by decide) (Nat.le_of_ble_eq_true rfl) ?_
  intro p e s m args below meth c ls hC ht hlk hM hl
  have hl : lv_has ls 2 [(0, .ref bo), (1, .int x)] := hl
  have hx := hC.1
  have hb := hC.2.1
  have hw := hC.2.2.2.2.1
  refine lv_iload_n hx hb dX7_needBorrower_0 rfl (lv_at hl 1 rfl) ?_
  refine lv_if_lt (tgt := 15) hx hb dX7_needBorrower_1 (by decide) (fun c_1 => ?_) (fun c_1 => ?_)
  · have c_1q := Int32.not_le.mpr c_1
    exact me_throwW (ic := 89) hC hl.1 hM ht hlk (hXs s hC.2.2.2.2.2.1.2) hfl (by decide +kernel) xn_f w_577 w_25 xg_I xb_I xo_I (str_767) dX7_needBorrower_15 dX7_needBorrower_18 dX7_needBorrower_19 dX7_needBorrower_22 dX7_needBorrower_25 (Nat.le_of_ble_eq_true rfl) (Nat.le_of_ble_eq_true rfl) (Nat.le_of_ble_eq_true rfl) (Nat.le_of_ble_eq_true rfl) (Nat.le_of_ble_eq_true rfl) (Nat.le_of_ble_eq_true rfl)
  · have c_1q := Int32.not_lt.mp c_1
    refine lv_iload_n hx hb dX7_needBorrower_4 rfl (lv_at hl 1 rfl) ?_
    refine lv_aload_n hx hb dX7_needBorrower_5 rfl (lv_at hl 0 rfl) ?_
    refine fg_X7_71 hC hM (bq_at h_b) rfl dX7_needBorrower_6 ?_
    refine fg_X7_130 hC hM (sp_st _ _ _ _) rfl dX7_needBorrower_9 ?_
    refine lv_icmp_lt (tgt := 26) hx hb dX7_needBorrower_12 (by decide) (fun c_2 => ?_) (fun c_2 => ?_)
    · have c_2q := Int32.not_le.mpr c_2
      exact hbad.elim (fun h => absurd h c_1) (fun h => absurd c_2 (Int32.not_lt.mpr h))
    · have c_2q := Int32.not_lt.mp c_2
      exact me_throwW (ic := 89) hC hl.1 hM ht hlk (hXs s hC.2.2.2.2.2.1.2) hfl (by decide +kernel) xn_f w_577 w_25 xg_I xb_I xo_I (str_767) dX7_needBorrower_15 dX7_needBorrower_18 dX7_needBorrower_19 dX7_needBorrower_22 dX7_needBorrower_25 (Nat.le_of_ble_eq_true rfl) (Nat.le_of_ble_eq_true rfl) (Nat.le_of_ble_eq_true rfl) (Nat.le_of_ble_eq_true rfl) (Nat.le_of_ble_eq_true rfl) (Nat.le_of_ble_eq_true rfl)
set_option maxHeartbeats 4000000 in
theorem c_X7_needLoan_x (l : Launch) (D : va_G) (tb : Nat → ClassId) (X : State → Prop) (z0 n : Nat) (bo : Nat) (g : Nat → Int32) (G : Nat → Nat → Int32) (F sf inp out : Nat → Int32) (M0 : me_M) (S B L P : Nat) (x : Int32)  (hfl : l.stackTraces = false) (hXs : ∀ U, X U → me_xs z0 U) (hbad : x < 0 ∨ g 6 ≤ x) : vx_Met l yX7_needLoan (.code yX7_needLoan cX7_needLoan 2 none :: ws_all) ({ frames := 6, cells := 1, slots := 6, locals := 90 } : Room) (me_Pc [.ref bo, .int x] D tb X z0 (sp tb (bo + 722) g (bq tb bo G F sf inp out M0)) n) me_no (me_XC D z0 (sp tb (bo + 722) g (bq tb bo G F sf inp out M0)) "java/lang/IndexOutOfBoundsException") 1 6 (me_A z0) := by
  refine me_openX (by decide) (Nat.le_of_ble_eq_true rfl) ?_
  intro p e s m args below meth c ls hC ht hlk hM hl
  have hl : lv_has ls 2 [(0, .ref bo), (1, .int x)] := hl
  have hx := hC.1
  have hb := hC.2.1
  have hw := hC.2.2.2.2.1
  refine lv_iload_n hx hb dX7_needLoan_0 rfl (lv_at hl 1 rfl) ?_
  refine lv_if_lt (tgt := 15) hx hb dX7_needLoan_1 (by decide) (fun c_1 => ?_) (fun c_1 => ?_)
  · have c_1q := Int32.not_le.mpr c_1
    exact me_throwW (ic := 89) hC hl.1 hM ht hlk (hXs s hC.2.2.2.2.2.1.2) hfl (by decide +kernel) xn_f w_577 w_25 xg_I xb_I xo_I (str_790) dX7_needLoan_15 dX7_needLoan_18 dX7_needLoan_19 dX7_needLoan_22 dX7_needLoan_25 (Nat.le_of_ble_eq_true rfl) (Nat.le_of_ble_eq_true rfl) (Nat.le_of_ble_eq_true rfl) (Nat.le_of_ble_eq_true rfl) (Nat.le_of_ble_eq_true rfl) (Nat.le_of_ble_eq_true rfl)
  · have c_1q := Int32.not_lt.mp c_1
    refine lv_iload_n hx hb dX7_needLoan_4 rfl (lv_at hl 1 rfl) ?_
    refine lv_aload_n hx hb dX7_needLoan_5 rfl (lv_at hl 0 rfl) ?_
    refine fg_X7_71 hC hM (bq_at h_b) rfl dX7_needLoan_6 ?_
    refine fg_X7_111 hC hM (sp_st _ _ _ _) rfl dX7_needLoan_9 ?_
    refine lv_icmp_lt (tgt := 26) hx hb dX7_needLoan_12 (by decide) (fun c_2 => ?_) (fun c_2 => ?_)
    · have c_2q := Int32.not_le.mpr c_2
      exact hbad.elim (fun h => absurd h c_1) (fun h => absurd c_2 (Int32.not_lt.mpr h))
    · have c_2q := Int32.not_lt.mp c_2
      exact me_throwW (ic := 89) hC hl.1 hM ht hlk (hXs s hC.2.2.2.2.2.1.2) hfl (by decide +kernel) xn_f w_577 w_25 xg_I xb_I xo_I (str_790) dX7_needLoan_15 dX7_needLoan_18 dX7_needLoan_19 dX7_needLoan_22 dX7_needLoan_25 (Nat.le_of_ble_eq_true rfl) (Nat.le_of_ble_eq_true rfl) (Nat.le_of_ble_eq_true rfl) (Nat.le_of_ble_eq_true rfl) (Nat.le_of_ble_eq_true rfl) (Nat.le_of_ble_eq_true rfl)
set_option maxHeartbeats 4000000 in
theorem c_X7_needSlot_x (l : Launch) (D : va_G) (tb : Nat → ClassId) (X : State → Prop) (z0 n : Nat) (bo : Nat) (g : Nat → Int32) (G : Nat → Nat → Int32) (F sf inp out : Nat → Int32) (M0 : me_M) (S B L P : Nat) (x : Int32)  (hfl : l.stackTraces = false) (hXs : ∀ U, X U → me_xs z0 U) (hbad : x < 0 ∨ 2 ≤ x) : vx_Met l yX7_needSlot (.code yX7_needSlot cX7_needSlot 1 none :: ws_all) ({ frames := 6, cells := 1, slots := 6, locals := 90 } : Room) (me_Pc [.int x] D tb X z0 (sp tb (bo + 722) g (bq tb bo G F sf inp out M0)) n) me_no (me_XC D z0 (sp tb (bo + 722) g (bq tb bo G F sf inp out M0)) "java/lang/IndexOutOfBoundsException") 1 6 (me_A z0) := by
  refine me_openX (by decide) (Nat.le_of_ble_eq_true rfl) ?_
  intro p e s m args below meth c ls hC ht hlk hM hl
  have hl : lv_has ls 1 [(0, .int x)] := hl
  have hx := hC.1
  have hb := hC.2.1
  have hw := hC.2.2.2.2.1
  refine lv_iload_n hx hb dX7_needSlot_0 rfl (lv_at hl 0 rfl) ?_
  refine lv_if_lt (tgt := 9) hx hb dX7_needSlot_1 (by decide) (fun c_1 => ?_) (fun c_1 => ?_)
  · have c_1q := Int32.not_le.mpr c_1
    exact me_throwW (ic := 89) hC hl.1 hM ht hlk (hXs s hC.2.2.2.2.2.1.2) hfl (by decide +kernel) xn_f w_577 w_25 xg_I xb_I xo_I (str_618) dX7_needSlot_9 dX7_needSlot_12 dX7_needSlot_13 dX7_needSlot_16 dX7_needSlot_19 (Nat.le_of_ble_eq_true rfl) (Nat.le_of_ble_eq_true rfl) (Nat.le_of_ble_eq_true rfl) (Nat.le_of_ble_eq_true rfl) (Nat.le_of_ble_eq_true rfl) (Nat.le_of_ble_eq_true rfl)
  · have c_1q := Int32.not_lt.mp c_1
    refine lv_iload_n hx hb dX7_needSlot_4 rfl (lv_at hl 0 rfl) ?_
    refine lv_iconst (v := 2) hx hb dX7_needSlot_5 (by decide) ?_
    refine lv_icmp_lt (tgt := 20) hx hb dX7_needSlot_6 (by decide) (fun c_2 => ?_) (fun c_2 => ?_)
    · have c_2q := Int32.not_le.mpr c_2
      exact hbad.elim (fun h => absurd h c_1) (fun h => absurd c_2 (Int32.not_lt.mpr h))
    · have c_2q := Int32.not_lt.mp c_2
      exact me_throwW (ic := 89) hC hl.1 hM ht hlk (hXs s hC.2.2.2.2.2.1.2) hfl (by decide +kernel) xn_f w_577 w_25 xg_I xb_I xo_I (str_618) dX7_needSlot_9 dX7_needSlot_12 dX7_needSlot_13 dX7_needSlot_16 dX7_needSlot_19 (Nat.le_of_ble_eq_true rfl) (Nat.le_of_ble_eq_true rfl) (Nat.le_of_ble_eq_true rfl) (Nat.le_of_ble_eq_true rfl) (Nat.le_of_ble_eq_true rfl) (Nat.le_of_ble_eq_true rfl)
set_option maxHeartbeats 4000000 in
theorem c_X7_needHour_x (l : Launch) (D : va_G) (tb : Nat → ClassId) (X : State → Prop) (z0 n : Nat) (bo : Nat) (g : Nat → Int32) (G : Nat → Nat → Int32) (F sf inp out : Nat → Int32) (M0 : me_M) (S B L P : Nat) (x : Int32)  (hfl : l.stackTraces = false) (hXs : ∀ U, X U → me_xs z0 U) (hbad : x < g 2 ∨ g 2 + 48 ≤ x) : vx_Met l yX7_needHour (.code yX7_needHour cX7_needHour 2 none :: ws_all) ({ frames := 6, cells := 1, slots := 6, locals := 90 } : Room) (me_Pc [.ref bo, .int x] D tb X z0 (sp tb (bo + 722) g (bq tb bo G F sf inp out M0)) n) me_no (me_XC D z0 (sp tb (bo + 722) g (bq tb bo G F sf inp out M0)) "java/lang/IllegalArgumentException") 1 6 (me_A z0) := by
  refine me_openX (by decide) (Nat.le_of_ble_eq_true rfl) ?_
  intro p e s m args below meth c ls hC ht hlk hM hl
  have hl : lv_has ls 2 [(0, .ref bo), (1, .int x)] := hl
  have hx := hC.1
  have hb := hC.2.1
  have hw := hC.2.2.2.2.1
  refine lv_iload_n hx hb dX7_needHour_0 rfl (lv_at hl 1 rfl) ?_
  refine lv_aload_n hx hb dX7_needHour_1 rfl (lv_at hl 0 rfl) ?_
  refine fg_X7_71 hC hM (bq_at h_b) rfl dX7_needHour_2 ?_
  refine fg_X7_114 hC hM (sp_st _ _ _ _) rfl dX7_needHour_5 ?_
  refine lv_icmp_lt (tgt := 25) hx hb dX7_needHour_8 (by decide) (fun c_1 => ?_) (fun c_1 => ?_)
  · have c_1q := Int32.not_le.mpr c_1
    exact me_throwW (ic := 103) hC hl.1 hM ht hlk (hXs s hC.2.2.2.2.2.1.2) hfl (by decide +kernel) xn_f w_722 w_23 xg_A xb_A xo_A (str_1182) dX7_needHour_25 dX7_needHour_28 dX7_needHour_29 dX7_needHour_32 dX7_needHour_35 (Nat.le_of_ble_eq_true rfl) (Nat.le_of_ble_eq_true rfl) (Nat.le_of_ble_eq_true rfl) (Nat.le_of_ble_eq_true rfl) (Nat.le_of_ble_eq_true rfl) (Nat.le_of_ble_eq_true rfl)
  · have c_1q := Int32.not_lt.mp c_1
    refine lv_iload_n hx hb dX7_needHour_11 rfl (lv_at hl 1 rfl) ?_
    refine lv_aload_n hx hb dX7_needHour_12 rfl (lv_at hl 0 rfl) ?_
    refine fg_X7_71 hC hM (bq_at h_b) rfl dX7_needHour_13 ?_
    refine fg_X7_114 hC hM (sp_st _ _ _ _) rfl dX7_needHour_16 ?_
    refine lv_bipush (v := 48) hx hb dX7_needHour_19 (by decide) ?_
    refine lv_iadd hx hb dX7_needHour_21 ?_
    refine lv_icmp_lt (tgt := 36) hx hb dX7_needHour_22 (by decide) (fun c_2 => ?_) (fun c_2 => ?_)
    · have c_2q := Int32.not_le.mpr c_2
      exact hbad.elim (fun h => absurd h c_1) (fun h => absurd c_2 (Int32.not_lt.mpr h))
    · have c_2q := Int32.not_lt.mp c_2
      exact me_throwW (ic := 103) hC hl.1 hM ht hlk (hXs s hC.2.2.2.2.2.1.2) hfl (by decide +kernel) xn_f w_722 w_23 xg_A xb_A xo_A (str_1182) dX7_needHour_25 dX7_needHour_28 dX7_needHour_29 dX7_needHour_32 dX7_needHour_35 (Nat.le_of_ble_eq_true rfl) (Nat.le_of_ble_eq_true rfl) (Nat.le_of_ble_eq_true rfl) (Nat.le_of_ble_eq_true rfl) (Nat.le_of_ble_eq_true rfl) (Nat.le_of_ble_eq_true rfl)
set_option maxHeartbeats 4000000 in
theorem c_X7_needLength_x (l : Launch) (D : va_G) (tb : Nat → ClassId) (X : State → Prop) (z0 n : Nat) (bo : Nat) (g : Nat → Int32) (G : Nat → Nat → Int32) (F sf inp out : Nat → Int32) (M0 : me_M) (S B L P : Nat) (x y9 : Int32)  (hfl : l.stackTraces = false) (hXs : ∀ U, X U → me_xs z0 U) (hbad : x < 1 ∨ y9 < x) : vx_Met l yX7_needLength (.code yX7_needLength cX7_needLength 2 none :: ws_all) ({ frames := 6, cells := 1, slots := 6, locals := 90 } : Room) (me_Pc [.int x, .int y9] D tb X z0 (sp tb (bo + 722) g (bq tb bo G F sf inp out M0)) n) me_no (me_XC D z0 (sp tb (bo + 722) g (bq tb bo G F sf inp out M0)) "java/lang/IllegalArgumentException") 1 6 (me_A z0) := by
  refine me_openX (by decide) (Nat.le_of_ble_eq_true rfl) ?_
  intro p e s m args below meth c ls hC ht hlk hM hl
  have hl : lv_has ls 2 [(0, .int x), (1, .int y9)] := hl
  have hx := hC.1
  have hb := hC.2.1
  have hw := hC.2.2.2.2.1
  refine lv_iload_n hx hb dX7_needLength_0 rfl (lv_at hl 0 rfl) ?_
  refine lv_iconst (v := 1) hx hb dX7_needLength_1 (by decide) ?_
  refine lv_icmp_lt (tgt := 10) hx hb dX7_needLength_2 (by decide) (fun c_1 => ?_) (fun c_1 => ?_)
  · have c_1q := Int32.not_le.mpr c_1
    exact me_throw (ic := 103) hC hl.1 hM ht hlk (hXs s hC.2.2.2.2.2.1.2) hfl (by decide +kernel) xn_f w_722 w_23 xg_A xb_A xo_A (str_717) dX7_needLength_10 dX7_needLength_13 dX7_needLength_14 dX7_needLength_16 dX7_needLength_19 (Nat.le_of_ble_eq_true rfl) (Nat.le_of_ble_eq_true rfl) (Nat.le_of_ble_eq_true rfl) (Nat.le_of_ble_eq_true rfl) (Nat.le_of_ble_eq_true rfl) (Nat.le_of_ble_eq_true rfl)
  · have c_1q := Int32.not_lt.mp c_1
    refine lv_iload_n hx hb dX7_needLength_5 rfl (lv_at hl 0 rfl) ?_
    refine lv_iload_n hx hb dX7_needLength_6 rfl (lv_at hl 1 rfl) ?_
    refine lv_icmp_le (tgt := 20) hx hb dX7_needLength_7 (by decide) (fun c_2 => ?_) (fun c_2 => ?_)
    · have c_2q := c_2
      have c_2 := Int32.not_lt.mpr c_2
      exact hbad.elim (fun h => absurd h c_1) (fun h => absurd h c_2)
    · have c_2q := c_2
      have c_2 := Int32.not_le.mp c_2
      exact me_throw (ic := 103) hC hl.1 hM ht hlk (hXs s hC.2.2.2.2.2.1.2) hfl (by decide +kernel) xn_f w_722 w_23 xg_A xb_A xo_A (str_717) dX7_needLength_10 dX7_needLength_13 dX7_needLength_14 dX7_needLength_16 dX7_needLength_19 (Nat.le_of_ble_eq_true rfl) (Nat.le_of_ble_eq_true rfl) (Nat.le_of_ble_eq_true rfl) (Nat.le_of_ble_eq_true rfl) (Nat.le_of_ble_eq_true rfl) (Nat.le_of_ble_eq_true rfl)
set_option maxHeartbeats 4000000 in
theorem c_X7_needSpan_x1 (l : Launch) (D : va_G) (tb : Nat → ClassId) (X : State → Prop) (z0 n : Nat) (bo : Nat) (g : Nat → Int32) (G : Nat → Nat → Int32) (F sf inp out : Nat → Int32) (M0 : me_M) (S B L P : Nat) (x0 x y9 : Int32)  (hfl : l.stackTraces = false) (hXs : ∀ U, X U → me_xs z0 U) (hbad : x < 1 ∨ y9 < x) : vx_Met l yX7_needSpan (.code yX7_needSpan cX7_needSpan 4 none :: ws_all) ({ frames := 7, cells := 1, slots := 6, locals := 111 } : Room) (me_Pc [.ref bo, .int x0, .int x, .int y9] D tb X z0 (sp tb (bo + 722) g (bq tb bo G F sf inp out M0)) n) me_no (me_XC D z0 (sp tb (bo + 722) g (bq tb bo G F sf inp out M0)) "java/lang/IllegalArgumentException") 1 6 (me_A z0) := by
  refine me_openX (by decide) (Nat.le_of_ble_eq_true rfl) ?_
  intro p e s m args below meth c ls hC ht hlk hM hl
  have hl : lv_has ls 4 [(0, .ref bo), (1, .int x0), (2, .int x), (3, .int y9)] := hl
  have hx := hC.1
  have hb := hC.2.1
  have hw := hC.2.2.2.2.1
  refine lv_iload_n hx hb dX7_needSpan_0 rfl (lv_at hl 2 rfl) ?_
  refine lv_iload_n hx hb dX7_needSpan_1 rfl (lv_at hl 3 rfl) ?_
  exact me_xS (As := [.int x, .int y9]) (rest := []) hC hl.1 hM (c_X7_needLength_x l D tb X z0 n bo g G F sf inp out M0 S B L P x y9 hfl hXs hbad) (ks_X7_217 hw rfl rfl ⟨Nat.le_of_ble_eq_true rfl, Nat.le_of_ble_eq_true rfl⟩) rfl rfl (Nat.le_of_ble_eq_true rfl) dX7_needSpan_2 ⟨Nat.le_of_ble_eq_true rfl, Nat.le_of_ble_eq_true rfl⟩ ht hlk (Nat.le_of_ble_eq_true rfl) (Nat.le_of_ble_eq_true rfl)
set_option maxHeartbeats 4000000 in
theorem c_X7_needSpan_x2 (l : Launch) (D : va_G) (tb : Nat → ClassId) (X : State → Prop) (z0 n : Nat) (bo : Nat) (g : Nat → Int32) (G : Nat → Nat → Int32) (F sf inp out : Nat → Int32) (M0 : me_M) (S B L P : Nat) (x0 : Int32) (n9 mo : Nat)  (hfl : l.stackTraces = false) (hXs : ∀ U, X U → me_xs z0 U) (h1 : 1 ≤ n9) (h2 : n9 ≤ mo) (h3 : mo ≤ 48) (hW : wf g S B L P) (hbad : x0 < g 2 ∨ g 2 + 48 - nI n9 < x0) : vx_Met l yX7_needSpan (.code yX7_needSpan cX7_needSpan 4 none :: ws_all) ({ frames := 6, cells := 1, slots := 6, locals := 90 } : Room) (me_Pc [.ref bo, .int x0, .int (nI n9), .int (nI mo)] D tb X z0 (sp tb (bo + 722) g (bq tb bo G F sf inp out M0)) n) me_no (me_XC D z0 (sp tb (bo + 722) g (bq tb bo G F sf inp out M0)) "java/lang/IllegalArgumentException") 1 6 (me_A z0) := by
  refine me_openX (by decide) (Nat.le_of_ble_eq_true rfl) ?_
  intro p e s m args below meth c ls hC ht hlk hM hl
  have hl : lv_has ls 4 [(0, .ref bo), (1, .int x0), (2, .int (nI n9)), (3, .int (nI mo))] := hl
  have hx := hC.1
  have hb := hC.2.1
  have hw := hC.2.2.2.2.1
  refine lv_iload_n hx hb dX7_needSpan_0 rfl (lv_at hl 2 rfl) ?_
  refine lv_iload_n hx hb dX7_needSpan_1 rfl (lv_at hl 3 rfl) ?_
  refine me_callSv (As := [.int (nI n9), .int (nI mo)]) (rest := []) hC hl.1 hM (c_X7_needLength l D tb X z0 n bo g G F sf inp out M0 S B L P n9 mo hW (by omega) (by omega) (by omega)) (ks_X7_217 hw rfl rfl ⟨Nat.le_of_ble_eq_true rfl, Nat.le_of_ble_eq_true rfl⟩) rfl rfl (Nat.le_of_ble_eq_true rfl) dX7_needSpan_2 ⟨Nat.le_of_ble_eq_true rfl, Nat.le_of_ble_eq_true rfl⟩ (fun H locs hM => ?_)
  refine lv_iload_n hx hb dX7_needSpan_5 rfl (lv_at hl 1 rfl) ?_
  refine lv_aload_n hx hb dX7_needSpan_6 rfl (lv_at hl 0 rfl) ?_
  refine fg_X7_71 hC hM (bq_at h_b) rfl dX7_needSpan_7 ?_
  refine fg_X7_114 hC hM (sp_st _ _ _ _) rfl dX7_needSpan_10 ?_
  refine lv_icmp_lt (tgt := 32) hx hb dX7_needSpan_13 (by decide) (fun c_1 => ?_) (fun c_1 => ?_)
  · have c_1q := Int32.not_le.mpr c_1
    exact me_throwW (ic := 103) hC hl.1 hM ht hlk (hXs s hC.2.2.2.2.2.1.2) hfl (by decide +kernel) xn_f w_722 w_23 xg_A xb_A xo_A (str_775) dX7_needSpan_32 dX7_needSpan_35 dX7_needSpan_36 dX7_needSpan_39 dX7_needSpan_42 (Nat.le_of_ble_eq_true rfl) (Nat.le_of_ble_eq_true rfl) (Nat.le_of_ble_eq_true rfl) (Nat.le_of_ble_eq_true rfl) (Nat.le_of_ble_eq_true rfl) (Nat.le_of_ble_eq_true rfl)
  · have c_1q := Int32.not_lt.mp c_1
    refine lv_iload_n hx hb dX7_needSpan_16 rfl (lv_at hl 1 rfl) ?_
    refine lv_aload_n hx hb dX7_needSpan_17 rfl (lv_at hl 0 rfl) ?_
    refine fg_X7_71 hC hM (bq_at h_b) rfl dX7_needSpan_18 ?_
    refine fg_X7_114 hC hM (sp_st _ _ _ _) rfl dX7_needSpan_21 ?_
    refine lv_bipush (v := 48) hx hb dX7_needSpan_24 (by decide) ?_
    refine lv_iadd hx hb dX7_needSpan_26 ?_
    refine lv_iload_n hx hb dX7_needSpan_27 rfl (lv_at hl 2 rfl) ?_
    refine lv_isub hx hb dX7_needSpan_28 ?_
    refine lv_icmp_le (tgt := 43) hx hb dX7_needSpan_29 (by decide) (fun c_2 => ?_) (fun c_2 => ?_)
    · have c_2q := c_2
      have c_2 := Int32.not_lt.mpr c_2
      exact hbad.elim (fun h => absurd h c_1) (fun h => absurd h c_2)
    · have c_2q := c_2
      have c_2 := Int32.not_le.mp c_2
      exact me_throwW (ic := 103) hC hl.1 hM ht hlk (hXs s hC.2.2.2.2.2.1.2) hfl (by decide +kernel) xn_f w_722 w_23 xg_A xb_A xo_A (str_775) dX7_needSpan_32 dX7_needSpan_35 dX7_needSpan_36 dX7_needSpan_39 dX7_needSpan_42 (Nat.le_of_ble_eq_true rfl) (Nat.le_of_ble_eq_true rfl) (Nat.le_of_ble_eq_true rfl) (Nat.le_of_ble_eq_true rfl) (Nat.le_of_ble_eq_true rfl) (Nat.le_of_ble_eq_true rfl)


set_option maxHeartbeats 4000000 in
theorem c_X7_clock (l : Launch) (D : va_G) (tb : Nat → ClassId) (X : State → Prop) (z0 n : Nat) (bo : Nat) (g : Nat → Int32) (G : Nat → Nat → Int32) (F sf inp out : Nat → Int32) (M0 : me_M) (S B L P : Nat)  : Met l yX7_clock (.code yX7_clock cX7_clock 1 (some .int) :: ws_all) ({ frames := 0, cells := 0, slots := 0, locals := 0 } : Room) (me_Pc [.ref bo] D tb X z0 (sp tb (bo + 722) g (bq tb bo G F sf inp out M0)) n) (me_Qi D z0 (g 2) (sp tb (bo + 722) g (bq tb bo G F sf inp out M0)) n) 0 0 (me_A z0) := by
  refine me_open (by decide) (Nat.le_of_ble_eq_true rfl) ?_
  intro p e s m args below meth c ls hC hr hlk hnm hM hl
  have hl : lv_has ls 1 [(0, .ref bo)] := hl
  have hx := hC.1
  have hb := hC.2.1
  have hw := hC.2.2.2.2.1
  refine lv_aload_n hx hb dX7_clock_0 rfl (lv_at hl 0 rfl) ?_
  refine fg_X7_71 hC hM (bq_at h_b) rfl dX7_clock_1 ?_
  refine fg_X7_114 hC hM (sp_st _ _ _ _) rfl dX7_clock_4 ?_
  exact me_iret hC hr hlk hM (by first | rfl | simp []) (rfl) (rfl) dX7_clock_7


set_option maxHeartbeats 4000000 in
theorem c_X7_streetCount (l : Launch) (D : va_G) (tb : Nat → ClassId) (X : State → Prop) (z0 n : Nat) (bo : Nat) (g : Nat → Int32) (G : Nat → Nat → Int32) (F sf inp out : Nat → Int32) (M0 : me_M) (S B L P : Nat)  : Met l yX7_streetCount (.code yX7_streetCount cX7_streetCount 1 (some .int) :: ws_all) ({ frames := 0, cells := 0, slots := 0, locals := 0 } : Room) (me_Pc [.ref bo] D tb X z0 (sp tb (bo + 722) g (bq tb bo G F sf inp out M0)) n) (me_Qi D z0 (g 3) (sp tb (bo + 722) g (bq tb bo G F sf inp out M0)) n) 0 0 (me_A z0) := by
  refine me_open (by decide) (Nat.le_of_ble_eq_true rfl) ?_
  intro p e s m args below meth c ls hC hr hlk hnm hM hl
  have hl : lv_has ls 1 [(0, .ref bo)] := hl
  have hx := hC.1
  have hb := hC.2.1
  have hw := hC.2.2.2.2.1
  refine lv_aload_n hx hb dX7_streetCount_0 rfl (lv_at hl 0 rfl) ?_
  refine fg_X7_71 hC hM (bq_at h_b) rfl dX7_streetCount_1 ?_
  refine fg_X7_127 hC hM (sp_st _ _ _ _) rfl dX7_streetCount_4 ?_
  exact me_iret hC hr hlk hM (by first | rfl | simp []) (rfl) (rfl) dX7_streetCount_7
set_option maxHeartbeats 4000000 in
theorem c_X7_borrowerCount (l : Launch) (D : va_G) (tb : Nat → ClassId) (X : State → Prop) (z0 n : Nat) (bo : Nat) (g : Nat → Int32) (G : Nat → Nat → Int32) (F sf inp out : Nat → Int32) (M0 : me_M) (S B L P : Nat)  : Met l yX7_borrowerCount (.code yX7_borrowerCount cX7_borrowerCount 1 (some .int) :: ws_all) ({ frames := 0, cells := 0, slots := 0, locals := 0 } : Room) (me_Pc [.ref bo] D tb X z0 (sp tb (bo + 722) g (bq tb bo G F sf inp out M0)) n) (me_Qi D z0 (g 4) (sp tb (bo + 722) g (bq tb bo G F sf inp out M0)) n) 0 0 (me_A z0) := by
  refine me_open (by decide) (Nat.le_of_ble_eq_true rfl) ?_
  intro p e s m args below meth c ls hC hr hlk hnm hM hl
  have hl : lv_has ls 1 [(0, .ref bo)] := hl
  have hx := hC.1
  have hb := hC.2.1
  have hw := hC.2.2.2.2.1
  refine lv_aload_n hx hb dX7_borrowerCount_0 rfl (lv_at hl 0 rfl) ?_
  refine fg_X7_71 hC hM (bq_at h_b) rfl dX7_borrowerCount_1 ?_
  refine fg_X7_130 hC hM (sp_st _ _ _ _) rfl dX7_borrowerCount_4 ?_
  exact me_iret hC hr hlk hM (by first | rfl | simp []) (rfl) (rfl) dX7_borrowerCount_7
set_option maxHeartbeats 4000000 in
theorem c_X7_loanCount (l : Launch) (D : va_G) (tb : Nat → ClassId) (X : State → Prop) (z0 n : Nat) (bo : Nat) (g : Nat → Int32) (G : Nat → Nat → Int32) (F sf inp out : Nat → Int32) (M0 : me_M) (S B L P : Nat)  : Met l yX7_loanCount (.code yX7_loanCount cX7_loanCount 1 (some .int) :: ws_all) ({ frames := 0, cells := 0, slots := 0, locals := 0 } : Room) (me_Pc [.ref bo] D tb X z0 (sp tb (bo + 722) g (bq tb bo G F sf inp out M0)) n) (me_Qi D z0 (g 6) (sp tb (bo + 722) g (bq tb bo G F sf inp out M0)) n) 0 0 (me_A z0) := by
  refine me_open (by decide) (Nat.le_of_ble_eq_true rfl) ?_
  intro p e s m args below meth c ls hC hr hlk hnm hM hl
  have hl : lv_has ls 1 [(0, .ref bo)] := hl
  have hx := hC.1
  have hb := hC.2.1
  have hw := hC.2.2.2.2.1
  refine lv_aload_n hx hb dX7_loanCount_0 rfl (lv_at hl 0 rfl) ?_
  refine fg_X7_71 hC hM (bq_at h_b) rfl dX7_loanCount_1 ?_
  refine fg_X7_111 hC hM (sp_st _ _ _ _) rfl dX7_loanCount_4 ?_
  exact me_iret hC hr hlk hM (by first | rfl | simp []) (rfl) (rfl) dX7_loanCount_7
set_option maxHeartbeats 4000000 in
theorem c_X7_permitCount (l : Launch) (D : va_G) (tb : Nat → ClassId) (X : State → Prop) (z0 n : Nat) (bo : Nat) (g : Nat → Int32) (G : Nat → Nat → Int32) (F sf inp out : Nat → Int32) (M0 : me_M) (S B L P : Nat)  : Met l yX7_permitCount (.code yX7_permitCount cX7_permitCount 1 (some .int) :: ws_all) ({ frames := 0, cells := 0, slots := 0, locals := 0 } : Room) (me_Pc [.ref bo] D tb X z0 (sp tb (bo + 722) g (bq tb bo G F sf inp out M0)) n) (me_Qi D z0 (g 5) (sp tb (bo + 722) g (bq tb bo G F sf inp out M0)) n) 0 0 (me_A z0) := by
  refine me_open (by decide) (Nat.le_of_ble_eq_true rfl) ?_
  intro p e s m args below meth c ls hC hr hlk hnm hM hl
  have hl : lv_has ls 1 [(0, .ref bo)] := hl
  have hx := hC.1
  have hb := hC.2.1
  have hw := hC.2.2.2.2.1
  refine lv_aload_n hx hb dX7_permitCount_0 rfl (lv_at hl 0 rfl) ?_
  refine fg_X7_71 hC hM (bq_at h_b) rfl dX7_permitCount_1 ?_
  refine fg_X7_133 hC hM (sp_st _ _ _ _) rfl dX7_permitCount_4 ?_
  exact me_iret hC hr hlk hM (by first | rfl | simp []) (rfl) (rfl) dX7_permitCount_7

