theorem c_X8_remembers_a (l : Launch) (D : va_G) (tb : Nat → ClassId) (X : State → Prop) (z0 n : Nat) (mo : Nat) (F w av od sv sl nz ip ot : Nat → Int32) (M0 : me_M) (om : Nat) (hom : F 1 = nI om) (hom0 : om ≤ 10) : Met l yX8_remembers (.code yX8_remembers cX8_remembers 2 none :: ws_all) ({ frames := 0, cells := 0, slots := 0, locals := 0 } : Room) (me_Pc [.ref mo] D tb X z0 (mq tb mo F w av od sv sl nz ip ot M0) n) (me_Qv D z0 (mq tb mo (rmF F om) w av (rmO od w om) sv sl nz ip ot M0) n) 0 0 (me_A z0) := by
  rcases Nat.lt_or_ge om 10 with h | h
  · exact c_X8_remembers l D tb X z0 n mo F w av od sv sl nz ip ot M0 om hom h
  · obtain rfl : om = 10 := by omega
    exact c_X8_remembers_f l D tb X z0 n mo F w av od sv sl nz ip ot M0 hom
set_option maxHeartbeats 4000000 in
theorem c_X8_lend (l : Launch) (D : va_G) (tb : Nat → ClassId) (X : State → Prop) (z0 n : Nat) (mo : Nat) (F w av od sv sl nz ip ot : Nat → Int32) (M0 : me_M) (S B L P : Nat) (T : Nat) (om : Nat) (b s0 n9 : Nat)  (hO : ok1 S B L P T w) (hT0 : T ≤ 9999) (hom : F 1 = nI om) (hom0 : om ≤ 10) (hb9 : b < B) (hn1 : 1 ≤ n9) (hn2 : n9 ≤ 6) (hs1 : T ≤ s0) (hs2 : s0 + n9 ≤ T + 48) (hre : reF w L P b s0 n9 = 0) : Met l yX8_lend (.code yX8_lend cX8_lend 4 (some .int) :: ws_all) ({ frames := 6, cells := 0, slots := 0, locals := 133 } : Room) (me_Pc [.ref mo, .int (nI b), .int (nI s0), .int (nI n9)] D tb X z0 (mq tb mo F w av od sv sl nz ip ot M0) n) (me_Qi D z0 (nI L) (mq tb mo (upd (rmF F om) 0 0) (adF w L b s0 n9) av (rmO od w om) sv sl nz ip ot M0) n) 0 0 (me_A z0) := by
  refine me_open (by decide) (Nat.le_of_ble_eq_true rfl) ?_
  intro p e s m args below meth c ls hC hr hlk hnm hM hl
  have hl : lv_has ls 4 [(0, .ref mo), (1, .int (nI b)), (2, .int (nI s0)), (3, .int (nI n9))] := hl
  have hx := hC.1
  have hb := hC.2.1
  have hw := hC.2.2.2.2.1
  obtain ⟨hW, hZ, hT⟩ := id hO
  obtain ⟨hS, hS0, hB, hB0, hL, hL0, hP, hP0, hwb, hwl⟩ := id hW
  have hT2 : T ≤ 20000 := by omega
  have hL9 := reF_L hW hre
  have hO2 := ok_ad2 (s := s0) (n := n9) hO hb9 hL9
  have hL2 : adF w L b s0 n9 6 = nI (L + 1) := hO2.1.2.2.2.2.1
  refine lv_aload_n hx hb dX8_lend_0 rfl (lv_at hl 0 rfl) ?_
  refine lv_iload_n hx hb dX8_lend_1 rfl (lv_at hl 1 rfl) ?_
  refine me_callVi (As := [.int (nI b)]) (rest := []) hC hl.1 hM (c_X8_isBorrower l D tb X z0 n mo F w av od sv sl nz ip ot M0 (nI b) ) (kv_X8_292 hw rfl rfl ⟨Nat.le_of_ble_eq_true rfl, Nat.le_of_ble_eq_true rfl⟩) rfl rfl mq_F rfl (Nat.le_of_ble_eq_true rfl) dX8_lend_2 ⟨Nat.le_of_ble_eq_true rfl, Nat.le_of_ble_eq_true rfl⟩ (fun H locs hM => ?_)
  refine lv_if_ne (tgt := 14) hx hb dX8_lend_5 (by decide) (fun c_1 => ?_) (fun c_1 => ?_)
  · have c_1 := b1_n0.mp c_1
    refine lv_aload_n hx hb dX8_lend_14 rfl (lv_at hl 0 rfl) ?_
    refine lv_iload_n hx hb dX8_lend_15 rfl (lv_at hl 2 rfl) ?_
    refine lv_iload_n hx hb dX8_lend_16 rfl (lv_at hl 3 rfl) ?_
    refine lv_bipush (v := 6) hx hb dX8_lend_17 (by decide) ?_
    refine me_callVi (As := [.int (nI s0), .int (nI n9), .int 6]) (rest := []) hC hl.1 hM (c_X8_areHours l D tb X z0 n mo F w av od sv sl nz ip ot M0 (nI s0) (nI n9) 6 ) (kv_X8_307 hw rfl rfl ⟨Nat.le_of_ble_eq_true rfl, Nat.le_of_ble_eq_true rfl⟩) rfl rfl mq_F rfl (Nat.le_of_ble_eq_true rfl) dX8_lend_19 ⟨Nat.le_of_ble_eq_true rfl, Nat.le_of_ble_eq_true rfl⟩ (fun H locs hM => ?_)
    refine lv_if_ne (tgt := 31) hx hb dX8_lend_22 (by decide) (fun c_2 => ?_) (fun c_2 => ?_)
    · have c_2 := b1_n0.mp c_2
      refine lv_aload_n hx hb dX8_lend_31 rfl (lv_at hl 0 rfl) ?_
      refine lv_iload_n hx hb dX8_lend_32 rfl (lv_at hl 1 rfl) ?_
      refine lv_iload_n hx hb dX8_lend_33 rfl (lv_at hl 2 rfl) ?_
      refine lv_iload_n hx hb dX8_lend_34 rfl (lv_at hl 3 rfl) ?_
      refine me_callVi (As := [.int (nI b), .int (nI s0), .int (nI n9)]) (rest := []) hC hl.1 hM (c_X8_reasonFor l D tb X z0 n mo F w av od sv sl nz ip ot M0 S B L P b s0 n9 hW hZ (by omega) (by omega)) (kv_X8_232 hw rfl rfl ⟨Nat.le_of_ble_eq_true rfl, Nat.le_of_ble_eq_true rfl⟩) rfl rfl mq_F rfl (Nat.le_of_ble_eq_true rfl) dX8_lend_35 ⟨Nat.le_of_ble_eq_true rfl, Nat.le_of_ble_eq_true rfl⟩ (fun H locs hM => ?_)
      refine lv_if_eq (tgt := 47) hx hb dX8_lend_38 (by decide) (fun c_3 => ?_) (fun c_3 => ?_)
      · refine lv_aload_n hx hb dX8_lend_47 rfl (lv_at hl 0 rfl) ?_
        refine me_callVv (As := []) (rest := []) hC hl.1 hM (c_X8_remembers_a l D tb X z0 n mo F w av od sv sl nz ip ot M0 om hom hom0) (kv_X8_327 hw rfl rfl ⟨Nat.le_of_ble_eq_true rfl, Nat.le_of_ble_eq_true rfl⟩) rfl rfl mq_F rfl (Nat.le_of_ble_eq_true rfl) dX8_lend_48 ⟨Nat.le_of_ble_eq_true rfl, Nat.le_of_ble_eq_true rfl⟩ (fun H locs hM => ?_)
        refine lv_aload_n hx hb dX8_lend_51 rfl (lv_at hl 0 rfl) ?_
        refine lv_iload_n hx hb dX8_lend_52 rfl (lv_at hl 1 rfl) ?_
        refine lv_iload_n hx hb dX8_lend_53 rfl (lv_at hl 2 rfl) ?_
        refine lv_iload_n hx hb dX8_lend_54 rfl (lv_at hl 3 rfl) ?_
        refine me_callVv (As := [.int (nI b), .int (nI s0), .int (nI n9)]) (rest := []) hC hl.1 hM (c_X8_lends l D tb X z0 n mo (rmF F om) w av (rmO od w om) sv sl nz ip ot M0 S B L P T b s0 n9 hO (by omega) (by omega)) (kv_X8_57 hw rfl rfl ⟨Nat.le_of_ble_eq_true rfl, Nat.le_of_ble_eq_true rfl⟩) rfl rfl mq_F rfl (Nat.le_of_ble_eq_true rfl) dX8_lend_55 ⟨Nat.le_of_ble_eq_true rfl, Nat.le_of_ble_eq_true rfl⟩ (fun H locs hM => ?_)
        refine lv_aload_n hx hb dX8_lend_58 rfl (lv_at hl 0 rfl) ?_
        refine lv_aload_n hx hb dX8_lend_59 rfl (lv_at hl 0 rfl) ?_
        refine fg_X8_13 hC hM mq_F rfl dX8_lend_60 ?_
        refine lv_bipush (v := 6) hx hb dX8_lend_63 (by decide) ?_
        refine me_iald (k := 6) hC hM mq_w (nx_c 6) (by omega) (by decide) dX8_lend_65 ?_
        refine lv_iconst (v := 1) hx hb dX8_lend_66 (by decide) ?_
        refine lv_isub hx hb dX8_lend_67 ?_
        refine me_callVi (As := [.int (((adF w L b s0 n9) 6) - 1)]) (rest := []) hC hl.1 hM (c_X8_told l D tb X z0 n mo (rmF F om) (adF w L b s0 n9) av (rmO od w om) sv sl nz ip ot M0 (((adF w L b s0 n9) 6) - 1) ) (kv_X8_271 hw rfl rfl ⟨Nat.le_of_ble_eq_true rfl, Nat.le_of_ble_eq_true rfl⟩) rfl rfl mq_F rfl (Nat.le_of_ble_eq_true rfl) dX8_lend_68 ⟨Nat.le_of_ble_eq_true rfl, Nat.le_of_ble_eq_true rfl⟩ (fun H locs hM => ?_)
        exact me_iret hC hr hlk hM (by rw [hL2]; exact nI_pred L) (rfl) (rfl) dX8_lend_71
      · exact absurd hre c_3
    · have c_2 := b1_0.mp c_2
      exact absurd (ah_c (m := 6) hT hT2 hn1 hn2 (by omega) hs1 hs2) c_2
  · have c_1 := b1_0.mp c_1
    exact absurd (in_c hB (by omega) hb9) c_1
set_option maxHeartbeats 4000000 in
theorem c_X8_lend_x1 (l : Launch) (D : va_G) (tb : Nat → ClassId) (X : State → Prop) (z0 n : Nat) (mo : Nat) (F w av od sv sl nz ip ot : Nat → Int32) (M0 : me_M) (S B L P : Nat) (T : Nat) (x : Int32) (y9 z9 : Int32)  (hO : ok1 S B L P T w) (hT0 : T ≤ 9999) (hbad : x < 0 ∨ w 4 ≤ x) : Met l yX8_lend (.code yX8_lend cX8_lend 4 (some .int) :: ws_all) ({ frames := 2, cells := 0, slots := 0, locals := 43 } : Room) (me_Pc [.ref mo, .int x, .int y9, .int z9] D tb X z0 (mq tb mo F w av od sv sl nz ip ot M0) n) (me_Qi D z0 0 (mq tb mo (upd F 0 1) w av od sv sl nz ip ot M0) n) 0 0 (me_A z0) := by
  refine me_open (by decide) (Nat.le_of_ble_eq_true rfl) ?_
  intro p e s m args below meth c ls hC hr hlk hnm hM hl
  have hl : lv_has ls 4 [(0, .ref mo), (1, .int x), (2, .int y9), (3, .int z9)] := hl
  have hx := hC.1
  have hb := hC.2.1
  have hw := hC.2.2.2.2.1
  obtain ⟨hW, hZ, hT⟩ := id hO
  obtain ⟨hS, hS0, hB, hB0, hL, hL0, hP, hP0, hwb, hwl⟩ := id hW
  have hT2 : T ≤ 20000 := by omega
  refine lv_aload_n hx hb dX8_lend_0 rfl (lv_at hl 0 rfl) ?_
  refine lv_iload_n hx hb dX8_lend_1 rfl (lv_at hl 1 rfl) ?_
  refine me_callVi (As := [.int x]) (rest := []) hC hl.1 hM (c_X8_isBorrower l D tb X z0 n mo F w av od sv sl nz ip ot M0 x ) (kv_X8_292 hw rfl rfl ⟨Nat.le_of_ble_eq_true rfl, Nat.le_of_ble_eq_true rfl⟩) rfl rfl mq_F rfl (Nat.le_of_ble_eq_true rfl) dX8_lend_2 ⟨Nat.le_of_ble_eq_true rfl, Nat.le_of_ble_eq_true rfl⟩ (fun H locs hM => ?_)
  refine lv_if_ne (tgt := 14) hx hb dX8_lend_5 (by decide) (fun c_1 => ?_) (fun c_1 => ?_)
  · have c_1 := b1_n0.mp c_1
    exact absurd c_1 (in_x hB (by omega) hbad)
  · have c_1 := b1_0.mp c_1
    refine lv_aload_n hx hb dX8_lend_8 rfl (lv_at hl 0 rfl) ?_
    refine lv_iconst (v := 1) hx hb dX8_lend_9 (by decide) ?_
    refine me_callVi (As := [.int 1]) (rest := []) hC hl.1 hM (c_X8_refuse l D tb X z0 n mo F w av od sv sl nz ip ot M0 (1 : Int32) ) (kv_X8_265 hw rfl rfl ⟨Nat.le_of_ble_eq_true rfl, Nat.le_of_ble_eq_true rfl⟩) rfl rfl mq_F rfl (Nat.le_of_ble_eq_true rfl) dX8_lend_10 ⟨Nat.le_of_ble_eq_true rfl, Nat.le_of_ble_eq_true rfl⟩ (fun H locs hM => ?_)
    exact me_iret hC hr hlk hM (rfl) (rfl) (rfl) dX8_lend_13
set_option maxHeartbeats 4000000 in
theorem c_X8_lend_x2 (l : Launch) (D : va_G) (tb : Nat → ClassId) (X : State → Prop) (z0 n : Nat) (mo : Nat) (F w av od sv sl nz ip ot : Nat → Int32) (M0 : me_M) (S B L P : Nat) (T : Nat) (b : Nat) (x0 x : Int32)  (hO : ok1 S B L P T w) (hT0 : T ≤ 9999) (hb9 : b < B) (hbad : x < 1 ∨ 6 < x) : Met l yX8_lend (.code yX8_lend cX8_lend 4 (some .int) :: ws_all) ({ frames := 2, cells := 0, slots := 0, locals := 45 } : Room) (me_Pc [.ref mo, .int (nI b), .int x0, .int x] D tb X z0 (mq tb mo F w av od sv sl nz ip ot M0) n) (me_Qi D z0 0 (mq tb mo (upd F 0 2) w av od sv sl nz ip ot M0) n) 0 0 (me_A z0) := by
  refine me_open (by decide) (Nat.le_of_ble_eq_true rfl) ?_
  intro p e s m args below meth c ls hC hr hlk hnm hM hl
  have hl : lv_has ls 4 [(0, .ref mo), (1, .int (nI b)), (2, .int x0), (3, .int x)] := hl
  have hx := hC.1
  have hb := hC.2.1
  have hw := hC.2.2.2.2.1
  obtain ⟨hW, hZ, hT⟩ := id hO
  obtain ⟨hS, hS0, hB, hB0, hL, hL0, hP, hP0, hwb, hwl⟩ := id hW
  have hT2 : T ≤ 20000 := by omega
  refine lv_aload_n hx hb dX8_lend_0 rfl (lv_at hl 0 rfl) ?_
  refine lv_iload_n hx hb dX8_lend_1 rfl (lv_at hl 1 rfl) ?_
  refine me_callVi (As := [.int (nI b)]) (rest := []) hC hl.1 hM (c_X8_isBorrower l D tb X z0 n mo F w av od sv sl nz ip ot M0 (nI b) ) (kv_X8_292 hw rfl rfl ⟨Nat.le_of_ble_eq_true rfl, Nat.le_of_ble_eq_true rfl⟩) rfl rfl mq_F rfl (Nat.le_of_ble_eq_true rfl) dX8_lend_2 ⟨Nat.le_of_ble_eq_true rfl, Nat.le_of_ble_eq_true rfl⟩ (fun H locs hM => ?_)
  refine lv_if_ne (tgt := 14) hx hb dX8_lend_5 (by decide) (fun c_1 => ?_) (fun c_1 => ?_)
  · have c_1 := b1_n0.mp c_1
    refine lv_aload_n hx hb dX8_lend_14 rfl (lv_at hl 0 rfl) ?_
    refine lv_iload_n hx hb dX8_lend_15 rfl (lv_at hl 2 rfl) ?_
    refine lv_iload_n hx hb dX8_lend_16 rfl (lv_at hl 3 rfl) ?_
    refine lv_bipush (v := 6) hx hb dX8_lend_17 (by decide) ?_
    refine me_callVi (As := [.int x0, .int x, .int 6]) (rest := []) hC hl.1 hM (c_X8_areHours l D tb X z0 n mo F w av od sv sl nz ip ot M0 x0 x 6 ) (kv_X8_307 hw rfl rfl ⟨Nat.le_of_ble_eq_true rfl, Nat.le_of_ble_eq_true rfl⟩) rfl rfl mq_F rfl (Nat.le_of_ble_eq_true rfl) dX8_lend_19 ⟨Nat.le_of_ble_eq_true rfl, Nat.le_of_ble_eq_true rfl⟩ (fun H locs hM => ?_)
    refine lv_if_ne (tgt := 31) hx hb dX8_lend_22 (by decide) (fun c_2 => ?_) (fun c_2 => ?_)
    · have c_2 := b1_n0.mp c_2
      exact absurd c_2 (ah_x1 hbad)
    · have c_2 := b1_0.mp c_2
      refine lv_aload_n hx hb dX8_lend_25 rfl (lv_at hl 0 rfl) ?_
      refine lv_iconst (v := 2) hx hb dX8_lend_26 (by decide) ?_
      refine me_callVi (As := [.int 2]) (rest := []) hC hl.1 hM (c_X8_refuse l D tb X z0 n mo F w av od sv sl nz ip ot M0 (2 : Int32) ) (kv_X8_265 hw rfl rfl ⟨Nat.le_of_ble_eq_true rfl, Nat.le_of_ble_eq_true rfl⟩) rfl rfl mq_F rfl (Nat.le_of_ble_eq_true rfl) dX8_lend_27 ⟨Nat.le_of_ble_eq_true rfl, Nat.le_of_ble_eq_true rfl⟩ (fun H locs hM => ?_)
      exact me_iret hC hr hlk hM (rfl) (rfl) (rfl) dX8_lend_30
  · have c_1 := b1_0.mp c_1
    exact absurd (in_c hB (by omega) hb9) c_1
set_option maxHeartbeats 4000000 in
theorem c_X8_lend_x3 (l : Launch) (D : va_G) (tb : Nat → ClassId) (X : State → Prop) (z0 n : Nat) (mo : Nat) (F w av od sv sl nz ip ot : Nat → Int32) (M0 : me_M) (S B L P : Nat) (T : Nat) (b : Nat) (x0 : Int32) (n9 : Nat)  (hO : ok1 S B L P T w) (hT0 : T ≤ 9999) (hb9 : b < B) (hn1 : 1 ≤ n9) (hn2 : n9 ≤ 6) (hbad : x0 < w 2 ∨ w 2 + 48 - nI n9 < x0) : Met l yX8_lend (.code yX8_lend cX8_lend 4 (some .int) :: ws_all) ({ frames := 2, cells := 0, slots := 0, locals := 45 } : Room) (me_Pc [.ref mo, .int (nI b), .int x0, .int (nI n9)] D tb X z0 (mq tb mo F w av od sv sl nz ip ot M0) n) (me_Qi D z0 0 (mq tb mo (upd F 0 2) w av od sv sl nz ip ot M0) n) 0 0 (me_A z0) := by
  refine me_open (by decide) (Nat.le_of_ble_eq_true rfl) ?_
  intro p e s m args below meth c ls hC hr hlk hnm hM hl
  have hl : lv_has ls 4 [(0, .ref mo), (1, .int (nI b)), (2, .int x0), (3, .int (nI n9))] := hl
  have hx := hC.1
  have hb := hC.2.1
  have hw := hC.2.2.2.2.1
  obtain ⟨hW, hZ, hT⟩ := id hO
  obtain ⟨hS, hS0, hB, hB0, hL, hL0, hP, hP0, hwb, hwl⟩ := id hW
  have hT2 : T ≤ 20000 := by omega
  refine lv_aload_n hx hb dX8_lend_0 rfl (lv_at hl 0 rfl) ?_
  refine lv_iload_n hx hb dX8_lend_1 rfl (lv_at hl 1 rfl) ?_
  refine me_callVi (As := [.int (nI b)]) (rest := []) hC hl.1 hM (c_X8_isBorrower l D tb X z0 n mo F w av od sv sl nz ip ot M0 (nI b) ) (kv_X8_292 hw rfl rfl ⟨Nat.le_of_ble_eq_true rfl, Nat.le_of_ble_eq_true rfl⟩) rfl rfl mq_F rfl (Nat.le_of_ble_eq_true rfl) dX8_lend_2 ⟨Nat.le_of_ble_eq_true rfl, Nat.le_of_ble_eq_true rfl⟩ (fun H locs hM => ?_)
  refine lv_if_ne (tgt := 14) hx hb dX8_lend_5 (by decide) (fun c_1 => ?_) (fun c_1 => ?_)
  · have c_1 := b1_n0.mp c_1
    refine lv_aload_n hx hb dX8_lend_14 rfl (lv_at hl 0 rfl) ?_
    refine lv_iload_n hx hb dX8_lend_15 rfl (lv_at hl 2 rfl) ?_
    refine lv_iload_n hx hb dX8_lend_16 rfl (lv_at hl 3 rfl) ?_
    refine lv_bipush (v := 6) hx hb dX8_lend_17 (by decide) ?_
    refine me_callVi (As := [.int x0, .int (nI n9), .int 6]) (rest := []) hC hl.1 hM (c_X8_areHours l D tb X z0 n mo F w av od sv sl nz ip ot M0 x0 (nI n9) 6 ) (kv_X8_307 hw rfl rfl ⟨Nat.le_of_ble_eq_true rfl, Nat.le_of_ble_eq_true rfl⟩) rfl rfl mq_F rfl (Nat.le_of_ble_eq_true rfl) dX8_lend_19 ⟨Nat.le_of_ble_eq_true rfl, Nat.le_of_ble_eq_true rfl⟩ (fun H locs hM => ?_)
    refine lv_if_ne (tgt := 31) hx hb dX8_lend_22 (by decide) (fun c_2 => ?_) (fun c_2 => ?_)
    · have c_2 := b1_n0.mp c_2
      exact absurd c_2 (ah_x2 hT hT2 hn1 (by omega) hbad)
    · have c_2 := b1_0.mp c_2
      refine lv_aload_n hx hb dX8_lend_25 rfl (lv_at hl 0 rfl) ?_
      refine lv_iconst (v := 2) hx hb dX8_lend_26 (by decide) ?_
      refine me_callVi (As := [.int 2]) (rest := []) hC hl.1 hM (c_X8_refuse l D tb X z0 n mo F w av od sv sl nz ip ot M0 (2 : Int32) ) (kv_X8_265 hw rfl rfl ⟨Nat.le_of_ble_eq_true rfl, Nat.le_of_ble_eq_true rfl⟩) rfl rfl mq_F rfl (Nat.le_of_ble_eq_true rfl) dX8_lend_27 ⟨Nat.le_of_ble_eq_true rfl, Nat.le_of_ble_eq_true rfl⟩ (fun H locs hM => ?_)
      exact me_iret hC hr hlk hM (rfl) (rfl) (rfl) dX8_lend_30
  · have c_1 := b1_0.mp c_1
    exact absurd (in_c hB (by omega) hb9) c_1
set_option maxHeartbeats 4000000 in
theorem c_X8_lend_x4 (l : Launch) (D : va_G) (tb : Nat → ClassId) (X : State → Prop) (z0 n : Nat) (mo : Nat) (F w av od sv sl nz ip ot : Nat → Int32) (M0 : me_M) (S B L P : Nat) (T : Nat) (b s0 n9 : Nat)  (hO : ok1 S B L P T w) (hT0 : T ≤ 9999) (hb9 : b < B) (hn1 : 1 ≤ n9) (hn2 : n9 ≤ 6) (hs1 : T ≤ s0) (hs2 : s0 + n9 ≤ T + 48) (hre : ¬ reF w L P b s0 n9 = 0) : Met l yX8_lend (.code yX8_lend cX8_lend 4 (some .int) :: ws_all) ({ frames := 6, cells := 0, slots := 0, locals := 133 } : Room) (me_Pc [.ref mo, .int (nI b), .int (nI s0), .int (nI n9)] D tb X z0 (mq tb mo F w av od sv sl nz ip ot M0) n) (me_Qi D z0 0 (mq tb mo (upd F 0 3) w av od sv sl nz ip ot M0) n) 0 0 (me_A z0) := by
  refine me_open (by decide) (Nat.le_of_ble_eq_true rfl) ?_
  intro p e s m args below meth c ls hC hr hlk hnm hM hl
  have hl : lv_has ls 4 [(0, .ref mo), (1, .int (nI b)), (2, .int (nI s0)), (3, .int (nI n9))] := hl
  have hx := hC.1
  have hb := hC.2.1
  have hw := hC.2.2.2.2.1
  obtain ⟨hW, hZ, hT⟩ := id hO
  obtain ⟨hS, hS0, hB, hB0, hL, hL0, hP, hP0, hwb, hwl⟩ := id hW
  have hT2 : T ≤ 20000 := by omega
  refine lv_aload_n hx hb dX8_lend_0 rfl (lv_at hl 0 rfl) ?_
  refine lv_iload_n hx hb dX8_lend_1 rfl (lv_at hl 1 rfl) ?_
  refine me_callVi (As := [.int (nI b)]) (rest := []) hC hl.1 hM (c_X8_isBorrower l D tb X z0 n mo F w av od sv sl nz ip ot M0 (nI b) ) (kv_X8_292 hw rfl rfl ⟨Nat.le_of_ble_eq_true rfl, Nat.le_of_ble_eq_true rfl⟩) rfl rfl mq_F rfl (Nat.le_of_ble_eq_true rfl) dX8_lend_2 ⟨Nat.le_of_ble_eq_true rfl, Nat.le_of_ble_eq_true rfl⟩ (fun H locs hM => ?_)
  refine lv_if_ne (tgt := 14) hx hb dX8_lend_5 (by decide) (fun c_1 => ?_) (fun c_1 => ?_)
  · have c_1 := b1_n0.mp c_1
    refine lv_aload_n hx hb dX8_lend_14 rfl (lv_at hl 0 rfl) ?_
    refine lv_iload_n hx hb dX8_lend_15 rfl (lv_at hl 2 rfl) ?_
    refine lv_iload_n hx hb dX8_lend_16 rfl (lv_at hl 3 rfl) ?_
    refine lv_bipush (v := 6) hx hb dX8_lend_17 (by decide) ?_
    refine me_callVi (As := [.int (nI s0), .int (nI n9), .int 6]) (rest := []) hC hl.1 hM (c_X8_areHours l D tb X z0 n mo F w av od sv sl nz ip ot M0 (nI s0) (nI n9) 6 ) (kv_X8_307 hw rfl rfl ⟨Nat.le_of_ble_eq_true rfl, Nat.le_of_ble_eq_true rfl⟩) rfl rfl mq_F rfl (Nat.le_of_ble_eq_true rfl) dX8_lend_19 ⟨Nat.le_of_ble_eq_true rfl, Nat.le_of_ble_eq_true rfl⟩ (fun H locs hM => ?_)
    refine lv_if_ne (tgt := 31) hx hb dX8_lend_22 (by decide) (fun c_2 => ?_) (fun c_2 => ?_)
    · have c_2 := b1_n0.mp c_2
      refine lv_aload_n hx hb dX8_lend_31 rfl (lv_at hl 0 rfl) ?_
      refine lv_iload_n hx hb dX8_lend_32 rfl (lv_at hl 1 rfl) ?_
      refine lv_iload_n hx hb dX8_lend_33 rfl (lv_at hl 2 rfl) ?_
      refine lv_iload_n hx hb dX8_lend_34 rfl (lv_at hl 3 rfl) ?_
      refine me_callVi (As := [.int (nI b), .int (nI s0), .int (nI n9)]) (rest := []) hC hl.1 hM (c_X8_reasonFor l D tb X z0 n mo F w av od sv sl nz ip ot M0 S B L P b s0 n9 hW hZ (by omega) (by omega)) (kv_X8_232 hw rfl rfl ⟨Nat.le_of_ble_eq_true rfl, Nat.le_of_ble_eq_true rfl⟩) rfl rfl mq_F rfl (Nat.le_of_ble_eq_true rfl) dX8_lend_35 ⟨Nat.le_of_ble_eq_true rfl, Nat.le_of_ble_eq_true rfl⟩ (fun H locs hM => ?_)
      refine lv_if_eq (tgt := 47) hx hb dX8_lend_38 (by decide) (fun c_3 => ?_) (fun c_3 => ?_)
      · exact absurd c_3 hre
      · refine lv_aload_n hx hb dX8_lend_41 rfl (lv_at hl 0 rfl) ?_
        refine lv_iconst (v := 3) hx hb dX8_lend_42 (by decide) ?_
        refine me_callVi (As := [.int 3]) (rest := []) hC hl.1 hM (c_X8_refuse l D tb X z0 n mo F w av od sv sl nz ip ot M0 (3 : Int32) ) (kv_X8_265 hw rfl rfl ⟨Nat.le_of_ble_eq_true rfl, Nat.le_of_ble_eq_true rfl⟩) rfl rfl mq_F rfl (Nat.le_of_ble_eq_true rfl) dX8_lend_43 ⟨Nat.le_of_ble_eq_true rfl, Nat.le_of_ble_eq_true rfl⟩ (fun H locs hM => ?_)
        exact me_iret hC hr hlk hM (rfl) (rfl) (rfl) dX8_lend_46
    · have c_2 := b1_0.mp c_2
      exact absurd (ah_c (m := 6) hT hT2 hn1 hn2 (by omega) hs1 hs2) c_2
  · have c_1 := b1_0.mp c_1
    exact absurd (in_c hB (by omega) hb9) c_1
set_option maxHeartbeats 4000000 in
theorem c_X8_cancel (l : Launch) (D : va_G) (tb : Nat → ClassId) (X : State → Prop) (z0 n : Nat) (mo : Nat) (F w av od sv sl nz ip ot : Nat → Int32) (M0 : me_M) (S B L P : Nat) (T : Nat) (om : Nat) (k : Nat)  (hO : ok1 S B L P T w) (hT0 : T ≤ 9999) (hom : F 1 = nI om) (hom0 : om ≤ 10) (hk : k < L) (hst : w (261 + 5 * k + 4) = 0) : Met l yX8_cancel (.code yX8_cancel cX8_cancel 2 (some .int) :: ws_all) ({ frames := 2, cells := 0, slots := 0, locals := 43 } : Room) (me_Pc [.ref mo, .int (nI k)] D tb X z0 (mq tb mo F w av od sv sl nz ip ot M0) n) (me_Qi D z0 ((caS k w) (89 + 11 * ow (caS k w) k + 2)) (mq tb mo (upd (rmF F om) 0 0) (caS k w) av (rmO od w om) sv sl nz ip ot M0) n) 0 0 (me_A z0) := by
  refine me_open (by decide) (Nat.le_of_ble_eq_true rfl) ?_
  intro p e s m args below meth c ls hC hr hlk hnm hM hl
  have hl : lv_has ls 2 [(0, .ref mo), (1, .int (nI k))] := hl
  have hx := hC.1
  have hb := hC.2.1
  have hw := hC.2.2.2.2.1
  obtain ⟨hW, hZ, hT⟩ := id hO
  obtain ⟨hS, hS0, hB, hB0, hL, hL0, hP, hP0, hwb, hwl⟩ := id hW
  have hT2 : T ≤ 20000 := by omega
  have hW2 := wf_ca hW hk
  have hk2 := hW2.2.2.2.2.2.2.2.2.2 k hk
  refine lv_aload_n hx hb dX8_cancel_0 rfl (lv_at hl 0 rfl) ?_
  refine lv_iload_n hx hb dX8_cancel_1 rfl (lv_at hl 1 rfl) ?_
  refine me_callVi (As := [.int (nI k)]) (rest := []) hC hl.1 hM (c_X8_isLoan l D tb X z0 n mo F w av od sv sl nz ip ot M0 (nI k) ) (kv_X8_298 hw rfl rfl ⟨Nat.le_of_ble_eq_true rfl, Nat.le_of_ble_eq_true rfl⟩) rfl rfl mq_F rfl (Nat.le_of_ble_eq_true rfl) dX8_cancel_2 ⟨Nat.le_of_ble_eq_true rfl, Nat.le_of_ble_eq_true rfl⟩ (fun H locs hM => ?_)
  refine lv_if_ne (tgt := 14) hx hb dX8_cancel_5 (by decide) (fun c_1 => ?_) (fun c_1 => ?_)
  · have c_1 := b1_n0.mp c_1
    refine lv_aload_n hx hb dX8_cancel_14 rfl (lv_at hl 0 rfl) ?_
    refine fg_X8_13 hC hM mq_F rfl dX8_cancel_15 ?_
    refine lv_iload_n hx hb dX8_cancel_18 rfl (lv_at hl 1 rfl) ?_
    refine me_callSi (As := [.int (nI k)]) (rest := [.ref (mo + 2)]) hC hl.1 hM (c_X8_l l D tb X z0 n _ k ) (ks_X8_93 hw rfl rfl ⟨Nat.le_of_ble_eq_true rfl, Nat.le_of_ble_eq_true rfl⟩) rfl rfl (Nat.le_of_ble_eq_true rfl) dX8_cancel_19 ⟨Nat.le_of_ble_eq_true rfl, Nat.le_of_ble_eq_true rfl⟩ (fun H locs hM => ?_)
    refine lv_iconst (v := 4) hx hb dX8_cancel_22 (by decide) ?_
    refine lv_iadd hx hb dX8_cancel_23 ?_
    refine me_iald (k := 261 + 5 * k + 4) hC hM mq_w (nx_add rfl (nx_c 4)) (by omega) (by decide) dX8_cancel_24 ?_
    refine lv_if_eq (tgt := 34) hx hb dX8_cancel_25 (by decide) (fun c_2 => ?_) (fun c_2 => ?_)
    · refine lv_aload_n hx hb dX8_cancel_34 rfl (lv_at hl 0 rfl) ?_
      refine me_callVv (As := []) (rest := []) hC hl.1 hM (c_X8_remembers_a l D tb X z0 n mo F w av od sv sl nz ip ot M0 om hom hom0) (kv_X8_327 hw rfl rfl ⟨Nat.le_of_ble_eq_true rfl, Nat.le_of_ble_eq_true rfl⟩) rfl rfl mq_F rfl (Nat.le_of_ble_eq_true rfl) dX8_cancel_35 ⟨Nat.le_of_ble_eq_true rfl, Nat.le_of_ble_eq_true rfl⟩ (fun H locs hM => ?_)
      refine lv_aload_n hx hb dX8_cancel_38 rfl (lv_at hl 0 rfl) ?_
      refine lv_iload_n hx hb dX8_cancel_39 rfl (lv_at hl 1 rfl) ?_
      refine me_callVv (As := [.int (nI k)]) (rest := []) hC hl.1 hM (c_X8_cancels l D tb X z0 n mo (rmF F om) w av (rmO od w om) sv sl nz ip ot M0 S B L P k hW (by omega)) (kv_X8_141 hw rfl rfl ⟨Nat.le_of_ble_eq_true rfl, Nat.le_of_ble_eq_true rfl⟩) rfl rfl mq_F rfl (Nat.le_of_ble_eq_true rfl) dX8_cancel_40 ⟨Nat.le_of_ble_eq_true rfl, Nat.le_of_ble_eq_true rfl⟩ (fun H locs hM => ?_)
      refine lv_aload_n hx hb dX8_cancel_43 rfl (lv_at hl 0 rfl) ?_
      refine lv_aload_n hx hb dX8_cancel_44 rfl (lv_at hl 0 rfl) ?_
      refine fg_X8_13 hC hM mq_F rfl dX8_cancel_45 ?_
      refine lv_aload_n hx hb dX8_cancel_48 rfl (lv_at hl 0 rfl) ?_
      refine fg_X8_13 hC hM mq_F rfl dX8_cancel_49 ?_
      refine lv_iload_n hx hb dX8_cancel_52 rfl (lv_at hl 1 rfl) ?_
      refine me_callSi (As := [.int (nI k)]) (rest := [.ref (mo + 2), .ref (mo + 2), .ref mo]) hC hl.1 hM (c_X8_l l D tb X z0 n _ k ) (ks_X8_93 hw rfl rfl ⟨Nat.le_of_ble_eq_true rfl, Nat.le_of_ble_eq_true rfl⟩) rfl rfl (Nat.le_of_ble_eq_true rfl) dX8_cancel_53 ⟨Nat.le_of_ble_eq_true rfl, Nat.le_of_ble_eq_true rfl⟩ (fun H locs hM => ?_)
      refine lv_iconst (v := 0) hx hb dX8_cancel_56 (by decide) ?_
      refine lv_iadd hx hb dX8_cancel_57 ?_
      refine me_iald (k := 261 + 5 * k) hC hM mq_w (nx_z rfl) (by omega) (by decide) dX8_cancel_58 ?_
      refine me_stk (st2 := [.int (nI (ow (caS k w) k)), .ref (mo + 2), .ref mo]) (by rw [hk2.1]) ?_
      refine me_callSi (As := [.int (nI (ow (caS k w) k))]) (rest := [.ref (mo + 2), .ref mo]) hC hl.1 hM (c_X8_b l D tb X z0 n _ (ow (caS k w) k) ) (ks_X8_78 hw rfl rfl ⟨Nat.le_of_ble_eq_true rfl, Nat.le_of_ble_eq_true rfl⟩) rfl rfl (Nat.le_of_ble_eq_true rfl) dX8_cancel_59 ⟨Nat.le_of_ble_eq_true rfl, Nat.le_of_ble_eq_true rfl⟩ (fun H locs hM => ?_)
      refine lv_iconst (v := 2) hx hb dX8_cancel_62 (by decide) ?_
      refine lv_iadd hx hb dX8_cancel_63 ?_
      refine me_iald (k := 89 + 11 * (ow (caS k w) k) + 2) hC hM mq_w (nx_add rfl (nx_c 2)) (by omega) (by decide) dX8_cancel_64 ?_
      refine me_callVi (As := [.int ((caS k w) (89 + 11 * (ow (caS k w) k) + 2))]) (rest := []) hC hl.1 hM (c_X8_told l D tb X z0 n mo (rmF F om) (caS k w) av (rmO od w om) sv sl nz ip ot M0 ((caS k w) (89 + 11 * (ow (caS k w) k) + 2)) ) (kv_X8_271 hw rfl rfl ⟨Nat.le_of_ble_eq_true rfl, Nat.le_of_ble_eq_true rfl⟩) rfl rfl mq_F rfl (Nat.le_of_ble_eq_true rfl) dX8_cancel_65 ⟨Nat.le_of_ble_eq_true rfl, Nat.le_of_ble_eq_true rfl⟩ (fun H locs hM => ?_)
      exact me_iret hC hr hlk hM (rfl) (rfl) (rfl) dX8_cancel_68
    · exact absurd hst c_2
  · have c_1 := b1_0.mp c_1
    exact absurd (in_c hL (by omega) hk) c_1
set_option maxHeartbeats 4000000 in
theorem c_X8_cancel_x1 (l : Launch) (D : va_G) (tb : Nat → ClassId) (X : State → Prop) (z0 n : Nat) (mo : Nat) (F w av od sv sl nz ip ot : Nat → Int32) (M0 : me_M) (S B L P : Nat) (T : Nat) (x : Int32)  (hO : ok1 S B L P T w) (hT0 : T ≤ 9999) (hbad : x < 0 ∨ w 6 ≤ x) : Met l yX8_cancel (.code yX8_cancel cX8_cancel 2 (some .int) :: ws_all) ({ frames := 2, cells := 0, slots := 0, locals := 43 } : Room) (me_Pc [.ref mo, .int x] D tb X z0 (mq tb mo F w av od sv sl nz ip ot M0) n) (me_Qi D z0 0 (mq tb mo (upd F 0 1) w av od sv sl nz ip ot M0) n) 0 0 (me_A z0) := by
  refine me_open (by decide) (Nat.le_of_ble_eq_true rfl) ?_
  intro p e s m args below meth c ls hC hr hlk hnm hM hl
  have hl : lv_has ls 2 [(0, .ref mo), (1, .int x)] := hl
  have hx := hC.1
  have hb := hC.2.1
  have hw := hC.2.2.2.2.1
  obtain ⟨hW, hZ, hT⟩ := id hO
  obtain ⟨hS, hS0, hB, hB0, hL, hL0, hP, hP0, hwb, hwl⟩ := id hW
  have hT2 : T ≤ 20000 := by omega
  refine lv_aload_n hx hb dX8_cancel_0 rfl (lv_at hl 0 rfl) ?_
  refine lv_iload_n hx hb dX8_cancel_1 rfl (lv_at hl 1 rfl) ?_
  refine me_callVi (As := [.int x]) (rest := []) hC hl.1 hM (c_X8_isLoan l D tb X z0 n mo F w av od sv sl nz ip ot M0 x ) (kv_X8_298 hw rfl rfl ⟨Nat.le_of_ble_eq_true rfl, Nat.le_of_ble_eq_true rfl⟩) rfl rfl mq_F rfl (Nat.le_of_ble_eq_true rfl) dX8_cancel_2 ⟨Nat.le_of_ble_eq_true rfl, Nat.le_of_ble_eq_true rfl⟩ (fun H locs hM => ?_)
  refine lv_if_ne (tgt := 14) hx hb dX8_cancel_5 (by decide) (fun c_1 => ?_) (fun c_1 => ?_)
  · have c_1 := b1_n0.mp c_1
    exact absurd c_1 (in_x hL (by omega) hbad)
  · have c_1 := b1_0.mp c_1
    refine lv_aload_n hx hb dX8_cancel_8 rfl (lv_at hl 0 rfl) ?_
    refine lv_iconst (v := 1) hx hb dX8_cancel_9 (by decide) ?_
    refine me_callVi (As := [.int 1]) (rest := []) hC hl.1 hM (c_X8_refuse l D tb X z0 n mo F w av od sv sl nz ip ot M0 (1 : Int32) ) (kv_X8_265 hw rfl rfl ⟨Nat.le_of_ble_eq_true rfl, Nat.le_of_ble_eq_true rfl⟩) rfl rfl mq_F rfl (Nat.le_of_ble_eq_true rfl) dX8_cancel_10 ⟨Nat.le_of_ble_eq_true rfl, Nat.le_of_ble_eq_true rfl⟩ (fun H locs hM => ?_)
    exact me_iret hC hr hlk hM (rfl) (rfl) (rfl) dX8_cancel_13
set_option maxHeartbeats 4000000 in
theorem c_X8_cancel_x2 (l : Launch) (D : va_G) (tb : Nat → ClassId) (X : State → Prop) (z0 n : Nat) (mo : Nat) (F w av od sv sl nz ip ot : Nat → Int32) (M0 : me_M) (S B L P : Nat) (T : Nat) (k : Nat)  (hO : ok1 S B L P T w) (hT0 : T ≤ 9999) (hk : k < L) (hst : ¬ w (261 + 5 * k + 4) = 0) : Met l yX8_cancel (.code yX8_cancel cX8_cancel 2 (some .int) :: ws_all) ({ frames := 2, cells := 0, slots := 0, locals := 43 } : Room) (me_Pc [.ref mo, .int (nI k)] D tb X z0 (mq tb mo F w av od sv sl nz ip ot M0) n) (me_Qi D z0 0 (mq tb mo (upd F 0 2) w av od sv sl nz ip ot M0) n) 0 0 (me_A z0) := by
  refine me_open (by decide) (Nat.le_of_ble_eq_true rfl) ?_
  intro p e s m args below meth c ls hC hr hlk hnm hM hl
  have hl : lv_has ls 2 [(0, .ref mo), (1, .int (nI k))] := hl
  have hx := hC.1
  have hb := hC.2.1
  have hw := hC.2.2.2.2.1
  obtain ⟨hW, hZ, hT⟩ := id hO
  obtain ⟨hS, hS0, hB, hB0, hL, hL0, hP, hP0, hwb, hwl⟩ := id hW
  have hT2 : T ≤ 20000 := by omega
  refine lv_aload_n hx hb dX8_cancel_0 rfl (lv_at hl 0 rfl) ?_
  refine lv_iload_n hx hb dX8_cancel_1 rfl (lv_at hl 1 rfl) ?_
  refine me_callVi (As := [.int (nI k)]) (rest := []) hC hl.1 hM (c_X8_isLoan l D tb X z0 n mo F w av od sv sl nz ip ot M0 (nI k) ) (kv_X8_298 hw rfl rfl ⟨Nat.le_of_ble_eq_true rfl, Nat.le_of_ble_eq_true rfl⟩) rfl rfl mq_F rfl (Nat.le_of_ble_eq_true rfl) dX8_cancel_2 ⟨Nat.le_of_ble_eq_true rfl, Nat.le_of_ble_eq_true rfl⟩ (fun H locs hM => ?_)
  refine lv_if_ne (tgt := 14) hx hb dX8_cancel_5 (by decide) (fun c_1 => ?_) (fun c_1 => ?_)
  · have c_1 := b1_n0.mp c_1
    refine lv_aload_n hx hb dX8_cancel_14 rfl (lv_at hl 0 rfl) ?_
    refine fg_X8_13 hC hM mq_F rfl dX8_cancel_15 ?_
    refine lv_iload_n hx hb dX8_cancel_18 rfl (lv_at hl 1 rfl) ?_
    refine me_callSi (As := [.int (nI k)]) (rest := [.ref (mo + 2)]) hC hl.1 hM (c_X8_l l D tb X z0 n _ k ) (ks_X8_93 hw rfl rfl ⟨Nat.le_of_ble_eq_true rfl, Nat.le_of_ble_eq_true rfl⟩) rfl rfl (Nat.le_of_ble_eq_true rfl) dX8_cancel_19 ⟨Nat.le_of_ble_eq_true rfl, Nat.le_of_ble_eq_true rfl⟩ (fun H locs hM => ?_)
    refine lv_iconst (v := 4) hx hb dX8_cancel_22 (by decide) ?_
    refine lv_iadd hx hb dX8_cancel_23 ?_
    refine me_iald (k := 261 + 5 * k + 4) hC hM mq_w (nx_add rfl (nx_c 4)) (by omega) (by decide) dX8_cancel_24 ?_
    refine lv_if_eq (tgt := 34) hx hb dX8_cancel_25 (by decide) (fun c_2 => ?_) (fun c_2 => ?_)
    · exact absurd c_2 hst
    · refine lv_aload_n hx hb dX8_cancel_28 rfl (lv_at hl 0 rfl) ?_
      refine lv_iconst (v := 2) hx hb dX8_cancel_29 (by decide) ?_
      refine me_callVi (As := [.int 2]) (rest := []) hC hl.1 hM (c_X8_refuse l D tb X z0 n mo F w av od sv sl nz ip ot M0 (2 : Int32) ) (kv_X8_265 hw rfl rfl ⟨Nat.le_of_ble_eq_true rfl, Nat.le_of_ble_eq_true rfl⟩) rfl rfl mq_F rfl (Nat.le_of_ble_eq_true rfl) dX8_cancel_30 ⟨Nat.le_of_ble_eq_true rfl, Nat.le_of_ble_eq_true rfl⟩ (fun H locs hM => ?_)
      exact me_iret hC hr hlk hM (rfl) (rfl) (rfl) dX8_cancel_33
  · have c_1 := b1_0.mp c_1
    exact absurd (in_c hL (by omega) hk) c_1
set_option maxHeartbeats 4000000 in
theorem c_X8_whistle (l : Launch) (D : va_G) (tb : Nat → ClassId) (X : State → Prop) (z0 n : Nat) (mo : Nat) (F w av od sv sl nz ip ot : Nat → Int32) (M0 : me_M) (S B L P : Nat) (T : Nat) (om : Nat) (k : Nat)  (hO : ok1 S B L P T w) (hT0 : T ≤ 9999) (hom : F 1 = nI om) (hom0 : om ≤ 10) (hk : k < L) (hst : whC w k) : Met l yX8_whistle (.code yX8_whistle cX8_whistle 2 (some .int) :: ws_all) ({ frames := 2, cells := 0, slots := 0, locals := 43 } : Room) (me_Pc [.ref mo, .int (nI k)] D tb X z0 (mq tb mo F w av od sv sl nz ip ot M0) n) (me_Qi D z0 (w 2 - (w (261 + 5 * k + 1) + w (261 + 5 * k + 2))) (mq tb mo (upd (rmF F om) 0 0) (wsG k w) av (rmO od w om) sv sl nz ip ot M0) n) 0 0 (me_A z0) := by
  refine me_open (by decide) (Nat.le_of_ble_eq_true rfl) ?_
  intro p e s m args below meth c ls hC hr hlk hnm hM hl
  have hl : lv_has ls 2 [(0, .ref mo), (1, .int (nI k))] := hl
  have hx := hC.1
  have hb := hC.2.1
  have hw := hC.2.2.2.2.1
  obtain ⟨hW, hZ, hT⟩ := id hO
  obtain ⟨hS, hS0, hB, hB0, hL, hL0, hP, hP0, hwb, hwl⟩ := id hW
  have hT2 : T ≤ 20000 := by omega
  refine lv_aload_n hx hb dX8_whistle_0 rfl (lv_at hl 0 rfl) ?_
  refine lv_iload_n hx hb dX8_whistle_1 rfl (lv_at hl 1 rfl) ?_
  refine me_callVi (As := [.int (nI k)]) (rest := []) hC hl.1 hM (c_X8_isLoan l D tb X z0 n mo F w av od sv sl nz ip ot M0 (nI k) ) (kv_X8_298 hw rfl rfl ⟨Nat.le_of_ble_eq_true rfl, Nat.le_of_ble_eq_true rfl⟩) rfl rfl mq_F rfl (Nat.le_of_ble_eq_true rfl) dX8_whistle_2 ⟨Nat.le_of_ble_eq_true rfl, Nat.le_of_ble_eq_true rfl⟩ (fun H locs hM => ?_)
  refine lv_if_ne (tgt := 14) hx hb dX8_whistle_5 (by decide) (fun c_1 => ?_) (fun c_1 => ?_)
  · have c_1 := b1_n0.mp c_1
    refine lv_aload_n hx hb dX8_whistle_14 rfl (lv_at hl 0 rfl) ?_
    refine lv_iload_n hx hb dX8_whistle_15 rfl (lv_at hl 1 rfl) ?_
    refine me_callVi (As := [.int (nI k)]) (rest := []) hC hl.1 hM (c_X8_canWhistle l D tb X z0 n mo F w av od sv sl nz ip ot M0 k (by omega)) (kv_X8_235 hw rfl rfl ⟨Nat.le_of_ble_eq_true rfl, Nat.le_of_ble_eq_true rfl⟩) rfl rfl mq_F rfl (Nat.le_of_ble_eq_true rfl) dX8_whistle_16 ⟨Nat.le_of_ble_eq_true rfl, Nat.le_of_ble_eq_true rfl⟩ (fun H locs hM => ?_)
    refine lv_if_ne (tgt := 28) hx hb dX8_whistle_19 (by decide) (fun c_2 => ?_) (fun c_2 => ?_)
    · have c_2 := b1_n0.mp c_2
      refine lv_aload_n hx hb dX8_whistle_28 rfl (lv_at hl 0 rfl) ?_
      refine me_callVv (As := []) (rest := []) hC hl.1 hM (c_X8_remembers_a l D tb X z0 n mo F w av od sv sl nz ip ot M0 om hom hom0) (kv_X8_327 hw rfl rfl ⟨Nat.le_of_ble_eq_true rfl, Nat.le_of_ble_eq_true rfl⟩) rfl rfl mq_F rfl (Nat.le_of_ble_eq_true rfl) dX8_whistle_29 ⟨Nat.le_of_ble_eq_true rfl, Nat.le_of_ble_eq_true rfl⟩ (fun H locs hM => ?_)
      refine lv_aload_n hx hb dX8_whistle_32 rfl (lv_at hl 0 rfl) ?_
      refine fg_X8_13 hC hM mq_F rfl dX8_whistle_33 ?_
      refine lv_iload_n hx hb dX8_whistle_36 rfl (lv_at hl 1 rfl) ?_
      refine me_callSi (As := [.int (nI k)]) (rest := [.ref (mo + 2)]) hC hl.1 hM (c_X8_l l D tb X z0 n _ k ) (ks_X8_93 hw rfl rfl ⟨Nat.le_of_ble_eq_true rfl, Nat.le_of_ble_eq_true rfl⟩) rfl rfl (Nat.le_of_ble_eq_true rfl) dX8_whistle_37 ⟨Nat.le_of_ble_eq_true rfl, Nat.le_of_ble_eq_true rfl⟩ (fun H locs hM => ?_)
      refine lv_iconst (v := 4) hx hb dX8_whistle_40 (by decide) ?_
      refine lv_iadd hx hb dX8_whistle_41 ?_
      refine lv_iconst (v := 3) hx hb dX8_whistle_42 (by decide) ?_
      refine me_iast (k := 261 + 5 * k + 4) (M2 := mq tb mo (rmF F om) (upd w (261 + 5 * k + 4) 3) av (rmO od w om) sv sl nz ip ot M0) hC hM mq_w (nx_add rfl (nx_c 4)) (by omega) (by decide) mq_w_w dX8_whistle_43 (fun H locs hM => ?_)
      refine lv_aload_n hx hb dX8_whistle_44 rfl (lv_at hl 0 rfl) ?_
      refine lv_aload_n hx hb dX8_whistle_45 rfl (lv_at hl 0 rfl) ?_
      refine fg_X8_13 hC hM mq_F rfl dX8_whistle_46 ?_
      refine lv_iconst (v := 2) hx hb dX8_whistle_49 (by decide) ?_
      refine me_iald (k := 2) hC hM mq_w (nx_c 2) (by omega) (by decide) dX8_whistle_50 ?_
      refine me_evi (y := w 2) (upd_n (by omega)) ?_
      refine lv_aload_n hx hb dX8_whistle_51 rfl (lv_at hl 0 rfl) ?_
      refine lv_iload_n hx hb dX8_whistle_52 rfl (lv_at hl 1 rfl) ?_
      refine me_callVi (As := [.int (nI k)]) (rest := [.int (w 2), .ref mo]) hC hl.1 hM (c_X8_endOf l D tb X z0 n mo (rmF F om) (upd w (261 + 5 * k + 4) 3) av (rmO od w om) sv sl nz ip ot M0 k (by omega)) (kv_X8_99 hw rfl rfl ⟨Nat.le_of_ble_eq_true rfl, Nat.le_of_ble_eq_true rfl⟩) rfl rfl mq_F rfl (Nat.le_of_ble_eq_true rfl) dX8_whistle_53 ⟨Nat.le_of_ble_eq_true rfl, Nat.le_of_ble_eq_true rfl⟩ (fun H locs hM => ?_)
      refine lv_isub hx hb dX8_whistle_56 ?_
      refine me_callVi (As := [.int ((w 2) - ((upd w (261 + 5 * k + 4) 3) (261 + 5 * k + 1) + (upd w (261 + 5 * k + 4) 3) (261 + 5 * k + 2)))]) (rest := []) hC hl.1 hM (c_X8_told l D tb X z0 n mo (rmF F om) (upd w (261 + 5 * k + 4) 3) av (rmO od w om) sv sl nz ip ot M0 ((w 2) - ((upd w (261 + 5 * k + 4) 3) (261 + 5 * k + 1) + (upd w (261 + 5 * k + 4) 3) (261 + 5 * k + 2))) ) (kv_X8_271 hw rfl rfl ⟨Nat.le_of_ble_eq_true rfl, Nat.le_of_ble_eq_true rfl⟩) rfl rfl mq_F rfl (Nat.le_of_ble_eq_true rfl) dX8_whistle_57 ⟨Nat.le_of_ble_eq_true rfl, Nat.le_of_ble_eq_true rfl⟩ (fun H locs hM => ?_)
      exact me_iret hC hr hlk hM (by rw [upd_n (by omega), upd_n (by omega)]) (rfl) (rfl) dX8_whistle_60
    · have c_2 := b1_0.mp c_2
      exact absurd (hst) c_2
  · have c_1 := b1_0.mp c_1
    exact absurd (in_c hL (by omega) hk) c_1
set_option maxHeartbeats 4000000 in
theorem c_X8_whistle_x1 (l : Launch) (D : va_G) (tb : Nat → ClassId) (X : State → Prop) (z0 n : Nat) (mo : Nat) (F w av od sv sl nz ip ot : Nat → Int32) (M0 : me_M) (S B L P : Nat) (T : Nat) (x : Int32)  (hO : ok1 S B L P T w) (hT0 : T ≤ 9999) (hbad : x < 0 ∨ w 6 ≤ x) : Met l yX8_whistle (.code yX8_whistle cX8_whistle 2 (some .int) :: ws_all) ({ frames := 2, cells := 0, slots := 0, locals := 43 } : Room) (me_Pc [.ref mo, .int x] D tb X z0 (mq tb mo F w av od sv sl nz ip ot M0) n) (me_Qi D z0 0 (mq tb mo (upd F 0 1) w av od sv sl nz ip ot M0) n) 0 0 (me_A z0) := by
  refine me_open (by decide) (Nat.le_of_ble_eq_true rfl) ?_
  intro p e s m args below meth c ls hC hr hlk hnm hM hl
  have hl : lv_has ls 2 [(0, .ref mo), (1, .int x)] := hl
  have hx := hC.1
  have hb := hC.2.1
  have hw := hC.2.2.2.2.1
  obtain ⟨hW, hZ, hT⟩ := id hO
  obtain ⟨hS, hS0, hB, hB0, hL, hL0, hP, hP0, hwb, hwl⟩ := id hW
  have hT2 : T ≤ 20000 := by omega
  refine lv_aload_n hx hb dX8_whistle_0 rfl (lv_at hl 0 rfl) ?_
  refine lv_iload_n hx hb dX8_whistle_1 rfl (lv_at hl 1 rfl) ?_
  refine me_callVi (As := [.int x]) (rest := []) hC hl.1 hM (c_X8_isLoan l D tb X z0 n mo F w av od sv sl nz ip ot M0 x ) (kv_X8_298 hw rfl rfl ⟨Nat.le_of_ble_eq_true rfl, Nat.le_of_ble_eq_true rfl⟩) rfl rfl mq_F rfl (Nat.le_of_ble_eq_true rfl) dX8_whistle_2 ⟨Nat.le_of_ble_eq_true rfl, Nat.le_of_ble_eq_true rfl⟩ (fun H locs hM => ?_)
  refine lv_if_ne (tgt := 14) hx hb dX8_whistle_5 (by decide) (fun c_1 => ?_) (fun c_1 => ?_)
  · have c_1 := b1_n0.mp c_1
    exact absurd c_1 (in_x hL (by omega) hbad)
  · have c_1 := b1_0.mp c_1
    refine lv_aload_n hx hb dX8_whistle_8 rfl (lv_at hl 0 rfl) ?_
    refine lv_iconst (v := 1) hx hb dX8_whistle_9 (by decide) ?_
    refine me_callVi (As := [.int 1]) (rest := []) hC hl.1 hM (c_X8_refuse l D tb X z0 n mo F w av od sv sl nz ip ot M0 (1 : Int32) ) (kv_X8_265 hw rfl rfl ⟨Nat.le_of_ble_eq_true rfl, Nat.le_of_ble_eq_true rfl⟩) rfl rfl mq_F rfl (Nat.le_of_ble_eq_true rfl) dX8_whistle_10 ⟨Nat.le_of_ble_eq_true rfl, Nat.le_of_ble_eq_true rfl⟩ (fun H locs hM => ?_)
    exact me_iret hC hr hlk hM (rfl) (rfl) (rfl) dX8_whistle_13
set_option maxHeartbeats 4000000 in
theorem c_X8_whistle_x2 (l : Launch) (D : va_G) (tb : Nat → ClassId) (X : State → Prop) (z0 n : Nat) (mo : Nat) (F w av od sv sl nz ip ot : Nat → Int32) (M0 : me_M) (S B L P : Nat) (T : Nat) (k : Nat)  (hO : ok1 S B L P T w) (hT0 : T ≤ 9999) (hk : k < L) (hst : ¬ whC w k) : Met l yX8_whistle (.code yX8_whistle cX8_whistle 2 (some .int) :: ws_all) ({ frames := 2, cells := 0, slots := 0, locals := 43 } : Room) (me_Pc [.ref mo, .int (nI k)] D tb X z0 (mq tb mo F w av od sv sl nz ip ot M0) n) (me_Qi D z0 0 (mq tb mo (upd F 0 2) w av od sv sl nz ip ot M0) n) 0 0 (me_A z0) := by
  refine me_open (by decide) (Nat.le_of_ble_eq_true rfl) ?_
  intro p e s m args below meth c ls hC hr hlk hnm hM hl
  have hl : lv_has ls 2 [(0, .ref mo), (1, .int (nI k))] := hl
  have hx := hC.1
  have hb := hC.2.1
  have hw := hC.2.2.2.2.1
  obtain ⟨hW, hZ, hT⟩ := id hO
  obtain ⟨hS, hS0, hB, hB0, hL, hL0, hP, hP0, hwb, hwl⟩ := id hW
  have hT2 : T ≤ 20000 := by omega
  refine lv_aload_n hx hb dX8_whistle_0 rfl (lv_at hl 0 rfl) ?_
  refine lv_iload_n hx hb dX8_whistle_1 rfl (lv_at hl 1 rfl) ?_
  refine me_callVi (As := [.int (nI k)]) (rest := []) hC hl.1 hM (c_X8_isLoan l D tb X z0 n mo F w av od sv sl nz ip ot M0 (nI k) ) (kv_X8_298 hw rfl rfl ⟨Nat.le_of_ble_eq_true rfl, Nat.le_of_ble_eq_true rfl⟩) rfl rfl mq_F rfl (Nat.le_of_ble_eq_true rfl) dX8_whistle_2 ⟨Nat.le_of_ble_eq_true rfl, Nat.le_of_ble_eq_true rfl⟩ (fun H locs hM => ?_)
  refine lv_if_ne (tgt := 14) hx hb dX8_whistle_5 (by decide) (fun c_1 => ?_) (fun c_1 => ?_)
  · have c_1 := b1_n0.mp c_1
    refine lv_aload_n hx hb dX8_whistle_14 rfl (lv_at hl 0 rfl) ?_
    refine lv_iload_n hx hb dX8_whistle_15 rfl (lv_at hl 1 rfl) ?_
    refine me_callVi (As := [.int (nI k)]) (rest := []) hC hl.1 hM (c_X8_canWhistle l D tb X z0 n mo F w av od sv sl nz ip ot M0 k (by omega)) (kv_X8_235 hw rfl rfl ⟨Nat.le_of_ble_eq_true rfl, Nat.le_of_ble_eq_true rfl⟩) rfl rfl mq_F rfl (Nat.le_of_ble_eq_true rfl) dX8_whistle_16 ⟨Nat.le_of_ble_eq_true rfl, Nat.le_of_ble_eq_true rfl⟩ (fun H locs hM => ?_)
    refine lv_if_ne (tgt := 28) hx hb dX8_whistle_19 (by decide) (fun c_2 => ?_) (fun c_2 => ?_)
    · have c_2 := b1_n0.mp c_2
      exact absurd c_2 (hst)
    · have c_2 := b1_0.mp c_2
      refine lv_aload_n hx hb dX8_whistle_22 rfl (lv_at hl 0 rfl) ?_
      refine lv_iconst (v := 2) hx hb dX8_whistle_23 (by decide) ?_
      refine me_callVi (As := [.int 2]) (rest := []) hC hl.1 hM (c_X8_refuse l D tb X z0 n mo F w av od sv sl nz ip ot M0 (2 : Int32) ) (kv_X8_265 hw rfl rfl ⟨Nat.le_of_ble_eq_true rfl, Nat.le_of_ble_eq_true rfl⟩) rfl rfl mq_F rfl (Nat.le_of_ble_eq_true rfl) dX8_whistle_24 ⟨Nat.le_of_ble_eq_true rfl, Nat.le_of_ble_eq_true rfl⟩ (fun H locs hM => ?_)
      exact me_iret hC hr hlk hM (rfl) (rfl) (rfl) dX8_whistle_27
  · have c_1 := b1_0.mp c_1
    exact absurd (in_c hL (by omega) hk) c_1
set_option maxHeartbeats 4000000 in
theorem c_X8_grantPermit (l : Launch) (D : va_G) (tb : Nat → ClassId) (X : State → Prop) (z0 n : Nat) (mo : Nat) (F w av od sv sl nz ip ot : Nat → Int32) (M0 : me_M) (S B L P : Nat) (T : Nat) (om : Nat) (s1 s0 n9 : Nat)  (hO : ok1 S B L P T w) (hT0 : T ≤ 9999) (hom : F 1 = nI om) (hom0 : om ≤ 10) (hs9 : s1 < S) (hn1 : 1 ≤ n9) (hn2 : n9 ≤ 12) (hs1 : T ≤ s0) (hs2 : s0 + n9 ≤ T + 48) (hok : fi (fun k => cpP w L (nI s1) (nI s0) (nI n9) k) L 0 = -1 ∧ P < 10) : Met l yX8_grantPermit (.code yX8_grantPermit cX8_grantPermit 4 (some .int) :: ws_all) ({ frames := 4, cells := 0, slots := 0, locals := 88 } : Room) (me_Pc [.ref mo, .int (nI s1), .int (nI s0), .int (nI n9)] D tb X z0 (mq tb mo F w av od sv sl nz ip ot M0) n) (me_Qi D z0 (nI P) (mq tb mo (upd (rmF F om) 0 0) (apF w P (nI s1) (nI s0) (nI n9)) av (rmO od w om) sv sl nz ip ot M0) n) 0 0 (me_A z0) := by
  refine me_open (by decide) (Nat.le_of_ble_eq_true rfl) ?_
  intro p e s m args below meth c ls hC hr hlk hnm hM hl
  have hl : lv_has ls 4 [(0, .ref mo), (1, .int (nI s1)), (2, .int (nI s0)), (3, .int (nI n9))] := hl
  have hx := hC.1
  have hb := hC.2.1
  have hw := hC.2.2.2.2.1
  obtain ⟨hW, hZ, hT⟩ := id hO
  obtain ⟨hS, hS0, hB, hB0, hL, hL0, hP, hP0, hwb, hwl⟩ := id hW
  have hT2 : T ≤ 20000 := by omega
  have hP9 : P < 10 := hok.2
  have hP2 : apF w P (nI s1) (nI s0) (nI n9) 5 = nI (P + 1) := (ok_ap2 (st := nI s1) (s := nI s0) (n := nI n9) hO hP9).1.2.2.2.2.2.2.1
  refine lv_aload_n hx hb dX8_grantPermit_0 rfl (lv_at hl 0 rfl) ?_
  refine lv_iload_n hx hb dX8_grantPermit_1 rfl (lv_at hl 1 rfl) ?_
  refine me_callVi (As := [.int (nI s1)]) (rest := []) hC hl.1 hM (c_X8_isStreet l D tb X z0 n mo F w av od sv sl nz ip ot M0 (nI s1) ) (kv_X8_289 hw rfl rfl ⟨Nat.le_of_ble_eq_true rfl, Nat.le_of_ble_eq_true rfl⟩) rfl rfl mq_F rfl (Nat.le_of_ble_eq_true rfl) dX8_grantPermit_2 ⟨Nat.le_of_ble_eq_true rfl, Nat.le_of_ble_eq_true rfl⟩ (fun H locs hM => ?_)
  refine lv_if_ne (tgt := 14) hx hb dX8_grantPermit_5 (by decide) (fun c_1 => ?_) (fun c_1 => ?_)
  · have c_1 := b1_n0.mp c_1
    refine lv_aload_n hx hb dX8_grantPermit_14 rfl (lv_at hl 0 rfl) ?_
    refine lv_iload_n hx hb dX8_grantPermit_15 rfl (lv_at hl 2 rfl) ?_
    refine lv_iload_n hx hb dX8_grantPermit_16 rfl (lv_at hl 3 rfl) ?_
    refine lv_bipush (v := 12) hx hb dX8_grantPermit_17 (by decide) ?_
    refine me_callVi (As := [.int (nI s0), .int (nI n9), .int 12]) (rest := []) hC hl.1 hM (c_X8_areHours l D tb X z0 n mo F w av od sv sl nz ip ot M0 (nI s0) (nI n9) 12 ) (kv_X8_307 hw rfl rfl ⟨Nat.le_of_ble_eq_true rfl, Nat.le_of_ble_eq_true rfl⟩) rfl rfl mq_F rfl (Nat.le_of_ble_eq_true rfl) dX8_grantPermit_19 ⟨Nat.le_of_ble_eq_true rfl, Nat.le_of_ble_eq_true rfl⟩ (fun H locs hM => ?_)
    refine lv_if_ne (tgt := 31) hx hb dX8_grantPermit_22 (by decide) (fun c_2 => ?_) (fun c_2 => ?_)
    · have c_2 := b1_n0.mp c_2
      refine lv_aload_n hx hb dX8_grantPermit_31 rfl (lv_at hl 0 rfl) ?_
      refine lv_iload_n hx hb dX8_grantPermit_32 rfl (lv_at hl 1 rfl) ?_
      refine lv_iload_n hx hb dX8_grantPermit_33 rfl (lv_at hl 2 rfl) ?_
      refine lv_iload_n hx hb dX8_grantPermit_34 rfl (lv_at hl 3 rfl) ?_
      refine me_callVi (As := [.int (nI s1), .int (nI s0), .int (nI n9)]) (rest := []) hC hl.1 hM (c_X8_canPermit l D tb X z0 n mo F w av od sv sl nz ip ot M0 S B L P (nI s1) (nI s0) (nI n9) hW hZ) (kv_X8_226 hw rfl rfl ⟨Nat.le_of_ble_eq_true rfl, Nat.le_of_ble_eq_true rfl⟩) rfl rfl mq_F rfl (Nat.le_of_ble_eq_true rfl) dX8_grantPermit_35 ⟨Nat.le_of_ble_eq_true rfl, Nat.le_of_ble_eq_true rfl⟩ (fun H locs hM => ?_)
      refine lv_if_ne (tgt := 47) hx hb dX8_grantPermit_38 (by decide) (fun c_3 => ?_) (fun c_3 => ?_)
      · have c_3 := b1_n0.mp c_3
        refine lv_aload_n hx hb dX8_grantPermit_47 rfl (lv_at hl 0 rfl) ?_
        refine me_callVv (As := []) (rest := []) hC hl.1 hM (c_X8_remembers_a l D tb X z0 n mo F w av od sv sl nz ip ot M0 om hom hom0) (kv_X8_327 hw rfl rfl ⟨Nat.le_of_ble_eq_true rfl, Nat.le_of_ble_eq_true rfl⟩) rfl rfl mq_F rfl (Nat.le_of_ble_eq_true rfl) dX8_grantPermit_48 ⟨Nat.le_of_ble_eq_true rfl, Nat.le_of_ble_eq_true rfl⟩ (fun H locs hM => ?_)
        refine lv_aload_n hx hb dX8_grantPermit_51 rfl (lv_at hl 0 rfl) ?_
        refine lv_iload_n hx hb dX8_grantPermit_52 rfl (lv_at hl 1 rfl) ?_
        refine lv_iload_n hx hb dX8_grantPermit_53 rfl (lv_at hl 2 rfl) ?_
        refine lv_iload_n hx hb dX8_grantPermit_54 rfl (lv_at hl 3 rfl) ?_
        refine me_callVv (As := [.int (nI s1), .int (nI s0), .int (nI n9)]) (rest := []) hC hl.1 hM (c_X8_permits l D tb X z0 n mo (rmF F om) w av (rmO od w om) sv sl nz ip ot M0 S B L P (nI s1) (nI s0) (nI n9) hW (by omega)) (kv_X8_54 hw rfl rfl ⟨Nat.le_of_ble_eq_true rfl, Nat.le_of_ble_eq_true rfl⟩) rfl rfl mq_F rfl (Nat.le_of_ble_eq_true rfl) dX8_grantPermit_55 ⟨Nat.le_of_ble_eq_true rfl, Nat.le_of_ble_eq_true rfl⟩ (fun H locs hM => ?_)
        refine lv_aload_n hx hb dX8_grantPermit_58 rfl (lv_at hl 0 rfl) ?_
        refine lv_aload_n hx hb dX8_grantPermit_59 rfl (lv_at hl 0 rfl) ?_
        refine fg_X8_13 hC hM mq_F rfl dX8_grantPermit_60 ?_
        refine lv_iconst (v := 5) hx hb dX8_grantPermit_63 (by decide) ?_
        refine me_iald (k := 5) hC hM mq_w (nx_c 5) (by omega) (by decide) dX8_grantPermit_64 ?_
        refine lv_iconst (v := 1) hx hb dX8_grantPermit_65 (by decide) ?_
        refine lv_isub hx hb dX8_grantPermit_66 ?_
        refine me_callVi (As := [.int (((apF w P (nI s1) (nI s0) (nI n9)) 5) - 1)]) (rest := []) hC hl.1 hM (c_X8_told l D tb X z0 n mo (rmF F om) (apF w P (nI s1) (nI s0) (nI n9)) av (rmO od w om) sv sl nz ip ot M0 (((apF w P (nI s1) (nI s0) (nI n9)) 5) - 1) ) (kv_X8_271 hw rfl rfl ⟨Nat.le_of_ble_eq_true rfl, Nat.le_of_ble_eq_true rfl⟩) rfl rfl mq_F rfl (Nat.le_of_ble_eq_true rfl) dX8_grantPermit_67 ⟨Nat.le_of_ble_eq_true rfl, Nat.le_of_ble_eq_true rfl⟩ (fun H locs hM => ?_)
        exact me_iret hC hr hlk hM (by rw [hP2]; exact nI_pred P) (rfl) (rfl) dX8_grantPermit_70
      · have c_3 := b1_0.mp c_3
        exact absurd (hok) c_3
    · have c_2 := b1_0.mp c_2
      exact absurd (ah_c (m := 12) hT hT2 hn1 hn2 (by omega) hs1 hs2) c_2
  · have c_1 := b1_0.mp c_1
    exact absurd (in_c hS (by omega) hs9) c_1
set_option maxHeartbeats 4000000 in
theorem c_X8_grantPermit_x1 (l : Launch) (D : va_G) (tb : Nat → ClassId) (X : State → Prop) (z0 n : Nat) (mo : Nat) (F w av od sv sl nz ip ot : Nat → Int32) (M0 : me_M) (S B L P : Nat) (T : Nat) (x : Int32) (y9 z9 : Int32)  (hO : ok1 S B L P T w) (hT0 : T ≤ 9999) (hbad : x < 0 ∨ w 3 ≤ x) : Met l yX8_grantPermit (.code yX8_grantPermit cX8_grantPermit 4 (some .int) :: ws_all) ({ frames := 2, cells := 0, slots := 0, locals := 43 } : Room) (me_Pc [.ref mo, .int x, .int y9, .int z9] D tb X z0 (mq tb mo F w av od sv sl nz ip ot M0) n) (me_Qi D z0 0 (mq tb mo (upd F 0 1) w av od sv sl nz ip ot M0) n) 0 0 (me_A z0) := by
  refine me_open (by decide) (Nat.le_of_ble_eq_true rfl) ?_
  intro p e s m args below meth c ls hC hr hlk hnm hM hl
  have hl : lv_has ls 4 [(0, .ref mo), (1, .int x), (2, .int y9), (3, .int z9)] := hl
  have hx := hC.1
  have hb := hC.2.1
  have hw := hC.2.2.2.2.1
  obtain ⟨hW, hZ, hT⟩ := id hO
  obtain ⟨hS, hS0, hB, hB0, hL, hL0, hP, hP0, hwb, hwl⟩ := id hW
  have hT2 : T ≤ 20000 := by omega
  refine lv_aload_n hx hb dX8_grantPermit_0 rfl (lv_at hl 0 rfl) ?_
  refine lv_iload_n hx hb dX8_grantPermit_1 rfl (lv_at hl 1 rfl) ?_
  refine me_callVi (As := [.int x]) (rest := []) hC hl.1 hM (c_X8_isStreet l D tb X z0 n mo F w av od sv sl nz ip ot M0 x ) (kv_X8_289 hw rfl rfl ⟨Nat.le_of_ble_eq_true rfl, Nat.le_of_ble_eq_true rfl⟩) rfl rfl mq_F rfl (Nat.le_of_ble_eq_true rfl) dX8_grantPermit_2 ⟨Nat.le_of_ble_eq_true rfl, Nat.le_of_ble_eq_true rfl⟩ (fun H locs hM => ?_)
  refine lv_if_ne (tgt := 14) hx hb dX8_grantPermit_5 (by decide) (fun c_1 => ?_) (fun c_1 => ?_)
  · have c_1 := b1_n0.mp c_1
    exact absurd c_1 (in_x hS (by omega) hbad)
  · have c_1 := b1_0.mp c_1
    refine lv_aload_n hx hb dX8_grantPermit_8 rfl (lv_at hl 0 rfl) ?_
    refine lv_iconst (v := 1) hx hb dX8_grantPermit_9 (by decide) ?_
    refine me_callVi (As := [.int 1]) (rest := []) hC hl.1 hM (c_X8_refuse l D tb X z0 n mo F w av od sv sl nz ip ot M0 (1 : Int32) ) (kv_X8_265 hw rfl rfl ⟨Nat.le_of_ble_eq_true rfl, Nat.le_of_ble_eq_true rfl⟩) rfl rfl mq_F rfl (Nat.le_of_ble_eq_true rfl) dX8_grantPermit_10 ⟨Nat.le_of_ble_eq_true rfl, Nat.le_of_ble_eq_true rfl⟩ (fun H locs hM => ?_)
    exact me_iret hC hr hlk hM (rfl) (rfl) (rfl) dX8_grantPermit_13
set_option maxHeartbeats 4000000 in
theorem c_X8_grantPermit_x2 (l : Launch) (D : va_G) (tb : Nat → ClassId) (X : State → Prop) (z0 n : Nat) (mo : Nat) (F w av od sv sl nz ip ot : Nat → Int32) (M0 : me_M) (S B L P : Nat) (T : Nat) (s1 : Nat) (x0 x : Int32)  (hO : ok1 S B L P T w) (hT0 : T ≤ 9999) (hs9 : s1 < S) (hbad : x < 1 ∨ 12 < x) : Met l yX8_grantPermit (.code yX8_grantPermit cX8_grantPermit 4 (some .int) :: ws_all) ({ frames := 2, cells := 0, slots := 0, locals := 45 } : Room) (me_Pc [.ref mo, .int (nI s1), .int x0, .int x] D tb X z0 (mq tb mo F w av od sv sl nz ip ot M0) n) (me_Qi D z0 0 (mq tb mo (upd F 0 2) w av od sv sl nz ip ot M0) n) 0 0 (me_A z0) := by
  refine me_open (by decide) (Nat.le_of_ble_eq_true rfl) ?_
  intro p e s m args below meth c ls hC hr hlk hnm hM hl
  have hl : lv_has ls 4 [(0, .ref mo), (1, .int (nI s1)), (2, .int x0), (3, .int x)] := hl
  have hx := hC.1
  have hb := hC.2.1
  have hw := hC.2.2.2.2.1
  obtain ⟨hW, hZ, hT⟩ := id hO
  obtain ⟨hS, hS0, hB, hB0, hL, hL0, hP, hP0, hwb, hwl⟩ := id hW
  have hT2 : T ≤ 20000 := by omega
  refine lv_aload_n hx hb dX8_grantPermit_0 rfl (lv_at hl 0 rfl) ?_
  refine lv_iload_n hx hb dX8_grantPermit_1 rfl (lv_at hl 1 rfl) ?_
  refine me_callVi (As := [.int (nI s1)]) (rest := []) hC hl.1 hM (c_X8_isStreet l D tb X z0 n mo F w av od sv sl nz ip ot M0 (nI s1) ) (kv_X8_289 hw rfl rfl ⟨Nat.le_of_ble_eq_true rfl, Nat.le_of_ble_eq_true rfl⟩) rfl rfl mq_F rfl (Nat.le_of_ble_eq_true rfl) dX8_grantPermit_2 ⟨Nat.le_of_ble_eq_true rfl, Nat.le_of_ble_eq_true rfl⟩ (fun H locs hM => ?_)
  refine lv_if_ne (tgt := 14) hx hb dX8_grantPermit_5 (by decide) (fun c_1 => ?_) (fun c_1 => ?_)
  · have c_1 := b1_n0.mp c_1
    refine lv_aload_n hx hb dX8_grantPermit_14 rfl (lv_at hl 0 rfl) ?_
    refine lv_iload_n hx hb dX8_grantPermit_15 rfl (lv_at hl 2 rfl) ?_
    refine lv_iload_n hx hb dX8_grantPermit_16 rfl (lv_at hl 3 rfl) ?_
    refine lv_bipush (v := 12) hx hb dX8_grantPermit_17 (by decide) ?_
    refine me_callVi (As := [.int x0, .int x, .int 12]) (rest := []) hC hl.1 hM (c_X8_areHours l D tb X z0 n mo F w av od sv sl nz ip ot M0 x0 x 12 ) (kv_X8_307 hw rfl rfl ⟨Nat.le_of_ble_eq_true rfl, Nat.le_of_ble_eq_true rfl⟩) rfl rfl mq_F rfl (Nat.le_of_ble_eq_true rfl) dX8_grantPermit_19 ⟨Nat.le_of_ble_eq_true rfl, Nat.le_of_ble_eq_true rfl⟩ (fun H locs hM => ?_)
    refine lv_if_ne (tgt := 31) hx hb dX8_grantPermit_22 (by decide) (fun c_2 => ?_) (fun c_2 => ?_)
    · have c_2 := b1_n0.mp c_2
      exact absurd c_2 (ah_x1 hbad)
    · have c_2 := b1_0.mp c_2
      refine lv_aload_n hx hb dX8_grantPermit_25 rfl (lv_at hl 0 rfl) ?_
      refine lv_iconst (v := 2) hx hb dX8_grantPermit_26 (by decide) ?_
      refine me_callVi (As := [.int 2]) (rest := []) hC hl.1 hM (c_X8_refuse l D tb X z0 n mo F w av od sv sl nz ip ot M0 (2 : Int32) ) (kv_X8_265 hw rfl rfl ⟨Nat.le_of_ble_eq_true rfl, Nat.le_of_ble_eq_true rfl⟩) rfl rfl mq_F rfl (Nat.le_of_ble_eq_true rfl) dX8_grantPermit_27 ⟨Nat.le_of_ble_eq_true rfl, Nat.le_of_ble_eq_true rfl⟩ (fun H locs hM => ?_)
      exact me_iret hC hr hlk hM (rfl) (rfl) (rfl) dX8_grantPermit_30
  · have c_1 := b1_0.mp c_1
    exact absurd (in_c hS (by omega) hs9) c_1
set_option maxHeartbeats 4000000 in
theorem c_X8_grantPermit_x3 (l : Launch) (D : va_G) (tb : Nat → ClassId) (X : State → Prop) (z0 n : Nat) (mo : Nat) (F w av od sv sl nz ip ot : Nat → Int32) (M0 : me_M) (S B L P : Nat) (T : Nat) (s1 : Nat) (x0 : Int32) (n9 : Nat)  (hO : ok1 S B L P T w) (hT0 : T ≤ 9999) (hs9 : s1 < S) (hn1 : 1 ≤ n9) (hn2 : n9 ≤ 12) (hbad : x0 < w 2 ∨ w 2 + 48 - nI n9 < x0) : Met l yX8_grantPermit (.code yX8_grantPermit cX8_grantPermit 4 (some .int) :: ws_all) ({ frames := 2, cells := 0, slots := 0, locals := 45 } : Room) (me_Pc [.ref mo, .int (nI s1), .int x0, .int (nI n9)] D tb X z0 (mq tb mo F w av od sv sl nz ip ot M0) n) (me_Qi D z0 0 (mq tb mo (upd F 0 2) w av od sv sl nz ip ot M0) n) 0 0 (me_A z0) := by
  refine me_open (by decide) (Nat.le_of_ble_eq_true rfl) ?_
  intro p e s m args below meth c ls hC hr hlk hnm hM hl
  have hl : lv_has ls 4 [(0, .ref mo), (1, .int (nI s1)), (2, .int x0), (3, .int (nI n9))] := hl
  have hx := hC.1
  have hb := hC.2.1
  have hw := hC.2.2.2.2.1
  obtain ⟨hW, hZ, hT⟩ := id hO
  obtain ⟨hS, hS0, hB, hB0, hL, hL0, hP, hP0, hwb, hwl⟩ := id hW
  have hT2 : T ≤ 20000 := by omega
  refine lv_aload_n hx hb dX8_grantPermit_0 rfl (lv_at hl 0 rfl) ?_
  refine lv_iload_n hx hb dX8_grantPermit_1 rfl (lv_at hl 1 rfl) ?_
  refine me_callVi (As := [.int (nI s1)]) (rest := []) hC hl.1 hM (c_X8_isStreet l D tb X z0 n mo F w av od sv sl nz ip ot M0 (nI s1) ) (kv_X8_289 hw rfl rfl ⟨Nat.le_of_ble_eq_true rfl, Nat.le_of_ble_eq_true rfl⟩) rfl rfl mq_F rfl (Nat.le_of_ble_eq_true rfl) dX8_grantPermit_2 ⟨Nat.le_of_ble_eq_true rfl, Nat.le_of_ble_eq_true rfl⟩ (fun H locs hM => ?_)
  refine lv_if_ne (tgt := 14) hx hb dX8_grantPermit_5 (by decide) (fun c_1 => ?_) (fun c_1 => ?_)
  · have c_1 := b1_n0.mp c_1
    refine lv_aload_n hx hb dX8_grantPermit_14 rfl (lv_at hl 0 rfl) ?_
    refine lv_iload_n hx hb dX8_grantPermit_15 rfl (lv_at hl 2 rfl) ?_
    refine lv_iload_n hx hb dX8_grantPermit_16 rfl (lv_at hl 3 rfl) ?_
    refine lv_bipush (v := 12) hx hb dX8_grantPermit_17 (by decide) ?_
    refine me_callVi (As := [.int x0, .int (nI n9), .int 12]) (rest := []) hC hl.1 hM (c_X8_areHours l D tb X z0 n mo F w av od sv sl nz ip ot M0 x0 (nI n9) 12 ) (kv_X8_307 hw rfl rfl ⟨Nat.le_of_ble_eq_true rfl, Nat.le_of_ble_eq_true rfl⟩) rfl rfl mq_F rfl (Nat.le_of_ble_eq_true rfl) dX8_grantPermit_19 ⟨Nat.le_of_ble_eq_true rfl, Nat.le_of_ble_eq_true rfl⟩ (fun H locs hM => ?_)
    refine lv_if_ne (tgt := 31) hx hb dX8_grantPermit_22 (by decide) (fun c_2 => ?_) (fun c_2 => ?_)
    · have c_2 := b1_n0.mp c_2
      exact absurd c_2 (ah_x2 hT hT2 hn1 (by omega) hbad)
    · have c_2 := b1_0.mp c_2
      refine lv_aload_n hx hb dX8_grantPermit_25 rfl (lv_at hl 0 rfl) ?_
      refine lv_iconst (v := 2) hx hb dX8_grantPermit_26 (by decide) ?_
      refine me_callVi (As := [.int 2]) (rest := []) hC hl.1 hM (c_X8_refuse l D tb X z0 n mo F w av od sv sl nz ip ot M0 (2 : Int32) ) (kv_X8_265 hw rfl rfl ⟨Nat.le_of_ble_eq_true rfl, Nat.le_of_ble_eq_true rfl⟩) rfl rfl mq_F rfl (Nat.le_of_ble_eq_true rfl) dX8_grantPermit_27 ⟨Nat.le_of_ble_eq_true rfl, Nat.le_of_ble_eq_true rfl⟩ (fun H locs hM => ?_)
      exact me_iret hC hr hlk hM (rfl) (rfl) (rfl) dX8_grantPermit_30
  · have c_1 := b1_0.mp c_1
    exact absurd (in_c hS (by omega) hs9) c_1
set_option maxHeartbeats 4000000 in
theorem c_X8_grantPermit_x4 (l : Launch) (D : va_G) (tb : Nat → ClassId) (X : State → Prop) (z0 n : Nat) (mo : Nat) (F w av od sv sl nz ip ot : Nat → Int32) (M0 : me_M) (S B L P : Nat) (T : Nat) (s1 s0 n9 : Nat)  (hO : ok1 S B L P T w) (hT0 : T ≤ 9999) (hs9 : s1 < S) (hn1 : 1 ≤ n9) (hn2 : n9 ≤ 12) (hs1 : T ≤ s0) (hs2 : s0 + n9 ≤ T + 48) (hok : ¬ (fi (fun k => cpP w L (nI s1) (nI s0) (nI n9) k) L 0 = -1 ∧ P < 10)) : Met l yX8_grantPermit (.code yX8_grantPermit cX8_grantPermit 4 (some .int) :: ws_all) ({ frames := 4, cells := 0, slots := 0, locals := 88 } : Room) (me_Pc [.ref mo, .int (nI s1), .int (nI s0), .int (nI n9)] D tb X z0 (mq tb mo F w av od sv sl nz ip ot M0) n) (me_Qi D z0 0 (mq tb mo (upd F 0 3) w av od sv sl nz ip ot M0) n) 0 0 (me_A z0) := by
  refine me_open (by decide) (Nat.le_of_ble_eq_true rfl) ?_
  intro p e s m args below meth c ls hC hr hlk hnm hM hl
  have hl : lv_has ls 4 [(0, .ref mo), (1, .int (nI s1)), (2, .int (nI s0)), (3, .int (nI n9))] := hl
  have hx := hC.1
  have hb := hC.2.1
  have hw := hC.2.2.2.2.1
  obtain ⟨hW, hZ, hT⟩ := id hO
  obtain ⟨hS, hS0, hB, hB0, hL, hL0, hP, hP0, hwb, hwl⟩ := id hW
  have hT2 : T ≤ 20000 := by omega
  refine lv_aload_n hx hb dX8_grantPermit_0 rfl (lv_at hl 0 rfl) ?_
  refine lv_iload_n hx hb dX8_grantPermit_1 rfl (lv_at hl 1 rfl) ?_
  refine me_callVi (As := [.int (nI s1)]) (rest := []) hC hl.1 hM (c_X8_isStreet l D tb X z0 n mo F w av od sv sl nz ip ot M0 (nI s1) ) (kv_X8_289 hw rfl rfl ⟨Nat.le_of_ble_eq_true rfl, Nat.le_of_ble_eq_true rfl⟩) rfl rfl mq_F rfl (Nat.le_of_ble_eq_true rfl) dX8_grantPermit_2 ⟨Nat.le_of_ble_eq_true rfl, Nat.le_of_ble_eq_true rfl⟩ (fun H locs hM => ?_)
  refine lv_if_ne (tgt := 14) hx hb dX8_grantPermit_5 (by decide) (fun c_1 => ?_) (fun c_1 => ?_)
  · have c_1 := b1_n0.mp c_1
    refine lv_aload_n hx hb dX8_grantPermit_14 rfl (lv_at hl 0 rfl) ?_
    refine lv_iload_n hx hb dX8_grantPermit_15 rfl (lv_at hl 2 rfl) ?_
    refine lv_iload_n hx hb dX8_grantPermit_16 rfl (lv_at hl 3 rfl) ?_
    refine lv_bipush (v := 12) hx hb dX8_grantPermit_17 (by decide) ?_
    refine me_callVi (As := [.int (nI s0), .int (nI n9), .int 12]) (rest := []) hC hl.1 hM (c_X8_areHours l D tb X z0 n mo F w av od sv sl nz ip ot M0 (nI s0) (nI n9) 12 ) (kv_X8_307 hw rfl rfl ⟨Nat.le_of_ble_eq_true rfl, Nat.le_of_ble_eq_true rfl⟩) rfl rfl mq_F rfl (Nat.le_of_ble_eq_true rfl) dX8_grantPermit_19 ⟨Nat.le_of_ble_eq_true rfl, Nat.le_of_ble_eq_true rfl⟩ (fun H locs hM => ?_)
    refine lv_if_ne (tgt := 31) hx hb dX8_grantPermit_22 (by decide) (fun c_2 => ?_) (fun c_2 => ?_)
    · have c_2 := b1_n0.mp c_2
      refine lv_aload_n hx hb dX8_grantPermit_31 rfl (lv_at hl 0 rfl) ?_
      refine lv_iload_n hx hb dX8_grantPermit_32 rfl (lv_at hl 1 rfl) ?_
      refine lv_iload_n hx hb dX8_grantPermit_33 rfl (lv_at hl 2 rfl) ?_
      refine lv_iload_n hx hb dX8_grantPermit_34 rfl (lv_at hl 3 rfl) ?_
      refine me_callVi (As := [.int (nI s1), .int (nI s0), .int (nI n9)]) (rest := []) hC hl.1 hM (c_X8_canPermit l D tb X z0 n mo F w av od sv sl nz ip ot M0 S B L P (nI s1) (nI s0) (nI n9) hW hZ) (kv_X8_226 hw rfl rfl ⟨Nat.le_of_ble_eq_true rfl, Nat.le_of_ble_eq_true rfl⟩) rfl rfl mq_F rfl (Nat.le_of_ble_eq_true rfl) dX8_grantPermit_35 ⟨Nat.le_of_ble_eq_true rfl, Nat.le_of_ble_eq_true rfl⟩ (fun H locs hM => ?_)
      refine lv_if_ne (tgt := 47) hx hb dX8_grantPermit_38 (by decide) (fun c_3 => ?_) (fun c_3 => ?_)
      · have c_3 := b1_n0.mp c_3
        exact absurd c_3 (hok)
      · have c_3 := b1_0.mp c_3
        refine lv_aload_n hx hb dX8_grantPermit_41 rfl (lv_at hl 0 rfl) ?_
        refine lv_iconst (v := 3) hx hb dX8_grantPermit_42 (by decide) ?_
        refine me_callVi (As := [.int 3]) (rest := []) hC hl.1 hM (c_X8_refuse l D tb X z0 n mo F w av od sv sl nz ip ot M0 (3 : Int32) ) (kv_X8_265 hw rfl rfl ⟨Nat.le_of_ble_eq_true rfl, Nat.le_of_ble_eq_true rfl⟩) rfl rfl mq_F rfl (Nat.le_of_ble_eq_true rfl) dX8_grantPermit_43 ⟨Nat.le_of_ble_eq_true rfl, Nat.le_of_ble_eq_true rfl⟩ (fun H locs hM => ?_)
        exact me_iret hC hr hlk hM (rfl) (rfl) (rfl) dX8_grantPermit_46
    · have c_2 := b1_0.mp c_2
      exact absurd (ah_c (m := 12) hT hT2 hn1 hn2 (by omega) hs1 hs2) c_2
  · have c_1 := b1_0.mp c_1
    exact absurd (in_c hS (by omega) hs9) c_1
theorem rv_01 {w : Nat → Int32} {k j : Nat} (hZ : wz w) (hj : j < 10) : bz (rvG k w (221 + 4 * j + 3)) = rvG k w (221 + 4 * j + 3) := by
  unfold rvG
  by_cases c : 221 + 4 * j + 3 = 221 + 4 * k + 3
  · rw [c, upd_s]; decide
  · rw [upd_n c]; exact hZ.1 j hj
theorem bz_one {x : Int32} (h : bz x = x) : x = 0 ∨ x = 1 := by
  rw [← h]; exact bz_01 x
set_option maxHeartbeats 4000000 in
theorem c_X8_revokePermit (l : Launch) (D : va_G) (tb : Nat → ClassId) (X : State → Prop) (z0 n : Nat) (mo : Nat) (F w av od sv sl nz ip ot : Nat → Int32) (M0 : me_M) (S B L P : Nat) (T : Nat) (om : Nat) (k : Nat)  (hO : ok1 S B L P T w) (hT0 : T ≤ 9999) (hom : F 1 = nI om) (hom0 : om ≤ 10) (hk : k < P) (hst : w (221 + 4 * k + 3) = 0) : Met l yX8_revokePermit (.code yX8_revokePermit cX8_revokePermit 4 (some .int) :: ws_all) ({ frames := 2, cells := 0, slots := 0, locals := 43 } : Room) (me_Pc [.ref mo, .int (nI k)] D tb X z0 (mq tb mo F w av od sv sl nz ip ot M0) n) (me_Qi D z0 (nI (co (fun j => rvG k w (221 + 4 * j + 3) = 0) P 0)) (mq tb mo (upd (rmF F om) 0 0) (rvG k w) av (rmO od w om) sv sl nz ip ot M0) n) 0 0 (me_A z0) := by
  refine me_open (by decide) (Nat.le_of_ble_eq_true rfl) ?_
  intro p e s m args below meth c ls hC hr hlk hnm hM hl
  have hl : lv_has ls 4 [(0, .ref mo), (1, .int (nI k))] := hl
  have hx := hC.1
  have hb := hC.2.1
  have hw := hC.2.2.2.2.1
  obtain ⟨hW, hZ, hT⟩ := id hO
  obtain ⟨hS, hS0, hB, hB0, hL, hL0, hP, hP0, hwb, hwl⟩ := id hW
  have hT2 : T ≤ 20000 := by omega
  refine lv_aload_n hx hb dX8_revokePermit_0 rfl (lv_at hl 0 rfl) ?_
  refine lv_iload_n hx hb dX8_revokePermit_1 rfl (lv_at hl 1 rfl) ?_
  refine me_callVi (As := [.int (nI k)]) (rest := []) hC hl.1 hM (c_X8_isPermit l D tb X z0 n mo F w av od sv sl nz ip ot M0 (nI k) ) (kv_X8_330 hw rfl rfl ⟨Nat.le_of_ble_eq_true rfl, Nat.le_of_ble_eq_true rfl⟩) rfl rfl mq_F rfl (Nat.le_of_ble_eq_true rfl) dX8_revokePermit_2 ⟨Nat.le_of_ble_eq_true rfl, Nat.le_of_ble_eq_true rfl⟩ (fun H locs hM => ?_)
  refine lv_if_ne (tgt := 14) hx hb dX8_revokePermit_5 (by decide) (fun c_1 => ?_) (fun c_1 => ?_)
  · have c_1 := b1_n0.mp c_1
    refine lv_aload_n hx hb dX8_revokePermit_14 rfl (lv_at hl 0 rfl) ?_
    refine fg_X8_13 hC hM mq_F rfl dX8_revokePermit_15 ?_
    refine lv_iload_n hx hb dX8_revokePermit_18 rfl (lv_at hl 1 rfl) ?_
    refine me_callSi (As := [.int (nI k)]) (rest := [.ref (mo + 2)]) hC hl.1 hM (c_X8_p l D tb X z0 n _ k ) (ks_X8_87 hw rfl rfl ⟨Nat.le_of_ble_eq_true rfl, Nat.le_of_ble_eq_true rfl⟩) rfl rfl (Nat.le_of_ble_eq_true rfl) dX8_revokePermit_19 ⟨Nat.le_of_ble_eq_true rfl, Nat.le_of_ble_eq_true rfl⟩ (fun H locs hM => ?_)
    refine lv_iconst (v := 3) hx hb dX8_revokePermit_22 (by decide) ?_
    refine lv_iadd hx hb dX8_revokePermit_23 ?_
    refine me_iald (k := 221 + 4 * k + 3) hC hM mq_w (nx_add rfl (nx_c 3)) (by omega) (by decide) dX8_revokePermit_24 ?_
    refine lv_iconst (v := 1) hx hb dX8_revokePermit_25 (by decide) ?_
    refine lv_icmp_ne (tgt := 35) hx hb dX8_revokePermit_26 (by decide) (fun c_2 => ?_) (fun c_2 => ?_)
    · refine lv_aload_n hx hb dX8_revokePermit_35 rfl (lv_at hl 0 rfl) ?_
      refine me_callVv (As := []) (rest := []) hC hl.1 hM (c_X8_remembers_a l D tb X z0 n mo F w av od sv sl nz ip ot M0 om hom hom0) (kv_X8_327 hw rfl rfl ⟨Nat.le_of_ble_eq_true rfl, Nat.le_of_ble_eq_true rfl⟩) rfl rfl mq_F rfl (Nat.le_of_ble_eq_true rfl) dX8_revokePermit_36 ⟨Nat.le_of_ble_eq_true rfl, Nat.le_of_ble_eq_true rfl⟩ (fun H locs hM => ?_)
      refine lv_aload_n hx hb dX8_revokePermit_39 rfl (lv_at hl 0 rfl) ?_
      refine fg_X8_13 hC hM mq_F rfl dX8_revokePermit_40 ?_
      refine lv_iload_n hx hb dX8_revokePermit_43 rfl (lv_at hl 1 rfl) ?_
      refine me_callSi (As := [.int (nI k)]) (rest := [.ref (mo + 2)]) hC hl.1 hM (c_X8_p l D tb X z0 n _ k ) (ks_X8_87 hw rfl rfl ⟨Nat.le_of_ble_eq_true rfl, Nat.le_of_ble_eq_true rfl⟩) rfl rfl (Nat.le_of_ble_eq_true rfl) dX8_revokePermit_44 ⟨Nat.le_of_ble_eq_true rfl, Nat.le_of_ble_eq_true rfl⟩ (fun H locs hM => ?_)
      refine lv_iconst (v := 3) hx hb dX8_revokePermit_47 (by decide) ?_
      refine lv_iadd hx hb dX8_revokePermit_48 ?_
      refine lv_iconst (v := 1) hx hb dX8_revokePermit_49 (by decide) ?_
      refine me_iast (k := 221 + 4 * k + 3) (M2 := mq tb mo (rmF F om) (upd w (221 + 4 * k + 3) 1) av (rmO od w om) sv sl nz ip ot M0) hC hM mq_w (nx_add rfl (nx_c 3)) (by omega) (by decide) mq_w_w dX8_revokePermit_50 (fun H locs hM => ?_)
      have hM := hM.eq (M2 := mq tb mo (rmF F om) (rvG k w) av (rmO od w om) sv sl nz ip ot M0) rfl
      refine lv_iconst (v := 0) hx hb dX8_revokePermit_51 (by decide) ?_
      refine lv_istore_n (lv' := [(2, .int 0), (0, .ref mo), (1, .int (nI k))]) hx hb dX8_revokePermit_52 rfl hl (by decide) rfl (fun ls hl => ?_)
      refine lv_iconst (v := 0) hx hb dX8_revokePermit_53 (by decide) ?_
      refine lv_istore_n (lv' := [(3, .int 0), (2, .int 0), (0, .ref mo), (1, .int (nI k))]) hx hb dX8_revokePermit_54 rfl hl (by decide) rfl (fun ls hl => ?_)
      have lp_55 : ∀ (r : Nat) (j : Nat) (ct : Nat) (H : Heap) (locs : List Loc) (ls : Array Slot), (j + r = P) → (co (fun j => rvG k w (221 + 4 * j + 3) = 0) P 0 = ct + co (fun j => rvG k w (221 + 4 * j + 3) = 0) r j) → me_at D z0 (mq tb mo (rmF F om) (rvG k w) av (rmO od w om) sv sl nz ip ot M0) n s H locs → lv_has ls 4 [(0, .ref mo), (1, .int (nI k)), (2, .int (nI ct)), (3, .int (nI j))] → W p l e (({ frames := 2, cells := 0, slots := 0, locals := 43 } : Room)) s m args below meth c H locs 0 0 (MQ below (me_Qi D z0 (nI (co (fun j => rvG k w (221 + 4 * j + 3) = 0) P 0)) (mq tb mo (upd (rmF F om) 0 0) (rvG k w) av (rmO od w om) sv sl nz ip ot M0) n) args s 0 0 (me_A z0)) (F0 m 55 ls []) := by
        intro r
        refine Nat.strongRecOn r ?_
        intro r ih_55 j ct H locs ls hj hq hM hl
        have hP3 : rvG k w 5 = nI P := (upd_n (by omega)).trans hP
        refine lv_iload_n hx hb dX8_revokePermit_55 rfl (lv_at hl 3 rfl) ?_
        refine lv_aload_n hx hb dX8_revokePermit_56 rfl (lv_at hl 0 rfl) ?_
        refine fg_X8_13 hC hM mq_F rfl dX8_revokePermit_57 ?_
        refine lv_iconst (v := 5) hx hb dX8_revokePermit_60 (by decide) ?_
        refine me_iald (k := 5) hC hM mq_w (nx_c 5) (by omega) (by decide) dX8_revokePermit_61 ?_
        refine lv_icmp_ge (tgt := 87) hx hb dX8_revokePermit_62 (by decide) (fun c_3 => ?_) (fun c_3 => ?_)
        · have c_3 := (br_le hP3 rfl (by omega) (by omega)).mp c_3
          refine lv_aload_n hx hb dX8_revokePermit_87 rfl (lv_at hl 0 rfl) ?_
          refine lv_iload_n hx hb dX8_revokePermit_88 rfl (lv_at hl 2 rfl) ?_
          refine me_callVi (As := [.int (nI ct)]) (rest := []) hC hl.1 hM (c_X8_told l D tb X z0 n mo (rmF F om) (rvG k w) av (rmO od w om) sv sl nz ip ot M0 (nI ct) ) (kv_X8_271 hw rfl rfl ⟨Nat.le_of_ble_eq_true rfl, Nat.le_of_ble_eq_true rfl⟩) rfl rfl mq_F rfl (Nat.le_of_ble_eq_true rfl) dX8_revokePermit_89 ⟨Nat.le_of_ble_eq_true rfl, Nat.le_of_ble_eq_true rfl⟩ (fun H locs hM => ?_)
          exact me_iret hC hr hlk hM (by rw [hq, show r = 0 by omega]; rfl) (rfl) (rfl) dX8_revokePermit_92
        · have c_3 := (not_congr (br_le hP3 rfl (by omega) (by omega))).mp c_3
          obtain ⟨r1, rfl⟩ : ∃ r1, r = r1 + 1 := ⟨r - 1, by omega⟩
          refine lv_iload_n hx hb dX8_revokePermit_65 rfl (lv_at hl 2 rfl) ?_
          refine lv_iconst (v := 1) hx hb dX8_revokePermit_66 (by decide) ?_
          refine lv_aload_n hx hb dX8_revokePermit_67 rfl (lv_at hl 0 rfl) ?_
          refine fg_X8_13 hC hM mq_F rfl dX8_revokePermit_68 ?_
          refine lv_iload_n hx hb dX8_revokePermit_71 rfl (lv_at hl 3 rfl) ?_
          refine me_callSi (As := [.int (nI j)]) (rest := [.ref (mo + 2), .int 1, .int (nI ct)]) hC hl.1 hM (c_X8_p l D tb X z0 n _ j ) (ks_X8_87 hw rfl rfl ⟨Nat.le_of_ble_eq_true rfl, Nat.le_of_ble_eq_true rfl⟩) rfl rfl (Nat.le_of_ble_eq_true rfl) dX8_revokePermit_72 ⟨Nat.le_of_ble_eq_true rfl, Nat.le_of_ble_eq_true rfl⟩ (fun H locs hM => ?_)
          refine lv_iconst (v := 3) hx hb dX8_revokePermit_75 (by decide) ?_
          refine lv_iadd hx hb dX8_revokePermit_76 ?_
          refine me_iald (k := 221 + 4 * j + 3) hC hM mq_w (nx_add rfl (nx_c 3)) (by omega) (by decide) dX8_revokePermit_77 ?_
          refine lv_isub hx hb dX8_revokePermit_78 ?_
          refine lv_iadd hx hb dX8_revokePermit_79 ?_
          obtain ⟨ct9, hc9, hv9⟩ : ∃ ct9, co (fun j => rvG k w (221 + 4 * j + 3) = 0) P 0 = ct9 + co (fun j => rvG k w (221 + 4 * j + 3) = 0) r1 (j + 1) ∧ nI ct + (1 - rvG k w (221 + 4 * j + 3)) = nI ct9 := by
            rcases bz_one (rv_01 (w := w) (k := k) (j := j) hZ (by omega)) with z | z
            · exact ⟨ct + 1, by rw [hq, co_t (P := fun j => rvG k w (221 + 4 * j + 3) = 0) (k := j) z]; omega, by rw [z]; exact nI_add ct 1⟩
            · exact ⟨ct, by rw [hq, co_f (P := fun j => rvG k w (221 + 4 * j + 3) = 0) (k := j) (fun y => by rw [z] at y; exact absurd y (by decide))], by rw [z]; exact nI_add ct 0⟩
          refine me_evi (y := nI ct9) hv9 ?_
          refine lv_istore_n (lv' := [(2, .int (nI ct9)), (0, .ref mo), (1, .int (nI k)), (3, .int (nI j))]) hx hb dX8_revokePermit_80 rfl hl (by decide) rfl (fun ls hl => ?_)
          refine lv_iinc (v := nI (j + 1)) (lv' := [(3, .int (nI (j + 1))), (2, .int (nI ct9)), (0, .ref mo), (1, .int (nI k))]) hx hb dX8_revokePermit_81 hl (k := 3) rfl (nx_add rfl rfl) (by decide) rfl (fun ls hl => ?_)
          refine lv_goto (tgt := 55) hx hb dX8_revokePermit_84 (by decide) ?_
          exact ih_55 r1 (by omega) (j + 1) ct9 _ _ _ (by omega) hc9 hM (lv_sub hl [2, 3, 1, 0] rfl)
      exact lp_55 P 0 0 _ _ _ (by omega) ((Nat.zero_add _).symm) hM (lv_sub hl [2, 3, 1, 0] rfl)
    · exact absurd (hst.symm.trans c_2) (by decide)
  · have c_1 := b1_0.mp c_1
    exact absurd (in_c hP (by omega) hk) c_1
set_option maxHeartbeats 4000000 in
theorem c_X8_revokePermit_x1 (l : Launch) (D : va_G) (tb : Nat → ClassId) (X : State → Prop) (z0 n : Nat) (mo : Nat) (F w av od sv sl nz ip ot : Nat → Int32) (M0 : me_M) (S B L P : Nat) (T : Nat) (x : Int32)  (hO : ok1 S B L P T w) (hT0 : T ≤ 9999) (hbad : x < 0 ∨ w 5 ≤ x) : Met l yX8_revokePermit (.code yX8_revokePermit cX8_revokePermit 4 (some .int) :: ws_all) ({ frames := 2, cells := 0, slots := 0, locals := 43 } : Room) (me_Pc [.ref mo, .int x] D tb X z0 (mq tb mo F w av od sv sl nz ip ot M0) n) (me_Qi D z0 0 (mq tb mo (upd F 0 1) w av od sv sl nz ip ot M0) n) 0 0 (me_A z0) := by
  refine me_open (by decide) (Nat.le_of_ble_eq_true rfl) ?_
  intro p e s m args below meth c ls hC hr hlk hnm hM hl
  have hl : lv_has ls 4 [(0, .ref mo), (1, .int x)] := hl
  have hx := hC.1
  have hb := hC.2.1
  have hw := hC.2.2.2.2.1
  obtain ⟨hW, hZ, hT⟩ := id hO
  obtain ⟨hS, hS0, hB, hB0, hL, hL0, hP, hP0, hwb, hwl⟩ := id hW
  have hT2 : T ≤ 20000 := by omega
  refine lv_aload_n hx hb dX8_revokePermit_0 rfl (lv_at hl 0 rfl) ?_
  refine lv_iload_n hx hb dX8_revokePermit_1 rfl (lv_at hl 1 rfl) ?_
  refine me_callVi (As := [.int x]) (rest := []) hC hl.1 hM (c_X8_isPermit l D tb X z0 n mo F w av od sv sl nz ip ot M0 x ) (kv_X8_330 hw rfl rfl ⟨Nat.le_of_ble_eq_true rfl, Nat.le_of_ble_eq_true rfl⟩) rfl rfl mq_F rfl (Nat.le_of_ble_eq_true rfl) dX8_revokePermit_2 ⟨Nat.le_of_ble_eq_true rfl, Nat.le_of_ble_eq_true rfl⟩ (fun H locs hM => ?_)
  refine lv_if_ne (tgt := 14) hx hb dX8_revokePermit_5 (by decide) (fun c_1 => ?_) (fun c_1 => ?_)
  · have c_1 := b1_n0.mp c_1
    exact absurd c_1 (in_x hP (by omega) hbad)
  · have c_1 := b1_0.mp c_1
    refine lv_aload_n hx hb dX8_revokePermit_8 rfl (lv_at hl 0 rfl) ?_
    refine lv_iconst (v := 1) hx hb dX8_revokePermit_9 (by decide) ?_
    refine me_callVi (As := [.int 1]) (rest := []) hC hl.1 hM (c_X8_refuse l D tb X z0 n mo F w av od sv sl nz ip ot M0 (1 : Int32) ) (kv_X8_265 hw rfl rfl ⟨Nat.le_of_ble_eq_true rfl, Nat.le_of_ble_eq_true rfl⟩) rfl rfl mq_F rfl (Nat.le_of_ble_eq_true rfl) dX8_revokePermit_10 ⟨Nat.le_of_ble_eq_true rfl, Nat.le_of_ble_eq_true rfl⟩ (fun H locs hM => ?_)
    exact me_iret hC hr hlk hM (rfl) (rfl) (rfl) dX8_revokePermit_13
set_option maxHeartbeats 4000000 in
theorem c_X8_revokePermit_x2 (l : Launch) (D : va_G) (tb : Nat → ClassId) (X : State → Prop) (z0 n : Nat) (mo : Nat) (F w av od sv sl nz ip ot : Nat → Int32) (M0 : me_M) (S B L P : Nat) (T : Nat) (k : Nat)  (hO : ok1 S B L P T w) (hT0 : T ≤ 9999) (hk : k < P) (hst : ¬ w (221 + 4 * k + 3) = 0) : Met l yX8_revokePermit (.code yX8_revokePermit cX8_revokePermit 4 (some .int) :: ws_all) ({ frames := 2, cells := 0, slots := 0, locals := 43 } : Room) (me_Pc [.ref mo, .int (nI k)] D tb X z0 (mq tb mo F w av od sv sl nz ip ot M0) n) (me_Qi D z0 0 (mq tb mo (upd F 0 2) w av od sv sl nz ip ot M0) n) 0 0 (me_A z0) := by
  refine me_open (by decide) (Nat.le_of_ble_eq_true rfl) ?_
  intro p e s m args below meth c ls hC hr hlk hnm hM hl
  have hl : lv_has ls 4 [(0, .ref mo), (1, .int (nI k))] := hl
  have hx := hC.1
  have hb := hC.2.1
  have hw := hC.2.2.2.2.1
  obtain ⟨hW, hZ, hT⟩ := id hO
  obtain ⟨hS, hS0, hB, hB0, hL, hL0, hP, hP0, hwb, hwl⟩ := id hW
  have hT2 : T ≤ 20000 := by omega
  refine lv_aload_n hx hb dX8_revokePermit_0 rfl (lv_at hl 0 rfl) ?_
  refine lv_iload_n hx hb dX8_revokePermit_1 rfl (lv_at hl 1 rfl) ?_
  refine me_callVi (As := [.int (nI k)]) (rest := []) hC hl.1 hM (c_X8_isPermit l D tb X z0 n mo F w av od sv sl nz ip ot M0 (nI k) ) (kv_X8_330 hw rfl rfl ⟨Nat.le_of_ble_eq_true rfl, Nat.le_of_ble_eq_true rfl⟩) rfl rfl mq_F rfl (Nat.le_of_ble_eq_true rfl) dX8_revokePermit_2 ⟨Nat.le_of_ble_eq_true rfl, Nat.le_of_ble_eq_true rfl⟩ (fun H locs hM => ?_)
  refine lv_if_ne (tgt := 14) hx hb dX8_revokePermit_5 (by decide) (fun c_1 => ?_) (fun c_1 => ?_)
  · have c_1 := b1_n0.mp c_1
    refine lv_aload_n hx hb dX8_revokePermit_14 rfl (lv_at hl 0 rfl) ?_
    refine fg_X8_13 hC hM mq_F rfl dX8_revokePermit_15 ?_
    refine lv_iload_n hx hb dX8_revokePermit_18 rfl (lv_at hl 1 rfl) ?_
    refine me_callSi (As := [.int (nI k)]) (rest := [.ref (mo + 2)]) hC hl.1 hM (c_X8_p l D tb X z0 n _ k ) (ks_X8_87 hw rfl rfl ⟨Nat.le_of_ble_eq_true rfl, Nat.le_of_ble_eq_true rfl⟩) rfl rfl (Nat.le_of_ble_eq_true rfl) dX8_revokePermit_19 ⟨Nat.le_of_ble_eq_true rfl, Nat.le_of_ble_eq_true rfl⟩ (fun H locs hM => ?_)
    refine lv_iconst (v := 3) hx hb dX8_revokePermit_22 (by decide) ?_
    refine lv_iadd hx hb dX8_revokePermit_23 ?_
    refine me_iald (k := 221 + 4 * k + 3) hC hM mq_w (nx_add rfl (nx_c 3)) (by omega) (by decide) dX8_revokePermit_24 ?_
    refine lv_iconst (v := 1) hx hb dX8_revokePermit_25 (by decide) ?_
    refine lv_icmp_ne (tgt := 35) hx hb dX8_revokePermit_26 (by decide) (fun c_2 => ?_) (fun c_2 => ?_)
    · exact absurd ((bz_one (hZ.1 k (by omega))).resolve_left hst) c_2
    · refine lv_aload_n hx hb dX8_revokePermit_29 rfl (lv_at hl 0 rfl) ?_
      refine lv_iconst (v := 2) hx hb dX8_revokePermit_30 (by decide) ?_
      refine me_callVi (As := [.int 2]) (rest := []) hC hl.1 hM (c_X8_refuse l D tb X z0 n mo F w av od sv sl nz ip ot M0 (2 : Int32) ) (kv_X8_265 hw rfl rfl ⟨Nat.le_of_ble_eq_true rfl, Nat.le_of_ble_eq_true rfl⟩) rfl rfl mq_F rfl (Nat.le_of_ble_eq_true rfl) dX8_revokePermit_31 ⟨Nat.le_of_ble_eq_true rfl, Nat.le_of_ble_eq_true rfl⟩ (fun H locs hM => ?_)
      exact me_iret hC hr hlk hM (rfl) (rfl) (rfl) dX8_revokePermit_34
  · have c_1 := b1_0.mp c_1
    exact absurd (in_c hP (by omega) hk) c_1
set_option maxHeartbeats 4000000 in
theorem c_X8_pay (l : Launch) (D : va_G) (tb : Nat → ClassId) (X : State → Prop) (z0 n : Nat) (mo : Nat) (F w av od sv sl nz ip ot : Nat → Int32) (M0 : me_M) (S B L P : Nat) (T : Nat) (om : Nat) (b n9 : Nat)  (hO : ok1 S B L P T w) (hT0 : T ≤ 9999) (hom : F 1 = nI om) (hom0 : om ≤ 10) (hb9 : b < B) (hn1 : 1 ≤ n9) (hn2 : n9 ≤ 999) : Met l yX8_pay (.code yX8_pay cX8_pay 3 (some .int) :: ws_all) ({ frames := 2, cells := 0, slots := 0, locals := 43 } : Room) (me_Pc [.ref mo, .int (nI b), .int (nI n9)] D tb X z0 (mq tb mo F w av od sv sl nz ip ot M0) n) (me_Qi D z0 (w (89 + 11 * b + 2) + nI n9) (mq tb mo (upd (rmF F om) 0 0) (pyG b (nI n9) w) av (rmO od w om) sv sl nz ip ot M0) n) 0 0 (me_A z0) := by
  refine me_open (by decide) (Nat.le_of_ble_eq_true rfl) ?_
  intro p e s m args below meth c ls hC hr hlk hnm hM hl
  have hl : lv_has ls 3 [(0, .ref mo), (1, .int (nI b)), (2, .int (nI n9))] := hl
  have hx := hC.1
  have hb := hC.2.1
  have hw := hC.2.2.2.2.1
  obtain ⟨hW, hZ, hT⟩ := id hO
  obtain ⟨hS, hS0, hB, hB0, hL, hL0, hP, hP0, hwb, hwl⟩ := id hW
  have hT2 : T ≤ 20000 := by omega
  refine lv_aload_n hx hb dX8_pay_0 rfl (lv_at hl 0 rfl) ?_
  refine lv_iload_n hx hb dX8_pay_1 rfl (lv_at hl 1 rfl) ?_
  refine me_callVi (As := [.int (nI b)]) (rest := []) hC hl.1 hM (c_X8_isBorrower l D tb X z0 n mo F w av od sv sl nz ip ot M0 (nI b) ) (kv_X8_292 hw rfl rfl ⟨Nat.le_of_ble_eq_true rfl, Nat.le_of_ble_eq_true rfl⟩) rfl rfl mq_F rfl (Nat.le_of_ble_eq_true rfl) dX8_pay_2 ⟨Nat.le_of_ble_eq_true rfl, Nat.le_of_ble_eq_true rfl⟩ (fun H locs hM => ?_)
  refine lv_if_ne (tgt := 14) hx hb dX8_pay_5 (by decide) (fun c_1 => ?_) (fun c_1 => ?_)
  · have c_1 := b1_n0.mp c_1
    refine lv_iload_n hx hb dX8_pay_14 rfl (lv_at hl 2 rfl) ?_
    refine lv_iconst (v := 1) hx hb dX8_pay_15 (by decide) ?_
    refine lv_sipush (v := 999) hx hb dX8_pay_16 (by decide) ?_
    refine me_callSi (As := [.int (nI n9), .int 1, .int 999]) (rest := []) hC hl.1 hM (c_X8_in l D tb X z0 n _ (nI n9) 1 999 ) (ks_X8_67 hw rfl rfl ⟨Nat.le_of_ble_eq_true rfl, Nat.le_of_ble_eq_true rfl⟩) rfl rfl (Nat.le_of_ble_eq_true rfl) dX8_pay_19 ⟨Nat.le_of_ble_eq_true rfl, Nat.le_of_ble_eq_true rfl⟩ (fun H locs hM => ?_)
    refine lv_if_ne (tgt := 31) hx hb dX8_pay_22 (by decide) (fun c_2 => ?_) (fun c_2 => ?_)
    · have c_2 := b1_n0.mp c_2
      refine lv_aload_n hx hb dX8_pay_31 rfl (lv_at hl 0 rfl) ?_
      refine me_callVv (As := []) (rest := []) hC hl.1 hM (c_X8_remembers_a l D tb X z0 n mo F w av od sv sl nz ip ot M0 om hom hom0) (kv_X8_327 hw rfl rfl ⟨Nat.le_of_ble_eq_true rfl, Nat.le_of_ble_eq_true rfl⟩) rfl rfl mq_F rfl (Nat.le_of_ble_eq_true rfl) dX8_pay_32 ⟨Nat.le_of_ble_eq_true rfl, Nat.le_of_ble_eq_true rfl⟩ (fun H locs hM => ?_)
      refine lv_aload_n hx hb dX8_pay_35 rfl (lv_at hl 0 rfl) ?_
      refine fg_X8_13 hC hM mq_F rfl dX8_pay_36 ?_
      refine lv_iload_n hx hb dX8_pay_39 rfl (lv_at hl 1 rfl) ?_
      refine me_callSi (As := [.int (nI b)]) (rest := [.ref (mo + 2)]) hC hl.1 hM (c_X8_b l D tb X z0 n _ b ) (ks_X8_78 hw rfl rfl ⟨Nat.le_of_ble_eq_true rfl, Nat.le_of_ble_eq_true rfl⟩) rfl rfl (Nat.le_of_ble_eq_true rfl) dX8_pay_40 ⟨Nat.le_of_ble_eq_true rfl, Nat.le_of_ble_eq_true rfl⟩ (fun H locs hM => ?_)
      refine lv_iconst (v := 2) hx hb dX8_pay_43 (by decide) ?_
      refine lv_iadd hx hb dX8_pay_44 ?_
      refine lv_dup2_11 hx hb dX8_pay_45 rfl rfl ?_
      refine me_iald (k := 89 + 11 * b + 2) hC hM mq_w (nx_add rfl (nx_c 2)) (by omega) (by decide) dX8_pay_46 ?_
      refine lv_iload_n hx hb dX8_pay_47 rfl (lv_at hl 2 rfl) ?_
      refine lv_iadd hx hb dX8_pay_48 ?_
      refine me_iast (k := 89 + 11 * b + 2) (M2 := mq tb mo (rmF F om) (upd w (89 + 11 * b + 2) ((w (89 + 11 * b + 2)) + (nI n9))) av (rmO od w om) sv sl nz ip ot M0) hC hM mq_w (nx_add rfl (nx_c 2)) (by omega) (by decide) mq_w_w dX8_pay_49 (fun H locs hM => ?_)
      refine lv_aload_n hx hb dX8_pay_50 rfl (lv_at hl 0 rfl) ?_
      refine fg_X8_13 hC hM mq_F rfl dX8_pay_51 ?_
      refine lv_bipush (v := 7) hx hb dX8_pay_54 (by decide) ?_
      refine lv_dup2_11 hx hb dX8_pay_56 rfl rfl ?_
      refine me_iald (k := 7) hC hM mq_w (nx_c 7) (by omega) (by decide) dX8_pay_57 ?_
      refine me_evi (y := w 7) (upd_n (by omega)) ?_
      refine lv_iload_n hx hb dX8_pay_58 rfl (lv_at hl 2 rfl) ?_
      refine lv_iadd hx hb dX8_pay_59 ?_
      refine me_iast (k := 7) (M2 := mq tb mo (rmF F om) (upd (upd w (89 + 11 * b + 2) ((w (89 + 11 * b + 2)) + (nI n9))) 7 ((w 7) + (nI n9))) av (rmO od w om) sv sl nz ip ot M0) hC hM mq_w (nx_c 7) (by omega) (by decide) mq_w_w dX8_pay_60 (fun H locs hM => ?_)
      refine lv_aload_n hx hb dX8_pay_61 rfl (lv_at hl 0 rfl) ?_
      refine lv_aload_n hx hb dX8_pay_62 rfl (lv_at hl 0 rfl) ?_
      refine fg_X8_13 hC hM mq_F rfl dX8_pay_63 ?_
      refine lv_iload_n hx hb dX8_pay_66 rfl (lv_at hl 1 rfl) ?_
      refine me_callSi (As := [.int (nI b)]) (rest := [.ref (mo + 2), .ref mo]) hC hl.1 hM (c_X8_b l D tb X z0 n _ b ) (ks_X8_78 hw rfl rfl ⟨Nat.le_of_ble_eq_true rfl, Nat.le_of_ble_eq_true rfl⟩) rfl rfl (Nat.le_of_ble_eq_true rfl) dX8_pay_67 ⟨Nat.le_of_ble_eq_true rfl, Nat.le_of_ble_eq_true rfl⟩ (fun H locs hM => ?_)
      refine lv_iconst (v := 2) hx hb dX8_pay_70 (by decide) ?_
      refine lv_iadd hx hb dX8_pay_71 ?_
      refine me_iald (k := 89 + 11 * b + 2) hC hM mq_w (nx_add rfl (nx_c 2)) (by omega) (by decide) dX8_pay_72 ?_
      refine me_evi (y := (w (89 + 11 * b + 2)) + (nI n9)) ((upd_n (by omega)).trans (upd_s _ _ _)) ?_
      refine me_callVi (As := [.int ((w (89 + 11 * b + 2)) + (nI n9))]) (rest := []) hC hl.1 hM (c_X8_told l D tb X z0 n mo (rmF F om) (upd (upd w (89 + 11 * b + 2) ((w (89 + 11 * b + 2)) + (nI n9))) 7 ((w 7) + (nI n9))) av (rmO od w om) sv sl nz ip ot M0 ((w (89 + 11 * b + 2)) + (nI n9)) ) (kv_X8_271 hw rfl rfl ⟨Nat.le_of_ble_eq_true rfl, Nat.le_of_ble_eq_true rfl⟩) rfl rfl mq_F rfl (Nat.le_of_ble_eq_true rfl) dX8_pay_73 ⟨Nat.le_of_ble_eq_true rfl, Nat.le_of_ble_eq_true rfl⟩ (fun H locs hM => ?_)
      exact me_iret hC hr hlk hM (rfl) (rfl) (rfl) dX8_pay_76
    · have c_2 := b1_0.mp c_2
      exact absurd (in_n (a := 1) (b := 999) hn1 hn2 (by omega)) c_2
  · have c_1 := b1_0.mp c_1
    exact absurd (in_c hB (by omega) hb9) c_1
set_option maxHeartbeats 4000000 in
theorem c_X8_pay_x1 (l : Launch) (D : va_G) (tb : Nat → ClassId) (X : State → Prop) (z0 n : Nat) (mo : Nat) (F w av od sv sl nz ip ot : Nat → Int32) (M0 : me_M) (S B L P : Nat) (T : Nat) (x : Int32) (y9 : Int32)  (hO : ok1 S B L P T w) (hT0 : T ≤ 9999) (hbad : x < 0 ∨ w 4 ≤ x) : Met l yX8_pay (.code yX8_pay cX8_pay 3 (some .int) :: ws_all) ({ frames := 2, cells := 0, slots := 0, locals := 43 } : Room) (me_Pc [.ref mo, .int x, .int y9] D tb X z0 (mq tb mo F w av od sv sl nz ip ot M0) n) (me_Qi D z0 0 (mq tb mo (upd F 0 1) w av od sv sl nz ip ot M0) n) 0 0 (me_A z0) := by
  refine me_open (by decide) (Nat.le_of_ble_eq_true rfl) ?_
  intro p e s m args below meth c ls hC hr hlk hnm hM hl
  have hl : lv_has ls 3 [(0, .ref mo), (1, .int x), (2, .int y9)] := hl
  have hx := hC.1
  have hb := hC.2.1
  have hw := hC.2.2.2.2.1
  obtain ⟨hW, hZ, hT⟩ := id hO
  obtain ⟨hS, hS0, hB, hB0, hL, hL0, hP, hP0, hwb, hwl⟩ := id hW
  have hT2 : T ≤ 20000 := by omega
  refine lv_aload_n hx hb dX8_pay_0 rfl (lv_at hl 0 rfl) ?_
  refine lv_iload_n hx hb dX8_pay_1 rfl (lv_at hl 1 rfl) ?_
  refine me_callVi (As := [.int x]) (rest := []) hC hl.1 hM (c_X8_isBorrower l D tb X z0 n mo F w av od sv sl nz ip ot M0 x ) (kv_X8_292 hw rfl rfl ⟨Nat.le_of_ble_eq_true rfl, Nat.le_of_ble_eq_true rfl⟩) rfl rfl mq_F rfl (Nat.le_of_ble_eq_true rfl) dX8_pay_2 ⟨Nat.le_of_ble_eq_true rfl, Nat.le_of_ble_eq_true rfl⟩ (fun H locs hM => ?_)
  refine lv_if_ne (tgt := 14) hx hb dX8_pay_5 (by decide) (fun c_1 => ?_) (fun c_1 => ?_)
  · have c_1 := b1_n0.mp c_1
    exact absurd c_1 (in_x hB (by omega) hbad)
  · have c_1 := b1_0.mp c_1
    refine lv_aload_n hx hb dX8_pay_8 rfl (lv_at hl 0 rfl) ?_
    refine lv_iconst (v := 1) hx hb dX8_pay_9 (by decide) ?_
    refine me_callVi (As := [.int 1]) (rest := []) hC hl.1 hM (c_X8_refuse l D tb X z0 n mo F w av od sv sl nz ip ot M0 (1 : Int32) ) (kv_X8_265 hw rfl rfl ⟨Nat.le_of_ble_eq_true rfl, Nat.le_of_ble_eq_true rfl⟩) rfl rfl mq_F rfl (Nat.le_of_ble_eq_true rfl) dX8_pay_10 ⟨Nat.le_of_ble_eq_true rfl, Nat.le_of_ble_eq_true rfl⟩ (fun H locs hM => ?_)
    exact me_iret hC hr hlk hM (rfl) (rfl) (rfl) dX8_pay_13
set_option maxHeartbeats 4000000 in
theorem c_X8_pay_x2 (l : Launch) (D : va_G) (tb : Nat → ClassId) (X : State → Prop) (z0 n : Nat) (mo : Nat) (F w av od sv sl nz ip ot : Nat → Int32) (M0 : me_M) (S B L P : Nat) (T : Nat) (b : Nat) (x : Int32)  (hO : ok1 S B L P T w) (hT0 : T ≤ 9999) (hb9 : b < B) (hbad : x < 1 ∨ 999 < x) : Met l yX8_pay (.code yX8_pay cX8_pay 3 (some .int) :: ws_all) ({ frames := 2, cells := 0, slots := 0, locals := 43 } : Room) (me_Pc [.ref mo, .int (nI b), .int x] D tb X z0 (mq tb mo F w av od sv sl nz ip ot M0) n) (me_Qi D z0 0 (mq tb mo (upd F 0 2) w av od sv sl nz ip ot M0) n) 0 0 (me_A z0) := by
  refine me_open (by decide) (Nat.le_of_ble_eq_true rfl) ?_
  intro p e s m args below meth c ls hC hr hlk hnm hM hl
  have hl : lv_has ls 3 [(0, .ref mo), (1, .int (nI b)), (2, .int x)] := hl
  have hx := hC.1
  have hb := hC.2.1
  have hw := hC.2.2.2.2.1
  obtain ⟨hW, hZ, hT⟩ := id hO
  obtain ⟨hS, hS0, hB, hB0, hL, hL0, hP, hP0, hwb, hwl⟩ := id hW
  have hT2 : T ≤ 20000 := by omega
  refine lv_aload_n hx hb dX8_pay_0 rfl (lv_at hl 0 rfl) ?_
  refine lv_iload_n hx hb dX8_pay_1 rfl (lv_at hl 1 rfl) ?_
  refine me_callVi (As := [.int (nI b)]) (rest := []) hC hl.1 hM (c_X8_isBorrower l D tb X z0 n mo F w av od sv sl nz ip ot M0 (nI b) ) (kv_X8_292 hw rfl rfl ⟨Nat.le_of_ble_eq_true rfl, Nat.le_of_ble_eq_true rfl⟩) rfl rfl mq_F rfl (Nat.le_of_ble_eq_true rfl) dX8_pay_2 ⟨Nat.le_of_ble_eq_true rfl, Nat.le_of_ble_eq_true rfl⟩ (fun H locs hM => ?_)
  refine lv_if_ne (tgt := 14) hx hb dX8_pay_5 (by decide) (fun c_1 => ?_) (fun c_1 => ?_)
  · have c_1 := b1_n0.mp c_1
    refine lv_iload_n hx hb dX8_pay_14 rfl (lv_at hl 2 rfl) ?_
    refine lv_iconst (v := 1) hx hb dX8_pay_15 (by decide) ?_
    refine lv_sipush (v := 999) hx hb dX8_pay_16 (by decide) ?_
    refine me_callSi (As := [.int x, .int 1, .int 999]) (rest := []) hC hl.1 hM (c_X8_in l D tb X z0 n _ x 1 999 ) (ks_X8_67 hw rfl rfl ⟨Nat.le_of_ble_eq_true rfl, Nat.le_of_ble_eq_true rfl⟩) rfl rfl (Nat.le_of_ble_eq_true rfl) dX8_pay_19 ⟨Nat.le_of_ble_eq_true rfl, Nat.le_of_ble_eq_true rfl⟩ (fun H locs hM => ?_)
    refine lv_if_ne (tgt := 31) hx hb dX8_pay_22 (by decide) (fun c_2 => ?_) (fun c_2 => ?_)
    · have c_2 := b1_n0.mp c_2
      exact absurd c_2 (in_y hbad)
    · have c_2 := b1_0.mp c_2
      refine lv_aload_n hx hb dX8_pay_25 rfl (lv_at hl 0 rfl) ?_
      refine lv_iconst (v := 2) hx hb dX8_pay_26 (by decide) ?_
      refine me_callVi (As := [.int 2]) (rest := []) hC hl.1 hM (c_X8_refuse l D tb X z0 n mo F w av od sv sl nz ip ot M0 (2 : Int32) ) (kv_X8_265 hw rfl rfl ⟨Nat.le_of_ble_eq_true rfl, Nat.le_of_ble_eq_true rfl⟩) rfl rfl mq_F rfl (Nat.le_of_ble_eq_true rfl) dX8_pay_27 ⟨Nat.le_of_ble_eq_true rfl, Nat.le_of_ble_eq_true rfl⟩ (fun H locs hM => ?_)
      exact me_iret hC hr hlk hM (rfl) (rfl) (rfl) dX8_pay_30
  · have c_1 := b1_0.mp c_1
    exact absurd (in_c hB (by omega) hb9) c_1
set_option maxHeartbeats 4000000 in
theorem c_X8_advance (l : Launch) (D : va_G) (tb : Nat → ClassId) (X : State → Prop) (z0 n : Nat) (mo : Nat) (F w av od sv sl nz ip ot : Nat → Int32) (M0 : me_M) (S B L P : Nat) (T : Nat) (om n9 : Nat)  (hO : ok1 S B L P T w) (hT0 : T ≤ 9999) (hom : F 1 = nI om) (hom0 : om ≤ 10) (hn1 : 1 ≤ n9) (hn2 : n9 ≤ 99) (hTn : T + n9 ≤ 9999) : Met l yX8_advance (.code yX8_advance cX8_advance 2 (some .int) :: ws_all) ({ frames := 8, cells := 0, slots := 0, locals := 175 } : Room) (me_Pc [.ref mo, .int (nI n9)] D tb X z0 (mq tb mo F w av od sv sl nz ip ot M0) n) (me_Qi D z0 (nI (mpN S B L P n9 (w, nz))) (mq tb mo (upd (rmF F om) 0 0) ((mpS S B L P n9 (w, nz)).1) av (rmO od w om) sv sl ((mpS S B L P n9 (w, nz)).2) ip ot M0) n) 0 0 (me_A z0) := by
  refine me_open (by decide) (Nat.le_of_ble_eq_true rfl) ?_
  intro p e s m args below meth c ls hC hr hlk hnm hM hl
  have hl : lv_has ls 2 [(0, .ref mo), (1, .int (nI n9))] := hl
  have hx := hC.1
  have hb := hC.2.1
  have hw := hC.2.2.2.2.1
  obtain ⟨hW, hZ, hT⟩ := id hO
  obtain ⟨hS, hS0, hB, hB0, hL, hL0, hP, hP0, hwb, hwl⟩ := id hW
  have hT2 : T ≤ 20000 := by omega
  refine lv_iload_n hx hb dX8_advance_0 rfl (lv_at hl 1 rfl) ?_
  refine lv_iconst (v := 1) hx hb dX8_advance_1 (by decide) ?_
  refine lv_bipush (v := 99) hx hb dX8_advance_2 (by decide) ?_
  refine me_callSi (As := [.int (nI n9), .int 1, .int 99]) (rest := []) hC hl.1 hM (c_X8_in l D tb X z0 n _ (nI n9) 1 99 ) (ks_X8_67 hw rfl rfl ⟨Nat.le_of_ble_eq_true rfl, Nat.le_of_ble_eq_true rfl⟩) rfl rfl (Nat.le_of_ble_eq_true rfl) dX8_advance_4 ⟨Nat.le_of_ble_eq_true rfl, Nat.le_of_ble_eq_true rfl⟩ (fun H locs hM => ?_)
  refine lv_if_ne (tgt := 16) hx hb dX8_advance_7 (by decide) (fun c_1 => ?_) (fun c_1 => ?_)
  · have c_1 := b1_n0.mp c_1
    refine lv_aload_n hx hb dX8_advance_16 rfl (lv_at hl 0 rfl) ?_
    refine fg_X8_13 hC hM mq_F rfl dX8_advance_17 ?_
    refine lv_iconst (v := 2) hx hb dX8_advance_20 (by decide) ?_
    refine me_iald (k := 2) hC hM mq_w (nx_c 2) (by omega) (by decide) dX8_advance_21 ?_
    refine lv_iload_n hx hb dX8_advance_22 rfl (lv_at hl 1 rfl) ?_
    refine lv_iadd hx hb dX8_advance_23 ?_
    refine lv_sipush (v := 9999) hx hb dX8_advance_24 (by decide) ?_
    refine lv_icmp_le (tgt := 36) hx hb dX8_advance_27 (by decide) (fun c_2 => ?_) (fun c_2 => ?_)
    · have c_2 := (br_le (nx_add hT rfl) (nx_c 9999) (by omega) (by omega)).mp c_2
      refine lv_aload_n hx hb dX8_advance_36 rfl (lv_at hl 0 rfl) ?_
      refine me_callVv (As := []) (rest := []) hC hl.1 hM (c_X8_remembers_a l D tb X z0 n mo F w av od sv sl nz ip ot M0 om hom hom0) (kv_X8_327 hw rfl rfl ⟨Nat.le_of_ble_eq_true rfl, Nat.le_of_ble_eq_true rfl⟩) rfl rfl mq_F rfl (Nat.le_of_ble_eq_true rfl) dX8_advance_37 ⟨Nat.le_of_ble_eq_true rfl, Nat.le_of_ble_eq_true rfl⟩ (fun H locs hM => ?_)
      refine lv_aload_n hx hb dX8_advance_40 rfl (lv_at hl 0 rfl) ?_
      refine lv_aload_n hx hb dX8_advance_41 rfl (lv_at hl 0 rfl) ?_
      refine lv_iload_n hx hb dX8_advance_42 rfl (lv_at hl 1 rfl) ?_
      refine me_callVi (As := [.int (nI n9)]) (rest := [.ref mo]) hC hl.1 hM (c_X8_passes l D tb X z0 n mo (rmF F om) w av (rmO od w om) sv sl nz ip ot M0 S B L P T n9 hO (by omega)) (kv_X8_60 hw rfl rfl ⟨Nat.le_of_ble_eq_true rfl, Nat.le_of_ble_eq_true rfl⟩) rfl rfl mq_F rfl (Nat.le_of_ble_eq_true rfl) dX8_advance_43 ⟨Nat.le_of_ble_eq_true rfl, Nat.le_of_ble_eq_true rfl⟩ (fun H locs hM => ?_)
      refine me_callVi (As := [.int (nI (mpN S B L P n9 (w, nz)))]) (rest := []) hC hl.1 hM (c_X8_told l D tb X z0 n mo (rmF F om) ((mpS S B L P n9 (w, nz)).1) av (rmO od w om) sv sl ((mpS S B L P n9 (w, nz)).2) ip ot M0 (nI (mpN S B L P n9 (w, nz))) ) (kv_X8_271 hw rfl rfl ⟨Nat.le_of_ble_eq_true rfl, Nat.le_of_ble_eq_true rfl⟩) rfl rfl mq_F rfl (Nat.le_of_ble_eq_true rfl) dX8_advance_46 ⟨Nat.le_of_ble_eq_true rfl, Nat.le_of_ble_eq_true rfl⟩ (fun H locs hM => ?_)
      exact me_iret hC hr hlk hM (rfl) (rfl) (rfl) dX8_advance_49
    · have c_2 := (not_congr (br_le (nx_add hT rfl) (nx_c 9999) (by omega) (by omega))).mp c_2
      exfalso; omega
  · have c_1 := b1_0.mp c_1
    exact absurd (in_n (a := 1) (b := 99) hn1 hn2 (by omega)) c_1
set_option maxHeartbeats 4000000 in
theorem c_X8_advance_x1 (l : Launch) (D : va_G) (tb : Nat → ClassId) (X : State → Prop) (z0 n : Nat) (mo : Nat) (F w av od sv sl nz ip ot : Nat → Int32) (M0 : me_M) (S B L P : Nat) (T : Nat) (x : Int32)  (hO : ok1 S B L P T w) (hT0 : T ≤ 9999) (hbad : x < 1 ∨ 99 < x) : Met l yX8_advance (.code yX8_advance cX8_advance 2 (some .int) :: ws_all) ({ frames := 1, cells := 0, slots := 0, locals := 22 } : Room) (me_Pc [.ref mo, .int x] D tb X z0 (mq tb mo F w av od sv sl nz ip ot M0) n) (me_Qi D z0 0 (mq tb mo (upd F 0 1) w av od sv sl nz ip ot M0) n) 0 0 (me_A z0) := by
  refine me_open (by decide) (Nat.le_of_ble_eq_true rfl) ?_
  intro p e s m args below meth c ls hC hr hlk hnm hM hl
  have hl : lv_has ls 2 [(0, .ref mo), (1, .int x)] := hl
  have hx := hC.1
  have hb := hC.2.1
  have hw := hC.2.2.2.2.1
  obtain ⟨hW, hZ, hT⟩ := id hO
  obtain ⟨hS, hS0, hB, hB0, hL, hL0, hP, hP0, hwb, hwl⟩ := id hW
  have hT2 : T ≤ 20000 := by omega
  refine lv_iload_n hx hb dX8_advance_0 rfl (lv_at hl 1 rfl) ?_
  refine lv_iconst (v := 1) hx hb dX8_advance_1 (by decide) ?_
  refine lv_bipush (v := 99) hx hb dX8_advance_2 (by decide) ?_
  refine me_callSi (As := [.int x, .int 1, .int 99]) (rest := []) hC hl.1 hM (c_X8_in l D tb X z0 n _ x 1 99 ) (ks_X8_67 hw rfl rfl ⟨Nat.le_of_ble_eq_true rfl, Nat.le_of_ble_eq_true rfl⟩) rfl rfl (Nat.le_of_ble_eq_true rfl) dX8_advance_4 ⟨Nat.le_of_ble_eq_true rfl, Nat.le_of_ble_eq_true rfl⟩ (fun H locs hM => ?_)
  refine lv_if_ne (tgt := 16) hx hb dX8_advance_7 (by decide) (fun c_1 => ?_) (fun c_1 => ?_)
  · have c_1 := b1_n0.mp c_1
    exact absurd c_1 (in_y hbad)
  · have c_1 := b1_0.mp c_1
    refine lv_aload_n hx hb dX8_advance_10 rfl (lv_at hl 0 rfl) ?_
    refine lv_iconst (v := 1) hx hb dX8_advance_11 (by decide) ?_
    refine me_callVi (As := [.int 1]) (rest := []) hC hl.1 hM (c_X8_refuse l D tb X z0 n mo F w av od sv sl nz ip ot M0 (1 : Int32) ) (kv_X8_265 hw rfl rfl ⟨Nat.le_of_ble_eq_true rfl, Nat.le_of_ble_eq_true rfl⟩) rfl rfl mq_F rfl (Nat.le_of_ble_eq_true rfl) dX8_advance_12 ⟨Nat.le_of_ble_eq_true rfl, Nat.le_of_ble_eq_true rfl⟩ (fun H locs hM => ?_)
    exact me_iret hC hr hlk hM (rfl) (rfl) (rfl) dX8_advance_15
set_option maxHeartbeats 4000000 in
theorem c_X8_advance_x2 (l : Launch) (D : va_G) (tb : Nat → ClassId) (X : State → Prop) (z0 n : Nat) (mo : Nat) (F w av od sv sl nz ip ot : Nat → Int32) (M0 : me_M) (S B L P : Nat) (T : Nat) (n9 : Nat)  (hO : ok1 S B L P T w) (hT0 : T ≤ 9999) (hn1 : 1 ≤ n9) (hn2 : n9 ≤ 99) (hTn : 9999 < T + n9) : Met l yX8_advance (.code yX8_advance cX8_advance 2 (some .int) :: ws_all) ({ frames := 1, cells := 0, slots := 0, locals := 22 } : Room) (me_Pc [.ref mo, .int (nI n9)] D tb X z0 (mq tb mo F w av od sv sl nz ip ot M0) n) (me_Qi D z0 0 (mq tb mo (upd F 0 2) w av od sv sl nz ip ot M0) n) 0 0 (me_A z0) := by
  refine me_open (by decide) (Nat.le_of_ble_eq_true rfl) ?_
  intro p e s m args below meth c ls hC hr hlk hnm hM hl
  have hl : lv_has ls 2 [(0, .ref mo), (1, .int (nI n9))] := hl
  have hx := hC.1
  have hb := hC.2.1
  have hw := hC.2.2.2.2.1
  obtain ⟨hW, hZ, hT⟩ := id hO
  obtain ⟨hS, hS0, hB, hB0, hL, hL0, hP, hP0, hwb, hwl⟩ := id hW
  have hT2 : T ≤ 20000 := by omega
  refine lv_iload_n hx hb dX8_advance_0 rfl (lv_at hl 1 rfl) ?_
  refine lv_iconst (v := 1) hx hb dX8_advance_1 (by decide) ?_
  refine lv_bipush (v := 99) hx hb dX8_advance_2 (by decide) ?_
  refine me_callSi (As := [.int (nI n9), .int 1, .int 99]) (rest := []) hC hl.1 hM (c_X8_in l D tb X z0 n _ (nI n9) 1 99 ) (ks_X8_67 hw rfl rfl ⟨Nat.le_of_ble_eq_true rfl, Nat.le_of_ble_eq_true rfl⟩) rfl rfl (Nat.le_of_ble_eq_true rfl) dX8_advance_4 ⟨Nat.le_of_ble_eq_true rfl, Nat.le_of_ble_eq_true rfl⟩ (fun H locs hM => ?_)
  refine lv_if_ne (tgt := 16) hx hb dX8_advance_7 (by decide) (fun c_1 => ?_) (fun c_1 => ?_)
  · have c_1 := b1_n0.mp c_1
    refine lv_aload_n hx hb dX8_advance_16 rfl (lv_at hl 0 rfl) ?_
    refine fg_X8_13 hC hM mq_F rfl dX8_advance_17 ?_
    refine lv_iconst (v := 2) hx hb dX8_advance_20 (by decide) ?_
    refine me_iald (k := 2) hC hM mq_w (nx_c 2) (by omega) (by decide) dX8_advance_21 ?_
    refine lv_iload_n hx hb dX8_advance_22 rfl (lv_at hl 1 rfl) ?_
    refine lv_iadd hx hb dX8_advance_23 ?_
    refine lv_sipush (v := 9999) hx hb dX8_advance_24 (by decide) ?_
    refine lv_icmp_le (tgt := 36) hx hb dX8_advance_27 (by decide) (fun c_2 => ?_) (fun c_2 => ?_)
    · have c_2 := (br_le (nx_add hT rfl) (nx_c 9999) (by omega) (by omega)).mp c_2
      exfalso; omega
    · have c_2 := (not_congr (br_le (nx_add hT rfl) (nx_c 9999) (by omega) (by omega))).mp c_2
      refine lv_aload_n hx hb dX8_advance_30 rfl (lv_at hl 0 rfl) ?_
      refine lv_iconst (v := 2) hx hb dX8_advance_31 (by decide) ?_
      refine me_callVi (As := [.int 2]) (rest := []) hC hl.1 hM (c_X8_refuse l D tb X z0 n mo F w av od sv sl nz ip ot M0 (2 : Int32) ) (kv_X8_265 hw rfl rfl ⟨Nat.le_of_ble_eq_true rfl, Nat.le_of_ble_eq_true rfl⟩) rfl rfl mq_F rfl (Nat.le_of_ble_eq_true rfl) dX8_advance_32 ⟨Nat.le_of_ble_eq_true rfl, Nat.le_of_ble_eq_true rfl⟩ (fun H locs hM => ?_)
      exact me_iret hC hr hlk hM (rfl) (rfl) (rfl) dX8_advance_35
  · have c_1 := b1_0.mp c_1
    exact absurd (in_n (a := 1) (b := 99) hn1 hn2 (by omega)) c_1
set_option maxHeartbeats 4000000 in
theorem c_X8_restore (l : Launch) (D : va_G) (tb : Nat → ClassId) (X : State → Prop) (z0 n : Nat) (mo : Nat) (F w av od sv sl nz ip ot : Nat → Int32) (M0 : me_M) (S B L P : Nat) (T : Nat) (om : Nat) (k : Nat)  (hO : ok1 S B L P T w) (hT0 : T ≤ 9999) (hom : F 1 = nI om) (hom0 : om ≤ 10) (hk : k < 2) (hsf : ¬ (F 2 >>> (nI k &&& 31) &&& 1) = 0) : Met l yX8_restore (.code yX8_restore cX8_restore 3 (some .int) :: ws_all) ({ frames := 1, cells := 0, slots := 0, locals := 22 } : Room) (me_Pc [.ref mo, .int (nI k)] D tb X z0 (mq tb mo F w av od sv sl nz ip ot M0) n) (me_Qi D z0 (cq w (fun j => sv (k * 411 + j)) 0 411 2) (mq tb mo (upd (rmF F om) 0 0) (cq w (fun j => sv (k * 411 + j)) 0 411) av (rmO od w om) sv sl nz ip ot M0) n) 0 0 (me_A z0) := by
  refine me_open (by decide) (Nat.le_of_ble_eq_true rfl) ?_
  intro p e s m args below meth c ls hC hr hlk hnm hM hl
  have hl : lv_has ls 3 [(0, .ref mo), (1, .int (nI k))] := hl
  have hx := hC.1
  have hb := hC.2.1
  have hw := hC.2.2.2.2.1
  obtain ⟨hW, hZ, hT⟩ := id hO
  obtain ⟨hS, hS0, hB, hB0, hL, hL0, hP, hP0, hwb, hwl⟩ := id hW
  have hT2 : T ≤ 20000 := by omega
  refine lv_iload_n hx hb dX8_restore_0 rfl (lv_at hl 1 rfl) ?_
  refine lv_iconst (v := 0) hx hb dX8_restore_1 (by decide) ?_
  refine lv_iconst (v := 1) hx hb dX8_restore_2 (by decide) ?_
  refine me_callSi (As := [.int (nI k), .int 0, .int 1]) (rest := []) hC hl.1 hM (c_X8_in l D tb X z0 n _ (nI k) 0 1 ) (ks_X8_67 hw rfl rfl ⟨Nat.le_of_ble_eq_true rfl, Nat.le_of_ble_eq_true rfl⟩) rfl rfl (Nat.le_of_ble_eq_true rfl) dX8_restore_3 ⟨Nat.le_of_ble_eq_true rfl, Nat.le_of_ble_eq_true rfl⟩ (fun H locs hM => ?_)
  refine lv_if_ne (tgt := 15) hx hb dX8_restore_6 (by decide) (fun c_1 => ?_) (fun c_1 => ?_)
  · have c_1 := b1_n0.mp c_1
    refine lv_aload_n hx hb dX8_restore_15 rfl (lv_at hl 0 rfl) ?_
    refine fg_X8_286 hC hM mq_F rfl dX8_restore_16 ?_
    refine lv_iload_n hx hb dX8_restore_19 rfl (lv_at hl 1 rfl) ?_
    refine lv_ishr hx hb dX8_restore_20 ?_
    refine lv_iconst (v := 1) hx hb dX8_restore_21 (by decide) ?_
    refine lv_iand hx hb dX8_restore_22 ?_
    refine lv_if_ne (tgt := 32) hx hb dX8_restore_23 (by decide) (fun c_2 => ?_) (fun c_2 => ?_)
    · refine lv_aload_n hx hb dX8_restore_32 rfl (lv_at hl 0 rfl) ?_
      refine me_callVv (As := []) (rest := []) hC hl.1 hM (c_X8_remembers_a l D tb X z0 n mo F w av od sv sl nz ip ot M0 om hom hom0) (kv_X8_327 hw rfl rfl ⟨Nat.le_of_ble_eq_true rfl, Nat.le_of_ble_eq_true rfl⟩) rfl rfl mq_F rfl (Nat.le_of_ble_eq_true rfl) dX8_restore_33 ⟨Nat.le_of_ble_eq_true rfl, Nat.le_of_ble_eq_true rfl⟩ (fun H locs hM => ?_)
      refine lv_iconst (v := 0) hx hb dX8_restore_36 (by decide) ?_
      refine lv_istore_n (lv' := [(2, .int 0), (0, .ref mo), (1, .int (nI k))]) hx hb dX8_restore_37 rfl hl (by decide) rfl (fun ls hl => ?_)
      have lp_38 : ∀ (r : Nat) (j : Nat) (H : Heap) (locs : List Loc) (ls : Array Slot), (j + r = 411) → me_at D z0 (mq tb mo (rmF F om) (cq w (fun j => sv (k * 411 + j)) 0 j) av (rmO od w om) sv sl nz ip ot M0) n s H locs → lv_has ls 3 [(0, .ref mo), (1, .int (nI k)), (2, .int (nI j))] → W p l e (({ frames := 1, cells := 0, slots := 0, locals := 22 } : Room)) s m args below meth c H locs 0 0 (MQ below (me_Qi D z0 (cq w (fun j => sv (k * 411 + j)) 0 411 2) (mq tb mo (upd (rmF F om) 0 0) (cq w (fun j => sv (k * 411 + j)) 0 411) av (rmO od w om) sv sl nz ip ot M0) n) args s 0 0 (me_A z0)) (F0 m 38 ls []) := by
        intro r
        refine Nat.strongRecOn r ?_
        intro r ih_38 j H locs ls hj hM hl
        refine lv_iload_n hx hb dX8_restore_38 rfl (lv_at hl 2 rfl) ?_
        refine lv_sipush (v := 411) hx hb dX8_restore_39 (by decide) ?_
        refine lv_icmp_ge (tgt := 69) hx hb dX8_restore_42 (by decide) (fun c_3 => ?_) (fun c_3 => ?_)
        · have c_3 := (br_le (nx_c 411) rfl (by omega) (by omega)).mp c_3
          have hM := hM.eq (M2 := mq tb mo (rmF F om) (cq w (fun j => sv (k * 411 + j)) 0 411) av (rmO od w om) sv sl nz ip ot M0) (by rw [show j = 411 by omega])
          refine lv_aload_n hx hb dX8_restore_69 rfl (lv_at hl 0 rfl) ?_
          refine lv_aload_n hx hb dX8_restore_70 rfl (lv_at hl 0 rfl) ?_
          refine fg_X8_13 hC hM mq_F rfl dX8_restore_71 ?_
          refine lv_iconst (v := 2) hx hb dX8_restore_74 (by decide) ?_
          refine me_iald (k := 2) hC hM mq_w (nx_c 2) (by omega) (by decide) dX8_restore_75 ?_
          refine me_callVi (As := [.int ((cq w (fun j => sv (k * 411 + j)) 0 411) 2)]) (rest := []) hC hl.1 hM (c_X8_told l D tb X z0 n mo (rmF F om) (cq w (fun j => sv (k * 411 + j)) 0 411) av (rmO od w om) sv sl nz ip ot M0 ((cq w (fun j => sv (k * 411 + j)) 0 411) 2) ) (kv_X8_271 hw rfl rfl ⟨Nat.le_of_ble_eq_true rfl, Nat.le_of_ble_eq_true rfl⟩) rfl rfl mq_F rfl (Nat.le_of_ble_eq_true rfl) dX8_restore_76 ⟨Nat.le_of_ble_eq_true rfl, Nat.le_of_ble_eq_true rfl⟩ (fun H locs hM => ?_)
          exact me_iret hC hr hlk hM (rfl) (rfl) (rfl) dX8_restore_79
        · have c_3 := (not_congr (br_le (nx_c 411) rfl (by omega) (by omega))).mp c_3
          obtain ⟨r1, rfl⟩ : ∃ r1, r = r1 + 1 := ⟨r - 1, by omega⟩
          refine lv_aload_n hx hb dX8_restore_45 rfl (lv_at hl 0 rfl) ?_
          refine fg_X8_13 hC hM mq_F rfl dX8_restore_46 ?_
          refine lv_iload_n hx hb dX8_restore_49 rfl (lv_at hl 2 rfl) ?_
          refine lv_aload_n hx hb dX8_restore_50 rfl (lv_at hl 0 rfl) ?_
          refine fg_X8_22 hC hM mq_F rfl dX8_restore_51 ?_
          refine lv_iload_n hx hb dX8_restore_54 rfl (lv_at hl 1 rfl) ?_
          refine lv_sipush (v := 411) hx hb dX8_restore_55 (by decide) ?_
          refine lv_imul hx hb dX8_restore_58 ?_
          refine lv_iload_n hx hb dX8_restore_59 rfl (lv_at hl 2 rfl) ?_
          refine lv_iadd hx hb dX8_restore_60 ?_
          refine me_iald (k := k * 411 + j) hC hM mq_sv (nx_add (nx_mul rfl (nx_c 411)) rfl) (by omega) (by decide) dX8_restore_61 ?_
          refine me_iast (k := j) (M2 := mq tb mo (rmF F om) (upd (cq w (fun j => sv (k * 411 + j)) 0 j) (j) (sv (k * 411 + j))) av (rmO od w om) sv sl nz ip ot M0) hC hM mq_w rfl (by omega) (by decide) mq_w_w dX8_restore_62 (fun H locs hM => ?_)
          refine lv_iinc (v := nI (j + 1)) (lv' := [(2, .int (nI (j + 1))), (0, .ref mo), (1, .int (nI k))]) hx hb dX8_restore_63 hl (k := 2) rfl (nx_add rfl rfl) (by decide) rfl (fun ls hl => ?_)
          refine lv_goto (tgt := 38) hx hb dX8_restore_66 (by decide) ?_
          exact ih_38 r1 (by omega) (j + 1) _ _ _ (by omega) (hM.eq (by rw [← cq_s0])) (lv_sub hl [1, 2, 0] rfl)
      exact lp_38 411 0 _ _ _ (by omega) (hM.eq (by rw [cq_0])) (lv_sub hl [1, 2, 0] rfl)
    · exact absurd c_2 hsf
  · have c_1 := b1_0.mp c_1
    exact absurd (in_n (a := 0) (b := 1) (by omega) (by omega) (by omega)) c_1
set_option maxHeartbeats 4000000 in
theorem c_X8_restore_x1 (l : Launch) (D : va_G) (tb : Nat → ClassId) (X : State → Prop) (z0 n : Nat) (mo : Nat) (F w av od sv sl nz ip ot : Nat → Int32) (M0 : me_M) (S B L P : Nat) (T : Nat) (x : Int32)  (hO : ok1 S B L P T w) (hT0 : T ≤ 9999) (hbad : x < 0 ∨ 1 < x) : Met l yX8_restore (.code yX8_restore cX8_restore 3 (some .int) :: ws_all) ({ frames := 1, cells := 0, slots := 0, locals := 22 } : Room) (me_Pc [.ref mo, .int x] D tb X z0 (mq tb mo F w av od sv sl nz ip ot M0) n) (me_Qi D z0 0 (mq tb mo (upd F 0 1) w av od sv sl nz ip ot M0) n) 0 0 (me_A z0) := by
  refine me_open (by decide) (Nat.le_of_ble_eq_true rfl) ?_
  intro p e s m args below meth c ls hC hr hlk hnm hM hl
  have hl : lv_has ls 3 [(0, .ref mo), (1, .int x)] := hl
  have hx := hC.1
  have hb := hC.2.1
  have hw := hC.2.2.2.2.1
  obtain ⟨hW, hZ, hT⟩ := id hO
  obtain ⟨hS, hS0, hB, hB0, hL, hL0, hP, hP0, hwb, hwl⟩ := id hW
  have hT2 : T ≤ 20000 := by omega
  refine lv_iload_n hx hb dX8_restore_0 rfl (lv_at hl 1 rfl) ?_
  refine lv_iconst (v := 0) hx hb dX8_restore_1 (by decide) ?_
  refine lv_iconst (v := 1) hx hb dX8_restore_2 (by decide) ?_
  refine me_callSi (As := [.int x, .int 0, .int 1]) (rest := []) hC hl.1 hM (c_X8_in l D tb X z0 n _ x 0 1 ) (ks_X8_67 hw rfl rfl ⟨Nat.le_of_ble_eq_true rfl, Nat.le_of_ble_eq_true rfl⟩) rfl rfl (Nat.le_of_ble_eq_true rfl) dX8_restore_3 ⟨Nat.le_of_ble_eq_true rfl, Nat.le_of_ble_eq_true rfl⟩ (fun H locs hM => ?_)
  refine lv_if_ne (tgt := 15) hx hb dX8_restore_6 (by decide) (fun c_1 => ?_) (fun c_1 => ?_)
  · have c_1 := b1_n0.mp c_1
    exact absurd c_1 (in_y hbad)
  · have c_1 := b1_0.mp c_1
    refine lv_aload_n hx hb dX8_restore_9 rfl (lv_at hl 0 rfl) ?_
    refine lv_iconst (v := 1) hx hb dX8_restore_10 (by decide) ?_
    refine me_callVi (As := [.int 1]) (rest := []) hC hl.1 hM (c_X8_refuse l D tb X z0 n mo F w av od sv sl nz ip ot M0 (1 : Int32) ) (kv_X8_265 hw rfl rfl ⟨Nat.le_of_ble_eq_true rfl, Nat.le_of_ble_eq_true rfl⟩) rfl rfl mq_F rfl (Nat.le_of_ble_eq_true rfl) dX8_restore_11 ⟨Nat.le_of_ble_eq_true rfl, Nat.le_of_ble_eq_true rfl⟩ (fun H locs hM => ?_)
    exact me_iret hC hr hlk hM (rfl) (rfl) (rfl) dX8_restore_14
set_option maxHeartbeats 4000000 in
theorem c_X8_restore_x2 (l : Launch) (D : va_G) (tb : Nat → ClassId) (X : State → Prop) (z0 n : Nat) (mo : Nat) (F w av od sv sl nz ip ot : Nat → Int32) (M0 : me_M) (S B L P : Nat) (T : Nat) (k : Nat)  (hO : ok1 S B L P T w) (hT0 : T ≤ 9999) (hk : k < 2) (hsf : (F 2 >>> (nI k &&& 31) &&& 1) = 0) : Met l yX8_restore (.code yX8_restore cX8_restore 3 (some .int) :: ws_all) ({ frames := 1, cells := 0, slots := 0, locals := 22 } : Room) (me_Pc [.ref mo, .int (nI k)] D tb X z0 (mq tb mo F w av od sv sl nz ip ot M0) n) (me_Qi D z0 0 (mq tb mo (upd F 0 2) w av od sv sl nz ip ot M0) n) 0 0 (me_A z0) := by
  refine me_open (by decide) (Nat.le_of_ble_eq_true rfl) ?_
  intro p e s m args below meth c ls hC hr hlk hnm hM hl
  have hl : lv_has ls 3 [(0, .ref mo), (1, .int (nI k))] := hl
  have hx := hC.1
  have hb := hC.2.1
  have hw := hC.2.2.2.2.1
  obtain ⟨hW, hZ, hT⟩ := id hO
  obtain ⟨hS, hS0, hB, hB0, hL, hL0, hP, hP0, hwb, hwl⟩ := id hW
  have hT2 : T ≤ 20000 := by omega
  refine lv_iload_n hx hb dX8_restore_0 rfl (lv_at hl 1 rfl) ?_
  refine lv_iconst (v := 0) hx hb dX8_restore_1 (by decide) ?_
  refine lv_iconst (v := 1) hx hb dX8_restore_2 (by decide) ?_
  refine me_callSi (As := [.int (nI k), .int 0, .int 1]) (rest := []) hC hl.1 hM (c_X8_in l D tb X z0 n _ (nI k) 0 1 ) (ks_X8_67 hw rfl rfl ⟨Nat.le_of_ble_eq_true rfl, Nat.le_of_ble_eq_true rfl⟩) rfl rfl (Nat.le_of_ble_eq_true rfl) dX8_restore_3 ⟨Nat.le_of_ble_eq_true rfl, Nat.le_of_ble_eq_true rfl⟩ (fun H locs hM => ?_)
  refine lv_if_ne (tgt := 15) hx hb dX8_restore_6 (by decide) (fun c_1 => ?_) (fun c_1 => ?_)
  · have c_1 := b1_n0.mp c_1
    refine lv_aload_n hx hb dX8_restore_15 rfl (lv_at hl 0 rfl) ?_
    refine fg_X8_286 hC hM mq_F rfl dX8_restore_16 ?_
    refine lv_iload_n hx hb dX8_restore_19 rfl (lv_at hl 1 rfl) ?_
    refine lv_ishr hx hb dX8_restore_20 ?_
    refine lv_iconst (v := 1) hx hb dX8_restore_21 (by decide) ?_
    refine lv_iand hx hb dX8_restore_22 ?_
    refine lv_if_ne (tgt := 32) hx hb dX8_restore_23 (by decide) (fun c_2 => ?_) (fun c_2 => ?_)
    · exact absurd hsf c_2
    · refine lv_aload_n hx hb dX8_restore_26 rfl (lv_at hl 0 rfl) ?_
      refine lv_iconst (v := 2) hx hb dX8_restore_27 (by decide) ?_
      refine me_callVi (As := [.int 2]) (rest := []) hC hl.1 hM (c_X8_refuse l D tb X z0 n mo F w av od sv sl nz ip ot M0 (2 : Int32) ) (kv_X8_265 hw rfl rfl ⟨Nat.le_of_ble_eq_true rfl, Nat.le_of_ble_eq_true rfl⟩) rfl rfl mq_F rfl (Nat.le_of_ble_eq_true rfl) dX8_restore_28 ⟨Nat.le_of_ble_eq_true rfl, Nat.le_of_ble_eq_true rfl⟩ (fun H locs hM => ?_)
      exact me_iret hC hr hlk hM (rfl) (rfl) (rfl) dX8_restore_31
  · have c_1 := b1_0.mp c_1
    exact absurd (in_n (a := 0) (b := 1) (by omega) (by omega) (by omega)) c_1
set_option maxHeartbeats 4000000 in
theorem c_X8_undo (l : Launch) (D : va_G) (tb : Nat → ClassId) (X : State → Prop) (z0 n : Nat) (mo : Nat) (F w av od sv sl nz ip ot : Nat → Int32) (M0 : me_M) (om : Nat)  (hom : F 1 = nI (om + 1)) (hom0 : om < 10) : Met l yX8_undo (.code yX8_undo cX8_undo 2 (some .int) :: ws_all) ({ frames := 1, cells := 0, slots := 0, locals := 21 } : Room) (me_Pc [.ref mo] D tb X z0 (mq tb mo F w av od sv sl nz ip ot M0) n) (me_Qi D z0 (nI om) (mq tb mo (upd (upd F 1 (nI om)) 0 0) (cq w (fun j => od (om * 411 + j)) 0 411) av od sv sl nz ip ot M0) n) 0 0 (me_A z0) := by
  refine me_open (by decide) (Nat.le_of_ble_eq_true rfl) ?_
  intro p e s m args below meth c ls hC hr hlk hnm hM hl
  have hl : lv_has ls 2 [(0, .ref mo)] := hl
  have hx := hC.1
  have hb := hC.2.1
  have hw := hC.2.2.2.2.1
  have hu0 : F 1 - 1 = nI om := by rw [hom]; exact nI_pred om
  have hu9 : upd F 1 (F 1 - 1) 1 = nI om := (upd_s _ _ _).trans hu0
  refine lv_aload_n hx hb dX8_undo_0 rfl (lv_at hl 0 rfl) ?_
  refine fg_X8_163 hC hM mq_F rfl dX8_undo_1 ?_
  refine lv_if_ne (tgt := 13) hx hb dX8_undo_4 (by decide) (fun c_1 => ?_) (fun c_1 => ?_)
  · refine lv_aload_n hx hb dX8_undo_13 rfl (lv_at hl 0 rfl) ?_
    refine lv_dup hx hb dX8_undo_14 rfl ?_
    refine fg_X8_163 hC hM mq_F rfl dX8_undo_15 ?_
    refine lv_iconst (v := 1) hx hb dX8_undo_18 (by decide) ?_
    refine lv_isub hx hb dX8_undo_19 ?_
    refine fp_X8_163 hC hM mq_F (Nat.le_of_ble_eq_true rfl) (M2 := mq tb mo (upd F 1 ((F 1) - 1)) w av od sv sl nz ip ot M0) (mq_wF (i := 1) (by simp [upd])) dX8_undo_20 (fun H locs hM => ?_)
    refine lv_iconst (v := 0) hx hb dX8_undo_23 (by decide) ?_
    refine lv_istore_n (lv' := [(1, .int 0), (0, .ref mo)]) hx hb dX8_undo_24 rfl hl (by decide) rfl (fun ls hl => ?_)
    have lp_25 : ∀ (r : Nat) (j : Nat) (H : Heap) (locs : List Loc) (ls : Array Slot), (j + r = 411) → me_at D z0 (mq tb mo (upd F 1 (F 1 - 1)) (cq w (fun j => od (om * 411 + j)) 0 j) av od sv sl nz ip ot M0) n s H locs → lv_has ls 2 [(0, .ref mo), (1, .int (nI j))] → W p l e (({ frames := 1, cells := 0, slots := 0, locals := 21 } : Room)) s m args below meth c H locs 0 0 (MQ below (me_Qi D z0 (nI om) (mq tb mo (upd (upd F 1 (nI om)) 0 0) (cq w (fun j => od (om * 411 + j)) 0 411) av od sv sl nz ip ot M0) n) args s 0 0 (me_A z0)) (F0 m 25 ls []) := by
      intro r
      refine Nat.strongRecOn r ?_
      intro r ih_25 j H locs ls hj hM hl
      refine lv_iload_n hx hb dX8_undo_25 rfl (lv_at hl 1 rfl) ?_
      refine lv_sipush (v := 411) hx hb dX8_undo_26 (by decide) ?_
      refine lv_icmp_ge (tgt := 59) hx hb dX8_undo_29 (by decide) (fun c_2 => ?_) (fun c_2 => ?_)
      · have c_2 := (br_le (nx_c 411) rfl (by omega) (by omega)).mp c_2
        have hM := hM.eq (M2 := mq tb mo (upd F 1 (F 1 - 1)) (cq w (fun j => od (om * 411 + j)) 0 411) av od sv sl nz ip ot M0) (by rw [show j = 411 by omega])
        refine lv_aload_n hx hb dX8_undo_59 rfl (lv_at hl 0 rfl) ?_
        refine lv_aload_n hx hb dX8_undo_60 rfl (lv_at hl 0 rfl) ?_
        refine fg_X8_163 hC hM mq_F rfl dX8_undo_61 ?_
        refine me_callVi (As := [.int ((upd F 1 (F 1 - 1)) 1)]) (rest := []) hC hl.1 hM (c_X8_told l D tb X z0 n mo (upd F 1 (F 1 - 1)) (cq w (fun j => od (om * 411 + j)) 0 411) av od sv sl nz ip ot M0 ((upd F 1 (F 1 - 1)) 1) ) (kv_X8_271 hw rfl rfl ⟨Nat.le_of_ble_eq_true rfl, Nat.le_of_ble_eq_true rfl⟩) rfl rfl mq_F rfl (Nat.le_of_ble_eq_true rfl) dX8_undo_64 ⟨Nat.le_of_ble_eq_true rfl, Nat.le_of_ble_eq_true rfl⟩ (fun H locs hM => ?_)
        exact me_iret hC hr hlk hM (hu9) (by rw [hu0]) (rfl) dX8_undo_67
      · have c_2 := (not_congr (br_le (nx_c 411) rfl (by omega) (by omega))).mp c_2
        obtain ⟨r1, rfl⟩ : ∃ r1, r = r1 + 1 := ⟨r - 1, by omega⟩
        refine lv_aload_n hx hb dX8_undo_32 rfl (lv_at hl 0 rfl) ?_
        refine fg_X8_13 hC hM mq_F rfl dX8_undo_33 ?_
        refine lv_iload_n hx hb dX8_undo_36 rfl (lv_at hl 1 rfl) ?_
        refine lv_aload_n hx hb dX8_undo_37 rfl (lv_at hl 0 rfl) ?_
        refine fg_X8_19 hC hM mq_F rfl dX8_undo_38 ?_
        refine lv_aload_n hx hb dX8_undo_41 rfl (lv_at hl 0 rfl) ?_
        refine fg_X8_163 hC hM mq_F rfl dX8_undo_42 ?_
        refine lv_sipush (v := 411) hx hb dX8_undo_45 (by decide) ?_
        refine lv_imul hx hb dX8_undo_48 ?_
        refine lv_iload_n hx hb dX8_undo_49 rfl (lv_at hl 1 rfl) ?_
        refine lv_iadd hx hb dX8_undo_50 ?_
        refine me_iald (k := om * 411 + j) hC hM mq_od (nx_add (nx_mul hu9 (nx_c 411)) rfl) (by omega) (by decide) dX8_undo_51 ?_
        refine me_iast (k := j) (M2 := mq tb mo (upd F 1 (F 1 - 1)) (upd (cq w (fun j => od (om * 411 + j)) 0 j) (j) (od (om * 411 + j))) av od sv sl nz ip ot M0) hC hM mq_w rfl (by omega) (by decide) mq_w_w dX8_undo_52 (fun H locs hM => ?_)
        refine lv_iinc (v := nI (j + 1)) (lv' := [(1, .int (nI (j + 1))), (0, .ref mo)]) hx hb dX8_undo_53 hl (k := 1) rfl (nx_add rfl rfl) (by decide) rfl (fun ls hl => ?_)
        refine lv_goto (tgt := 25) hx hb dX8_undo_56 (by decide) ?_
        exact ih_25 r1 (by omega) (j + 1) _ _ _ (by omega) (hM.eq (by rw [← cq_s0])) (lv_sub hl [1, 0] rfl)
    exact lp_25 411 0 _ _ _ (by omega) (hM.eq (by rw [cq_0])) (lv_sub hl [1, 0] rfl)
  · exact absurd c_1 (hom ▸ fun z => by have := (br_eq rfl (show (0 : Int32) = nI 0 from rfl) (by omega) (by omega)).mp z; omega)
set_option maxHeartbeats 4000000 in
theorem c_X8_undo_x1 (l : Launch) (D : va_G) (tb : Nat → ClassId) (X : State → Prop) (z0 n : Nat) (mo : Nat) (F w av od sv sl nz ip ot : Nat → Int32) (M0 : me_M)  (hom : F 1 = 0) : Met l yX8_undo (.code yX8_undo cX8_undo 2 (some .int) :: ws_all) ({ frames := 1, cells := 0, slots := 0, locals := 21 } : Room) (me_Pc [.ref mo] D tb X z0 (mq tb mo F w av od sv sl nz ip ot M0) n) (me_Qi D z0 0 (mq tb mo (upd F 0 1) w av od sv sl nz ip ot M0) n) 0 0 (me_A z0) := by
  refine me_open (by decide) (Nat.le_of_ble_eq_true rfl) ?_
  intro p e s m args below meth c ls hC hr hlk hnm hM hl
  have hl : lv_has ls 2 [(0, .ref mo)] := hl
  have hx := hC.1
  have hb := hC.2.1
  have hw := hC.2.2.2.2.1
  refine lv_aload_n hx hb dX8_undo_0 rfl (lv_at hl 0 rfl) ?_
  refine fg_X8_163 hC hM mq_F rfl dX8_undo_1 ?_
  refine lv_if_ne (tgt := 13) hx hb dX8_undo_4 (by decide) (fun c_1 => ?_) (fun c_1 => ?_)
  · exact absurd hom c_1
  · refine lv_aload_n hx hb dX8_undo_7 rfl (lv_at hl 0 rfl) ?_
    refine lv_iconst (v := 1) hx hb dX8_undo_8 (by decide) ?_
    refine me_callVi (As := [.int 1]) (rest := []) hC hl.1 hM (c_X8_refuse l D tb X z0 n mo F w av od sv sl nz ip ot M0 (1 : Int32) ) (kv_X8_265 hw rfl rfl ⟨Nat.le_of_ble_eq_true rfl, Nat.le_of_ble_eq_true rfl⟩) rfl rfl mq_F rfl (Nat.le_of_ble_eq_true rfl) dX8_undo_9 ⟨Nat.le_of_ble_eq_true rfl, Nat.le_of_ble_eq_true rfl⟩ (fun H locs hM => ?_)
    exact me_iret hC hr hlk hM (rfl) (rfl) (rfl) dX8_undo_12
set_option maxHeartbeats 4000000 in
theorem c_X8_save (l : Launch) (D : va_G) (tb : Nat → ClassId) (X : State → Prop) (z0 n : Nat) (mo : Nat) (F w av od sv sl nz ip ot : Nat → Int32) (M0 : me_M) (S B L P : Nat) (T : Nat) (k : Nat)  (hO : ok1 S B L P T w) (hT0 : T ≤ 9999) (hk : k < 2) : Met l yX8_save (.code yX8_save cX8_save 3 (some .int) :: ws_all) ({ frames := 1, cells := 0, slots := 0, locals := 22 } : Room) (me_Pc [.ref mo, .int (nI k)] D tb X z0 (mq tb mo F w av od sv sl nz ip ot M0) n) (me_Qi D z0 (w 2) (mq tb mo (upd (upd F 2 (F 2 ||| 1 <<< (nI k &&& 31))) 0 0) w av od (cq sv w (k * 411) 411) sl nz ip ot M0) n) 0 0 (me_A z0) := by
  refine me_open (by decide) (Nat.le_of_ble_eq_true rfl) ?_
  intro p e s m args below meth c ls hC hr hlk hnm hM hl
  have hl : lv_has ls 3 [(0, .ref mo), (1, .int (nI k))] := hl
  have hx := hC.1
  have hb := hC.2.1
  have hw := hC.2.2.2.2.1
  obtain ⟨hW, hZ, hT⟩ := id hO
  obtain ⟨hS, hS0, hB, hB0, hL, hL0, hP, hP0, hwb, hwl⟩ := id hW
  have hT2 : T ≤ 20000 := by omega
  refine lv_iload_n hx hb dX8_save_0 rfl (lv_at hl 1 rfl) ?_
  refine lv_iconst (v := 0) hx hb dX8_save_1 (by decide) ?_
  refine lv_iconst (v := 1) hx hb dX8_save_2 (by decide) ?_
  refine me_callSi (As := [.int (nI k), .int 0, .int 1]) (rest := []) hC hl.1 hM (c_X8_in l D tb X z0 n _ (nI k) 0 1 ) (ks_X8_67 hw rfl rfl ⟨Nat.le_of_ble_eq_true rfl, Nat.le_of_ble_eq_true rfl⟩) rfl rfl (Nat.le_of_ble_eq_true rfl) dX8_save_3 ⟨Nat.le_of_ble_eq_true rfl, Nat.le_of_ble_eq_true rfl⟩ (fun H locs hM => ?_)
  refine lv_if_ne (tgt := 15) hx hb dX8_save_6 (by decide) (fun c_1 => ?_) (fun c_1 => ?_)
  · have c_1 := b1_n0.mp c_1
    refine lv_iconst (v := 0) hx hb dX8_save_15 (by decide) ?_
    refine lv_istore_n (lv' := [(2, .int 0), (0, .ref mo), (1, .int (nI k))]) hx hb dX8_save_16 rfl hl (by decide) rfl (fun ls hl => ?_)
    have lp_17 : ∀ (r : Nat) (j : Nat) (H : Heap) (locs : List Loc) (ls : Array Slot), (j + r = 411) → me_at D z0 (mq tb mo F w av od (cq sv w (k * 411) j) sl nz ip ot M0) n s H locs → lv_has ls 3 [(0, .ref mo), (1, .int (nI k)), (2, .int (nI j))] → W p l e (({ frames := 1, cells := 0, slots := 0, locals := 22 } : Room)) s m args below meth c H locs 0 0 (MQ below (me_Qi D z0 (w 2) (mq tb mo (upd (upd F 2 (F 2 ||| 1 <<< (nI k &&& 31))) 0 0) w av od (cq sv w (k * 411) 411) sl nz ip ot M0) n) args s 0 0 (me_A z0)) (F0 m 17 ls []) := by
      intro r
      refine Nat.strongRecOn r ?_
      intro r ih_17 j H locs ls hj hM hl
      refine lv_iload_n hx hb dX8_save_17 rfl (lv_at hl 2 rfl) ?_
      refine lv_sipush (v := 411) hx hb dX8_save_18 (by decide) ?_
      refine lv_icmp_ge (tgt := 48) hx hb dX8_save_21 (by decide) (fun c_2 => ?_) (fun c_2 => ?_)
      · have c_2 := (br_le (nx_c 411) rfl (by omega) (by omega)).mp c_2
        have hM := hM.eq (M2 := mq tb mo F w av od (cq sv w (k * 411) 411) sl nz ip ot M0) (by rw [show j = 411 by omega])
        refine lv_aload_n hx hb dX8_save_48 rfl (lv_at hl 0 rfl) ?_
        refine lv_dup hx hb dX8_save_49 rfl ?_
        refine fg_X8_286 hC hM mq_F rfl dX8_save_50 ?_
        refine lv_iconst (v := 1) hx hb dX8_save_53 (by decide) ?_
        refine lv_iload_n hx hb dX8_save_54 rfl (lv_at hl 1 rfl) ?_
        refine lv_ishl hx hb dX8_save_55 ?_
        refine lv_ior hx hb dX8_save_56 ?_
        refine fp_X8_286 hC hM mq_F (Nat.le_of_ble_eq_true rfl) (M2 := mq tb mo (upd F 2 ((F 2) ||| (1 <<< ((nI k) &&& 31)))) w av od (cq sv w (k * 411) 411) sl nz ip ot M0) (mq_wF (i := 2) (by simp [upd])) dX8_save_57 (fun H locs hM => ?_)
        refine lv_aload_n hx hb dX8_save_60 rfl (lv_at hl 0 rfl) ?_
        refine lv_aload_n hx hb dX8_save_61 rfl (lv_at hl 0 rfl) ?_
        refine fg_X8_13 hC hM mq_F rfl dX8_save_62 ?_
        refine lv_iconst (v := 2) hx hb dX8_save_65 (by decide) ?_
        refine me_iald (k := 2) hC hM mq_w (nx_c 2) (by omega) (by decide) dX8_save_66 ?_
        refine me_callVi (As := [.int (w 2)]) (rest := []) hC hl.1 hM (c_X8_told l D tb X z0 n mo (upd F 2 ((F 2) ||| (1 <<< ((nI k) &&& 31)))) w av od (cq sv w (k * 411) 411) sl nz ip ot M0 (w 2) ) (kv_X8_271 hw rfl rfl ⟨Nat.le_of_ble_eq_true rfl, Nat.le_of_ble_eq_true rfl⟩) rfl rfl mq_F rfl (Nat.le_of_ble_eq_true rfl) dX8_save_67 ⟨Nat.le_of_ble_eq_true rfl, Nat.le_of_ble_eq_true rfl⟩ (fun H locs hM => ?_)
        exact me_iret hC hr hlk hM (rfl) (rfl) (rfl) dX8_save_70
      · have c_2 := (not_congr (br_le (nx_c 411) rfl (by omega) (by omega))).mp c_2
        obtain ⟨r1, rfl⟩ : ∃ r1, r = r1 + 1 := ⟨r - 1, by omega⟩
        refine lv_aload_n hx hb dX8_save_24 rfl (lv_at hl 0 rfl) ?_
        refine fg_X8_22 hC hM mq_F rfl dX8_save_25 ?_
        refine lv_iload_n hx hb dX8_save_28 rfl (lv_at hl 1 rfl) ?_
        refine lv_sipush (v := 411) hx hb dX8_save_29 (by decide) ?_
        refine lv_imul hx hb dX8_save_32 ?_
        refine lv_iload_n hx hb dX8_save_33 rfl (lv_at hl 2 rfl) ?_
        refine lv_iadd hx hb dX8_save_34 ?_
        refine lv_aload_n hx hb dX8_save_35 rfl (lv_at hl 0 rfl) ?_
        refine fg_X8_13 hC hM mq_F rfl dX8_save_36 ?_
        refine lv_iload_n hx hb dX8_save_39 rfl (lv_at hl 2 rfl) ?_
        refine me_iald (k := j) hC hM mq_w rfl (by omega) (by decide) dX8_save_40 ?_
        refine me_iast (k := k * 411 + j) (M2 := mq tb mo F w av od (upd (cq sv w (k * 411) j) (k * 411 + j) (w (j))) sl nz ip ot M0) hC hM mq_sv (nx_add (nx_mul rfl (nx_c 411)) rfl) (by omega) (by decide) mq_w_sv dX8_save_41 (fun H locs hM => ?_)
        refine lv_iinc (v := nI (j + 1)) (lv' := [(2, .int (nI (j + 1))), (0, .ref mo), (1, .int (nI k))]) hx hb dX8_save_42 hl (k := 2) rfl (nx_add rfl rfl) (by decide) rfl (fun ls hl => ?_)
        refine lv_goto (tgt := 17) hx hb dX8_save_45 (by decide) ?_
        exact ih_17 r1 (by omega) (j + 1) _ _ _ (by omega) (hM.eq (by rw [cq_s])) (lv_sub hl [1, 2, 0] rfl)
    exact lp_17 411 0 _ _ _ (by omega) (hM.eq (by rw [cq_0])) (lv_sub hl [1, 2, 0] rfl)
  · have c_1 := b1_0.mp c_1
    exact absurd (in_n (a := 0) (b := 1) (by omega) (by omega) (by omega)) c_1
set_option maxHeartbeats 4000000 in
theorem c_X8_save_x1 (l : Launch) (D : va_G) (tb : Nat → ClassId) (X : State → Prop) (z0 n : Nat) (mo : Nat) (F w av od sv sl nz ip ot : Nat → Int32) (M0 : me_M) (S B L P : Nat) (T : Nat) (x : Int32)  (hO : ok1 S B L P T w) (hT0 : T ≤ 9999) (hbad : x < 0 ∨ 1 < x) : Met l yX8_save (.code yX8_save cX8_save 3 (some .int) :: ws_all) ({ frames := 1, cells := 0, slots := 0, locals := 22 } : Room) (me_Pc [.ref mo, .int x] D tb X z0 (mq tb mo F w av od sv sl nz ip ot M0) n) (me_Qi D z0 0 (mq tb mo (upd F 0 1) w av od sv sl nz ip ot M0) n) 0 0 (me_A z0) := by
  refine me_open (by decide) (Nat.le_of_ble_eq_true rfl) ?_
  intro p e s m args below meth c ls hC hr hlk hnm hM hl
  have hl : lv_has ls 3 [(0, .ref mo), (1, .int x)] := hl
  have hx := hC.1
  have hb := hC.2.1
  have hw := hC.2.2.2.2.1
  obtain ⟨hW, hZ, hT⟩ := id hO
  obtain ⟨hS, hS0, hB, hB0, hL, hL0, hP, hP0, hwb, hwl⟩ := id hW
  have hT2 : T ≤ 20000 := by omega
  refine lv_iload_n hx hb dX8_save_0 rfl (lv_at hl 1 rfl) ?_
  refine lv_iconst (v := 0) hx hb dX8_save_1 (by decide) ?_
  refine lv_iconst (v := 1) hx hb dX8_save_2 (by decide) ?_
  refine me_callSi (As := [.int x, .int 0, .int 1]) (rest := []) hC hl.1 hM (c_X8_in l D tb X z0 n _ x 0 1 ) (ks_X8_67 hw rfl rfl ⟨Nat.le_of_ble_eq_true rfl, Nat.le_of_ble_eq_true rfl⟩) rfl rfl (Nat.le_of_ble_eq_true rfl) dX8_save_3 ⟨Nat.le_of_ble_eq_true rfl, Nat.le_of_ble_eq_true rfl⟩ (fun H locs hM => ?_)
  refine lv_if_ne (tgt := 15) hx hb dX8_save_6 (by decide) (fun c_1 => ?_) (fun c_1 => ?_)
  · have c_1 := b1_n0.mp c_1
    exact absurd c_1 (in_y hbad)
  · have c_1 := b1_0.mp c_1
    refine lv_aload_n hx hb dX8_save_9 rfl (lv_at hl 0 rfl) ?_
    refine lv_iconst (v := 1) hx hb dX8_save_10 (by decide) ?_
    refine me_callVi (As := [.int 1]) (rest := []) hC hl.1 hM (c_X8_refuse l D tb X z0 n mo F w av od sv sl nz ip ot M0 (1 : Int32) ) (kv_X8_265 hw rfl rfl ⟨Nat.le_of_ble_eq_true rfl, Nat.le_of_ble_eq_true rfl⟩) rfl rfl mq_F rfl (Nat.le_of_ble_eq_true rfl) dX8_save_11 ⟨Nat.le_of_ble_eq_true rfl, Nat.le_of_ble_eq_true rfl⟩ (fun H locs hM => ?_)
    exact me_iret hC hr hlk hM (rfl) (rfl) (rfl) dX8_save_14
set_option maxHeartbeats 4000000 in
theorem c_X8_outputByte (l : Launch) (D : va_G) (tb : Nat → ClassId) (X : State → Prop) (z0 n : Nat) (mo : Nat) (F w av od sv sl nz ip ot : Nat → Int32) (M0 : me_M) (k ol : Nat)  (hol : F 4 = nI ol) (hol0 : ol ≤ 40) (hk : k < ol) : Met l yX8_outputByte (.code yX8_outputByte cX8_outputByte 2 (some .int) :: ws_all) ({ frames := 1, cells := 0, slots := 0, locals := 22 } : Room) (me_Pc [.ref mo, .int (nI k)] D tb X z0 (mq tb mo F w av od sv sl nz ip ot M0) n) (me_Qi D z0 (ot k) (mq tb mo (upd F 0 0) w av od sv sl nz ip ot M0) n) 0 0 (me_A z0) := by
  refine me_open (by decide) (Nat.le_of_ble_eq_true rfl) ?_
  intro p e s m args below meth c ls hC hr hlk hnm hM hl
  have hl : lv_has ls 2 [(0, .ref mo), (1, .int (nI k))] := hl
  have hx := hC.1
  have hb := hC.2.1
  have hw := hC.2.2.2.2.1
  refine lv_iload_n hx hb dX8_outputByte_0 rfl (lv_at hl 1 rfl) ?_
  refine lv_iconst (v := 0) hx hb dX8_outputByte_1 (by decide) ?_
  refine lv_aload_n hx hb dX8_outputByte_2 rfl (lv_at hl 0 rfl) ?_
  refine fg_X8_333 hC hM mq_F rfl dX8_outputByte_3 ?_
  refine lv_iconst (v := 1) hx hb dX8_outputByte_6 (by decide) ?_
  refine lv_isub hx hb dX8_outputByte_7 ?_
  refine me_callSi (As := [.int (nI k), .int 0, .int ((F 4) - 1)]) (rest := []) hC hl.1 hM (c_X8_in l D tb X z0 n _ (nI k) 0 ((F 4) - 1) ) (ks_X8_67 hw rfl rfl ⟨Nat.le_of_ble_eq_true rfl, Nat.le_of_ble_eq_true rfl⟩) rfl rfl (Nat.le_of_ble_eq_true rfl) dX8_outputByte_8 ⟨Nat.le_of_ble_eq_true rfl, Nat.le_of_ble_eq_true rfl⟩ (fun H locs hM => ?_)
  refine lv_if_ne (tgt := 20) hx hb dX8_outputByte_11 (by decide) (fun c_1 => ?_) (fun c_1 => ?_)
  · have c_1 := b1_n0.mp c_1
    refine lv_aload_n hx hb dX8_outputByte_20 rfl (lv_at hl 0 rfl) ?_
    refine lv_aload_n hx hb dX8_outputByte_21 rfl (lv_at hl 0 rfl) ?_
    refine fg_X8_35 hC hM mq_F rfl dX8_outputByte_22 ?_
    refine lv_iload_n hx hb dX8_outputByte_25 rfl (lv_at hl 1 rfl) ?_
    refine me_bald (k := k) hC hM mq_ot rfl (by omega) (by first | decide | omega) dX8_outputByte_26 ?_
    refine me_callVi (As := [.int (ot k)]) (rest := []) hC hl.1 hM (c_X8_told l D tb X z0 n mo F w av od sv sl nz ip ot M0 (ot k) ) (kv_X8_271 hw rfl rfl ⟨Nat.le_of_ble_eq_true rfl, Nat.le_of_ble_eq_true rfl⟩) rfl rfl mq_F rfl (Nat.le_of_ble_eq_true rfl) dX8_outputByte_27 ⟨Nat.le_of_ble_eq_true rfl, Nat.le_of_ble_eq_true rfl⟩ (fun H locs hM => ?_)
    exact me_iret hC hr hlk hM (rfl) (rfl) (rfl) dX8_outputByte_30
  · have c_1 := b1_0.mp c_1
    exact absurd (in_c hol (by omega) hk) c_1
set_option maxHeartbeats 4000000 in
theorem c_X8_outputByte_x1 (l : Launch) (D : va_G) (tb : Nat → ClassId) (X : State → Prop) (z0 n : Nat) (mo : Nat) (F w av od sv sl nz ip ot : Nat → Int32) (M0 : me_M) (x : Int32) (ol : Nat)  (hol : F 4 = nI ol) (hol0 : ol ≤ 40) (hbad : x < 0 ∨ F 4 ≤ x) : Met l yX8_outputByte (.code yX8_outputByte cX8_outputByte 2 (some .int) :: ws_all) ({ frames := 1, cells := 0, slots := 0, locals := 22 } : Room) (me_Pc [.ref mo, .int x] D tb X z0 (mq tb mo F w av od sv sl nz ip ot M0) n) (me_Qi D z0 0 (mq tb mo (upd F 0 1) w av od sv sl nz ip ot M0) n) 0 0 (me_A z0) := by
  refine me_open (by decide) (Nat.le_of_ble_eq_true rfl) ?_
  intro p e s m args below meth c ls hC hr hlk hnm hM hl
  have hl : lv_has ls 2 [(0, .ref mo), (1, .int x)] := hl
  have hx := hC.1
  have hb := hC.2.1
  have hw := hC.2.2.2.2.1
  refine lv_iload_n hx hb dX8_outputByte_0 rfl (lv_at hl 1 rfl) ?_
  refine lv_iconst (v := 0) hx hb dX8_outputByte_1 (by decide) ?_
  refine lv_aload_n hx hb dX8_outputByte_2 rfl (lv_at hl 0 rfl) ?_
  refine fg_X8_333 hC hM mq_F rfl dX8_outputByte_3 ?_
  refine lv_iconst (v := 1) hx hb dX8_outputByte_6 (by decide) ?_
  refine lv_isub hx hb dX8_outputByte_7 ?_
  refine me_callSi (As := [.int x, .int 0, .int ((F 4) - 1)]) (rest := []) hC hl.1 hM (c_X8_in l D tb X z0 n _ x 0 ((F 4) - 1) ) (ks_X8_67 hw rfl rfl ⟨Nat.le_of_ble_eq_true rfl, Nat.le_of_ble_eq_true rfl⟩) rfl rfl (Nat.le_of_ble_eq_true rfl) dX8_outputByte_8 ⟨Nat.le_of_ble_eq_true rfl, Nat.le_of_ble_eq_true rfl⟩ (fun H locs hM => ?_)
  refine lv_if_ne (tgt := 20) hx hb dX8_outputByte_11 (by decide) (fun c_1 => ?_) (fun c_1 => ?_)
  · have c_1 := b1_n0.mp c_1
    exact absurd c_1 (in_x hol (by omega) hbad)
  · have c_1 := b1_0.mp c_1
    refine lv_aload_n hx hb dX8_outputByte_14 rfl (lv_at hl 0 rfl) ?_
    refine lv_iconst (v := 1) hx hb dX8_outputByte_15 (by decide) ?_
    refine me_callVi (As := [.int 1]) (rest := []) hC hl.1 hM (c_X8_refuse l D tb X z0 n mo F w av od sv sl nz ip ot M0 (1 : Int32) ) (kv_X8_265 hw rfl rfl ⟨Nat.le_of_ble_eq_true rfl, Nat.le_of_ble_eq_true rfl⟩) rfl rfl mq_F rfl (Nat.le_of_ble_eq_true rfl) dX8_outputByte_16 ⟨Nat.le_of_ble_eq_true rfl, Nat.le_of_ble_eq_true rfl⟩ (fun H locs hM => ?_)
    exact me_iret hC hr hlk hM (rfl) (rfl) (rfl) dX8_outputByte_19
