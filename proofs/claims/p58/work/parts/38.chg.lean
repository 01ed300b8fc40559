set_option maxHeartbeats 4000000 in
theorem c_X1_record (l : Launch) (D : va_G) (tb : Nat → ClassId) (X : State → Prop) (z0 n : Nat) (bo : Nat) (g : Nat → Int32) (G : Nat → Nat → Int32) (F sf inp out : Nat → Int32) (M0 : me_M) (S B L P : Nat) (nx ct : Nat)  (hW : wf g S B L P) (hnx : F 4 = nI nx) (hnx0 : nx < 10) (hct : F 5 = nI ct) (hct0 : ct ≤ 10) : Met l yX1_record (.code yX1_record cX1_record 2 none :: ws_all) ({ frames := 2, cells := 0, slots := 0, locals := 43 } : Room) (me_Pc [.ref (bo + 66), .ref (bo + 722)] D tb X z0 (sp tb (bo + 722) g (bq tb bo G F sf inp out M0)) n) (me_Qv D z0 (sp tb (bo + 722) g (bq tb bo (recG G g S B L P nx) (recF F nx ct) sf inp out M0)) n) 0 0 (me_A z0) := by
  refine me_open (by decide) (Nat.le_of_ble_eq_true rfl) ?_
  intro p e s m args below meth c ls hC hr hlk hnm hM hl
  have hl : lv_has ls 2 [(0, .ref (bo + 66)), (1, .ref (bo + 722))] := hl
  have hx := hC.1
  have hb := hC.2.1
  have hw := hC.2.2.2.2.1
  obtain ⟨hS, hS0, hB, hB0, hL, hL0, hP, hP0, hwb, hwl⟩ := id hW
  refine lv_aload_n hx hb dX1_record_0 rfl (lv_at hl 0 rfl) ?_
  refine fg_X1_11 hC hM (bq_at h_h) rfl dX1_record_1 ?_
  refine lv_aload_n hx hb dX1_record_4 rfl (lv_at hl 0 rfl) ?_
  refine fg_X1_15 hC hM (bq_at h_h) rfl dX1_record_5 ?_
  refine me_aald (k := nx) hC hM (bq_at h_ha) (t0 := 5) rfl hnx (by omega) (by decide) (st_arr_at (by omega)) dX1_record_8 ?_
  refine lv_aload_n hx hb dX1_record_9 rfl (lv_at hl 1 rfl) ?_
  have hM := hM.eq (sp_absorb (bq_hO (by omega)))
  refine me_callVv (As := [.ref (bo + 722)]) (rest := []) hC hl.1 hM (c_X5_copyFrom l D tb X z0 n (bo + 68 + 65 * nx) (bo + 722) (G (1 + nx)) g (sp tb (bo + 722) g (bq tb bo G F sf inp out M0)) S B L P hW sp_oth (by omega)) (kv_X1_23 hw rfl rfl ⟨Nat.le_of_ble_eq_true rfl, Nat.le_of_ble_eq_true rfl⟩) rfl rfl (sp_st _ _ _ _) rfl (Nat.le_of_ble_eq_true rfl) dX1_record_10 ⟨Nat.le_of_ble_eq_true rfl, Nat.le_of_ble_eq_true rfl⟩ (fun H locs hM => ?_)
  have hM := hM.eq (bq_hset (by omega))
  refine lv_aload_n hx hb dX1_record_13 rfl (lv_at hl 0 rfl) ?_
  refine lv_aload_n hx hb dX1_record_14 rfl (lv_at hl 0 rfl) ?_
  refine fg_X1_15 hC hM (bq_at h_h) rfl dX1_record_15 ?_
  refine lv_iconst (v := 1) hx hb dX1_record_18 (by decide) ?_
  refine lv_iadd hx hb dX1_record_19 ?_
  refine lv_bipush (v := 10) hx hb dX1_record_20 (by decide) ?_
  refine lv_irem hx hb dX1_record_22 (by decide) ?_
  refine me_evi (y := nI ((nx + 1) % 10)) (nx_rem 10 (nx_add hnx (show (1 : Int32) = nI 1 from rfl)) (by omega) (by omega) (by decide)) ?_
  refine fp_X1_15 hC hM (bq_at h_h) (Nat.le_of_ble_eq_true rfl) (M2 := sp tb (bo + 722) g (bq tb bo (updG G (1 + nx) (cpF g S B L P (G (1 + nx)))) (upd F 4 (nI ((nx + 1) % 10))) sf inp out M0)) (bq_wh (i := 4) (by omega) (by simp [upd])) dX1_record_23 (fun H locs hM => ?_)
  refine lv_aload_n hx hb dX1_record_26 rfl (lv_at hl 0 rfl) ?_
  refine lv_aload_n hx hb dX1_record_27 rfl (lv_at hl 0 rfl) ?_
  refine fg_X1_19 hC hM (bq_at h_h) rfl dX1_record_28 ?_
  refine me_evi (y := F 5) (upd_n (by omega)) ?_
  refine lv_iconst (v := 1) hx hb dX1_record_31 (by decide) ?_
  refine lv_iadd hx hb dX1_record_32 ?_
  refine lv_bipush (v := 10) hx hb dX1_record_33 (by decide) ?_
  refine va_mmin hx hb (hC.2.2.1.trans hl.1.symm) hC.2.2.2.1 (hw _ w_684) (hw _ w_404) (hw _ w_13) (hw _ w_405) (Nat.le_of_ble_eq_true rfl) (Nat.le_of_ble_eq_true rfl) (by first | omega | exact Nat.le_of_ble_eq_true rfl) (by first | omega | exact Nat.le_of_ble_eq_true rfl) dX1_record_35 ?_
  refine me_evi (y := nI (min (ct + 1) 10)) (nx_min 10 (nx_add hct (show (1 : Int32) = nI 1 from rfl)) (by omega) (by decide)) ?_
  refine fp_X1_19 hC hM (bq_at h_h) (Nat.le_of_ble_eq_true rfl) (M2 := sp tb (bo + 722) g (bq tb bo (updG G (1 + nx) (cpF g S B L P (G (1 + nx)))) (upd (upd F 4 (nI ((nx + 1) % 10))) 5 (nI (min (ct + 1) 10))) sf inp out M0)) (bq_wh (i := 5) (by omega) (by simp [upd])) dX1_record_38 (fun H locs hM => ?_)
  exact me_vret hC hr hlk hM (rfl) (rfl) dX1_record_41
set_option maxHeartbeats 4000000 in
theorem c_X1_takeBack (l : Launch) (D : va_G) (tb : Nat → ClassId) (X : State → Prop) (z0 n : Nat) (bo : Nat) (g : Nat → Int32) (G : Nat → Nat → Int32) (F sf inp out : Nat → Int32) (M0 : me_M) (S B L P : Nat) (nx py S2 B2 L2 P2 : Nat)  (hW : wf g S B L P) (hnx : F 4 = nI nx) (hnx0 : nx < 10) (hpy : (nx + 10 - 1) % 10 = py) (hWh : wf (G (1 + py)) S2 B2 L2 P2) : Met l yX1_takeBack (.code yX1_takeBack cX1_takeBack 2 none :: ws_all) ({ frames := 2, cells := 0, slots := 0, locals := 43 } : Room) (me_Pc [.ref (bo + 66), .ref (bo + 722)] D tb X z0 (sp tb (bo + 722) g (bq tb bo G F sf inp out M0)) n) (me_Qv D z0 (sp tb (bo + 722) (cpF (G (1 + py)) S2 B2 L2 P2 g) (bq tb bo G (upd (upd F 4 (nI py)) 5 (F 5 - 1)) sf inp out M0)) n) 0 0 (me_A z0) := by
  refine me_open (by decide) (Nat.le_of_ble_eq_true rfl) ?_
  intro p e s m args below meth c ls hC hr hlk hnm hM hl
  have hl : lv_has ls 2 [(0, .ref (bo + 66)), (1, .ref (bo + 722))] := hl
  have hx := hC.1
  have hb := hC.2.1
  have hw := hC.2.2.2.2.1
  obtain ⟨hS, hS0, hB, hB0, hL, hL0, hP, hP0, hwb, hwl⟩ := id hW
  have hpy0 : py < 10 := by omega
  refine lv_aload_n hx hb dX1_takeBack_0 rfl (lv_at hl 0 rfl) ?_
  refine lv_aload_n hx hb dX1_takeBack_1 rfl (lv_at hl 0 rfl) ?_
  refine fg_X1_15 hC hM (bq_at h_h) rfl dX1_takeBack_2 ?_
  refine lv_bipush (v := 10) hx hb dX1_takeBack_5 (by decide) ?_
  refine lv_iadd hx hb dX1_takeBack_7 ?_
  refine lv_iconst (v := 1) hx hb dX1_takeBack_8 (by decide) ?_
  refine lv_isub hx hb dX1_takeBack_9 ?_
  refine lv_bipush (v := 10) hx hb dX1_takeBack_10 (by decide) ?_
  refine lv_irem hx hb dX1_takeBack_12 (by decide) ?_
  refine me_evi (y := nI py) ((nx_rem 10 (nx_sub (nx_add hnx (nx_c 10)) (show (1 : Int32) = nI 1 from rfl) (by omega)) (by omega) (by omega) (by decide)).trans (by rw [hpy])) ?_
  refine fp_X1_15 hC hM (bq_at h_h) (Nat.le_of_ble_eq_true rfl) (M2 := sp tb (bo + 722) g (bq tb bo G (upd F 4 (nI py)) sf inp out M0)) (bq_wh (i := 4) (by omega) (by simp [upd])) dX1_takeBack_13 (fun H locs hM => ?_)
  refine lv_aload_n hx hb dX1_takeBack_16 rfl (lv_at hl 1 rfl) ?_
  refine lv_aload_n hx hb dX1_takeBack_17 rfl (lv_at hl 0 rfl) ?_
  refine fg_X1_11 hC hM (bq_at h_h) rfl dX1_takeBack_18 ?_
  refine lv_aload_n hx hb dX1_takeBack_21 rfl (lv_at hl 0 rfl) ?_
  refine fg_X1_15 hC hM (bq_at h_h) rfl dX1_takeBack_22 ?_
  refine me_evi (y := nI py) (upd_s _ _ _) ?_
  refine me_aald (k := py) hC hM (bq_at h_ha) (t0 := 5) rfl rfl (by omega) (by decide) (st_arr_at (by omega)) dX1_takeBack_25 ?_
  refine me_callVv (As := [.ref (bo + 68 + 65 * py)]) (rest := []) hC hl.1 hM (c_X5_copyFrom l D tb X z0 n (bo + 722) (bo + 68 + 65 * py) g (G (1 + py)) (bq tb bo G (upd F 4 (nI py)) sf inp out M0) S2 B2 L2 P2 hWh (bq_hO0 (by omega)) (by omega)) (kv_X1_23 hw rfl rfl ⟨Nat.le_of_ble_eq_true rfl, Nat.le_of_ble_eq_true rfl⟩) rfl rfl (sp_st _ _ _ _) rfl (Nat.le_of_ble_eq_true rfl) dX1_takeBack_26 ⟨Nat.le_of_ble_eq_true rfl, Nat.le_of_ble_eq_true rfl⟩ (fun H locs hM => ?_)
  refine lv_aload_n hx hb dX1_takeBack_29 rfl (lv_at hl 0 rfl) ?_
  refine lv_dup hx hb dX1_takeBack_30 rfl ?_
  refine fg_X1_19 hC hM (bq_at h_h) rfl dX1_takeBack_31 ?_
  refine me_evi (y := F 5) (upd_n (by omega)) ?_
  refine lv_iconst (v := 1) hx hb dX1_takeBack_34 (by decide) ?_
  refine lv_isub hx hb dX1_takeBack_35 ?_
  refine fp_X1_19 hC hM (bq_at h_h) (Nat.le_of_ble_eq_true rfl) (M2 := sp tb (bo + 722) (cpF (G (1 + py)) S2 B2 L2 P2 g) (bq tb bo G (upd (upd F 4 (nI py)) 5 ((F 5) - 1)) sf inp out M0)) (bq_wh (i := 5) (by omega) (by simp [upd])) dX1_takeBack_36 (fun H locs hM => ?_)
  exact me_vret hC hr hlk hM (rfl) (rfl) dX1_takeBack_39
set_option maxHeartbeats 4000000 in
theorem c_X1_forget (l : Launch) (D : va_G) (tb : Nat → ClassId) (X : State → Prop) (z0 n : Nat) (bo : Nat) (g : Nat → Int32) (G : Nat → Nat → Int32) (F sf inp out : Nat → Int32) (M0 : me_M) (S B L P : Nat)  : Met l yX1_forget (.code yX1_forget cX1_forget 1 none :: ws_all) ({ frames := 0, cells := 0, slots := 0, locals := 0 } : Room) (me_Pc [.ref (bo + 66)] D tb X z0 (sp tb (bo + 722) g (bq tb bo G F sf inp out M0)) n) (me_Qv D z0 (sp tb (bo + 722) g (bq tb bo G (upd F 5 0) sf inp out M0)) n) 0 0 (me_A z0) := by
  refine me_open (by decide) (Nat.le_of_ble_eq_true rfl) ?_
  intro p e s m args below meth c ls hC hr hlk hnm hM hl
  have hl : lv_has ls 1 [(0, .ref (bo + 66))] := hl
  have hx := hC.1
  have hb := hC.2.1
  have hw := hC.2.2.2.2.1
  refine lv_aload_n hx hb dX1_forget_0 rfl (lv_at hl 0 rfl) ?_
  refine lv_iconst (v := 0) hx hb dX1_forget_1 (by decide) ?_
  refine fp_X1_19 hC hM (bq_at h_h) (Nat.le_of_ble_eq_true rfl) (M2 := sp tb (bo + 722) g (bq tb bo G (upd F 5 0) sf inp out M0)) (bq_wh (i := 5) (by omega) (by simp [upd])) dX1_forget_2 (fun H locs hM => ?_)
  exact me_vret hC hr hlk hM (rfl) (rfl) dX1_forget_5
set_option maxHeartbeats 4000000 in
theorem c_X7_lend (l : Launch) (D : va_G) (tb : Nat → ClassId) (X : State → Prop) (z0 n : Nat) (bo : Nat) (g : Nat → Int32) (G : Nat → Nat → Int32) (F sf inp out : Nat → Int32) (M0 : me_M) (S B L P : Nat) (T : Nat) (nx ct : Nat) (b s0 n9 : Nat)  (hW : wf g S B L P) (hT : g 2 = nI T) (hT0 : T ≤ 10000) (hnx : F 4 = nI nx) (hnx0 : nx < 10) (hct : F 5 = nI ct) (hct0 : ct ≤ 10) (hb9 : b < B) (hn1 : 1 ≤ n9) (hn2 : n9 ≤ 6) (hs1 : T ≤ s0) (hs2 : s0 + n9 ≤ T + 48) (hre : reF g L P b s0 n9 = 0) : Met l yX7_lend (.code yX7_lend cX7_lend 4 (some .int) :: ws_all) ({ frames := 4, cells := 0, slots := 0, locals := 93 } : Room) (me_Pc [.ref bo, .int (nI b), .int (nI s0), .int (nI n9)] D tb X z0 (sp tb (bo + 722) g (bq tb bo G F sf inp out M0)) n) (me_Qi D z0 (nI L) (sp tb (bo + 722) (adF g L b s0 n9) (bq tb bo (recG G g S B L P nx) (recF F nx ct) sf inp out M0)) n) 0 0 (me_A z0) := by
  refine me_open (by decide) (Nat.le_of_ble_eq_true rfl) ?_
  intro p e s m args below meth c ls hC hr hlk hnm hM hl
  have hl : lv_has ls 4 [(0, .ref bo), (1, .int (nI b)), (2, .int (nI s0)), (3, .int (nI n9))] := hl
  have hx := hC.1
  have hb := hC.2.1
  have hw := hC.2.2.2.2.1
  obtain ⟨hS, hS0, hB, hB0, hL, hL0, hP, hP0, hwb, hwl⟩ := id hW
  have hL9 := reF_L hW hre
  refine lv_aload_n hx hb dX7_lend_0 rfl (lv_at hl 0 rfl) ?_
  refine lv_iload_n hx hb dX7_lend_1 rfl (lv_at hl 1 rfl) ?_
  refine me_callVv (As := [.int (nI b)]) (rest := []) hC hl.1 hM (c_X7_needBorrower l D tb X z0 n bo g G F sf inp out M0 S B L P b hW (by omega)) (kv_X7_167 hw rfl rfl ⟨Nat.le_of_ble_eq_true rfl, Nat.le_of_ble_eq_true rfl⟩) rfl rfl (bq_at h_b) rfl (Nat.le_of_ble_eq_true rfl) dX7_lend_2 ⟨Nat.le_of_ble_eq_true rfl, Nat.le_of_ble_eq_true rfl⟩ (fun H locs hM => ?_)
  refine lv_aload_n hx hb dX7_lend_5 rfl (lv_at hl 0 rfl) ?_
  refine lv_iload_n hx hb dX7_lend_6 rfl (lv_at hl 2 rfl) ?_
  refine lv_iload_n hx hb dX7_lend_7 rfl (lv_at hl 3 rfl) ?_
  refine lv_bipush (v := 6) hx hb dX7_lend_8 (by decide) ?_
  refine me_stk (st2 := [.int (nI 6), .int (nI n9), .int (nI s0), .ref bo]) (by rw [(nx_c 6)]) ?_
  refine me_callVv (As := [.int (nI s0), .int (nI n9), .int (nI 6)]) (rest := []) hC hl.1 hM (c_X7_needSpan l D tb X z0 n bo g G F sf inp out M0 S B L P s0 n9 6 T hW hT hT0 (by omega) (by omega) (by omega) (by omega) (by omega)) (kv_X7_223 hw rfl rfl ⟨Nat.le_of_ble_eq_true rfl, Nat.le_of_ble_eq_true rfl⟩) rfl rfl (bq_at h_b) rfl (Nat.le_of_ble_eq_true rfl) dX7_lend_10 ⟨Nat.le_of_ble_eq_true rfl, Nat.le_of_ble_eq_true rfl⟩ (fun H locs hM => ?_)
  refine lv_aload_n hx hb dX7_lend_13 rfl (lv_at hl 0 rfl) ?_
  refine fg_X7_71 hC hM (bq_at h_b) rfl dX7_lend_14 ?_
  refine lv_iload_n hx hb dX7_lend_17 rfl (lv_at hl 1 rfl) ?_
  refine lv_iload_n hx hb dX7_lend_18 rfl (lv_at hl 2 rfl) ?_
  refine lv_iload_n hx hb dX7_lend_19 rfl (lv_at hl 3 rfl) ?_
  refine me_callVi (As := [.int (nI b), .int (nI s0), .int (nI n9)]) (rest := []) hC hl.1 hM (c_X5_reasonAgainst l D tb X z0 n (bo + 722) g (bq tb bo G F sf inp out M0) S B L P b s0 n9 hW (by omega) (by omega)) (kv_X7_227 hw rfl rfl ⟨Nat.le_of_ble_eq_true rfl, Nat.le_of_ble_eq_true rfl⟩) rfl rfl (sp_st _ _ _ _) rfl (Nat.le_of_ble_eq_true rfl) dX7_lend_20 ⟨Nat.le_of_ble_eq_true rfl, Nat.le_of_ble_eq_true rfl⟩ (fun H locs hM => ?_)
  refine lv_if_eq (tgt := 37) hx hb dX7_lend_23 (by decide) (fun c_1 => ?_) (fun c_1 => ?_)
  · refine lv_aload_n hx hb dX7_lend_37 rfl (lv_at hl 0 rfl) ?_
    refine fg_X7_19 hC hM (bq_at h_b) rfl dX7_lend_38 ?_
    refine lv_aload_n hx hb dX7_lend_41 rfl (lv_at hl 0 rfl) ?_
    refine fg_X7_71 hC hM (bq_at h_b) rfl dX7_lend_42 ?_
    refine me_callVv (As := [.ref (bo + 722)]) (rest := []) hC hl.1 hM (c_X1_record l D tb X z0 n bo g G F sf inp out M0 S B L P nx ct hW hnx hnx0 hct hct0) (kv_X7_260 hw rfl rfl ⟨Nat.le_of_ble_eq_true rfl, Nat.le_of_ble_eq_true rfl⟩) rfl rfl (bq_at h_h) rfl (Nat.le_of_ble_eq_true rfl) dX7_lend_45 ⟨Nat.le_of_ble_eq_true rfl, Nat.le_of_ble_eq_true rfl⟩ (fun H locs hM => ?_)
    refine lv_aload_n hx hb dX7_lend_48 rfl (lv_at hl 0 rfl) ?_
    refine fg_X7_71 hC hM (bq_at h_b) rfl dX7_lend_49 ?_
    refine lv_iload_n hx hb dX7_lend_52 rfl (lv_at hl 1 rfl) ?_
    refine lv_iload_n hx hb dX7_lend_53 rfl (lv_at hl 2 rfl) ?_
    refine lv_iload_n hx hb dX7_lend_54 rfl (lv_at hl 3 rfl) ?_
    refine me_callVi (As := [.int (nI b), .int (nI s0), .int (nI n9)]) (rest := []) hC hl.1 hM (c_X5_addLoan l D tb X z0 n (bo + 722) g (bq tb bo (recG G g S B L P nx) (recF F nx ct) sf inp out M0) S B L P b s0 n9 hW (by omega) (by omega)) (kv_X7_263 hw rfl rfl ⟨Nat.le_of_ble_eq_true rfl, Nat.le_of_ble_eq_true rfl⟩) rfl rfl (sp_st _ _ _ _) rfl (Nat.le_of_ble_eq_true rfl) dX7_lend_55 ⟨Nat.le_of_ble_eq_true rfl, Nat.le_of_ble_eq_true rfl⟩ (fun H locs hM => ?_)
    exact me_iret hC hr hlk hM (by first | rfl | simp [c_1]) (rfl) (rfl) dX7_lend_58
  · exact absurd hre c_1
set_option maxHeartbeats 4000000 in
theorem c_X7_lend_x1 (l : Launch) (D : va_G) (tb : Nat → ClassId) (X : State → Prop) (z0 n : Nat) (bo : Nat) (g : Nat → Int32) (G : Nat → Nat → Int32) (F sf inp out : Nat → Int32) (M0 : me_M) (S B L P : Nat) (x : Int32) (y9 z9 : Int32)  (hfl : l.stackTraces = false) (hXs : ∀ U, X U → me_xs z0 U) (hbad : x < 0 ∨ g 4 ≤ x) : vx_Met l yX7_lend (.code yX7_lend cX7_lend 4 (some .int) :: ws_all) ({ frames := 7, cells := 1, slots := 6, locals := 111 } : Room) (me_Pc [.ref bo, .int x, .int y9, .int z9] D tb X z0 (sp tb (bo + 722) g (bq tb bo G F sf inp out M0)) n) me_no (me_XC D z0 (sp tb (bo + 722) g (bq tb bo G F sf inp out M0)) "java/lang/IndexOutOfBoundsException") 1 6 (me_A z0) := by
  refine me_openX (by decide) (Nat.le_of_ble_eq_true rfl) ?_
  intro p e s m args below meth c ls hC ht hlk hM hl
  have hl : lv_has ls 4 [(0, .ref bo), (1, .int x), (2, .int y9), (3, .int z9)] := hl
  have hx := hC.1
  have hb := hC.2.1
  have hw := hC.2.2.2.2.1
  refine lv_aload_n hx hb dX7_lend_0 rfl (lv_at hl 0 rfl) ?_
  refine lv_iload_n hx hb dX7_lend_1 rfl (lv_at hl 1 rfl) ?_
  exact me_xV (As := [.int x]) (rest := []) hC hl.1 hM (c_X7_needBorrower_x l D tb X z0 n bo g G F sf inp out M0 S B L P x hfl hXs hbad) (kv_X7_167 hw rfl rfl ⟨Nat.le_of_ble_eq_true rfl, Nat.le_of_ble_eq_true rfl⟩) rfl rfl (bq_at h_b) rfl (Nat.le_of_ble_eq_true rfl) dX7_lend_2 ⟨Nat.le_of_ble_eq_true rfl, Nat.le_of_ble_eq_true rfl⟩ ht hlk (Nat.le_of_ble_eq_true rfl) (Nat.le_of_ble_eq_true rfl)
set_option maxHeartbeats 4000000 in
theorem c_X7_lend_x2 (l : Launch) (D : va_G) (tb : Nat → ClassId) (X : State → Prop) (z0 n : Nat) (bo : Nat) (g : Nat → Int32) (G : Nat → Nat → Int32) (F sf inp out : Nat → Int32) (M0 : me_M) (S B L P : Nat) (b : Nat) (x0 x : Int32)  (hfl : l.stackTraces = false) (hXs : ∀ U, X U → me_xs z0 U) (hW : wf g S B L P) (hb9 : b < B) (hbad : x < 1 ∨ 6 < x) : vx_Met l yX7_lend (.code yX7_lend cX7_lend 4 (some .int) :: ws_all) ({ frames := 8, cells := 1, slots := 6, locals := 134 } : Room) (me_Pc [.ref bo, .int (nI b), .int x0, .int x] D tb X z0 (sp tb (bo + 722) g (bq tb bo G F sf inp out M0)) n) me_no (me_XC D z0 (sp tb (bo + 722) g (bq tb bo G F sf inp out M0)) "java/lang/IllegalArgumentException") 1 6 (me_A z0) := by
  refine me_openX (by decide) (Nat.le_of_ble_eq_true rfl) ?_
  intro p e s m args below meth c ls hC ht hlk hM hl
  have hl : lv_has ls 4 [(0, .ref bo), (1, .int (nI b)), (2, .int x0), (3, .int x)] := hl
  have hx := hC.1
  have hb := hC.2.1
  have hw := hC.2.2.2.2.1
  obtain ⟨hS, hS0, hB, hB0, hL, hL0, hP, hP0, hwb, hwl⟩ := id hW
  refine lv_aload_n hx hb dX7_lend_0 rfl (lv_at hl 0 rfl) ?_
  refine lv_iload_n hx hb dX7_lend_1 rfl (lv_at hl 1 rfl) ?_
  refine me_callVv (As := [.int (nI b)]) (rest := []) hC hl.1 hM (c_X7_needBorrower l D tb X z0 n bo g G F sf inp out M0 S B L P b hW (by omega)) (kv_X7_167 hw rfl rfl ⟨Nat.le_of_ble_eq_true rfl, Nat.le_of_ble_eq_true rfl⟩) rfl rfl (bq_at h_b) rfl (Nat.le_of_ble_eq_true rfl) dX7_lend_2 ⟨Nat.le_of_ble_eq_true rfl, Nat.le_of_ble_eq_true rfl⟩ (fun H locs hM => ?_)
  refine lv_aload_n hx hb dX7_lend_5 rfl (lv_at hl 0 rfl) ?_
  refine lv_iload_n hx hb dX7_lend_6 rfl (lv_at hl 2 rfl) ?_
  refine lv_iload_n hx hb dX7_lend_7 rfl (lv_at hl 3 rfl) ?_
  refine lv_bipush (v := 6) hx hb dX7_lend_8 (by decide) ?_
  exact me_xV (As := [.int x0, .int x, .int 6]) (rest := []) hC hl.1 hM (c_X7_needSpan_x1 l D tb X z0 n bo g G F sf inp out M0 S B L P x0 x 6 hfl hXs hbad) (kv_X7_223 hw rfl rfl ⟨Nat.le_of_ble_eq_true rfl, Nat.le_of_ble_eq_true rfl⟩) rfl rfl (bq_at h_b) rfl (Nat.le_of_ble_eq_true rfl) dX7_lend_10 ⟨Nat.le_of_ble_eq_true rfl, Nat.le_of_ble_eq_true rfl⟩ ht hlk (Nat.le_of_ble_eq_true rfl) (Nat.le_of_ble_eq_true rfl)
set_option maxHeartbeats 4000000 in
theorem c_X7_lend_x3 (l : Launch) (D : va_G) (tb : Nat → ClassId) (X : State → Prop) (z0 n : Nat) (bo : Nat) (g : Nat → Int32) (G : Nat → Nat → Int32) (F sf inp out : Nat → Int32) (M0 : me_M) (S B L P : Nat) (b : Nat) (x0 : Int32) (n9 : Nat)  (hfl : l.stackTraces = false) (hXs : ∀ U, X U → me_xs z0 U) (hW : wf g S B L P) (hb9 : b < B) (hn1 : 1 ≤ n9) (hn2 : n9 ≤ 6) (hbad : x0 < g 2 ∨ g 2 + 48 - nI n9 < x0) : vx_Met l yX7_lend (.code yX7_lend cX7_lend 4 (some .int) :: ws_all) ({ frames := 7, cells := 1, slots := 6, locals := 113 } : Room) (me_Pc [.ref bo, .int (nI b), .int x0, .int (nI n9)] D tb X z0 (sp tb (bo + 722) g (bq tb bo G F sf inp out M0)) n) me_no (me_XC D z0 (sp tb (bo + 722) g (bq tb bo G F sf inp out M0)) "java/lang/IllegalArgumentException") 1 6 (me_A z0) := by
  refine me_openX (by decide) (Nat.le_of_ble_eq_true rfl) ?_
  intro p e s m args below meth c ls hC ht hlk hM hl
  have hl : lv_has ls 4 [(0, .ref bo), (1, .int (nI b)), (2, .int x0), (3, .int (nI n9))] := hl
  have hx := hC.1
  have hb := hC.2.1
  have hw := hC.2.2.2.2.1
  obtain ⟨hS, hS0, hB, hB0, hL, hL0, hP, hP0, hwb, hwl⟩ := id hW
  refine lv_aload_n hx hb dX7_lend_0 rfl (lv_at hl 0 rfl) ?_
  refine lv_iload_n hx hb dX7_lend_1 rfl (lv_at hl 1 rfl) ?_
  refine me_callVv (As := [.int (nI b)]) (rest := []) hC hl.1 hM (c_X7_needBorrower l D tb X z0 n bo g G F sf inp out M0 S B L P b hW (by omega)) (kv_X7_167 hw rfl rfl ⟨Nat.le_of_ble_eq_true rfl, Nat.le_of_ble_eq_true rfl⟩) rfl rfl (bq_at h_b) rfl (Nat.le_of_ble_eq_true rfl) dX7_lend_2 ⟨Nat.le_of_ble_eq_true rfl, Nat.le_of_ble_eq_true rfl⟩ (fun H locs hM => ?_)
  refine lv_aload_n hx hb dX7_lend_5 rfl (lv_at hl 0 rfl) ?_
  refine lv_iload_n hx hb dX7_lend_6 rfl (lv_at hl 2 rfl) ?_
  refine lv_iload_n hx hb dX7_lend_7 rfl (lv_at hl 3 rfl) ?_
  refine lv_bipush (v := 6) hx hb dX7_lend_8 (by decide) ?_
  exact me_xV (As := [.int x0, .int (nI n9), .int 6]) (rest := []) hC hl.1 hM (c_X7_needSpan_x2 l D tb X z0 n bo g G F sf inp out M0 S B L P x0 n9 6 hfl hXs (by omega) (by omega) (by omega) hW hbad) (kv_X7_223 hw rfl rfl ⟨Nat.le_of_ble_eq_true rfl, Nat.le_of_ble_eq_true rfl⟩) rfl rfl (bq_at h_b) rfl (Nat.le_of_ble_eq_true rfl) dX7_lend_10 ⟨Nat.le_of_ble_eq_true rfl, Nat.le_of_ble_eq_true rfl⟩ ht hlk (Nat.le_of_ble_eq_true rfl) (Nat.le_of_ble_eq_true rfl)
set_option maxHeartbeats 4000000 in
theorem c_X7_lend_x4 (l : Launch) (D : va_G) (tb : Nat → ClassId) (X : State → Prop) (z0 n : Nat) (bo : Nat) (g : Nat → Int32) (G : Nat → Nat → Int32) (F sf inp out : Nat → Int32) (M0 : me_M) (S B L P : Nat) (T : Nat) (b s0 n9 : Nat)  (hfl : l.stackTraces = false) (hXs : ∀ U, X U → me_xs z0 U) (hW : wf g S B L P) (hT : g 2 = nI T) (hT0 : T ≤ 10000) (hb9 : b < B) (hn1 : 1 ≤ n9) (hn2 : n9 ≤ 6) (hs1 : T ≤ s0) (hs2 : s0 + n9 ≤ T + 48) (hre : ¬ reF g L P b s0 n9 = 0) : vx_Met l yX7_lend (.code yX7_lend cX7_lend 4 (some .int) :: ws_all) ({ frames := 6, cells := 1, slots := 6, locals := 93 } : Room) (me_Pc [.ref bo, .int (nI b), .int (nI s0), .int (nI n9)] D tb X z0 (sp tb (bo + 722) g (bq tb bo G F sf inp out M0)) n) me_no (me_XC D z0 (sp tb (bo + 722) g (bq tb bo G F sf inp out M0)) "java/lang/IllegalStateException") 1 6 (me_A z0) := by
  refine me_openX (by decide) (Nat.le_of_ble_eq_true rfl) ?_
  intro p e s m args below meth c ls hC ht hlk hM hl
  have hl : lv_has ls 4 [(0, .ref bo), (1, .int (nI b)), (2, .int (nI s0)), (3, .int (nI n9))] := hl
  have hx := hC.1
  have hb := hC.2.1
  have hw := hC.2.2.2.2.1
  obtain ⟨hS, hS0, hB, hB0, hL, hL0, hP, hP0, hwb, hwl⟩ := id hW
  refine lv_aload_n hx hb dX7_lend_0 rfl (lv_at hl 0 rfl) ?_
  refine lv_iload_n hx hb dX7_lend_1 rfl (lv_at hl 1 rfl) ?_
  refine me_callVv (As := [.int (nI b)]) (rest := []) hC hl.1 hM (c_X7_needBorrower l D tb X z0 n bo g G F sf inp out M0 S B L P b hW (by omega)) (kv_X7_167 hw rfl rfl ⟨Nat.le_of_ble_eq_true rfl, Nat.le_of_ble_eq_true rfl⟩) rfl rfl (bq_at h_b) rfl (Nat.le_of_ble_eq_true rfl) dX7_lend_2 ⟨Nat.le_of_ble_eq_true rfl, Nat.le_of_ble_eq_true rfl⟩ (fun H locs hM => ?_)
  refine lv_aload_n hx hb dX7_lend_5 rfl (lv_at hl 0 rfl) ?_
  refine lv_iload_n hx hb dX7_lend_6 rfl (lv_at hl 2 rfl) ?_
  refine lv_iload_n hx hb dX7_lend_7 rfl (lv_at hl 3 rfl) ?_
  refine lv_bipush (v := 6) hx hb dX7_lend_8 (by decide) ?_
  refine me_stk (st2 := [.int (nI 6), .int (nI n9), .int (nI s0), .ref bo]) (by rw [(nx_c 6)]) ?_
  refine me_callVv (As := [.int (nI s0), .int (nI n9), .int (nI 6)]) (rest := []) hC hl.1 hM (c_X7_needSpan l D tb X z0 n bo g G F sf inp out M0 S B L P s0 n9 6 T hW hT hT0 (by omega) (by omega) (by omega) (by omega) (by omega)) (kv_X7_223 hw rfl rfl ⟨Nat.le_of_ble_eq_true rfl, Nat.le_of_ble_eq_true rfl⟩) rfl rfl (bq_at h_b) rfl (Nat.le_of_ble_eq_true rfl) dX7_lend_10 ⟨Nat.le_of_ble_eq_true rfl, Nat.le_of_ble_eq_true rfl⟩ (fun H locs hM => ?_)
  refine lv_aload_n hx hb dX7_lend_13 rfl (lv_at hl 0 rfl) ?_
  refine fg_X7_71 hC hM (bq_at h_b) rfl dX7_lend_14 ?_
  refine lv_iload_n hx hb dX7_lend_17 rfl (lv_at hl 1 rfl) ?_
  refine lv_iload_n hx hb dX7_lend_18 rfl (lv_at hl 2 rfl) ?_
  refine lv_iload_n hx hb dX7_lend_19 rfl (lv_at hl 3 rfl) ?_
  refine me_callVi (As := [.int (nI b), .int (nI s0), .int (nI n9)]) (rest := []) hC hl.1 hM (c_X5_reasonAgainst l D tb X z0 n (bo + 722) g (bq tb bo G F sf inp out M0) S B L P b s0 n9 hW (by omega) (by omega)) (kv_X7_227 hw rfl rfl ⟨Nat.le_of_ble_eq_true rfl, Nat.le_of_ble_eq_true rfl⟩) rfl rfl (sp_st _ _ _ _) rfl (Nat.le_of_ble_eq_true rfl) dX7_lend_20 ⟨Nat.le_of_ble_eq_true rfl, Nat.le_of_ble_eq_true rfl⟩ (fun H locs hM => ?_)
  refine lv_if_eq (tgt := 37) hx hb dX7_lend_23 (by decide) (fun c_1 => ?_) (fun c_1 => ?_)
  · exact absurd c_1 hre
  · exact me_throwW (ic := 78) hC hl.1 hM ht hlk (hXs s hC.2.2.2.2.2.1.2) hfl (by decide +kernel) xn_f w_644 w_24 xg_S xb_S xo_S (str_777) dX7_lend_26 dX7_lend_29 dX7_lend_30 dX7_lend_33 dX7_lend_36 (Nat.le_of_ble_eq_true rfl) (Nat.le_of_ble_eq_true rfl) (Nat.le_of_ble_eq_true rfl) (Nat.le_of_ble_eq_true rfl) (Nat.le_of_ble_eq_true rfl) (Nat.le_of_ble_eq_true rfl)
set_option maxHeartbeats 4000000 in
theorem c_X7_cancel (l : Launch) (D : va_G) (tb : Nat → ClassId) (X : State → Prop) (z0 n : Nat) (bo : Nat) (g : Nat → Int32) (G : Nat → Nat → Int32) (F sf inp out : Nat → Int32) (M0 : me_M) (S B L P : Nat) (nx ct : Nat) (k : Nat)  (hW : wf g S B L P) (hnx : F 4 = nI nx) (hnx0 : nx < 10) (hct : F 5 = nI ct) (hct0 : ct ≤ 10) (hk : k < L) (hst : g (261 + 5 * k + 4) = 0) : Met l yX7_cancel (.code yX7_cancel cX7_cancel 2 (some .int) :: ws_all) ({ frames := 3, cells := 0, slots := 0, locals := 64 } : Room) (me_Pc [.ref bo, .int (nI k)] D tb X z0 (sp tb (bo + 722) g (bq tb bo G F sf inp out M0)) n) (me_Qi D z0 ((caS k g) (89 + 11 * (ow (caS k g) k) + 2)) (sp tb (bo + 722) (caS k g) (bq tb bo (recG G g S B L P nx) (recF F nx ct) sf inp out M0)) n) 0 0 (me_A z0) := by
  refine me_open (by decide) (Nat.le_of_ble_eq_true rfl) ?_
  intro p e s m args below meth c ls hC hr hlk hnm hM hl
  have hl : lv_has ls 2 [(0, .ref bo), (1, .int (nI k))] := hl
  have hx := hC.1
  have hb := hC.2.1
  have hw := hC.2.2.2.2.1
  obtain ⟨hS, hS0, hB, hB0, hL, hL0, hP, hP0, hwb, hwl⟩ := id hW
  have hW2 := wf_ca hW hk
  have hk2 := hW2.2.2.2.2.2.2.2.2.2 k hk
  refine lv_aload_n hx hb dX7_cancel_0 rfl (lv_at hl 0 rfl) ?_
  refine lv_iload_n hx hb dX7_cancel_1 rfl (lv_at hl 1 rfl) ?_
  refine me_callVv (As := [.int (nI k)]) (rest := []) hC hl.1 hM (c_X7_needLoan l D tb X z0 n bo g G F sf inp out M0 S B L P k hW (by omega)) (kv_X7_197 hw rfl rfl ⟨Nat.le_of_ble_eq_true rfl, Nat.le_of_ble_eq_true rfl⟩) rfl rfl (bq_at h_b) rfl (Nat.le_of_ble_eq_true rfl) dX7_cancel_2 ⟨Nat.le_of_ble_eq_true rfl, Nat.le_of_ble_eq_true rfl⟩ (fun H locs hM => ?_)
  refine lv_aload_n hx hb dX7_cancel_5 rfl (lv_at hl 0 rfl) ?_
  refine fg_X7_71 hC hM (bq_at h_b) rfl dX7_cancel_6 ?_
  refine fg_X7_185 hC hM (sp_st _ _ _ _) rfl dX7_cancel_9 ?_
  refine lv_iload_n hx hb dX7_cancel_12 rfl (lv_at hl 1 rfl) ?_
  refine me_aald (k := k) hC hM (sp_a3 _ _ _ _) (t0 := 8) rfl rfl (by omega) (by decide) (sp_arr_at (by omega)) dX7_cancel_13 ?_
  refine fg_X7_194 hC hM (sp_loan _ _ _ _ (by omega)) rfl dX7_cancel_14 ?_
  refine lv_if_eq (tgt := 31) hx hb dX7_cancel_17 (by decide) (fun c_1 => ?_) (fun c_1 => ?_)
  · refine lv_aload_n hx hb dX7_cancel_31 rfl (lv_at hl 0 rfl) ?_
    refine fg_X7_19 hC hM (bq_at h_b) rfl dX7_cancel_32 ?_
    refine lv_aload_n hx hb dX7_cancel_35 rfl (lv_at hl 0 rfl) ?_
    refine fg_X7_71 hC hM (bq_at h_b) rfl dX7_cancel_36 ?_
    refine me_callVv (As := [.ref (bo + 722)]) (rest := []) hC hl.1 hM (c_X1_record l D tb X z0 n bo g G F sf inp out M0 S B L P nx ct hW hnx hnx0 hct hct0) (kv_X7_260 hw rfl rfl ⟨Nat.le_of_ble_eq_true rfl, Nat.le_of_ble_eq_true rfl⟩) rfl rfl (bq_at h_h) rfl (Nat.le_of_ble_eq_true rfl) dX7_cancel_39 ⟨Nat.le_of_ble_eq_true rfl, Nat.le_of_ble_eq_true rfl⟩ (fun H locs hM => ?_)
    refine lv_aload_n hx hb dX7_cancel_42 rfl (lv_at hl 0 rfl) ?_
    refine fg_X7_71 hC hM (bq_at h_b) rfl dX7_cancel_43 ?_
    refine lv_iload_n hx hb dX7_cancel_46 rfl (lv_at hl 1 rfl) ?_
    refine me_callVv (As := [.int (nI k)]) (rest := []) hC hl.1 hM (c_X5_cancelLoan l D tb X z0 n (bo + 722) g (bq tb bo (recG G g S B L P nx) (recF F nx ct) sf inp out M0) S B L P k hW (by omega)) (kv_X7_268 hw rfl rfl ⟨Nat.le_of_ble_eq_true rfl, Nat.le_of_ble_eq_true rfl⟩) rfl rfl (sp_st _ _ _ _) rfl (Nat.le_of_ble_eq_true rfl) dX7_cancel_47 ⟨Nat.le_of_ble_eq_true rfl, Nat.le_of_ble_eq_true rfl⟩ (fun H locs hM => ?_)
    refine lv_aload_n hx hb dX7_cancel_50 rfl (lv_at hl 0 rfl) ?_
    refine fg_X7_71 hC hM (bq_at h_b) rfl dX7_cancel_51 ?_
    refine fg_X7_170 hC hM (sp_st _ _ _ _) rfl dX7_cancel_54 ?_
    refine lv_aload_n hx hb dX7_cancel_57 rfl (lv_at hl 0 rfl) ?_
    refine fg_X7_71 hC hM (bq_at h_b) rfl dX7_cancel_58 ?_
    refine fg_X7_185 hC hM (sp_st _ _ _ _) rfl dX7_cancel_61 ?_
    refine lv_iload_n hx hb dX7_cancel_64 rfl (lv_at hl 1 rfl) ?_
    refine me_aald (k := k) hC hM (sp_a3 _ _ _ _) (t0 := 8) rfl rfl (by omega) (by decide) (sp_arr_at (by omega)) dX7_cancel_65 ?_
    refine fg_X7_189 hC hM (sp_loan _ _ _ _ (by omega)) rfl dX7_cancel_66 ?_
    refine me_aald (k := ow (caS k g) k) hC hM (sp_a2 _ _ _ _) (t0 := 7) rfl hk2.1 (by omega) (by decide) (sp_arr_at (by omega)) dX7_cancel_69 ?_
    refine fg_X7_182 hC hM (sp_borrower _ _ _ _ (by omega)) rfl dX7_cancel_70 ?_
    exact me_iret hC hr hlk hM (by first | rfl | simp [c_1]) (rfl) (rfl) dX7_cancel_73
  · exact absurd hst c_1
set_option maxHeartbeats 4000000 in
theorem c_X7_cancel_x1 (l : Launch) (D : va_G) (tb : Nat → ClassId) (X : State → Prop) (z0 n : Nat) (bo : Nat) (g : Nat → Int32) (G : Nat → Nat → Int32) (F sf inp out : Nat → Int32) (M0 : me_M) (S B L P : Nat) (x : Int32)  (hfl : l.stackTraces = false) (hXs : ∀ U, X U → me_xs z0 U) (hbad : x < 0 ∨ g 6 ≤ x) : vx_Met l yX7_cancel (.code yX7_cancel cX7_cancel 2 (some .int) :: ws_all) ({ frames := 7, cells := 1, slots := 6, locals := 111 } : Room) (me_Pc [.ref bo, .int x] D tb X z0 (sp tb (bo + 722) g (bq tb bo G F sf inp out M0)) n) me_no (me_XC D z0 (sp tb (bo + 722) g (bq tb bo G F sf inp out M0)) "java/lang/IndexOutOfBoundsException") 1 6 (me_A z0) := by
  refine me_openX (by decide) (Nat.le_of_ble_eq_true rfl) ?_
  intro p e s m args below meth c ls hC ht hlk hM hl
  have hl : lv_has ls 2 [(0, .ref bo), (1, .int x)] := hl
  have hx := hC.1
  have hb := hC.2.1
  have hw := hC.2.2.2.2.1
  refine lv_aload_n hx hb dX7_cancel_0 rfl (lv_at hl 0 rfl) ?_
  refine lv_iload_n hx hb dX7_cancel_1 rfl (lv_at hl 1 rfl) ?_
  exact me_xV (As := [.int x]) (rest := []) hC hl.1 hM (c_X7_needLoan_x l D tb X z0 n bo g G F sf inp out M0 S B L P x hfl hXs hbad) (kv_X7_197 hw rfl rfl ⟨Nat.le_of_ble_eq_true rfl, Nat.le_of_ble_eq_true rfl⟩) rfl rfl (bq_at h_b) rfl (Nat.le_of_ble_eq_true rfl) dX7_cancel_2 ⟨Nat.le_of_ble_eq_true rfl, Nat.le_of_ble_eq_true rfl⟩ ht hlk (Nat.le_of_ble_eq_true rfl) (Nat.le_of_ble_eq_true rfl)
set_option maxHeartbeats 4000000 in
theorem c_X7_cancel_x2 (l : Launch) (D : va_G) (tb : Nat → ClassId) (X : State → Prop) (z0 n : Nat) (bo : Nat) (g : Nat → Int32) (G : Nat → Nat → Int32) (F sf inp out : Nat → Int32) (M0 : me_M) (S B L P : Nat) (k : Nat)  (hfl : l.stackTraces = false) (hXs : ∀ U, X U → me_xs z0 U) (hW : wf g S B L P) (hk : k < L) (hst : ¬ g (261 + 5 * k + 4) = 0) : vx_Met l yX7_cancel (.code yX7_cancel cX7_cancel 2 (some .int) :: ws_all) ({ frames := 6, cells := 1, slots := 6, locals := 90 } : Room) (me_Pc [.ref bo, .int (nI k)] D tb X z0 (sp tb (bo + 722) g (bq tb bo G F sf inp out M0)) n) me_no (me_XC D z0 (sp tb (bo + 722) g (bq tb bo G F sf inp out M0)) "java/lang/IllegalStateException") 1 6 (me_A z0) := by
  refine me_openX (by decide) (Nat.le_of_ble_eq_true rfl) ?_
  intro p e s m args below meth c ls hC ht hlk hM hl
  have hl : lv_has ls 2 [(0, .ref bo), (1, .int (nI k))] := hl
  have hx := hC.1
  have hb := hC.2.1
  have hw := hC.2.2.2.2.1
  obtain ⟨hS, hS0, hB, hB0, hL, hL0, hP, hP0, hwb, hwl⟩ := id hW
  refine lv_aload_n hx hb dX7_cancel_0 rfl (lv_at hl 0 rfl) ?_
  refine lv_iload_n hx hb dX7_cancel_1 rfl (lv_at hl 1 rfl) ?_
  refine me_callVv (As := [.int (nI k)]) (rest := []) hC hl.1 hM (c_X7_needLoan l D tb X z0 n bo g G F sf inp out M0 S B L P k hW (by omega)) (kv_X7_197 hw rfl rfl ⟨Nat.le_of_ble_eq_true rfl, Nat.le_of_ble_eq_true rfl⟩) rfl rfl (bq_at h_b) rfl (Nat.le_of_ble_eq_true rfl) dX7_cancel_2 ⟨Nat.le_of_ble_eq_true rfl, Nat.le_of_ble_eq_true rfl⟩ (fun H locs hM => ?_)
  refine lv_aload_n hx hb dX7_cancel_5 rfl (lv_at hl 0 rfl) ?_
  refine fg_X7_71 hC hM (bq_at h_b) rfl dX7_cancel_6 ?_
  refine fg_X7_185 hC hM (sp_st _ _ _ _) rfl dX7_cancel_9 ?_
  refine lv_iload_n hx hb dX7_cancel_12 rfl (lv_at hl 1 rfl) ?_
  refine me_aald (k := k) hC hM (sp_a3 _ _ _ _) (t0 := 8) rfl rfl (by omega) (by decide) (sp_arr_at (by omega)) dX7_cancel_13 ?_
  refine fg_X7_194 hC hM (sp_loan _ _ _ _ (by omega)) rfl dX7_cancel_14 ?_
  refine lv_if_eq (tgt := 31) hx hb dX7_cancel_17 (by decide) (fun c_1 => ?_) (fun c_1 => ?_)
  · exact absurd c_1 hst
  · exact me_throwW (ic := 78) hC hl.1 hM ht hlk (hXs s hC.2.2.2.2.2.1.2) hfl (by decide +kernel) xn_f w_644 w_24 xg_S xb_S xo_S (str_791) dX7_cancel_20 dX7_cancel_23 dX7_cancel_24 dX7_cancel_27 dX7_cancel_30 (Nat.le_of_ble_eq_true rfl) (Nat.le_of_ble_eq_true rfl) (Nat.le_of_ble_eq_true rfl) (Nat.le_of_ble_eq_true rfl) (Nat.le_of_ble_eq_true rfl) (Nat.le_of_ble_eq_true rfl)
set_option maxHeartbeats 4000000 in
theorem c_X7_whistle (l : Launch) (D : va_G) (tb : Nat → ClassId) (X : State → Prop) (z0 n : Nat) (bo : Nat) (g : Nat → Int32) (G : Nat → Nat → Int32) (F sf inp out : Nat → Int32) (M0 : me_M) (S B L P : Nat) (nx ct : Nat) (k : Nat)  (hW : wf g S B L P) (hnx : F 4 = nI nx) (hnx0 : nx < 10) (hct : F 5 = nI ct) (hct0 : ct ≤ 10) (hk : k < L) (hst : g (261 + 5 * k + 4) = 2 ∨ g (261 + 5 * k + 4) = 4) : Met l yX7_whistle (.code yX7_whistle cX7_whistle 2 (some .int) :: ws_all) ({ frames := 3, cells := 0, slots := 0, locals := 64 } : Room) (me_Pc [.ref bo, .int (nI k)] D tb X z0 (sp tb (bo + 722) g (bq tb bo G F sf inp out M0)) n) (me_Qi D z0 (g 2 - (g (261 + 5 * k + 1) + g (261 + 5 * k + 2))) (sp tb (bo + 722) (wsG k g) (bq tb bo (recG G g S B L P nx) (recF F nx ct) sf inp out M0)) n) 0 0 (me_A z0) := by
  refine me_open (by decide) (Nat.le_of_ble_eq_true rfl) ?_
  intro p e s m args below meth c ls hC hr hlk hnm hM hl
  have hl : lv_has ls 2 [(0, .ref bo), (1, .int (nI k))] := hl
  have hx := hC.1
  have hb := hC.2.1
  have hw := hC.2.2.2.2.1
  obtain ⟨hS, hS0, hB, hB0, hL, hL0, hP, hP0, hwb, hwl⟩ := id hW
  refine lv_aload_n hx hb dX7_whistle_0 rfl (lv_at hl 0 rfl) ?_
  refine lv_iload_n hx hb dX7_whistle_1 rfl (lv_at hl 1 rfl) ?_
  refine me_callVv (As := [.int (nI k)]) (rest := []) hC hl.1 hM (c_X7_needLoan l D tb X z0 n bo g G F sf inp out M0 S B L P k hW (by omega)) (kv_X7_197 hw rfl rfl ⟨Nat.le_of_ble_eq_true rfl, Nat.le_of_ble_eq_true rfl⟩) rfl rfl (bq_at h_b) rfl (Nat.le_of_ble_eq_true rfl) dX7_whistle_2 ⟨Nat.le_of_ble_eq_true rfl, Nat.le_of_ble_eq_true rfl⟩ (fun H locs hM => ?_)
  refine lv_aload_n hx hb dX7_whistle_5 rfl (lv_at hl 0 rfl) ?_
  refine fg_X7_71 hC hM (bq_at h_b) rfl dX7_whistle_6 ?_
  refine fg_X7_185 hC hM (sp_st _ _ _ _) rfl dX7_whistle_9 ?_
  refine lv_iload_n hx hb dX7_whistle_12 rfl (lv_at hl 1 rfl) ?_
  refine me_aald (k := k) hC hM (sp_a3 _ _ _ _) (t0 := 8) rfl rfl (by omega) (by decide) (sp_arr_at (by omega)) dX7_whistle_13 ?_
  refine me_callVi (As := []) (rest := []) hC hl.1 hM (c_X2_canBeReturned l D tb X z0 n _ _ _ _ _ _ _  (sp_loan _ _ _ _ (by omega))) (kv_X7_271 hw rfl rfl ⟨Nat.le_of_ble_eq_true rfl, Nat.le_of_ble_eq_true rfl⟩) rfl rfl (sp_loan _ _ _ _ (by omega)) rfl (Nat.le_of_ble_eq_true rfl) dX7_whistle_14 ⟨Nat.le_of_ble_eq_true rfl, Nat.le_of_ble_eq_true rfl⟩ (fun H locs hM => ?_)
  refine lv_if_ne (tgt := 31) hx hb dX7_whistle_17 (by decide) (fun c_1 => ?_) (fun c_1 => ?_)
  · have c_1 := b1_n0.mp c_1
    refine lv_aload_n hx hb dX7_whistle_31 rfl (lv_at hl 0 rfl) ?_
    refine fg_X7_19 hC hM (bq_at h_b) rfl dX7_whistle_32 ?_
    refine lv_aload_n hx hb dX7_whistle_35 rfl (lv_at hl 0 rfl) ?_
    refine fg_X7_71 hC hM (bq_at h_b) rfl dX7_whistle_36 ?_
    refine me_callVv (As := [.ref (bo + 722)]) (rest := []) hC hl.1 hM (c_X1_record l D tb X z0 n bo g G F sf inp out M0 S B L P nx ct hW hnx hnx0 hct hct0) (kv_X7_260 hw rfl rfl ⟨Nat.le_of_ble_eq_true rfl, Nat.le_of_ble_eq_true rfl⟩) rfl rfl (bq_at h_h) rfl (Nat.le_of_ble_eq_true rfl) dX7_whistle_39 ⟨Nat.le_of_ble_eq_true rfl, Nat.le_of_ble_eq_true rfl⟩ (fun H locs hM => ?_)
    refine lv_aload_n hx hb dX7_whistle_42 rfl (lv_at hl 0 rfl) ?_
    refine fg_X7_71 hC hM (bq_at h_b) rfl dX7_whistle_43 ?_
    refine fg_X7_185 hC hM (sp_st _ _ _ _) rfl dX7_whistle_46 ?_
    refine lv_iload_n hx hb dX7_whistle_49 rfl (lv_at hl 1 rfl) ?_
    refine me_aald (k := k) hC hM (sp_a3 _ _ _ _) (t0 := 8) rfl rfl (by omega) (by decide) (sp_arr_at (by omega)) dX7_whistle_50 ?_
    refine lv_iconst (v := 3) hx hb dX7_whistle_51 (by decide) ?_
    refine fp_X7_194 hC hM (sp_loan _ _ _ _ (by omega)) (Nat.le_of_ble_eq_true rfl) (M2 := sp tb (bo + 722) (upd g (261 + 5 * k + 4) 3) (bq tb bo (recG G g S B L P nx) (recF F nx ct) sf inp out M0)) (sp_w_loan (k := k) 4 (by omega) (by decide) (by simp [upd])) dX7_whistle_52 (fun H locs hM => ?_)
    refine lv_aload_n hx hb dX7_whistle_55 rfl (lv_at hl 0 rfl) ?_
    refine fg_X7_71 hC hM (bq_at h_b) rfl dX7_whistle_56 ?_
    refine fg_X7_114 hC hM (sp_st _ _ _ _) rfl dX7_whistle_59 ?_
    refine me_evi (y := g 2) (upd_n (by omega)) ?_
    refine lv_aload_n hx hb dX7_whistle_62 rfl (lv_at hl 0 rfl) ?_
    refine fg_X7_71 hC hM (bq_at h_b) rfl dX7_whistle_63 ?_
    refine fg_X7_185 hC hM (sp_st _ _ _ _) rfl dX7_whistle_66 ?_
    refine lv_iload_n hx hb dX7_whistle_69 rfl (lv_at hl 1 rfl) ?_
    refine me_aald (k := k) hC hM (sp_a3 _ _ _ _) (t0 := 8) rfl rfl (by omega) (by decide) (sp_arr_at (by omega)) dX7_whistle_70 ?_
    refine me_callVi (As := []) (rest := [.int (g 2)]) hC hl.1 hM (c_X2_end l D tb X z0 n _ _ _ _ _ _ _  (sp_loan _ _ _ _ (by omega))) (kv_X7_277 hw rfl rfl ⟨Nat.le_of_ble_eq_true rfl, Nat.le_of_ble_eq_true rfl⟩) rfl rfl (sp_loan _ _ _ _ (by omega)) rfl (Nat.le_of_ble_eq_true rfl) dX7_whistle_71 ⟨Nat.le_of_ble_eq_true rfl, Nat.le_of_ble_eq_true rfl⟩ (fun H locs hM => ?_)
    refine lv_isub hx hb dX7_whistle_74 ?_
    exact me_iret hC hr hlk hM (by rw [upd_n (by omega), upd_n (by omega)]) (rfl) (rfl) dX7_whistle_75
  · have c_1 := b1_0.mp c_1
    exact absurd hst c_1
set_option maxHeartbeats 4000000 in
theorem c_X7_whistle_x1 (l : Launch) (D : va_G) (tb : Nat → ClassId) (X : State → Prop) (z0 n : Nat) (bo : Nat) (g : Nat → Int32) (G : Nat → Nat → Int32) (F sf inp out : Nat → Int32) (M0 : me_M) (S B L P : Nat) (x : Int32)  (hfl : l.stackTraces = false) (hXs : ∀ U, X U → me_xs z0 U) (hbad : x < 0 ∨ g 6 ≤ x) : vx_Met l yX7_whistle (.code yX7_whistle cX7_whistle 2 (some .int) :: ws_all) ({ frames := 7, cells := 1, slots := 6, locals := 111 } : Room) (me_Pc [.ref bo, .int x] D tb X z0 (sp tb (bo + 722) g (bq tb bo G F sf inp out M0)) n) me_no (me_XC D z0 (sp tb (bo + 722) g (bq tb bo G F sf inp out M0)) "java/lang/IndexOutOfBoundsException") 1 6 (me_A z0) := by
  refine me_openX (by decide) (Nat.le_of_ble_eq_true rfl) ?_
  intro p e s m args below meth c ls hC ht hlk hM hl
  have hl : lv_has ls 2 [(0, .ref bo), (1, .int x)] := hl
  have hx := hC.1
  have hb := hC.2.1
  have hw := hC.2.2.2.2.1
  refine lv_aload_n hx hb dX7_whistle_0 rfl (lv_at hl 0 rfl) ?_
  refine lv_iload_n hx hb dX7_whistle_1 rfl (lv_at hl 1 rfl) ?_
  exact me_xV (As := [.int x]) (rest := []) hC hl.1 hM (c_X7_needLoan_x l D tb X z0 n bo g G F sf inp out M0 S B L P x hfl hXs hbad) (kv_X7_197 hw rfl rfl ⟨Nat.le_of_ble_eq_true rfl, Nat.le_of_ble_eq_true rfl⟩) rfl rfl (bq_at h_b) rfl (Nat.le_of_ble_eq_true rfl) dX7_whistle_2 ⟨Nat.le_of_ble_eq_true rfl, Nat.le_of_ble_eq_true rfl⟩ ht hlk (Nat.le_of_ble_eq_true rfl) (Nat.le_of_ble_eq_true rfl)
set_option maxHeartbeats 4000000 in
theorem c_X7_whistle_x2 (l : Launch) (D : va_G) (tb : Nat → ClassId) (X : State → Prop) (z0 n : Nat) (bo : Nat) (g : Nat → Int32) (G : Nat → Nat → Int32) (F sf inp out : Nat → Int32) (M0 : me_M) (S B L P : Nat) (k : Nat)  (hfl : l.stackTraces = false) (hXs : ∀ U, X U → me_xs z0 U) (hW : wf g S B L P) (hk : k < L) (hst : ¬ (g (261 + 5 * k + 4) = 2 ∨ g (261 + 5 * k + 4) = 4)) : vx_Met l yX7_whistle (.code yX7_whistle cX7_whistle 2 (some .int) :: ws_all) ({ frames := 6, cells := 1, slots := 6, locals := 90 } : Room) (me_Pc [.ref bo, .int (nI k)] D tb X z0 (sp tb (bo + 722) g (bq tb bo G F sf inp out M0)) n) me_no (me_XC D z0 (sp tb (bo + 722) g (bq tb bo G F sf inp out M0)) "java/lang/IllegalStateException") 1 6 (me_A z0) := by
  refine me_openX (by decide) (Nat.le_of_ble_eq_true rfl) ?_
  intro p e s m args below meth c ls hC ht hlk hM hl
  have hl : lv_has ls 2 [(0, .ref bo), (1, .int (nI k))] := hl
  have hx := hC.1
  have hb := hC.2.1
  have hw := hC.2.2.2.2.1
  obtain ⟨hS, hS0, hB, hB0, hL, hL0, hP, hP0, hwb, hwl⟩ := id hW
  refine lv_aload_n hx hb dX7_whistle_0 rfl (lv_at hl 0 rfl) ?_
  refine lv_iload_n hx hb dX7_whistle_1 rfl (lv_at hl 1 rfl) ?_
  refine me_callVv (As := [.int (nI k)]) (rest := []) hC hl.1 hM (c_X7_needLoan l D tb X z0 n bo g G F sf inp out M0 S B L P k hW (by omega)) (kv_X7_197 hw rfl rfl ⟨Nat.le_of_ble_eq_true rfl, Nat.le_of_ble_eq_true rfl⟩) rfl rfl (bq_at h_b) rfl (Nat.le_of_ble_eq_true rfl) dX7_whistle_2 ⟨Nat.le_of_ble_eq_true rfl, Nat.le_of_ble_eq_true rfl⟩ (fun H locs hM => ?_)
  refine lv_aload_n hx hb dX7_whistle_5 rfl (lv_at hl 0 rfl) ?_
  refine fg_X7_71 hC hM (bq_at h_b) rfl dX7_whistle_6 ?_
  refine fg_X7_185 hC hM (sp_st _ _ _ _) rfl dX7_whistle_9 ?_
  refine lv_iload_n hx hb dX7_whistle_12 rfl (lv_at hl 1 rfl) ?_
  refine me_aald (k := k) hC hM (sp_a3 _ _ _ _) (t0 := 8) rfl rfl (by omega) (by decide) (sp_arr_at (by omega)) dX7_whistle_13 ?_
  refine me_callVi (As := []) (rest := []) hC hl.1 hM (c_X2_canBeReturned l D tb X z0 n _ _ _ _ _ _ _  (sp_loan _ _ _ _ (by omega))) (kv_X7_271 hw rfl rfl ⟨Nat.le_of_ble_eq_true rfl, Nat.le_of_ble_eq_true rfl⟩) rfl rfl (sp_loan _ _ _ _ (by omega)) rfl (Nat.le_of_ble_eq_true rfl) dX7_whistle_14 ⟨Nat.le_of_ble_eq_true rfl, Nat.le_of_ble_eq_true rfl⟩ (fun H locs hM => ?_)
  refine lv_if_ne (tgt := 31) hx hb dX7_whistle_17 (by decide) (fun c_1 => ?_) (fun c_1 => ?_)
  · have c_1 := b1_n0.mp c_1
    exact absurd c_1 hst
  · have c_1 := b1_0.mp c_1
    exact me_throwW (ic := 78) hC hl.1 hM ht hlk (hXs s hC.2.2.2.2.2.1.2) hfl (by decide +kernel) xn_f w_644 w_24 xg_S xb_S xo_S (str_803) dX7_whistle_20 dX7_whistle_23 dX7_whistle_24 dX7_whistle_27 dX7_whistle_30 (Nat.le_of_ble_eq_true rfl) (Nat.le_of_ble_eq_true rfl) (Nat.le_of_ble_eq_true rfl) (Nat.le_of_ble_eq_true rfl) (Nat.le_of_ble_eq_true rfl) (Nat.le_of_ble_eq_true rfl)
set_option maxHeartbeats 4000000 in
theorem c_X7_grantPermit (l : Launch) (D : va_G) (tb : Nat → ClassId) (X : State → Prop) (z0 n : Nat) (bo : Nat) (g : Nat → Int32) (G : Nat → Nat → Int32) (F sf inp out : Nat → Int32) (M0 : me_M) (S B L P : Nat) (T : Nat) (nx ct : Nat) (s1 s0 n9 : Nat)  (hW : wf g S B L P) (hT : g 2 = nI T) (hT0 : T ≤ 10000) (hnx : F 4 = nI nx) (hnx0 : nx < 10) (hct : F 5 = nI ct) (hct0 : ct ≤ 10) (hs9 : s1 < S) (hn1 : 1 ≤ n9) (hn2 : n9 ≤ 12) (hs1 : T ≤ s0) (hs2 : s0 + n9 ≤ T + 48) (hok : fi (fun k => cpP g L (nI s1) (nI s0) (nI n9) k) L 0 = -1 ∧ P < 10) : Met l yX7_grantPermit (.code yX7_grantPermit cX7_grantPermit 4 (some .int) :: ws_all) ({ frames := 3, cells := 0, slots := 0, locals := 64 } : Room) (me_Pc [.ref bo, .int (nI s1), .int (nI s0), .int (nI n9)] D tb X z0 (sp tb (bo + 722) g (bq tb bo G F sf inp out M0)) n) (me_Qi D z0 (nI P) (sp tb (bo + 722) (apF g P (nI s1) (nI s0) (nI n9)) (bq tb bo (recG G g S B L P nx) (recF F nx ct) sf inp out M0)) n) 0 0 (me_A z0) := by
  refine me_open (by decide) (Nat.le_of_ble_eq_true rfl) ?_
  intro p e s m args below meth c ls hC hr hlk hnm hM hl
  have hl : lv_has ls 4 [(0, .ref bo), (1, .int (nI s1)), (2, .int (nI s0)), (3, .int (nI n9))] := hl
  have hx := hC.1
  have hb := hC.2.1
  have hw := hC.2.2.2.2.1
  obtain ⟨hS, hS0, hB, hB0, hL, hL0, hP, hP0, hwb, hwl⟩ := id hW
  have hP9 : P < 10 := hok.2
  refine lv_aload_n hx hb dX7_grantPermit_0 rfl (lv_at hl 0 rfl) ?_
  refine lv_iload_n hx hb dX7_grantPermit_1 rfl (lv_at hl 1 rfl) ?_
  refine me_callVv (As := [.int (nI s1)]) (rest := []) hC hl.1 hM (c_X7_needStreet l D tb X z0 n bo g G F sf inp out M0 S B L P s1 hW (by omega)) (kv_X7_145 hw rfl rfl ⟨Nat.le_of_ble_eq_true rfl, Nat.le_of_ble_eq_true rfl⟩) rfl rfl (bq_at h_b) rfl (Nat.le_of_ble_eq_true rfl) dX7_grantPermit_2 ⟨Nat.le_of_ble_eq_true rfl, Nat.le_of_ble_eq_true rfl⟩ (fun H locs hM => ?_)
  refine lv_aload_n hx hb dX7_grantPermit_5 rfl (lv_at hl 0 rfl) ?_
  refine lv_iload_n hx hb dX7_grantPermit_6 rfl (lv_at hl 2 rfl) ?_
  refine lv_iload_n hx hb dX7_grantPermit_7 rfl (lv_at hl 3 rfl) ?_
  refine lv_bipush (v := 12) hx hb dX7_grantPermit_8 (by decide) ?_
  refine me_stk (st2 := [.int (nI 12), .int (nI n9), .int (nI s0), .ref bo]) (by rw [(nx_c 12)]) ?_
  refine me_callVv (As := [.int (nI s0), .int (nI n9), .int (nI 12)]) (rest := []) hC hl.1 hM (c_X7_needSpan l D tb X z0 n bo g G F sf inp out M0 S B L P s0 n9 12 T hW hT hT0 (by omega) (by omega) (by omega) (by omega) (by omega)) (kv_X7_223 hw rfl rfl ⟨Nat.le_of_ble_eq_true rfl, Nat.le_of_ble_eq_true rfl⟩) rfl rfl (bq_at h_b) rfl (Nat.le_of_ble_eq_true rfl) dX7_grantPermit_10 ⟨Nat.le_of_ble_eq_true rfl, Nat.le_of_ble_eq_true rfl⟩ (fun H locs hM => ?_)
  refine lv_aload_n hx hb dX7_grantPermit_13 rfl (lv_at hl 0 rfl) ?_
  refine fg_X7_71 hC hM (bq_at h_b) rfl dX7_grantPermit_14 ?_
  refine lv_iload_n hx hb dX7_grantPermit_17 rfl (lv_at hl 1 rfl) ?_
  refine lv_iload_n hx hb dX7_grantPermit_18 rfl (lv_at hl 2 rfl) ?_
  refine lv_iload_n hx hb dX7_grantPermit_19 rfl (lv_at hl 3 rfl) ?_
  refine me_callVi (As := [.int (nI s1), .int (nI s0), .int (nI n9)]) (rest := []) hC hl.1 hM (c_X5_canPermit l D tb X z0 n (bo + 722) g (bq tb bo G F sf inp out M0) S B L P (nI s1) (nI s0) (nI n9) hW ) (kv_X7_280 hw rfl rfl ⟨Nat.le_of_ble_eq_true rfl, Nat.le_of_ble_eq_true rfl⟩) rfl rfl (sp_st _ _ _ _) rfl (Nat.le_of_ble_eq_true rfl) dX7_grantPermit_20 ⟨Nat.le_of_ble_eq_true rfl, Nat.le_of_ble_eq_true rfl⟩ (fun H locs hM => ?_)
  refine lv_if_ne (tgt := 37) hx hb dX7_grantPermit_23 (by decide) (fun c_1 => ?_) (fun c_1 => ?_)
  · have c_1 := b1_n0.mp c_1
    refine lv_aload_n hx hb dX7_grantPermit_37 rfl (lv_at hl 0 rfl) ?_
    refine fg_X7_19 hC hM (bq_at h_b) rfl dX7_grantPermit_38 ?_
    refine lv_aload_n hx hb dX7_grantPermit_41 rfl (lv_at hl 0 rfl) ?_
    refine fg_X7_71 hC hM (bq_at h_b) rfl dX7_grantPermit_42 ?_
    refine me_callVv (As := [.ref (bo + 722)]) (rest := []) hC hl.1 hM (c_X1_record l D tb X z0 n bo g G F sf inp out M0 S B L P nx ct hW hnx hnx0 hct hct0) (kv_X7_260 hw rfl rfl ⟨Nat.le_of_ble_eq_true rfl, Nat.le_of_ble_eq_true rfl⟩) rfl rfl (bq_at h_h) rfl (Nat.le_of_ble_eq_true rfl) dX7_grantPermit_45 ⟨Nat.le_of_ble_eq_true rfl, Nat.le_of_ble_eq_true rfl⟩ (fun H locs hM => ?_)
    refine lv_aload_n hx hb dX7_grantPermit_48 rfl (lv_at hl 0 rfl) ?_
    refine fg_X7_71 hC hM (bq_at h_b) rfl dX7_grantPermit_49 ?_
    refine lv_iload_n hx hb dX7_grantPermit_52 rfl (lv_at hl 1 rfl) ?_
    refine lv_iload_n hx hb dX7_grantPermit_53 rfl (lv_at hl 2 rfl) ?_
    refine lv_iload_n hx hb dX7_grantPermit_54 rfl (lv_at hl 3 rfl) ?_
    refine me_callVi (As := [.int (nI s1), .int (nI s0), .int (nI n9)]) (rest := []) hC hl.1 hM (c_X5_addPermit l D tb X z0 n (bo + 722) g (bq tb bo (recG G g S B L P nx) (recF F nx ct) sf inp out M0) S B L P (nI s1) (nI s0) (nI n9) hW (by omega)) (kv_X7_286 hw rfl rfl ⟨Nat.le_of_ble_eq_true rfl, Nat.le_of_ble_eq_true rfl⟩) rfl rfl (sp_st _ _ _ _) rfl (Nat.le_of_ble_eq_true rfl) dX7_grantPermit_55 ⟨Nat.le_of_ble_eq_true rfl, Nat.le_of_ble_eq_true rfl⟩ (fun H locs hM => ?_)
    exact me_iret hC hr hlk hM (by first | rfl | simp [c_1]) (rfl) (rfl) dX7_grantPermit_58
  · have c_1 := b1_0.mp c_1
    exact absurd hok c_1
set_option maxHeartbeats 4000000 in
theorem c_X7_grantPermit_x1 (l : Launch) (D : va_G) (tb : Nat → ClassId) (X : State → Prop) (z0 n : Nat) (bo : Nat) (g : Nat → Int32) (G : Nat → Nat → Int32) (F sf inp out : Nat → Int32) (M0 : me_M) (S B L P : Nat) (x : Int32) (y9 z9 : Int32)  (hfl : l.stackTraces = false) (hXs : ∀ U, X U → me_xs z0 U) (hbad : x < 0 ∨ g 3 ≤ x) : vx_Met l yX7_grantPermit (.code yX7_grantPermit cX7_grantPermit 4 (some .int) :: ws_all) ({ frames := 7, cells := 1, slots := 6, locals := 111 } : Room) (me_Pc [.ref bo, .int x, .int y9, .int z9] D tb X z0 (sp tb (bo + 722) g (bq tb bo G F sf inp out M0)) n) me_no (me_XC D z0 (sp tb (bo + 722) g (bq tb bo G F sf inp out M0)) "java/lang/IndexOutOfBoundsException") 1 6 (me_A z0) := by
  refine me_openX (by decide) (Nat.le_of_ble_eq_true rfl) ?_
  intro p e s m args below meth c ls hC ht hlk hM hl
  have hl : lv_has ls 4 [(0, .ref bo), (1, .int x), (2, .int y9), (3, .int z9)] := hl
  have hx := hC.1
  have hb := hC.2.1
  have hw := hC.2.2.2.2.1
  refine lv_aload_n hx hb dX7_grantPermit_0 rfl (lv_at hl 0 rfl) ?_
  refine lv_iload_n hx hb dX7_grantPermit_1 rfl (lv_at hl 1 rfl) ?_
  exact me_xV (As := [.int x]) (rest := []) hC hl.1 hM (c_X7_needStreet_x l D tb X z0 n bo g G F sf inp out M0 S B L P x hfl hXs hbad) (kv_X7_145 hw rfl rfl ⟨Nat.le_of_ble_eq_true rfl, Nat.le_of_ble_eq_true rfl⟩) rfl rfl (bq_at h_b) rfl (Nat.le_of_ble_eq_true rfl) dX7_grantPermit_2 ⟨Nat.le_of_ble_eq_true rfl, Nat.le_of_ble_eq_true rfl⟩ ht hlk (Nat.le_of_ble_eq_true rfl) (Nat.le_of_ble_eq_true rfl)
set_option maxHeartbeats 4000000 in
theorem c_X7_grantPermit_x2 (l : Launch) (D : va_G) (tb : Nat → ClassId) (X : State → Prop) (z0 n : Nat) (bo : Nat) (g : Nat → Int32) (G : Nat → Nat → Int32) (F sf inp out : Nat → Int32) (M0 : me_M) (S B L P : Nat) (s1 : Nat) (x0 x : Int32)  (hfl : l.stackTraces = false) (hXs : ∀ U, X U → me_xs z0 U) (hW : wf g S B L P) (hs9 : s1 < S) (hbad : x < 1 ∨ 12 < x) : vx_Met l yX7_grantPermit (.code yX7_grantPermit cX7_grantPermit 4 (some .int) :: ws_all) ({ frames := 8, cells := 1, slots := 6, locals := 134 } : Room) (me_Pc [.ref bo, .int (nI s1), .int x0, .int x] D tb X z0 (sp tb (bo + 722) g (bq tb bo G F sf inp out M0)) n) me_no (me_XC D z0 (sp tb (bo + 722) g (bq tb bo G F sf inp out M0)) "java/lang/IllegalArgumentException") 1 6 (me_A z0) := by
  refine me_openX (by decide) (Nat.le_of_ble_eq_true rfl) ?_
  intro p e s m args below meth c ls hC ht hlk hM hl
  have hl : lv_has ls 4 [(0, .ref bo), (1, .int (nI s1)), (2, .int x0), (3, .int x)] := hl
  have hx := hC.1
  have hb := hC.2.1
  have hw := hC.2.2.2.2.1
  obtain ⟨hS, hS0, hB, hB0, hL, hL0, hP, hP0, hwb, hwl⟩ := id hW
  refine lv_aload_n hx hb dX7_grantPermit_0 rfl (lv_at hl 0 rfl) ?_
  refine lv_iload_n hx hb dX7_grantPermit_1 rfl (lv_at hl 1 rfl) ?_
  refine me_callVv (As := [.int (nI s1)]) (rest := []) hC hl.1 hM (c_X7_needStreet l D tb X z0 n bo g G F sf inp out M0 S B L P s1 hW (by omega)) (kv_X7_145 hw rfl rfl ⟨Nat.le_of_ble_eq_true rfl, Nat.le_of_ble_eq_true rfl⟩) rfl rfl (bq_at h_b) rfl (Nat.le_of_ble_eq_true rfl) dX7_grantPermit_2 ⟨Nat.le_of_ble_eq_true rfl, Nat.le_of_ble_eq_true rfl⟩ (fun H locs hM => ?_)
  refine lv_aload_n hx hb dX7_grantPermit_5 rfl (lv_at hl 0 rfl) ?_
  refine lv_iload_n hx hb dX7_grantPermit_6 rfl (lv_at hl 2 rfl) ?_
  refine lv_iload_n hx hb dX7_grantPermit_7 rfl (lv_at hl 3 rfl) ?_
  refine lv_bipush (v := 12) hx hb dX7_grantPermit_8 (by decide) ?_
  exact me_xV (As := [.int x0, .int x, .int 12]) (rest := []) hC hl.1 hM (c_X7_needSpan_x1 l D tb X z0 n bo g G F sf inp out M0 S B L P x0 x 12 hfl hXs hbad) (kv_X7_223 hw rfl rfl ⟨Nat.le_of_ble_eq_true rfl, Nat.le_of_ble_eq_true rfl⟩) rfl rfl (bq_at h_b) rfl (Nat.le_of_ble_eq_true rfl) dX7_grantPermit_10 ⟨Nat.le_of_ble_eq_true rfl, Nat.le_of_ble_eq_true rfl⟩ ht hlk (Nat.le_of_ble_eq_true rfl) (Nat.le_of_ble_eq_true rfl)
set_option maxHeartbeats 4000000 in
theorem c_X7_grantPermit_x3 (l : Launch) (D : va_G) (tb : Nat → ClassId) (X : State → Prop) (z0 n : Nat) (bo : Nat) (g : Nat → Int32) (G : Nat → Nat → Int32) (F sf inp out : Nat → Int32) (M0 : me_M) (S B L P : Nat) (s1 : Nat) (x0 : Int32) (n9 : Nat)  (hfl : l.stackTraces = false) (hXs : ∀ U, X U → me_xs z0 U) (hW : wf g S B L P) (hs9 : s1 < S) (hn1 : 1 ≤ n9) (hn2 : n9 ≤ 12) (hbad : x0 < g 2 ∨ g 2 + 48 - nI n9 < x0) : vx_Met l yX7_grantPermit (.code yX7_grantPermit cX7_grantPermit 4 (some .int) :: ws_all) ({ frames := 7, cells := 1, slots := 6, locals := 113 } : Room) (me_Pc [.ref bo, .int (nI s1), .int x0, .int (nI n9)] D tb X z0 (sp tb (bo + 722) g (bq tb bo G F sf inp out M0)) n) me_no (me_XC D z0 (sp tb (bo + 722) g (bq tb bo G F sf inp out M0)) "java/lang/IllegalArgumentException") 1 6 (me_A z0) := by
  refine me_openX (by decide) (Nat.le_of_ble_eq_true rfl) ?_
  intro p e s m args below meth c ls hC ht hlk hM hl
  have hl : lv_has ls 4 [(0, .ref bo), (1, .int (nI s1)), (2, .int x0), (3, .int (nI n9))] := hl
  have hx := hC.1
  have hb := hC.2.1
  have hw := hC.2.2.2.2.1
  obtain ⟨hS, hS0, hB, hB0, hL, hL0, hP, hP0, hwb, hwl⟩ := id hW
  refine lv_aload_n hx hb dX7_grantPermit_0 rfl (lv_at hl 0 rfl) ?_
  refine lv_iload_n hx hb dX7_grantPermit_1 rfl (lv_at hl 1 rfl) ?_
  refine me_callVv (As := [.int (nI s1)]) (rest := []) hC hl.1 hM (c_X7_needStreet l D tb X z0 n bo g G F sf inp out M0 S B L P s1 hW (by omega)) (kv_X7_145 hw rfl rfl ⟨Nat.le_of_ble_eq_true rfl, Nat.le_of_ble_eq_true rfl⟩) rfl rfl (bq_at h_b) rfl (Nat.le_of_ble_eq_true rfl) dX7_grantPermit_2 ⟨Nat.le_of_ble_eq_true rfl, Nat.le_of_ble_eq_true rfl⟩ (fun H locs hM => ?_)
  refine lv_aload_n hx hb dX7_grantPermit_5 rfl (lv_at hl 0 rfl) ?_
  refine lv_iload_n hx hb dX7_grantPermit_6 rfl (lv_at hl 2 rfl) ?_
  refine lv_iload_n hx hb dX7_grantPermit_7 rfl (lv_at hl 3 rfl) ?_
  refine lv_bipush (v := 12) hx hb dX7_grantPermit_8 (by decide) ?_
  exact me_xV (As := [.int x0, .int (nI n9), .int 12]) (rest := []) hC hl.1 hM (c_X7_needSpan_x2 l D tb X z0 n bo g G F sf inp out M0 S B L P x0 n9 12 hfl hXs (by omega) (by omega) (by omega) hW hbad) (kv_X7_223 hw rfl rfl ⟨Nat.le_of_ble_eq_true rfl, Nat.le_of_ble_eq_true rfl⟩) rfl rfl (bq_at h_b) rfl (Nat.le_of_ble_eq_true rfl) dX7_grantPermit_10 ⟨Nat.le_of_ble_eq_true rfl, Nat.le_of_ble_eq_true rfl⟩ ht hlk (Nat.le_of_ble_eq_true rfl) (Nat.le_of_ble_eq_true rfl)
set_option maxHeartbeats 4000000 in
theorem c_X7_grantPermit_x4 (l : Launch) (D : va_G) (tb : Nat → ClassId) (X : State → Prop) (z0 n : Nat) (bo : Nat) (g : Nat → Int32) (G : Nat → Nat → Int32) (F sf inp out : Nat → Int32) (M0 : me_M) (S B L P : Nat) (T : Nat) (s1 s0 n9 : Nat)  (hfl : l.stackTraces = false) (hXs : ∀ U, X U → me_xs z0 U) (hW : wf g S B L P) (hT : g 2 = nI T) (hT0 : T ≤ 10000) (hs9 : s1 < S) (hn1 : 1 ≤ n9) (hn2 : n9 ≤ 12) (hs1 : T ≤ s0) (hs2 : s0 + n9 ≤ T + 48) (hok : ¬ (fi (fun k => cpP g L (nI s1) (nI s0) (nI n9) k) L 0 = -1 ∧ P < 10)) : vx_Met l yX7_grantPermit (.code yX7_grantPermit cX7_grantPermit 4 (some .int) :: ws_all) ({ frames := 6, cells := 1, slots := 6, locals := 90 } : Room) (me_Pc [.ref bo, .int (nI s1), .int (nI s0), .int (nI n9)] D tb X z0 (sp tb (bo + 722) g (bq tb bo G F sf inp out M0)) n) me_no (me_XC D z0 (sp tb (bo + 722) g (bq tb bo G F sf inp out M0)) "java/lang/IllegalStateException") 1 6 (me_A z0) := by
  refine me_openX (by decide) (Nat.le_of_ble_eq_true rfl) ?_
  intro p e s m args below meth c ls hC ht hlk hM hl
  have hl : lv_has ls 4 [(0, .ref bo), (1, .int (nI s1)), (2, .int (nI s0)), (3, .int (nI n9))] := hl
  have hx := hC.1
  have hb := hC.2.1
  have hw := hC.2.2.2.2.1
  obtain ⟨hS, hS0, hB, hB0, hL, hL0, hP, hP0, hwb, hwl⟩ := id hW
  refine lv_aload_n hx hb dX7_grantPermit_0 rfl (lv_at hl 0 rfl) ?_
  refine lv_iload_n hx hb dX7_grantPermit_1 rfl (lv_at hl 1 rfl) ?_
  refine me_callVv (As := [.int (nI s1)]) (rest := []) hC hl.1 hM (c_X7_needStreet l D tb X z0 n bo g G F sf inp out M0 S B L P s1 hW (by omega)) (kv_X7_145 hw rfl rfl ⟨Nat.le_of_ble_eq_true rfl, Nat.le_of_ble_eq_true rfl⟩) rfl rfl (bq_at h_b) rfl (Nat.le_of_ble_eq_true rfl) dX7_grantPermit_2 ⟨Nat.le_of_ble_eq_true rfl, Nat.le_of_ble_eq_true rfl⟩ (fun H locs hM => ?_)
  refine lv_aload_n hx hb dX7_grantPermit_5 rfl (lv_at hl 0 rfl) ?_
  refine lv_iload_n hx hb dX7_grantPermit_6 rfl (lv_at hl 2 rfl) ?_
  refine lv_iload_n hx hb dX7_grantPermit_7 rfl (lv_at hl 3 rfl) ?_
  refine lv_bipush (v := 12) hx hb dX7_grantPermit_8 (by decide) ?_
  refine me_stk (st2 := [.int (nI 12), .int (nI n9), .int (nI s0), .ref bo]) (by rw [(nx_c 12)]) ?_
  refine me_callVv (As := [.int (nI s0), .int (nI n9), .int (nI 12)]) (rest := []) hC hl.1 hM (c_X7_needSpan l D tb X z0 n bo g G F sf inp out M0 S B L P s0 n9 12 T hW hT hT0 (by omega) (by omega) (by omega) (by omega) (by omega)) (kv_X7_223 hw rfl rfl ⟨Nat.le_of_ble_eq_true rfl, Nat.le_of_ble_eq_true rfl⟩) rfl rfl (bq_at h_b) rfl (Nat.le_of_ble_eq_true rfl) dX7_grantPermit_10 ⟨Nat.le_of_ble_eq_true rfl, Nat.le_of_ble_eq_true rfl⟩ (fun H locs hM => ?_)
  refine lv_aload_n hx hb dX7_grantPermit_13 rfl (lv_at hl 0 rfl) ?_
  refine fg_X7_71 hC hM (bq_at h_b) rfl dX7_grantPermit_14 ?_
  refine lv_iload_n hx hb dX7_grantPermit_17 rfl (lv_at hl 1 rfl) ?_
  refine lv_iload_n hx hb dX7_grantPermit_18 rfl (lv_at hl 2 rfl) ?_
  refine lv_iload_n hx hb dX7_grantPermit_19 rfl (lv_at hl 3 rfl) ?_
  refine me_callVi (As := [.int (nI s1), .int (nI s0), .int (nI n9)]) (rest := []) hC hl.1 hM (c_X5_canPermit l D tb X z0 n (bo + 722) g (bq tb bo G F sf inp out M0) S B L P (nI s1) (nI s0) (nI n9) hW ) (kv_X7_280 hw rfl rfl ⟨Nat.le_of_ble_eq_true rfl, Nat.le_of_ble_eq_true rfl⟩) rfl rfl (sp_st _ _ _ _) rfl (Nat.le_of_ble_eq_true rfl) dX7_grantPermit_20 ⟨Nat.le_of_ble_eq_true rfl, Nat.le_of_ble_eq_true rfl⟩ (fun H locs hM => ?_)
  refine lv_if_ne (tgt := 37) hx hb dX7_grantPermit_23 (by decide) (fun c_1 => ?_) (fun c_1 => ?_)
  · have c_1 := b1_n0.mp c_1
    exact absurd c_1 hok
  · have c_1 := b1_0.mp c_1
    exact me_throwW (ic := 78) hC hl.1 hM ht hlk (hXs s hC.2.2.2.2.2.1.2) hfl (by decide +kernel) xn_f w_644 w_24 xg_S xb_S xo_S (str_818) dX7_grantPermit_26 dX7_grantPermit_29 dX7_grantPermit_30 dX7_grantPermit_33 dX7_grantPermit_36 (Nat.le_of_ble_eq_true rfl) (Nat.le_of_ble_eq_true rfl) (Nat.le_of_ble_eq_true rfl) (Nat.le_of_ble_eq_true rfl) (Nat.le_of_ble_eq_true rfl) (Nat.le_of_ble_eq_true rfl)
set_option maxHeartbeats 4000000 in
theorem c_X7_revokePermit (l : Launch) (D : va_G) (tb : Nat → ClassId) (X : State → Prop) (z0 n : Nat) (bo : Nat) (g : Nat → Int32) (G : Nat → Nat → Int32) (F sf inp out : Nat → Int32) (M0 : me_M) (S B L P : Nat) (nx ct : Nat) (k : Nat)  (hW : wf g S B L P) (hnx : F 4 = nI nx) (hnx0 : nx < 10) (hct : F 5 = nI ct) (hct0 : ct ≤ 10) (hk : k < P) (hst : bz (g (221 + 4 * k + 3)) = 0) : Met l yX7_revokePermit (.code yX7_revokePermit cX7_revokePermit 2 (some .int) :: ws_all) ({ frames := 3, cells := 0, slots := 0, locals := 64 } : Room) (me_Pc [.ref bo, .int (nI k)] D tb X z0 (sp tb (bo + 722) g (bq tb bo G F sf inp out M0)) n) (me_Qi D z0 (nI (co (fun k2 => bz (rvG k g (221 + 4 * k2 + 3)) = 0) P 0)) (sp tb (bo + 722) (rvG k g) (bq tb bo (recG G g S B L P nx) (recF F nx ct) sf inp out M0)) n) 0 0 (me_A z0) := by
  refine me_open (by decide) (Nat.le_of_ble_eq_true rfl) ?_
  intro p e s m args below meth c ls hC hr hlk hnm hM hl
  have hl : lv_has ls 2 [(0, .ref bo), (1, .int (nI k))] := hl
  have hx := hC.1
  have hb := hC.2.1
  have hw := hC.2.2.2.2.1
  obtain ⟨hS, hS0, hB, hB0, hL, hL0, hP, hP0, hwb, hwl⟩ := id hW
  have hP2 : rvG k g 5 = nI P := (upd_n (by omega)).trans hP
  refine lv_iload_n hx hb dX7_revokePermit_0 rfl (lv_at hl 1 rfl) ?_
  refine lv_if_lt (tgt := 15) hx hb dX7_revokePermit_1 (by decide) (fun c_1 => ?_) (fun c_1 => ?_)
  · have c_1 := (br_lt rfl (show (0 : Int32) = nI 0 from rfl) (by omega) (by omega)).mp c_1
    first | exact absurd hst c_1 | (exfalso; omega)
  · have c_1 := (not_congr (br_lt rfl (show (0 : Int32) = nI 0 from rfl) (by omega) (by omega))).mp c_1
    refine lv_iload_n hx hb dX7_revokePermit_4 rfl (lv_at hl 1 rfl) ?_
    refine lv_aload_n hx hb dX7_revokePermit_5 rfl (lv_at hl 0 rfl) ?_
    refine fg_X7_71 hC hM (bq_at h_b) rfl dX7_revokePermit_6 ?_
    refine fg_X7_133 hC hM (sp_st _ _ _ _) rfl dX7_revokePermit_9 ?_
    refine lv_icmp_lt (tgt := 26) hx hb dX7_revokePermit_12 (by decide) (fun c_2 => ?_) (fun c_2 => ?_)
    · have c_2 := (br_lt rfl hP (by omega) (by omega)).mp c_2
      refine lv_aload_n hx hb dX7_revokePermit_26 rfl (lv_at hl 0 rfl) ?_
      refine fg_X7_71 hC hM (bq_at h_b) rfl dX7_revokePermit_27 ?_
      refine fg_X7_291 hC hM (sp_st _ _ _ _) rfl dX7_revokePermit_30 ?_
      refine lv_iload_n hx hb dX7_revokePermit_33 rfl (lv_at hl 1 rfl) ?_
      refine me_aald (k := k) hC hM (sp_a4 _ _ _ _) (t0 := 9) rfl rfl (by omega) (by decide) (sp_arr_at (by omega)) dX7_revokePermit_34 ?_
      refine fg_X7_295 hC hM (sp_permit _ _ _ _ (by omega)) rfl dX7_revokePermit_35 ?_
      refine lv_if_eq (tgt := 52) hx hb dX7_revokePermit_38 (by decide) (fun c_3 => ?_) (fun c_3 => ?_)
      · refine lv_aload_n hx hb dX7_revokePermit_52 rfl (lv_at hl 0 rfl) ?_
        refine fg_X7_19 hC hM (bq_at h_b) rfl dX7_revokePermit_53 ?_
        refine lv_aload_n hx hb dX7_revokePermit_56 rfl (lv_at hl 0 rfl) ?_
        refine fg_X7_71 hC hM (bq_at h_b) rfl dX7_revokePermit_57 ?_
        refine me_callVv (As := [.ref (bo + 722)]) (rest := []) hC hl.1 hM (c_X1_record l D tb X z0 n bo g G F sf inp out M0 S B L P nx ct hW hnx hnx0 hct hct0) (kv_X7_260 hw rfl rfl ⟨Nat.le_of_ble_eq_true rfl, Nat.le_of_ble_eq_true rfl⟩) rfl rfl (bq_at h_h) rfl (Nat.le_of_ble_eq_true rfl) dX7_revokePermit_60 ⟨Nat.le_of_ble_eq_true rfl, Nat.le_of_ble_eq_true rfl⟩ (fun H locs hM => ?_)
        refine lv_aload_n hx hb dX7_revokePermit_63 rfl (lv_at hl 0 rfl) ?_
        refine fg_X7_71 hC hM (bq_at h_b) rfl dX7_revokePermit_64 ?_
        refine fg_X7_291 hC hM (sp_st _ _ _ _) rfl dX7_revokePermit_67 ?_
        refine lv_iload_n hx hb dX7_revokePermit_70 rfl (lv_at hl 1 rfl) ?_
        refine me_aald (k := k) hC hM (sp_a4 _ _ _ _) (t0 := 9) rfl rfl (by omega) (by decide) (sp_arr_at (by omega)) dX7_revokePermit_71 ?_
        refine lv_iconst (v := 1) hx hb dX7_revokePermit_72 (by decide) ?_
        refine fp_X7_295 hC hM (sp_permit _ _ _ _ (by omega)) (Nat.le_of_ble_eq_true rfl) (by first | rfl | decide) (by first | rfl | decide) (M2 := sp tb (bo + 722) (upd g (221 + 4 * k + 3) 1) (bq tb bo (recG G g S B L P nx) (recF F nx ct) sf inp out M0)) (sp_w_permit (k := k) 3 (by omega) (by decide) (by simp [upd, bz])) dX7_revokePermit_73 (fun H locs hM => ?_)
        refine lv_aload_n hx hb dX7_revokePermit_76 rfl (lv_at hl 0 rfl) ?_
        refine fg_X7_71 hC hM (bq_at h_b) rfl dX7_revokePermit_77 ?_
        refine me_callVi (As := []) (rest := []) hC hl.1 hM (c_X5_validPermits l D tb X z0 n (bo + 722) (rvG k g) (bq tb bo (recG G g S B L P nx) (recF F nx ct) sf inp out M0) P hP2 hP0) (kv_X7_303 hw rfl rfl ⟨Nat.le_of_ble_eq_true rfl, Nat.le_of_ble_eq_true rfl⟩) rfl rfl (sp_st _ _ _ _) rfl (Nat.le_of_ble_eq_true rfl) dX7_revokePermit_80 ⟨Nat.le_of_ble_eq_true rfl, Nat.le_of_ble_eq_true rfl⟩ (fun H locs hM => ?_)
        exact me_iret hC hr hlk hM (by first | rfl | simp [c_1, c_2, c_3]) (rfl) (rfl) dX7_revokePermit_83
      · first | exact absurd hst c_3 | (exfalso; omega)
    · have c_2 := (not_congr (br_lt rfl hP (by omega) (by omega))).mp c_2
      first | exact absurd hst c_2 | (exfalso; omega)
set_option maxHeartbeats 4000000 in
theorem c_X7_revokePermit_x1 (l : Launch) (D : va_G) (tb : Nat → ClassId) (X : State → Prop) (z0 n : Nat) (bo : Nat) (g : Nat → Int32) (G : Nat → Nat → Int32) (F sf inp out : Nat → Int32) (M0 : me_M) (S B L P : Nat) (x : Int32)  (hfl : l.stackTraces = false) (hXs : ∀ U, X U → me_xs z0 U) (hW : wf g S B L P) (hbad : x < 0 ∨ g 5 ≤ x) : vx_Met l yX7_revokePermit (.code yX7_revokePermit cX7_revokePermit 2 (some .int) :: ws_all) ({ frames := 6, cells := 1, slots := 6, locals := 90 } : Room) (me_Pc [.ref bo, .int x] D tb X z0 (sp tb (bo + 722) g (bq tb bo G F sf inp out M0)) n) me_no (me_XC D z0 (sp tb (bo + 722) g (bq tb bo G F sf inp out M0)) "java/lang/IndexOutOfBoundsException") 1 6 (me_A z0) := by
  refine me_openX (by decide) (Nat.le_of_ble_eq_true rfl) ?_
  intro p e s m args below meth c ls hC ht hlk hM hl
  have hl : lv_has ls 2 [(0, .ref bo), (1, .int x)] := hl
  have hx := hC.1
  have hb := hC.2.1
  have hw := hC.2.2.2.2.1
  refine lv_iload_n hx hb dX7_revokePermit_0 rfl (lv_at hl 1 rfl) ?_
  refine lv_if_lt (tgt := 15) hx hb dX7_revokePermit_1 (by decide) (fun c_1 => ?_) (fun c_1 => ?_)
  · have c_1q := Int32.not_le.mpr c_1
    exact me_throwW (ic := 89) hC hl.1 hM ht hlk (hXs s hC.2.2.2.2.2.1.2) hfl (by decide +kernel) xn_f w_577 w_25 xg_I xb_I xo_I (str_827) dX7_revokePermit_15 dX7_revokePermit_18 dX7_revokePermit_19 dX7_revokePermit_22 dX7_revokePermit_25 (Nat.le_of_ble_eq_true rfl) (Nat.le_of_ble_eq_true rfl) (Nat.le_of_ble_eq_true rfl) (Nat.le_of_ble_eq_true rfl) (Nat.le_of_ble_eq_true rfl) (Nat.le_of_ble_eq_true rfl)
  · have c_1q := Int32.not_lt.mp c_1
    refine lv_iload_n hx hb dX7_revokePermit_4 rfl (lv_at hl 1 rfl) ?_
    refine lv_aload_n hx hb dX7_revokePermit_5 rfl (lv_at hl 0 rfl) ?_
    refine fg_X7_71 hC hM (bq_at h_b) rfl dX7_revokePermit_6 ?_
    refine fg_X7_133 hC hM (sp_st _ _ _ _) rfl dX7_revokePermit_9 ?_
    refine lv_icmp_lt (tgt := 26) hx hb dX7_revokePermit_12 (by decide) (fun c_2 => ?_) (fun c_2 => ?_)
    · have c_2q := Int32.not_le.mpr c_2
      exact hbad.elim (fun h => absurd h c_1) (fun h => absurd c_2 (Int32.not_lt.mpr h))
    · have c_2q := Int32.not_lt.mp c_2
      exact me_throwW (ic := 89) hC hl.1 hM ht hlk (hXs s hC.2.2.2.2.2.1.2) hfl (by decide +kernel) xn_f w_577 w_25 xg_I xb_I xo_I (str_827) dX7_revokePermit_15 dX7_revokePermit_18 dX7_revokePermit_19 dX7_revokePermit_22 dX7_revokePermit_25 (Nat.le_of_ble_eq_true rfl) (Nat.le_of_ble_eq_true rfl) (Nat.le_of_ble_eq_true rfl) (Nat.le_of_ble_eq_true rfl) (Nat.le_of_ble_eq_true rfl) (Nat.le_of_ble_eq_true rfl)
set_option maxHeartbeats 4000000 in
theorem c_X7_revokePermit_x2 (l : Launch) (D : va_G) (tb : Nat → ClassId) (X : State → Prop) (z0 n : Nat) (bo : Nat) (g : Nat → Int32) (G : Nat → Nat → Int32) (F sf inp out : Nat → Int32) (M0 : me_M) (S B L P : Nat) (k : Nat)  (hfl : l.stackTraces = false) (hXs : ∀ U, X U → me_xs z0 U) (hW : wf g S B L P) (hk : k < P) (hst : ¬ bz (g (221 + 4 * k + 3)) = 0) : vx_Met l yX7_revokePermit (.code yX7_revokePermit cX7_revokePermit 2 (some .int) :: ws_all) ({ frames := 6, cells := 1, slots := 6, locals := 90 } : Room) (me_Pc [.ref bo, .int (nI k)] D tb X z0 (sp tb (bo + 722) g (bq tb bo G F sf inp out M0)) n) me_no (me_XC D z0 (sp tb (bo + 722) g (bq tb bo G F sf inp out M0)) "java/lang/IllegalStateException") 1 6 (me_A z0) := by
  refine me_openX (by decide) (Nat.le_of_ble_eq_true rfl) ?_
  intro p e s m args below meth c ls hC ht hlk hM hl
  have hl : lv_has ls 2 [(0, .ref bo), (1, .int (nI k))] := hl
  have hx := hC.1
  have hb := hC.2.1
  have hw := hC.2.2.2.2.1
  obtain ⟨hS, hS0, hB, hB0, hL, hL0, hP, hP0, hwb, hwl⟩ := id hW
  refine lv_iload_n hx hb dX7_revokePermit_0 rfl (lv_at hl 1 rfl) ?_
  refine lv_if_lt (tgt := 15) hx hb dX7_revokePermit_1 (by decide) (fun c_1 => ?_) (fun c_1 => ?_)
  · have c_1 := (br_lt rfl (show (0 : Int32) = nI 0 from rfl) (by omega) (by omega)).mp c_1
    exfalso; omega
  · have c_1 := (not_congr (br_lt rfl (show (0 : Int32) = nI 0 from rfl) (by omega) (by omega))).mp c_1
    refine lv_iload_n hx hb dX7_revokePermit_4 rfl (lv_at hl 1 rfl) ?_
    refine lv_aload_n hx hb dX7_revokePermit_5 rfl (lv_at hl 0 rfl) ?_
    refine fg_X7_71 hC hM (bq_at h_b) rfl dX7_revokePermit_6 ?_
    refine fg_X7_133 hC hM (sp_st _ _ _ _) rfl dX7_revokePermit_9 ?_
    refine lv_icmp_lt (tgt := 26) hx hb dX7_revokePermit_12 (by decide) (fun c_2 => ?_) (fun c_2 => ?_)
    · have c_2 := (br_lt rfl hP (by omega) (by omega)).mp c_2
      refine lv_aload_n hx hb dX7_revokePermit_26 rfl (lv_at hl 0 rfl) ?_
      refine fg_X7_71 hC hM (bq_at h_b) rfl dX7_revokePermit_27 ?_
      refine fg_X7_291 hC hM (sp_st _ _ _ _) rfl dX7_revokePermit_30 ?_
      refine lv_iload_n hx hb dX7_revokePermit_33 rfl (lv_at hl 1 rfl) ?_
      refine me_aald (k := k) hC hM (sp_a4 _ _ _ _) (t0 := 9) rfl rfl (by omega) (by decide) (sp_arr_at (by omega)) dX7_revokePermit_34 ?_
      refine fg_X7_295 hC hM (sp_permit _ _ _ _ (by omega)) rfl dX7_revokePermit_35 ?_
      refine lv_if_eq (tgt := 52) hx hb dX7_revokePermit_38 (by decide) (fun c_3 => ?_) (fun c_3 => ?_)
      · exact absurd c_3 hst
      · exact me_throwW (ic := 78) hC hl.1 hM ht hlk (hXs s hC.2.2.2.2.2.1.2) hfl (by decide +kernel) xn_f w_644 w_24 xg_S xb_S xo_S (str_828) dX7_revokePermit_41 dX7_revokePermit_44 dX7_revokePermit_45 dX7_revokePermit_48 dX7_revokePermit_51 (Nat.le_of_ble_eq_true rfl) (Nat.le_of_ble_eq_true rfl) (Nat.le_of_ble_eq_true rfl) (Nat.le_of_ble_eq_true rfl) (Nat.le_of_ble_eq_true rfl) (Nat.le_of_ble_eq_true rfl)
    · have c_2 := (not_congr (br_lt rfl hP (by omega) (by omega))).mp c_2
      exfalso; omega
set_option maxHeartbeats 4000000 in
theorem c_X7_pay (l : Launch) (D : va_G) (tb : Nat → ClassId) (X : State → Prop) (z0 n : Nat) (bo : Nat) (g : Nat → Int32) (G : Nat → Nat → Int32) (F sf inp out : Nat → Int32) (M0 : me_M) (S B L P : Nat) (nx ct : Nat) (b n9 : Nat)  (hW : wf g S B L P) (hnx : F 4 = nI nx) (hnx0 : nx < 10) (hct : F 5 = nI ct) (hct0 : ct ≤ 10) (hb9 : b < B) (hn1 : 1 ≤ n9) (hn2 : n9 ≤ 999) : Met l yX7_pay (.code yX7_pay cX7_pay 3 (some .int) :: ws_all) ({ frames := 3, cells := 0, slots := 0, locals := 64 } : Room) (me_Pc [.ref bo, .int (nI b), .int (nI n9)] D tb X z0 (sp tb (bo + 722) g (bq tb bo G F sf inp out M0)) n) (me_Qi D z0 (g (89 + 11 * b + 2) + nI n9) (sp tb (bo + 722) (pyG b (nI n9) g) (bq tb bo (recG G g S B L P nx) (recF F nx ct) sf inp out M0)) n) 0 0 (me_A z0) := by
  refine me_open (by decide) (Nat.le_of_ble_eq_true rfl) ?_
  intro p e s m args below meth c ls hC hr hlk hnm hM hl
  have hl : lv_has ls 3 [(0, .ref bo), (1, .int (nI b)), (2, .int (nI n9))] := hl
  have hx := hC.1
  have hb := hC.2.1
  have hw := hC.2.2.2.2.1
  obtain ⟨hS, hS0, hB, hB0, hL, hL0, hP, hP0, hwb, hwl⟩ := id hW
  refine lv_aload_n hx hb dX7_pay_0 rfl (lv_at hl 0 rfl) ?_
  refine lv_iload_n hx hb dX7_pay_1 rfl (lv_at hl 1 rfl) ?_
  refine me_callVv (As := [.int (nI b)]) (rest := []) hC hl.1 hM (c_X7_needBorrower l D tb X z0 n bo g G F sf inp out M0 S B L P b hW (by omega)) (kv_X7_167 hw rfl rfl ⟨Nat.le_of_ble_eq_true rfl, Nat.le_of_ble_eq_true rfl⟩) rfl rfl (bq_at h_b) rfl (Nat.le_of_ble_eq_true rfl) dX7_pay_2 ⟨Nat.le_of_ble_eq_true rfl, Nat.le_of_ble_eq_true rfl⟩ (fun H locs hM => ?_)
  refine lv_iload_n hx hb dX7_pay_5 rfl (lv_at hl 2 rfl) ?_
  refine lv_iconst (v := 1) hx hb dX7_pay_6 (by decide) ?_
  refine lv_icmp_lt (tgt := 17) hx hb dX7_pay_7 (by decide) (fun c_1 => ?_) (fun c_1 => ?_)
  · have c_1 := (br_lt rfl (show (1 : Int32) = nI 1 from rfl) (by omega) (by omega)).mp c_1
    exfalso; omega
  · have c_1 := (not_congr (br_lt rfl (show (1 : Int32) = nI 1 from rfl) (by omega) (by omega))).mp c_1
    refine lv_iload_n hx hb dX7_pay_10 rfl (lv_at hl 2 rfl) ?_
    refine lv_sipush (v := 999) hx hb dX7_pay_11 (by decide) ?_
    refine lv_icmp_le (tgt := 28) hx hb dX7_pay_14 (by decide) (fun c_2 => ?_) (fun c_2 => ?_)
    · have c_2 := (br_le rfl (nx_c 999) (by omega) (by omega)).mp c_2
      refine lv_aload_n hx hb dX7_pay_28 rfl (lv_at hl 0 rfl) ?_
      refine fg_X7_19 hC hM (bq_at h_b) rfl dX7_pay_29 ?_
      refine lv_aload_n hx hb dX7_pay_32 rfl (lv_at hl 0 rfl) ?_
      refine fg_X7_71 hC hM (bq_at h_b) rfl dX7_pay_33 ?_
      refine me_callVv (As := [.ref (bo + 722)]) (rest := []) hC hl.1 hM (c_X1_record l D tb X z0 n bo g G F sf inp out M0 S B L P nx ct hW hnx hnx0 hct hct0) (kv_X7_260 hw rfl rfl ⟨Nat.le_of_ble_eq_true rfl, Nat.le_of_ble_eq_true rfl⟩) rfl rfl (bq_at h_h) rfl (Nat.le_of_ble_eq_true rfl) dX7_pay_36 ⟨Nat.le_of_ble_eq_true rfl, Nat.le_of_ble_eq_true rfl⟩ (fun H locs hM => ?_)
      refine lv_aload_n hx hb dX7_pay_39 rfl (lv_at hl 0 rfl) ?_
      refine fg_X7_71 hC hM (bq_at h_b) rfl dX7_pay_40 ?_
      refine fg_X7_170 hC hM (sp_st _ _ _ _) rfl dX7_pay_43 ?_
      refine lv_iload_n hx hb dX7_pay_46 rfl (lv_at hl 1 rfl) ?_
      refine me_aald (k := b) hC hM (sp_a2 _ _ _ _) (t0 := 7) rfl rfl (by omega) (by decide) (sp_arr_at (by omega)) dX7_pay_47 ?_
      refine lv_dup hx hb dX7_pay_48 rfl ?_
      refine fg_X7_182 hC hM (sp_borrower _ _ _ _ (by omega)) rfl dX7_pay_49 ?_
      refine lv_iload_n hx hb dX7_pay_52 rfl (lv_at hl 2 rfl) ?_
      refine lv_iadd hx hb dX7_pay_53 ?_
      refine fp_X7_182 hC hM (sp_borrower _ _ _ _ (by omega)) (Nat.le_of_ble_eq_true rfl) (M2 := sp tb (bo + 722) (upd g (89 + 11 * b + 2) ((g (89 + 11 * b + 2)) + (nI n9))) (bq tb bo (recG G g S B L P nx) (recF F nx ct) sf inp out M0)) (sp_w_borrower (k := b) 2 (by omega) (by decide) (by simp [upd])) dX7_pay_54 (fun H locs hM => ?_)
      refine lv_aload_n hx hb dX7_pay_57 rfl (lv_at hl 0 rfl) ?_
      refine fg_X7_71 hC hM (bq_at h_b) rfl dX7_pay_58 ?_
      refine lv_dup hx hb dX7_pay_61 rfl ?_
      refine fg_X7_308 hC hM (sp_st _ _ _ _) rfl dX7_pay_62 ?_
      refine me_evi (y := g 7) (upd_n (by omega)) ?_
      refine lv_iload_n hx hb dX7_pay_65 rfl (lv_at hl 2 rfl) ?_
      refine lv_iadd hx hb dX7_pay_66 ?_
      refine fp_X7_308 hC hM (sp_st _ _ _ _) (Nat.le_of_ble_eq_true rfl) (M2 := sp tb (bo + 722) (upd (upd g (89 + 11 * b + 2) ((g (89 + 11 * b + 2)) + (nI n9))) (7) ((g 7) + (nI n9))) (bq tb bo (recG G g S B L P nx) (recF F nx ct) sf inp out M0)) (sp_w_st 7 (by decide) (by simp [upd])) dX7_pay_67 (fun H locs hM => ?_)
      refine lv_aload_n hx hb dX7_pay_70 rfl (lv_at hl 0 rfl) ?_
      refine fg_X7_71 hC hM (bq_at h_b) rfl dX7_pay_71 ?_
      refine fg_X7_170 hC hM (sp_st _ _ _ _) rfl dX7_pay_74 ?_
      refine lv_iload_n hx hb dX7_pay_77 rfl (lv_at hl 1 rfl) ?_
      refine me_aald (k := b) hC hM (sp_a2 _ _ _ _) (t0 := 7) rfl rfl (by omega) (by decide) (sp_arr_at (by omega)) dX7_pay_78 ?_
      refine fg_X7_182 hC hM (sp_borrower _ _ _ _ (by omega)) rfl dX7_pay_79 ?_
      refine me_evi (y := (g (89 + 11 * b + 2)) + (nI n9)) ((upd_n (by omega)).trans (upd_s _ _ _)) ?_
      exact me_iret hC hr hlk hM (by first | rfl | simp [c_1, c_2]) (rfl) (rfl) dX7_pay_82
    · have c_2 := (not_congr (br_le rfl (nx_c 999) (by omega) (by omega))).mp c_2
      exfalso; omega
set_option maxHeartbeats 4000000 in
theorem c_X7_pay_x1 (l : Launch) (D : va_G) (tb : Nat → ClassId) (X : State → Prop) (z0 n : Nat) (bo : Nat) (g : Nat → Int32) (G : Nat → Nat → Int32) (F sf inp out : Nat → Int32) (M0 : me_M) (S B L P : Nat) (x : Int32) (y9 : Int32)  (hfl : l.stackTraces = false) (hXs : ∀ U, X U → me_xs z0 U) (hbad : x < 0 ∨ g 4 ≤ x) : vx_Met l yX7_pay (.code yX7_pay cX7_pay 3 (some .int) :: ws_all) ({ frames := 7, cells := 1, slots := 6, locals := 111 } : Room) (me_Pc [.ref bo, .int x, .int y9] D tb X z0 (sp tb (bo + 722) g (bq tb bo G F sf inp out M0)) n) me_no (me_XC D z0 (sp tb (bo + 722) g (bq tb bo G F sf inp out M0)) "java/lang/IndexOutOfBoundsException") 1 6 (me_A z0) := by
  refine me_openX (by decide) (Nat.le_of_ble_eq_true rfl) ?_
  intro p e s m args below meth c ls hC ht hlk hM hl
  have hl : lv_has ls 3 [(0, .ref bo), (1, .int x), (2, .int y9)] := hl
  have hx := hC.1
  have hb := hC.2.1
  have hw := hC.2.2.2.2.1
  refine lv_aload_n hx hb dX7_pay_0 rfl (lv_at hl 0 rfl) ?_
  refine lv_iload_n hx hb dX7_pay_1 rfl (lv_at hl 1 rfl) ?_
  exact me_xV (As := [.int x]) (rest := []) hC hl.1 hM (c_X7_needBorrower_x l D tb X z0 n bo g G F sf inp out M0 S B L P x hfl hXs hbad) (kv_X7_167 hw rfl rfl ⟨Nat.le_of_ble_eq_true rfl, Nat.le_of_ble_eq_true rfl⟩) rfl rfl (bq_at h_b) rfl (Nat.le_of_ble_eq_true rfl) dX7_pay_2 ⟨Nat.le_of_ble_eq_true rfl, Nat.le_of_ble_eq_true rfl⟩ ht hlk (Nat.le_of_ble_eq_true rfl) (Nat.le_of_ble_eq_true rfl)
set_option maxHeartbeats 4000000 in
theorem c_X7_pay_x2 (l : Launch) (D : va_G) (tb : Nat → ClassId) (X : State → Prop) (z0 n : Nat) (bo : Nat) (g : Nat → Int32) (G : Nat → Nat → Int32) (F sf inp out : Nat → Int32) (M0 : me_M) (S B L P : Nat) (b : Nat) (x : Int32)  (hfl : l.stackTraces = false) (hXs : ∀ U, X U → me_xs z0 U) (hW : wf g S B L P) (hb9 : b < B) (hbad : x < 1 ∨ 999 < x) : vx_Met l yX7_pay (.code yX7_pay cX7_pay 3 (some .int) :: ws_all) ({ frames := 6, cells := 1, slots := 6, locals := 90 } : Room) (me_Pc [.ref bo, .int (nI b), .int x] D tb X z0 (sp tb (bo + 722) g (bq tb bo G F sf inp out M0)) n) me_no (me_XC D z0 (sp tb (bo + 722) g (bq tb bo G F sf inp out M0)) "java/lang/IllegalArgumentException") 1 6 (me_A z0) := by
  refine me_openX (by decide) (Nat.le_of_ble_eq_true rfl) ?_
  intro p e s m args below meth c ls hC ht hlk hM hl
  have hl : lv_has ls 3 [(0, .ref bo), (1, .int (nI b)), (2, .int x)] := hl
  have hx := hC.1
  have hb := hC.2.1
  have hw := hC.2.2.2.2.1
  obtain ⟨hS, hS0, hB, hB0, hL, hL0, hP, hP0, hwb, hwl⟩ := id hW
  refine lv_aload_n hx hb dX7_pay_0 rfl (lv_at hl 0 rfl) ?_
  refine lv_iload_n hx hb dX7_pay_1 rfl (lv_at hl 1 rfl) ?_
  refine me_callVv (As := [.int (nI b)]) (rest := []) hC hl.1 hM (c_X7_needBorrower l D tb X z0 n bo g G F sf inp out M0 S B L P b hW (by omega)) (kv_X7_167 hw rfl rfl ⟨Nat.le_of_ble_eq_true rfl, Nat.le_of_ble_eq_true rfl⟩) rfl rfl (bq_at h_b) rfl (Nat.le_of_ble_eq_true rfl) dX7_pay_2 ⟨Nat.le_of_ble_eq_true rfl, Nat.le_of_ble_eq_true rfl⟩ (fun H locs hM => ?_)
  refine lv_iload_n hx hb dX7_pay_5 rfl (lv_at hl 2 rfl) ?_
  refine lv_iconst (v := 1) hx hb dX7_pay_6 (by decide) ?_
  refine lv_icmp_lt (tgt := 17) hx hb dX7_pay_7 (by decide) (fun c_1 => ?_) (fun c_1 => ?_)
  · have c_1q := Int32.not_le.mpr c_1
    exact me_throwW (ic := 103) hC hl.1 hM ht hlk (hXs s hC.2.2.2.2.2.1.2) hfl (by decide +kernel) xn_f w_722 w_23 xg_A xb_A xo_A (str_840) dX7_pay_17 dX7_pay_20 dX7_pay_21 dX7_pay_24 dX7_pay_27 (Nat.le_of_ble_eq_true rfl) (Nat.le_of_ble_eq_true rfl) (Nat.le_of_ble_eq_true rfl) (Nat.le_of_ble_eq_true rfl) (Nat.le_of_ble_eq_true rfl) (Nat.le_of_ble_eq_true rfl)
  · have c_1q := Int32.not_lt.mp c_1
    refine lv_iload_n hx hb dX7_pay_10 rfl (lv_at hl 2 rfl) ?_
    refine lv_sipush (v := 999) hx hb dX7_pay_11 (by decide) ?_
    refine lv_icmp_le (tgt := 28) hx hb dX7_pay_14 (by decide) (fun c_2 => ?_) (fun c_2 => ?_)
    · have c_2q := c_2
      have c_2 := Int32.not_lt.mpr c_2
      exact hbad.elim (fun h => absurd h c_1) (fun h => absurd h c_2)
    · have c_2q := c_2
      have c_2 := Int32.not_le.mp c_2
      exact me_throwW (ic := 103) hC hl.1 hM ht hlk (hXs s hC.2.2.2.2.2.1.2) hfl (by decide +kernel) xn_f w_722 w_23 xg_A xb_A xo_A (str_840) dX7_pay_17 dX7_pay_20 dX7_pay_21 dX7_pay_24 dX7_pay_27 (Nat.le_of_ble_eq_true rfl) (Nat.le_of_ble_eq_true rfl) (Nat.le_of_ble_eq_true rfl) (Nat.le_of_ble_eq_true rfl) (Nat.le_of_ble_eq_true rfl) (Nat.le_of_ble_eq_true rfl)
set_option maxHeartbeats 4000000 in
theorem c_X7_advance (l : Launch) (D : va_G) (tb : Nat → ClassId) (X : State → Prop) (z0 n : Nat) (bo : Nat) (g : Nat → Int32) (G : Nat → Nat → Int32) (F sf inp out : Nat → Int32) (M0 : me_M) (S B L P : Nat) (T : Nat) (nx ct : Nat) (hN : ∀ U, X U → me_nest U) (n9 : Nat)  (hW : wf g S B L P) (hT : g 2 = nI T) (hT0 : T ≤ 10000) (hnx : F 4 = nI nx) (hnx0 : nx < 10) (hct : F 5 = nI ct) (hct0 : ct ≤ 10) (hn1 : 1 ≤ n9) (hn2 : n9 ≤ 99) (hTn : T + n9 ≤ 9999) : Met l yX7_advance (.code yX7_advance cX7_advance 2 (some .int) :: ws_all) ({ frames := 5, cells := 0, slots := 0, locals := 114 } : Room) (me_Pc [.ref bo, .int (nI n9)] D tb X z0 (sp tb (bo + 722) g (bq tb bo G F sf inp out M0)) n) (me_Qi D z0 (nI (paN S B L P n9 g)) (sp tb (bo + 722) (paG S B L P n9 g) (bq tb bo (recG G g S B L P nx) (recF F nx ct) sf inp out M0)) n) 0 0 (me_A z0) := by
  refine me_open (by decide) (Nat.le_of_ble_eq_true rfl) ?_
  intro p e s m args below meth c ls hC hr hlk hnm hM hl
  have hl : lv_has ls 2 [(0, .ref bo), (1, .int (nI n9))] := hl
  have hx := hC.1
  have hb := hC.2.1
  have hw := hC.2.2.2.2.1
  obtain ⟨hS, hS0, hB, hB0, hL, hL0, hP, hP0, hwb, hwl⟩ := id hW
  refine lv_iload_n hx hb dX7_advance_0 rfl (lv_at hl 1 rfl) ?_
  refine lv_iconst (v := 1) hx hb dX7_advance_1 (by decide) ?_
  refine lv_icmp_lt (tgt := 11) hx hb dX7_advance_2 (by decide) (fun c_1 => ?_) (fun c_1 => ?_)
  · have c_1 := (br_lt rfl (show (1 : Int32) = nI 1 from rfl) (by omega) (by omega)).mp c_1
    exfalso; omega
  · have c_1 := (not_congr (br_lt rfl (show (1 : Int32) = nI 1 from rfl) (by omega) (by omega))).mp c_1
    refine lv_iload_n hx hb dX7_advance_5 rfl (lv_at hl 1 rfl) ?_
    refine lv_bipush (v := 99) hx hb dX7_advance_6 (by decide) ?_
    refine lv_icmp_le (tgt := 21) hx hb dX7_advance_8 (by decide) (fun c_2 => ?_) (fun c_2 => ?_)
    · have c_2 := (br_le rfl (nx_c 99) (by omega) (by omega)).mp c_2
      refine lv_aload_n hx hb dX7_advance_21 rfl (lv_at hl 0 rfl) ?_
      refine fg_X7_71 hC hM (bq_at h_b) rfl dX7_advance_22 ?_
      refine fg_X7_114 hC hM (sp_st _ _ _ _) rfl dX7_advance_25 ?_
      refine lv_iload_n hx hb dX7_advance_28 rfl (lv_at hl 1 rfl) ?_
      refine lv_iadd hx hb dX7_advance_29 ?_
      refine lv_sipush (v := 9999) hx hb dX7_advance_30 (by decide) ?_
      refine lv_icmp_le (tgt := 47) hx hb dX7_advance_33 (by decide) (fun c_3 => ?_) (fun c_3 => ?_)
      · have c_3 := (br_le (nx_add hT rfl) (nx_c 9999) (by omega) (by omega)).mp c_3
        refine lv_aload_n hx hb dX7_advance_47 rfl (lv_at hl 0 rfl) ?_
        refine fg_X7_19 hC hM (bq_at h_b) rfl dX7_advance_48 ?_
        refine lv_aload_n hx hb dX7_advance_51 rfl (lv_at hl 0 rfl) ?_
        refine fg_X7_71 hC hM (bq_at h_b) rfl dX7_advance_52 ?_
        refine me_callVv (As := [.ref (bo + 722)]) (rest := []) hC hl.1 hM (c_X1_record l D tb X z0 n bo g G F sf inp out M0 S B L P nx ct hW hnx hnx0 hct hct0) (kv_X7_260 hw rfl rfl ⟨Nat.le_of_ble_eq_true rfl, Nat.le_of_ble_eq_true rfl⟩) rfl rfl (bq_at h_h) rfl (Nat.le_of_ble_eq_true rfl) dX7_advance_55 ⟨Nat.le_of_ble_eq_true rfl, Nat.le_of_ble_eq_true rfl⟩ (fun H locs hM => ?_)
        refine lv_aload_n hx hb dX7_advance_58 rfl (lv_at hl 0 rfl) ?_
        refine fg_X7_71 hC hM (bq_at h_b) rfl dX7_advance_59 ?_
        refine lv_iload_n hx hb dX7_advance_62 rfl (lv_at hl 1 rfl) ?_
        refine me_callVi (As := [.int (nI n9)]) (rest := []) hC hl.1 hM (c_X5_passHours l D tb X z0 n (bo + 722) g (bq tb bo (recG G g S B L P nx) (recF F nx ct) sf inp out M0) S B L P n9 hN hW (by omega)) (kv_X7_313 hw rfl rfl ⟨Nat.le_of_ble_eq_true rfl, Nat.le_of_ble_eq_true rfl⟩) rfl rfl (sp_st _ _ _ _) rfl (Nat.le_of_ble_eq_true rfl) dX7_advance_63 ⟨Nat.le_of_ble_eq_true rfl, Nat.le_of_ble_eq_true rfl⟩ (fun H locs hM => ?_)
        exact me_iret hC hr hlk hM (by first | rfl | simp [c_1, c_2, c_3]) (rfl) (rfl) dX7_advance_66
      · have c_3 := (not_congr (br_le (nx_add hT rfl) (nx_c 9999) (by omega) (by omega))).mp c_3
        exfalso; omega
    · have c_2 := (not_congr (br_le rfl (nx_c 99) (by omega) (by omega))).mp c_2
      exfalso; omega
set_option maxHeartbeats 4000000 in
theorem c_X7_advance_x1 (l : Launch) (D : va_G) (tb : Nat → ClassId) (X : State → Prop) (z0 n : Nat) (bo : Nat) (g : Nat → Int32) (G : Nat → Nat → Int32) (F sf inp out : Nat → Int32) (M0 : me_M) (S B L P : Nat) (x : Int32)  (hfl : l.stackTraces = false) (hXs : ∀ U, X U → me_xs z0 U) (hW : wf g S B L P) (hbad : x < 1 ∨ 99 < x) : vx_Met l yX7_advance (.code yX7_advance cX7_advance 2 (some .int) :: ws_all) ({ frames := 6, cells := 1, slots := 6, locals := 90 } : Room) (me_Pc [.ref bo, .int x] D tb X z0 (sp tb (bo + 722) g (bq tb bo G F sf inp out M0)) n) me_no (me_XC D z0 (sp tb (bo + 722) g (bq tb bo G F sf inp out M0)) "java/lang/IllegalArgumentException") 1 6 (me_A z0) := by
  refine me_openX (by decide) (Nat.le_of_ble_eq_true rfl) ?_
  intro p e s m args below meth c ls hC ht hlk hM hl
  have hl : lv_has ls 2 [(0, .ref bo), (1, .int x)] := hl
  have hx := hC.1
  have hb := hC.2.1
  have hw := hC.2.2.2.2.1
  obtain ⟨hS, hS0, hB, hB0, hL, hL0, hP, hP0, hwb, hwl⟩ := id hW
  refine lv_iload_n hx hb dX7_advance_0 rfl (lv_at hl 1 rfl) ?_
  refine lv_iconst (v := 1) hx hb dX7_advance_1 (by decide) ?_
  refine lv_icmp_lt (tgt := 11) hx hb dX7_advance_2 (by decide) (fun c_1 => ?_) (fun c_1 => ?_)
  · have c_1q := Int32.not_le.mpr c_1
    exact me_throw (ic := 103) hC hl.1 hM ht hlk (hXs s hC.2.2.2.2.2.1.2) hfl (by decide +kernel) xn_f w_722 w_23 xg_A xb_A xo_A (str_849) dX7_advance_11 dX7_advance_14 dX7_advance_15 dX7_advance_17 dX7_advance_20 (Nat.le_of_ble_eq_true rfl) (Nat.le_of_ble_eq_true rfl) (Nat.le_of_ble_eq_true rfl) (Nat.le_of_ble_eq_true rfl) (Nat.le_of_ble_eq_true rfl) (Nat.le_of_ble_eq_true rfl)
  · have c_1q := Int32.not_lt.mp c_1
    refine lv_iload_n hx hb dX7_advance_5 rfl (lv_at hl 1 rfl) ?_
    refine lv_bipush (v := 99) hx hb dX7_advance_6 (by decide) ?_
    refine lv_icmp_le (tgt := 21) hx hb dX7_advance_8 (by decide) (fun c_2 => ?_) (fun c_2 => ?_)
    · have c_2q := c_2
      have c_2 := Int32.not_lt.mpr c_2
      exact hbad.elim (fun h => absurd h c_1) (fun h => absurd h c_2)
    · have c_2q := c_2
      have c_2 := Int32.not_le.mp c_2
      exact me_throw (ic := 103) hC hl.1 hM ht hlk (hXs s hC.2.2.2.2.2.1.2) hfl (by decide +kernel) xn_f w_722 w_23 xg_A xb_A xo_A (str_849) dX7_advance_11 dX7_advance_14 dX7_advance_15 dX7_advance_17 dX7_advance_20 (Nat.le_of_ble_eq_true rfl) (Nat.le_of_ble_eq_true rfl) (Nat.le_of_ble_eq_true rfl) (Nat.le_of_ble_eq_true rfl) (Nat.le_of_ble_eq_true rfl) (Nat.le_of_ble_eq_true rfl)
set_option maxHeartbeats 4000000 in
theorem c_X7_advance_x2 (l : Launch) (D : va_G) (tb : Nat → ClassId) (X : State → Prop) (z0 n : Nat) (bo : Nat) (g : Nat → Int32) (G : Nat → Nat → Int32) (F sf inp out : Nat → Int32) (M0 : me_M) (S B L P : Nat) (T : Nat) (n9 : Nat)  (hfl : l.stackTraces = false) (hXs : ∀ U, X U → me_xs z0 U) (hW : wf g S B L P) (hT : g 2 = nI T) (hT0 : T ≤ 10000) (hn1 : 1 ≤ n9) (hn2 : n9 ≤ 99) (hTn : 9999 < T + n9) : vx_Met l yX7_advance (.code yX7_advance cX7_advance 2 (some .int) :: ws_all) ({ frames := 6, cells := 1, slots := 6, locals := 90 } : Room) (me_Pc [.ref bo, .int (nI n9)] D tb X z0 (sp tb (bo + 722) g (bq tb bo G F sf inp out M0)) n) me_no (me_XC D z0 (sp tb (bo + 722) g (bq tb bo G F sf inp out M0)) "java/lang/IllegalStateException") 1 6 (me_A z0) := by
  refine me_openX (by decide) (Nat.le_of_ble_eq_true rfl) ?_
  intro p e s m args below meth c ls hC ht hlk hM hl
  have hl : lv_has ls 2 [(0, .ref bo), (1, .int (nI n9))] := hl
  have hx := hC.1
  have hb := hC.2.1
  have hw := hC.2.2.2.2.1
  obtain ⟨hS, hS0, hB, hB0, hL, hL0, hP, hP0, hwb, hwl⟩ := id hW
  refine lv_iload_n hx hb dX7_advance_0 rfl (lv_at hl 1 rfl) ?_
  refine lv_iconst (v := 1) hx hb dX7_advance_1 (by decide) ?_
  refine lv_icmp_lt (tgt := 11) hx hb dX7_advance_2 (by decide) (fun c_1 => ?_) (fun c_1 => ?_)
  · have c_1 := (br_lt rfl (show (1 : Int32) = nI 1 from rfl) (by omega) (by omega)).mp c_1
    exfalso; omega
  · have c_1 := (not_congr (br_lt rfl (show (1 : Int32) = nI 1 from rfl) (by omega) (by omega))).mp c_1
    refine lv_iload_n hx hb dX7_advance_5 rfl (lv_at hl 1 rfl) ?_
    refine lv_bipush (v := 99) hx hb dX7_advance_6 (by decide) ?_
    refine lv_icmp_le (tgt := 21) hx hb dX7_advance_8 (by decide) (fun c_2 => ?_) (fun c_2 => ?_)
    · have c_2 := (br_le rfl (nx_c 99) (by omega) (by omega)).mp c_2
      refine lv_aload_n hx hb dX7_advance_21 rfl (lv_at hl 0 rfl) ?_
      refine fg_X7_71 hC hM (bq_at h_b) rfl dX7_advance_22 ?_
      refine fg_X7_114 hC hM (sp_st _ _ _ _) rfl dX7_advance_25 ?_
      refine lv_iload_n hx hb dX7_advance_28 rfl (lv_at hl 1 rfl) ?_
      refine lv_iadd hx hb dX7_advance_29 ?_
      refine lv_sipush (v := 9999) hx hb dX7_advance_30 (by decide) ?_
      refine lv_icmp_le (tgt := 47) hx hb dX7_advance_33 (by decide) (fun c_3 => ?_) (fun c_3 => ?_)
      · have c_3 := (br_le (nx_add hT rfl) (nx_c 9999) (by omega) (by omega)).mp c_3
        exfalso; omega
      · have c_3 := (not_congr (br_le (nx_add hT rfl) (nx_c 9999) (by omega) (by omega))).mp c_3
        exact me_throwW (ic := 78) hC hl.1 hM ht hlk (hXs s hC.2.2.2.2.2.1.2) hfl (by decide +kernel) xn_f w_644 w_24 xg_S xb_S xo_S (str_850) dX7_advance_36 dX7_advance_39 dX7_advance_40 dX7_advance_43 dX7_advance_46 (Nat.le_of_ble_eq_true rfl) (Nat.le_of_ble_eq_true rfl) (Nat.le_of_ble_eq_true rfl) (Nat.le_of_ble_eq_true rfl) (Nat.le_of_ble_eq_true rfl) (Nat.le_of_ble_eq_true rfl)
    · have c_2 := (not_congr (br_le rfl (nx_c 99) (by omega) (by omega))).mp c_2
      exfalso; omega
set_option maxHeartbeats 4000000 in
theorem c_X7_restore (l : Launch) (D : va_G) (tb : Nat → ClassId) (X : State → Prop) (z0 n : Nat) (bo : Nat) (g : Nat → Int32) (G : Nat → Nat → Int32) (F sf inp out : Nat → Int32) (M0 : me_M) (S B L P : Nat) (nx ct : Nat) (k S2 B2 L2 P2 : Nat)  (hW : wf g S B L P) (hnx : F 4 = nI nx) (hnx0 : nx < 10) (hct : F 5 = nI ct) (hct0 : ct ≤ 10) (hk : k < 2) (hsf : ¬ sf k = 0) (hWh : wf (G (12 + k)) S2 B2 L2 P2) : Met l yX7_restore (.code yX7_restore cX7_restore 2 (some .int) :: ws_all) ({ frames := 3, cells := 0, slots := 0, locals := 64 } : Room) (me_Pc [.ref bo, .int (nI k)] D tb X z0 (sp tb (bo + 722) g (bq tb bo G F sf inp out M0)) n) (me_Qi D z0 (cpF (recG G g S B L P nx (12 + k)) S2 B2 L2 P2 g 2) (sp tb (bo + 722) (cpF (recG G g S B L P nx (12 + k)) S2 B2 L2 P2 g) (bq tb bo (recG G g S B L P nx) (recF F nx ct) sf inp out M0)) n) 0 0 (me_A z0) := by
  refine me_open (by decide) (Nat.le_of_ble_eq_true rfl) ?_
  intro p e s m args below meth c ls hC hr hlk hnm hM hl
  have hl : lv_has ls 2 [(0, .ref bo), (1, .int (nI k))] := hl
  have hx := hC.1
  have hb := hC.2.1
  have hw := hC.2.2.2.2.1
  obtain ⟨hS, hS0, hB, hB0, hL, hL0, hP, hP0, hwb, hwl⟩ := id hW
  have hWh2 : wf (recG G g S B L P nx (12 + k)) S2 B2 L2 P2 := by unfold recG; rw [updG_n (by omega)]; exact hWh
  refine lv_iload_n hx hb dX7_restore_0 rfl (lv_at hl 1 rfl) ?_
  refine me_callSv (As := [.int (nI k)]) (rest := []) hC hl.1 hM (c_X7_needSlot l D tb X z0 n bo g G F sf inp out M0 S B L P k hW (by omega)) (ks_X7_316 hw rfl rfl ⟨Nat.le_of_ble_eq_true rfl, Nat.le_of_ble_eq_true rfl⟩) rfl rfl (Nat.le_of_ble_eq_true rfl) dX7_restore_1 ⟨Nat.le_of_ble_eq_true rfl, Nat.le_of_ble_eq_true rfl⟩ (fun H locs hM => ?_)
  refine lv_aload_n hx hb dX7_restore_4 rfl (lv_at hl 0 rfl) ?_
  refine fg_X7_27 hC hM (bq_at h_b) rfl dX7_restore_5 ?_
  refine lv_iload_n hx hb dX7_restore_8 rfl (lv_at hl 1 rfl) ?_
  refine me_zald (k := k) hC hM (bq_at h_sf) rfl (by omega) (by first | decide | omega) dX7_restore_9 ?_
  refine lv_if_ne (tgt := 24) hx hb dX7_restore_10 (by decide) (fun c_1 => ?_) (fun c_1 => ?_)
  · refine lv_aload_n hx hb dX7_restore_24 rfl (lv_at hl 0 rfl) ?_
    refine fg_X7_19 hC hM (bq_at h_b) rfl dX7_restore_25 ?_
    refine lv_aload_n hx hb dX7_restore_28 rfl (lv_at hl 0 rfl) ?_
    refine fg_X7_71 hC hM (bq_at h_b) rfl dX7_restore_29 ?_
    refine me_callVv (As := [.ref (bo + 722)]) (rest := []) hC hl.1 hM (c_X1_record l D tb X z0 n bo g G F sf inp out M0 S B L P nx ct hW hnx hnx0 hct hct0) (kv_X7_260 hw rfl rfl ⟨Nat.le_of_ble_eq_true rfl, Nat.le_of_ble_eq_true rfl⟩) rfl rfl (bq_at h_h) rfl (Nat.le_of_ble_eq_true rfl) dX7_restore_32 ⟨Nat.le_of_ble_eq_true rfl, Nat.le_of_ble_eq_true rfl⟩ (fun H locs hM => ?_)
    refine lv_aload_n hx hb dX7_restore_35 rfl (lv_at hl 0 rfl) ?_
    refine fg_X7_71 hC hM (bq_at h_b) rfl dX7_restore_36 ?_
    refine lv_aload_n hx hb dX7_restore_39 rfl (lv_at hl 0 rfl) ?_
    refine fg_X7_23 hC hM (bq_at h_b) rfl dX7_restore_40 ?_
    refine lv_iload_n hx hb dX7_restore_43 rfl (lv_at hl 1 rfl) ?_
    refine me_aald (k := k) hC hM (bq_at h_sa) (t0 := 5) rfl rfl (by omega) (by decide) (st_arr_at (by omega)) dX7_restore_44 ?_
    refine me_callVv (As := [.ref (bo + 789 + 65 * k)]) (rest := []) hC hl.1 hM (c_X5_copyFrom l D tb X z0 n (bo + 722) (bo + 789 + 65 * k) g ((recG G g S B L P nx) (12 + k)) (bq tb bo (recG G g S B L P nx) (recF F nx ct) sf inp out M0) S2 B2 L2 P2 hWh2 (bq_sO0 (by omega)) (by omega)) (kv_X7_104 hw rfl rfl ⟨Nat.le_of_ble_eq_true rfl, Nat.le_of_ble_eq_true rfl⟩) rfl rfl (sp_st _ _ _ _) rfl (Nat.le_of_ble_eq_true rfl) dX7_restore_45 ⟨Nat.le_of_ble_eq_true rfl, Nat.le_of_ble_eq_true rfl⟩ (fun H locs hM => ?_)
    refine lv_aload_n hx hb dX7_restore_48 rfl (lv_at hl 0 rfl) ?_
    refine fg_X7_71 hC hM (bq_at h_b) rfl dX7_restore_49 ?_
    refine fg_X7_114 hC hM (sp_st _ _ _ _) rfl dX7_restore_52 ?_
    exact me_iret hC hr hlk hM (by first | rfl | simp [c_1]) (rfl) (rfl) dX7_restore_55
  · exact absurd c_1 hsf
set_option maxHeartbeats 4000000 in
theorem c_X7_restore_x1 (l : Launch) (D : va_G) (tb : Nat → ClassId) (X : State → Prop) (z0 n : Nat) (bo : Nat) (g : Nat → Int32) (G : Nat → Nat → Int32) (F sf inp out : Nat → Int32) (M0 : me_M) (S B L P : Nat) (x : Int32)  (hfl : l.stackTraces = false) (hXs : ∀ U, X U → me_xs z0 U) (hW : wf g S B L P) (hbad : x < 0 ∨ 2 ≤ x) : vx_Met l yX7_restore (.code yX7_restore cX7_restore 2 (some .int) :: ws_all) ({ frames := 7, cells := 1, slots := 6, locals := 110 } : Room) (me_Pc [.ref bo, .int x] D tb X z0 (sp tb (bo + 722) g (bq tb bo G F sf inp out M0)) n) me_no (me_XC D z0 (sp tb (bo + 722) g (bq tb bo G F sf inp out M0)) "java/lang/IndexOutOfBoundsException") 1 6 (me_A z0) := by
  refine me_openX (by decide) (Nat.le_of_ble_eq_true rfl) ?_
  intro p e s m args below meth c ls hC ht hlk hM hl
  have hl : lv_has ls 2 [(0, .ref bo), (1, .int x)] := hl
  have hx := hC.1
  have hb := hC.2.1
  have hw := hC.2.2.2.2.1
  obtain ⟨hS, hS0, hB, hB0, hL, hL0, hP, hP0, hwb, hwl⟩ := id hW
  refine lv_iload_n hx hb dX7_restore_0 rfl (lv_at hl 1 rfl) ?_
  exact me_xS (As := [.int x]) (rest := []) hC hl.1 hM (c_X7_needSlot_x l D tb X z0 n bo g G F sf inp out M0 S B L P x hfl hXs hbad) (ks_X7_316 hw rfl rfl ⟨Nat.le_of_ble_eq_true rfl, Nat.le_of_ble_eq_true rfl⟩) rfl rfl (Nat.le_of_ble_eq_true rfl) dX7_restore_1 ⟨Nat.le_of_ble_eq_true rfl, Nat.le_of_ble_eq_true rfl⟩ ht hlk (Nat.le_of_ble_eq_true rfl) (Nat.le_of_ble_eq_true rfl)
set_option maxHeartbeats 4000000 in
theorem c_X7_restore_x2 (l : Launch) (D : va_G) (tb : Nat → ClassId) (X : State → Prop) (z0 n : Nat) (bo : Nat) (g : Nat → Int32) (G : Nat → Nat → Int32) (F sf inp out : Nat → Int32) (M0 : me_M) (S B L P : Nat) (k : Nat)  (hfl : l.stackTraces = false) (hXs : ∀ U, X U → me_xs z0 U) (hW : wf g S B L P) (hk : k < 2) (hsf : sf k = 0) : vx_Met l yX7_restore (.code yX7_restore cX7_restore 2 (some .int) :: ws_all) ({ frames := 6, cells := 1, slots := 6, locals := 90 } : Room) (me_Pc [.ref bo, .int (nI k)] D tb X z0 (sp tb (bo + 722) g (bq tb bo G F sf inp out M0)) n) me_no (me_XC D z0 (sp tb (bo + 722) g (bq tb bo G F sf inp out M0)) "java/lang/IllegalStateException") 1 6 (me_A z0) := by
  refine me_openX (by decide) (Nat.le_of_ble_eq_true rfl) ?_
  intro p e s m args below meth c ls hC ht hlk hM hl
  have hl : lv_has ls 2 [(0, .ref bo), (1, .int (nI k))] := hl
  have hx := hC.1
  have hb := hC.2.1
  have hw := hC.2.2.2.2.1
  obtain ⟨hS, hS0, hB, hB0, hL, hL0, hP, hP0, hwb, hwl⟩ := id hW
  refine lv_iload_n hx hb dX7_restore_0 rfl (lv_at hl 1 rfl) ?_
  refine me_callSv (As := [.int (nI k)]) (rest := []) hC hl.1 hM (c_X7_needSlot l D tb X z0 n bo g G F sf inp out M0 S B L P k hW (by omega)) (ks_X7_316 hw rfl rfl ⟨Nat.le_of_ble_eq_true rfl, Nat.le_of_ble_eq_true rfl⟩) rfl rfl (Nat.le_of_ble_eq_true rfl) dX7_restore_1 ⟨Nat.le_of_ble_eq_true rfl, Nat.le_of_ble_eq_true rfl⟩ (fun H locs hM => ?_)
  refine lv_aload_n hx hb dX7_restore_4 rfl (lv_at hl 0 rfl) ?_
  refine fg_X7_27 hC hM (bq_at h_b) rfl dX7_restore_5 ?_
  refine lv_iload_n hx hb dX7_restore_8 rfl (lv_at hl 1 rfl) ?_
  refine me_zald (k := k) hC hM (bq_at h_sf) rfl (by omega) (by first | decide | omega) dX7_restore_9 ?_
  refine lv_if_ne (tgt := 24) hx hb dX7_restore_10 (by decide) (fun c_1 => ?_) (fun c_1 => ?_)
  · exact absurd hsf c_1
  · exact me_throwW (ic := 78) hC hl.1 hM ht hlk (hXs s hC.2.2.2.2.2.1.2) hfl (by decide +kernel) xn_f w_644 w_24 xg_S xb_S xo_S (str_653) dX7_restore_13 dX7_restore_16 dX7_restore_17 dX7_restore_20 dX7_restore_23 (Nat.le_of_ble_eq_true rfl) (Nat.le_of_ble_eq_true rfl) (Nat.le_of_ble_eq_true rfl) (Nat.le_of_ble_eq_true rfl) (Nat.le_of_ble_eq_true rfl) (Nat.le_of_ble_eq_true rfl)
set_option maxHeartbeats 4000000 in
theorem c_X7_undo (l : Launch) (D : va_G) (tb : Nat → ClassId) (X : State → Prop) (z0 n : Nat) (bo : Nat) (g : Nat → Int32) (G : Nat → Nat → Int32) (F sf inp out : Nat → Int32) (M0 : me_M) (S B L P : Nat) (nx py ct S2 B2 L2 P2 : Nat)  (hW : wf g S B L P) (hnx : F 4 = nI nx) (hnx0 : nx < 10) (hct : F 5 = nI ct) (hct0 : ct ≤ 10) (hct1 : 0 < ct) (hpy : (nx + 10 - 1) % 10 = py) (hWh : wf (G (1 + py)) S2 B2 L2 P2) : Met l yX7_undo (.code yX7_undo cX7_undo 1 (some .int) :: ws_all) ({ frames := 3, cells := 0, slots := 0, locals := 64 } : Room) (me_Pc [.ref bo] D tb X z0 (sp tb (bo + 722) g (bq tb bo G F sf inp out M0)) n) (me_Qi D z0 (F 5 - 1) (sp tb (bo + 722) (cpF (G (1 + py)) S2 B2 L2 P2 g) (bq tb bo G (upd (upd F 4 (nI py)) 5 (F 5 - 1)) sf inp out M0)) n) 0 0 (me_A z0) := by
  refine me_open (by decide) (Nat.le_of_ble_eq_true rfl) ?_
  intro p e s m args below meth c ls hC hr hlk hnm hM hl
  have hl : lv_has ls 1 [(0, .ref bo)] := hl
  have hx := hC.1
  have hb := hC.2.1
  have hw := hC.2.2.2.2.1
  obtain ⟨hS, hS0, hB, hB0, hL, hL0, hP, hP0, hwb, hwl⟩ := id hW
  refine lv_aload_n hx hb dX7_undo_0 rfl (lv_at hl 0 rfl) ?_
  refine fg_X7_19 hC hM (bq_at h_b) rfl dX7_undo_1 ?_
  refine fg_X7_142 hC hM (bq_at h_h) rfl dX7_undo_4 ?_
  refine lv_if_ne (tgt := 21) hx hb dX7_undo_7 (by decide) (fun c_1 => ?_) (fun c_1 => ?_)
  · have c_1 := (not_congr (br_eq hct (show (0 : Int32) = nI 0 from rfl) (by omega) (by omega))).mp c_1
    refine lv_aload_n hx hb dX7_undo_21 rfl (lv_at hl 0 rfl) ?_
    refine fg_X7_19 hC hM (bq_at h_b) rfl dX7_undo_22 ?_
    refine lv_aload_n hx hb dX7_undo_25 rfl (lv_at hl 0 rfl) ?_
    refine fg_X7_71 hC hM (bq_at h_b) rfl dX7_undo_26 ?_
    refine me_callVv (As := [.ref (bo + 722)]) (rest := []) hC hl.1 hM (c_X1_takeBack l D tb X z0 n bo g G F sf inp out M0 S B L P nx py S2 B2 L2 P2 hW hnx hnx0 hpy hWh) (kv_X7_323 hw rfl rfl ⟨Nat.le_of_ble_eq_true rfl, Nat.le_of_ble_eq_true rfl⟩) rfl rfl (bq_at h_h) rfl (Nat.le_of_ble_eq_true rfl) dX7_undo_29 ⟨Nat.le_of_ble_eq_true rfl, Nat.le_of_ble_eq_true rfl⟩ (fun H locs hM => ?_)
    refine lv_aload_n hx hb dX7_undo_32 rfl (lv_at hl 0 rfl) ?_
    refine fg_X7_19 hC hM (bq_at h_b) rfl dX7_undo_33 ?_
    refine fg_X7_142 hC hM (bq_at h_h) rfl dX7_undo_36 ?_
    exact me_iret hC hr hlk hM (by first | rfl | simp [c_1]) (rfl) (rfl) dX7_undo_39
  · have c_1 := (br_eq hct (show (0 : Int32) = nI 0 from rfl) (by omega) (by omega)).mp c_1
    exfalso; omega
set_option maxHeartbeats 4000000 in
theorem c_X7_undo_x1 (l : Launch) (D : va_G) (tb : Nat → ClassId) (X : State → Prop) (z0 n : Nat) (bo : Nat) (g : Nat → Int32) (G : Nat → Nat → Int32) (F sf inp out : Nat → Int32) (M0 : me_M) (S B L P : Nat)  (hfl : l.stackTraces = false) (hXs : ∀ U, X U → me_xs z0 U) (hW : wf g S B L P) (hct : F 5 = 0) : vx_Met l yX7_undo (.code yX7_undo cX7_undo 1 (some .int) :: ws_all) ({ frames := 6, cells := 1, slots := 6, locals := 90 } : Room) (me_Pc [.ref bo] D tb X z0 (sp tb (bo + 722) g (bq tb bo G F sf inp out M0)) n) me_no (me_XC D z0 (sp tb (bo + 722) g (bq tb bo G F sf inp out M0)) "java/lang/IllegalStateException") 1 6 (me_A z0) := by
  refine me_openX (by decide) (Nat.le_of_ble_eq_true rfl) ?_
  intro p e s m args below meth c ls hC ht hlk hM hl
  have hl : lv_has ls 1 [(0, .ref bo)] := hl
  have hx := hC.1
  have hb := hC.2.1
  have hw := hC.2.2.2.2.1
  obtain ⟨hS, hS0, hB, hB0, hL, hL0, hP, hP0, hwb, hwl⟩ := id hW
  refine lv_aload_n hx hb dX7_undo_0 rfl (lv_at hl 0 rfl) ?_
  refine fg_X7_19 hC hM (bq_at h_b) rfl dX7_undo_1 ?_
  refine fg_X7_142 hC hM (bq_at h_h) rfl dX7_undo_4 ?_
  refine lv_if_ne (tgt := 21) hx hb dX7_undo_7 (by decide) (fun c_1 => ?_) (fun c_1 => ?_)
  · exact absurd hct c_1
  · exact me_throwW (ic := 78) hC hl.1 hM ht hlk (hXs s hC.2.2.2.2.2.1.2) hfl (by decide +kernel) xn_f w_644 w_24 xg_S xb_S xo_S (str_751) dX7_undo_10 dX7_undo_13 dX7_undo_14 dX7_undo_17 dX7_undo_20 (Nat.le_of_ble_eq_true rfl) (Nat.le_of_ble_eq_true rfl) (Nat.le_of_ble_eq_true rfl) (Nat.le_of_ble_eq_true rfl) (Nat.le_of_ble_eq_true rfl) (Nat.le_of_ble_eq_true rfl)
set_option maxHeartbeats 4000000 in
theorem c_X7_save (l : Launch) (D : va_G) (tb : Nat → ClassId) (X : State → Prop) (z0 n : Nat) (bo : Nat) (g : Nat → Int32) (G : Nat → Nat → Int32) (F sf inp out : Nat → Int32) (M0 : me_M) (S B L P : Nat) (k : Nat)  (hW : wf g S B L P) (hk : k < 2) : Met l yX7_save (.code yX7_save cX7_save 2 (some .int) :: ws_all) ({ frames := 2, cells := 0, slots := 0, locals := 43 } : Room) (me_Pc [.ref bo, .int (nI k)] D tb X z0 (sp tb (bo + 722) g (bq tb bo G F sf inp out M0)) n) (me_Qi D z0 (g 2) (sp tb (bo + 722) g (bq tb bo (updG G (12 + k) (cpF g S B L P (G (12 + k)))) F (upd sf k (vp_nar .boolean 1)) inp out M0)) n) 0 0 (me_A z0) := by
  refine me_open (by decide) (Nat.le_of_ble_eq_true rfl) ?_
  intro p e s m args below meth c ls hC hr hlk hnm hM hl
  have hl : lv_has ls 2 [(0, .ref bo), (1, .int (nI k))] := hl
  have hx := hC.1
  have hb := hC.2.1
  have hw := hC.2.2.2.2.1
  obtain ⟨hS, hS0, hB, hB0, hL, hL0, hP, hP0, hwb, hwl⟩ := id hW
  refine lv_iload_n hx hb dX7_save_0 rfl (lv_at hl 1 rfl) ?_
  refine me_callSv (As := [.int (nI k)]) (rest := []) hC hl.1 hM (c_X7_needSlot l D tb X z0 n bo g G F sf inp out M0 S B L P k hW (by omega)) (ks_X7_316 hw rfl rfl ⟨Nat.le_of_ble_eq_true rfl, Nat.le_of_ble_eq_true rfl⟩) rfl rfl (Nat.le_of_ble_eq_true rfl) dX7_save_1 ⟨Nat.le_of_ble_eq_true rfl, Nat.le_of_ble_eq_true rfl⟩ (fun H locs hM => ?_)
  refine lv_aload_n hx hb dX7_save_4 rfl (lv_at hl 0 rfl) ?_
  refine fg_X7_23 hC hM (bq_at h_b) rfl dX7_save_5 ?_
  refine lv_iload_n hx hb dX7_save_8 rfl (lv_at hl 1 rfl) ?_
  refine me_aald (k := k) hC hM (bq_at h_sa) (t0 := 5) rfl rfl (by omega) (by decide) (st_arr_at (by omega)) dX7_save_9 ?_
  refine lv_aload_n hx hb dX7_save_10 rfl (lv_at hl 0 rfl) ?_
  refine fg_X7_71 hC hM (bq_at h_b) rfl dX7_save_11 ?_
  have hM := hM.eq (sp_absorb (bq_sO (by omega)))
  refine me_callVv (As := [.ref (bo + 722)]) (rest := []) hC hl.1 hM (c_X5_copyFrom l D tb X z0 n (bo + 789 + 65 * k) (bo + 722) (G (12 + k)) g (sp tb (bo + 722) g (bq tb bo G F sf inp out M0)) S B L P hW sp_oth (by omega)) (kv_X7_104 hw rfl rfl ⟨Nat.le_of_ble_eq_true rfl, Nat.le_of_ble_eq_true rfl⟩) rfl rfl (sp_st _ _ _ _) rfl (Nat.le_of_ble_eq_true rfl) dX7_save_14 ⟨Nat.le_of_ble_eq_true rfl, Nat.le_of_ble_eq_true rfl⟩ (fun H locs hM => ?_)
  have hM := hM.eq (bq_sset (by omega))
  refine lv_aload_n hx hb dX7_save_17 rfl (lv_at hl 0 rfl) ?_
  refine fg_X7_27 hC hM (bq_at h_b) rfl dX7_save_18 ?_
  refine lv_iload_n hx hb dX7_save_21 rfl (lv_at hl 1 rfl) ?_
  refine lv_iconst (v := 1) hx hb dX7_save_22 (by decide) ?_
  refine me_zast (k := k) (M2 := sp tb (bo + 722) g (bq tb bo (updG G (12 + k) (cpF g S B L P (G (12 + k)))) F (upd sf k (vp_nar .boolean 1)) inp out M0)) hC hM (bq_at h_sf) rfl (by omega) (by first | decide | omega) bq_wsf dX7_save_23 (fun H locs hM => ?_)
  refine lv_aload_n hx hb dX7_save_24 rfl (lv_at hl 0 rfl) ?_
  refine fg_X7_71 hC hM (bq_at h_b) rfl dX7_save_25 ?_
  refine fg_X7_114 hC hM (sp_st _ _ _ _) rfl dX7_save_28 ?_
  exact me_iret hC hr hlk hM (by first | rfl | simp []) (rfl) (rfl) dX7_save_31
set_option maxHeartbeats 4000000 in
theorem c_X7_save_x1 (l : Launch) (D : va_G) (tb : Nat → ClassId) (X : State → Prop) (z0 n : Nat) (bo : Nat) (g : Nat → Int32) (G : Nat → Nat → Int32) (F sf inp out : Nat → Int32) (M0 : me_M) (S B L P : Nat) (x : Int32)  (hfl : l.stackTraces = false) (hXs : ∀ U, X U → me_xs z0 U) (hW : wf g S B L P) (hbad : x < 0 ∨ 2 ≤ x) : vx_Met l yX7_save (.code yX7_save cX7_save 2 (some .int) :: ws_all) ({ frames := 7, cells := 1, slots := 6, locals := 110 } : Room) (me_Pc [.ref bo, .int x] D tb X z0 (sp tb (bo + 722) g (bq tb bo G F sf inp out M0)) n) me_no (me_XC D z0 (sp tb (bo + 722) g (bq tb bo G F sf inp out M0)) "java/lang/IndexOutOfBoundsException") 1 6 (me_A z0) := by
  refine me_openX (by decide) (Nat.le_of_ble_eq_true rfl) ?_
  intro p e s m args below meth c ls hC ht hlk hM hl
  have hl : lv_has ls 2 [(0, .ref bo), (1, .int x)] := hl
  have hx := hC.1
  have hb := hC.2.1
  have hw := hC.2.2.2.2.1
  obtain ⟨hS, hS0, hB, hB0, hL, hL0, hP, hP0, hwb, hwl⟩ := id hW
  refine lv_iload_n hx hb dX7_save_0 rfl (lv_at hl 1 rfl) ?_
  exact me_xS (As := [.int x]) (rest := []) hC hl.1 hM (c_X7_needSlot_x l D tb X z0 n bo g G F sf inp out M0 S B L P x hfl hXs hbad) (ks_X7_316 hw rfl rfl ⟨Nat.le_of_ble_eq_true rfl, Nat.le_of_ble_eq_true rfl⟩) rfl rfl (Nat.le_of_ble_eq_true rfl) dX7_save_1 ⟨Nat.le_of_ble_eq_true rfl, Nat.le_of_ble_eq_true rfl⟩ ht hlk (Nat.le_of_ble_eq_true rfl) (Nat.le_of_ble_eq_true rfl)
set_option maxHeartbeats 4000000 in
theorem c_X7_appendWord (l : Launch) (D : va_G) (tb : Nat → ClassId) (X : State → Prop) (z0 n : Nat) (bo : Nat) (g : Nat → Int32) (G : Nat → Nat → Int32) (F sf inp out : Nat → Int32) (M0 : me_M) (S B L P : Nat) (x : Int32) (il : Nat)  (hW : wf g S B L P) (hil : F 0 = nI il) (hil0 : il + 4 ≤ 700) : Met l yX7_appendWord (.code yX7_appendWord cX7_appendWord 3 none :: ws_all) ({ frames := 0, cells := 0, slots := 0, locals := 0 } : Room) (me_Pc [.ref bo, .int x] D tb X z0 (sp tb (bo + 722) g (bq tb bo G F sf inp out M0)) n) (me_Qv D z0 (sp tb (bo + 722) g (bq tb bo G (upd F 0 (nI (il + 4))) sf (apW inp il x) out M0)) n) 0 0 (me_A z0) := by
  refine me_open (by decide) (Nat.le_of_ble_eq_true rfl) ?_
  intro p e s m args below meth c ls hC hr hlk hnm hM hl
  have hl : lv_has ls 3 [(0, .ref bo), (1, .int x)] := hl
  have hx := hC.1
  have hb := hC.2.1
  have hw := hC.2.2.2.2.1
  obtain ⟨hS, hS0, hB, hB0, hL, hL0, hP, hP0, hwb, hwl⟩ := id hW
  refine lv_bipush (v := 24) hx hb dX7_appendWord_0 (by decide) ?_
  refine lv_istore_n (lv' := [(2, .int 24), (0, .ref bo), (1, .int x)]) hx hb dX7_appendWord_2 rfl hl (by decide) rfl (fun ls hl => ?_)
  refine lv_iload_n hx hb dX7_appendWord_3 rfl (lv_at hl 0 rfl) ?_
  refine lv_if_lt (tgt := 36) hx hb dX7_appendWord_4 (by decide) (fun c_1 => ?_) (fun c_1 => ?_)
  · exact absurd c_1 (by decide)
  · have c_1q := Int32.not_lt.mp c_1
    refine lv_aload_n hx hb dX7_appendWord_7 rfl (lv_at hl 1 rfl) ?_
    refine fg_X7_31 hC hM (bq_at h_b) rfl dX7_appendWord_8 ?_
    refine lv_aload_n hx hb dX7_appendWord_11 rfl (lv_at hl 1 rfl) ?_
    refine fg_X7_35 hC hM (bq_at h_b) rfl dX7_appendWord_12 ?_
    refine lv_iload_n hx hb dX7_appendWord_15 rfl (lv_at hl 2 rfl) ?_
    refine lv_iload_n hx hb dX7_appendWord_16 rfl (lv_at hl 0 rfl) ?_
    refine lv_iushr (v := (x.toUInt32 >>> ((24 : Int32).toUInt32 &&& Int32.toUInt32 31)).toInt32) hx hb dX7_appendWord_17 rfl ?_
    refine lv_i2b (v := ((x.toUInt32 >>> ((24 : Int32).toUInt32 &&& Int32.toUInt32 31)).toInt32).toInt8.toInt32) hx hb dX7_appendWord_18 rfl ?_
    refine me_bast (k := il) (M2 := sp tb (bo + 722) g (bq tb bo G F sf (upd inp il (vp_nar .byte (((x.toUInt32 >>> ((24 : Int32).toUInt32 &&& Int32.toUInt32 31)).toInt32).toInt8.toInt32))) out M0)) hC hM (bq_at h_in) hil (by omega) (by first | decide | omega) bq_win dX7_appendWord_19 (fun H locs hM => ?_)
    refine lv_aload_n hx hb dX7_appendWord_20 rfl (lv_at hl 1 rfl) ?_
    refine lv_dup hx hb dX7_appendWord_21 rfl ?_
    refine fg_X7_35 hC hM (bq_at h_b) rfl dX7_appendWord_22 ?_
    refine lv_iconst (v := 1) hx hb dX7_appendWord_25 (by decide) ?_
    refine lv_iadd hx hb dX7_appendWord_26 ?_
    refine fp_X7_35 hC hM (bq_at h_b) (Nat.le_of_ble_eq_true rfl) (M2 := sp tb (bo + 722) g (bq tb bo G (upd F 0 ((F 0) + 1)) sf (upd inp il (vp_nar .byte (((x.toUInt32 >>> ((24 : Int32).toUInt32 &&& Int32.toUInt32 31)).toInt32).toInt8.toInt32))) out M0)) (bq_wb (i := 0) (by omega) (by simp [upd])) dX7_appendWord_27 (fun H locs hM => ?_)
    refine lv_iinc (v := 16) (lv' := [(2, .int 16), (0, .ref bo), (1, .int x)]) hx hb dX7_appendWord_30 hl (k := 0) rfl (by decide) (by decide) rfl (fun ls hl => ?_)
    refine lv_goto (tgt := 3) hx hb dX7_appendWord_33 (by decide) ?_
    refine lv_iload_n hx hb dX7_appendWord_3 rfl (lv_at hl 0 rfl) ?_
    refine lv_if_lt (tgt := 36) hx hb dX7_appendWord_4 (by decide) (fun c_2 => ?_) (fun c_2 => ?_)
    · exact absurd c_2 (by decide)
    · have c_2q := Int32.not_lt.mp c_2
      refine lv_aload_n hx hb dX7_appendWord_7 rfl (lv_at hl 1 rfl) ?_
      refine fg_X7_31 hC hM (bq_at h_b) rfl dX7_appendWord_8 ?_
      refine lv_aload_n hx hb dX7_appendWord_11 rfl (lv_at hl 1 rfl) ?_
      refine fg_X7_35 hC hM (bq_at h_b) rfl dX7_appendWord_12 ?_
      refine me_evi (y := (F 0) + 1) (upd_s _ _ _) ?_
      refine lv_iload_n hx hb dX7_appendWord_15 rfl (lv_at hl 2 rfl) ?_
      refine lv_iload_n hx hb dX7_appendWord_16 rfl (lv_at hl 0 rfl) ?_
      refine lv_iushr (v := (x.toUInt32 >>> ((16 : Int32).toUInt32 &&& Int32.toUInt32 31)).toInt32) hx hb dX7_appendWord_17 rfl ?_
      refine lv_i2b (v := ((x.toUInt32 >>> ((16 : Int32).toUInt32 &&& Int32.toUInt32 31)).toInt32).toInt8.toInt32) hx hb dX7_appendWord_18 rfl ?_
      refine me_bast (k := il + 1) (M2 := sp tb (bo + 722) g (bq tb bo G (upd F 0 ((F 0) + 1)) sf (upd (upd inp il (vp_nar .byte (((x.toUInt32 >>> ((24 : Int32).toUInt32 &&& Int32.toUInt32 31)).toInt32).toInt8.toInt32))) (il + 1) (vp_nar .byte (((x.toUInt32 >>> ((16 : Int32).toUInt32 &&& Int32.toUInt32 31)).toInt32).toInt8.toInt32))) out M0)) hC hM (bq_at h_in) (nx_add hil (show (1 : Int32) = nI 1 from rfl)) (by omega) (by first | decide | omega) bq_win dX7_appendWord_19 (fun H locs hM => ?_)
      refine lv_aload_n hx hb dX7_appendWord_20 rfl (lv_at hl 1 rfl) ?_
      refine lv_dup hx hb dX7_appendWord_21 rfl ?_
      refine fg_X7_35 hC hM (bq_at h_b) rfl dX7_appendWord_22 ?_
      refine me_evi (y := (F 0) + 1) (upd_s _ _ _) ?_
      refine lv_iconst (v := 1) hx hb dX7_appendWord_25 (by decide) ?_
      refine lv_iadd hx hb dX7_appendWord_26 ?_
      refine fp_X7_35 hC hM (bq_at h_b) (Nat.le_of_ble_eq_true rfl) (M2 := sp tb (bo + 722) g (bq tb bo G (upd (upd F 0 ((F 0) + 1)) 0 (((F 0) + 1) + 1)) sf (upd (upd inp il (vp_nar .byte (((x.toUInt32 >>> ((24 : Int32).toUInt32 &&& Int32.toUInt32 31)).toInt32).toInt8.toInt32))) (il + 1) (vp_nar .byte (((x.toUInt32 >>> ((16 : Int32).toUInt32 &&& Int32.toUInt32 31)).toInt32).toInt8.toInt32))) out M0)) (bq_wb (i := 0) (by omega) (by simp [upd])) dX7_appendWord_27 (fun H locs hM => ?_)
      refine lv_iinc (v := 8) (lv' := [(2, .int 8), (0, .ref bo), (1, .int x)]) hx hb dX7_appendWord_30 hl (k := 0) rfl (by decide) (by decide) rfl (fun ls hl => ?_)
      refine lv_goto (tgt := 3) hx hb dX7_appendWord_33 (by decide) ?_
      refine lv_iload_n hx hb dX7_appendWord_3 rfl (lv_at hl 0 rfl) ?_
      refine lv_if_lt (tgt := 36) hx hb dX7_appendWord_4 (by decide) (fun c_3 => ?_) (fun c_3 => ?_)
      · exact absurd c_3 (by decide)
      · have c_3q := Int32.not_lt.mp c_3
        refine lv_aload_n hx hb dX7_appendWord_7 rfl (lv_at hl 1 rfl) ?_
        refine fg_X7_31 hC hM (bq_at h_b) rfl dX7_appendWord_8 ?_
        refine lv_aload_n hx hb dX7_appendWord_11 rfl (lv_at hl 1 rfl) ?_
        refine fg_X7_35 hC hM (bq_at h_b) rfl dX7_appendWord_12 ?_
        refine me_evi (y := ((F 0) + 1) + 1) (upd_s _ _ _) ?_
        refine lv_iload_n hx hb dX7_appendWord_15 rfl (lv_at hl 2 rfl) ?_
        refine lv_iload_n hx hb dX7_appendWord_16 rfl (lv_at hl 0 rfl) ?_
        refine lv_iushr (v := (x.toUInt32 >>> ((8 : Int32).toUInt32 &&& Int32.toUInt32 31)).toInt32) hx hb dX7_appendWord_17 rfl ?_
        refine lv_i2b (v := ((x.toUInt32 >>> ((8 : Int32).toUInt32 &&& Int32.toUInt32 31)).toInt32).toInt8.toInt32) hx hb dX7_appendWord_18 rfl ?_
        refine me_bast (k := (il + 1) + 1) (M2 := sp tb (bo + 722) g (bq tb bo G (upd (upd F 0 ((F 0) + 1)) 0 (((F 0) + 1) + 1)) sf (upd (upd (upd inp il (vp_nar .byte (((x.toUInt32 >>> ((24 : Int32).toUInt32 &&& Int32.toUInt32 31)).toInt32).toInt8.toInt32))) (il + 1) (vp_nar .byte (((x.toUInt32 >>> ((16 : Int32).toUInt32 &&& Int32.toUInt32 31)).toInt32).toInt8.toInt32))) ((il + 1) + 1) (vp_nar .byte (((x.toUInt32 >>> ((8 : Int32).toUInt32 &&& Int32.toUInt32 31)).toInt32).toInt8.toInt32))) out M0)) hC hM (bq_at h_in) (nx_add (nx_add hil (show (1 : Int32) = nI 1 from rfl)) (show (1 : Int32) = nI 1 from rfl)) (by omega) (by first | decide | omega) bq_win dX7_appendWord_19 (fun H locs hM => ?_)
        refine lv_aload_n hx hb dX7_appendWord_20 rfl (lv_at hl 1 rfl) ?_
        refine lv_dup hx hb dX7_appendWord_21 rfl ?_
        refine fg_X7_35 hC hM (bq_at h_b) rfl dX7_appendWord_22 ?_
        refine me_evi (y := ((F 0) + 1) + 1) (upd_s _ _ _) ?_
        refine lv_iconst (v := 1) hx hb dX7_appendWord_25 (by decide) ?_
        refine lv_iadd hx hb dX7_appendWord_26 ?_
        refine fp_X7_35 hC hM (bq_at h_b) (Nat.le_of_ble_eq_true rfl) (M2 := sp tb (bo + 722) g (bq tb bo G (upd (upd (upd F 0 ((F 0) + 1)) 0 (((F 0) + 1) + 1)) 0 ((((F 0) + 1) + 1) + 1)) sf (upd (upd (upd inp il (vp_nar .byte (((x.toUInt32 >>> ((24 : Int32).toUInt32 &&& Int32.toUInt32 31)).toInt32).toInt8.toInt32))) (il + 1) (vp_nar .byte (((x.toUInt32 >>> ((16 : Int32).toUInt32 &&& Int32.toUInt32 31)).toInt32).toInt8.toInt32))) ((il + 1) + 1) (vp_nar .byte (((x.toUInt32 >>> ((8 : Int32).toUInt32 &&& Int32.toUInt32 31)).toInt32).toInt8.toInt32))) out M0)) (bq_wb (i := 0) (by omega) (by simp [upd])) dX7_appendWord_27 (fun H locs hM => ?_)
        refine lv_iinc (v := 0) (lv' := [(2, .int 0), (0, .ref bo), (1, .int x)]) hx hb dX7_appendWord_30 hl (k := 0) rfl (by decide) (by decide) rfl (fun ls hl => ?_)
        refine lv_goto (tgt := 3) hx hb dX7_appendWord_33 (by decide) ?_
        refine lv_iload_n hx hb dX7_appendWord_3 rfl (lv_at hl 0 rfl) ?_
        refine lv_if_lt (tgt := 36) hx hb dX7_appendWord_4 (by decide) (fun c_4 => ?_) (fun c_4 => ?_)
        · exact absurd c_4 (by decide)
        · have c_4q := Int32.not_lt.mp c_4
          refine lv_aload_n hx hb dX7_appendWord_7 rfl (lv_at hl 1 rfl) ?_
          refine fg_X7_31 hC hM (bq_at h_b) rfl dX7_appendWord_8 ?_
          refine lv_aload_n hx hb dX7_appendWord_11 rfl (lv_at hl 1 rfl) ?_
          refine fg_X7_35 hC hM (bq_at h_b) rfl dX7_appendWord_12 ?_
          refine me_evi (y := (((F 0) + 1) + 1) + 1) (upd_s _ _ _) ?_
          refine lv_iload_n hx hb dX7_appendWord_15 rfl (lv_at hl 2 rfl) ?_
          refine lv_iload_n hx hb dX7_appendWord_16 rfl (lv_at hl 0 rfl) ?_
          refine lv_iushr (v := (x.toUInt32 >>> ((0 : Int32).toUInt32 &&& Int32.toUInt32 31)).toInt32) hx hb dX7_appendWord_17 rfl ?_
          refine lv_i2b (v := ((x.toUInt32 >>> ((0 : Int32).toUInt32 &&& Int32.toUInt32 31)).toInt32).toInt8.toInt32) hx hb dX7_appendWord_18 rfl ?_
          refine me_bast (k := ((il + 1) + 1) + 1) (M2 := sp tb (bo + 722) g (bq tb bo G (upd (upd (upd F 0 ((F 0) + 1)) 0 (((F 0) + 1) + 1)) 0 ((((F 0) + 1) + 1) + 1)) sf (upd (upd (upd (upd inp il (vp_nar .byte (((x.toUInt32 >>> ((24 : Int32).toUInt32 &&& Int32.toUInt32 31)).toInt32).toInt8.toInt32))) (il + 1) (vp_nar .byte (((x.toUInt32 >>> ((16 : Int32).toUInt32 &&& Int32.toUInt32 31)).toInt32).toInt8.toInt32))) ((il + 1) + 1) (vp_nar .byte (((x.toUInt32 >>> ((8 : Int32).toUInt32 &&& Int32.toUInt32 31)).toInt32).toInt8.toInt32))) (((il + 1) + 1) + 1) (vp_nar .byte (((x.toUInt32 >>> ((0 : Int32).toUInt32 &&& Int32.toUInt32 31)).toInt32).toInt8.toInt32))) out M0)) hC hM (bq_at h_in) (nx_add (nx_add (nx_add hil (show (1 : Int32) = nI 1 from rfl)) (show (1 : Int32) = nI 1 from rfl)) (show (1 : Int32) = nI 1 from rfl)) (by omega) (by first | decide | omega) bq_win dX7_appendWord_19 (fun H locs hM => ?_)
          refine lv_aload_n hx hb dX7_appendWord_20 rfl (lv_at hl 1 rfl) ?_
          refine lv_dup hx hb dX7_appendWord_21 rfl ?_
          refine fg_X7_35 hC hM (bq_at h_b) rfl dX7_appendWord_22 ?_
          refine me_evi (y := (((F 0) + 1) + 1) + 1) (upd_s _ _ _) ?_
          refine lv_iconst (v := 1) hx hb dX7_appendWord_25 (by decide) ?_
          refine lv_iadd hx hb dX7_appendWord_26 ?_
          refine fp_X7_35 hC hM (bq_at h_b) (Nat.le_of_ble_eq_true rfl) (M2 := sp tb (bo + 722) g (bq tb bo G (upd (upd (upd (upd F 0 ((F 0) + 1)) 0 (((F 0) + 1) + 1)) 0 ((((F 0) + 1) + 1) + 1)) 0 (((((F 0) + 1) + 1) + 1) + 1)) sf (upd (upd (upd (upd inp il (vp_nar .byte (((x.toUInt32 >>> ((24 : Int32).toUInt32 &&& Int32.toUInt32 31)).toInt32).toInt8.toInt32))) (il + 1) (vp_nar .byte (((x.toUInt32 >>> ((16 : Int32).toUInt32 &&& Int32.toUInt32 31)).toInt32).toInt8.toInt32))) ((il + 1) + 1) (vp_nar .byte (((x.toUInt32 >>> ((8 : Int32).toUInt32 &&& Int32.toUInt32 31)).toInt32).toInt8.toInt32))) (((il + 1) + 1) + 1) (vp_nar .byte (((x.toUInt32 >>> ((0 : Int32).toUInt32 &&& Int32.toUInt32 31)).toInt32).toInt8.toInt32))) out M0)) (bq_wb (i := 0) (by omega) (by simp [upd])) dX7_appendWord_27 (fun H locs hM => ?_)
          refine lv_iinc (v := (-8)) (lv' := [(2, .int (-8)), (0, .ref bo), (1, .int x)]) hx hb dX7_appendWord_30 hl (k := 0) rfl (by decide) (by decide) rfl (fun ls hl => ?_)
          refine lv_goto (tgt := 3) hx hb dX7_appendWord_33 (by decide) ?_
          refine lv_iload_n hx hb dX7_appendWord_3 rfl (lv_at hl 0 rfl) ?_
          refine lv_if_lt (tgt := 36) hx hb dX7_appendWord_4 (by decide) (fun c_5 => ?_) (fun c_5 => ?_)
          · have c_5q := Int32.not_le.mpr c_5
            exact me_vret hC hr hlk hM (by rw [upd_upd, upd_upd, upd_upd, show F 0 + 1 + 1 + 1 + 1 = nI (il + 4) by rw [hil, nI_1, nI_1, nI_1, nI_1]]; rfl) (rfl) dX7_appendWord_36
          · exact absurd c_5 (by decide)
set_option maxHeartbeats 4000000 in
theorem c_X7_append (l : Launch) (D : va_G) (tb : Nat → ClassId) (X : State → Prop) (z0 n : Nat) (bo : Nat) (g : Nat → Int32) (G : Nat → Nat → Int32) (F sf inp out : Nat → Int32) (M0 : me_M) (S B L P : Nat) (xa xb xc xd xe : Int32) (il : Nat)  (hW : wf g S B L P) (hil : F 0 = nI il) (hil0 : il + 20 ≤ 700) : Met l yX7_append (.code yX7_append cX7_append 6 (some .int) :: ws_all) ({ frames := 1, cells := 0, slots := 0, locals := 22 } : Room) (me_Pc [.ref bo, .int xa, .int xb, .int xc, .int xd, .int xe] D tb X z0 (sp tb (bo + 722) g (bq tb bo G F sf inp out M0)) n) (me_Qi D z0 (nI (il + 4 + 4 + 4 + 4 + 4)) (sp tb (bo + 722) g (bq tb bo G (upd F 0 (nI (il + 4 + 4 + 4 + 4 + 4))) sf (apW (apW (apW (apW (apW inp il xa) (il + 4) xb) (il + 4 + 4) xc) (il + 4 + 4 + 4) xd) (il + 4 + 4 + 4 + 4) xe) out M0)) n) 0 0 (me_A z0) := by
  refine me_open (by decide) (Nat.le_of_ble_eq_true rfl) ?_
  intro p e s m args below meth c ls hC hr hlk hnm hM hl
  have hl : lv_has ls 6 [(0, .ref bo), (1, .int xa), (2, .int xb), (3, .int xc), (4, .int xd), (5, .int xe)] := hl
  have hx := hC.1
  have hb := hC.2.1
  have hw := hC.2.2.2.2.1
  obtain ⟨hS, hS0, hB, hB0, hL, hL0, hP, hP0, hwb, hwl⟩ := id hW
  refine lv_aload_n hx hb dX7_append_0 rfl (lv_at hl 0 rfl) ?_
  refine fg_X7_35 hC hM (bq_at h_b) rfl dX7_append_1 ?_
  refine lv_bipush (v := 20) hx hb dX7_append_4 (by decide) ?_
  refine lv_iadd hx hb dX7_append_6 ?_
  refine lv_sipush (v := 700) hx hb dX7_append_7 (by decide) ?_
  refine lv_icmp_le (tgt := 23) hx hb dX7_append_10 (by decide) (fun c_1 => ?_) (fun c_1 => ?_)
  · have c_1 := (br_le (nx_add hil (nx_c 20)) (nx_c 700) (by omega) (by omega)).mp c_1
    refine lv_aload_n hx hb dX7_append_23 rfl (lv_at hl 0 rfl) ?_
    refine lv_iload_n hx hb dX7_append_24 rfl (lv_at hl 1 rfl) ?_
    refine me_callVv (As := [.int xa]) (rest := []) hC hl.1 hM (c_X7_appendWord l D tb X z0 n bo g G F sf inp out M0 S B L P xa il hW hil (by omega)) (kv_X7_81 hw rfl rfl ⟨Nat.le_of_ble_eq_true rfl, Nat.le_of_ble_eq_true rfl⟩) rfl rfl (bq_at h_b) rfl (Nat.le_of_ble_eq_true rfl) dX7_append_25 ⟨Nat.le_of_ble_eq_true rfl, Nat.le_of_ble_eq_true rfl⟩ (fun H locs hM => ?_)
    refine lv_aload_n hx hb dX7_append_28 rfl (lv_at hl 0 rfl) ?_
    refine lv_iload_n hx hb dX7_append_29 rfl (lv_at hl 2 rfl) ?_
    refine me_callVv (As := [.int xb]) (rest := []) hC hl.1 hM (c_X7_appendWord l D tb X z0 n bo g G (upd F 0 (nI (il + 4))) sf (apW inp il xa) out M0 S B L P xb (il + 4) hW (upd_s _ _ _) (by omega)) (kv_X7_81 hw rfl rfl ⟨Nat.le_of_ble_eq_true rfl, Nat.le_of_ble_eq_true rfl⟩) rfl rfl (bq_at h_b) rfl (Nat.le_of_ble_eq_true rfl) dX7_append_30 ⟨Nat.le_of_ble_eq_true rfl, Nat.le_of_ble_eq_true rfl⟩ (fun H locs hM => ?_)
    have hM := hM.eq (M2 := sp tb (bo + 722) g (bq tb bo G (upd F 0 (nI (il + 4 + 4))) sf (apW (apW inp il xa) (il + 4) xb) out M0)) (by rw [upd_upd])
    refine lv_aload_n hx hb dX7_append_33 rfl (lv_at hl 0 rfl) ?_
    refine lv_iload_n hx hb dX7_append_34 rfl (lv_at hl 3 rfl) ?_
    refine me_callVv (As := [.int xc]) (rest := []) hC hl.1 hM (c_X7_appendWord l D tb X z0 n bo g G (upd F 0 (nI (il + 4 + 4))) sf (apW (apW inp il xa) (il + 4) xb) out M0 S B L P xc (il + 4 + 4) hW (upd_s _ _ _) (by omega)) (kv_X7_81 hw rfl rfl ⟨Nat.le_of_ble_eq_true rfl, Nat.le_of_ble_eq_true rfl⟩) rfl rfl (bq_at h_b) rfl (Nat.le_of_ble_eq_true rfl) dX7_append_35 ⟨Nat.le_of_ble_eq_true rfl, Nat.le_of_ble_eq_true rfl⟩ (fun H locs hM => ?_)
    have hM := hM.eq (M2 := sp tb (bo + 722) g (bq tb bo G (upd F 0 (nI (il + 4 + 4 + 4))) sf (apW (apW (apW inp il xa) (il + 4) xb) (il + 4 + 4) xc) out M0)) (by rw [upd_upd])
    refine lv_aload_n hx hb dX7_append_38 rfl (lv_at hl 0 rfl) ?_
    refine lv_iload hx hb dX7_append_39 (lv_at hl 4 rfl) ?_
    refine me_callVv (As := [.int xd]) (rest := []) hC hl.1 hM (c_X7_appendWord l D tb X z0 n bo g G (upd F 0 (nI (il + 4 + 4 + 4))) sf (apW (apW (apW inp il xa) (il + 4) xb) (il + 4 + 4) xc) out M0 S B L P xd (il + 4 + 4 + 4) hW (upd_s _ _ _) (by omega)) (kv_X7_81 hw rfl rfl ⟨Nat.le_of_ble_eq_true rfl, Nat.le_of_ble_eq_true rfl⟩) rfl rfl (bq_at h_b) rfl (Nat.le_of_ble_eq_true rfl) dX7_append_41 ⟨Nat.le_of_ble_eq_true rfl, Nat.le_of_ble_eq_true rfl⟩ (fun H locs hM => ?_)
    have hM := hM.eq (M2 := sp tb (bo + 722) g (bq tb bo G (upd F 0 (nI (il + 4 + 4 + 4 + 4))) sf (apW (apW (apW (apW inp il xa) (il + 4) xb) (il + 4 + 4) xc) (il + 4 + 4 + 4) xd) out M0)) (by rw [upd_upd])
    refine lv_aload_n hx hb dX7_append_44 rfl (lv_at hl 0 rfl) ?_
    refine lv_iload hx hb dX7_append_45 (lv_at hl 5 rfl) ?_
    refine me_callVv (As := [.int xe]) (rest := []) hC hl.1 hM (c_X7_appendWord l D tb X z0 n bo g G (upd F 0 (nI (il + 4 + 4 + 4 + 4))) sf (apW (apW (apW (apW inp il xa) (il + 4) xb) (il + 4 + 4) xc) (il + 4 + 4 + 4) xd) out M0 S B L P xe (il + 4 + 4 + 4 + 4) hW (upd_s _ _ _) (by omega)) (kv_X7_81 hw rfl rfl ⟨Nat.le_of_ble_eq_true rfl, Nat.le_of_ble_eq_true rfl⟩) rfl rfl (bq_at h_b) rfl (Nat.le_of_ble_eq_true rfl) dX7_append_47 ⟨Nat.le_of_ble_eq_true rfl, Nat.le_of_ble_eq_true rfl⟩ (fun H locs hM => ?_)
    have hM := hM.eq (M2 := sp tb (bo + 722) g (bq tb bo G (upd F 0 (nI (il + 4 + 4 + 4 + 4 + 4))) sf (apW (apW (apW (apW (apW inp il xa) (il + 4) xb) (il + 4 + 4) xc) (il + 4 + 4 + 4) xd) (il + 4 + 4 + 4 + 4) xe) out M0)) (by rw [upd_upd])
    refine lv_aload_n hx hb dX7_append_50 rfl (lv_at hl 0 rfl) ?_
    refine fg_X7_35 hC hM (bq_at h_b) rfl dX7_append_51 ?_
    exact me_iret hC hr hlk hM (upd_s _ _ _) (rfl) (rfl) dX7_append_54
  · have c_1 := (not_congr (br_le (nx_add hil (nx_c 20)) (nx_c 700) (by omega) (by omega))).mp c_1
    exfalso; omega
set_option maxHeartbeats 4000000 in
theorem c_X7_append_x1 (l : Launch) (D : va_G) (tb : Nat → ClassId) (X : State → Prop) (z0 n : Nat) (bo : Nat) (g : Nat → Int32) (G : Nat → Nat → Int32) (F sf inp out : Nat → Int32) (M0 : me_M) (S B L P : Nat) (xa xb xc xd xe : Int32) (il : Nat)  (hfl : l.stackTraces = false) (hXs : ∀ U, X U → me_xs z0 U) (hW : wf g S B L P) (hil : F 0 = nI il) (hil0 : 700 < il + 20) (hil1 : il ≤ 700) : vx_Met l yX7_append (.code yX7_append cX7_append 6 (some .int) :: ws_all) ({ frames := 6, cells := 1, slots := 6, locals := 90 } : Room) (me_Pc [.ref bo, .int xa, .int xb, .int xc, .int xd, .int xe] D tb X z0 (sp tb (bo + 722) g (bq tb bo G F sf inp out M0)) n) me_no (me_XC D z0 (sp tb (bo + 722) g (bq tb bo G F sf inp out M0)) "java/lang/IllegalStateException") 1 6 (me_A z0) := by
  refine me_openX (by decide) (Nat.le_of_ble_eq_true rfl) ?_
  intro p e s m args below meth c ls hC ht hlk hM hl
  have hl : lv_has ls 6 [(0, .ref bo), (1, .int xa), (2, .int xb), (3, .int xc), (4, .int xd), (5, .int xe)] := hl
  have hx := hC.1
  have hb := hC.2.1
  have hw := hC.2.2.2.2.1
  obtain ⟨hS, hS0, hB, hB0, hL, hL0, hP, hP0, hwb, hwl⟩ := id hW
  refine lv_aload_n hx hb dX7_append_0 rfl (lv_at hl 0 rfl) ?_
  refine fg_X7_35 hC hM (bq_at h_b) rfl dX7_append_1 ?_
  refine lv_bipush (v := 20) hx hb dX7_append_4 (by decide) ?_
  refine lv_iadd hx hb dX7_append_6 ?_
  refine lv_sipush (v := 700) hx hb dX7_append_7 (by decide) ?_
  refine lv_icmp_le (tgt := 23) hx hb dX7_append_10 (by decide) (fun c_1 => ?_) (fun c_1 => ?_)
  · have c_1 := (br_le (nx_add hil (nx_c 20)) (nx_c 700) (by omega) (by omega)).mp c_1
    exfalso; omega
  · have c_1 := (not_congr (br_le (nx_add hil (nx_c 20)) (nx_c 700) (by omega) (by omega))).mp c_1
    exact me_throw (ic := 78) hC hl.1 hM ht hlk (hXs s hC.2.2.2.2.2.1.2) hfl (by decide +kernel) xn_f w_644 w_24 xg_S xb_S xo_S (str_708) dX7_append_13 dX7_append_16 dX7_append_17 dX7_append_19 dX7_append_22 (Nat.le_of_ble_eq_true rfl) (Nat.le_of_ble_eq_true rfl) (Nat.le_of_ble_eq_true rfl) (Nat.le_of_ble_eq_true rfl) (Nat.le_of_ble_eq_true rfl) (Nat.le_of_ble_eq_true rfl)
set_option maxHeartbeats 4000000 in
theorem c_X5_forecastIllness (l : Launch) (D : va_G) (tb : Nat → ClassId) (X : State → Prop) (z0 n : Nat) (a : Nat) (g : Nat → Int32) (M0 : me_M) (S B L P : Nat) (hN : ∀ U, X U → me_nest U) (b hh : Nat)  (hW : wf g S B L P) (hb9 : b < B) (hh0 : hh ≤ 200) : Met l yX5_forecastIllness (.code yX5_forecastIllness cX5_forecastIllness 5 (some .int) :: ws_all) ({ frames := 4, cells := 1, slots := 6, locals := 90 } : Room) (me_Pc [.ref a, .int (nI b), .int (nI hh)] D tb X z0 (sp tb a g M0) n) (me_Qi D z0 (fcF g L P b hh) (sp tb a g (me_up M0 n (.inr (0, [.int (g (89 + 11 * b + 5)), .int (g (89 + 11 * b)), .int ((it (fcS g L P (hm g b)) hh 0 (g (89 + 11 * b + 1), g (89 + 11 * b + 3), g (89 + 11 * b + 4))).1), .int (g (89 + 11 * b + 2)), .int ((it (fcS g L P (hm g b)) hh 0 (g (89 + 11 * b + 1), g (89 + 11 * b + 3), g (89 + 11 * b + 4))).2.1), .int ((it (fcS g L P (hm g b)) hh 0 (g (89 + 11 * b + 1), g (89 + 11 * b + 3), g (89 + 11 * b + 4))).2.2)])))) (n + 1)) 1 6 (me_A z0) := by
  refine me_open (by decide) (Nat.le_of_ble_eq_true rfl) ?_
  intro p e s m args below meth c ls hC hr hlk hnm hM hl
  have hl : lv_has ls 5 [(0, .ref a), (1, .int (nI b)), (2, .int (nI hh))] := hl
  have hx := hC.1
  have hb := hC.2.1
  have hw := hC.2.2.2.2.1
  obtain ⟨hS, hS0, hB, hB0, hL, hL0, hP, hP0, hwb, hwl⟩ := id hW
  have hkb_ := hwb b (by omega)
  have hna := sp_lt hM
  refine me_new (C := RX0) (T := TX0) (N := 6) (ci := 0) (fs := [.int 0, .int 0, .int 0, .int 0, .int 0, .int 0]) (M2 := sp tb a g (me_up M0 n (.inr (0, [.int 0, .int 0, .int 0, .int 0, .int 0, .int 0])))) hC hM in_X0 tyX0 tyX0_ok w_42 w_79 w_4 rfl (fun j hj => by rcases (show j = 0 ∨ j = 1 ∨ j = 2 ∨ j = 3 ∨ j = 4 ∨ j = 5 by omega) with rfl | rfl | rfl | rfl | rfl | rfl <;> rfl) (Nat.le_of_ble_eq_true rfl) (Nat.le_of_ble_eq_true rfl) (sp_upn (by omega)) dX5_forecastIllness_0 (fun H hM => ?_)
  refine lv_dup hx hb dX5_forecastIllness_3 rfl ?_
  refine me_callINv (nA := 0) (As := []) (rest := [.ref n]) hC hl.1 hM (c_X0_init l D tb X z0 (n + 1) _ n) (hN s hC.2.2.2.2.2.1.2).2.1 w_81 w_4 w_82 rfl rfl rfl (by decide +kernel) ⟨Nat.le_of_ble_eq_true rfl, Nat.le_of_ble_eq_true rfl⟩ rfl rfl (Nat.le_of_ble_eq_true rfl) dX5_forecastIllness_4 ⟨Nat.le_of_ble_eq_true rfl, Nat.le_of_ble_eq_true rfl⟩ (fun H locs hM => ?_)
  refine lv_astore_n (lv' := [(3, .ref n), (0, .ref a), (1, .int (nI b)), (2, .int (nI hh))]) hx hb dX5_forecastIllness_7 rfl hl (by decide) rfl (fun ls hl => ?_)
  refine lv_aload_n hx hb dX5_forecastIllness_8 rfl (lv_at hl 0 rfl) ?_
  refine lv_aload_n hx hb dX5_forecastIllness_9 rfl (lv_at hl 1 rfl) ?_
  refine fg_X5_19 hC hM (sp_st _ _ _ _) rfl dX5_forecastIllness_10 ?_
  refine lv_iload_n hx hb dX5_forecastIllness_13 rfl (lv_at hl 2 rfl) ?_
  refine me_aald (k := b) hC hM (sp_a2 _ _ _ _) (t0 := 7) rfl rfl (by omega) (by decide) (sp_arr_at (by omega)) dX5_forecastIllness_14 ?_
  refine me_callVv (As := [.ref (a + 13 + b)]) (rest := []) hC hl.1 hM (c_X0_copyFrom l D tb X z0 (n + 1) _ _ _ _ _ _ _ _ _ _ _ _ _ _ _ ((sp_out (by omega)).trans (me_up_s _ _ _)) (sp_borrower _ _ _ _ (by omega)) (by omega)) (kv_X5_71 hw rfl rfl ⟨Nat.le_of_ble_eq_true rfl, Nat.le_of_ble_eq_true rfl⟩) rfl rfl ((sp_out (by omega)).trans (me_up_s _ _ _)) rfl (Nat.le_of_ble_eq_true rfl) dX5_forecastIllness_15 ⟨Nat.le_of_ble_eq_true rfl, Nat.le_of_ble_eq_true rfl⟩ (fun H locs hM => ?_)
  have hM := hM.eq (sp_upo (by omega))
  refine lv_iconst (v := 0) hx hb dX5_forecastIllness_18 (by decide) ?_
  refine lv_istore (lv' := [(4, .int 0), (3, .ref n), (0, .ref a), (1, .int (nI b)), (2, .int (nI hh))]) hx hb dX5_forecastIllness_19 hl (by decide) rfl (fun ls hl => ?_)
  have lp_21 : ∀ (r : Nat) (k : Nat) (t : Int32 × Int32 × Int32) (H : Heap) (locs : List Loc) (ls : Array Slot), (k + r = hh) → (it (fcS g L P (hm g b)) hh 0 (g (89 + 11 * b + 1), g (89 + 11 * b + 3), g (89 + 11 * b + 4)) = it (fcS g L P (hm g b)) r k t) → me_at D z0 (sp tb a g (me_up M0 n (.inr (0, [.int (g (89 + 11 * b + 5)), .int (g (89 + 11 * b)), .int t.1, .int (g (89 + 11 * b + 2)), .int t.2.1, .int t.2.2])))) (n + 1) s H locs → lv_has ls 5 [(0, .ref a), (1, .int (nI b)), (2, .int (nI hh)), (3, .ref n), (4, .int (nI k))] → W p l e (({ frames := 4, cells := 1, slots := 6, locals := 90 } : Room)) s m args below meth c H locs 1 6 (MQ below (me_Qi D z0 (fcF g L P b hh) (sp tb a g (me_up M0 n (.inr (0, [.int (g (89 + 11 * b + 5)), .int (g (89 + 11 * b)), .int ((it (fcS g L P (hm g b)) hh 0 (g (89 + 11 * b + 1), g (89 + 11 * b + 3), g (89 + 11 * b + 4))).1), .int (g (89 + 11 * b + 2)), .int ((it (fcS g L P (hm g b)) hh 0 (g (89 + 11 * b + 1), g (89 + 11 * b + 3), g (89 + 11 * b + 4))).2.1), .int ((it (fcS g L P (hm g b)) hh 0 (g (89 + 11 * b + 1), g (89 + 11 * b + 3), g (89 + 11 * b + 4))).2.2)])))) (n + 1)) args s 1 6 (me_A z0)) (F0 m 21 ls []) := by
    intro r
    refine Nat.strongRecOn r ?_
    intro r ih_21 k t H locs ls hk hq hM hl
    refine lv_iload hx hb dX5_forecastIllness_21 (lv_at hl 4 rfl) ?_
    refine lv_iload_n hx hb dX5_forecastIllness_23 rfl (lv_at hl 2 rfl) ?_
    refine lv_icmp_ge (tgt := 52) hx hb dX5_forecastIllness_24 (by decide) (fun c_1 => ?_) (fun c_1 => ?_)
    · have c_1 := (br_le rfl rfl (by omega) (by omega)).mp c_1
      refine lv_aload_n hx hb dX5_forecastIllness_52 rfl (lv_at hl 3 rfl) ?_
      refine fg_X5_138 hC hM ((sp_out (by omega)).trans (me_up_s _ _ _)) rfl dX5_forecastIllness_53 ?_
      exact me_iret hC hr hlk hM (by unfold fcF; rw [hq, show r = 0 by omega]; rfl) (by rw [hq, show r = 0 by omega]; rfl) (rfl) dX5_forecastIllness_56
    · have c_1 := (not_congr (br_le rfl rfl (by omega) (by omega))).mp c_1
      obtain ⟨r1, rfl⟩ : ∃ r1, r = r1 + 1 := ⟨r - 1, by omega⟩
      refine lv_aload_n hx hb dX5_forecastIllness_27 rfl (lv_at hl 3 rfl) ?_
      refine lv_aload_n hx hb dX5_forecastIllness_28 rfl (lv_at hl 0 rfl) ?_
      refine lv_aload_n hx hb dX5_forecastIllness_29 rfl (lv_at hl 3 rfl) ?_
      refine fg_X5_87 hC hM ((sp_out (by omega)).trans (me_up_s _ _ _)) rfl dX5_forecastIllness_30 ?_
      refine lv_aload_n hx hb dX5_forecastIllness_33 rfl (lv_at hl 0 rfl) ?_
      refine fg_X5_39 hC hM (sp_st _ _ _ _) rfl dX5_forecastIllness_34 ?_
      refine lv_iload hx hb dX5_forecastIllness_37 (lv_at hl 4 rfl) ?_
      refine lv_iadd hx hb dX5_forecastIllness_39 ?_
      refine me_stk (st2 := [.int ((g 2) + (nI k)), .int (nI (hm g b)), .ref a, .ref n]) (by rw [(hwb b (by omega)).1]) ?_
      refine me_callVi (As := [.int (nI (hm g b)), .int ((g 2) + (nI k))]) (rest := [.ref n]) hC hl.1 hM (c_X5_noiseIn l D tb X z0 (n + 1) a g (me_up M0 n (.inr (0, [.int (g (89 + 11 * b + 5)), .int (g (89 + 11 * b)), .int t.1, .int (g (89 + 11 * b + 2)), .int t.2.1, .int t.2.2]))) S B L P (hm g b) ((g 2) + (nI k)) hN hW (by omega)) (kv_X5_131 hw rfl rfl ⟨Nat.le_of_ble_eq_true rfl, Nat.le_of_ble_eq_true rfl⟩) rfl rfl (sp_st _ _ _ _) rfl (Nat.le_of_ble_eq_true rfl) dX5_forecastIllness_40 ⟨Nat.le_of_ble_eq_true rfl, Nat.le_of_ble_eq_true rfl⟩ (fun H locs hM => ?_)
      refine me_callVv (As := [.int (noF g L P (hm g b) ((g 2) + (nI k)))]) (rest := []) hC hl.1 hM (c_X0_hear l D tb X z0 (n + 1) _ _ _ _ _ _ _ _ (noF g L P (hm g b) ((g 2) + (nI k))) ((sp_out (by omega)).trans (me_up_s _ _ _))) (kv_X5_134 hw rfl rfl ⟨Nat.le_of_ble_eq_true rfl, Nat.le_of_ble_eq_true rfl⟩) rfl rfl ((sp_out (by omega)).trans (me_up_s _ _ _)) rfl (Nat.le_of_ble_eq_true rfl) dX5_forecastIllness_43 ⟨Nat.le_of_ble_eq_true rfl, Nat.le_of_ble_eq_true rfl⟩ (fun H locs hM => ?_)
      have hM := hM.eq (sp_upo (by omega))
      refine lv_iinc (v := nI (k + 1)) (lv' := [(4, .int (nI (k + 1))), (0, .ref a), (1, .int (nI b)), (2, .int (nI hh)), (3, .ref n)]) hx hb dX5_forecastIllness_46 hl (k := 4) rfl (nx_add rfl rfl) (by decide) rfl (fun ls hl => ?_)
      refine lv_goto (tgt := 21) hx hb dX5_forecastIllness_49 (by decide) ?_
      exact ih_21 r1 (by omega) (k + 1) (fcS g L P (hm g b) k t) _ _ _ (by omega) hq hM (lv_sub hl [1, 2, 3, 4, 0] rfl)
  exact lp_21 hh 0 (g (89 + 11 * b + 1), g (89 + 11 * b + 3), g (89 + 11 * b + 4)) _ _ _ (by omega) rfl hM (lv_sub hl [2, 3, 4, 1, 0] rfl)
set_option maxHeartbeats 4000000 in
theorem c_X7_illnessAfter (l : Launch) (D : va_G) (tb : Nat → ClassId) (X : State → Prop) (z0 n : Nat) (bo : Nat) (g : Nat → Int32) (G : Nat → Nat → Int32) (F sf inp out : Nat → Int32) (M0 : me_M) (S B L P : Nat) (hN : ∀ U, X U → me_nest U) (b hh : Nat)  (hW : wf g S B L P) (hb9 : b < B) (hh0 : hh ≤ 200) (hbn : bo + 919 ≤ n) : Met l yX7_illnessAfter (.code yX7_illnessAfter cX7_illnessAfter 3 (some .int) :: ws_all) ({ frames := 5, cells := 1, slots := 6, locals := 114 } : Room) (me_Pc [.ref bo, .int (nI b), .int (nI hh)] D tb X z0 (sp tb (bo + 722) g (bq tb bo G F sf inp out M0)) n) (me_Qi D z0 (fcF g L P b hh) (sp tb (bo + 722) g (bq tb bo G F sf inp out (me_up M0 n (.inr (0, fcC g L P b hh))))) (n + 1)) 1 6 (me_A z0) := by
  refine me_open (by decide) (Nat.le_of_ble_eq_true rfl) ?_
  intro p e s m args below meth c ls hC hr hlk hnm hM hl
  have hl : lv_has ls 3 [(0, .ref bo), (1, .int (nI b)), (2, .int (nI hh))] := hl
  have hx := hC.1
  have hb := hC.2.1
  have hw := hC.2.2.2.2.1
  obtain ⟨hS, hS0, hB, hB0, hL, hL0, hP, hP0, hwb, hwl⟩ := id hW
  refine lv_aload_n hx hb dX7_illnessAfter_0 rfl (lv_at hl 0 rfl) ?_
  refine lv_iload_n hx hb dX7_illnessAfter_1 rfl (lv_at hl 1 rfl) ?_
  refine me_callVv (As := [.int (nI b)]) (rest := []) hC hl.1 hM (c_X7_needBorrower l D tb X z0 n bo g G F sf inp out M0 S B L P b hW (by omega)) (kv_X7_167 hw rfl rfl ⟨Nat.le_of_ble_eq_true rfl, Nat.le_of_ble_eq_true rfl⟩) rfl rfl (bq_at h_b) rfl (Nat.le_of_ble_eq_true rfl) dX7_illnessAfter_2 ⟨Nat.le_of_ble_eq_true rfl, Nat.le_of_ble_eq_true rfl⟩ (fun H locs hM => ?_)
  refine lv_iload_n hx hb dX7_illnessAfter_5 rfl (lv_at hl 2 rfl) ?_
  refine lv_if_lt (tgt := 16) hx hb dX7_illnessAfter_6 (by decide) (fun c_1 => ?_) (fun c_1 => ?_)
  · have c_1 := (br_lt rfl (show (0 : Int32) = nI 0 from rfl) (by omega) (by omega)).mp c_1
    exfalso; omega
  · have c_1 := (not_congr (br_lt rfl (show (0 : Int32) = nI 0 from rfl) (by omega) (by omega))).mp c_1
    refine lv_iload_n hx hb dX7_illnessAfter_9 rfl (lv_at hl 2 rfl) ?_
    refine lv_sipush (v := 200) hx hb dX7_illnessAfter_10 (by decide) ?_
    refine lv_icmp_le (tgt := 26) hx hb dX7_illnessAfter_13 (by decide) (fun c_2 => ?_) (fun c_2 => ?_)
    · have c_2 := (br_le rfl (nx_c 200) (by omega) (by omega)).mp c_2
      refine lv_aload_n hx hb dX7_illnessAfter_26 rfl (lv_at hl 0 rfl) ?_
      refine fg_X7_71 hC hM (bq_at h_b) rfl dX7_illnessAfter_27 ?_
      refine lv_iload_n hx hb dX7_illnessAfter_30 rfl (lv_at hl 1 rfl) ?_
      refine lv_iload_n hx hb dX7_illnessAfter_31 rfl (lv_at hl 2 rfl) ?_
      refine me_callVi (As := [.int (nI b), .int (nI hh)]) (rest := []) hC hl.1 hM (c_X5_forecastIllness l D tb X z0 n (bo + 722) g (bq tb bo G F sf inp out M0) S B L P hN b hh hW (by omega) (by omega)) (kv_X7_248 hw rfl rfl ⟨Nat.le_of_ble_eq_true rfl, Nat.le_of_ble_eq_true rfl⟩) rfl rfl (sp_st _ _ _ _) rfl (Nat.le_of_ble_eq_true rfl) dX7_illnessAfter_32 ⟨Nat.le_of_ble_eq_true rfl, Nat.le_of_ble_eq_true rfl⟩ (fun H locs hM => ?_)
      have hM := hM.eq (bq_fc (by omega))
      exact me_iret hC hr hlk hM (by first | rfl | simp [c_1, c_2]) (rfl) (rfl) dX7_illnessAfter_35
    · have c_2 := (not_congr (br_le rfl (nx_c 200) (by omega) (by omega))).mp c_2
      exfalso; omega
set_option maxHeartbeats 4000000 in
theorem c_X7_illnessAfter_x1 (l : Launch) (D : va_G) (tb : Nat → ClassId) (X : State → Prop) (z0 n : Nat) (bo : Nat) (g : Nat → Int32) (G : Nat → Nat → Int32) (F sf inp out : Nat → Int32) (M0 : me_M) (S B L P : Nat) (x : Int32) (y9 : Int32)  (hfl : l.stackTraces = false) (hXs : ∀ U, X U → me_xs z0 U) (hbad : x < 0 ∨ g 4 ≤ x) : vx_Met l yX7_illnessAfter (.code yX7_illnessAfter cX7_illnessAfter 3 (some .int) :: ws_all) ({ frames := 7, cells := 1, slots := 6, locals := 111 } : Room) (me_Pc [.ref bo, .int x, .int y9] D tb X z0 (sp tb (bo + 722) g (bq tb bo G F sf inp out M0)) n) me_no (me_XC D z0 (sp tb (bo + 722) g (bq tb bo G F sf inp out M0)) "java/lang/IndexOutOfBoundsException") 1 6 (me_A z0) := by
  refine me_openX (by decide) (Nat.le_of_ble_eq_true rfl) ?_
  intro p e s m args below meth c ls hC ht hlk hM hl
  have hl : lv_has ls 3 [(0, .ref bo), (1, .int x), (2, .int y9)] := hl
  have hx := hC.1
  have hb := hC.2.1
  have hw := hC.2.2.2.2.1
  refine lv_aload_n hx hb dX7_illnessAfter_0 rfl (lv_at hl 0 rfl) ?_
  refine lv_iload_n hx hb dX7_illnessAfter_1 rfl (lv_at hl 1 rfl) ?_
  exact me_xV (As := [.int x]) (rest := []) hC hl.1 hM (c_X7_needBorrower_x l D tb X z0 n bo g G F sf inp out M0 S B L P x hfl hXs hbad) (kv_X7_167 hw rfl rfl ⟨Nat.le_of_ble_eq_true rfl, Nat.le_of_ble_eq_true rfl⟩) rfl rfl (bq_at h_b) rfl (Nat.le_of_ble_eq_true rfl) dX7_illnessAfter_2 ⟨Nat.le_of_ble_eq_true rfl, Nat.le_of_ble_eq_true rfl⟩ ht hlk (Nat.le_of_ble_eq_true rfl) (Nat.le_of_ble_eq_true rfl)
set_option maxHeartbeats 4000000 in
theorem c_X7_illnessAfter_x2 (l : Launch) (D : va_G) (tb : Nat → ClassId) (X : State → Prop) (z0 n : Nat) (bo : Nat) (g : Nat → Int32) (G : Nat → Nat → Int32) (F sf inp out : Nat → Int32) (M0 : me_M) (S B L P : Nat) (b : Nat) (x : Int32)  (hfl : l.stackTraces = false) (hXs : ∀ U, X U → me_xs z0 U) (hW : wf g S B L P) (hb9 : b < B) (hbad : x < 0 ∨ 200 < x) : vx_Met l yX7_illnessAfter (.code yX7_illnessAfter cX7_illnessAfter 3 (some .int) :: ws_all) ({ frames := 6, cells := 1, slots := 6, locals := 90 } : Room) (me_Pc [.ref bo, .int (nI b), .int x] D tb X z0 (sp tb (bo + 722) g (bq tb bo G F sf inp out M0)) n) me_no (me_XC D z0 (sp tb (bo + 722) g (bq tb bo G F sf inp out M0)) "java/lang/IllegalArgumentException") 1 6 (me_A z0) := by
  refine me_openX (by decide) (Nat.le_of_ble_eq_true rfl) ?_
  intro p e s m args below meth c ls hC ht hlk hM hl
  have hl : lv_has ls 3 [(0, .ref bo), (1, .int (nI b)), (2, .int x)] := hl
  have hx := hC.1
  have hb := hC.2.1
  have hw := hC.2.2.2.2.1
  obtain ⟨hS, hS0, hB, hB0, hL, hL0, hP, hP0, hwb, hwl⟩ := id hW
  refine lv_aload_n hx hb dX7_illnessAfter_0 rfl (lv_at hl 0 rfl) ?_
  refine lv_iload_n hx hb dX7_illnessAfter_1 rfl (lv_at hl 1 rfl) ?_
  refine me_callVv (As := [.int (nI b)]) (rest := []) hC hl.1 hM (c_X7_needBorrower l D tb X z0 n bo g G F sf inp out M0 S B L P b hW (by omega)) (kv_X7_167 hw rfl rfl ⟨Nat.le_of_ble_eq_true rfl, Nat.le_of_ble_eq_true rfl⟩) rfl rfl (bq_at h_b) rfl (Nat.le_of_ble_eq_true rfl) dX7_illnessAfter_2 ⟨Nat.le_of_ble_eq_true rfl, Nat.le_of_ble_eq_true rfl⟩ (fun H locs hM => ?_)
  refine lv_iload_n hx hb dX7_illnessAfter_5 rfl (lv_at hl 2 rfl) ?_
  refine lv_if_lt (tgt := 16) hx hb dX7_illnessAfter_6 (by decide) (fun c_1 => ?_) (fun c_1 => ?_)
  · have c_1q := Int32.not_le.mpr c_1
    exact me_throw (ic := 103) hC hl.1 hM ht hlk (hXs s hC.2.2.2.2.2.1.2) hfl (by decide +kernel) xn_f w_722 w_23 xg_A xb_A xo_A (str_849) dX7_illnessAfter_16 dX7_illnessAfter_19 dX7_illnessAfter_20 dX7_illnessAfter_22 dX7_illnessAfter_25 (Nat.le_of_ble_eq_true rfl) (Nat.le_of_ble_eq_true rfl) (Nat.le_of_ble_eq_true rfl) (Nat.le_of_ble_eq_true rfl) (Nat.le_of_ble_eq_true rfl) (Nat.le_of_ble_eq_true rfl)
  · have c_1q := Int32.not_lt.mp c_1
    refine lv_iload_n hx hb dX7_illnessAfter_9 rfl (lv_at hl 2 rfl) ?_
    refine lv_sipush (v := 200) hx hb dX7_illnessAfter_10 (by decide) ?_
    refine lv_icmp_le (tgt := 26) hx hb dX7_illnessAfter_13 (by decide) (fun c_2 => ?_) (fun c_2 => ?_)
    · have c_2q := c_2
      have c_2 := Int32.not_lt.mpr c_2
      exact hbad.elim (fun h => absurd h c_1) (fun h => absurd h c_2)
    · have c_2q := c_2
      have c_2 := Int32.not_le.mp c_2
      exact me_throw (ic := 103) hC hl.1 hM ht hlk (hXs s hC.2.2.2.2.2.1.2) hfl (by decide +kernel) xn_f w_722 w_23 xg_A xb_A xo_A (str_849) dX7_illnessAfter_16 dX7_illnessAfter_19 dX7_illnessAfter_20 dX7_illnessAfter_22 dX7_illnessAfter_25 (Nat.le_of_ble_eq_true rfl) (Nat.le_of_ble_eq_true rfl) (Nat.le_of_ble_eq_true rfl) (Nat.le_of_ble_eq_true rfl) (Nat.le_of_ble_eq_true rfl) (Nat.le_of_ble_eq_true rfl)
