set_option maxHeartbeats 4000000 in
theorem c_X7_isNightHour (l : Launch) (D : va_G) (tb : Nat → ClassId) (X : State → Prop) (z0 n : Nat) (M : me_M) (h : Int32) : Met l yX7_isNightHour (.code yX7_isNightHour cX7_isNightHour 2 (some .boolean) :: ws_all) ({ frames := 0, cells := 0, slots := 0, locals := 0 } : Room) (me_Pc [.int h] D tb X z0 (M) n) (me_Qi D z0 (b1 (nh h)) (M) n) 0 0 (me_A z0) := by
  refine me_open (by decide) (Nat.le_of_ble_eq_true rfl) ?_
  intro p e s m args below meth c ls hC hr hlk hnm hM hl
  have hl : lv_has ls 2 [(0, .int h)] := hl
  have hx := hC.1
  have hb := hC.2.1
  have hw := hC.2.2.2.2.1
  refine lv_iload_n hx hb dX7_isNightHour_0 rfl (lv_at hl 0 rfl) ?_
  refine lv_bipush (v := 24) hx hb dX7_isNightHour_1 (by decide) ?_
  refine lv_irem hx hb dX7_isNightHour_3 (by decide) ?_
  refine lv_istore_n (lv' := [(1, .int (h - h / 24 * 24)), (0, .int h)]) hx hb dX7_isNightHour_4 rfl hl (by decide) rfl (fun ls hl => ?_)
  refine lv_iload_n hx hb dX7_isNightHour_5 rfl (lv_at hl 0 rfl) ?_
  refine lv_iconst (v := 5) hx hb dX7_isNightHour_6 (by decide) ?_
  refine lv_icmp_le (tgt := 16) hx hb dX7_isNightHour_7 (by decide) (fun c_1 => ?_) (fun c_1 => ?_)
  · have c_1q := c_1
    have c_1 := Int32.not_lt.mpr c_1
    refine lv_iconst (v := 1) hx hb dX7_isNightHour_16 (by decide) ?_
    refine lv_goto (tgt := 21) hx hb dX7_isNightHour_17 (by decide) ?_
    exact me_zret hC hr hlk hM (by first | rfl | simp [b1, nh, c_1, c_1q]) (by first | decide | simp) (rfl) (rfl) dX7_isNightHour_21
  · have c_1q := c_1
    have c_1 := Int32.not_le.mp c_1
    refine lv_iload_n hx hb dX7_isNightHour_10 rfl (lv_at hl 0 rfl) ?_
    refine lv_bipush (v := 22) hx hb dX7_isNightHour_11 (by decide) ?_
    refine lv_icmp_lt (tgt := 20) hx hb dX7_isNightHour_13 (by decide) (fun c_2 => ?_) (fun c_2 => ?_)
    · have c_2q := Int32.not_le.mpr c_2
      refine lv_iconst (v := 0) hx hb dX7_isNightHour_20 (by decide) ?_
      exact me_zret hC hr hlk hM (by first | rfl | simp [b1, nh, c_1, c_2, c_1q, c_2q]) (by first | decide | simp) (rfl) (rfl) dX7_isNightHour_21
    · have c_2q := Int32.not_lt.mp c_2
      refine lv_iconst (v := 1) hx hb dX7_isNightHour_16 (by decide) ?_
      refine lv_goto (tgt := 21) hx hb dX7_isNightHour_17 (by decide) ?_
      exact me_zret hC hr hlk hM (by first | rfl | simp [b1, nh, c_1, c_2, c_1q, c_2q]) (by first | decide | simp) (rfl) (rfl) dX7_isNightHour_21
set_option maxHeartbeats 4000000 in
theorem c_X5_streetOfLoan (l : Launch) (D : va_G) (tb : Nat → ClassId) (X : State → Prop) (z0 n : Nat) (a : Nat) (g : Nat → Int32) (M0 : me_M) (S B L P : Nat) (k : Nat)  (hW : wf g S B L P) (hk : k < L) : Met l yX5_streetOfLoan (.code yX5_streetOfLoan cX5_streetOfLoan 2 (some .int) :: ws_all) ({ frames := 0, cells := 0, slots := 0, locals := 0 } : Room) (me_Pc [.ref a, .int (nI k)] D tb X z0 (sp tb a g M0) n) (me_Qi D z0 (g (89 + 11 * (ow g k))) (sp tb a g M0) n) 0 0 (me_A z0) := by
  refine me_open (by decide) (Nat.le_of_ble_eq_true rfl) ?_
  intro p e s m args below meth c ls hC hr hlk hnm hM hl
  have hl : lv_has ls 2 [(0, .ref a), (1, .int (nI k))] := hl
  have hx := hC.1
  have hb := hC.2.1
  have hw := hC.2.2.2.2.1
  obtain ⟨hS, hS0, hB, hB0, hL, hL0, hP, hP0, hwb, hwl⟩ := id hW
  have hkl_ := hwl k (by omega)
  refine lv_aload_n hx hb dX5_streetOfLoan_0 rfl (lv_at hl 0 rfl) ?_
  refine fg_X5_19 hC hM (sp_st _ _ _ _) rfl dX5_streetOfLoan_1 ?_
  refine lv_aload_n hx hb dX5_streetOfLoan_4 rfl (lv_at hl 0 rfl) ?_
  refine fg_X5_25 hC hM (sp_st _ _ _ _) rfl dX5_streetOfLoan_5 ?_
  refine lv_iload_n hx hb dX5_streetOfLoan_8 rfl (lv_at hl 1 rfl) ?_
  refine me_aald (k := k) hC hM (sp_a3 _ _ _ _) (t0 := 8) rfl rfl (by omega) (by decide) (sp_arr_at (by omega)) dX5_streetOfLoan_9 ?_
  refine fg_X5_84 hC hM (sp_loan _ _ _ _ (by omega)) rfl dX5_streetOfLoan_10 ?_
  refine me_aald (k := ow g k) hC hM (sp_a2 _ _ _ _) (t0 := 7) rfl (hwl k (by omega)).1 (by omega) (by decide) (sp_arr_at (by omega)) dX5_streetOfLoan_13 ?_
  refine fg_X5_87 hC hM (sp_borrower _ _ _ _ (by omega)) rfl dX5_streetOfLoan_14 ?_
  exact me_iret hC hr hlk hM (by first | rfl | simp []) (rfl) (rfl) dX5_streetOfLoan_17
set_option maxHeartbeats 4000000 in
theorem c_X5_price (l : Launch) (D : va_G) (tb : Nat → ClassId) (X : State → Prop) (z0 n : Nat) (a : Nat) (g : Nat → Int32) (M0 : me_M) (S B L P : Nat) (b : Nat) (n9 : Int32)  (hW : wf g S B L P) (hb9 : b < B) : Met l yX5_price (.code yX5_price cX5_price 3 (some .int) :: ws_all) ({ frames := 0, cells := 0, slots := 0, locals := 0 } : Room) (me_Pc [.ref a, .int (nI b), .int n9] D tb X z0 (sp tb a g M0) n) (me_Qi D z0 (prF g b n9) (sp tb a g M0) n) 0 0 (me_A z0) := by
  refine me_open (by decide) (Nat.le_of_ble_eq_true rfl) ?_
  intro p e s m args below meth c ls hC hr hlk hnm hM hl
  have hl : lv_has ls 3 [(0, .ref a), (1, .int (nI b)), (2, .int n9)] := hl
  have hx := hC.1
  have hb := hC.2.1
  have hw := hC.2.2.2.2.1
  obtain ⟨hS, hS0, hB, hB0, hL, hL0, hP, hP0, hwb, hwl⟩ := id hW
  have hkb_ := hwb b (by omega)
  refine lv_iload_n hx hb dX5_price_0 rfl (lv_at hl 2 rfl) ?_
  refine lv_aload_n hx hb dX5_price_1 rfl (lv_at hl 0 rfl) ?_
  refine fg_X5_11 hC hM (sp_st _ _ _ _) rfl dX5_price_2 ?_
  refine lv_aload_n hx hb dX5_price_5 rfl (lv_at hl 0 rfl) ?_
  refine fg_X5_19 hC hM (sp_st _ _ _ _) rfl dX5_price_6 ?_
  refine lv_iload_n hx hb dX5_price_9 rfl (lv_at hl 1 rfl) ?_
  refine me_aald (k := b) hC hM (sp_a2 _ _ _ _) (t0 := 7) rfl rfl (by omega) (by decide) (sp_arr_at (by omega)) dX5_price_10 ?_
  refine fg_X5_87 hC hM (sp_borrower _ _ _ _ (by omega)) rfl dX5_price_11 ?_
  refine me_aald (k := hm g b) hC hM (sp_a1 _ _ _ _) (t0 := 6) rfl (hwb b (by omega)).1 (by omega) (by decide) (sp_arr_at (by omega)) dX5_price_14 ?_
  refine fg_X5_125 hC hM (sp_street _ _ _ _ (by omega)) rfl dX5_price_15 ?_
  refine lv_bipush (v := 10) hx hb dX5_price_18 (by decide) ?_
  refine lv_idiv hx hb dX5_price_20 (by decide) ?_
  refine lv_iconst (v := 1) hx hb dX5_price_21 (by decide) ?_
  refine lv_iadd hx hb dX5_price_22 ?_
  refine lv_imul hx hb dX5_price_23 ?_
  exact me_iret hC hr hlk hM (by simp [prF]) (rfl) (rfl) dX5_price_24
set_option maxHeartbeats 4000000 in
theorem c_X5_canDisplace (l : Launch) (D : va_G) (tb : Nat → ClassId) (X : State → Prop) (z0 n : Nat) (a : Nat) (g : Nat → Int32) (M0 : me_M) (S B L P : Nat) (b k : Nat)  (hW : wf g S B L P) (hb9 : b < B) (hk : k < L) : Met l yX5_canDisplace (.code yX5_canDisplace cX5_canDisplace 3 (some .boolean) :: ws_all) ({ frames := 0, cells := 0, slots := 0, locals := 0 } : Room) (me_Pc [.ref a, .int (nI b), .int (nI k)] D tb X z0 (sp tb a g M0) n) (me_Qi D z0 (b1 (cdF g b k)) (sp tb a g M0) n) 0 0 (me_A z0) := by
  refine me_open (by decide) (Nat.le_of_ble_eq_true rfl) ?_
  intro p e s m args below meth c ls hC hr hlk hnm hM hl
  have hl : lv_has ls 3 [(0, .ref a), (1, .int (nI b)), (2, .int (nI k))] := hl
  have hx := hC.1
  have hb := hC.2.1
  have hw := hC.2.2.2.2.1
  obtain ⟨hS, hS0, hB, hB0, hL, hL0, hP, hP0, hwb, hwl⟩ := id hW
  have hkl_ := hwl k (by omega)
  refine lv_aload_n hx hb dX5_canDisplace_0 rfl (lv_at hl 0 rfl) ?_
  refine fg_X5_25 hC hM (sp_st _ _ _ _) rfl dX5_canDisplace_1 ?_
  refine lv_iload_n hx hb dX5_canDisplace_4 rfl (lv_at hl 2 rfl) ?_
  refine me_aald (k := k) hC hM (sp_a3 _ _ _ _) (t0 := 8) rfl rfl (by omega) (by decide) (sp_arr_at (by omega)) dX5_canDisplace_5 ?_
  refine fg_X5_90 hC hM (sp_loan _ _ _ _ (by omega)) rfl dX5_canDisplace_6 ?_
  refine lv_if_ne (tgt := 45) hx hb dX5_canDisplace_9 (by decide) (fun c_1 => ?_) (fun c_1 => ?_)
  · refine lv_iconst (v := 0) hx hb dX5_canDisplace_45 (by decide) ?_
    exact me_zret hC hr hlk hM (by first | rfl | simp [b1, cdF, c_1]) (by first | decide | simp) (rfl) (rfl) dX5_canDisplace_46
  · refine lv_aload_n hx hb dX5_canDisplace_12 rfl (lv_at hl 0 rfl) ?_
    refine fg_X5_19 hC hM (sp_st _ _ _ _) rfl dX5_canDisplace_13 ?_
    refine lv_aload_n hx hb dX5_canDisplace_16 rfl (lv_at hl 0 rfl) ?_
    refine fg_X5_25 hC hM (sp_st _ _ _ _) rfl dX5_canDisplace_17 ?_
    refine lv_iload_n hx hb dX5_canDisplace_20 rfl (lv_at hl 2 rfl) ?_
    refine me_aald (k := k) hC hM (sp_a3 _ _ _ _) (t0 := 8) rfl rfl (by omega) (by decide) (sp_arr_at (by omega)) dX5_canDisplace_21 ?_
    refine fg_X5_84 hC hM (sp_loan _ _ _ _ (by omega)) rfl dX5_canDisplace_22 ?_
    refine me_aald (k := ow g k) hC hM (sp_a2 _ _ _ _) (t0 := 7) rfl (hwl k (by omega)).1 (by omega) (by decide) (sp_arr_at (by omega)) dX5_canDisplace_25 ?_
    refine fg_X5_138 hC hM (sp_borrower _ _ _ _ (by omega)) rfl dX5_canDisplace_26 ?_
    refine lv_aload_n hx hb dX5_canDisplace_29 rfl (lv_at hl 0 rfl) ?_
    refine fg_X5_19 hC hM (sp_st _ _ _ _) rfl dX5_canDisplace_30 ?_
    refine lv_iload_n hx hb dX5_canDisplace_33 rfl (lv_at hl 1 rfl) ?_
    refine me_aald (k := b) hC hM (sp_a2 _ _ _ _) (t0 := 7) rfl rfl (by omega) (by decide) (sp_arr_at (by omega)) dX5_canDisplace_34 ?_
    refine fg_X5_138 hC hM (sp_borrower _ _ _ _ (by omega)) rfl dX5_canDisplace_35 ?_
    refine lv_icmp_ge (tgt := 45) hx hb dX5_canDisplace_38 (by decide) (fun c_2 => ?_) (fun c_2 => ?_)
    · have c_2q := c_2
      have c_2 := Int32.not_lt.mpr c_2
      refine lv_iconst (v := 0) hx hb dX5_canDisplace_45 (by decide) ?_
      exact me_zret hC hr hlk hM (by first | rfl | simp [b1, cdF, c_1, c_2, c_2q]) (by first | decide | simp) (rfl) (rfl) dX5_canDisplace_46
    · have c_2q := c_2
      have c_2 := Int32.not_le.mp c_2
      refine lv_iconst (v := 1) hx hb dX5_canDisplace_41 (by decide) ?_
      refine lv_goto (tgt := 46) hx hb dX5_canDisplace_42 (by decide) ?_
      exact me_zret hC hr hlk hM (by first | rfl | simp [b1, cdF, c_1, c_2, c_2q]) (by first | decide | simp) (rfl) (rfl) dX5_canDisplace_46
set_option maxHeartbeats 4000000 in
theorem c_X5_firstPermit (l : Launch) (D : va_G) (tb : Nat → ClassId) (X : State → Prop) (z0 n : Nat) (a : Nat) (g : Nat → Int32) (M0 : me_M) (S B L P : Nat) (b s0 n9 : Nat)  (hW : wf g S B L P) (hb9 : b < B) (hs9 : s0 + n9 < 20000) : Met l yX5_firstPermit (.code yX5_firstPermit cX5_firstPermit 6 (some .int) :: ws_all) ({ frames := 2, cells := 0, slots := 0, locals := 45 } : Room) (me_Pc [.ref a, .int (nI b), .int (nI s0), .int (nI n9)] D tb X z0 (sp tb a g M0) n) (me_Qi D z0 (fpF g P b s0 n9) (sp tb a g M0) n) 0 0 (me_A z0) := by
  refine me_open (by decide) (Nat.le_of_ble_eq_true rfl) ?_
  intro p e s m args below meth c ls hC hr hlk hnm hM hl
  have hl : lv_has ls 6 [(0, .ref a), (1, .int (nI b)), (2, .int (nI s0)), (3, .int (nI n9))] := hl
  have hx := hC.1
  have hb := hC.2.1
  have hw := hC.2.2.2.2.1
  obtain ⟨hS, hS0, hB, hB0, hL, hL0, hP, hP0, hwb, hwl⟩ := id hW
  refine lv_iload_n hx hb dX5_firstPermit_0 rfl (lv_at hl 2 rfl) ?_
  refine lv_istore (lv' := [(4, .int (nI s0)), (0, .ref a), (1, .int (nI b)), (2, .int (nI s0)), (3, .int (nI n9))]) hx hb dX5_firstPermit_1 hl (by decide) rfl (fun ls hl => ?_)
  have lp_3 : ∀ (r : Nat) (j : Nat) (H : Heap) (locs : List Loc) (ls : Array Slot), (j + r = n9) → (fpF g P b s0 n9 = fv (fun j => peF g P (g (89 + 11 * b)) (nI (s0 + j))) r j) → me_at D z0 (sp tb a g M0) n s H locs → lv_has ls 6 [(0, .ref a), (1, .int (nI b)), (2, .int (nI s0)), (3, .int (nI n9)), (4, .int (nI (s0 + j)))] → W p l e (({ frames := 2, cells := 0, slots := 0, locals := 45 } : Room)) s m args below meth c H locs 0 0 (MQ below (me_Qi D z0 (fpF g P b s0 n9) (sp tb a g M0) n) args s 0 0 (me_A z0)) (F0 m 3 ls []) := by
    intro r
    refine Nat.strongRecOn r ?_
    intro r ih_3 j H locs ls hk hq hM hl
    refine lv_iload hx hb dX5_firstPermit_3 (lv_at hl 4 rfl) ?_
    refine lv_iload_n hx hb dX5_firstPermit_5 rfl (lv_at hl 2 rfl) ?_
    refine lv_iload_n hx hb dX5_firstPermit_6 rfl (lv_at hl 3 rfl) ?_
    refine lv_iadd hx hb dX5_firstPermit_7 ?_
    refine lv_icmp_ge (tgt := 43) hx hb dX5_firstPermit_8 (by decide) (fun c_1 => ?_) (fun c_1 => ?_)
    · have c_1 := (br_le (nx_add rfl rfl) rfl (by omega) (by omega)).mp c_1
      refine lv_iconst (v := (-1)) hx hb dX5_firstPermit_43 (by decide) ?_
      exact me_iret hC hr hlk hM (by rw [hq, show r = 0 by omega]; rfl) (rfl) (rfl) dX5_firstPermit_44
    · have c_1 := (not_congr (br_le (nx_add rfl rfl) rfl (by omega) (by omega))).mp c_1
      obtain ⟨r1, rfl⟩ : ∃ r1, r = r1 + 1 := ⟨r - 1, by omega⟩
      refine lv_aload_n hx hb dX5_firstPermit_11 rfl (lv_at hl 0 rfl) ?_
      refine lv_aload_n hx hb dX5_firstPermit_12 rfl (lv_at hl 0 rfl) ?_
      refine fg_X5_19 hC hM (sp_st _ _ _ _) rfl dX5_firstPermit_13 ?_
      refine lv_iload_n hx hb dX5_firstPermit_16 rfl (lv_at hl 1 rfl) ?_
      refine me_aald (k := b) hC hM (sp_a2 _ _ _ _) (t0 := 7) rfl rfl (by omega) (by decide) (sp_arr_at (by omega)) dX5_firstPermit_17 ?_
      refine fg_X5_87 hC hM (sp_borrower _ _ _ _ (by omega)) rfl dX5_firstPermit_18 ?_
      refine lv_iload hx hb dX5_firstPermit_21 (lv_at hl 4 rfl) ?_
      refine me_callVi (As := [.int (g (89 + 11 * b)), .int (nI (s0 + j))]) (rest := []) hC hl.1 hM (c_X5_permitAt l D tb X z0 n a g M0 P (g (89 + 11 * b)) (nI (s0 + j)) hP hP0) (kv_X5_128 hw rfl rfl ⟨Nat.le_of_ble_eq_true rfl, Nat.le_of_ble_eq_true rfl⟩) rfl rfl (sp_st _ _ _ _) rfl (Nat.le_of_ble_eq_true rfl) dX5_firstPermit_23 ⟨Nat.le_of_ble_eq_true rfl, Nat.le_of_ble_eq_true rfl⟩ (fun H locs hM => ?_)
      refine lv_istore (lv' := [(5, .int (peF g P (g (89 + 11 * b)) (nI (s0 + j)))), (0, .ref a), (1, .int (nI b)), (2, .int (nI s0)), (3, .int (nI n9)), (4, .int (nI (s0 + j)))]) hx hb dX5_firstPermit_26 hl (by decide) rfl (fun ls hl => ?_)
      refine lv_iload hx hb dX5_firstPermit_28 (lv_at hl 0 rfl) ?_
      refine lv_iconst (v := (-1)) hx hb dX5_firstPermit_30 (by decide) ?_
      refine lv_icmp_eq (tgt := 37) hx hb dX5_firstPermit_31 (by decide) (fun c_2 => ?_) (fun c_2 => ?_)
      · refine lv_iinc (v := nI (s0 + j + 1)) (lv' := [(4, .int (nI (s0 + j + 1))), (5, .int (peF g P (g (89 + 11 * b)) (nI (s0 + j)))), (0, .ref a), (1, .int (nI b)), (2, .int (nI s0)), (3, .int (nI n9))]) hx hb dX5_firstPermit_37 hl (k := 5) rfl (nx_add rfl rfl) (by decide) rfl (fun ls hl => ?_)
        refine lv_goto (tgt := 3) hx hb dX5_firstPermit_40 (by decide) ?_
        exact ih_3 r1 (by omega) (j + 1) _ _ _ (by omega) (hq.trans (fv_f (c_2))) hM (lv_sub hl [2, 3, 4, 5, 0] rfl)
      · refine lv_iload hx hb dX5_firstPermit_34 (lv_at hl 0 rfl) ?_
        exact me_iret hC hr hlk hM (by rw [hq, fv_t (F := fun j => peF g P (g (89 + 11 * b)) (nI (s0 + j))) (k := j) c_2]) (rfl) (rfl) dX5_firstPermit_36
  exact lp_3 n9 0 _ _ _ (by omega) rfl hM (lv_sub hl [1, 2, 3, 4, 0] rfl)
set_option maxHeartbeats 4000000 in
theorem c_X5_firstObstacle (l : Launch) (D : va_G) (tb : Nat → ClassId) (X : State → Prop) (z0 n : Nat) (a : Nat) (g : Nat → Int32) (M0 : me_M) (S B L P : Nat) (b s0 n9 : Nat)  (hW : wf g S B L P) (hb9 : b < B) (hs9 : s0 + n9 < 20000) : Met l yX5_firstObstacle (.code yX5_firstObstacle cX5_firstObstacle 6 (some .int) :: ws_all) ({ frames := 2, cells := 0, slots := 0, locals := 44 } : Room) (me_Pc [.ref a, .int (nI b), .int (nI s0), .int (nI n9)] D tb X z0 (sp tb a g M0) n) (me_Qi D z0 (foF g L b s0 n9) (sp tb a g M0) n) 0 0 (me_A z0) := by
  refine me_open (by decide) (Nat.le_of_ble_eq_true rfl) ?_
  intro p e s m args below meth c ls hC hr hlk hnm hM hl
  have hl : lv_has ls 6 [(0, .ref a), (1, .int (nI b)), (2, .int (nI s0)), (3, .int (nI n9))] := hl
  have hx := hC.1
  have hb := hC.2.1
  have hw := hC.2.2.2.2.1
  obtain ⟨hS, hS0, hB, hB0, hL, hL0, hP, hP0, hwb, hwl⟩ := id hW
  refine lv_iload_n hx hb dX5_firstObstacle_0 rfl (lv_at hl 2 rfl) ?_
  refine lv_istore (lv' := [(4, .int (nI s0)), (0, .ref a), (1, .int (nI b)), (2, .int (nI s0)), (3, .int (nI n9))]) hx hb dX5_firstObstacle_1 hl (by decide) rfl (fun ls hl => ?_)
  have lp_3 : ∀ (r : Nat) (j : Nat) (H : Heap) (locs : List Loc) (ls : Array Slot), (j + r = n9) → (foF g L b s0 n9 = fv (fun j => obF g L b (nI (s0 + j))) r j) → me_at D z0 (sp tb a g M0) n s H locs → lv_has ls 6 [(0, .ref a), (1, .int (nI b)), (2, .int (nI s0)), (3, .int (nI n9)), (4, .int (nI (s0 + j)))] → W p l e (({ frames := 2, cells := 0, slots := 0, locals := 44 } : Room)) s m args below meth c H locs 0 0 (MQ below (me_Qi D z0 (foF g L b s0 n9) (sp tb a g M0) n) args s 0 0 (me_A z0)) (F0 m 3 ls []) := by
    intro r
    refine Nat.strongRecOn r ?_
    intro r ih_3 j H locs ls hk hq hM hl
    refine lv_iload hx hb dX5_firstObstacle_3 (lv_at hl 4 rfl) ?_
    refine lv_iload_n hx hb dX5_firstObstacle_5 rfl (lv_at hl 2 rfl) ?_
    refine lv_iload_n hx hb dX5_firstObstacle_6 rfl (lv_at hl 3 rfl) ?_
    refine lv_iadd hx hb dX5_firstObstacle_7 ?_
    refine lv_icmp_ge (tgt := 44) hx hb dX5_firstObstacle_8 (by decide) (fun c_1 => ?_) (fun c_1 => ?_)
    · have c_1 := (br_le (nx_add rfl rfl) rfl (by omega) (by omega)).mp c_1
      refine lv_iconst (v := (-1)) hx hb dX5_firstObstacle_44 (by decide) ?_
      exact me_iret hC hr hlk hM (by rw [hq, show r = 0 by omega]; rfl) (rfl) (rfl) dX5_firstObstacle_45
    · have c_1 := (not_congr (br_le (nx_add rfl rfl) rfl (by omega) (by omega))).mp c_1
      obtain ⟨r1, rfl⟩ : ∃ r1, r = r1 + 1 := ⟨r - 1, by omega⟩
      refine lv_aload_n hx hb dX5_firstObstacle_11 rfl (lv_at hl 0 rfl) ?_
      refine lv_iload hx hb dX5_firstObstacle_12 (lv_at hl 4 rfl) ?_
      refine me_callVi (As := [.int (nI (s0 + j))]) (rest := []) hC hl.1 hM (c_X5_holder l D tb X z0 n a g M0 L (nI (s0 + j)) hL hL0) (kv_X5_97 hw rfl rfl ⟨Nat.le_of_ble_eq_true rfl, Nat.le_of_ble_eq_true rfl⟩) rfl rfl (sp_st _ _ _ _) rfl (Nat.le_of_ble_eq_true rfl) dX5_firstObstacle_14 ⟨Nat.le_of_ble_eq_true rfl, Nat.le_of_ble_eq_true rfl⟩ (fun H locs hM => ?_)
      refine lv_istore (lv' := [(5, .int (hoF g L (nI (s0 + j)))), (0, .ref a), (1, .int (nI b)), (2, .int (nI s0)), (3, .int (nI n9)), (4, .int (nI (s0 + j)))]) hx hb dX5_firstObstacle_17 hl (by decide) rfl (fun ls hl => ?_)
      refine lv_iload hx hb dX5_firstObstacle_19 (lv_at hl 0 rfl) ?_
      refine lv_iconst (v := (-1)) hx hb dX5_firstObstacle_21 (by decide) ?_
      refine lv_icmp_eq (tgt := 38) hx hb dX5_firstObstacle_22 (by decide) (fun c_2 => ?_) (fun c_2 => ?_)
      · refine lv_iinc (v := nI (s0 + j + 1)) (lv' := [(4, .int (nI (s0 + j + 1))), (5, .int (hoF g L (nI (s0 + j)))), (0, .ref a), (1, .int (nI b)), (2, .int (nI s0)), (3, .int (nI n9))]) hx hb dX5_firstObstacle_38 hl (k := 5) rfl (nx_add rfl rfl) (by decide) rfl (fun ls hl => ?_)
        refine lv_goto (tgt := 3) hx hb dX5_firstObstacle_41 (by decide) ?_
        exact ih_3 r1 (by omega) (j + 1) _ _ _ (by omega) (hq.trans (fv_f (by simp [obF, c_2]))) hM (lv_sub hl [2, 3, 4, 5, 0] rfl)
      · obtain ⟨kk, hkk0, hkk, -⟩ := hoF_le g L (nI (s0 + j)) (by omega) c_2
        have hct : (hoF g L (nI (s0 + j))).toNatClampNeg = kk := by rw [hkk]; exact nI_clamp (by omega)
        refine lv_aload_n hx hb dX5_firstObstacle_25 rfl (lv_at hl 1 rfl) ?_
        refine lv_iload_n hx hb dX5_firstObstacle_26 rfl (lv_at hl 2 rfl) ?_
        refine lv_iload hx hb dX5_firstObstacle_27 (lv_at hl 0 rfl) ?_
        refine me_stk (st2 := [.int (nI kk), .int (nI b), .ref a]) (by rw [hkk]) ?_
        refine me_callVi (As := [.int (nI b), .int (nI kk)]) (rest := []) hC hl.1 hM (c_X5_canDisplace l D tb X z0 n a g M0 S B L P b kk hW (by omega) (by omega)) (kv_X5_162 hw rfl rfl ⟨Nat.le_of_ble_eq_true rfl, Nat.le_of_ble_eq_true rfl⟩) rfl rfl (sp_st _ _ _ _) rfl (Nat.le_of_ble_eq_true rfl) dX5_firstObstacle_29 ⟨Nat.le_of_ble_eq_true rfl, Nat.le_of_ble_eq_true rfl⟩ (fun H locs hM => ?_)
        refine lv_if_ne (tgt := 38) hx hb dX5_firstObstacle_32 (by decide) (fun c_3 => ?_) (fun c_3 => ?_)
        · have c_3 := b1_n0.mp c_3
          refine lv_iinc (v := nI (s0 + j + 1)) (lv' := [(4, .int (nI (s0 + j + 1))), (5, .int (hoF g L (nI (s0 + j)))), (0, .ref a), (1, .int (nI b)), (2, .int (nI s0)), (3, .int (nI n9))]) hx hb dX5_firstObstacle_38 hl (k := 5) rfl (nx_add rfl rfl) (by decide) rfl (fun ls hl => ?_)
          refine lv_goto (tgt := 3) hx hb dX5_firstObstacle_41 (by decide) ?_
          exact ih_3 r1 (by omega) (j + 1) _ _ _ (by omega) (hq.trans (fv_f (by simp only [obF]; rw [if_neg]; intro z; rw [hct] at z; exact z.2 c_3))) hM (lv_sub hl [2, 3, 4, 5, 0] rfl)
        · have c_3 := b1_0.mp c_3
          refine lv_iload hx hb dX5_firstObstacle_35 (lv_at hl 0 rfl) ?_
          exact me_iret hC hr hlk hM (by rw [hq, fv_t (F := fun j => obF g L b (nI (s0 + j))) (k := j) (by simp only [obF]; rw [if_pos ⟨c_2, by rw [hct]; exact c_3⟩]; exact c_2)]; simp only [obF]; rw [if_pos ⟨c_2, by rw [hct]; exact c_3⟩]) (rfl) (rfl) dX5_firstObstacle_37
  exact lp_3 n9 0 _ _ _ (by omega) rfl hM (lv_sub hl [1, 2, 3, 4, 0] rfl)
set_option maxHeartbeats 4000000 in
theorem c_X5_reasonAgainst (l : Launch) (D : va_G) (tb : Nat → ClassId) (X : State → Prop) (z0 n : Nat) (a : Nat) (g : Nat → Int32) (M0 : me_M) (S B L P : Nat) (b s0 n9 : Nat)  (hW : wf g S B L P) (hb9 : b < B) (hs9 : s0 + n9 < 20000) : Met l yX5_reasonAgainst (.code yX5_reasonAgainst cX5_reasonAgainst 4 (some .int) :: ws_all) ({ frames := 3, cells := 0, slots := 0, locals := 70 } : Room) (me_Pc [.ref a, .int (nI b), .int (nI s0), .int (nI n9)] D tb X z0 (sp tb a g M0) n) (me_Qi D z0 (reF g L P b s0 n9) (sp tb a g M0) n) 0 0 (me_A z0) := by
  refine me_open (by decide) (Nat.le_of_ble_eq_true rfl) ?_
  intro p e s m args below meth c ls hC hr hlk hnm hM hl
  have hl : lv_has ls 4 [(0, .ref a), (1, .int (nI b)), (2, .int (nI s0)), (3, .int (nI n9))] := hl
  have hx := hC.1
  have hb := hC.2.1
  have hw := hC.2.2.2.2.1
  obtain ⟨hS, hS0, hB, hB0, hL, hL0, hP, hP0, hwb, hwl⟩ := id hW
  refine lv_aload_n hx hb dX5_reasonAgainst_0 rfl (lv_at hl 0 rfl) ?_
  refine lv_iload_n hx hb dX5_reasonAgainst_1 rfl (lv_at hl 1 rfl) ?_
  refine me_callVi (As := [.int (nI b)]) (rest := []) hC hl.1 hM (c_X5_overdueLoan l D tb X z0 n a g M0 L (nI b) hL hL0) (kv_X5_150 hw rfl rfl ⟨Nat.le_of_ble_eq_true rfl, Nat.le_of_ble_eq_true rfl⟩) rfl rfl (sp_st _ _ _ _) rfl (Nat.le_of_ble_eq_true rfl) dX5_reasonAgainst_2 ⟨Nat.le_of_ble_eq_true rfl, Nat.le_of_ble_eq_true rfl⟩ (fun H locs hM => ?_)
  refine lv_iconst (v := (-1)) hx hb dX5_reasonAgainst_5 (by decide) ?_
  refine lv_icmp_eq (tgt := 11) hx hb dX5_reasonAgainst_6 (by decide) (fun c_1 => ?_) (fun c_1 => ?_)
  · refine lv_aload_n hx hb dX5_reasonAgainst_11 rfl (lv_at hl 0 rfl) ?_
    refine lv_iload_n hx hb dX5_reasonAgainst_12 rfl (lv_at hl 1 rfl) ?_
    refine lv_iload_n hx hb dX5_reasonAgainst_13 rfl (lv_at hl 2 rfl) ?_
    refine lv_iload_n hx hb dX5_reasonAgainst_14 rfl (lv_at hl 3 rfl) ?_
    refine me_callVi (As := [.int (nI b), .int (nI s0), .int (nI n9)]) (rest := []) hC hl.1 hM (c_X5_firstPermit l D tb X z0 n a g M0 S B L P b s0 n9 hW (by omega) (by omega)) (kv_X5_153 hw rfl rfl ⟨Nat.le_of_ble_eq_true rfl, Nat.le_of_ble_eq_true rfl⟩) rfl rfl (sp_st _ _ _ _) rfl (Nat.le_of_ble_eq_true rfl) dX5_reasonAgainst_15 ⟨Nat.le_of_ble_eq_true rfl, Nat.le_of_ble_eq_true rfl⟩ (fun H locs hM => ?_)
    refine lv_iconst (v := (-1)) hx hb dX5_reasonAgainst_18 (by decide) ?_
    refine lv_icmp_eq (tgt := 24) hx hb dX5_reasonAgainst_19 (by decide) (fun c_2 => ?_) (fun c_2 => ?_)
    · refine lv_aload_n hx hb dX5_reasonAgainst_24 rfl (lv_at hl 0 rfl) ?_
      refine lv_iload_n hx hb dX5_reasonAgainst_25 rfl (lv_at hl 1 rfl) ?_
      refine lv_iload_n hx hb dX5_reasonAgainst_26 rfl (lv_at hl 2 rfl) ?_
      refine lv_iload_n hx hb dX5_reasonAgainst_27 rfl (lv_at hl 3 rfl) ?_
      refine me_callVi (As := [.int (nI b), .int (nI s0), .int (nI n9)]) (rest := []) hC hl.1 hM (c_X5_firstObstacle l D tb X z0 n a g M0 S B L P b s0 n9 hW (by omega) (by omega)) (kv_X5_157 hw rfl rfl ⟨Nat.le_of_ble_eq_true rfl, Nat.le_of_ble_eq_true rfl⟩) rfl rfl (sp_st _ _ _ _) rfl (Nat.le_of_ble_eq_true rfl) dX5_reasonAgainst_28 ⟨Nat.le_of_ble_eq_true rfl, Nat.le_of_ble_eq_true rfl⟩ (fun H locs hM => ?_)
      refine lv_iconst (v := (-1)) hx hb dX5_reasonAgainst_31 (by decide) ?_
      refine lv_icmp_eq (tgt := 37) hx hb dX5_reasonAgainst_32 (by decide) (fun c_3 => ?_) (fun c_3 => ?_)
      · refine lv_aload_n hx hb dX5_reasonAgainst_37 rfl (lv_at hl 0 rfl) ?_
        refine fg_X5_19 hC hM (sp_st _ _ _ _) rfl dX5_reasonAgainst_38 ?_
        refine lv_iload_n hx hb dX5_reasonAgainst_41 rfl (lv_at hl 1 rfl) ?_
        refine me_aald (k := b) hC hM (sp_a2 _ _ _ _) (t0 := 7) rfl rfl (by omega) (by decide) (sp_arr_at (by omega)) dX5_reasonAgainst_42 ?_
        refine fg_X5_141 hC hM (sp_borrower _ _ _ _ (by omega)) rfl dX5_reasonAgainst_43 ?_
        refine lv_aload_n hx hb dX5_reasonAgainst_46 rfl (lv_at hl 0 rfl) ?_
        refine lv_iload_n hx hb dX5_reasonAgainst_47 rfl (lv_at hl 1 rfl) ?_
        refine lv_iload_n hx hb dX5_reasonAgainst_48 rfl (lv_at hl 3 rfl) ?_
        refine me_callVi (As := [.int (nI b), .int (nI n9)]) (rest := [.int (g (89 + 11 * b + 2))]) hC hl.1 hM (c_X5_price l D tb X z0 n a g M0 S B L P b (nI n9) hW (by omega)) (kv_X5_160 hw rfl rfl ⟨Nat.le_of_ble_eq_true rfl, Nat.le_of_ble_eq_true rfl⟩) rfl rfl (sp_st _ _ _ _) rfl (Nat.le_of_ble_eq_true rfl) dX5_reasonAgainst_49 ⟨Nat.le_of_ble_eq_true rfl, Nat.le_of_ble_eq_true rfl⟩ (fun H locs hM => ?_)
        refine lv_icmp_ge (tgt := 57) hx hb dX5_reasonAgainst_52 (by decide) (fun c_4 => ?_) (fun c_4 => ?_)
        · have c_4q := c_4
          have c_4 := Int32.not_lt.mpr c_4
          refine lv_aload_n hx hb dX5_reasonAgainst_57 rfl (lv_at hl 0 rfl) ?_
          refine fg_X5_61 hC hM (sp_st _ _ _ _) rfl dX5_reasonAgainst_58 ?_
          refine lv_bipush (v := 30) hx hb dX5_reasonAgainst_61 (by decide) ?_
          refine lv_icmp_ne (tgt := 70) hx hb dX5_reasonAgainst_63 (by decide) (fun c_5 => ?_) (fun c_5 => ?_)
          · refine lv_iconst (v := 0) hx hb dX5_reasonAgainst_70 (by decide) ?_
            exact me_iret hC hr hlk hM (by first | rfl | simp [reF, c_1, c_2, c_3, c_4, c_5, c_4q]) (rfl) (rfl) dX5_reasonAgainst_71
          · refine lv_iconst (v := 5) hx hb dX5_reasonAgainst_66 (by decide) ?_
            refine lv_goto (tgt := 71) hx hb dX5_reasonAgainst_67 (by decide) ?_
            exact me_iret hC hr hlk hM (by first | rfl | simp [reF, c_1, c_2, c_3, c_4, c_5, c_4q]) (rfl) (rfl) dX5_reasonAgainst_71
        · have c_4q := c_4
          have c_4 := Int32.not_le.mp c_4
          refine lv_iconst (v := 4) hx hb dX5_reasonAgainst_55 (by decide) ?_
          exact me_iret hC hr hlk hM (by first | rfl | simp [reF, c_1, c_2, c_3, c_4, c_4q]) (rfl) (rfl) dX5_reasonAgainst_56
      · refine lv_iconst (v := 3) hx hb dX5_reasonAgainst_35 (by decide) ?_
        exact me_iret hC hr hlk hM (by first | rfl | simp [reF, c_1, c_2, c_3]) (rfl) (rfl) dX5_reasonAgainst_36
    · refine lv_iconst (v := 2) hx hb dX5_reasonAgainst_22 (by decide) ?_
      exact me_iret hC hr hlk hM (by first | rfl | simp [reF, c_1, c_2]) (rfl) (rfl) dX5_reasonAgainst_23
  · refine lv_iconst (v := 1) hx hb dX5_reasonAgainst_9 (by decide) ?_
    exact me_iret hC hr hlk hM (by first | rfl | simp [reF, c_1]) (rfl) (rfl) dX5_reasonAgainst_10
set_option maxHeartbeats 4000000 in
theorem c_X5_earliest (l : Launch) (D : va_G) (tb : Nat → ClassId) (X : State → Prop) (z0 n : Nat) (a : Nat) (g : Nat → Int32) (M0 : me_M) (S B L P : Nat) (b n9 T : Nat) (most : Int32)  (hW : wf g S B L P) (hb9 : b < B) (hn9 : n9 ≤ 6) (hT : g 2 = nI T) (hT0 : T ≤ 10000) : Met l yX5_earliest (.code yX5_earliest cX5_earliest 5 (some .int) :: ws_all) ({ frames := 4, cells := 0, slots := 0, locals := 93 } : Room) (me_Pc [.ref a, .int (nI b), .int (nI n9), .int most] D tb X z0 (sp tb a g M0) n) (me_Qi D z0 (eaF g L P b n9 T most) (sp tb a g M0) n) 0 0 (me_A z0) := by
  refine me_open (by decide) (Nat.le_of_ble_eq_true rfl) ?_
  intro p e s m args below meth c ls hC hr hlk hnm hM hl
  have hl : lv_has ls 5 [(0, .ref a), (1, .int (nI b)), (2, .int (nI n9)), (3, .int most)] := hl
  have hx := hC.1
  have hb := hC.2.1
  have hw := hC.2.2.2.2.1
  obtain ⟨hS, hS0, hB, hB0, hL, hL0, hP, hP0, hwb, hwl⟩ := id hW
  refine lv_aload_n hx hb dX5_earliest_0 rfl (lv_at hl 0 rfl) ?_
  refine fg_X5_39 hC hM (sp_st _ _ _ _) rfl dX5_earliest_1 ?_
  refine me_evi (y := nI T) hT ?_
  refine lv_istore (lv' := [(4, .int (nI T)), (0, .ref a), (1, .int (nI b)), (2, .int (nI n9)), (3, .int most)]) hx hb dX5_earliest_4 hl (by decide) rfl (fun ls hl => ?_)
  have lp_6 : ∀ (r : Nat) (j : Nat) (H : Heap) (locs : List Loc) (ls : Array Slot), (j + r = 49 - n9) → (eaF g L P b n9 T most = fv (fun j => if nI (loF g L (nI (T + j)) (nI n9)) ≤ most ∧ reF g L P b (T + j) n9 = 0 then nI (T + j) else -1) r j) → me_at D z0 (sp tb a g M0) n s H locs → lv_has ls 5 [(0, .ref a), (1, .int (nI b)), (2, .int (nI n9)), (3, .int most), (4, .int (nI (T + j)))] → W p l e (({ frames := 4, cells := 0, slots := 0, locals := 93 } : Room)) s m args below meth c H locs 0 0 (MQ below (me_Qi D z0 (eaF g L P b n9 T most) (sp tb a g M0) n) args s 0 0 (me_A z0)) (F0 m 6 ls []) := by
    intro r
    refine Nat.strongRecOn r ?_
    intro r ih_6 j H locs ls hk hq hM hl
    refine lv_iload hx hb dX5_earliest_6 (lv_at hl 4 rfl) ?_
    refine lv_aload_n hx hb dX5_earliest_8 rfl (lv_at hl 0 rfl) ?_
    refine fg_X5_39 hC hM (sp_st _ _ _ _) rfl dX5_earliest_9 ?_
    refine lv_bipush (v := 48) hx hb dX5_earliest_12 (by decide) ?_
    refine lv_iadd hx hb dX5_earliest_14 ?_
    refine lv_iload_n hx hb dX5_earliest_15 rfl (lv_at hl 2 rfl) ?_
    refine lv_isub hx hb dX5_earliest_16 ?_
    refine lv_icmp_gt (tgt := 51) hx hb dX5_earliest_17 (by decide) (fun c_1 => ?_) (fun c_1 => ?_)
    · have c_1 := (br_lt (nx_sub (nx_add hT (nx_c 48)) rfl (by omega)) rfl (by omega) (by omega)).mp c_1
      refine lv_iconst (v := (-1)) hx hb dX5_earliest_51 (by decide) ?_
      exact me_iret hC hr hlk hM (by rw [hq, show r = 0 by omega]; rfl) (rfl) (rfl) dX5_earliest_52
    · have c_1 := (not_congr (br_lt (nx_sub (nx_add hT (nx_c 48)) rfl (by omega)) rfl (by omega) (by omega))).mp c_1
      obtain ⟨r1, rfl⟩ : ∃ r1, r = r1 + 1 := ⟨r - 1, by omega⟩
      refine lv_aload_n hx hb dX5_earliest_20 rfl (lv_at hl 0 rfl) ?_
      refine lv_iload hx hb dX5_earliest_21 (lv_at hl 4 rfl) ?_
      refine lv_iload_n hx hb dX5_earliest_23 rfl (lv_at hl 2 rfl) ?_
      refine me_callVi (As := [.int (nI (T + j)), .int (nI n9)]) (rest := []) hC hl.1 hM (c_X5_loansIn l D tb X z0 n a g M0 L (nI (T + j)) (nI n9) hL hL0) (kv_X5_147 hw rfl rfl ⟨Nat.le_of_ble_eq_true rfl, Nat.le_of_ble_eq_true rfl⟩) rfl rfl (sp_st _ _ _ _) rfl (Nat.le_of_ble_eq_true rfl) dX5_earliest_24 ⟨Nat.le_of_ble_eq_true rfl, Nat.le_of_ble_eq_true rfl⟩ (fun H locs hM => ?_)
      refine lv_iload_n hx hb dX5_earliest_27 rfl (lv_at hl 3 rfl) ?_
      refine lv_icmp_gt (tgt := 45) hx hb dX5_earliest_28 (by decide) (fun c_2 => ?_) (fun c_2 => ?_)
      · have c_2q := Int32.not_le.mpr c_2
        refine lv_iinc (v := nI (T + j + 1)) (lv' := [(4, .int (nI (T + j + 1))), (0, .ref a), (1, .int (nI b)), (2, .int (nI n9)), (3, .int most)]) hx hb dX5_earliest_45 hl (k := 4) rfl (nx_add rfl rfl) (by decide) rfl (fun ls hl => ?_)
        refine lv_goto (tgt := 6) hx hb dX5_earliest_48 (by decide) ?_
        exact ih_6 r1 (by omega) (j + 1) _ _ _ (by omega) (hq.trans (fv_f (by simp [c_2, c_2q]))) hM (lv_sub hl [1, 2, 3, 4, 0] rfl)
      · have c_2q := Int32.not_lt.mp c_2
        refine lv_aload_n hx hb dX5_earliest_31 rfl (lv_at hl 0 rfl) ?_
        refine lv_iload_n hx hb dX5_earliest_32 rfl (lv_at hl 1 rfl) ?_
        refine lv_iload hx hb dX5_earliest_33 (lv_at hl 4 rfl) ?_
        refine lv_iload_n hx hb dX5_earliest_35 rfl (lv_at hl 2 rfl) ?_
        refine me_callVi (As := [.int (nI b), .int (nI (T + j)), .int (nI n9)]) (rest := []) hC hl.1 hM (c_X5_reasonAgainst l D tb X z0 n a g M0 S B L P b (T + j) n9 hW (by omega) (by omega)) (kv_X5_165 hw rfl rfl ⟨Nat.le_of_ble_eq_true rfl, Nat.le_of_ble_eq_true rfl⟩) rfl rfl (sp_st _ _ _ _) rfl (Nat.le_of_ble_eq_true rfl) dX5_earliest_36 ⟨Nat.le_of_ble_eq_true rfl, Nat.le_of_ble_eq_true rfl⟩ (fun H locs hM => ?_)
        refine lv_if_ne (tgt := 45) hx hb dX5_earliest_39 (by decide) (fun c_3 => ?_) (fun c_3 => ?_)
        · refine lv_iinc (v := nI (T + j + 1)) (lv' := [(4, .int (nI (T + j + 1))), (0, .ref a), (1, .int (nI b)), (2, .int (nI n9)), (3, .int most)]) hx hb dX5_earliest_45 hl (k := 4) rfl (nx_add rfl rfl) (by decide) rfl (fun ls hl => ?_)
          refine lv_goto (tgt := 6) hx hb dX5_earliest_48 (by decide) ?_
          exact ih_6 r1 (by omega) (j + 1) _ _ _ (by omega) (hq.trans (fv_f (by simp [c_2, c_3, c_2q]))) hM (lv_sub hl [1, 2, 3, 4, 0] rfl)
        · refine lv_iload hx hb dX5_earliest_42 (lv_at hl 4 rfl) ?_
          exact me_iret hC hr hlk hM (by rw [hq, fv_t (F := fun j => if nI (loF g L (nI (T + j)) (nI n9)) ≤ most ∧ reF g L P b (T + j) n9 = 0 then nI (T + j) else -1) (k := j) (by simp [c_2, c_2q, c_3, nI_nm1 (show T + j < 2 ^ 31 by omega)])]; simp [c_2, c_2q, c_3]) (rfl) (rfl) dX5_earliest_44
  exact lp_6 (49 - n9) 0 _ _ _ (by omega) rfl hM (lv_sub hl [1, 2, 3, 4, 0] rfl)
set_option maxHeartbeats 4000000 in
theorem c_X5_silentStreet (l : Launch) (D : va_G) (tb : Nat → ClassId) (X : State → Prop) (z0 n : Nat) (a : Nat) (g : Nat → Int32) (M0 : me_M) (S B L P : Nat) (h : Int32)  (hW : wf g S B L P) : Met l yX5_silentStreet (.code yX5_silentStreet cX5_silentStreet 3 (some .int) :: ws_all) ({ frames := 2, cells := 0, slots := 0, locals := 44 } : Room) (me_Pc [.ref a, .int h] D tb X z0 (sp tb a g M0) n) (me_Qi D z0 (siF g L h) (sp tb a g M0) n) 0 0 (me_A z0) := by
  refine me_open (by decide) (Nat.le_of_ble_eq_true rfl) ?_
  intro p e s m args below meth c ls hC hr hlk hnm hM hl
  have hl : lv_has ls 3 [(0, .ref a), (1, .int h)] := hl
  have hx := hC.1
  have hb := hC.2.1
  have hw := hC.2.2.2.2.1
  obtain ⟨hS, hS0, hB, hB0, hL, hL0, hP, hP0, hwb, hwl⟩ := id hW
  refine lv_aload_n hx hb dX5_silentStreet_0 rfl (lv_at hl 0 rfl) ?_
  refine lv_iload_n hx hb dX5_silentStreet_1 rfl (lv_at hl 1 rfl) ?_
  refine me_callVi (As := [.int h]) (rest := []) hC hl.1 hM (c_X5_holder l D tb X z0 n a g M0 L h hL hL0) (kv_X5_97 hw rfl rfl ⟨Nat.le_of_ble_eq_true rfl, Nat.le_of_ble_eq_true rfl⟩) rfl rfl (sp_st _ _ _ _) rfl (Nat.le_of_ble_eq_true rfl) dX5_silentStreet_2 ⟨Nat.le_of_ble_eq_true rfl, Nat.le_of_ble_eq_true rfl⟩ (fun H locs hM => ?_)
  refine lv_istore_n (lv' := [(2, .int (hoF g L h)), (0, .ref a), (1, .int h)]) hx hb dX5_silentStreet_5 rfl hl (by decide) rfl (fun ls hl => ?_)
  refine lv_iload_n hx hb dX5_silentStreet_6 rfl (lv_at hl 0 rfl) ?_
  refine lv_iconst (v := (-1)) hx hb dX5_silentStreet_7 (by decide) ?_
  refine lv_icmp_ne (tgt := 15) hx hb dX5_silentStreet_8 (by decide) (fun c_1 => ?_) (fun c_1 => ?_)
  · obtain ⟨kk, hkk0, hkk, -⟩ := hoF_le g L h (by omega) c_1
    have hct : (hoF g L h).toNatClampNeg = kk := by rw [hkk]; exact nI_clamp (by omega)
    have hkl_ := hwl kk hkk0
    refine lv_aload_n hx hb dX5_silentStreet_15 rfl (lv_at hl 1 rfl) ?_
    refine lv_iload_n hx hb dX5_silentStreet_16 rfl (lv_at hl 0 rfl) ?_
    refine me_stk (st2 := [.int (nI kk), .ref a]) (by rw [hkk]) ?_
    refine me_callVi (As := [.int (nI kk)]) (rest := []) hC hl.1 hM (c_X5_streetOfLoan l D tb X z0 n a g M0 S B L P kk hW (by omega)) (kv_X5_115 hw rfl rfl ⟨Nat.le_of_ble_eq_true rfl, Nat.le_of_ble_eq_true rfl⟩) rfl rfl (sp_st _ _ _ _) rfl (Nat.le_of_ble_eq_true rfl) dX5_silentStreet_17 ⟨Nat.le_of_ble_eq_true rfl, Nat.le_of_ble_eq_true rfl⟩ (fun H locs hM => ?_)
    exact me_iret hC hr hlk hM (by simp [siF, c_1, hct]) (rfl) (rfl) dX5_silentStreet_20
  · refine lv_iconst (v := (-1)) hx hb dX5_silentStreet_11 (by decide) ?_
    refine lv_goto (tgt := 20) hx hb dX5_silentStreet_12 (by decide) ?_
    exact me_iret hC hr hlk hM (by simp [siF, c_1]) (rfl) (rfl) dX5_silentStreet_20
set_option maxHeartbeats 4000000 in
theorem c_X5_outdoorNoise (l : Launch) (D : va_G) (tb : Nat → ClassId) (X : State → Prop) (z0 n : Nat) (a : Nat) (g : Nat → Int32) (M0 : me_M) (S B L P : Nat) (s0 : Nat) (h : Int32) (hN : ∀ U, X U → me_nest U) (hW : wf g S B L P) (hs9 : s0 < S) : Met l yX5_outdoorNoise (.code yX5_outdoorNoise cX5_outdoorNoise 4 (some .int) :: ws_all) ({ frames := 2, cells := 0, slots := 0, locals := 45 } : Room) (me_Pc [.ref a, .int (nI s0), .int h] D tb X z0 (sp tb a g M0) n) (me_Qi D z0 (oNF g P s0 h) (sp tb a g M0) n) 0 0 (me_A z0) := by
  refine me_open (by decide) (Nat.le_of_ble_eq_true rfl) ?_
  intro p e s m args below meth c ls hC hr hlk hnm hM hl
  have hl : lv_has ls 4 [(0, .ref a), (1, .int (nI s0)), (2, .int h)] := hl
  have hx := hC.1
  have hb := hC.2.1
  have hw := hC.2.2.2.2.1
  obtain ⟨hS, hS0, hB, hB0, hL, hL0, hP, hP0, hwb, hwl⟩ := id hW
  refine lv_iload_n hx hb dX5_outdoorNoise_0 rfl (lv_at hl 2 rfl) ?_
  refine me_callSNi (nA := 1) (As := [.int h]) (rest := []) hC hl.1 hM (c_X7_isNightHour l D tb X z0 n _ h) (hN s hC.2.2.2.2.2.1.2).2.2.2.2.2.1 w_506 w_1 w_507 rfl rfl (by decide +kernel) ⟨Nat.le_of_ble_eq_true rfl, Nat.le_of_ble_eq_true rfl⟩ rfl rfl (Nat.le_of_ble_eq_true rfl) dX5_outdoorNoise_1 ⟨Nat.le_of_ble_eq_true rfl, Nat.le_of_ble_eq_true rfl⟩ (fun H locs hM => ?_)
  refine lv_if_eq (tgt := 19) hx hb dX5_outdoorNoise_4 (by decide) (fun c_1 => ?_) (fun c_1 => ?_)
  · have c_1 := b1_0.mp c_1
    refine lv_aload_n hx hb dX5_outdoorNoise_19 rfl (lv_at hl 0 rfl) ?_
    refine fg_X5_11 hC hM (sp_st _ _ _ _) rfl dX5_outdoorNoise_20 ?_
    refine lv_iload_n hx hb dX5_outdoorNoise_23 rfl (lv_at hl 1 rfl) ?_
    refine me_aald (k := s0) hC hM (sp_a1 _ _ _ _) (t0 := 6) rfl rfl (by omega) (by decide) (sp_arr_at (by omega)) dX5_outdoorNoise_24 ?_
    refine fg_X5_125 hC hM (sp_street _ _ _ _ (by omega)) rfl dX5_outdoorNoise_25 ?_
    refine lv_istore_n (lv' := [(3, .int (g (9 + 10 * s0))), (0, .ref a), (1, .int (nI s0)), (2, .int h)]) hx hb dX5_outdoorNoise_28 rfl hl (by decide) rfl (fun ls hl => ?_)
    refine lv_aload_n hx hb dX5_outdoorNoise_29 rfl (lv_at hl 1 rfl) ?_
    refine lv_iload_n hx hb dX5_outdoorNoise_30 rfl (lv_at hl 2 rfl) ?_
    refine lv_iload_n hx hb dX5_outdoorNoise_31 rfl (lv_at hl 3 rfl) ?_
    refine me_callVi (As := [.int (nI s0), .int h]) (rest := []) hC hl.1 hM (c_X5_permitAt l D tb X z0 n a g M0 P (nI s0) h hP hP0) (kv_X5_128 hw rfl rfl ⟨Nat.le_of_ble_eq_true rfl, Nat.le_of_ble_eq_true rfl⟩) rfl rfl (sp_st _ _ _ _) rfl (Nat.le_of_ble_eq_true rfl) dX5_outdoorNoise_32 ⟨Nat.le_of_ble_eq_true rfl, Nat.le_of_ble_eq_true rfl⟩ (fun H locs hM => ?_)
    refine lv_iconst (v := (-1)) hx hb dX5_outdoorNoise_35 (by decide) ?_
    refine lv_icmp_ne (tgt := 43) hx hb dX5_outdoorNoise_36 (by decide) (fun c_2 => ?_) (fun c_2 => ?_)
    · refine lv_iload_n hx hb dX5_outdoorNoise_43 rfl (lv_at hl 0 rfl) ?_
      refine lv_bipush (v := 40) hx hb dX5_outdoorNoise_44 (by decide) ?_
      refine lv_iadd hx hb dX5_outdoorNoise_46 ?_
      exact me_iret hC hr hlk hM (by simp [oNF, c_1, c_2]) (rfl) (rfl) dX5_outdoorNoise_47
    · refine lv_iload_n hx hb dX5_outdoorNoise_39 rfl (lv_at hl 0 rfl) ?_
      refine lv_goto (tgt := 47) hx hb dX5_outdoorNoise_40 (by decide) ?_
      exact me_iret hC hr hlk hM (by simp [oNF, c_1, c_2]) (rfl) (rfl) dX5_outdoorNoise_47
  · have c_1 := b1_n0.mp c_1
    refine lv_aload_n hx hb dX5_outdoorNoise_7 rfl (lv_at hl 0 rfl) ?_
    refine fg_X5_11 hC hM (sp_st _ _ _ _) rfl dX5_outdoorNoise_8 ?_
    refine lv_iload_n hx hb dX5_outdoorNoise_11 rfl (lv_at hl 1 rfl) ?_
    refine me_aald (k := s0) hC hM (sp_a1 _ _ _ _) (t0 := 6) rfl rfl (by omega) (by decide) (sp_arr_at (by omega)) dX5_outdoorNoise_12 ?_
    refine fg_X5_122 hC hM (sp_street _ _ _ _ (by omega)) rfl dX5_outdoorNoise_13 ?_
    refine lv_goto (tgt := 28) hx hb dX5_outdoorNoise_16 (by decide) ?_
    refine lv_istore_n (lv' := [(3, .int (g (9 + 10 * s0 + 1))), (0, .ref a), (1, .int (nI s0)), (2, .int h)]) hx hb dX5_outdoorNoise_28 rfl hl (by decide) rfl (fun ls hl => ?_)
    refine lv_aload_n hx hb dX5_outdoorNoise_29 rfl (lv_at hl 1 rfl) ?_
    refine lv_iload_n hx hb dX5_outdoorNoise_30 rfl (lv_at hl 2 rfl) ?_
    refine lv_iload_n hx hb dX5_outdoorNoise_31 rfl (lv_at hl 3 rfl) ?_
    refine me_callVi (As := [.int (nI s0), .int h]) (rest := []) hC hl.1 hM (c_X5_permitAt l D tb X z0 n a g M0 P (nI s0) h hP hP0) (kv_X5_128 hw rfl rfl ⟨Nat.le_of_ble_eq_true rfl, Nat.le_of_ble_eq_true rfl⟩) rfl rfl (sp_st _ _ _ _) rfl (Nat.le_of_ble_eq_true rfl) dX5_outdoorNoise_32 ⟨Nat.le_of_ble_eq_true rfl, Nat.le_of_ble_eq_true rfl⟩ (fun H locs hM => ?_)
    refine lv_iconst (v := (-1)) hx hb dX5_outdoorNoise_35 (by decide) ?_
    refine lv_icmp_ne (tgt := 43) hx hb dX5_outdoorNoise_36 (by decide) (fun c_3 => ?_) (fun c_3 => ?_)
    · refine lv_iload_n hx hb dX5_outdoorNoise_43 rfl (lv_at hl 0 rfl) ?_
      refine lv_bipush (v := 40) hx hb dX5_outdoorNoise_44 (by decide) ?_
      refine lv_iadd hx hb dX5_outdoorNoise_46 ?_
      exact me_iret hC hr hlk hM (by simp [oNF, c_1, c_3]) (rfl) (rfl) dX5_outdoorNoise_47
    · refine lv_iload_n hx hb dX5_outdoorNoise_39 rfl (lv_at hl 0 rfl) ?_
      refine lv_goto (tgt := 47) hx hb dX5_outdoorNoise_40 (by decide) ?_
      exact me_iret hC hr hlk hM (by simp [oNF, c_1, c_3]) (rfl) (rfl) dX5_outdoorNoise_47
set_option maxHeartbeats 4000000 in
theorem c_X5_noiseIn (l : Launch) (D : va_G) (tb : Nat → ClassId) (X : State → Prop) (z0 n : Nat) (a : Nat) (g : Nat → Int32) (M0 : me_M) (S B L P : Nat) (s0 : Nat) (h : Int32) (hN : ∀ U, X U → me_nest U) (hW : wf g S B L P) (hs9 : s0 < S) : Met l yX5_noiseIn (.code yX5_noiseIn cX5_noiseIn 3 (some .int) :: ws_all) ({ frames := 3, cells := 0, slots := 0, locals := 68 } : Room) (me_Pc [.ref a, .int (nI s0), .int h] D tb X z0 (sp tb a g M0) n) (me_Qi D z0 (noF g L P s0 h) (sp tb a g M0) n) 0 0 (me_A z0) := by
  refine me_open (by decide) (Nat.le_of_ble_eq_true rfl) ?_
  intro p e s m args below meth c ls hC hr hlk hnm hM hl
  have hl : lv_has ls 3 [(0, .ref a), (1, .int (nI s0)), (2, .int h)] := hl
  have hx := hC.1
  have hb := hC.2.1
  have hw := hC.2.2.2.2.1
  obtain ⟨hS, hS0, hB, hB0, hL, hL0, hP, hP0, hwb, hwl⟩ := id hW
  refine lv_iload_n hx hb dX5_noiseIn_0 rfl (lv_at hl 1 rfl) ?_
  refine lv_aload_n hx hb dX5_noiseIn_1 rfl (lv_at hl 0 rfl) ?_
  refine lv_iload_n hx hb dX5_noiseIn_2 rfl (lv_at hl 2 rfl) ?_
  refine me_callVi (As := [.int h]) (rest := [.int (nI s0)]) hC hl.1 hM (c_X5_silentStreet l D tb X z0 n a g M0 S B L P h hW ) (kv_X5_108 hw rfl rfl ⟨Nat.le_of_ble_eq_true rfl, Nat.le_of_ble_eq_true rfl⟩) rfl rfl (sp_st _ _ _ _) rfl (Nat.le_of_ble_eq_true rfl) dX5_noiseIn_3 ⟨Nat.le_of_ble_eq_true rfl, Nat.le_of_ble_eq_true rfl⟩ (fun H locs hM => ?_)
  refine lv_icmp_ne (tgt := 13) hx hb dX5_noiseIn_6 (by decide) (fun c_1 => ?_) (fun c_1 => ?_)
  · refine lv_aload_n hx hb dX5_noiseIn_13 rfl (lv_at hl 0 rfl) ?_
    refine lv_iload_n hx hb dX5_noiseIn_14 rfl (lv_at hl 1 rfl) ?_
    refine lv_iload_n hx hb dX5_noiseIn_15 rfl (lv_at hl 2 rfl) ?_
    refine me_callVi (As := [.int (nI s0), .int h]) (rest := []) hC hl.1 hM (c_X5_outdoorNoise l D tb X z0 n a g M0 S B L P s0 h hN hW (by omega)) (kv_X5_111 hw rfl rfl ⟨Nat.le_of_ble_eq_true rfl, Nat.le_of_ble_eq_true rfl⟩) rfl rfl (sp_st _ _ _ _) rfl (Nat.le_of_ble_eq_true rfl) dX5_noiseIn_16 ⟨Nat.le_of_ble_eq_true rfl, Nat.le_of_ble_eq_true rfl⟩ (fun H locs hM => ?_)
    exact me_iret hC hr hlk hM (by rw [no_si (by omega), if_neg c_1]) (rfl) (rfl) dX5_noiseIn_19
  · refine lv_iconst (v := 0) hx hb dX5_noiseIn_9 (by decide) ?_
    refine lv_goto (tgt := 19) hx hb dX5_noiseIn_10 (by decide) ?_
    exact me_iret hC hr hlk hM (by rw [no_si (by omega), if_pos c_1]) (rfl) (rfl) dX5_noiseIn_19
set_option maxHeartbeats 4000000 in
theorem c_X5_lentHours (l : Launch) (D : va_G) (tb : Nat → ClassId) (X : State → Prop) (z0 n : Nat) (a : Nat) (g : Nat → Int32) (M0 : me_M) (S B L P : Nat)  (hW : wf g S B L P) : Met l yX5_lentHours (.code yX5_lentHours cX5_lentHours 3 (some .int) :: ws_all) ({ frames := 2, cells := 0, slots := 0, locals := 44 } : Room) (me_Pc [.ref a] D tb X z0 (sp tb a g M0) n) (me_Qi D z0 (nI (leF g L)) (sp tb a g M0) n) 0 0 (me_A z0) := by
  refine me_open (by decide) (Nat.le_of_ble_eq_true rfl) ?_
  intro p e s m args below meth c ls hC hr hlk hnm hM hl
  have hl : lv_has ls 3 [(0, .ref a)] := hl
  have hx := hC.1
  have hb := hC.2.1
  have hw := hC.2.2.2.2.1
  obtain ⟨hS, hS0, hB, hB0, hL, hL0, hP, hP0, hwb, hwl⟩ := id hW
  refine lv_iconst (v := 0) hx hb dX5_lentHours_0 (by decide) ?_
  refine lv_istore_n (lv' := [(1, .int 0), (0, .ref a)]) hx hb dX5_lentHours_1 rfl hl (by decide) rfl (fun ls hl => ?_)
  refine lv_iconst (v := 0) hx hb dX5_lentHours_2 (by decide) ?_
  refine lv_istore_n (lv' := [(2, .int 0), (1, .int 0), (0, .ref a)]) hx hb dX5_lentHours_3 rfl hl (by decide) rfl (fun ls hl => ?_)
  have lp_4 : ∀ (r : Nat) (k : Nat) (ct : Nat) (H : Heap) (locs : List Loc) (ls : Array Slot), (k + r = 48) → (leF g L = ct + co (fun i => ¬ hoF g L (g 2 + nI i) = -1) r k) → me_at D z0 (sp tb a g M0) n s H locs → lv_has ls 3 [(0, .ref a), (1, .int (nI ct)), (2, .int (nI k))] → W p l e (({ frames := 2, cells := 0, slots := 0, locals := 44 } : Room)) s m args below meth c H locs 0 0 (MQ below (me_Qi D z0 (nI (leF g L)) (sp tb a g M0) n) args s 0 0 (me_A z0)) (F0 m 4 ls []) := by
    intro r
    refine Nat.strongRecOn r ?_
    intro r ih_4 k ct H locs ls hk hq hM hl
    refine lv_iload_n hx hb dX5_lentHours_4 rfl (lv_at hl 2 rfl) ?_
    refine lv_bipush (v := 48) hx hb dX5_lentHours_5 (by decide) ?_
    refine lv_icmp_ge (tgt := 33) hx hb dX5_lentHours_7 (by decide) (fun c_1 => ?_) (fun c_1 => ?_)
    · have c_1 := (br_le (nx_c 48) rfl (by omega) (by omega)).mp c_1
      refine lv_iload_n hx hb dX5_lentHours_33 rfl (lv_at hl 1 rfl) ?_
      exact me_iret hC hr hlk hM (by rw [hq, show r = 0 by omega]; rfl) (rfl) (rfl) dX5_lentHours_34
    · have c_1 := (not_congr (br_le (nx_c 48) rfl (by omega) (by omega))).mp c_1
      obtain ⟨r1, rfl⟩ : ∃ r1, r = r1 + 1 := ⟨r - 1, by omega⟩
      refine lv_aload_n hx hb dX5_lentHours_10 rfl (lv_at hl 0 rfl) ?_
      refine lv_aload_n hx hb dX5_lentHours_11 rfl (lv_at hl 0 rfl) ?_
      refine fg_X5_39 hC hM (sp_st _ _ _ _) rfl dX5_lentHours_12 ?_
      refine lv_iload_n hx hb dX5_lentHours_15 rfl (lv_at hl 2 rfl) ?_
      refine lv_iadd hx hb dX5_lentHours_16 ?_
      refine me_callVi (As := [.int ((g 2) + (nI k))]) (rest := []) hC hl.1 hM (c_X5_holder l D tb X z0 n a g M0 L ((g 2) + (nI k)) hL hL0) (kv_X5_97 hw rfl rfl ⟨Nat.le_of_ble_eq_true rfl, Nat.le_of_ble_eq_true rfl⟩) rfl rfl (sp_st _ _ _ _) rfl (Nat.le_of_ble_eq_true rfl) dX5_lentHours_17 ⟨Nat.le_of_ble_eq_true rfl, Nat.le_of_ble_eq_true rfl⟩ (fun H locs hM => ?_)
      refine lv_iconst (v := (-1)) hx hb dX5_lentHours_20 (by decide) ?_
      refine lv_icmp_eq (tgt := 27) hx hb dX5_lentHours_21 (by decide) (fun c_2 => ?_) (fun c_2 => ?_)
      · refine lv_iinc (v := nI (k + 1)) (lv' := [(2, .int (nI (k + 1))), (0, .ref a), (1, .int (nI ct))]) hx hb dX5_lentHours_27 hl (k := 2) rfl (nx_add rfl rfl) (by decide) rfl (fun ls hl => ?_)
        refine lv_goto (tgt := 4) hx hb dX5_lentHours_30 (by decide) ?_
        exact ih_4 r1 (by omega) (k + 1) ct _ _ _ (by omega) (by rw [hq, co_f (P := fun i => ¬ hoF g L (g 2 + nI i) = -1) (k := k) (fun z => z c_2)]) hM (lv_sub hl [1, 2, 0] rfl)
      · refine lv_iinc (v := nI (ct + 1)) (lv' := [(1, .int (nI (ct + 1))), (0, .ref a), (2, .int (nI k))]) hx hb dX5_lentHours_24 hl (k := 1) rfl (nx_add rfl rfl) (by decide) rfl (fun ls hl => ?_)
        refine lv_iinc (v := nI (k + 1)) (lv' := [(2, .int (nI (k + 1))), (1, .int (nI (ct + 1))), (0, .ref a)]) hx hb dX5_lentHours_27 hl (k := 2) rfl (nx_add rfl rfl) (by decide) rfl (fun ls hl => ?_)
        refine lv_goto (tgt := 4) hx hb dX5_lentHours_30 (by decide) ?_
        exact ih_4 r1 (by omega) (k + 1) (ct + 1) _ _ _ (by omega) (by rw [hq, co_t (P := fun i => ¬ hoF g L (g 2 + nI i) = -1) (k := k) (c_2)]; omega) hM (lv_sub hl [2, 1, 0] rfl)
  exact lp_4 48 0 0 _ _ _ (by omega) ((Nat.zero_add _).symm) hM (lv_sub hl [2, 1, 0] rfl)
set_option maxHeartbeats 4000000 in
theorem c_X5_hoursHeldTwice (l : Launch) (D : va_G) (tb : Nat → ClassId) (X : State → Prop) (z0 n : Nat) (a : Nat) (g : Nat → Int32) (M0 : me_M) (S B L P : Nat)  (hW : wf g S B L P) : Met l yX5_hoursHeldTwice (.code yX5_hoursHeldTwice cX5_hoursHeldTwice 3 (some .int) :: ws_all) ({ frames := 2, cells := 0, slots := 0, locals := 46 } : Room) (me_Pc [.ref a] D tb X z0 (sp tb a g M0) n) (me_Qi D z0 (nI (twF g L)) (sp tb a g M0) n) 0 0 (me_A z0) := by
  refine me_open (by decide) (Nat.le_of_ble_eq_true rfl) ?_
  intro p e s m args below meth c ls hC hr hlk hnm hM hl
  have hl : lv_has ls 3 [(0, .ref a)] := hl
  have hx := hC.1
  have hb := hC.2.1
  have hw := hC.2.2.2.2.1
  obtain ⟨hS, hS0, hB, hB0, hL, hL0, hP, hP0, hwb, hwl⟩ := id hW
  refine lv_iconst (v := 0) hx hb dX5_hoursHeldTwice_0 (by decide) ?_
  refine lv_istore_n (lv' := [(1, .int 0), (0, .ref a)]) hx hb dX5_hoursHeldTwice_1 rfl hl (by decide) rfl (fun ls hl => ?_)
  refine lv_iconst (v := 0) hx hb dX5_hoursHeldTwice_2 (by decide) ?_
  refine lv_istore_n (lv' := [(2, .int 0), (1, .int 0), (0, .ref a)]) hx hb dX5_hoursHeldTwice_3 rfl hl (by decide) rfl (fun ls hl => ?_)
  have lp_4 : ∀ (r : Nat) (k : Nat) (ct : Nat) (H : Heap) (locs : List Loc) (ls : Array Slot), (k + r = 48) → (twF g L = ct + co (fun i => (1 : Int32) < nI (loF g L (g 2 + nI i) 1)) r k) → me_at D z0 (sp tb a g M0) n s H locs → lv_has ls 3 [(0, .ref a), (1, .int (nI ct)), (2, .int (nI k))] → W p l e (({ frames := 2, cells := 0, slots := 0, locals := 46 } : Room)) s m args below meth c H locs 0 0 (MQ below (me_Qi D z0 (nI (twF g L)) (sp tb a g M0) n) args s 0 0 (me_A z0)) (F0 m 4 ls []) := by
    intro r
    refine Nat.strongRecOn r ?_
    intro r ih_4 k ct H locs ls hk hq hM hl
    refine lv_iload_n hx hb dX5_hoursHeldTwice_4 rfl (lv_at hl 2 rfl) ?_
    refine lv_bipush (v := 48) hx hb dX5_hoursHeldTwice_5 (by decide) ?_
    refine lv_icmp_ge (tgt := 34) hx hb dX5_hoursHeldTwice_7 (by decide) (fun c_1 => ?_) (fun c_1 => ?_)
    · have c_1 := (br_le (nx_c 48) rfl (by omega) (by omega)).mp c_1
      refine lv_iload_n hx hb dX5_hoursHeldTwice_34 rfl (lv_at hl 1 rfl) ?_
      exact me_iret hC hr hlk hM (by rw [hq, show r = 0 by omega]; rfl) (rfl) (rfl) dX5_hoursHeldTwice_35
    · have c_1 := (not_congr (br_le (nx_c 48) rfl (by omega) (by omega))).mp c_1
      obtain ⟨r1, rfl⟩ : ∃ r1, r = r1 + 1 := ⟨r - 1, by omega⟩
      refine lv_aload_n hx hb dX5_hoursHeldTwice_10 rfl (lv_at hl 0 rfl) ?_
      refine lv_aload_n hx hb dX5_hoursHeldTwice_11 rfl (lv_at hl 0 rfl) ?_
      refine fg_X5_39 hC hM (sp_st _ _ _ _) rfl dX5_hoursHeldTwice_12 ?_
      refine lv_iload_n hx hb dX5_hoursHeldTwice_15 rfl (lv_at hl 2 rfl) ?_
      refine lv_iadd hx hb dX5_hoursHeldTwice_16 ?_
      refine lv_iconst (v := 1) hx hb dX5_hoursHeldTwice_17 (by decide) ?_
      refine me_callVi (As := [.int ((g 2) + (nI k)), .int 1]) (rest := []) hC hl.1 hM (c_X5_loansIn l D tb X z0 n a g M0 L ((g 2) + (nI k)) 1 hL hL0) (kv_X5_147 hw rfl rfl ⟨Nat.le_of_ble_eq_true rfl, Nat.le_of_ble_eq_true rfl⟩) rfl rfl (sp_st _ _ _ _) rfl (Nat.le_of_ble_eq_true rfl) dX5_hoursHeldTwice_18 ⟨Nat.le_of_ble_eq_true rfl, Nat.le_of_ble_eq_true rfl⟩ (fun H locs hM => ?_)
      refine lv_iconst (v := 1) hx hb dX5_hoursHeldTwice_21 (by decide) ?_
      refine lv_icmp_le (tgt := 28) hx hb dX5_hoursHeldTwice_22 (by decide) (fun c_2 => ?_) (fun c_2 => ?_)
      · have c_2q := c_2
        have c_2 := Int32.not_lt.mpr c_2
        refine lv_iinc (v := nI (k + 1)) (lv' := [(2, .int (nI (k + 1))), (0, .ref a), (1, .int (nI ct))]) hx hb dX5_hoursHeldTwice_28 hl (k := 2) rfl (nx_add rfl rfl) (by decide) rfl (fun ls hl => ?_)
        refine lv_goto (tgt := 4) hx hb dX5_hoursHeldTwice_31 (by decide) ?_
        exact ih_4 r1 (by omega) (k + 1) ct _ _ _ (by omega) (by rw [hq, co_f (P := fun i => (1 : Int32) < nI (loF g L (g 2 + nI i) 1)) (k := k) (c_2)]) hM (lv_sub hl [1, 2, 0] rfl)
      · have c_2q := c_2
        have c_2 := Int32.not_le.mp c_2
        refine lv_iinc (v := nI (ct + 1)) (lv' := [(1, .int (nI (ct + 1))), (0, .ref a), (2, .int (nI k))]) hx hb dX5_hoursHeldTwice_25 hl (k := 1) rfl (nx_add rfl rfl) (by decide) rfl (fun ls hl => ?_)
        refine lv_iinc (v := nI (k + 1)) (lv' := [(2, .int (nI (k + 1))), (1, .int (nI (ct + 1))), (0, .ref a)]) hx hb dX5_hoursHeldTwice_28 hl (k := 2) rfl (nx_add rfl rfl) (by decide) rfl (fun ls hl => ?_)
        refine lv_goto (tgt := 4) hx hb dX5_hoursHeldTwice_31 (by decide) ?_
        exact ih_4 r1 (by omega) (k + 1) (ct + 1) _ _ _ (by omega) (by rw [hq, co_t (P := fun i => (1 : Int32) < nI (loF g L (g 2 + nI i) 1)) (k := k) (c_2)]; omega) hM (lv_sub hl [2, 1, 0] rfl)
  exact lp_4 48 0 0 _ _ _ (by omega) ((Nat.zero_add _).symm) hM (lv_sub hl [2, 1, 0] rfl)
