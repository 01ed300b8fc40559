set_option maxHeartbeats 4000000 in
theorem c_X5_addStreet (l : Launch) (D : va_G) (tb : Nat → ClassId) (X : State → Prop) (z0 n : Nat) (a : Nat) (g : Nat → Int32) (M0 : me_M) (S B L P : Nat) (nm x1 x2 : Int32)  (hW : wf g S B L P) (h9 : S < 8) : Met l yX5_addStreet (.code yX5_addStreet cX5_addStreet 5 none :: ws_all) ({ frames := 0, cells := 0, slots := 0, locals := 0 } : Room) (me_Pc [.ref a, .int nm, .int x1, .int x2] D tb X z0 (sp tb a g M0) n) (me_Qv D z0 (sp tb a (asF g S nm x1 x2) M0) n) 0 0 (me_A z0) := by
  refine me_open (by decide) (Nat.le_of_ble_eq_true rfl) ?_
  intro p e s m args below meth c ls hC hr hlk hnm hM hl
  have hl : lv_has ls 5 [(0, .ref a), (1, .int nm), (2, .int x1), (3, .int x2)] := hl
  have hx := hC.1
  have hb := hC.2.1
  have hw := hC.2.2.2.2.1
  obtain ⟨hS, hS0, hB, hB0, hL, hL0, hP, hP0, hwb, hwl⟩ := id hW
  refine lv_aload_n hx hb dX5_addStreet_0 rfl (lv_at hl 0 rfl) ?_
  refine fg_X5_11 hC hM (sp_st _ _ _ _) rfl dX5_addStreet_1 ?_
  refine lv_aload_n hx hb dX5_addStreet_4 rfl (lv_at hl 0 rfl) ?_
  refine fg_X5_55 hC hM (sp_st _ _ _ _) rfl dX5_addStreet_5 ?_
  refine me_aald (k := S) hC hM (sp_a1 _ _ _ _) (t0 := 6) rfl hS (by omega) (by decide) (sp_arr_at (by omega)) dX5_addStreet_8 ?_
  refine lv_astore (lv' := [(4, .ref (a + 5 + S)), (0, .ref a), (1, .int nm), (2, .int x1), (3, .int x2)]) hx hb dX5_addStreet_9 hl (by decide) rfl (fun ls hl => ?_)
  refine lv_aload hx hb dX5_addStreet_11 (lv_at hl 0 rfl) ?_
  refine lv_iload_n hx hb dX5_addStreet_13 rfl (lv_at hl 2 rfl) ?_
  refine fp_X5_80 hC hM (sp_street _ _ _ _ (by omega)) (Nat.le_of_ble_eq_true rfl) (M2 := sp tb a (upd g (9 + 10 * S + 4) nm) M0) (sp_w_street (k := S) 4 (by omega) (by decide) (by simp [upd])) dX5_addStreet_14 (fun H locs hM => ?_)
  refine lv_aload hx hb dX5_addStreet_17 (lv_at hl 0 rfl) ?_
  refine lv_iload_n hx hb dX5_addStreet_19 rfl (lv_at hl 3 rfl) ?_
  refine fp_X5_125 hC hM (sp_street _ _ _ _ (by omega)) (Nat.le_of_ble_eq_true rfl) (M2 := sp tb a (upd (upd g (9 + 10 * S + 4) nm) (9 + 10 * S) x1) M0) (sp_w_street (k := S) 0 (by omega) (by decide) (by simp [upd])) dX5_addStreet_20 (fun H locs hM => ?_)
  refine lv_aload hx hb dX5_addStreet_23 (lv_at hl 0 rfl) ?_
  refine lv_iload_n hx hb dX5_addStreet_25 rfl (lv_at hl 4 rfl) ?_
  refine fp_X5_122 hC hM (sp_street _ _ _ _ (by omega)) (Nat.le_of_ble_eq_true rfl) (M2 := sp tb a (upd (upd (upd g (9 + 10 * S + 4) nm) (9 + 10 * S) x1) (9 + 10 * S + 1) x2) M0) (sp_w_street (k := S) 1 (by omega) (by decide) (by simp [upd])) dX5_addStreet_26 (fun H locs hM => ?_)
  refine lv_aload hx hb dX5_addStreet_29 (lv_at hl 0 rfl) ?_
  refine lv_iconst (v := 0) hx hb dX5_addStreet_31 (by decide) ?_
  refine fp_X5_168 hC hM (sp_street _ _ _ _ (by omega)) (Nat.le_of_ble_eq_true rfl) (M2 := sp tb a (upd (upd (upd (upd g (9 + 10 * S + 4) nm) (9 + 10 * S) x1) (9 + 10 * S + 1) x2) (9 + 10 * S + 2) 0) M0) (sp_w_street (k := S) 2 (by omega) (by decide) (by simp [upd])) dX5_addStreet_32 (fun H locs hM => ?_)
  refine lv_aload hx hb dX5_addStreet_35 (lv_at hl 0 rfl) ?_
  refine lv_iconst (v := 0) hx hb dX5_addStreet_37 (by decide) ?_
  refine fp_X5_171 hC hM (sp_street _ _ _ _ (by omega)) (Nat.le_of_ble_eq_true rfl) (M2 := sp tb a (upd (upd (upd (upd (upd g (9 + 10 * S + 4) nm) (9 + 10 * S) x1) (9 + 10 * S + 1) x2) (9 + 10 * S + 2) 0) (9 + 10 * S + 3) 0) M0) (sp_w_street (k := S) 3 (by omega) (by decide) (by simp [upd])) dX5_addStreet_38 (fun H locs hM => ?_)
  refine lv_aload_n hx hb dX5_addStreet_41 rfl (lv_at hl 1 rfl) ?_
  refine lv_dup hx hb dX5_addStreet_42 rfl ?_
  refine fg_X5_55 hC hM (sp_st _ _ _ _) rfl dX5_addStreet_43 ?_
  refine me_evi (y := g 3) ((upd_n (by omega)).trans ((upd_n (by omega)).trans ((upd_n (by omega)).trans ((upd_n (by omega)).trans (upd_n (by omega)))))) ?_
  refine lv_iconst (v := 1) hx hb dX5_addStreet_46 (by decide) ?_
  refine lv_iadd hx hb dX5_addStreet_47 ?_
  refine fp_X5_55 hC hM (sp_st _ _ _ _) (Nat.le_of_ble_eq_true rfl) (M2 := sp tb a (upd (upd (upd (upd (upd (upd g (9 + 10 * S + 4) nm) (9 + 10 * S) x1) (9 + 10 * S + 1) x2) (9 + 10 * S + 2) 0) (9 + 10 * S + 3) 0) (3) ((g 3) + 1)) M0) (sp_w_st 3 (by decide) (by simp [upd])) dX5_addStreet_48 (fun H locs hM => ?_)
  exact me_vret hC hr hlk hM (rfl) (rfl) dX5_addStreet_51
set_option maxHeartbeats 4000000 in
theorem c_X5_addBorrower (l : Launch) (D : va_G) (tb : Nat → ClassId) (X : State → Prop) (z0 n : Nat) (a : Nat) (g : Nat → Int32) (M0 : me_M) (S B L P : Nat) (nm x1 x2 x3 : Int32)  (hW : wf g S B L P) (h9 : B < 12) : Met l yX5_addBorrower (.code yX5_addBorrower cX5_addBorrower 6 none :: ws_all) ({ frames := 0, cells := 0, slots := 0, locals := 0 } : Room) (me_Pc [.ref a, .int nm, .int x1, .int x2, .int x3] D tb X z0 (sp tb a g M0) n) (me_Qv D z0 (sp tb a (abF g B nm x1 x2 x3) M0) n) 0 0 (me_A z0) := by
  refine me_open (by decide) (Nat.le_of_ble_eq_true rfl) ?_
  intro p e s m args below meth c ls hC hr hlk hnm hM hl
  have hl : lv_has ls 6 [(0, .ref a), (1, .int nm), (2, .int x1), (3, .int x2), (4, .int x3)] := hl
  have hx := hC.1
  have hb := hC.2.1
  have hw := hC.2.2.2.2.1
  obtain ⟨hS, hS0, hB, hB0, hL, hL0, hP, hP0, hwb, hwl⟩ := id hW
  refine lv_aload_n hx hb dX5_addBorrower_0 rfl (lv_at hl 0 rfl) ?_
  refine fg_X5_19 hC hM (sp_st _ _ _ _) rfl dX5_addBorrower_1 ?_
  refine lv_aload_n hx hb dX5_addBorrower_4 rfl (lv_at hl 0 rfl) ?_
  refine fg_X5_58 hC hM (sp_st _ _ _ _) rfl dX5_addBorrower_5 ?_
  refine me_aald (k := B) hC hM (sp_a2 _ _ _ _) (t0 := 7) rfl hB (by omega) (by decide) (sp_arr_at (by omega)) dX5_addBorrower_8 ?_
  refine lv_astore (lv' := [(5, .ref (a + 13 + B)), (0, .ref a), (1, .int nm), (2, .int x1), (3, .int x2), (4, .int x3)]) hx hb dX5_addBorrower_9 hl (by decide) rfl (fun ls hl => ?_)
  refine lv_aload hx hb dX5_addBorrower_11 (lv_at hl 0 rfl) ?_
  refine lv_iload_n hx hb dX5_addBorrower_13 rfl (lv_at hl 2 rfl) ?_
  refine fp_X5_83 hC hM (sp_borrower _ _ _ _ (by omega)) (Nat.le_of_ble_eq_true rfl) (M2 := sp tb a (upd g (89 + 11 * B + 5) nm) M0) (sp_w_borrower (k := B) 5 (by omega) (by decide) (by simp [upd])) dX5_addBorrower_14 (fun H locs hM => ?_)
  refine lv_aload hx hb dX5_addBorrower_17 (lv_at hl 0 rfl) ?_
  refine lv_iload_n hx hb dX5_addBorrower_19 rfl (lv_at hl 3 rfl) ?_
  refine fp_X5_87 hC hM (sp_borrower _ _ _ _ (by omega)) (Nat.le_of_ble_eq_true rfl) (M2 := sp tb a (upd (upd g (89 + 11 * B + 5) nm) (89 + 11 * B) x1) M0) (sp_w_borrower (k := B) 0 (by omega) (by decide) (by simp [upd])) dX5_addBorrower_20 (fun H locs hM => ?_)
  refine lv_aload hx hb dX5_addBorrower_23 (lv_at hl 0 rfl) ?_
  refine lv_iload_n hx hb dX5_addBorrower_25 rfl (lv_at hl 4 rfl) ?_
  refine fp_X5_138 hC hM (sp_borrower _ _ _ _ (by omega)) (Nat.le_of_ble_eq_true rfl) (M2 := sp tb a (upd (upd (upd g (89 + 11 * B + 5) nm) (89 + 11 * B) x1) (89 + 11 * B + 1) x2) M0) (sp_w_borrower (k := B) 1 (by omega) (by decide) (by simp [upd])) dX5_addBorrower_26 (fun H locs hM => ?_)
  refine lv_aload hx hb dX5_addBorrower_29 (lv_at hl 0 rfl) ?_
  refine lv_iload hx hb dX5_addBorrower_31 (lv_at hl 5 rfl) ?_
  refine fp_X5_141 hC hM (sp_borrower _ _ _ _ (by omega)) (Nat.le_of_ble_eq_true rfl) (M2 := sp tb a (upd (upd (upd (upd g (89 + 11 * B + 5) nm) (89 + 11 * B) x1) (89 + 11 * B + 1) x2) (89 + 11 * B + 2) x3) M0) (sp_w_borrower (k := B) 2 (by omega) (by decide) (by simp [upd])) dX5_addBorrower_33 (fun H locs hM => ?_)
  refine lv_aload hx hb dX5_addBorrower_36 (lv_at hl 0 rfl) ?_
  refine lv_iconst (v := 0) hx hb dX5_addBorrower_38 (by decide) ?_
  refine fp_X5_174 hC hM (sp_borrower _ _ _ _ (by omega)) (Nat.le_of_ble_eq_true rfl) (M2 := sp tb a (upd (upd (upd (upd (upd g (89 + 11 * B + 5) nm) (89 + 11 * B) x1) (89 + 11 * B + 1) x2) (89 + 11 * B + 2) x3) (89 + 11 * B + 3) 0) M0) (sp_w_borrower (k := B) 3 (by omega) (by decide) (by simp [upd])) dX5_addBorrower_39 (fun H locs hM => ?_)
  refine lv_aload hx hb dX5_addBorrower_42 (lv_at hl 0 rfl) ?_
  refine lv_iconst (v := 0) hx hb dX5_addBorrower_44 (by decide) ?_
  refine fp_X5_177 hC hM (sp_borrower _ _ _ _ (by omega)) (Nat.le_of_ble_eq_true rfl) (M2 := sp tb a (upd (upd (upd (upd (upd (upd g (89 + 11 * B + 5) nm) (89 + 11 * B) x1) (89 + 11 * B + 1) x2) (89 + 11 * B + 2) x3) (89 + 11 * B + 3) 0) (89 + 11 * B + 4) 0) M0) (sp_w_borrower (k := B) 4 (by omega) (by decide) (by simp [upd])) dX5_addBorrower_45 (fun H locs hM => ?_)
  refine lv_aload_n hx hb dX5_addBorrower_48 rfl (lv_at hl 1 rfl) ?_
  refine lv_dup hx hb dX5_addBorrower_49 rfl ?_
  refine fg_X5_58 hC hM (sp_st _ _ _ _) rfl dX5_addBorrower_50 ?_
  refine me_evi (y := g 4) ((upd_n (by omega)).trans ((upd_n (by omega)).trans ((upd_n (by omega)).trans ((upd_n (by omega)).trans ((upd_n (by omega)).trans (upd_n (by omega))))))) ?_
  refine lv_iconst (v := 1) hx hb dX5_addBorrower_53 (by decide) ?_
  refine lv_iadd hx hb dX5_addBorrower_54 ?_
  refine fp_X5_58 hC hM (sp_st _ _ _ _) (Nat.le_of_ble_eq_true rfl) (M2 := sp tb a (upd (upd (upd (upd (upd (upd (upd g (89 + 11 * B + 5) nm) (89 + 11 * B) x1) (89 + 11 * B + 1) x2) (89 + 11 * B + 2) x3) (89 + 11 * B + 3) 0) (89 + 11 * B + 4) 0) (4) ((g 4) + 1)) M0) (sp_w_st 4 (by decide) (by simp [upd])) dX5_addBorrower_55 (fun H locs hM => ?_)
  refine lv_aload_n hx hb dX5_addBorrower_58 rfl (lv_at hl 1 rfl) ?_
  refine lv_dup hx hb dX5_addBorrower_59 rfl ?_
  refine fg_X5_49 hC hM (sp_st _ _ _ _) rfl dX5_addBorrower_60 ?_
  refine me_evi (y := g 7) ((upd_n (by omega)).trans ((upd_n (by omega)).trans ((upd_n (by omega)).trans ((upd_n (by omega)).trans ((upd_n (by omega)).trans ((upd_n (by omega)).trans (upd_n (by omega)))))))) ?_
  refine lv_iload hx hb dX5_addBorrower_63 (lv_at hl 5 rfl) ?_
  refine lv_iadd hx hb dX5_addBorrower_65 ?_
  refine fp_X5_49 hC hM (sp_st _ _ _ _) (Nat.le_of_ble_eq_true rfl) (M2 := sp tb a (upd (upd (upd (upd (upd (upd (upd (upd g (89 + 11 * B + 5) nm) (89 + 11 * B) x1) (89 + 11 * B + 1) x2) (89 + 11 * B + 2) x3) (89 + 11 * B + 3) 0) (89 + 11 * B + 4) 0) (4) ((g 4) + 1)) (7) ((g 7) + x3)) M0) (sp_w_st 7 (by decide) (by simp [upd])) dX5_addBorrower_66 (fun H locs hM => ?_)
  exact me_vret hC hr hlk hM (rfl) (rfl) dX5_addBorrower_69
set_option maxHeartbeats 4000000 in
theorem c_X5_addPermit (l : Launch) (D : va_G) (tb : Nat → ClassId) (X : State → Prop) (z0 n : Nat) (a : Nat) (g : Nat → Int32) (M0 : me_M) (S B L P : Nat) (x1 x2 x3 : Int32)  (hW : wf g S B L P) (h9 : P < 10) : Met l yX5_addPermit (.code yX5_addPermit cX5_addPermit 5 (some .int) :: ws_all) ({ frames := 0, cells := 0, slots := 0, locals := 0 } : Room) (me_Pc [.ref a, .int x1, .int x2, .int x3] D tb X z0 (sp tb a g M0) n) (me_Qi D z0 (nI P) (sp tb a (apF g P x1 x2 x3) M0) n) 0 0 (me_A z0) := by
  refine me_open (by decide) (Nat.le_of_ble_eq_true rfl) ?_
  intro p e s m args below meth c ls hC hr hlk hnm hM hl
  have hl : lv_has ls 5 [(0, .ref a), (1, .int x1), (2, .int x2), (3, .int x3)] := hl
  have hx := hC.1
  have hb := hC.2.1
  have hw := hC.2.2.2.2.1
  obtain ⟨hS, hS0, hB, hB0, hL, hL0, hP, hP0, hwb, hwl⟩ := id hW
  refine lv_aload_n hx hb dX5_addPermit_0 rfl (lv_at hl 0 rfl) ?_
  refine fg_X5_31 hC hM (sp_st _ _ _ _) rfl dX5_addPermit_1 ?_
  refine lv_aload_n hx hb dX5_addPermit_4 rfl (lv_at hl 0 rfl) ?_
  refine fg_X5_64 hC hM (sp_st _ _ _ _) rfl dX5_addPermit_5 ?_
  refine me_aald (k := P) hC hM (sp_a4 _ _ _ _) (t0 := 9) rfl hP (by omega) (by decide) (sp_arr_at (by omega)) dX5_addPermit_8 ?_
  refine lv_astore (lv' := [(4, .ref (a + 55 + P)), (0, .ref a), (1, .int x1), (2, .int x2), (3, .int x3)]) hx hb dX5_addPermit_9 hl (by decide) rfl (fun ls hl => ?_)
  refine lv_aload hx hb dX5_addPermit_11 (lv_at hl 0 rfl) ?_
  refine lv_iload_n hx hb dX5_addPermit_13 rfl (lv_at hl 2 rfl) ?_
  refine fp_X5_189 hC hM (sp_permit _ _ _ _ (by omega)) (Nat.le_of_ble_eq_true rfl) (M2 := sp tb a (upd g (221 + 4 * P) x1) M0) (sp_w_permit (k := P) 0 (by omega) (by decide) (by simp [upd])) dX5_addPermit_14 (fun H locs hM => ?_)
  refine lv_aload hx hb dX5_addPermit_17 (lv_at hl 0 rfl) ?_
  refine lv_iload_n hx hb dX5_addPermit_19 rfl (lv_at hl 3 rfl) ?_
  refine fp_X5_190 hC hM (sp_permit _ _ _ _ (by omega)) (Nat.le_of_ble_eq_true rfl) (M2 := sp tb a (upd (upd g (221 + 4 * P) x1) (221 + 4 * P + 1) x2) M0) (sp_w_permit (k := P) 1 (by omega) (by decide) (by simp [upd])) dX5_addPermit_20 (fun H locs hM => ?_)
  refine lv_aload hx hb dX5_addPermit_23 (lv_at hl 0 rfl) ?_
  refine lv_iload_n hx hb dX5_addPermit_25 rfl (lv_at hl 4 rfl) ?_
  refine fp_X5_191 hC hM (sp_permit _ _ _ _ (by omega)) (Nat.le_of_ble_eq_true rfl) (M2 := sp tb a (upd (upd (upd g (221 + 4 * P) x1) (221 + 4 * P + 1) x2) (221 + 4 * P + 2) x3) M0) (sp_w_permit (k := P) 2 (by omega) (by decide) (by simp [upd])) dX5_addPermit_26 (fun H locs hM => ?_)
  refine lv_aload hx hb dX5_addPermit_29 (lv_at hl 0 rfl) ?_
  refine lv_iconst (v := 0) hx hb dX5_addPermit_31 (by decide) ?_
  refine fp_X5_104 hC hM (sp_permit _ _ _ _ (by omega)) (Nat.le_of_ble_eq_true rfl) (by first | rfl | decide) (by first | rfl | decide) (M2 := sp tb a (upd (upd (upd (upd g (221 + 4 * P) x1) (221 + 4 * P + 1) x2) (221 + 4 * P + 2) x3) (221 + 4 * P + 3) 0) M0) (sp_w_permit (k := P) 3 (by omega) (by decide) (by simp [upd, bz])) dX5_addPermit_32 (fun H locs hM => ?_)
  refine lv_aload_n hx hb dX5_addPermit_35 rfl (lv_at hl 1 rfl) ?_
  refine lv_dup hx hb dX5_addPermit_36 rfl ?_
  refine fg_X5_64 hC hM (sp_st _ _ _ _) rfl dX5_addPermit_37 ?_
  refine me_evi (y := g 5) ((upd_n (by omega)).trans ((upd_n (by omega)).trans ((upd_n (by omega)).trans (upd_n (by omega))))) ?_
  refine lv_iconst (v := 1) hx hb dX5_addPermit_40 (by decide) ?_
  refine lv_iadd hx hb dX5_addPermit_41 ?_
  refine fp_X5_64 hC hM (sp_st _ _ _ _) (Nat.le_of_ble_eq_true rfl) (M2 := sp tb a (upd (upd (upd (upd (upd g (221 + 4 * P) x1) (221 + 4 * P + 1) x2) (221 + 4 * P + 2) x3) (221 + 4 * P + 3) 0) (5) ((g 5) + 1)) M0) (sp_w_st 5 (by decide) (by simp [upd])) dX5_addPermit_42 (fun H locs hM => ?_)
  refine lv_aload_n hx hb dX5_addPermit_45 rfl (lv_at hl 1 rfl) ?_
  refine fg_X5_64 hC hM (sp_st _ _ _ _) rfl dX5_addPermit_46 ?_
  refine me_evi (y := (g 5) + 1) (upd_s _ _ _) ?_
  refine lv_iconst (v := 1) hx hb dX5_addPermit_49 (by decide) ?_
  refine lv_isub hx hb dX5_addPermit_50 ?_
  exact me_iret hC hr hlk hM (by rw [hP, Int32.add_sub_cancel]) (rfl) (rfl) dX5_addPermit_51
set_option maxHeartbeats 4000000 in
theorem c_X5_clear (l : Launch) (D : va_G) (tb : Nat → ClassId) (X : State → Prop) (z0 n : Nat) (a : Nat) (g : Nat → Int32) (M0 : me_M)  : Met l yX5_clear (.code yX5_clear cX5_clear 1 none :: ws_all) ({ frames := 0, cells := 0, slots := 0, locals := 0 } : Room) (me_Pc [.ref a] D tb X z0 (sp tb a g M0) n) (me_Qv D z0 (sp tb a (clF g) M0) n) 0 0 (me_A z0) := by
  refine me_open (by decide) (Nat.le_of_ble_eq_true rfl) ?_
  intro p e s m args below meth c ls hC hr hlk hnm hM hl
  have hl : lv_has ls 1 [(0, .ref a)] := hl
  have hx := hC.1
  have hb := hC.2.1
  have hw := hC.2.2.2.2.1
  refine lv_aload_n hx hb dX5_clear_0 rfl (lv_at hl 0 rfl) ?_
  refine lv_iconst (v := 0) hx hb dX5_clear_1 (by decide) ?_
  refine fp_X5_39 hC hM (sp_st _ _ _ _) (Nat.le_of_ble_eq_true rfl) (M2 := sp tb a (upd g (2) 0) M0) (sp_w_st 2 (by decide) (by simp [upd])) dX5_clear_2 (fun H locs hM => ?_)
  refine lv_aload_n hx hb dX5_clear_5 rfl (lv_at hl 0 rfl) ?_
  refine lv_iconst (v := 0) hx hb dX5_clear_6 (by decide) ?_
  refine fp_X5_43 hC hM (sp_st _ _ _ _) (Nat.le_of_ble_eq_true rfl) (M2 := sp tb a (upd (upd g (2) 0) (0) 0) M0) (sp_w_st 0 (by decide) (by simp [upd])) dX5_clear_7 (fun H locs hM => ?_)
  refine lv_aload_n hx hb dX5_clear_10 rfl (lv_at hl 0 rfl) ?_
  refine lv_iconst (v := 0) hx hb dX5_clear_11 (by decide) ?_
  refine fp_X5_46 hC hM (sp_st _ _ _ _) (Nat.le_of_ble_eq_true rfl) (M2 := sp tb a (upd (upd (upd g (2) 0) (0) 0) (1) 0) M0) (sp_w_st 1 (by decide) (by simp [upd])) dX5_clear_12 (fun H locs hM => ?_)
  refine lv_aload_n hx hb dX5_clear_15 rfl (lv_at hl 0 rfl) ?_
  refine lv_iconst (v := 0) hx hb dX5_clear_16 (by decide) ?_
  refine fp_X5_49 hC hM (sp_st _ _ _ _) (Nat.le_of_ble_eq_true rfl) (M2 := sp tb a (upd (upd (upd (upd g (2) 0) (0) 0) (1) 0) (7) 0) M0) (sp_w_st 7 (by decide) (by simp [upd])) dX5_clear_17 (fun H locs hM => ?_)
  refine lv_aload_n hx hb dX5_clear_20 rfl (lv_at hl 0 rfl) ?_
  refine lv_iconst (v := 0) hx hb dX5_clear_21 (by decide) ?_
  refine fp_X5_52 hC hM (sp_st _ _ _ _) (Nat.le_of_ble_eq_true rfl) (M2 := sp tb a (upd (upd (upd (upd (upd g (2) 0) (0) 0) (1) 0) (7) 0) (8) 0) M0) (sp_w_st 8 (by decide) (by simp [upd])) dX5_clear_22 (fun H locs hM => ?_)
  refine lv_aload_n hx hb dX5_clear_25 rfl (lv_at hl 0 rfl) ?_
  refine lv_iconst (v := 0) hx hb dX5_clear_26 (by decide) ?_
  refine fp_X5_55 hC hM (sp_st _ _ _ _) (Nat.le_of_ble_eq_true rfl) (M2 := sp tb a (upd (upd (upd (upd (upd (upd g (2) 0) (0) 0) (1) 0) (7) 0) (8) 0) (3) 0) M0) (sp_w_st 3 (by decide) (by simp [upd])) dX5_clear_27 (fun H locs hM => ?_)
  refine lv_aload_n hx hb dX5_clear_30 rfl (lv_at hl 0 rfl) ?_
  refine lv_iconst (v := 0) hx hb dX5_clear_31 (by decide) ?_
  refine fp_X5_58 hC hM (sp_st _ _ _ _) (Nat.le_of_ble_eq_true rfl) (M2 := sp tb a (upd (upd (upd (upd (upd (upd (upd g (2) 0) (0) 0) (1) 0) (7) 0) (8) 0) (3) 0) (4) 0) M0) (sp_w_st 4 (by decide) (by simp [upd])) dX5_clear_32 (fun H locs hM => ?_)
  refine lv_aload_n hx hb dX5_clear_35 rfl (lv_at hl 0 rfl) ?_
  refine lv_iconst (v := 0) hx hb dX5_clear_36 (by decide) ?_
  refine fp_X5_61 hC hM (sp_st _ _ _ _) (Nat.le_of_ble_eq_true rfl) (M2 := sp tb a (upd (upd (upd (upd (upd (upd (upd (upd g (2) 0) (0) 0) (1) 0) (7) 0) (8) 0) (3) 0) (4) 0) (6) 0) M0) (sp_w_st 6 (by decide) (by simp [upd])) dX5_clear_37 (fun H locs hM => ?_)
  refine lv_aload_n hx hb dX5_clear_40 rfl (lv_at hl 0 rfl) ?_
  refine lv_iconst (v := 0) hx hb dX5_clear_41 (by decide) ?_
  refine fp_X5_64 hC hM (sp_st _ _ _ _) (Nat.le_of_ble_eq_true rfl) (M2 := sp tb a (upd (upd (upd (upd (upd (upd (upd (upd (upd g (2) 0) (0) 0) (1) 0) (7) 0) (8) 0) (3) 0) (4) 0) (6) 0) (5) 0) M0) (sp_w_st 5 (by decide) (by simp [upd])) dX5_clear_42 (fun H locs hM => ?_)
  exact me_vret hC hr hlk hM (rfl) (rfl) dX5_clear_45
set_option maxHeartbeats 4000000 in
theorem c_X5_addLoan (l : Launch) (D : va_G) (tb : Nat → ClassId) (X : State → Prop) (z0 n : Nat) (a : Nat) (g : Nat → Int32) (M0 : me_M) (S B L P : Nat) (b s0 n9 : Nat)  (hW : wf g S B L P) (hb9 : b < B) (h9 : L < 30) : Met l yX5_addLoan (.code yX5_addLoan cX5_addLoan 5 (some .int) :: ws_all) ({ frames := 1, cells := 0, slots := 0, locals := 22 } : Room) (me_Pc [.ref a, .int (nI b), .int (nI s0), .int (nI n9)] D tb X z0 (sp tb a g M0) n) (me_Qi D z0 (nI L) (sp tb a (adF g L b s0 n9) M0) n) 0 0 (me_A z0) := by
  refine me_open (by decide) (Nat.le_of_ble_eq_true rfl) ?_
  intro p e s m args below meth c ls hC hr hlk hnm hM hl
  have hl : lv_has ls 5 [(0, .ref a), (1, .int (nI b)), (2, .int (nI s0)), (3, .int (nI n9))] := hl
  have hx := hC.1
  have hb := hC.2.1
  have hw := hC.2.2.2.2.1
  obtain ⟨hS, hS0, hB, hB0, hL, hL0, hP, hP0, hwb, hwl⟩ := id hW
  refine lv_iconst (v := 0) hx hb dX5_addLoan_0 (by decide) ?_
  refine lv_istore (lv' := [(4, .int 0), (0, .ref a), (1, .int (nI b)), (2, .int (nI s0)), (3, .int (nI n9))]) hx hb dX5_addLoan_1 hl (by decide) rfl (fun ls hl => ?_)
  have lp_3 : ∀ (r : Nat) (k : Nat) (g1 : Nat → Int32) (H : Heap) (locs : List Loc) (ls : Array Slot), (k + r = L) → (it (alS (nI s0) (nI n9)) L 0 g = it (alS (nI s0) (nI n9)) r k g1) → (wf g1 S B L P) → me_at D z0 (sp tb a g1 M0) n s H locs → lv_has ls 5 [(0, .ref a), (1, .int (nI b)), (2, .int (nI s0)), (3, .int (nI n9)), (4, .int (nI k))] → W p l e (({ frames := 1, cells := 0, slots := 0, locals := 22 } : Room)) s m args below meth c H locs 0 0 (MQ below (me_Qi D z0 (nI L) (sp tb a (adF g L b s0 n9) M0) n) args s 0 0 (me_A z0)) (F0 m 3 ls []) := by
    intro r
    refine Nat.strongRecOn r ?_
    intro r ih_3 k g1 H locs ls hk hq hW1 hM hl
    obtain ⟨hS, hS0, hB, hB0, hL, hL0, hP, hP0, hwb, hwl⟩ := id hW1
    refine lv_iload hx hb dX5_addLoan_3 (lv_at hl 4 rfl) ?_
    refine lv_aload_n hx hb dX5_addLoan_5 rfl (lv_at hl 0 rfl) ?_
    refine fg_X5_61 hC hM (sp_st _ _ _ _) rfl dX5_addLoan_6 ?_
    refine lv_icmp_ge (tgt := 39) hx hb dX5_addLoan_9 (by decide) (fun c_1 => ?_) (fun c_1 => ?_)
    · have c_1 := (br_le hL rfl (by omega) (by omega)).mp c_1
      obtain rfl : r = 0 := by omega
      have hq : adA g L s0 n9 = g1 := hq
      refine lv_aload_n hx hb dX5_addLoan_39 rfl (lv_at hl 0 rfl) ?_
      refine fg_X5_25 hC hM (sp_st _ _ _ _) rfl dX5_addLoan_40 ?_
      refine lv_aload_n hx hb dX5_addLoan_43 rfl (lv_at hl 0 rfl) ?_
      refine fg_X5_61 hC hM (sp_st _ _ _ _) rfl dX5_addLoan_44 ?_
      refine me_aald (k := L) hC hM (sp_a3 _ _ _ _) (t0 := 8) rfl hL (by omega) (by decide) (sp_arr_at (by omega)) dX5_addLoan_47 ?_
      refine lv_astore (lv' := [(4, .ref (a + 25 + L)), (0, .ref a), (1, .int (nI b)), (2, .int (nI s0)), (3, .int (nI n9))]) hx hb dX5_addLoan_48 hl (by decide) rfl (fun ls hl => ?_)
      refine lv_aload hx hb dX5_addLoan_50 (lv_at hl 0 rfl) ?_
      refine lv_iload_n hx hb dX5_addLoan_52 rfl (lv_at hl 2 rfl) ?_
      refine fp_X5_84 hC hM (sp_loan _ _ _ _ (by omega)) (Nat.le_of_ble_eq_true rfl) (M2 := sp tb a (upd g1 (261 + 5 * L) (nI b)) M0) (sp_w_loan (k := L) 0 (by omega) (by decide) (by simp [upd])) dX5_addLoan_53 (fun H locs hM => ?_)
      refine lv_aload hx hb dX5_addLoan_56 (lv_at hl 0 rfl) ?_
      refine lv_iload_n hx hb dX5_addLoan_58 rfl (lv_at hl 3 rfl) ?_
      refine fp_X5_183 hC hM (sp_loan _ _ _ _ (by omega)) (Nat.le_of_ble_eq_true rfl) (M2 := sp tb a (upd (upd g1 (261 + 5 * L) (nI b)) (261 + 5 * L + 1) (nI s0)) M0) (sp_w_loan (k := L) 1 (by omega) (by decide) (by simp [upd])) dX5_addLoan_59 (fun H locs hM => ?_)
      refine lv_aload hx hb dX5_addLoan_62 (lv_at hl 0 rfl) ?_
      refine lv_iload_n hx hb dX5_addLoan_64 rfl (lv_at hl 4 rfl) ?_
      refine fp_X5_186 hC hM (sp_loan _ _ _ _ (by omega)) (Nat.le_of_ble_eq_true rfl) (M2 := sp tb a (upd (upd (upd g1 (261 + 5 * L) (nI b)) (261 + 5 * L + 1) (nI s0)) (261 + 5 * L + 2) (nI n9)) M0) (sp_w_loan (k := L) 2 (by omega) (by decide) (by simp [upd])) dX5_addLoan_65 (fun H locs hM => ?_)
      refine lv_aload hx hb dX5_addLoan_68 (lv_at hl 0 rfl) ?_
      refine lv_aload_n hx hb dX5_addLoan_70 rfl (lv_at hl 1 rfl) ?_
      refine lv_iload_n hx hb dX5_addLoan_71 rfl (lv_at hl 2 rfl) ?_
      refine lv_iload_n hx hb dX5_addLoan_72 rfl (lv_at hl 4 rfl) ?_
      have hkb_ := hwb b (by omega)
      have hW2 : wf (upd (upd (upd g1 (261 + 5 * L) (nI b)) (261 + 5 * L + 1) (nI s0)) (261 + 5 * L + 2) (nI n9)) S B L P := wf_upd (wf_upd (wf_upd hW1 (by omega) (fun b hb => by omega) (fun j hj => by omega)) (by omega) (fun b hb => by omega) (fun j hj => by omega)) (by omega) (fun b hb => by omega) (fun j hj => by omega)
      refine me_callVi (As := [.int (nI b), .int (nI n9)]) (rest := [.ref (a + 25 + L)]) hC hl.1 hM (c_X5_price l D tb X z0 n a (upd (upd (upd g1 (261 + 5 * L) (nI b)) (261 + 5 * L + 1) (nI s0)) (261 + 5 * L + 2) (nI n9)) M0 S B L P b (nI n9) hW2 (by omega)) (kv_X5_160 hw rfl rfl ⟨Nat.le_of_ble_eq_true rfl, Nat.le_of_ble_eq_true rfl⟩) rfl rfl (sp_st _ _ _ _) rfl (Nat.le_of_ble_eq_true rfl) dX5_addLoan_73 ⟨Nat.le_of_ble_eq_true rfl, Nat.le_of_ble_eq_true rfl⟩ (fun H locs hM => ?_)
      refine me_evi (y := prF g1 b (nI n9)) (prF_upd3 (by omega) (by omega) (by omega) (by omega) (by omega)) ?_
      refine fp_X5_144 hC hM (sp_loan _ _ _ _ (by omega)) (Nat.le_of_ble_eq_true rfl) (M2 := sp tb a (upd (upd (upd (upd g1 (261 + 5 * L) (nI b)) (261 + 5 * L + 1) (nI s0)) (261 + 5 * L + 2) (nI n9)) (261 + 5 * L + 3) (prF g1 b (nI n9))) M0) (sp_w_loan (k := L) 3 (by omega) (by decide) (by simp [upd])) dX5_addLoan_76 (fun H locs hM => ?_)
      refine lv_aload hx hb dX5_addLoan_79 (lv_at hl 0 rfl) ?_
      refine lv_iconst (v := 0) hx hb dX5_addLoan_81 (by decide) ?_
      refine fp_X5_90 hC hM (sp_loan _ _ _ _ (by omega)) (Nat.le_of_ble_eq_true rfl) (M2 := sp tb a (upd (upd (upd (upd (upd g1 (261 + 5 * L) (nI b)) (261 + 5 * L + 1) (nI s0)) (261 + 5 * L + 2) (nI n9)) (261 + 5 * L + 3) (prF g1 b (nI n9))) (261 + 5 * L + 4) 0) M0) (sp_w_loan (k := L) 4 (by omega) (by decide) (by simp [upd])) dX5_addLoan_82 (fun H locs hM => ?_)
      refine lv_aload_n hx hb dX5_addLoan_85 rfl (lv_at hl 1 rfl) ?_
      refine fg_X5_19 hC hM (sp_st _ _ _ _) rfl dX5_addLoan_86 ?_
      refine lv_iload_n hx hb dX5_addLoan_89 rfl (lv_at hl 2 rfl) ?_
      refine me_aald (k := b) hC hM (sp_a2 _ _ _ _) (t0 := 7) rfl rfl (by omega) (by decide) (sp_arr_at (by omega)) dX5_addLoan_90 ?_
      refine lv_dup hx hb dX5_addLoan_91 rfl ?_
      refine fg_X5_141 hC hM (sp_borrower _ _ _ _ (by omega)) rfl dX5_addLoan_92 ?_
      refine me_evi (y := g1 (89 + 11 * b + 2)) ((upd_n (by omega)).trans ((upd_n (by omega)).trans ((upd_n (by omega)).trans ((upd_n (by omega)).trans (upd_n (by omega)))))) ?_
      refine lv_aload hx hb dX5_addLoan_95 (lv_at hl 0 rfl) ?_
      refine fg_X5_144 hC hM (sp_loan _ _ _ _ (by omega)) rfl dX5_addLoan_97 ?_
      refine me_evi (y := prF g1 b (nI n9)) ((upd_n (by omega)).trans (upd_s _ _ _)) ?_
      refine lv_isub hx hb dX5_addLoan_100 ?_
      refine fp_X5_141 hC hM (sp_borrower _ _ _ _ (by omega)) (Nat.le_of_ble_eq_true rfl) (M2 := sp tb a (upd (upd (upd (upd (upd (upd g1 (261 + 5 * L) (nI b)) (261 + 5 * L + 1) (nI s0)) (261 + 5 * L + 2) (nI n9)) (261 + 5 * L + 3) (prF g1 b (nI n9))) (261 + 5 * L + 4) 0) (89 + 11 * b + 2) ((g1 (89 + 11 * b + 2)) - (prF g1 b (nI n9)))) M0) (sp_w_borrower (k := b) 2 (by omega) (by decide) (by simp [upd])) dX5_addLoan_101 (fun H locs hM => ?_)
      refine lv_aload_n hx hb dX5_addLoan_104 rfl (lv_at hl 1 rfl) ?_
      refine lv_dup hx hb dX5_addLoan_105 rfl ?_
      refine fg_X5_61 hC hM (sp_st _ _ _ _) rfl dX5_addLoan_106 ?_
      refine me_evi (y := g1 6) ((upd_n (by omega)).trans ((upd_n (by omega)).trans ((upd_n (by omega)).trans ((upd_n (by omega)).trans ((upd_n (by omega)).trans (upd_n (by omega))))))) ?_
      refine lv_iconst (v := 1) hx hb dX5_addLoan_109 (by decide) ?_
      refine lv_iadd hx hb dX5_addLoan_110 ?_
      refine fp_X5_61 hC hM (sp_st _ _ _ _) (Nat.le_of_ble_eq_true rfl) (M2 := sp tb a (upd (upd (upd (upd (upd (upd (upd g1 (261 + 5 * L) (nI b)) (261 + 5 * L + 1) (nI s0)) (261 + 5 * L + 2) (nI n9)) (261 + 5 * L + 3) (prF g1 b (nI n9))) (261 + 5 * L + 4) 0) (89 + 11 * b + 2) ((g1 (89 + 11 * b + 2)) - (prF g1 b (nI n9)))) (6) ((g1 6) + 1)) M0) (sp_w_st 6 (by decide) (by simp [upd])) dX5_addLoan_111 (fun H locs hM => ?_)
      refine lv_aload_n hx hb dX5_addLoan_114 rfl (lv_at hl 1 rfl) ?_
      refine fg_X5_61 hC hM (sp_st _ _ _ _) rfl dX5_addLoan_115 ?_
      refine me_evi (y := (g1 6) + 1) (upd_s _ _ _) ?_
      refine lv_iconst (v := 1) hx hb dX5_addLoan_118 (by decide) ?_
      refine lv_isub hx hb dX5_addLoan_119 ?_
      exact me_iret hC hr hlk hM (by rw [hL, Int32.add_sub_cancel]) (by unfold adF; rw [hq]) (rfl) dX5_addLoan_120
    · have c_1 := (not_congr (br_le hL rfl (by omega) (by omega))).mp c_1
      obtain ⟨r1, rfl⟩ : ∃ r1, r = r1 + 1 := ⟨r - 1, by omega⟩
      refine lv_aload_n hx hb dX5_addLoan_12 rfl (lv_at hl 0 rfl) ?_
      refine fg_X5_25 hC hM (sp_st _ _ _ _) rfl dX5_addLoan_13 ?_
      refine lv_iload hx hb dX5_addLoan_16 (lv_at hl 4 rfl) ?_
      refine me_aald (k := k) hC hM (sp_a3 _ _ _ _) (t0 := 8) rfl rfl (by omega) (by decide) (sp_arr_at (by omega)) dX5_addLoan_18 ?_
      refine lv_iload_n hx hb dX5_addLoan_19 rfl (lv_at hl 2 rfl) ?_
      refine lv_iload_n hx hb dX5_addLoan_20 rfl (lv_at hl 3 rfl) ?_
      refine me_callVi (As := [.int (nI s0), .int (nI n9)]) (rest := []) hC hl.1 hM (c_X2_holdsOneOf l D tb X z0 n _ _ _ _ _ _ _ (nI s0) (nI n9) (sp_loan _ _ _ _ (by omega))) (kv_X5_93 hw rfl rfl ⟨Nat.le_of_ble_eq_true rfl, Nat.le_of_ble_eq_true rfl⟩) rfl rfl (sp_loan _ _ _ _ (by omega)) rfl (Nat.le_of_ble_eq_true rfl) dX5_addLoan_21 ⟨Nat.le_of_ble_eq_true rfl, Nat.le_of_ble_eq_true rfl⟩ (fun H locs hM => ?_)
      refine lv_if_eq (tgt := 33) hx hb dX5_addLoan_24 (by decide) (fun c_2 => ?_) (fun c_2 => ?_)
      · have c_2 := b1_0.mp c_2
        refine lv_iinc (v := nI (k + 1)) (lv' := [(4, .int (nI (k + 1))), (0, .ref a), (1, .int (nI b)), (2, .int (nI s0)), (3, .int (nI n9))]) hx hb dX5_addLoan_33 hl (k := 4) rfl (nx_add rfl rfl) (by decide) rfl (fun ls hl => ?_)
        refine lv_goto (tgt := 3) hx hb dX5_addLoan_36 (by decide) ?_
        exact ih_3 r1 (by omega) (k + 1) ((alS (nI s0) (nI n9)) k g1) _ _ _ (by omega) hq (wf_al hW1 (by omega)) (hM.eq (by rw [show alS (nI s0) (nI n9) k g1 = _ from if_neg c_2])) (lv_sub hl [1, 2, 3, 4, 0] rfl)
      · have c_2 := b1_n0.mp c_2
        refine lv_aload_n hx hb dX5_addLoan_27 rfl (lv_at hl 0 rfl) ?_
        refine lv_iload hx hb dX5_addLoan_28 (lv_at hl 4 rfl) ?_
        refine me_callVv (As := [.int (nI k)]) (rest := []) hC hl.1 hM (c_X5_cancelLoan l D tb X z0 n a g1 M0 S B L P k hW1 (by omega)) (kv_X5_180 hw rfl rfl ⟨Nat.le_of_ble_eq_true rfl, Nat.le_of_ble_eq_true rfl⟩) rfl rfl (sp_st _ _ _ _) rfl (Nat.le_of_ble_eq_true rfl) dX5_addLoan_30 ⟨Nat.le_of_ble_eq_true rfl, Nat.le_of_ble_eq_true rfl⟩ (fun H locs hM => ?_)
        refine lv_iinc (v := nI (k + 1)) (lv' := [(4, .int (nI (k + 1))), (0, .ref a), (1, .int (nI b)), (2, .int (nI s0)), (3, .int (nI n9))]) hx hb dX5_addLoan_33 hl (k := 4) rfl (nx_add rfl rfl) (by decide) rfl (fun ls hl => ?_)
        refine lv_goto (tgt := 3) hx hb dX5_addLoan_36 (by decide) ?_
        exact ih_3 r1 (by omega) (k + 1) ((alS (nI s0) (nI n9)) k g1) _ _ _ (by omega) hq (wf_al hW1 (by omega)) (hM.eq (by rw [show alS (nI s0) (nI n9) k g1 = _ from if_pos c_2])) (lv_sub hl [1, 2, 3, 4, 0] rfl)
  exact lp_3 L 0 g _ _ _ (by omega) rfl hW hM (lv_sub hl [1, 2, 3, 4, 0] rfl)
set_option maxHeartbeats 4000000 in
theorem c_X5_accountsDifference (l : Launch) (D : va_G) (tb : Nat → ClassId) (X : State → Prop) (z0 n : Nat) (a : Nat) (g : Nat → Int32) (M0 : me_M) (S B L P : Nat)  (hW : wf g S B L P) : Met l yX5_accountsDifference (.code yX5_accountsDifference cX5_accountsDifference 3 (some .int) :: ws_all) ({ frames := 0, cells := 0, slots := 0, locals := 0 } : Room) (me_Pc [.ref a] D tb X z0 (sp tb a g M0) n) (me_Qi D z0 (acF g B L) (sp tb a g M0) n) 0 0 (me_A z0) := by
  refine me_open (by decide) (Nat.le_of_ble_eq_true rfl) ?_
  intro p e s m args below meth c ls hC hr hlk hnm hM hl
  have hl : lv_has ls 3 [(0, .ref a)] := hl
  have hx := hC.1
  have hb := hC.2.1
  have hw := hC.2.2.2.2.1
  obtain ⟨hS, hS0, hB, hB0, hL, hL0, hP, hP0, hwb, hwl⟩ := id hW
  refine lv_aload_n hx hb dX5_accountsDifference_0 rfl (lv_at hl 0 rfl) ?_
  refine fg_X5_52 hC hM (sp_st _ _ _ _) rfl dX5_accountsDifference_1 ?_
  refine lv_aload_n hx hb dX5_accountsDifference_4 rfl (lv_at hl 0 rfl) ?_
  refine fg_X5_49 hC hM (sp_st _ _ _ _) rfl dX5_accountsDifference_5 ?_
  refine lv_isub hx hb dX5_accountsDifference_8 ?_
  refine lv_istore_n (lv' := [(1, .int ((g 8) - (g 7))), (0, .ref a)]) hx hb dX5_accountsDifference_9 rfl hl (by decide) rfl (fun ls hl => ?_)
  refine lv_iconst (v := 0) hx hb dX5_accountsDifference_10 (by decide) ?_
  refine lv_istore_n (lv' := [(2, .int 0), (1, .int ((g 8) - (g 7))), (0, .ref a)]) hx hb dX5_accountsDifference_11 rfl hl (by decide) rfl (fun ls hl => ?_)
  have lp_12 : ∀ (r : Nat) (k : Nat) (x : Int32) (H : Heap) (locs : List Loc) (ls : Array Slot), (k + r = B) → (acF g B L = suP g L 0 (suF (fun k => g (89 + 11 * k + 2)) r k x)) → me_at D z0 (sp tb a g M0) n s H locs → lv_has ls 3 [(0, .ref a), (1, .int x), (2, .int (nI k))] → W p l e (({ frames := 0, cells := 0, slots := 0, locals := 0 } : Room)) s m args below meth c H locs 0 0 (MQ below (me_Qi D z0 (acF g B L) (sp tb a g M0) n) args s 0 0 (me_A z0)) (F0 m 12 ls []) := by
    intro r
    refine Nat.strongRecOn r ?_
    intro r ih_12 k x H locs ls hk hq hM hl
    refine lv_iload_n hx hb dX5_accountsDifference_12 rfl (lv_at hl 2 rfl) ?_
    refine lv_aload_n hx hb dX5_accountsDifference_13 rfl (lv_at hl 0 rfl) ?_
    refine fg_X5_58 hC hM (sp_st _ _ _ _) rfl dX5_accountsDifference_14 ?_
    refine lv_icmp_ge (tgt := 38) hx hb dX5_accountsDifference_17 (by decide) (fun c_1 => ?_) (fun c_1 => ?_)
    · have c_1 := (br_le hB rfl (by omega) (by omega)).mp c_1
      refine lv_iconst (v := 0) hx hb dX5_accountsDifference_38 (by decide) ?_
      refine lv_istore_n (lv' := [(2, .int 0), (0, .ref a), (1, .int x)]) hx hb dX5_accountsDifference_39 rfl hl (by decide) rfl (fun ls hl => ?_)
      have lp_40 : ∀ (r : Nat) (k : Nat) (x : Int32) (H : Heap) (locs : List Loc) (ls : Array Slot), (k + r = L) → (acF g B L = suP g r k x) → me_at D z0 (sp tb a g M0) n s H locs → lv_has ls 3 [(0, .ref a), (1, .int x), (2, .int (nI k))] → W p l e (({ frames := 0, cells := 0, slots := 0, locals := 0 } : Room)) s m args below meth c H locs 0 0 (MQ below (me_Qi D z0 (acF g B L) (sp tb a g M0) n) args s 0 0 (me_A z0)) (F0 m 40 ls []) := by
        intro r
        refine Nat.strongRecOn r ?_
        intro r ih_40 k x H locs ls hk hq hM hl
        refine lv_iload_n hx hb dX5_accountsDifference_40 rfl (lv_at hl 2 rfl) ?_
        refine lv_aload_n hx hb dX5_accountsDifference_41 rfl (lv_at hl 0 rfl) ?_
        refine fg_X5_61 hC hM (sp_st _ _ _ _) rfl dX5_accountsDifference_42 ?_
        refine lv_icmp_ge (tgt := 79) hx hb dX5_accountsDifference_45 (by decide) (fun c_2 => ?_) (fun c_2 => ?_)
        · have c_2 := (br_le hL rfl (by omega) (by omega)).mp c_2
          refine lv_iload_n hx hb dX5_accountsDifference_79 rfl (lv_at hl 1 rfl) ?_
          exact me_iret hC hr hlk hM (by rw [hq, show r = 0 by omega]; rfl) (rfl) (rfl) dX5_accountsDifference_80
        · have c_2 := (not_congr (br_le hL rfl (by omega) (by omega))).mp c_2
          obtain ⟨r1, rfl⟩ : ∃ r1, r = r1 + 1 := ⟨r - 1, by omega⟩
          refine lv_aload_n hx hb dX5_accountsDifference_48 rfl (lv_at hl 0 rfl) ?_
          refine fg_X5_25 hC hM (sp_st _ _ _ _) rfl dX5_accountsDifference_49 ?_
          refine lv_iload_n hx hb dX5_accountsDifference_52 rfl (lv_at hl 2 rfl) ?_
          refine me_aald (k := k) hC hM (sp_a3 _ _ _ _) (t0 := 8) rfl rfl (by omega) (by decide) (sp_arr_at (by omega)) dX5_accountsDifference_53 ?_
          refine fg_X5_90 hC hM (sp_loan _ _ _ _ (by omega)) rfl dX5_accountsDifference_54 ?_
          refine lv_iconst (v := 5) hx hb dX5_accountsDifference_57 (by decide) ?_
          refine lv_icmp_eq (tgt := 73) hx hb dX5_accountsDifference_58 (by decide) (fun c_3 => ?_) (fun c_3 => ?_)
          · refine lv_iinc (v := nI (k + 1)) (lv' := [(2, .int (nI (k + 1))), (0, .ref a), (1, .int x)]) hx hb dX5_accountsDifference_73 hl (k := 2) rfl (nx_add rfl rfl) (by decide) rfl (fun ls hl => ?_)
            refine lv_goto (tgt := 40) hx hb dX5_accountsDifference_76 (by decide) ?_
            exact ih_40 r1 (by omega) (k + 1) x _ _ _ (by omega) (by rw [hq]; show suP g r1 (k + 1) (if g (261 + 5 * k + 4) = 5 then x else x + g (261 + 5 * k + 3)) = _; rw [if_pos c_3]) hM (lv_sub hl [1, 2, 0] rfl)
          · refine lv_iload_n hx hb dX5_accountsDifference_61 rfl (lv_at hl 1 rfl) ?_
            refine lv_aload_n hx hb dX5_accountsDifference_62 rfl (lv_at hl 0 rfl) ?_
            refine fg_X5_25 hC hM (sp_st _ _ _ _) rfl dX5_accountsDifference_63 ?_
            refine lv_iload_n hx hb dX5_accountsDifference_66 rfl (lv_at hl 2 rfl) ?_
            refine me_aald (k := k) hC hM (sp_a3 _ _ _ _) (t0 := 8) rfl rfl (by omega) (by decide) (sp_arr_at (by omega)) dX5_accountsDifference_67 ?_
            refine fg_X5_144 hC hM (sp_loan _ _ _ _ (by omega)) rfl dX5_accountsDifference_68 ?_
            refine lv_iadd hx hb dX5_accountsDifference_71 ?_
            refine lv_istore_n (lv' := [(1, .int (x + (g (261 + 5 * k + 3)))), (0, .ref a), (2, .int (nI k))]) hx hb dX5_accountsDifference_72 rfl hl (by decide) rfl (fun ls hl => ?_)
            refine lv_iinc (v := nI (k + 1)) (lv' := [(2, .int (nI (k + 1))), (1, .int (x + (g (261 + 5 * k + 3)))), (0, .ref a)]) hx hb dX5_accountsDifference_73 hl (k := 2) rfl (nx_add rfl rfl) (by decide) rfl (fun ls hl => ?_)
            refine lv_goto (tgt := 40) hx hb dX5_accountsDifference_76 (by decide) ?_
            exact ih_40 r1 (by omega) (k + 1) (x + g (261 + 5 * k + 3)) _ _ _ (by omega) (by rw [hq]; show suP g r1 (k + 1) (if g (261 + 5 * k + 4) = 5 then x else x + g (261 + 5 * k + 3)) = _; rw [if_neg c_3]) hM (lv_sub hl [2, 1, 0] rfl)
      exact lp_40 L 0 x _ _ _ (by omega) (by rw [hq, show r = 0 by omega]; rfl) hM (lv_sub hl [1, 2, 0] rfl)
    · have c_1 := (not_congr (br_le hB rfl (by omega) (by omega))).mp c_1
      obtain ⟨r1, rfl⟩ : ∃ r1, r = r1 + 1 := ⟨r - 1, by omega⟩
      refine lv_iload_n hx hb dX5_accountsDifference_20 rfl (lv_at hl 1 rfl) ?_
      refine lv_aload_n hx hb dX5_accountsDifference_21 rfl (lv_at hl 0 rfl) ?_
      refine fg_X5_19 hC hM (sp_st _ _ _ _) rfl dX5_accountsDifference_22 ?_
      refine lv_iload_n hx hb dX5_accountsDifference_25 rfl (lv_at hl 2 rfl) ?_
      refine me_aald (k := k) hC hM (sp_a2 _ _ _ _) (t0 := 7) rfl rfl (by omega) (by decide) (sp_arr_at (by omega)) dX5_accountsDifference_26 ?_
      refine fg_X5_141 hC hM (sp_borrower _ _ _ _ (by omega)) rfl dX5_accountsDifference_27 ?_
      refine lv_iadd hx hb dX5_accountsDifference_30 ?_
      refine lv_istore_n (lv' := [(1, .int (x + (g (89 + 11 * k + 2)))), (0, .ref a), (2, .int (nI k))]) hx hb dX5_accountsDifference_31 rfl hl (by decide) rfl (fun ls hl => ?_)
      refine lv_iinc (v := nI (k + 1)) (lv' := [(2, .int (nI (k + 1))), (1, .int (x + (g (89 + 11 * k + 2)))), (0, .ref a)]) hx hb dX5_accountsDifference_32 hl (k := 2) rfl (nx_add rfl rfl) (by decide) rfl (fun ls hl => ?_)
      refine lv_goto (tgt := 12) hx hb dX5_accountsDifference_35 (by decide) ?_
      exact ih_12 r1 (by omega) (k + 1) (x + g (89 + 11 * k + 2)) _ _ _ (by omega) hq hM (lv_sub hl [2, 1, 0] rfl)
  exact lp_12 B 0 (g 8 - g 7) _ _ _ (by omega) rfl hM (lv_sub hl [2, 1, 0] rfl)
set_option maxHeartbeats 4000000 in
theorem c_X5_canPermit (l : Launch) (D : va_G) (tb : Nat → ClassId) (X : State → Prop) (z0 n : Nat) (a : Nat) (g : Nat → Int32) (M0 : me_M) (S B L P : Nat) (st f9 n9 : Int32)  (hW : wf g S B L P) : Met l yX5_canPermit (.code yX5_canPermit cX5_canPermit 5 (some .boolean) :: ws_all) ({ frames := 1, cells := 0, slots := 0, locals := 22 } : Room) (me_Pc [.ref a, .int st, .int f9, .int n9] D tb X z0 (sp tb a g M0) n) (me_Qi D z0 (b1 (fi (fun k => cpP g L st f9 n9 k) L 0 = -1 ∧ P < 10)) (sp tb a g M0) n) 0 0 (me_A z0) := by
  refine me_open (by decide) (Nat.le_of_ble_eq_true rfl) ?_
  intro p e s m args below meth c ls hC hr hlk hnm hM hl
  have hl : lv_has ls 5 [(0, .ref a), (1, .int st), (2, .int f9), (3, .int n9)] := hl
  have hx := hC.1
  have hb := hC.2.1
  have hw := hC.2.2.2.2.1
  obtain ⟨hS, hS0, hB, hB0, hL, hL0, hP, hP0, hwb, hwl⟩ := id hW
  refine lv_iconst (v := 0) hx hb dX5_canPermit_0 (by decide) ?_
  refine lv_istore (lv' := [(4, .int 0), (0, .ref a), (1, .int st), (2, .int f9), (3, .int n9)]) hx hb dX5_canPermit_1 hl (by decide) rfl (fun ls hl => ?_)
  have lp_3 : ∀ (r : Nat) (k : Nat) (H : Heap) (locs : List Loc) (ls : Array Slot), (k + r = L) → (fi (fun k => cpP g L st f9 n9 k) L 0 = fi (fun k => cpP g L st f9 n9 k) r k) → me_at D z0 (sp tb a g M0) n s H locs → lv_has ls 5 [(0, .ref a), (1, .int st), (2, .int f9), (3, .int n9), (4, .int (nI k))] → W p l e (({ frames := 1, cells := 0, slots := 0, locals := 22 } : Room)) s m args below meth c H locs 0 0 (MQ below (me_Qi D z0 (b1 (fi (fun k => cpP g L st f9 n9 k) L 0 = -1 ∧ P < 10)) (sp tb a g M0) n) args s 0 0 (me_A z0)) (F0 m 3 ls []) := by
    intro r
    refine Nat.strongRecOn r ?_
    intro r ih_3 k H locs ls hk hq hM hl
    refine lv_iload hx hb dX5_canPermit_3 (lv_at hl 4 rfl) ?_
    refine lv_aload_n hx hb dX5_canPermit_5 rfl (lv_at hl 0 rfl) ?_
    refine fg_X5_61 hC hM (sp_st _ _ _ _) rfl dX5_canPermit_6 ?_
    refine lv_icmp_ge (tgt := 45) hx hb dX5_canPermit_9 (by decide) (fun c_1 => ?_) (fun c_1 => ?_)
    · have c_1 := (br_le hL rfl (by omega) (by omega)).mp c_1
      refine lv_aload_n hx hb dX5_canPermit_45 rfl (lv_at hl 0 rfl) ?_
      refine fg_X5_64 hC hM (sp_st _ _ _ _) rfl dX5_canPermit_46 ?_
      refine lv_bipush (v := 10) hx hb dX5_canPermit_49 (by decide) ?_
      refine lv_icmp_ge (tgt := 58) hx hb dX5_canPermit_51 (by decide) (fun c_2 => ?_) (fun c_2 => ?_)
      · have c_2 := (br_le (nx_c 10) hP (by omega) (by omega)).mp c_2
        refine lv_iconst (v := 0) hx hb dX5_canPermit_58 (by decide) ?_
        exact me_zret hC hr hlk hM (by rw [hq, show r = 0 by omega]; exact b1_f (fun z => absurd z.2 (by omega))) (by first | decide | simp) (rfl) (rfl) dX5_canPermit_59
      · have c_2 := (not_congr (br_le (nx_c 10) hP (by omega) (by omega))).mp c_2
        refine lv_iconst (v := 1) hx hb dX5_canPermit_54 (by decide) ?_
        refine lv_goto (tgt := 59) hx hb dX5_canPermit_55 (by decide) ?_
        exact me_zret hC hr hlk hM (by rw [hq, show r = 0 by omega]; exact b1_t ⟨rfl, by omega⟩) (by first | decide | simp) (rfl) (rfl) dX5_canPermit_59
    · have c_1 := (not_congr (br_le hL rfl (by omega) (by omega))).mp c_1
      obtain ⟨r1, rfl⟩ : ∃ r1, r = r1 + 1 := ⟨r - 1, by omega⟩
      refine lv_aload_n hx hb dX5_canPermit_12 rfl (lv_at hl 0 rfl) ?_
      refine fg_X5_25 hC hM (sp_st _ _ _ _) rfl dX5_canPermit_13 ?_
      refine lv_iload hx hb dX5_canPermit_16 (lv_at hl 4 rfl) ?_
      refine me_aald (k := k) hC hM (sp_a3 _ _ _ _) (t0 := 8) rfl rfl (by omega) (by decide) (sp_arr_at (by omega)) dX5_canPermit_18 ?_
      refine lv_iload_n hx hb dX5_canPermit_19 rfl (lv_at hl 2 rfl) ?_
      refine lv_iload_n hx hb dX5_canPermit_20 rfl (lv_at hl 3 rfl) ?_
      refine me_callVi (As := [.int f9, .int n9]) (rest := []) hC hl.1 hM (c_X2_holdsOneOf l D tb X z0 n _ _ _ _ _ _ _ f9 n9 (sp_loan _ _ _ _ (by omega))) (kv_X5_93 hw rfl rfl ⟨Nat.le_of_ble_eq_true rfl, Nat.le_of_ble_eq_true rfl⟩) rfl rfl (sp_loan _ _ _ _ (by omega)) rfl (Nat.le_of_ble_eq_true rfl) dX5_canPermit_21 ⟨Nat.le_of_ble_eq_true rfl, Nat.le_of_ble_eq_true rfl⟩ (fun H locs hM => ?_)
      refine lv_if_eq (tgt := 39) hx hb dX5_canPermit_24 (by decide) (fun c_3 => ?_) (fun c_3 => ?_)
      · have c_3 := b1_0.mp c_3
        refine lv_iinc (v := nI (k + 1)) (lv' := [(4, .int (nI (k + 1))), (0, .ref a), (1, .int st), (2, .int f9), (3, .int n9)]) hx hb dX5_canPermit_39 hl (k := 4) rfl (nx_add rfl rfl) (by decide) rfl (fun ls hl => ?_)
        refine lv_goto (tgt := 3) hx hb dX5_canPermit_42 (by decide) ?_
        exact ih_3 r1 (by omega) (k + 1) _ _ _ (by omega) (hq.trans (fi_f (fun z => c_3 z.1))) hM (lv_sub hl [1, 2, 3, 4, 0] rfl)
      · have c_3 := b1_n0.mp c_3
        refine lv_aload_n hx hb dX5_canPermit_27 rfl (lv_at hl 0 rfl) ?_
        refine lv_iload hx hb dX5_canPermit_28 (lv_at hl 4 rfl) ?_
        refine me_callVi (As := [.int (nI k)]) (rest := []) hC hl.1 hM (c_X5_streetOfLoan l D tb X z0 n a g M0 S B L P k hW (by omega)) (kv_X5_115 hw rfl rfl ⟨Nat.le_of_ble_eq_true rfl, Nat.le_of_ble_eq_true rfl⟩) rfl rfl (sp_st _ _ _ _) rfl (Nat.le_of_ble_eq_true rfl) dX5_canPermit_30 ⟨Nat.le_of_ble_eq_true rfl, Nat.le_of_ble_eq_true rfl⟩ (fun H locs hM => ?_)
        refine lv_iload_n hx hb dX5_canPermit_33 rfl (lv_at hl 1 rfl) ?_
        refine lv_icmp_ne (tgt := 39) hx hb dX5_canPermit_34 (by decide) (fun c_4 => ?_) (fun c_4 => ?_)
        · refine lv_iinc (v := nI (k + 1)) (lv' := [(4, .int (nI (k + 1))), (0, .ref a), (1, .int st), (2, .int f9), (3, .int n9)]) hx hb dX5_canPermit_39 hl (k := 4) rfl (nx_add rfl rfl) (by decide) rfl (fun ls hl => ?_)
          refine lv_goto (tgt := 3) hx hb dX5_canPermit_42 (by decide) ?_
          exact ih_3 r1 (by omega) (k + 1) _ _ _ (by omega) (hq.trans (fi_f (fun z => c_4 z.2))) hM (lv_sub hl [1, 2, 3, 4, 0] rfl)
        · refine lv_iconst (v := 0) hx hb dX5_canPermit_37 (by decide) ?_
          exact me_zret hC hr hlk hM (by rw [hq, fi_t (show cpP g L st f9 n9 k from ⟨c_3, c_4⟩)]; exact b1_f (fun z => nI_nm1 (show k < 2 ^ 31 by omega) z.1)) (by first | decide | simp) (rfl) (rfl) dX5_canPermit_38
  exact lp_3 L 0 _ _ _ (by omega) rfl hM (lv_sub hl [1, 2, 3, 4, 0] rfl)
set_option maxHeartbeats 4000000 in
theorem c_X5_copyFrom (l : Launch) (D : va_G) (tb : Nat → ClassId) (X : State → Prop) (z0 n : Nat) (a b : Nat) (g g2 : Nat → Int32) (M0 : me_M) (S B L P : Nat)  (hW : wf g2 S B L P) (hO : oth tb b g2 M0) (hab : b + 65 ≤ a ∨ a + 65 ≤ b) : Met l yX5_copyFrom (.code yX5_copyFrom cX5_copyFrom 3 none :: ws_all) ({ frames := 1, cells := 0, slots := 0, locals := 21 } : Room) (me_Pc [.ref a, .ref b] D tb X z0 (sp tb a g M0) n) (me_Qv D z0 (sp tb a (cpF g2 S B L P g) M0) n) 0 0 (me_A z0) := by
  refine me_open (by decide) (Nat.le_of_ble_eq_true rfl) ?_
  intro p e s m args below meth c ls hC hr hlk hnm hM hl
  have hl : lv_has ls 3 [(0, .ref a), (1, .ref b)] := hl
  have hx := hC.1
  have hb := hC.2.1
  have hw := hC.2.2.2.2.1
  obtain ⟨hS, hS0, hB, hB0, hL, hL0, hP, hP0, hwb, hwl⟩ := id hW
  refine lv_aload_n hx hb dX5_copyFrom_0 rfl (lv_at hl 0 rfl) ?_
  refine lv_aload_n hx hb dX5_copyFrom_1 rfl (lv_at hl 1 rfl) ?_
  refine fg_X5_39 hC hM ((sp_out (by omega)).trans (ho_st hO)) rfl dX5_copyFrom_2 ?_
  refine fp_X5_39 hC hM (sp_st _ _ _ _) (Nat.le_of_ble_eq_true rfl) (M2 := sp tb a (upd g (2) (g2 2)) M0) (sp_w_st 2 (by decide) (by simp [upd])) dX5_copyFrom_5 (fun H locs hM => ?_)
  refine lv_aload_n hx hb dX5_copyFrom_8 rfl (lv_at hl 0 rfl) ?_
  refine lv_aload_n hx hb dX5_copyFrom_9 rfl (lv_at hl 1 rfl) ?_
  refine fg_X5_43 hC hM ((sp_out (by omega)).trans (ho_st hO)) rfl dX5_copyFrom_10 ?_
  refine fp_X5_43 hC hM (sp_st _ _ _ _) (Nat.le_of_ble_eq_true rfl) (M2 := sp tb a (upd (upd g (2) (g2 2)) (0) (g2 0)) M0) (sp_w_st 0 (by decide) (by simp [upd])) dX5_copyFrom_13 (fun H locs hM => ?_)
  refine lv_aload_n hx hb dX5_copyFrom_16 rfl (lv_at hl 0 rfl) ?_
  refine lv_aload_n hx hb dX5_copyFrom_17 rfl (lv_at hl 1 rfl) ?_
  refine fg_X5_46 hC hM ((sp_out (by omega)).trans (ho_st hO)) rfl dX5_copyFrom_18 ?_
  refine fp_X5_46 hC hM (sp_st _ _ _ _) (Nat.le_of_ble_eq_true rfl) (M2 := sp tb a (upd (upd (upd g (2) (g2 2)) (0) (g2 0)) (1) (g2 1)) M0) (sp_w_st 1 (by decide) (by simp [upd])) dX5_copyFrom_21 (fun H locs hM => ?_)
  refine lv_aload_n hx hb dX5_copyFrom_24 rfl (lv_at hl 0 rfl) ?_
  refine lv_aload_n hx hb dX5_copyFrom_25 rfl (lv_at hl 1 rfl) ?_
  refine fg_X5_49 hC hM ((sp_out (by omega)).trans (ho_st hO)) rfl dX5_copyFrom_26 ?_
  refine fp_X5_49 hC hM (sp_st _ _ _ _) (Nat.le_of_ble_eq_true rfl) (M2 := sp tb a (upd (upd (upd (upd g (2) (g2 2)) (0) (g2 0)) (1) (g2 1)) (7) (g2 7)) M0) (sp_w_st 7 (by decide) (by simp [upd])) dX5_copyFrom_29 (fun H locs hM => ?_)
  refine lv_aload_n hx hb dX5_copyFrom_32 rfl (lv_at hl 0 rfl) ?_
  refine lv_aload_n hx hb dX5_copyFrom_33 rfl (lv_at hl 1 rfl) ?_
  refine fg_X5_52 hC hM ((sp_out (by omega)).trans (ho_st hO)) rfl dX5_copyFrom_34 ?_
  refine fp_X5_52 hC hM (sp_st _ _ _ _) (Nat.le_of_ble_eq_true rfl) (M2 := sp tb a (upd (upd (upd (upd (upd g (2) (g2 2)) (0) (g2 0)) (1) (g2 1)) (7) (g2 7)) (8) (g2 8)) M0) (sp_w_st 8 (by decide) (by simp [upd])) dX5_copyFrom_37 (fun H locs hM => ?_)
  refine lv_aload_n hx hb dX5_copyFrom_40 rfl (lv_at hl 0 rfl) ?_
  refine lv_aload_n hx hb dX5_copyFrom_41 rfl (lv_at hl 1 rfl) ?_
  refine fg_X5_55 hC hM ((sp_out (by omega)).trans (ho_st hO)) rfl dX5_copyFrom_42 ?_
  refine fp_X5_55 hC hM (sp_st _ _ _ _) (Nat.le_of_ble_eq_true rfl) (M2 := sp tb a (upd (upd (upd (upd (upd (upd g (2) (g2 2)) (0) (g2 0)) (1) (g2 1)) (7) (g2 7)) (8) (g2 8)) (3) (g2 3)) M0) (sp_w_st 3 (by decide) (by simp [upd])) dX5_copyFrom_45 (fun H locs hM => ?_)
  refine lv_aload_n hx hb dX5_copyFrom_48 rfl (lv_at hl 0 rfl) ?_
  refine lv_aload_n hx hb dX5_copyFrom_49 rfl (lv_at hl 1 rfl) ?_
  refine fg_X5_58 hC hM ((sp_out (by omega)).trans (ho_st hO)) rfl dX5_copyFrom_50 ?_
  refine fp_X5_58 hC hM (sp_st _ _ _ _) (Nat.le_of_ble_eq_true rfl) (M2 := sp tb a (upd (upd (upd (upd (upd (upd (upd g (2) (g2 2)) (0) (g2 0)) (1) (g2 1)) (7) (g2 7)) (8) (g2 8)) (3) (g2 3)) (4) (g2 4)) M0) (sp_w_st 4 (by decide) (by simp [upd])) dX5_copyFrom_53 (fun H locs hM => ?_)
  refine lv_aload_n hx hb dX5_copyFrom_56 rfl (lv_at hl 0 rfl) ?_
  refine lv_aload_n hx hb dX5_copyFrom_57 rfl (lv_at hl 1 rfl) ?_
  refine fg_X5_61 hC hM ((sp_out (by omega)).trans (ho_st hO)) rfl dX5_copyFrom_58 ?_
  refine fp_X5_61 hC hM (sp_st _ _ _ _) (Nat.le_of_ble_eq_true rfl) (M2 := sp tb a (upd (upd (upd (upd (upd (upd (upd (upd g (2) (g2 2)) (0) (g2 0)) (1) (g2 1)) (7) (g2 7)) (8) (g2 8)) (3) (g2 3)) (4) (g2 4)) (6) (g2 6)) M0) (sp_w_st 6 (by decide) (by simp [upd])) dX5_copyFrom_61 (fun H locs hM => ?_)
  refine lv_aload_n hx hb dX5_copyFrom_64 rfl (lv_at hl 0 rfl) ?_
  refine lv_aload_n hx hb dX5_copyFrom_65 rfl (lv_at hl 1 rfl) ?_
  refine fg_X5_64 hC hM ((sp_out (by omega)).trans (ho_st hO)) rfl dX5_copyFrom_66 ?_
  refine fp_X5_64 hC hM (sp_st _ _ _ _) (Nat.le_of_ble_eq_true rfl) (M2 := sp tb a (upd (upd (upd (upd (upd (upd (upd (upd (upd g (2) (g2 2)) (0) (g2 0)) (1) (g2 1)) (7) (g2 7)) (8) (g2 8)) (3) (g2 3)) (4) (g2 4)) (6) (g2 6)) (5) (g2 5)) M0) (sp_w_st 5 (by decide) (by simp [upd])) dX5_copyFrom_69 (fun H locs hM => ?_)
  refine lv_iconst (v := 0) hx hb dX5_copyFrom_72 (by decide) ?_
  refine lv_istore_n (lv' := [(2, .int 0), (0, .ref a), (1, .ref b)]) hx hb dX5_copyFrom_73 rfl hl (by decide) rfl (fun ls hl => ?_)
  have lp_74 : ∀ (r : Nat) (k : Nat) (g1 : Nat → Int32) (H : Heap) (locs : List Loc) (ls : Array Slot), (k + r = S) → (cpF g2 S B L P g = it (cpPm g2) P 0 (it (cpLn g2) L 0 (it (cpBo g2) B 0 (it (cpSt g2) r k g1)))) → (g1 3 = nI S) → (g1 4 = nI B) → (g1 6 = nI L) → (g1 5 = nI P) → me_at D z0 (sp tb a g1 M0) n s H locs → lv_has ls 3 [(0, .ref a), (1, .ref b), (2, .int (nI k))] → W p l e (({ frames := 1, cells := 0, slots := 0, locals := 21 } : Room)) s m args below meth c H locs 0 0 (MQ below (me_Qv D z0 (sp tb a (cpF g2 S B L P g) M0) n) args s 0 0 (me_A z0)) (F0 m 74 ls []) := by
    intro r
    refine Nat.strongRecOn r ?_
    intro r ih_74 k g1 H locs ls hk hq h3 h4 h6 h5 hM hl
    refine lv_iload_n hx hb dX5_copyFrom_74 rfl (lv_at hl 2 rfl) ?_
    refine lv_aload_n hx hb dX5_copyFrom_75 rfl (lv_at hl 0 rfl) ?_
    refine fg_X5_55 hC hM (sp_st _ _ _ _) rfl dX5_copyFrom_76 ?_
    refine lv_icmp_ge (tgt := 103) hx hb dX5_copyFrom_79 (by decide) (fun c_1 => ?_) (fun c_1 => ?_)
    · have c_1 := (br_le h3 rfl (by omega) (by omega)).mp c_1
      refine lv_iconst (v := 0) hx hb dX5_copyFrom_103 (by decide) ?_
      refine lv_istore_n (lv' := [(2, .int 0), (0, .ref a), (1, .ref b)]) hx hb dX5_copyFrom_104 rfl hl (by decide) rfl (fun ls hl => ?_)
      have lp_105 : ∀ (r : Nat) (k : Nat) (g1 : Nat → Int32) (H : Heap) (locs : List Loc) (ls : Array Slot), (k + r = B) → (cpF g2 S B L P g = it (cpPm g2) P 0 (it (cpLn g2) L 0 (it (cpBo g2) r k g1))) → (g1 3 = nI S) → (g1 4 = nI B) → (g1 6 = nI L) → (g1 5 = nI P) → me_at D z0 (sp tb a g1 M0) n s H locs → lv_has ls 3 [(0, .ref a), (1, .ref b), (2, .int (nI k))] → W p l e (({ frames := 1, cells := 0, slots := 0, locals := 21 } : Room)) s m args below meth c H locs 0 0 (MQ below (me_Qv D z0 (sp tb a (cpF g2 S B L P g) M0) n) args s 0 0 (me_A z0)) (F0 m 105 ls []) := by
        intro r
        refine Nat.strongRecOn r ?_
        intro r ih_105 k g1 H locs ls hk hq h3 h4 h6 h5 hM hl
        refine lv_iload_n hx hb dX5_copyFrom_105 rfl (lv_at hl 2 rfl) ?_
        refine lv_aload_n hx hb dX5_copyFrom_106 rfl (lv_at hl 0 rfl) ?_
        refine fg_X5_58 hC hM (sp_st _ _ _ _) rfl dX5_copyFrom_107 ?_
        refine lv_icmp_ge (tgt := 134) hx hb dX5_copyFrom_110 (by decide) (fun c_2 => ?_) (fun c_2 => ?_)
        · have c_2 := (br_le h4 rfl (by omega) (by omega)).mp c_2
          refine lv_iconst (v := 0) hx hb dX5_copyFrom_134 (by decide) ?_
          refine lv_istore_n (lv' := [(2, .int 0), (0, .ref a), (1, .ref b)]) hx hb dX5_copyFrom_135 rfl hl (by decide) rfl (fun ls hl => ?_)
          have lp_136 : ∀ (r : Nat) (k : Nat) (g1 : Nat → Int32) (H : Heap) (locs : List Loc) (ls : Array Slot), (k + r = L) → (cpF g2 S B L P g = it (cpPm g2) P 0 (it (cpLn g2) r k g1)) → (g1 3 = nI S) → (g1 4 = nI B) → (g1 6 = nI L) → (g1 5 = nI P) → me_at D z0 (sp tb a g1 M0) n s H locs → lv_has ls 3 [(0, .ref a), (1, .ref b), (2, .int (nI k))] → W p l e (({ frames := 1, cells := 0, slots := 0, locals := 21 } : Room)) s m args below meth c H locs 0 0 (MQ below (me_Qv D z0 (sp tb a (cpF g2 S B L P g) M0) n) args s 0 0 (me_A z0)) (F0 m 136 ls []) := by
            intro r
            refine Nat.strongRecOn r ?_
            intro r ih_136 k g1 H locs ls hk hq h3 h4 h6 h5 hM hl
            refine lv_iload_n hx hb dX5_copyFrom_136 rfl (lv_at hl 2 rfl) ?_
            refine lv_aload_n hx hb dX5_copyFrom_137 rfl (lv_at hl 0 rfl) ?_
            refine fg_X5_61 hC hM (sp_st _ _ _ _) rfl dX5_copyFrom_138 ?_
            refine lv_icmp_ge (tgt := 165) hx hb dX5_copyFrom_141 (by decide) (fun c_3 => ?_) (fun c_3 => ?_)
            · have c_3 := (br_le h6 rfl (by omega) (by omega)).mp c_3
              refine lv_iconst (v := 0) hx hb dX5_copyFrom_165 (by decide) ?_
              refine lv_istore_n (lv' := [(2, .int 0), (0, .ref a), (1, .ref b)]) hx hb dX5_copyFrom_166 rfl hl (by decide) rfl (fun ls hl => ?_)
              have lp_167 : ∀ (r : Nat) (k : Nat) (g1 : Nat → Int32) (H : Heap) (locs : List Loc) (ls : Array Slot), (k + r = P) → (cpF g2 S B L P g = it (cpPm g2) r k g1) → (g1 3 = nI S) → (g1 4 = nI B) → (g1 6 = nI L) → (g1 5 = nI P) → me_at D z0 (sp tb a g1 M0) n s H locs → lv_has ls 3 [(0, .ref a), (1, .ref b), (2, .int (nI k))] → W p l e (({ frames := 1, cells := 0, slots := 0, locals := 21 } : Room)) s m args below meth c H locs 0 0 (MQ below (me_Qv D z0 (sp tb a (cpF g2 S B L P g) M0) n) args s 0 0 (me_A z0)) (F0 m 167 ls []) := by
                intro r
                refine Nat.strongRecOn r ?_
                intro r ih_167 k g1 H locs ls hk hq h3 h4 h6 h5 hM hl
                refine lv_iload_n hx hb dX5_copyFrom_167 rfl (lv_at hl 2 rfl) ?_
                refine lv_aload_n hx hb dX5_copyFrom_168 rfl (lv_at hl 0 rfl) ?_
                refine fg_X5_64 hC hM (sp_st _ _ _ _) rfl dX5_copyFrom_169 ?_
                refine lv_icmp_ge (tgt := 196) hx hb dX5_copyFrom_172 (by decide) (fun c_4 => ?_) (fun c_4 => ?_)
                · have c_4 := (br_le h5 rfl (by omega) (by omega)).mp c_4
                  exact me_vret hC hr hlk hM (by rw [hq, show r = 0 by omega]; rfl) (rfl) dX5_copyFrom_196
                · have c_4 := (not_congr (br_le h5 rfl (by omega) (by omega))).mp c_4
                  obtain ⟨r1, rfl⟩ : ∃ r1, r = r1 + 1 := ⟨r - 1, by omega⟩
                  refine lv_aload_n hx hb dX5_copyFrom_175 rfl (lv_at hl 0 rfl) ?_
                  refine fg_X5_31 hC hM (sp_st _ _ _ _) rfl dX5_copyFrom_176 ?_
                  refine lv_iload_n hx hb dX5_copyFrom_179 rfl (lv_at hl 2 rfl) ?_
                  refine me_aald (k := k) hC hM (sp_a4 _ _ _ _) (t0 := 9) rfl rfl (by omega) (by decide) (sp_arr_at (by omega)) dX5_copyFrom_180 ?_
                  refine lv_aload_n hx hb dX5_copyFrom_181 rfl (lv_at hl 1 rfl) ?_
                  refine fg_X5_31 hC hM ((sp_out (by omega)).trans (ho_st hO)) rfl dX5_copyFrom_182 ?_
                  refine lv_iload_n hx hb dX5_copyFrom_185 rfl (lv_at hl 2 rfl) ?_
                  refine me_aald (k := k) hC hM ((sp_out (by omega)).trans (ho_a4 hO)) (t0 := 9) rfl rfl (by omega) (by decide) (sp_arr_at (by omega)) dX5_copyFrom_186 ?_
                  refine me_callVv (As := [.ref (b + 55 + k)]) (rest := []) hC hl.1 hM (c_X4_copyFrom l D tb X z0 n _ _ _ _ _ _ _ _ _ _ _ (sp_permit _ _ _ _ (by omega)) ((sp_out (by omega)).trans (ho_permit hO (by omega))) (by omega) (bz_01 _)) (kv_X5_77 hw rfl rfl ⟨Nat.le_of_ble_eq_true rfl, Nat.le_of_ble_eq_true rfl⟩) rfl rfl (sp_permit _ _ _ _ (by omega)) rfl (Nat.le_of_ble_eq_true rfl) dX5_copyFrom_187 ⟨Nat.le_of_ble_eq_true rfl, Nat.le_of_ble_eq_true rfl⟩ (fun H locs hM => ?_)
                  have hM := hM.eq (sp_cpPm (by omega))
                  refine lv_iinc (v := nI (k + 1)) (lv' := [(2, .int (nI (k + 1))), (0, .ref a), (1, .ref b)]) hx hb dX5_copyFrom_190 hl (k := 2) rfl (nx_add rfl rfl) (by decide) rfl (fun ls hl => ?_)
                  refine lv_goto (tgt := 167) hx hb dX5_copyFrom_193 (by decide) ?_
                  exact ih_167 r1 (by omega) (k + 1) (cpPm g2 k g1) _ _ _ (by omega) hq ((cpPm_lo (by omega)).trans h3) ((cpPm_lo (by omega)).trans h4) ((cpPm_lo (by omega)).trans h6) ((cpPm_lo (by omega)).trans h5) hM (lv_sub hl [1, 2, 0] rfl)
              exact lp_167 P 0 g1 _ _ _ (by omega) (by rw [hq, show r = 0 by omega]; rfl) h3 h4 h6 h5 hM (lv_sub hl [1, 2, 0] rfl)
            · have c_3 := (not_congr (br_le h6 rfl (by omega) (by omega))).mp c_3
              obtain ⟨r1, rfl⟩ : ∃ r1, r = r1 + 1 := ⟨r - 1, by omega⟩
              refine lv_aload_n hx hb dX5_copyFrom_144 rfl (lv_at hl 0 rfl) ?_
              refine fg_X5_25 hC hM (sp_st _ _ _ _) rfl dX5_copyFrom_145 ?_
              refine lv_iload_n hx hb dX5_copyFrom_148 rfl (lv_at hl 2 rfl) ?_
              refine me_aald (k := k) hC hM (sp_a3 _ _ _ _) (t0 := 8) rfl rfl (by omega) (by decide) (sp_arr_at (by omega)) dX5_copyFrom_149 ?_
              refine lv_aload_n hx hb dX5_copyFrom_150 rfl (lv_at hl 1 rfl) ?_
              refine fg_X5_25 hC hM ((sp_out (by omega)).trans (ho_st hO)) rfl dX5_copyFrom_151 ?_
              refine lv_iload_n hx hb dX5_copyFrom_154 rfl (lv_at hl 2 rfl) ?_
              refine me_aald (k := k) hC hM ((sp_out (by omega)).trans (ho_a3 hO)) (t0 := 8) rfl rfl (by omega) (by decide) (sp_arr_at (by omega)) dX5_copyFrom_155 ?_
              refine me_callVv (As := [.ref (b + 25 + k)]) (rest := []) hC hl.1 hM (c_X2_copyFrom l D tb X z0 n _ _ _ _ _ _ _ _ _ _ _ _ _ (sp_loan _ _ _ _ (by omega)) ((sp_out (by omega)).trans (ho_loan hO (by omega))) (by omega)) (kv_X5_74 hw rfl rfl ⟨Nat.le_of_ble_eq_true rfl, Nat.le_of_ble_eq_true rfl⟩) rfl rfl (sp_loan _ _ _ _ (by omega)) rfl (Nat.le_of_ble_eq_true rfl) dX5_copyFrom_156 ⟨Nat.le_of_ble_eq_true rfl, Nat.le_of_ble_eq_true rfl⟩ (fun H locs hM => ?_)
              have hM := hM.eq (sp_cpLn (by omega))
              refine lv_iinc (v := nI (k + 1)) (lv' := [(2, .int (nI (k + 1))), (0, .ref a), (1, .ref b)]) hx hb dX5_copyFrom_159 hl (k := 2) rfl (nx_add rfl rfl) (by decide) rfl (fun ls hl => ?_)
              refine lv_goto (tgt := 136) hx hb dX5_copyFrom_162 (by decide) ?_
              exact ih_136 r1 (by omega) (k + 1) (cpLn g2 k g1) _ _ _ (by omega) hq ((cpLn_lo (by omega)).trans h3) ((cpLn_lo (by omega)).trans h4) ((cpLn_lo (by omega)).trans h6) ((cpLn_lo (by omega)).trans h5) hM (lv_sub hl [1, 2, 0] rfl)
          exact lp_136 L 0 g1 _ _ _ (by omega) (by rw [hq, show r = 0 by omega]; rfl) h3 h4 h6 h5 hM (lv_sub hl [1, 2, 0] rfl)
        · have c_2 := (not_congr (br_le h4 rfl (by omega) (by omega))).mp c_2
          obtain ⟨r1, rfl⟩ : ∃ r1, r = r1 + 1 := ⟨r - 1, by omega⟩
          refine lv_aload_n hx hb dX5_copyFrom_113 rfl (lv_at hl 0 rfl) ?_
          refine fg_X5_19 hC hM (sp_st _ _ _ _) rfl dX5_copyFrom_114 ?_
          refine lv_iload_n hx hb dX5_copyFrom_117 rfl (lv_at hl 2 rfl) ?_
          refine me_aald (k := k) hC hM (sp_a2 _ _ _ _) (t0 := 7) rfl rfl (by omega) (by decide) (sp_arr_at (by omega)) dX5_copyFrom_118 ?_
          refine lv_aload_n hx hb dX5_copyFrom_119 rfl (lv_at hl 1 rfl) ?_
          refine fg_X5_19 hC hM ((sp_out (by omega)).trans (ho_st hO)) rfl dX5_copyFrom_120 ?_
          refine lv_iload_n hx hb dX5_copyFrom_123 rfl (lv_at hl 2 rfl) ?_
          refine me_aald (k := k) hC hM ((sp_out (by omega)).trans (ho_a2 hO)) (t0 := 7) rfl rfl (by omega) (by decide) (sp_arr_at (by omega)) dX5_copyFrom_124 ?_
          refine me_callVv (As := [.ref (b + 13 + k)]) (rest := []) hC hl.1 hM (c_X0_copyFrom l D tb X z0 n _ _ _ _ _ _ _ _ _ _ _ _ _ _ _ (sp_borrower _ _ _ _ (by omega)) ((sp_out (by omega)).trans (ho_borrower hO (by omega))) (by omega)) (kv_X5_71 hw rfl rfl ⟨Nat.le_of_ble_eq_true rfl, Nat.le_of_ble_eq_true rfl⟩) rfl rfl (sp_borrower _ _ _ _ (by omega)) rfl (Nat.le_of_ble_eq_true rfl) dX5_copyFrom_125 ⟨Nat.le_of_ble_eq_true rfl, Nat.le_of_ble_eq_true rfl⟩ (fun H locs hM => ?_)
          have hM := hM.eq (sp_cpBo (by omega))
          refine lv_iinc (v := nI (k + 1)) (lv' := [(2, .int (nI (k + 1))), (0, .ref a), (1, .ref b)]) hx hb dX5_copyFrom_128 hl (k := 2) rfl (nx_add rfl rfl) (by decide) rfl (fun ls hl => ?_)
          refine lv_goto (tgt := 105) hx hb dX5_copyFrom_131 (by decide) ?_
          exact ih_105 r1 (by omega) (k + 1) (cpBo g2 k g1) _ _ _ (by omega) hq ((cpBo_lo (by omega)).trans h3) ((cpBo_lo (by omega)).trans h4) ((cpBo_lo (by omega)).trans h6) ((cpBo_lo (by omega)).trans h5) hM (lv_sub hl [1, 2, 0] rfl)
      exact lp_105 B 0 g1 _ _ _ (by omega) (by rw [hq, show r = 0 by omega]; rfl) h3 h4 h6 h5 hM (lv_sub hl [1, 2, 0] rfl)
    · have c_1 := (not_congr (br_le h3 rfl (by omega) (by omega))).mp c_1
      obtain ⟨r1, rfl⟩ : ∃ r1, r = r1 + 1 := ⟨r - 1, by omega⟩
      refine lv_aload_n hx hb dX5_copyFrom_82 rfl (lv_at hl 0 rfl) ?_
      refine fg_X5_11 hC hM (sp_st _ _ _ _) rfl dX5_copyFrom_83 ?_
      refine lv_iload_n hx hb dX5_copyFrom_86 rfl (lv_at hl 2 rfl) ?_
      refine me_aald (k := k) hC hM (sp_a1 _ _ _ _) (t0 := 6) rfl rfl (by omega) (by decide) (sp_arr_at (by omega)) dX5_copyFrom_87 ?_
      refine lv_aload_n hx hb dX5_copyFrom_88 rfl (lv_at hl 1 rfl) ?_
      refine fg_X5_11 hC hM ((sp_out (by omega)).trans (ho_st hO)) rfl dX5_copyFrom_89 ?_
      refine lv_iload_n hx hb dX5_copyFrom_92 rfl (lv_at hl 2 rfl) ?_
      refine me_aald (k := k) hC hM ((sp_out (by omega)).trans (ho_a1 hO)) (t0 := 6) rfl rfl (by omega) (by decide) (sp_arr_at (by omega)) dX5_copyFrom_93 ?_
      refine me_callVv (As := [.ref (b + 5 + k)]) (rest := []) hC hl.1 hM (c_X6_copyFrom l D tb X z0 n _ _ _ _ _ _ _ _ _ _ _ _ _ _ _ (sp_street _ _ _ _ (by omega)) ((sp_out (by omega)).trans (ho_street hO (by omega))) (by omega)) (kv_X5_67 hw rfl rfl ⟨Nat.le_of_ble_eq_true rfl, Nat.le_of_ble_eq_true rfl⟩) rfl rfl (sp_street _ _ _ _ (by omega)) rfl (Nat.le_of_ble_eq_true rfl) dX5_copyFrom_94 ⟨Nat.le_of_ble_eq_true rfl, Nat.le_of_ble_eq_true rfl⟩ (fun H locs hM => ?_)
      have hM := hM.eq (sp_cpSt (by omega))
      refine lv_iinc (v := nI (k + 1)) (lv' := [(2, .int (nI (k + 1))), (0, .ref a), (1, .ref b)]) hx hb dX5_copyFrom_97 hl (k := 2) rfl (nx_add rfl rfl) (by decide) rfl (fun ls hl => ?_)
      refine lv_goto (tgt := 74) hx hb dX5_copyFrom_100 (by decide) ?_
      exact ih_74 r1 (by omega) (k + 1) (cpSt g2 k g1) _ _ _ (by omega) hq ((cpSt_lo (by omega)).trans h3) ((cpSt_lo (by omega)).trans h4) ((cpSt_lo (by omega)).trans h6) ((cpSt_lo (by omega)).trans h5) hM (lv_sub hl [1, 2, 0] rfl)
  exact lp_74 S 0 (cpSc g2 g) _ _ _ (by omega) rfl hS hB hL hP hM (lv_sub hl [1, 2, 0] rfl)
