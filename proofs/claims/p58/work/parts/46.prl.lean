set_option maxHeartbeats 4000000 in
theorem c_X3_knownStreet (l : Launch) (D : va_G) (tb : Nat → ClassId) (X : State → Prop) (z0 n : Nat) (kK kV : Nat → Nat) (a po ta NN len : Nat) (g t : Nat → Int32) (M9 : me_M) (ps : PS) (S : Nat)  (hN : ∀ U, X U → me_nest U) (hE : psE tb a po ta NN len t M9) (hS : g 3 = nI S) (hS0 : S ≤ 8) (hp : pvP len ps) : Met l yX3_knownStreet (.code yX3_knownStreet cX3_knownStreet 2 (some .int) :: ws_all) ({ frames := 3, cells := 0, slots := 0, locals := 66 } : Room) (me_Pc [.ref po] D tb X z0 (sp tb a g (me_up M9 po (.inr (3, ps_fs ta len a ps)))) n) (me_Qi D z0 (ksV t len g S ps) (psM tb a po ta len M9 g (ks1 t len g S ps)) n) 0 0 (me_A z0) := by
  refine me_open (by decide) (Nat.le_of_ble_eq_true rfl) ?_
  intro p e s m args below meth c ls hC hr hlk hnm hM hl
  have hl : lv_has ls 2 [(0, .ref po)] := hl
  have hx := hC.1
  have hb := hC.2.1
  have hw := hC.2.2.2.2.1
  obtain ⟨e1, e2, e3, e4, e5, e6⟩ := id hE
  obtain ⟨p1, p2, p3, p4⟩ := id hp
  refine lv_aload_n hx hb dX3_knownStreet_0 rfl (lv_at hl 0 rfl) ?_
  refine fg_X3_34 hC hM ((sp_out (by omega)).trans (me_up_s _ _ _)) rfl dX3_knownStreet_1 ?_
  refine lv_aload_n hx hb dX3_knownStreet_4 rfl (lv_at hl 0 rfl) ?_
  refine me_callVi (As := []) (rest := [.ref a]) hC hl.1 hM (c_X3_name l D tb X z0 n kK kV a po ta NN len g t M9 ps  hN hE hp) (kv_X3_101 hw rfl rfl ⟨Nat.le_of_ble_eq_true rfl, Nat.le_of_ble_eq_true rfl⟩) rfl rfl ((sp_out (by omega)).trans (me_up_s _ _ _)) rfl (Nat.le_of_ble_eq_true rfl) dX3_knownStreet_5 ⟨Nat.le_of_ble_eq_true rfl, Nat.le_of_ble_eq_true rfl⟩ (fun H locs hM => ?_)
  refine me_callVi (As := [.int (nmV t len ps)]) (rest := []) hC hl.1 hM (c_X5_streetNamed l D tb X z0 n a g (me_up M9 po (.inr (3, ps_fs ta len a (nm1 t len ps)))) S (nmV t len ps) hS hS0) (kv_X3_104 hw rfl rfl ⟨Nat.le_of_ble_eq_true rfl, Nat.le_of_ble_eq_true rfl⟩) rfl rfl (sp_st _ _ _ _) rfl (Nat.le_of_ble_eq_true rfl) dX3_knownStreet_8 ⟨Nat.le_of_ble_eq_true rfl, Nat.le_of_ble_eq_true rfl⟩ (fun H locs hM => ?_)
  refine lv_istore_n (lv' := [(1, .int (fi (fun k => g (9 + 10 * k + 4) = (nmV t len ps)) S 0)), (0, .ref po)]) hx hb dX3_knownStreet_11 rfl hl (by decide) rfl (fun ls hl => ?_)
  refine lv_iload_n hx hb dX3_knownStreet_12 rfl (lv_at hl 0 rfl) ?_
  refine lv_iconst (v := (-1)) hx hb dX3_knownStreet_13 (by decide) ?_
  refine lv_icmp_ne (tgt := 22) hx hb dX3_knownStreet_14 (by decide) (fun c_1 => ?_) (fun c_1 => ?_)
  · refine lv_iload_n hx hb dX3_knownStreet_22 rfl (lv_at hl 0 rfl) ?_
    exact me_iret hC hr hlk hM (rfl) (ps_eq (q := nm1 t len ps) (by unfold ks1; exact (fc_f c_1).symm)) (rfl) dX3_knownStreet_23
  · refine lv_aload_n hx hb dX3_knownStreet_17 rfl (lv_at hl 1 rfl) ?_
    refine lv_iconst (v := 3) hx hb dX3_knownStreet_18 (by decide) ?_
    refine me_callVv (As := [.int 3]) (rest := []) hC hl.1 hM (c_X3_fail l D tb X z0 n kK kV a po ta NN len g t M9 (nm1 t len ps) 3 hE (pv_nm (t := t) hp)) (kv_X3_47 hw rfl rfl ⟨Nat.le_of_ble_eq_true rfl, Nat.le_of_ble_eq_true rfl⟩) rfl rfl ((sp_out (by omega)).trans (me_up_s _ _ _)) rfl (Nat.le_of_ble_eq_true rfl) dX3_knownStreet_19 ⟨Nat.le_of_ble_eq_true rfl, Nat.le_of_ble_eq_true rfl⟩ (fun H locs hM => ?_)
    refine lv_iload_n hx hb dX3_knownStreet_22 rfl (lv_at hl 0 rfl) ?_
    exact me_iret hC hr hlk hM (rfl) (ps_eq (q := flP 3 (nm1 t len ps)) (by unfold ks1; exact (fc_t c_1).symm)) (rfl) dX3_knownStreet_23
set_option maxHeartbeats 4000000 in
theorem c_X3_streetLine (l : Launch) (D : va_G) (tb : Nat → ClassId) (X : State → Prop) (z0 n : Nat) (kK kV : Nat → Nat) (a po ta NN len : Nat) (g t : Nat → Int32) (M9 : me_M) (ps : PS) (S B L P T : Nat)  (hN : ∀ U, X U → me_nest U) (hE : psE tb a po ta NN len t M9) (hW : wf g S B L P) (hT : g 2 = nI T) (hT0 : T ≤ 9999) (hp : pvP len ps) : Met l yX3_streetLine (.code yX3_streetLine cX3_streetLine 4 none :: ws_all) ({ frames := 3, cells := 0, slots := 0, locals := 68 } : Room) (me_Pc [.ref po] D tb X z0 (sp tb a g (me_up M9 po (.inr (3, ps_fs ta len a ps)))) n) (me_Qv D z0 (pmM tb a po ta len M9 (stL t len (g, S, B, L, P, ps))) n) 0 0 (me_A z0) := by
  refine me_open (by decide) (Nat.le_of_ble_eq_true rfl) ?_
  intro p e s m args below meth c ls hC hr hlk hnm hM hl
  have hl : lv_has ls 4 [(0, .ref po)] := hl
  have hx := hC.1
  have hb := hC.2.1
  have hw := hC.2.2.2.2.1
  obtain ⟨hS, hS0, hB, hB0, hL, hL0, hP, hP0, hwb, hwl⟩ := id hW
  obtain ⟨e1, e2, e3, e4, e5, e6⟩ := id hE
  obtain ⟨p1, p2, p3, p4⟩ := id hp
  have hx0 : okP len (g, S, B, L, P, ps) := okP_mk hW ⟨T, hT, hT0⟩ hp
  have h0 := pv_st0 hx0
  have h1 := pv_st1 (t := t) hx0
  have h3 := pv_st3 (t := t) hx0
  obtain ⟨-, -, -, k3⟩ := id h3
  refine lv_aload_n hx hb dX3_streetLine_0 rfl (lv_at hl 0 rfl) ?_
  refine fg_X3_34 hC hM ((sp_out (by omega)).trans (me_up_s _ _ _)) rfl dX3_streetLine_1 ?_
  refine fg_X3_98 hC hM (sp_st _ _ _ _) rfl dX3_streetLine_4 ?_
  refine lv_bipush (v := 8) hx hb dX3_streetLine_7 (by decide) ?_
  refine lv_icmp_ne (tgt := 17) hx hb dX3_streetLine_9 (by decide) (fun c_1 => ?_) (fun c_1 => ?_)
  · have c_1 := (not_congr (br_eq hS (nx_c 8) (by omega) (by omega))).mp c_1
    have hM := hM.eq (ps_eq (q' := st0 (g, S, B, L, P, ps)) (fc_f c_1).symm)
    refine lv_aload_n hx hb dX3_streetLine_17 rfl (lv_at hl 0 rfl) ?_
    refine me_callVi (As := []) (rest := []) hC hl.1 hM (c_X3_name l D tb X z0 n kK kV a po ta NN len g t M9 (st0 (g, S, B, L, P, ps))  hN hE h0) (kv_X3_101 hw rfl rfl ⟨Nat.le_of_ble_eq_true rfl, Nat.le_of_ble_eq_true rfl⟩) rfl rfl ((sp_out (by omega)).trans (me_up_s _ _ _)) rfl (Nat.le_of_ble_eq_true rfl) dX3_streetLine_18 ⟨Nat.le_of_ble_eq_true rfl, Nat.le_of_ble_eq_true rfl⟩ (fun H locs hM => ?_)
    refine lv_istore_n (lv' := [(1, .int (nmV t len (st0 (g, S, B, L, P, ps)))), (0, .ref po)]) hx hb dX3_streetLine_21 rfl hl (by decide) rfl (fun ls hl => ?_)
    refine lv_aload_n hx hb dX3_streetLine_22 rfl (lv_at hl 1 rfl) ?_
    refine fg_X3_34 hC hM ((sp_out (by omega)).trans (me_up_s _ _ _)) rfl dX3_streetLine_23 ?_
    refine lv_iload_n hx hb dX3_streetLine_26 rfl (lv_at hl 0 rfl) ?_
    refine me_callVi (As := [.int (nmV t len (st0 (g, S, B, L, P, ps)))]) (rest := []) hC hl.1 hM (c_X5_streetNamed l D tb X z0 n a g (me_up M9 po (.inr (3, ps_fs ta len a (nm1 t len (st0 (g, S, B, L, P, ps)))))) S (nmV t len (st0 (g, S, B, L, P, ps))) hS hS0) (kv_X3_104 hw rfl rfl ⟨Nat.le_of_ble_eq_true rfl, Nat.le_of_ble_eq_true rfl⟩) rfl rfl (sp_st _ _ _ _) rfl (Nat.le_of_ble_eq_true rfl) dX3_streetLine_27 ⟨Nat.le_of_ble_eq_true rfl, Nat.le_of_ble_eq_true rfl⟩ (fun H locs hM => ?_)
    refine lv_iconst (v := (-1)) hx hb dX3_streetLine_30 (by decide) ?_
    refine lv_icmp_eq (tgt := 39) hx hb dX3_streetLine_31 (by decide) (fun c_2 => ?_) (fun c_2 => ?_)
    · have hM := hM.eq (ps_eq (q' := st1 t len (g, S, B, L, P, ps)) (fc_f (fun z => z c_2)).symm)
      refine lv_aload_n hx hb dX3_streetLine_39 rfl (lv_at hl 1 rfl) ?_
      refine lv_iconst (v := 0) hx hb dX3_streetLine_40 (by decide) ?_
      refine lv_bipush (v := 99) hx hb dX3_streetLine_41 (by decide) ?_
      refine me_callVi (As := [.int 0, .int 99]) (rest := []) hC hl.1 hM (c_X3_number l D tb X z0 n kK kV a po ta NN len g t M9 (st1 t len (g, S, B, L, P, ps)) 0 99 hE h1) (kv_X3_51 hw rfl rfl ⟨Nat.le_of_ble_eq_true rfl, Nat.le_of_ble_eq_true rfl⟩) rfl rfl ((sp_out (by omega)).trans (me_up_s _ _ _)) rfl (Nat.le_of_ble_eq_true rfl) dX3_streetLine_43 ⟨Nat.le_of_ble_eq_true rfl, Nat.le_of_ble_eq_true rfl⟩ (fun H locs hM => ?_)
      refine lv_istore_n (lv' := [(2, .int (nuV t len 0 99 (st1 t len (g, S, B, L, P, ps)))), (1, .int (nmV t len (st0 (g, S, B, L, P, ps)))), (0, .ref po)]) hx hb dX3_streetLine_46 rfl hl (by decide) rfl (fun ls hl => ?_)
      refine lv_aload_n hx hb dX3_streetLine_47 rfl (lv_at hl 2 rfl) ?_
      refine lv_iconst (v := 0) hx hb dX3_streetLine_48 (by decide) ?_
      refine lv_bipush (v := 99) hx hb dX3_streetLine_49 (by decide) ?_
      refine me_callVi (As := [.int 0, .int 99]) (rest := []) hC hl.1 hM (c_X3_number l D tb X z0 n kK kV a po ta NN len g t M9 (nuP t len 0 99 (st1 t len (g, S, B, L, P, ps))) 0 99 hE (pv_nu (t := t) (a := 0) (b := 99) h1)) (kv_X3_51 hw rfl rfl ⟨Nat.le_of_ble_eq_true rfl, Nat.le_of_ble_eq_true rfl⟩) rfl rfl ((sp_out (by omega)).trans (me_up_s _ _ _)) rfl (Nat.le_of_ble_eq_true rfl) dX3_streetLine_51 ⟨Nat.le_of_ble_eq_true rfl, Nat.le_of_ble_eq_true rfl⟩ (fun H locs hM => ?_)
      refine lv_istore_n (lv' := [(3, .int (nuV t len 0 99 (nuP t len 0 99 (st1 t len (g, S, B, L, P, ps))))), (2, .int (nuV t len 0 99 (st1 t len (g, S, B, L, P, ps)))), (1, .int (nmV t len (st0 (g, S, B, L, P, ps)))), (0, .ref po)]) hx hb dX3_streetLine_54 rfl hl (by decide) rfl (fun ls hl => ?_)
      have hM := hM.eq (ps_eq (q' := st3 t len (g, S, B, L, P, ps)) rfl)
      refine lv_aload_n hx hb dX3_streetLine_55 rfl (lv_at hl 3 rfl) ?_
      refine fg_X3_21 hC hM ((sp_out (by omega)).trans (me_up_s _ _ _)) rfl dX3_streetLine_56 ?_
      refine lv_if_ne (tgt := 72) hx hb dX3_streetLine_59 (by decide) (fun c_3 => ?_) (fun c_3 => ?_)
      · have c_3 := (not_congr (br_eq rfl (show (0 : Int32) = nI 0 from rfl) (by omega) (by omega))).mp c_3
        exact me_vret hC hr hlk hM (pm_e (stL_0 c_3)) (rfl) dX3_streetLine_72
      · have c_3 := (br_eq rfl (show (0 : Int32) = nI 0 from rfl) (by omega) (by omega)).mp c_3
        have z9 : ¬ S = 8 := (zk_st c_3).2
        refine lv_aload_n hx hb dX3_streetLine_62 rfl (lv_at hl 3 rfl) ?_
        refine fg_X3_34 hC hM ((sp_out (by omega)).trans (me_up_s _ _ _)) rfl dX3_streetLine_63 ?_
        refine lv_iload_n hx hb dX3_streetLine_66 rfl (lv_at hl 2 rfl) ?_
        refine lv_iload_n hx hb dX3_streetLine_67 rfl (lv_at hl 1 rfl) ?_
        refine lv_iload_n hx hb dX3_streetLine_68 rfl (lv_at hl 0 rfl) ?_
        refine me_callVv (As := [.int (nmV t len (st0 (g, S, B, L, P, ps))), .int (nuV t len 0 99 (st1 t len (g, S, B, L, P, ps))), .int (nuV t len 0 99 (nuP t len 0 99 (st1 t len (g, S, B, L, P, ps))))]) (rest := []) hC hl.1 hM (c_X5_addStreet l D tb X z0 n a g (me_up M9 po (.inr (3, ps_fs ta len a (st3 t len (g, S, B, L, P, ps))))) S B L P (nmV t len (st0 (g, S, B, L, P, ps))) (nuV t len 0 99 (st1 t len (g, S, B, L, P, ps))) (nuV t len 0 99 (nuP t len 0 99 (st1 t len (g, S, B, L, P, ps)))) hW (by omega)) (kv_X3_107 hw rfl rfl ⟨Nat.le_of_ble_eq_true rfl, Nat.le_of_ble_eq_true rfl⟩) rfl rfl (sp_st _ _ _ _) rfl (Nat.le_of_ble_eq_true rfl) dX3_streetLine_69 ⟨Nat.le_of_ble_eq_true rfl, Nat.le_of_ble_eq_true rfl⟩ (fun H locs hM => ?_)
        exact me_vret hC hr hlk hM (pm_e (stL_1 c_3)) (rfl) dX3_streetLine_72
    · refine lv_aload_n hx hb dX3_streetLine_34 rfl (lv_at hl 1 rfl) ?_
      refine lv_iconst (v := 4) hx hb dX3_streetLine_35 (by decide) ?_
      refine me_callVv (As := [.int 4]) (rest := []) hC hl.1 hM (c_X3_fail l D tb X z0 n kK kV a po ta NN len g t M9 (nm1 t len (st0 (g, S, B, L, P, ps))) 4 hE (pv_nm (t := t) h0)) (kv_X3_47 hw rfl rfl ⟨Nat.le_of_ble_eq_true rfl, Nat.le_of_ble_eq_true rfl⟩) rfl rfl ((sp_out (by omega)).trans (me_up_s _ _ _)) rfl (Nat.le_of_ble_eq_true rfl) dX3_streetLine_36 ⟨Nat.le_of_ble_eq_true rfl, Nat.le_of_ble_eq_true rfl⟩ (fun H locs hM => ?_)
      have hM := hM.eq (ps_eq (q' := st1 t len (g, S, B, L, P, ps)) (fc_t c_2).symm)
      refine lv_aload_n hx hb dX3_streetLine_39 rfl (lv_at hl 1 rfl) ?_
      refine lv_iconst (v := 0) hx hb dX3_streetLine_40 (by decide) ?_
      refine lv_bipush (v := 99) hx hb dX3_streetLine_41 (by decide) ?_
      refine me_callVi (As := [.int 0, .int 99]) (rest := []) hC hl.1 hM (c_X3_number l D tb X z0 n kK kV a po ta NN len g t M9 (st1 t len (g, S, B, L, P, ps)) 0 99 hE h1) (kv_X3_51 hw rfl rfl ⟨Nat.le_of_ble_eq_true rfl, Nat.le_of_ble_eq_true rfl⟩) rfl rfl ((sp_out (by omega)).trans (me_up_s _ _ _)) rfl (Nat.le_of_ble_eq_true rfl) dX3_streetLine_43 ⟨Nat.le_of_ble_eq_true rfl, Nat.le_of_ble_eq_true rfl⟩ (fun H locs hM => ?_)
      refine lv_istore_n (lv' := [(2, .int (nuV t len 0 99 (st1 t len (g, S, B, L, P, ps)))), (1, .int (nmV t len (st0 (g, S, B, L, P, ps)))), (0, .ref po)]) hx hb dX3_streetLine_46 rfl hl (by decide) rfl (fun ls hl => ?_)
      refine lv_aload_n hx hb dX3_streetLine_47 rfl (lv_at hl 2 rfl) ?_
      refine lv_iconst (v := 0) hx hb dX3_streetLine_48 (by decide) ?_
      refine lv_bipush (v := 99) hx hb dX3_streetLine_49 (by decide) ?_
      refine me_callVi (As := [.int 0, .int 99]) (rest := []) hC hl.1 hM (c_X3_number l D tb X z0 n kK kV a po ta NN len g t M9 (nuP t len 0 99 (st1 t len (g, S, B, L, P, ps))) 0 99 hE (pv_nu (t := t) (a := 0) (b := 99) h1)) (kv_X3_51 hw rfl rfl ⟨Nat.le_of_ble_eq_true rfl, Nat.le_of_ble_eq_true rfl⟩) rfl rfl ((sp_out (by omega)).trans (me_up_s _ _ _)) rfl (Nat.le_of_ble_eq_true rfl) dX3_streetLine_51 ⟨Nat.le_of_ble_eq_true rfl, Nat.le_of_ble_eq_true rfl⟩ (fun H locs hM => ?_)
      refine lv_istore_n (lv' := [(3, .int (nuV t len 0 99 (nuP t len 0 99 (st1 t len (g, S, B, L, P, ps))))), (2, .int (nuV t len 0 99 (st1 t len (g, S, B, L, P, ps)))), (1, .int (nmV t len (st0 (g, S, B, L, P, ps)))), (0, .ref po)]) hx hb dX3_streetLine_54 rfl hl (by decide) rfl (fun ls hl => ?_)
      have hM := hM.eq (ps_eq (q' := st3 t len (g, S, B, L, P, ps)) rfl)
      refine lv_aload_n hx hb dX3_streetLine_55 rfl (lv_at hl 3 rfl) ?_
      refine fg_X3_21 hC hM ((sp_out (by omega)).trans (me_up_s _ _ _)) rfl dX3_streetLine_56 ?_
      refine lv_if_ne (tgt := 72) hx hb dX3_streetLine_59 (by decide) (fun c_4 => ?_) (fun c_4 => ?_)
      · have c_4 := (not_congr (br_eq rfl (show (0 : Int32) = nI 0 from rfl) (by omega) (by omega))).mp c_4
        exact me_vret hC hr hlk hM (pm_e (stL_0 c_4)) (rfl) dX3_streetLine_72
      · have c_4 := (br_eq rfl (show (0 : Int32) = nI 0 from rfl) (by omega) (by omega)).mp c_4
        have z9 : ¬ S = 8 := (zk_st c_4).2
        refine lv_aload_n hx hb dX3_streetLine_62 rfl (lv_at hl 3 rfl) ?_
        refine fg_X3_34 hC hM ((sp_out (by omega)).trans (me_up_s _ _ _)) rfl dX3_streetLine_63 ?_
        refine lv_iload_n hx hb dX3_streetLine_66 rfl (lv_at hl 2 rfl) ?_
        refine lv_iload_n hx hb dX3_streetLine_67 rfl (lv_at hl 1 rfl) ?_
        refine lv_iload_n hx hb dX3_streetLine_68 rfl (lv_at hl 0 rfl) ?_
        refine me_callVv (As := [.int (nmV t len (st0 (g, S, B, L, P, ps))), .int (nuV t len 0 99 (st1 t len (g, S, B, L, P, ps))), .int (nuV t len 0 99 (nuP t len 0 99 (st1 t len (g, S, B, L, P, ps))))]) (rest := []) hC hl.1 hM (c_X5_addStreet l D tb X z0 n a g (me_up M9 po (.inr (3, ps_fs ta len a (st3 t len (g, S, B, L, P, ps))))) S B L P (nmV t len (st0 (g, S, B, L, P, ps))) (nuV t len 0 99 (st1 t len (g, S, B, L, P, ps))) (nuV t len 0 99 (nuP t len 0 99 (st1 t len (g, S, B, L, P, ps)))) hW (by omega)) (kv_X3_107 hw rfl rfl ⟨Nat.le_of_ble_eq_true rfl, Nat.le_of_ble_eq_true rfl⟩) rfl rfl (sp_st _ _ _ _) rfl (Nat.le_of_ble_eq_true rfl) dX3_streetLine_69 ⟨Nat.le_of_ble_eq_true rfl, Nat.le_of_ble_eq_true rfl⟩ (fun H locs hM => ?_)
        exact me_vret hC hr hlk hM (pm_e (stL_1 c_4)) (rfl) dX3_streetLine_72
  · have c_1 := (br_eq hS (nx_c 8) (by omega) (by omega)).mp c_1
    refine lv_aload_n hx hb dX3_streetLine_12 rfl (lv_at hl 0 rfl) ?_
    refine lv_iconst (v := 5) hx hb dX3_streetLine_13 (by decide) ?_
    refine me_callVv (As := [.int 5]) (rest := []) hC hl.1 hM (c_X3_fail l D tb X z0 n kK kV a po ta NN len g t M9 ps 5 hE hp) (kv_X3_47 hw rfl rfl ⟨Nat.le_of_ble_eq_true rfl, Nat.le_of_ble_eq_true rfl⟩) rfl rfl ((sp_out (by omega)).trans (me_up_s _ _ _)) rfl (Nat.le_of_ble_eq_true rfl) dX3_streetLine_14 ⟨Nat.le_of_ble_eq_true rfl, Nat.le_of_ble_eq_true rfl⟩ (fun H locs hM => ?_)
    have hM := hM.eq (ps_eq (q' := st0 (g, S, B, L, P, ps)) (fc_t c_1).symm)
    refine lv_aload_n hx hb dX3_streetLine_17 rfl (lv_at hl 0 rfl) ?_
    refine me_callVi (As := []) (rest := []) hC hl.1 hM (c_X3_name l D tb X z0 n kK kV a po ta NN len g t M9 (st0 (g, S, B, L, P, ps))  hN hE h0) (kv_X3_101 hw rfl rfl ⟨Nat.le_of_ble_eq_true rfl, Nat.le_of_ble_eq_true rfl⟩) rfl rfl ((sp_out (by omega)).trans (me_up_s _ _ _)) rfl (Nat.le_of_ble_eq_true rfl) dX3_streetLine_18 ⟨Nat.le_of_ble_eq_true rfl, Nat.le_of_ble_eq_true rfl⟩ (fun H locs hM => ?_)
    refine lv_istore_n (lv' := [(1, .int (nmV t len (st0 (g, S, B, L, P, ps)))), (0, .ref po)]) hx hb dX3_streetLine_21 rfl hl (by decide) rfl (fun ls hl => ?_)
    refine lv_aload_n hx hb dX3_streetLine_22 rfl (lv_at hl 1 rfl) ?_
    refine fg_X3_34 hC hM ((sp_out (by omega)).trans (me_up_s _ _ _)) rfl dX3_streetLine_23 ?_
    refine lv_iload_n hx hb dX3_streetLine_26 rfl (lv_at hl 0 rfl) ?_
    refine me_callVi (As := [.int (nmV t len (st0 (g, S, B, L, P, ps)))]) (rest := []) hC hl.1 hM (c_X5_streetNamed l D tb X z0 n a g (me_up M9 po (.inr (3, ps_fs ta len a (nm1 t len (st0 (g, S, B, L, P, ps)))))) S (nmV t len (st0 (g, S, B, L, P, ps))) hS hS0) (kv_X3_104 hw rfl rfl ⟨Nat.le_of_ble_eq_true rfl, Nat.le_of_ble_eq_true rfl⟩) rfl rfl (sp_st _ _ _ _) rfl (Nat.le_of_ble_eq_true rfl) dX3_streetLine_27 ⟨Nat.le_of_ble_eq_true rfl, Nat.le_of_ble_eq_true rfl⟩ (fun H locs hM => ?_)
    refine lv_iconst (v := (-1)) hx hb dX3_streetLine_30 (by decide) ?_
    refine lv_icmp_eq (tgt := 39) hx hb dX3_streetLine_31 (by decide) (fun c_5 => ?_) (fun c_5 => ?_)
    · have hM := hM.eq (ps_eq (q' := st1 t len (g, S, B, L, P, ps)) (fc_f (fun z => z c_5)).symm)
      refine lv_aload_n hx hb dX3_streetLine_39 rfl (lv_at hl 1 rfl) ?_
      refine lv_iconst (v := 0) hx hb dX3_streetLine_40 (by decide) ?_
      refine lv_bipush (v := 99) hx hb dX3_streetLine_41 (by decide) ?_
      refine me_callVi (As := [.int 0, .int 99]) (rest := []) hC hl.1 hM (c_X3_number l D tb X z0 n kK kV a po ta NN len g t M9 (st1 t len (g, S, B, L, P, ps)) 0 99 hE h1) (kv_X3_51 hw rfl rfl ⟨Nat.le_of_ble_eq_true rfl, Nat.le_of_ble_eq_true rfl⟩) rfl rfl ((sp_out (by omega)).trans (me_up_s _ _ _)) rfl (Nat.le_of_ble_eq_true rfl) dX3_streetLine_43 ⟨Nat.le_of_ble_eq_true rfl, Nat.le_of_ble_eq_true rfl⟩ (fun H locs hM => ?_)
      refine lv_istore_n (lv' := [(2, .int (nuV t len 0 99 (st1 t len (g, S, B, L, P, ps)))), (1, .int (nmV t len (st0 (g, S, B, L, P, ps)))), (0, .ref po)]) hx hb dX3_streetLine_46 rfl hl (by decide) rfl (fun ls hl => ?_)
      refine lv_aload_n hx hb dX3_streetLine_47 rfl (lv_at hl 2 rfl) ?_
      refine lv_iconst (v := 0) hx hb dX3_streetLine_48 (by decide) ?_
      refine lv_bipush (v := 99) hx hb dX3_streetLine_49 (by decide) ?_
      refine me_callVi (As := [.int 0, .int 99]) (rest := []) hC hl.1 hM (c_X3_number l D tb X z0 n kK kV a po ta NN len g t M9 (nuP t len 0 99 (st1 t len (g, S, B, L, P, ps))) 0 99 hE (pv_nu (t := t) (a := 0) (b := 99) h1)) (kv_X3_51 hw rfl rfl ⟨Nat.le_of_ble_eq_true rfl, Nat.le_of_ble_eq_true rfl⟩) rfl rfl ((sp_out (by omega)).trans (me_up_s _ _ _)) rfl (Nat.le_of_ble_eq_true rfl) dX3_streetLine_51 ⟨Nat.le_of_ble_eq_true rfl, Nat.le_of_ble_eq_true rfl⟩ (fun H locs hM => ?_)
      refine lv_istore_n (lv' := [(3, .int (nuV t len 0 99 (nuP t len 0 99 (st1 t len (g, S, B, L, P, ps))))), (2, .int (nuV t len 0 99 (st1 t len (g, S, B, L, P, ps)))), (1, .int (nmV t len (st0 (g, S, B, L, P, ps)))), (0, .ref po)]) hx hb dX3_streetLine_54 rfl hl (by decide) rfl (fun ls hl => ?_)
      have hM := hM.eq (ps_eq (q' := st3 t len (g, S, B, L, P, ps)) rfl)
      refine lv_aload_n hx hb dX3_streetLine_55 rfl (lv_at hl 3 rfl) ?_
      refine fg_X3_21 hC hM ((sp_out (by omega)).trans (me_up_s _ _ _)) rfl dX3_streetLine_56 ?_
      refine lv_if_ne (tgt := 72) hx hb dX3_streetLine_59 (by decide) (fun c_6 => ?_) (fun c_6 => ?_)
      · have c_6 := (not_congr (br_eq rfl (show (0 : Int32) = nI 0 from rfl) (by omega) (by omega))).mp c_6
        exact me_vret hC hr hlk hM (pm_e (stL_0 c_6)) (rfl) dX3_streetLine_72
      · have c_6 := (br_eq rfl (show (0 : Int32) = nI 0 from rfl) (by omega) (by omega)).mp c_6
        have z9 : ¬ S = 8 := (zk_st c_6).2
        refine lv_aload_n hx hb dX3_streetLine_62 rfl (lv_at hl 3 rfl) ?_
        refine fg_X3_34 hC hM ((sp_out (by omega)).trans (me_up_s _ _ _)) rfl dX3_streetLine_63 ?_
        refine lv_iload_n hx hb dX3_streetLine_66 rfl (lv_at hl 2 rfl) ?_
        refine lv_iload_n hx hb dX3_streetLine_67 rfl (lv_at hl 1 rfl) ?_
        refine lv_iload_n hx hb dX3_streetLine_68 rfl (lv_at hl 0 rfl) ?_
        refine me_callVv (As := [.int (nmV t len (st0 (g, S, B, L, P, ps))), .int (nuV t len 0 99 (st1 t len (g, S, B, L, P, ps))), .int (nuV t len 0 99 (nuP t len 0 99 (st1 t len (g, S, B, L, P, ps))))]) (rest := []) hC hl.1 hM (c_X5_addStreet l D tb X z0 n a g (me_up M9 po (.inr (3, ps_fs ta len a (st3 t len (g, S, B, L, P, ps))))) S B L P (nmV t len (st0 (g, S, B, L, P, ps))) (nuV t len 0 99 (st1 t len (g, S, B, L, P, ps))) (nuV t len 0 99 (nuP t len 0 99 (st1 t len (g, S, B, L, P, ps)))) hW (by omega)) (kv_X3_107 hw rfl rfl ⟨Nat.le_of_ble_eq_true rfl, Nat.le_of_ble_eq_true rfl⟩) rfl rfl (sp_st _ _ _ _) rfl (Nat.le_of_ble_eq_true rfl) dX3_streetLine_69 ⟨Nat.le_of_ble_eq_true rfl, Nat.le_of_ble_eq_true rfl⟩ (fun H locs hM => ?_)
        exact me_vret hC hr hlk hM (pm_e (stL_1 c_6)) (rfl) dX3_streetLine_72
    · refine lv_aload_n hx hb dX3_streetLine_34 rfl (lv_at hl 1 rfl) ?_
      refine lv_iconst (v := 4) hx hb dX3_streetLine_35 (by decide) ?_
      refine me_callVv (As := [.int 4]) (rest := []) hC hl.1 hM (c_X3_fail l D tb X z0 n kK kV a po ta NN len g t M9 (nm1 t len (st0 (g, S, B, L, P, ps))) 4 hE (pv_nm (t := t) h0)) (kv_X3_47 hw rfl rfl ⟨Nat.le_of_ble_eq_true rfl, Nat.le_of_ble_eq_true rfl⟩) rfl rfl ((sp_out (by omega)).trans (me_up_s _ _ _)) rfl (Nat.le_of_ble_eq_true rfl) dX3_streetLine_36 ⟨Nat.le_of_ble_eq_true rfl, Nat.le_of_ble_eq_true rfl⟩ (fun H locs hM => ?_)
      have hM := hM.eq (ps_eq (q' := st1 t len (g, S, B, L, P, ps)) (fc_t c_5).symm)
      refine lv_aload_n hx hb dX3_streetLine_39 rfl (lv_at hl 1 rfl) ?_
      refine lv_iconst (v := 0) hx hb dX3_streetLine_40 (by decide) ?_
      refine lv_bipush (v := 99) hx hb dX3_streetLine_41 (by decide) ?_
      refine me_callVi (As := [.int 0, .int 99]) (rest := []) hC hl.1 hM (c_X3_number l D tb X z0 n kK kV a po ta NN len g t M9 (st1 t len (g, S, B, L, P, ps)) 0 99 hE h1) (kv_X3_51 hw rfl rfl ⟨Nat.le_of_ble_eq_true rfl, Nat.le_of_ble_eq_true rfl⟩) rfl rfl ((sp_out (by omega)).trans (me_up_s _ _ _)) rfl (Nat.le_of_ble_eq_true rfl) dX3_streetLine_43 ⟨Nat.le_of_ble_eq_true rfl, Nat.le_of_ble_eq_true rfl⟩ (fun H locs hM => ?_)
      refine lv_istore_n (lv' := [(2, .int (nuV t len 0 99 (st1 t len (g, S, B, L, P, ps)))), (1, .int (nmV t len (st0 (g, S, B, L, P, ps)))), (0, .ref po)]) hx hb dX3_streetLine_46 rfl hl (by decide) rfl (fun ls hl => ?_)
      refine lv_aload_n hx hb dX3_streetLine_47 rfl (lv_at hl 2 rfl) ?_
      refine lv_iconst (v := 0) hx hb dX3_streetLine_48 (by decide) ?_
      refine lv_bipush (v := 99) hx hb dX3_streetLine_49 (by decide) ?_
      refine me_callVi (As := [.int 0, .int 99]) (rest := []) hC hl.1 hM (c_X3_number l D tb X z0 n kK kV a po ta NN len g t M9 (nuP t len 0 99 (st1 t len (g, S, B, L, P, ps))) 0 99 hE (pv_nu (t := t) (a := 0) (b := 99) h1)) (kv_X3_51 hw rfl rfl ⟨Nat.le_of_ble_eq_true rfl, Nat.le_of_ble_eq_true rfl⟩) rfl rfl ((sp_out (by omega)).trans (me_up_s _ _ _)) rfl (Nat.le_of_ble_eq_true rfl) dX3_streetLine_51 ⟨Nat.le_of_ble_eq_true rfl, Nat.le_of_ble_eq_true rfl⟩ (fun H locs hM => ?_)
      refine lv_istore_n (lv' := [(3, .int (nuV t len 0 99 (nuP t len 0 99 (st1 t len (g, S, B, L, P, ps))))), (2, .int (nuV t len 0 99 (st1 t len (g, S, B, L, P, ps)))), (1, .int (nmV t len (st0 (g, S, B, L, P, ps)))), (0, .ref po)]) hx hb dX3_streetLine_54 rfl hl (by decide) rfl (fun ls hl => ?_)
      have hM := hM.eq (ps_eq (q' := st3 t len (g, S, B, L, P, ps)) rfl)
      refine lv_aload_n hx hb dX3_streetLine_55 rfl (lv_at hl 3 rfl) ?_
      refine fg_X3_21 hC hM ((sp_out (by omega)).trans (me_up_s _ _ _)) rfl dX3_streetLine_56 ?_
      refine lv_if_ne (tgt := 72) hx hb dX3_streetLine_59 (by decide) (fun c_7 => ?_) (fun c_7 => ?_)
      · have c_7 := (not_congr (br_eq rfl (show (0 : Int32) = nI 0 from rfl) (by omega) (by omega))).mp c_7
        exact me_vret hC hr hlk hM (pm_e (stL_0 c_7)) (rfl) dX3_streetLine_72
      · have c_7 := (br_eq rfl (show (0 : Int32) = nI 0 from rfl) (by omega) (by omega)).mp c_7
        have z9 : ¬ S = 8 := (zk_st c_7).2
        refine lv_aload_n hx hb dX3_streetLine_62 rfl (lv_at hl 3 rfl) ?_
        refine fg_X3_34 hC hM ((sp_out (by omega)).trans (me_up_s _ _ _)) rfl dX3_streetLine_63 ?_
        refine lv_iload_n hx hb dX3_streetLine_66 rfl (lv_at hl 2 rfl) ?_
        refine lv_iload_n hx hb dX3_streetLine_67 rfl (lv_at hl 1 rfl) ?_
        refine lv_iload_n hx hb dX3_streetLine_68 rfl (lv_at hl 0 rfl) ?_
        refine me_callVv (As := [.int (nmV t len (st0 (g, S, B, L, P, ps))), .int (nuV t len 0 99 (st1 t len (g, S, B, L, P, ps))), .int (nuV t len 0 99 (nuP t len 0 99 (st1 t len (g, S, B, L, P, ps))))]) (rest := []) hC hl.1 hM (c_X5_addStreet l D tb X z0 n a g (me_up M9 po (.inr (3, ps_fs ta len a (st3 t len (g, S, B, L, P, ps))))) S B L P (nmV t len (st0 (g, S, B, L, P, ps))) (nuV t len 0 99 (st1 t len (g, S, B, L, P, ps))) (nuV t len 0 99 (nuP t len 0 99 (st1 t len (g, S, B, L, P, ps)))) hW (by omega)) (kv_X3_107 hw rfl rfl ⟨Nat.le_of_ble_eq_true rfl, Nat.le_of_ble_eq_true rfl⟩) rfl rfl (sp_st _ _ _ _) rfl (Nat.le_of_ble_eq_true rfl) dX3_streetLine_69 ⟨Nat.le_of_ble_eq_true rfl, Nat.le_of_ble_eq_true rfl⟩ (fun H locs hM => ?_)
        exact me_vret hC hr hlk hM (pm_e (stL_1 c_7)) (rfl) dX3_streetLine_72
theorem d_X3_streetLine (l : Launch) (D : va_G) (tb : Nat → ClassId) (X : State → Prop) (z0 n : Nat) (kK kV : Nat → Nat) (a po ta NN len : Nat) (t : Nat → Int32) (M9 : me_M) (x : PR) (hN : ∀ U, X U → me_nest U) (hE : psE tb a po ta NN len t M9) (hx : okP len x) : Met l yX3_streetLine (.code yX3_streetLine cX3_streetLine 4 none :: ws_all) ({ frames := 3, cells := 0, slots := 0, locals := 68 } : Room) (me_Pc [.ref po] D tb X z0 (pmM tb a po ta len M9 x) n) (me_Qv D z0 (pmM tb a po ta len M9 (stL t len x)) n) 0 0 (me_A z0) := by
  obtain ⟨g, S, B, L, P, ps⟩ := x
  obtain ⟨h1, ⟨T, hT, hT0⟩, h3⟩ := hx
  exact c_X3_streetLine l D tb X z0 n kK kV a po ta NN len g t M9 ps S B L P T hN hE h1 hT hT0 h3
set_option maxHeartbeats 4000000 in
theorem c_X3_borrowerLine (l : Launch) (D : va_G) (tb : Nat → ClassId) (X : State → Prop) (z0 n : Nat) (kK kV : Nat → Nat) (a po ta NN len : Nat) (g t : Nat → Int32) (M9 : me_M) (ps : PS) (S B L P T : Nat)  (hN : ∀ U, X U → me_nest U) (hE : psE tb a po ta NN len t M9) (hW : wf g S B L P) (hT : g 2 = nI T) (hT0 : T ≤ 9999) (hp : pvP len ps) : Met l yX3_borrowerLine (.code yX3_borrowerLine cX3_borrowerLine 5 none :: ws_all) ({ frames := 4, cells := 0, slots := 0, locals := 87 } : Room) (me_Pc [.ref po] D tb X z0 (sp tb a g (me_up M9 po (.inr (3, ps_fs ta len a ps)))) n) (me_Qv D z0 (pmM tb a po ta len M9 (boL t len (g, S, B, L, P, ps))) n) 0 0 (me_A z0) := by
  refine me_open (by decide) (Nat.le_of_ble_eq_true rfl) ?_
  intro p e s m args below meth c ls hC hr hlk hnm hM hl
  have hl : lv_has ls 5 [(0, .ref po)] := hl
  have hx := hC.1
  have hb := hC.2.1
  have hw := hC.2.2.2.2.1
  obtain ⟨hS, hS0, hB, hB0, hL, hL0, hP, hP0, hwb, hwl⟩ := id hW
  obtain ⟨e1, e2, e3, e4, e5, e6⟩ := id hE
  obtain ⟨p1, p2, p3, p4⟩ := id hp
  have hx0 : okP len (g, S, B, L, P, ps) := okP_mk hW ⟨T, hT, hT0⟩ hp
  have h0 := pv_bo0 hx0
  have h1 := pv_bo1 (t := t) hx0
  have h3 := pv_bo4 (t := t) hx0
  obtain ⟨-, -, -, k3⟩ := id h3
  refine lv_aload_n hx hb dX3_borrowerLine_0 rfl (lv_at hl 0 rfl) ?_
  refine fg_X3_34 hC hM ((sp_out (by omega)).trans (me_up_s _ _ _)) rfl dX3_borrowerLine_1 ?_
  refine fg_X3_111 hC hM (sp_st _ _ _ _) rfl dX3_borrowerLine_4 ?_
  refine lv_bipush (v := 12) hx hb dX3_borrowerLine_7 (by decide) ?_
  refine lv_icmp_ne (tgt := 17) hx hb dX3_borrowerLine_9 (by decide) (fun c_1 => ?_) (fun c_1 => ?_)
  · have c_1 := (not_congr (br_eq hB (nx_c 12) (by omega) (by omega))).mp c_1
    have hM := hM.eq (ps_eq (q' := bo0 (g, S, B, L, P, ps)) (fc_f c_1).symm)
    refine lv_aload_n hx hb dX3_borrowerLine_17 rfl (lv_at hl 0 rfl) ?_
    refine me_callVi (As := []) (rest := []) hC hl.1 hM (c_X3_name l D tb X z0 n kK kV a po ta NN len g t M9 (bo0 (g, S, B, L, P, ps))  hN hE h0) (kv_X3_101 hw rfl rfl ⟨Nat.le_of_ble_eq_true rfl, Nat.le_of_ble_eq_true rfl⟩) rfl rfl ((sp_out (by omega)).trans (me_up_s _ _ _)) rfl (Nat.le_of_ble_eq_true rfl) dX3_borrowerLine_18 ⟨Nat.le_of_ble_eq_true rfl, Nat.le_of_ble_eq_true rfl⟩ (fun H locs hM => ?_)
    refine lv_istore_n (lv' := [(1, .int (nmV t len (bo0 (g, S, B, L, P, ps)))), (0, .ref po)]) hx hb dX3_borrowerLine_21 rfl hl (by decide) rfl (fun ls hl => ?_)
    refine lv_aload_n hx hb dX3_borrowerLine_22 rfl (lv_at hl 1 rfl) ?_
    refine fg_X3_34 hC hM ((sp_out (by omega)).trans (me_up_s _ _ _)) rfl dX3_borrowerLine_23 ?_
    refine lv_iload_n hx hb dX3_borrowerLine_26 rfl (lv_at hl 0 rfl) ?_
    refine me_callVi (As := [.int (nmV t len (bo0 (g, S, B, L, P, ps)))]) (rest := []) hC hl.1 hM (c_X5_borrowerNamed l D tb X z0 n a g (me_up M9 po (.inr (3, ps_fs ta len a (nm1 t len (bo0 (g, S, B, L, P, ps)))))) B (nmV t len (bo0 (g, S, B, L, P, ps))) hB hB0) (kv_X3_114 hw rfl rfl ⟨Nat.le_of_ble_eq_true rfl, Nat.le_of_ble_eq_true rfl⟩) rfl rfl (sp_st _ _ _ _) rfl (Nat.le_of_ble_eq_true rfl) dX3_borrowerLine_27 ⟨Nat.le_of_ble_eq_true rfl, Nat.le_of_ble_eq_true rfl⟩ (fun H locs hM => ?_)
    refine lv_iconst (v := (-1)) hx hb dX3_borrowerLine_30 (by decide) ?_
    refine lv_icmp_eq (tgt := 39) hx hb dX3_borrowerLine_31 (by decide) (fun c_2 => ?_) (fun c_2 => ?_)
    · have hM := hM.eq (ps_eq (q' := bo1 t len (g, S, B, L, P, ps)) (fc_f (fun z => z c_2)).symm)
      refine lv_aload_n hx hb dX3_borrowerLine_39 rfl (lv_at hl 1 rfl) ?_
      refine me_callVi (As := []) (rest := []) hC hl.1 hM (c_X3_knownStreet l D tb X z0 n kK kV a po ta NN len g t M9 (bo1 t len (g, S, B, L, P, ps)) S hN hE hS hS0 h1) (kv_X3_117 hw rfl rfl ⟨Nat.le_of_ble_eq_true rfl, Nat.le_of_ble_eq_true rfl⟩) rfl rfl ((sp_out (by omega)).trans (me_up_s _ _ _)) rfl (Nat.le_of_ble_eq_true rfl) dX3_borrowerLine_40 ⟨Nat.le_of_ble_eq_true rfl, Nat.le_of_ble_eq_true rfl⟩ (fun H locs hM => ?_)
      refine lv_istore_n (lv' := [(2, .int (ksV t len g S (bo1 t len (g, S, B, L, P, ps)))), (1, .int (nmV t len (bo0 (g, S, B, L, P, ps)))), (0, .ref po)]) hx hb dX3_borrowerLine_43 rfl hl (by decide) rfl (fun ls hl => ?_)
      refine lv_aload_n hx hb dX3_borrowerLine_44 rfl (lv_at hl 2 rfl) ?_
      refine lv_iconst (v := 0) hx hb dX3_borrowerLine_45 (by decide) ?_
      refine lv_bipush (v := 9) hx hb dX3_borrowerLine_46 (by decide) ?_
      refine me_callVi (As := [.int 0, .int 9]) (rest := []) hC hl.1 hM (c_X3_number l D tb X z0 n kK kV a po ta NN len g t M9 (ks1 t len g S (bo1 t len (g, S, B, L, P, ps))) 0 9 hE (pv_ks (t := t) h1)) (kv_X3_51 hw rfl rfl ⟨Nat.le_of_ble_eq_true rfl, Nat.le_of_ble_eq_true rfl⟩) rfl rfl ((sp_out (by omega)).trans (me_up_s _ _ _)) rfl (Nat.le_of_ble_eq_true rfl) dX3_borrowerLine_48 ⟨Nat.le_of_ble_eq_true rfl, Nat.le_of_ble_eq_true rfl⟩ (fun H locs hM => ?_)
      refine lv_istore_n (lv' := [(3, .int (nuV t len 0 9 (ks1 t len g S (bo1 t len (g, S, B, L, P, ps))))), (2, .int (ksV t len g S (bo1 t len (g, S, B, L, P, ps)))), (1, .int (nmV t len (bo0 (g, S, B, L, P, ps)))), (0, .ref po)]) hx hb dX3_borrowerLine_51 rfl hl (by decide) rfl (fun ls hl => ?_)
      refine lv_aload_n hx hb dX3_borrowerLine_52 rfl (lv_at hl 3 rfl) ?_
      refine lv_iconst (v := 0) hx hb dX3_borrowerLine_53 (by decide) ?_
      refine lv_sipush (v := 999) hx hb dX3_borrowerLine_54 (by decide) ?_
      refine me_callVi (As := [.int 0, .int 999]) (rest := []) hC hl.1 hM (c_X3_number l D tb X z0 n kK kV a po ta NN len g t M9 (nuP t len 0 9 (ks1 t len g S (bo1 t len (g, S, B, L, P, ps)))) 0 999 hE (pv_nu (t := t) (a := 0) (b := 9) (pv_ks (t := t) h1))) (kv_X3_51 hw rfl rfl ⟨Nat.le_of_ble_eq_true rfl, Nat.le_of_ble_eq_true rfl⟩) rfl rfl ((sp_out (by omega)).trans (me_up_s _ _ _)) rfl (Nat.le_of_ble_eq_true rfl) dX3_borrowerLine_57 ⟨Nat.le_of_ble_eq_true rfl, Nat.le_of_ble_eq_true rfl⟩ (fun H locs hM => ?_)
      refine lv_istore (lv' := [(4, .int (nuV t len 0 999 (nuP t len 0 9 (ks1 t len g S (bo1 t len (g, S, B, L, P, ps)))))), (3, .int (nuV t len 0 9 (ks1 t len g S (bo1 t len (g, S, B, L, P, ps))))), (2, .int (ksV t len g S (bo1 t len (g, S, B, L, P, ps)))), (1, .int (nmV t len (bo0 (g, S, B, L, P, ps)))), (0, .ref po)]) hx hb dX3_borrowerLine_60 hl (by decide) rfl (fun ls hl => ?_)
      have hM := hM.eq (ps_eq (q' := bo4 t len (g, S, B, L, P, ps)) rfl)
      refine lv_aload_n hx hb dX3_borrowerLine_62 rfl (lv_at hl 4 rfl) ?_
      refine fg_X3_21 hC hM ((sp_out (by omega)).trans (me_up_s _ _ _)) rfl dX3_borrowerLine_63 ?_
      refine lv_if_ne (tgt := 81) hx hb dX3_borrowerLine_66 (by decide) (fun c_3 => ?_) (fun c_3 => ?_)
      · have c_3 := (not_congr (br_eq rfl (show (0 : Int32) = nI 0 from rfl) (by omega) (by omega))).mp c_3
        exact me_vret hC hr hlk hM (pm_e (boL_0 c_3)) (rfl) dX3_borrowerLine_81
      · have c_3 := (br_eq rfl (show (0 : Int32) = nI 0 from rfl) (by omega) (by omega)).mp c_3
        have z9 : ¬ B = 12 := (zk_bo c_3).2.1
        refine lv_aload_n hx hb dX3_borrowerLine_69 rfl (lv_at hl 4 rfl) ?_
        refine fg_X3_34 hC hM ((sp_out (by omega)).trans (me_up_s _ _ _)) rfl dX3_borrowerLine_70 ?_
        refine lv_iload_n hx hb dX3_borrowerLine_73 rfl (lv_at hl 3 rfl) ?_
        refine lv_iload_n hx hb dX3_borrowerLine_74 rfl (lv_at hl 2 rfl) ?_
        refine lv_iload_n hx hb dX3_borrowerLine_75 rfl (lv_at hl 1 rfl) ?_
        refine lv_iload hx hb dX3_borrowerLine_76 (lv_at hl 0 rfl) ?_
        refine me_callVv (As := [.int (nmV t len (bo0 (g, S, B, L, P, ps))), .int (ksV t len g S (bo1 t len (g, S, B, L, P, ps))), .int (nuV t len 0 9 (ks1 t len g S (bo1 t len (g, S, B, L, P, ps)))), .int (nuV t len 0 999 (nuP t len 0 9 (ks1 t len g S (bo1 t len (g, S, B, L, P, ps)))))]) (rest := []) hC hl.1 hM (c_X5_addBorrower l D tb X z0 n a g (me_up M9 po (.inr (3, ps_fs ta len a (bo4 t len (g, S, B, L, P, ps))))) S B L P (nmV t len (bo0 (g, S, B, L, P, ps))) (ksV t len g S (bo1 t len (g, S, B, L, P, ps))) (nuV t len 0 9 (ks1 t len g S (bo1 t len (g, S, B, L, P, ps)))) (nuV t len 0 999 (nuP t len 0 9 (ks1 t len g S (bo1 t len (g, S, B, L, P, ps))))) hW (by omega)) (kv_X3_120 hw rfl rfl ⟨Nat.le_of_ble_eq_true rfl, Nat.le_of_ble_eq_true rfl⟩) rfl rfl (sp_st _ _ _ _) rfl (Nat.le_of_ble_eq_true rfl) dX3_borrowerLine_78 ⟨Nat.le_of_ble_eq_true rfl, Nat.le_of_ble_eq_true rfl⟩ (fun H locs hM => ?_)
        exact me_vret hC hr hlk hM (pm_e (boL_1 c_3)) (rfl) dX3_borrowerLine_81
    · refine lv_aload_n hx hb dX3_borrowerLine_34 rfl (lv_at hl 1 rfl) ?_
      refine lv_iconst (v := 4) hx hb dX3_borrowerLine_35 (by decide) ?_
      refine me_callVv (As := [.int 4]) (rest := []) hC hl.1 hM (c_X3_fail l D tb X z0 n kK kV a po ta NN len g t M9 (nm1 t len (bo0 (g, S, B, L, P, ps))) 4 hE (pv_nm (t := t) h0)) (kv_X3_47 hw rfl rfl ⟨Nat.le_of_ble_eq_true rfl, Nat.le_of_ble_eq_true rfl⟩) rfl rfl ((sp_out (by omega)).trans (me_up_s _ _ _)) rfl (Nat.le_of_ble_eq_true rfl) dX3_borrowerLine_36 ⟨Nat.le_of_ble_eq_true rfl, Nat.le_of_ble_eq_true rfl⟩ (fun H locs hM => ?_)
      have hM := hM.eq (ps_eq (q' := bo1 t len (g, S, B, L, P, ps)) (fc_t c_2).symm)
      refine lv_aload_n hx hb dX3_borrowerLine_39 rfl (lv_at hl 1 rfl) ?_
      refine me_callVi (As := []) (rest := []) hC hl.1 hM (c_X3_knownStreet l D tb X z0 n kK kV a po ta NN len g t M9 (bo1 t len (g, S, B, L, P, ps)) S hN hE hS hS0 h1) (kv_X3_117 hw rfl rfl ⟨Nat.le_of_ble_eq_true rfl, Nat.le_of_ble_eq_true rfl⟩) rfl rfl ((sp_out (by omega)).trans (me_up_s _ _ _)) rfl (Nat.le_of_ble_eq_true rfl) dX3_borrowerLine_40 ⟨Nat.le_of_ble_eq_true rfl, Nat.le_of_ble_eq_true rfl⟩ (fun H locs hM => ?_)
      refine lv_istore_n (lv' := [(2, .int (ksV t len g S (bo1 t len (g, S, B, L, P, ps)))), (1, .int (nmV t len (bo0 (g, S, B, L, P, ps)))), (0, .ref po)]) hx hb dX3_borrowerLine_43 rfl hl (by decide) rfl (fun ls hl => ?_)
      refine lv_aload_n hx hb dX3_borrowerLine_44 rfl (lv_at hl 2 rfl) ?_
      refine lv_iconst (v := 0) hx hb dX3_borrowerLine_45 (by decide) ?_
      refine lv_bipush (v := 9) hx hb dX3_borrowerLine_46 (by decide) ?_
      refine me_callVi (As := [.int 0, .int 9]) (rest := []) hC hl.1 hM (c_X3_number l D tb X z0 n kK kV a po ta NN len g t M9 (ks1 t len g S (bo1 t len (g, S, B, L, P, ps))) 0 9 hE (pv_ks (t := t) h1)) (kv_X3_51 hw rfl rfl ⟨Nat.le_of_ble_eq_true rfl, Nat.le_of_ble_eq_true rfl⟩) rfl rfl ((sp_out (by omega)).trans (me_up_s _ _ _)) rfl (Nat.le_of_ble_eq_true rfl) dX3_borrowerLine_48 ⟨Nat.le_of_ble_eq_true rfl, Nat.le_of_ble_eq_true rfl⟩ (fun H locs hM => ?_)
      refine lv_istore_n (lv' := [(3, .int (nuV t len 0 9 (ks1 t len g S (bo1 t len (g, S, B, L, P, ps))))), (2, .int (ksV t len g S (bo1 t len (g, S, B, L, P, ps)))), (1, .int (nmV t len (bo0 (g, S, B, L, P, ps)))), (0, .ref po)]) hx hb dX3_borrowerLine_51 rfl hl (by decide) rfl (fun ls hl => ?_)
      refine lv_aload_n hx hb dX3_borrowerLine_52 rfl (lv_at hl 3 rfl) ?_
      refine lv_iconst (v := 0) hx hb dX3_borrowerLine_53 (by decide) ?_
      refine lv_sipush (v := 999) hx hb dX3_borrowerLine_54 (by decide) ?_
      refine me_callVi (As := [.int 0, .int 999]) (rest := []) hC hl.1 hM (c_X3_number l D tb X z0 n kK kV a po ta NN len g t M9 (nuP t len 0 9 (ks1 t len g S (bo1 t len (g, S, B, L, P, ps)))) 0 999 hE (pv_nu (t := t) (a := 0) (b := 9) (pv_ks (t := t) h1))) (kv_X3_51 hw rfl rfl ⟨Nat.le_of_ble_eq_true rfl, Nat.le_of_ble_eq_true rfl⟩) rfl rfl ((sp_out (by omega)).trans (me_up_s _ _ _)) rfl (Nat.le_of_ble_eq_true rfl) dX3_borrowerLine_57 ⟨Nat.le_of_ble_eq_true rfl, Nat.le_of_ble_eq_true rfl⟩ (fun H locs hM => ?_)
      refine lv_istore (lv' := [(4, .int (nuV t len 0 999 (nuP t len 0 9 (ks1 t len g S (bo1 t len (g, S, B, L, P, ps)))))), (3, .int (nuV t len 0 9 (ks1 t len g S (bo1 t len (g, S, B, L, P, ps))))), (2, .int (ksV t len g S (bo1 t len (g, S, B, L, P, ps)))), (1, .int (nmV t len (bo0 (g, S, B, L, P, ps)))), (0, .ref po)]) hx hb dX3_borrowerLine_60 hl (by decide) rfl (fun ls hl => ?_)
      have hM := hM.eq (ps_eq (q' := bo4 t len (g, S, B, L, P, ps)) rfl)
      refine lv_aload_n hx hb dX3_borrowerLine_62 rfl (lv_at hl 4 rfl) ?_
      refine fg_X3_21 hC hM ((sp_out (by omega)).trans (me_up_s _ _ _)) rfl dX3_borrowerLine_63 ?_
      refine lv_if_ne (tgt := 81) hx hb dX3_borrowerLine_66 (by decide) (fun c_4 => ?_) (fun c_4 => ?_)
      · have c_4 := (not_congr (br_eq rfl (show (0 : Int32) = nI 0 from rfl) (by omega) (by omega))).mp c_4
        exact me_vret hC hr hlk hM (pm_e (boL_0 c_4)) (rfl) dX3_borrowerLine_81
      · have c_4 := (br_eq rfl (show (0 : Int32) = nI 0 from rfl) (by omega) (by omega)).mp c_4
        have z9 : ¬ B = 12 := (zk_bo c_4).2.1
        refine lv_aload_n hx hb dX3_borrowerLine_69 rfl (lv_at hl 4 rfl) ?_
        refine fg_X3_34 hC hM ((sp_out (by omega)).trans (me_up_s _ _ _)) rfl dX3_borrowerLine_70 ?_
        refine lv_iload_n hx hb dX3_borrowerLine_73 rfl (lv_at hl 3 rfl) ?_
        refine lv_iload_n hx hb dX3_borrowerLine_74 rfl (lv_at hl 2 rfl) ?_
        refine lv_iload_n hx hb dX3_borrowerLine_75 rfl (lv_at hl 1 rfl) ?_
        refine lv_iload hx hb dX3_borrowerLine_76 (lv_at hl 0 rfl) ?_
        refine me_callVv (As := [.int (nmV t len (bo0 (g, S, B, L, P, ps))), .int (ksV t len g S (bo1 t len (g, S, B, L, P, ps))), .int (nuV t len 0 9 (ks1 t len g S (bo1 t len (g, S, B, L, P, ps)))), .int (nuV t len 0 999 (nuP t len 0 9 (ks1 t len g S (bo1 t len (g, S, B, L, P, ps)))))]) (rest := []) hC hl.1 hM (c_X5_addBorrower l D tb X z0 n a g (me_up M9 po (.inr (3, ps_fs ta len a (bo4 t len (g, S, B, L, P, ps))))) S B L P (nmV t len (bo0 (g, S, B, L, P, ps))) (ksV t len g S (bo1 t len (g, S, B, L, P, ps))) (nuV t len 0 9 (ks1 t len g S (bo1 t len (g, S, B, L, P, ps)))) (nuV t len 0 999 (nuP t len 0 9 (ks1 t len g S (bo1 t len (g, S, B, L, P, ps))))) hW (by omega)) (kv_X3_120 hw rfl rfl ⟨Nat.le_of_ble_eq_true rfl, Nat.le_of_ble_eq_true rfl⟩) rfl rfl (sp_st _ _ _ _) rfl (Nat.le_of_ble_eq_true rfl) dX3_borrowerLine_78 ⟨Nat.le_of_ble_eq_true rfl, Nat.le_of_ble_eq_true rfl⟩ (fun H locs hM => ?_)
        exact me_vret hC hr hlk hM (pm_e (boL_1 c_4)) (rfl) dX3_borrowerLine_81
  · have c_1 := (br_eq hB (nx_c 12) (by omega) (by omega)).mp c_1
    refine lv_aload_n hx hb dX3_borrowerLine_12 rfl (lv_at hl 0 rfl) ?_
    refine lv_iconst (v := 5) hx hb dX3_borrowerLine_13 (by decide) ?_
    refine me_callVv (As := [.int 5]) (rest := []) hC hl.1 hM (c_X3_fail l D tb X z0 n kK kV a po ta NN len g t M9 ps 5 hE hp) (kv_X3_47 hw rfl rfl ⟨Nat.le_of_ble_eq_true rfl, Nat.le_of_ble_eq_true rfl⟩) rfl rfl ((sp_out (by omega)).trans (me_up_s _ _ _)) rfl (Nat.le_of_ble_eq_true rfl) dX3_borrowerLine_14 ⟨Nat.le_of_ble_eq_true rfl, Nat.le_of_ble_eq_true rfl⟩ (fun H locs hM => ?_)
    have hM := hM.eq (ps_eq (q' := bo0 (g, S, B, L, P, ps)) (fc_t c_1).symm)
    refine lv_aload_n hx hb dX3_borrowerLine_17 rfl (lv_at hl 0 rfl) ?_
    refine me_callVi (As := []) (rest := []) hC hl.1 hM (c_X3_name l D tb X z0 n kK kV a po ta NN len g t M9 (bo0 (g, S, B, L, P, ps))  hN hE h0) (kv_X3_101 hw rfl rfl ⟨Nat.le_of_ble_eq_true rfl, Nat.le_of_ble_eq_true rfl⟩) rfl rfl ((sp_out (by omega)).trans (me_up_s _ _ _)) rfl (Nat.le_of_ble_eq_true rfl) dX3_borrowerLine_18 ⟨Nat.le_of_ble_eq_true rfl, Nat.le_of_ble_eq_true rfl⟩ (fun H locs hM => ?_)
    refine lv_istore_n (lv' := [(1, .int (nmV t len (bo0 (g, S, B, L, P, ps)))), (0, .ref po)]) hx hb dX3_borrowerLine_21 rfl hl (by decide) rfl (fun ls hl => ?_)
    refine lv_aload_n hx hb dX3_borrowerLine_22 rfl (lv_at hl 1 rfl) ?_
    refine fg_X3_34 hC hM ((sp_out (by omega)).trans (me_up_s _ _ _)) rfl dX3_borrowerLine_23 ?_
    refine lv_iload_n hx hb dX3_borrowerLine_26 rfl (lv_at hl 0 rfl) ?_
    refine me_callVi (As := [.int (nmV t len (bo0 (g, S, B, L, P, ps)))]) (rest := []) hC hl.1 hM (c_X5_borrowerNamed l D tb X z0 n a g (me_up M9 po (.inr (3, ps_fs ta len a (nm1 t len (bo0 (g, S, B, L, P, ps)))))) B (nmV t len (bo0 (g, S, B, L, P, ps))) hB hB0) (kv_X3_114 hw rfl rfl ⟨Nat.le_of_ble_eq_true rfl, Nat.le_of_ble_eq_true rfl⟩) rfl rfl (sp_st _ _ _ _) rfl (Nat.le_of_ble_eq_true rfl) dX3_borrowerLine_27 ⟨Nat.le_of_ble_eq_true rfl, Nat.le_of_ble_eq_true rfl⟩ (fun H locs hM => ?_)
    refine lv_iconst (v := (-1)) hx hb dX3_borrowerLine_30 (by decide) ?_
    refine lv_icmp_eq (tgt := 39) hx hb dX3_borrowerLine_31 (by decide) (fun c_5 => ?_) (fun c_5 => ?_)
    · have hM := hM.eq (ps_eq (q' := bo1 t len (g, S, B, L, P, ps)) (fc_f (fun z => z c_5)).symm)
      refine lv_aload_n hx hb dX3_borrowerLine_39 rfl (lv_at hl 1 rfl) ?_
      refine me_callVi (As := []) (rest := []) hC hl.1 hM (c_X3_knownStreet l D tb X z0 n kK kV a po ta NN len g t M9 (bo1 t len (g, S, B, L, P, ps)) S hN hE hS hS0 h1) (kv_X3_117 hw rfl rfl ⟨Nat.le_of_ble_eq_true rfl, Nat.le_of_ble_eq_true rfl⟩) rfl rfl ((sp_out (by omega)).trans (me_up_s _ _ _)) rfl (Nat.le_of_ble_eq_true rfl) dX3_borrowerLine_40 ⟨Nat.le_of_ble_eq_true rfl, Nat.le_of_ble_eq_true rfl⟩ (fun H locs hM => ?_)
      refine lv_istore_n (lv' := [(2, .int (ksV t len g S (bo1 t len (g, S, B, L, P, ps)))), (1, .int (nmV t len (bo0 (g, S, B, L, P, ps)))), (0, .ref po)]) hx hb dX3_borrowerLine_43 rfl hl (by decide) rfl (fun ls hl => ?_)
      refine lv_aload_n hx hb dX3_borrowerLine_44 rfl (lv_at hl 2 rfl) ?_
      refine lv_iconst (v := 0) hx hb dX3_borrowerLine_45 (by decide) ?_
      refine lv_bipush (v := 9) hx hb dX3_borrowerLine_46 (by decide) ?_
      refine me_callVi (As := [.int 0, .int 9]) (rest := []) hC hl.1 hM (c_X3_number l D tb X z0 n kK kV a po ta NN len g t M9 (ks1 t len g S (bo1 t len (g, S, B, L, P, ps))) 0 9 hE (pv_ks (t := t) h1)) (kv_X3_51 hw rfl rfl ⟨Nat.le_of_ble_eq_true rfl, Nat.le_of_ble_eq_true rfl⟩) rfl rfl ((sp_out (by omega)).trans (me_up_s _ _ _)) rfl (Nat.le_of_ble_eq_true rfl) dX3_borrowerLine_48 ⟨Nat.le_of_ble_eq_true rfl, Nat.le_of_ble_eq_true rfl⟩ (fun H locs hM => ?_)
      refine lv_istore_n (lv' := [(3, .int (nuV t len 0 9 (ks1 t len g S (bo1 t len (g, S, B, L, P, ps))))), (2, .int (ksV t len g S (bo1 t len (g, S, B, L, P, ps)))), (1, .int (nmV t len (bo0 (g, S, B, L, P, ps)))), (0, .ref po)]) hx hb dX3_borrowerLine_51 rfl hl (by decide) rfl (fun ls hl => ?_)
      refine lv_aload_n hx hb dX3_borrowerLine_52 rfl (lv_at hl 3 rfl) ?_
      refine lv_iconst (v := 0) hx hb dX3_borrowerLine_53 (by decide) ?_
      refine lv_sipush (v := 999) hx hb dX3_borrowerLine_54 (by decide) ?_
      refine me_callVi (As := [.int 0, .int 999]) (rest := []) hC hl.1 hM (c_X3_number l D tb X z0 n kK kV a po ta NN len g t M9 (nuP t len 0 9 (ks1 t len g S (bo1 t len (g, S, B, L, P, ps)))) 0 999 hE (pv_nu (t := t) (a := 0) (b := 9) (pv_ks (t := t) h1))) (kv_X3_51 hw rfl rfl ⟨Nat.le_of_ble_eq_true rfl, Nat.le_of_ble_eq_true rfl⟩) rfl rfl ((sp_out (by omega)).trans (me_up_s _ _ _)) rfl (Nat.le_of_ble_eq_true rfl) dX3_borrowerLine_57 ⟨Nat.le_of_ble_eq_true rfl, Nat.le_of_ble_eq_true rfl⟩ (fun H locs hM => ?_)
      refine lv_istore (lv' := [(4, .int (nuV t len 0 999 (nuP t len 0 9 (ks1 t len g S (bo1 t len (g, S, B, L, P, ps)))))), (3, .int (nuV t len 0 9 (ks1 t len g S (bo1 t len (g, S, B, L, P, ps))))), (2, .int (ksV t len g S (bo1 t len (g, S, B, L, P, ps)))), (1, .int (nmV t len (bo0 (g, S, B, L, P, ps)))), (0, .ref po)]) hx hb dX3_borrowerLine_60 hl (by decide) rfl (fun ls hl => ?_)
      have hM := hM.eq (ps_eq (q' := bo4 t len (g, S, B, L, P, ps)) rfl)
      refine lv_aload_n hx hb dX3_borrowerLine_62 rfl (lv_at hl 4 rfl) ?_
      refine fg_X3_21 hC hM ((sp_out (by omega)).trans (me_up_s _ _ _)) rfl dX3_borrowerLine_63 ?_
      refine lv_if_ne (tgt := 81) hx hb dX3_borrowerLine_66 (by decide) (fun c_6 => ?_) (fun c_6 => ?_)
      · have c_6 := (not_congr (br_eq rfl (show (0 : Int32) = nI 0 from rfl) (by omega) (by omega))).mp c_6
        exact me_vret hC hr hlk hM (pm_e (boL_0 c_6)) (rfl) dX3_borrowerLine_81
      · have c_6 := (br_eq rfl (show (0 : Int32) = nI 0 from rfl) (by omega) (by omega)).mp c_6
        have z9 : ¬ B = 12 := (zk_bo c_6).2.1
        refine lv_aload_n hx hb dX3_borrowerLine_69 rfl (lv_at hl 4 rfl) ?_
        refine fg_X3_34 hC hM ((sp_out (by omega)).trans (me_up_s _ _ _)) rfl dX3_borrowerLine_70 ?_
        refine lv_iload_n hx hb dX3_borrowerLine_73 rfl (lv_at hl 3 rfl) ?_
        refine lv_iload_n hx hb dX3_borrowerLine_74 rfl (lv_at hl 2 rfl) ?_
        refine lv_iload_n hx hb dX3_borrowerLine_75 rfl (lv_at hl 1 rfl) ?_
        refine lv_iload hx hb dX3_borrowerLine_76 (lv_at hl 0 rfl) ?_
        refine me_callVv (As := [.int (nmV t len (bo0 (g, S, B, L, P, ps))), .int (ksV t len g S (bo1 t len (g, S, B, L, P, ps))), .int (nuV t len 0 9 (ks1 t len g S (bo1 t len (g, S, B, L, P, ps)))), .int (nuV t len 0 999 (nuP t len 0 9 (ks1 t len g S (bo1 t len (g, S, B, L, P, ps)))))]) (rest := []) hC hl.1 hM (c_X5_addBorrower l D tb X z0 n a g (me_up M9 po (.inr (3, ps_fs ta len a (bo4 t len (g, S, B, L, P, ps))))) S B L P (nmV t len (bo0 (g, S, B, L, P, ps))) (ksV t len g S (bo1 t len (g, S, B, L, P, ps))) (nuV t len 0 9 (ks1 t len g S (bo1 t len (g, S, B, L, P, ps)))) (nuV t len 0 999 (nuP t len 0 9 (ks1 t len g S (bo1 t len (g, S, B, L, P, ps))))) hW (by omega)) (kv_X3_120 hw rfl rfl ⟨Nat.le_of_ble_eq_true rfl, Nat.le_of_ble_eq_true rfl⟩) rfl rfl (sp_st _ _ _ _) rfl (Nat.le_of_ble_eq_true rfl) dX3_borrowerLine_78 ⟨Nat.le_of_ble_eq_true rfl, Nat.le_of_ble_eq_true rfl⟩ (fun H locs hM => ?_)
        exact me_vret hC hr hlk hM (pm_e (boL_1 c_6)) (rfl) dX3_borrowerLine_81
    · refine lv_aload_n hx hb dX3_borrowerLine_34 rfl (lv_at hl 1 rfl) ?_
      refine lv_iconst (v := 4) hx hb dX3_borrowerLine_35 (by decide) ?_
      refine me_callVv (As := [.int 4]) (rest := []) hC hl.1 hM (c_X3_fail l D tb X z0 n kK kV a po ta NN len g t M9 (nm1 t len (bo0 (g, S, B, L, P, ps))) 4 hE (pv_nm (t := t) h0)) (kv_X3_47 hw rfl rfl ⟨Nat.le_of_ble_eq_true rfl, Nat.le_of_ble_eq_true rfl⟩) rfl rfl ((sp_out (by omega)).trans (me_up_s _ _ _)) rfl (Nat.le_of_ble_eq_true rfl) dX3_borrowerLine_36 ⟨Nat.le_of_ble_eq_true rfl, Nat.le_of_ble_eq_true rfl⟩ (fun H locs hM => ?_)
      have hM := hM.eq (ps_eq (q' := bo1 t len (g, S, B, L, P, ps)) (fc_t c_5).symm)
      refine lv_aload_n hx hb dX3_borrowerLine_39 rfl (lv_at hl 1 rfl) ?_
      refine me_callVi (As := []) (rest := []) hC hl.1 hM (c_X3_knownStreet l D tb X z0 n kK kV a po ta NN len g t M9 (bo1 t len (g, S, B, L, P, ps)) S hN hE hS hS0 h1) (kv_X3_117 hw rfl rfl ⟨Nat.le_of_ble_eq_true rfl, Nat.le_of_ble_eq_true rfl⟩) rfl rfl ((sp_out (by omega)).trans (me_up_s _ _ _)) rfl (Nat.le_of_ble_eq_true rfl) dX3_borrowerLine_40 ⟨Nat.le_of_ble_eq_true rfl, Nat.le_of_ble_eq_true rfl⟩ (fun H locs hM => ?_)
      refine lv_istore_n (lv' := [(2, .int (ksV t len g S (bo1 t len (g, S, B, L, P, ps)))), (1, .int (nmV t len (bo0 (g, S, B, L, P, ps)))), (0, .ref po)]) hx hb dX3_borrowerLine_43 rfl hl (by decide) rfl (fun ls hl => ?_)
      refine lv_aload_n hx hb dX3_borrowerLine_44 rfl (lv_at hl 2 rfl) ?_
      refine lv_iconst (v := 0) hx hb dX3_borrowerLine_45 (by decide) ?_
      refine lv_bipush (v := 9) hx hb dX3_borrowerLine_46 (by decide) ?_
      refine me_callVi (As := [.int 0, .int 9]) (rest := []) hC hl.1 hM (c_X3_number l D tb X z0 n kK kV a po ta NN len g t M9 (ks1 t len g S (bo1 t len (g, S, B, L, P, ps))) 0 9 hE (pv_ks (t := t) h1)) (kv_X3_51 hw rfl rfl ⟨Nat.le_of_ble_eq_true rfl, Nat.le_of_ble_eq_true rfl⟩) rfl rfl ((sp_out (by omega)).trans (me_up_s _ _ _)) rfl (Nat.le_of_ble_eq_true rfl) dX3_borrowerLine_48 ⟨Nat.le_of_ble_eq_true rfl, Nat.le_of_ble_eq_true rfl⟩ (fun H locs hM => ?_)
      refine lv_istore_n (lv' := [(3, .int (nuV t len 0 9 (ks1 t len g S (bo1 t len (g, S, B, L, P, ps))))), (2, .int (ksV t len g S (bo1 t len (g, S, B, L, P, ps)))), (1, .int (nmV t len (bo0 (g, S, B, L, P, ps)))), (0, .ref po)]) hx hb dX3_borrowerLine_51 rfl hl (by decide) rfl (fun ls hl => ?_)
      refine lv_aload_n hx hb dX3_borrowerLine_52 rfl (lv_at hl 3 rfl) ?_
      refine lv_iconst (v := 0) hx hb dX3_borrowerLine_53 (by decide) ?_
      refine lv_sipush (v := 999) hx hb dX3_borrowerLine_54 (by decide) ?_
      refine me_callVi (As := [.int 0, .int 999]) (rest := []) hC hl.1 hM (c_X3_number l D tb X z0 n kK kV a po ta NN len g t M9 (nuP t len 0 9 (ks1 t len g S (bo1 t len (g, S, B, L, P, ps)))) 0 999 hE (pv_nu (t := t) (a := 0) (b := 9) (pv_ks (t := t) h1))) (kv_X3_51 hw rfl rfl ⟨Nat.le_of_ble_eq_true rfl, Nat.le_of_ble_eq_true rfl⟩) rfl rfl ((sp_out (by omega)).trans (me_up_s _ _ _)) rfl (Nat.le_of_ble_eq_true rfl) dX3_borrowerLine_57 ⟨Nat.le_of_ble_eq_true rfl, Nat.le_of_ble_eq_true rfl⟩ (fun H locs hM => ?_)
      refine lv_istore (lv' := [(4, .int (nuV t len 0 999 (nuP t len 0 9 (ks1 t len g S (bo1 t len (g, S, B, L, P, ps)))))), (3, .int (nuV t len 0 9 (ks1 t len g S (bo1 t len (g, S, B, L, P, ps))))), (2, .int (ksV t len g S (bo1 t len (g, S, B, L, P, ps)))), (1, .int (nmV t len (bo0 (g, S, B, L, P, ps)))), (0, .ref po)]) hx hb dX3_borrowerLine_60 hl (by decide) rfl (fun ls hl => ?_)
      have hM := hM.eq (ps_eq (q' := bo4 t len (g, S, B, L, P, ps)) rfl)
      refine lv_aload_n hx hb dX3_borrowerLine_62 rfl (lv_at hl 4 rfl) ?_
      refine fg_X3_21 hC hM ((sp_out (by omega)).trans (me_up_s _ _ _)) rfl dX3_borrowerLine_63 ?_
      refine lv_if_ne (tgt := 81) hx hb dX3_borrowerLine_66 (by decide) (fun c_7 => ?_) (fun c_7 => ?_)
      · have c_7 := (not_congr (br_eq rfl (show (0 : Int32) = nI 0 from rfl) (by omega) (by omega))).mp c_7
        exact me_vret hC hr hlk hM (pm_e (boL_0 c_7)) (rfl) dX3_borrowerLine_81
      · have c_7 := (br_eq rfl (show (0 : Int32) = nI 0 from rfl) (by omega) (by omega)).mp c_7
        have z9 : ¬ B = 12 := (zk_bo c_7).2.1
        refine lv_aload_n hx hb dX3_borrowerLine_69 rfl (lv_at hl 4 rfl) ?_
        refine fg_X3_34 hC hM ((sp_out (by omega)).trans (me_up_s _ _ _)) rfl dX3_borrowerLine_70 ?_
        refine lv_iload_n hx hb dX3_borrowerLine_73 rfl (lv_at hl 3 rfl) ?_
        refine lv_iload_n hx hb dX3_borrowerLine_74 rfl (lv_at hl 2 rfl) ?_
        refine lv_iload_n hx hb dX3_borrowerLine_75 rfl (lv_at hl 1 rfl) ?_
        refine lv_iload hx hb dX3_borrowerLine_76 (lv_at hl 0 rfl) ?_
        refine me_callVv (As := [.int (nmV t len (bo0 (g, S, B, L, P, ps))), .int (ksV t len g S (bo1 t len (g, S, B, L, P, ps))), .int (nuV t len 0 9 (ks1 t len g S (bo1 t len (g, S, B, L, P, ps)))), .int (nuV t len 0 999 (nuP t len 0 9 (ks1 t len g S (bo1 t len (g, S, B, L, P, ps)))))]) (rest := []) hC hl.1 hM (c_X5_addBorrower l D tb X z0 n a g (me_up M9 po (.inr (3, ps_fs ta len a (bo4 t len (g, S, B, L, P, ps))))) S B L P (nmV t len (bo0 (g, S, B, L, P, ps))) (ksV t len g S (bo1 t len (g, S, B, L, P, ps))) (nuV t len 0 9 (ks1 t len g S (bo1 t len (g, S, B, L, P, ps)))) (nuV t len 0 999 (nuP t len 0 9 (ks1 t len g S (bo1 t len (g, S, B, L, P, ps))))) hW (by omega)) (kv_X3_120 hw rfl rfl ⟨Nat.le_of_ble_eq_true rfl, Nat.le_of_ble_eq_true rfl⟩) rfl rfl (sp_st _ _ _ _) rfl (Nat.le_of_ble_eq_true rfl) dX3_borrowerLine_78 ⟨Nat.le_of_ble_eq_true rfl, Nat.le_of_ble_eq_true rfl⟩ (fun H locs hM => ?_)
        exact me_vret hC hr hlk hM (pm_e (boL_1 c_7)) (rfl) dX3_borrowerLine_81
theorem d_X3_borrowerLine (l : Launch) (D : va_G) (tb : Nat → ClassId) (X : State → Prop) (z0 n : Nat) (kK kV : Nat → Nat) (a po ta NN len : Nat) (t : Nat → Int32) (M9 : me_M) (x : PR) (hN : ∀ U, X U → me_nest U) (hE : psE tb a po ta NN len t M9) (hx : okP len x) : Met l yX3_borrowerLine (.code yX3_borrowerLine cX3_borrowerLine 5 none :: ws_all) ({ frames := 4, cells := 0, slots := 0, locals := 87 } : Room) (me_Pc [.ref po] D tb X z0 (pmM tb a po ta len M9 x) n) (me_Qv D z0 (pmM tb a po ta len M9 (boL t len x)) n) 0 0 (me_A z0) := by
  obtain ⟨g, S, B, L, P, ps⟩ := x
  obtain ⟨h1, ⟨T, hT, hT0⟩, h3⟩ := hx
  exact c_X3_borrowerLine l D tb X z0 n kK kV a po ta NN len g t M9 ps S B L P T hN hE h1 hT hT0 h3
set_option maxHeartbeats 4000000 in
theorem c_X3_permitLine (l : Launch) (D : va_G) (tb : Nat → ClassId) (X : State → Prop) (z0 n : Nat) (kK kV : Nat → Nat) (a po ta NN len : Nat) (g t : Nat → Int32) (M9 : me_M) (ps : PS) (S B L P T : Nat)  (hN : ∀ U, X U → me_nest U) (hE : psE tb a po ta NN len t M9) (hW : wf g S B L P) (hT : g 2 = nI T) (hT0 : T ≤ 9999) (hp : pvP len ps) : Met l yX3_permitLine (.code yX3_permitLine cX3_permitLine 4 none :: ws_all) ({ frames := 4, cells := 0, slots := 0, locals := 87 } : Room) (me_Pc [.ref po] D tb X z0 (sp tb a g (me_up M9 po (.inr (3, ps_fs ta len a ps)))) n) (me_Qv D z0 (pmM tb a po ta len M9 (pmL t len (g, S, B, L, P, ps))) n) 0 0 (me_A z0) := by
  refine me_open (by decide) (Nat.le_of_ble_eq_true rfl) ?_
  intro p e s m args below meth c ls hC hr hlk hnm hM hl
  have hl : lv_has ls 4 [(0, .ref po)] := hl
  have hx := hC.1
  have hb := hC.2.1
  have hw := hC.2.2.2.2.1
  obtain ⟨hS, hS0, hB, hB0, hL, hL0, hP, hP0, hwb, hwl⟩ := id hW
  obtain ⟨e1, e2, e3, e4, e5, e6⟩ := id hE
  obtain ⟨p1, p2, p3, p4⟩ := id hp
  have hx0 : okP len (g, S, B, L, P, ps) := okP_mk hW ⟨T, hT, hT0⟩ hp
  have h0 := pv_pm0 hx0
  have h3 := pv_pm3 (t := t) hx0
  have h4 := pv_pm4 (t := t) hx0
  obtain ⟨-, -, -, k3⟩ := id h3
  obtain ⟨-, -, -, k4⟩ := id h4
  refine lv_aload_n hx hb dX3_permitLine_0 rfl (lv_at hl 0 rfl) ?_
  refine fg_X3_34 hC hM ((sp_out (by omega)).trans (me_up_s _ _ _)) rfl dX3_permitLine_1 ?_
  refine fg_X3_124 hC hM (sp_st _ _ _ _) rfl dX3_permitLine_4 ?_
  refine lv_bipush (v := 10) hx hb dX3_permitLine_7 (by decide) ?_
  refine lv_icmp_ne (tgt := 17) hx hb dX3_permitLine_9 (by decide) (fun c_1 => ?_) (fun c_1 => ?_)
  · have c_1 := (not_congr (br_eq hP (nx_c 10) (by omega) (by omega))).mp c_1
    have hM := hM.eq (ps_eq (q' := pm0 (g, S, B, L, P, ps)) (fc_f c_1).symm)
    refine lv_aload_n hx hb dX3_permitLine_17 rfl (lv_at hl 0 rfl) ?_
    refine me_callVi (As := []) (rest := []) hC hl.1 hM (c_X3_knownStreet l D tb X z0 n kK kV a po ta NN len g t M9 (pm0 (g, S, B, L, P, ps)) S hN hE hS hS0 h0) (kv_X3_117 hw rfl rfl ⟨Nat.le_of_ble_eq_true rfl, Nat.le_of_ble_eq_true rfl⟩) rfl rfl ((sp_out (by omega)).trans (me_up_s _ _ _)) rfl (Nat.le_of_ble_eq_true rfl) dX3_permitLine_18 ⟨Nat.le_of_ble_eq_true rfl, Nat.le_of_ble_eq_true rfl⟩ (fun H locs hM => ?_)
    refine lv_istore_n (lv' := [(1, .int (ksV t len g S (pm0 (g, S, B, L, P, ps)))), (0, .ref po)]) hx hb dX3_permitLine_21 rfl hl (by decide) rfl (fun ls hl => ?_)
    refine lv_aload_n hx hb dX3_permitLine_22 rfl (lv_at hl 1 rfl) ?_
    refine lv_aload_n hx hb dX3_permitLine_23 rfl (lv_at hl 1 rfl) ?_
    refine fg_X3_34 hC hM ((sp_out (by omega)).trans (me_up_s _ _ _)) rfl dX3_permitLine_24 ?_
    refine fg_X3_127 hC hM (sp_st _ _ _ _) rfl dX3_permitLine_27 ?_
    refine lv_aload_n hx hb dX3_permitLine_30 rfl (lv_at hl 1 rfl) ?_
    refine fg_X3_34 hC hM ((sp_out (by omega)).trans (me_up_s _ _ _)) rfl dX3_permitLine_31 ?_
    refine fg_X3_127 hC hM (sp_st _ _ _ _) rfl dX3_permitLine_34 ?_
    refine lv_bipush (v := 48) hx hb dX3_permitLine_37 (by decide) ?_
    refine lv_iadd hx hb dX3_permitLine_39 ?_
    refine lv_iconst (v := 1) hx hb dX3_permitLine_40 (by decide) ?_
    refine lv_isub hx hb dX3_permitLine_41 ?_
    refine me_callVi (As := [.int (g 2), .int (((g 2) + 48) - 1)]) (rest := []) hC hl.1 hM (c_X3_number l D tb X z0 n kK kV a po ta NN len g t M9 (ks1 t len g S (pm0 (g, S, B, L, P, ps))) (g 2) (((g 2) + 48) - 1) hE (pv_ks (t := t) h0)) (kv_X3_51 hw rfl rfl ⟨Nat.le_of_ble_eq_true rfl, Nat.le_of_ble_eq_true rfl⟩) rfl rfl ((sp_out (by omega)).trans (me_up_s _ _ _)) rfl (Nat.le_of_ble_eq_true rfl) dX3_permitLine_42 ⟨Nat.le_of_ble_eq_true rfl, Nat.le_of_ble_eq_true rfl⟩ (fun H locs hM => ?_)
    refine lv_istore_n (lv' := [(2, .int (nuV t len (g 2) (((g 2) + 48) - 1) (ks1 t len g S (pm0 (g, S, B, L, P, ps))))), (1, .int (ksV t len g S (pm0 (g, S, B, L, P, ps)))), (0, .ref po)]) hx hb dX3_permitLine_45 rfl hl (by decide) rfl (fun ls hl => ?_)
    refine lv_aload_n hx hb dX3_permitLine_46 rfl (lv_at hl 2 rfl) ?_
    refine lv_iconst (v := 1) hx hb dX3_permitLine_47 (by decide) ?_
    refine lv_bipush (v := 12) hx hb dX3_permitLine_48 (by decide) ?_
    refine lv_aload_n hx hb dX3_permitLine_50 rfl (lv_at hl 2 rfl) ?_
    refine fg_X3_34 hC hM ((sp_out (by omega)).trans (me_up_s _ _ _)) rfl dX3_permitLine_51 ?_
    refine fg_X3_127 hC hM (sp_st _ _ _ _) rfl dX3_permitLine_54 ?_
    refine lv_bipush (v := 48) hx hb dX3_permitLine_57 (by decide) ?_
    refine lv_iadd hx hb dX3_permitLine_59 ?_
    refine lv_iload_n hx hb dX3_permitLine_60 rfl (lv_at hl 0 rfl) ?_
    refine lv_isub hx hb dX3_permitLine_61 ?_
    refine va_mmin hx hb (hC.2.2.1.trans hl.1.symm) hC.2.2.2.1 (hw _ w_403) (hw _ w_404) (hw _ w_13) (hw _ w_405) (Nat.le_of_ble_eq_true rfl) (Nat.le_of_ble_eq_true rfl) (by first | omega | exact Nat.le_of_ble_eq_true rfl) (by first | omega | exact Nat.le_of_ble_eq_true rfl) dX3_permitLine_62 ?_
    refine me_callVi (As := [.int 1, .int (if ((g 2) + 48) - (nuV t len (g 2) (((g 2) + 48) - 1) (ks1 t len g S (pm0 (g, S, B, L, P, ps)))) < 12 then ((g 2) + 48) - (nuV t len (g 2) (((g 2) + 48) - 1) (ks1 t len g S (pm0 (g, S, B, L, P, ps)))) else 12)]) (rest := []) hC hl.1 hM (c_X3_number l D tb X z0 n kK kV a po ta NN len g t M9 (nuP t len (g 2) (((g 2) + 48) - 1) (ks1 t len g S (pm0 (g, S, B, L, P, ps)))) 1 (if ((g 2) + 48) - (nuV t len (g 2) (((g 2) + 48) - 1) (ks1 t len g S (pm0 (g, S, B, L, P, ps)))) < 12 then ((g 2) + 48) - (nuV t len (g 2) (((g 2) + 48) - 1) (ks1 t len g S (pm0 (g, S, B, L, P, ps)))) else 12) hE (pv_nu (t := t) (a := g 2) (b := ((g 2) + 48) - 1) (pv_ks (t := t) h0))) (kv_X3_51 hw rfl rfl ⟨Nat.le_of_ble_eq_true rfl, Nat.le_of_ble_eq_true rfl⟩) rfl rfl ((sp_out (by omega)).trans (me_up_s _ _ _)) rfl (Nat.le_of_ble_eq_true rfl) dX3_permitLine_65 ⟨Nat.le_of_ble_eq_true rfl, Nat.le_of_ble_eq_true rfl⟩ (fun H locs hM => ?_)
    refine lv_istore_n (lv' := [(3, .int (nuV t len 1 (if ((g 2) + 48) - (nuV t len (g 2) (((g 2) + 48) - 1) (ks1 t len g S (pm0 (g, S, B, L, P, ps)))) < 12 then ((g 2) + 48) - (nuV t len (g 2) (((g 2) + 48) - 1) (ks1 t len g S (pm0 (g, S, B, L, P, ps)))) else 12) (nuP t len (g 2) (((g 2) + 48) - 1) (ks1 t len g S (pm0 (g, S, B, L, P, ps)))))), (2, .int (nuV t len (g 2) (((g 2) + 48) - 1) (ks1 t len g S (pm0 (g, S, B, L, P, ps))))), (1, .int (ksV t len g S (pm0 (g, S, B, L, P, ps)))), (0, .ref po)]) hx hb dX3_permitLine_68 rfl hl (by decide) rfl (fun ls hl => ?_)
    have hM := hM.eq (ps_eq (q' := pm3 t len (g, S, B, L, P, ps)) rfl)
    refine lv_aload_n hx hb dX3_permitLine_69 rfl (lv_at hl 3 rfl) ?_
    refine fg_X3_21 hC hM ((sp_out (by omega)).trans (me_up_s _ _ _)) rfl dX3_permitLine_70 ?_
    refine lv_if_ne (tgt := 95) hx hb dX3_permitLine_73 (by decide) (fun c_2 => ?_) (fun c_2 => ?_)
    · have c_2 := (not_congr (br_eq rfl (show (0 : Int32) = nI 0 from rfl) (by omega) (by omega))).mp c_2
      have hM := hM.eq (ps_eq (q' := pm4 t len (g, S, B, L, P, ps)) (fc_f (fun z => c_2 z.1)).symm)
      refine lv_aload_n hx hb dX3_permitLine_95 rfl (lv_at hl 3 rfl) ?_
      refine fg_X3_21 hC hM ((sp_out (by omega)).trans (me_up_s _ _ _)) rfl dX3_permitLine_96 ?_
      refine lv_if_ne (tgt := 113) hx hb dX3_permitLine_99 (by decide) (fun c_3 => ?_) (fun c_3 => ?_)
      · have c_3 := (not_congr (br_eq rfl (show (0 : Int32) = nI 0 from rfl) (by omega) (by omega))).mp c_3
        exact me_vret hC hr hlk hM (pm_e (pmL_0 c_3)) (rfl) dX3_permitLine_113
      · have c_3 := (br_eq rfl (show (0 : Int32) = nI 0 from rfl) (by omega) (by omega)).mp c_3
        have z9 : ¬ P = 10 := (zk_pm c_3).1
        refine lv_aload_n hx hb dX3_permitLine_102 rfl (lv_at hl 3 rfl) ?_
        refine fg_X3_34 hC hM ((sp_out (by omega)).trans (me_up_s _ _ _)) rfl dX3_permitLine_103 ?_
        refine lv_iload_n hx hb dX3_permitLine_106 rfl (lv_at hl 2 rfl) ?_
        refine lv_iload_n hx hb dX3_permitLine_107 rfl (lv_at hl 1 rfl) ?_
        refine lv_iload_n hx hb dX3_permitLine_108 rfl (lv_at hl 0 rfl) ?_
        refine me_callVi (As := [.int (ksV t len g S (pm0 (g, S, B, L, P, ps))), .int (nuV t len (g 2) (((g 2) + 48) - 1) (ks1 t len g S (pm0 (g, S, B, L, P, ps)))), .int (nuV t len 1 (if ((g 2) + 48) - (nuV t len (g 2) (((g 2) + 48) - 1) (ks1 t len g S (pm0 (g, S, B, L, P, ps)))) < 12 then ((g 2) + 48) - (nuV t len (g 2) (((g 2) + 48) - 1) (ks1 t len g S (pm0 (g, S, B, L, P, ps)))) else 12) (nuP t len (g 2) (((g 2) + 48) - 1) (ks1 t len g S (pm0 (g, S, B, L, P, ps)))))]) (rest := []) hC hl.1 hM (c_X5_addPermit l D tb X z0 n a g (me_up M9 po (.inr (3, ps_fs ta len a (pm4 t len (g, S, B, L, P, ps))))) S B L P (ksV t len g S (pm0 (g, S, B, L, P, ps))) (nuV t len (g 2) (((g 2) + 48) - 1) (ks1 t len g S (pm0 (g, S, B, L, P, ps)))) (nuV t len 1 (if ((g 2) + 48) - (nuV t len (g 2) (((g 2) + 48) - 1) (ks1 t len g S (pm0 (g, S, B, L, P, ps)))) < 12 then ((g 2) + 48) - (nuV t len (g 2) (((g 2) + 48) - 1) (ks1 t len g S (pm0 (g, S, B, L, P, ps)))) else 12) (nuP t len (g 2) (((g 2) + 48) - 1) (ks1 t len g S (pm0 (g, S, B, L, P, ps))))) hW (by omega)) (kv_X3_139 hw rfl rfl ⟨Nat.le_of_ble_eq_true rfl, Nat.le_of_ble_eq_true rfl⟩) rfl rfl (sp_st _ _ _ _) rfl (Nat.le_of_ble_eq_true rfl) dX3_permitLine_109 ⟨Nat.le_of_ble_eq_true rfl, Nat.le_of_ble_eq_true rfl⟩ (fun H locs hM => ?_)
        refine lv_pop hx hb dX3_permitLine_112 rfl ?_
        exact me_vret hC hr hlk hM (pm_e (pmL_1 c_3)) (rfl) dX3_permitLine_113
    · have c_2 := (br_eq rfl (show (0 : Int32) = nI 0 from rfl) (by omega) (by omega)).mp c_2
      refine lv_aload_n hx hb dX3_permitLine_76 rfl (lv_at hl 3 rfl) ?_
      refine fg_X3_34 hC hM ((sp_out (by omega)).trans (me_up_s _ _ _)) rfl dX3_permitLine_77 ?_
      refine lv_iload_n hx hb dX3_permitLine_80 rfl (lv_at hl 2 rfl) ?_
      refine lv_iload_n hx hb dX3_permitLine_81 rfl (lv_at hl 1 rfl) ?_
      refine lv_iload_n hx hb dX3_permitLine_82 rfl (lv_at hl 0 rfl) ?_
      refine me_callVi (As := [.int (ksV t len g S (pm0 (g, S, B, L, P, ps))), .int (nuV t len (g 2) (((g 2) + 48) - 1) (ks1 t len g S (pm0 (g, S, B, L, P, ps)))), .int (nuV t len 1 (if ((g 2) + 48) - (nuV t len (g 2) (((g 2) + 48) - 1) (ks1 t len g S (pm0 (g, S, B, L, P, ps)))) < 12 then ((g 2) + 48) - (nuV t len (g 2) (((g 2) + 48) - 1) (ks1 t len g S (pm0 (g, S, B, L, P, ps)))) else 12) (nuP t len (g 2) (((g 2) + 48) - 1) (ks1 t len g S (pm0 (g, S, B, L, P, ps)))))]) (rest := []) hC hl.1 hM (c_X5_canPermit l D tb X z0 n a g (me_up M9 po (.inr (3, ps_fs ta len a (pm3 t len (g, S, B, L, P, ps))))) S B L P (ksV t len g S (pm0 (g, S, B, L, P, ps))) (nuV t len (g 2) (((g 2) + 48) - 1) (ks1 t len g S (pm0 (g, S, B, L, P, ps)))) (nuV t len 1 (if ((g 2) + 48) - (nuV t len (g 2) (((g 2) + 48) - 1) (ks1 t len g S (pm0 (g, S, B, L, P, ps)))) < 12 then ((g 2) + 48) - (nuV t len (g 2) (((g 2) + 48) - 1) (ks1 t len g S (pm0 (g, S, B, L, P, ps)))) else 12) (nuP t len (g 2) (((g 2) + 48) - 1) (ks1 t len g S (pm0 (g, S, B, L, P, ps))))) hW ) (kv_X3_135 hw rfl rfl ⟨Nat.le_of_ble_eq_true rfl, Nat.le_of_ble_eq_true rfl⟩) rfl rfl (sp_st _ _ _ _) rfl (Nat.le_of_ble_eq_true rfl) dX3_permitLine_83 ⟨Nat.le_of_ble_eq_true rfl, Nat.le_of_ble_eq_true rfl⟩ (fun H locs hM => ?_)
      refine lv_if_ne (tgt := 95) hx hb dX3_permitLine_86 (by decide) (fun c_4 => ?_) (fun c_4 => ?_)
      · have c_4 := b1_n0.mp c_4
        have hM := hM.eq (ps_eq (q' := pm4 t len (g, S, B, L, P, ps)) (fc_f (fun z => z.2 c_4)).symm)
        refine lv_aload_n hx hb dX3_permitLine_95 rfl (lv_at hl 3 rfl) ?_
        refine fg_X3_21 hC hM ((sp_out (by omega)).trans (me_up_s _ _ _)) rfl dX3_permitLine_96 ?_
        refine lv_if_ne (tgt := 113) hx hb dX3_permitLine_99 (by decide) (fun c_5 => ?_) (fun c_5 => ?_)
        · have c_5 := (not_congr (br_eq rfl (show (0 : Int32) = nI 0 from rfl) (by omega) (by omega))).mp c_5
          exact me_vret hC hr hlk hM (pm_e (pmL_0 c_5)) (rfl) dX3_permitLine_113
        · have c_5 := (br_eq rfl (show (0 : Int32) = nI 0 from rfl) (by omega) (by omega)).mp c_5
          have z9 : ¬ P = 10 := (zk_pm c_5).1
          refine lv_aload_n hx hb dX3_permitLine_102 rfl (lv_at hl 3 rfl) ?_
          refine fg_X3_34 hC hM ((sp_out (by omega)).trans (me_up_s _ _ _)) rfl dX3_permitLine_103 ?_
          refine lv_iload_n hx hb dX3_permitLine_106 rfl (lv_at hl 2 rfl) ?_
          refine lv_iload_n hx hb dX3_permitLine_107 rfl (lv_at hl 1 rfl) ?_
          refine lv_iload_n hx hb dX3_permitLine_108 rfl (lv_at hl 0 rfl) ?_
          refine me_callVi (As := [.int (ksV t len g S (pm0 (g, S, B, L, P, ps))), .int (nuV t len (g 2) (((g 2) + 48) - 1) (ks1 t len g S (pm0 (g, S, B, L, P, ps)))), .int (nuV t len 1 (if ((g 2) + 48) - (nuV t len (g 2) (((g 2) + 48) - 1) (ks1 t len g S (pm0 (g, S, B, L, P, ps)))) < 12 then ((g 2) + 48) - (nuV t len (g 2) (((g 2) + 48) - 1) (ks1 t len g S (pm0 (g, S, B, L, P, ps)))) else 12) (nuP t len (g 2) (((g 2) + 48) - 1) (ks1 t len g S (pm0 (g, S, B, L, P, ps)))))]) (rest := []) hC hl.1 hM (c_X5_addPermit l D tb X z0 n a g (me_up M9 po (.inr (3, ps_fs ta len a (pm4 t len (g, S, B, L, P, ps))))) S B L P (ksV t len g S (pm0 (g, S, B, L, P, ps))) (nuV t len (g 2) (((g 2) + 48) - 1) (ks1 t len g S (pm0 (g, S, B, L, P, ps)))) (nuV t len 1 (if ((g 2) + 48) - (nuV t len (g 2) (((g 2) + 48) - 1) (ks1 t len g S (pm0 (g, S, B, L, P, ps)))) < 12 then ((g 2) + 48) - (nuV t len (g 2) (((g 2) + 48) - 1) (ks1 t len g S (pm0 (g, S, B, L, P, ps)))) else 12) (nuP t len (g 2) (((g 2) + 48) - 1) (ks1 t len g S (pm0 (g, S, B, L, P, ps))))) hW (by omega)) (kv_X3_139 hw rfl rfl ⟨Nat.le_of_ble_eq_true rfl, Nat.le_of_ble_eq_true rfl⟩) rfl rfl (sp_st _ _ _ _) rfl (Nat.le_of_ble_eq_true rfl) dX3_permitLine_109 ⟨Nat.le_of_ble_eq_true rfl, Nat.le_of_ble_eq_true rfl⟩ (fun H locs hM => ?_)
          refine lv_pop hx hb dX3_permitLine_112 rfl ?_
          exact me_vret hC hr hlk hM (pm_e (pmL_1 c_5)) (rfl) dX3_permitLine_113
      · have c_4 := b1_0.mp c_4
        refine lv_aload_n hx hb dX3_permitLine_89 rfl (lv_at hl 3 rfl) ?_
        refine lv_bipush (v := 6) hx hb dX3_permitLine_90 (by decide) ?_
        refine me_callVv (As := [.int 6]) (rest := []) hC hl.1 hM (c_X3_fail l D tb X z0 n kK kV a po ta NN len g t M9 (pm3 t len (g, S, B, L, P, ps)) 6 hE h3) (kv_X3_47 hw rfl rfl ⟨Nat.le_of_ble_eq_true rfl, Nat.le_of_ble_eq_true rfl⟩) rfl rfl ((sp_out (by omega)).trans (me_up_s _ _ _)) rfl (Nat.le_of_ble_eq_true rfl) dX3_permitLine_92 ⟨Nat.le_of_ble_eq_true rfl, Nat.le_of_ble_eq_true rfl⟩ (fun H locs hM => ?_)
        have hM := hM.eq (ps_eq (q' := pm4 t len (g, S, B, L, P, ps)) (fc_t ⟨c_2, c_4⟩).symm)
        refine lv_aload_n hx hb dX3_permitLine_95 rfl (lv_at hl 3 rfl) ?_
        refine fg_X3_21 hC hM ((sp_out (by omega)).trans (me_up_s _ _ _)) rfl dX3_permitLine_96 ?_
        refine lv_if_ne (tgt := 113) hx hb dX3_permitLine_99 (by decide) (fun c_6 => ?_) (fun c_6 => ?_)
        · have c_6 := (not_congr (br_eq rfl (show (0 : Int32) = nI 0 from rfl) (by omega) (by omega))).mp c_6
          exact me_vret hC hr hlk hM (pm_e (pmL_0 c_6)) (rfl) dX3_permitLine_113
        · have c_6 := (br_eq rfl (show (0 : Int32) = nI 0 from rfl) (by omega) (by omega)).mp c_6
          have z9 : ¬ P = 10 := (zk_pm c_6).1
          refine lv_aload_n hx hb dX3_permitLine_102 rfl (lv_at hl 3 rfl) ?_
          refine fg_X3_34 hC hM ((sp_out (by omega)).trans (me_up_s _ _ _)) rfl dX3_permitLine_103 ?_
          refine lv_iload_n hx hb dX3_permitLine_106 rfl (lv_at hl 2 rfl) ?_
          refine lv_iload_n hx hb dX3_permitLine_107 rfl (lv_at hl 1 rfl) ?_
          refine lv_iload_n hx hb dX3_permitLine_108 rfl (lv_at hl 0 rfl) ?_
          refine me_callVi (As := [.int (ksV t len g S (pm0 (g, S, B, L, P, ps))), .int (nuV t len (g 2) (((g 2) + 48) - 1) (ks1 t len g S (pm0 (g, S, B, L, P, ps)))), .int (nuV t len 1 (if ((g 2) + 48) - (nuV t len (g 2) (((g 2) + 48) - 1) (ks1 t len g S (pm0 (g, S, B, L, P, ps)))) < 12 then ((g 2) + 48) - (nuV t len (g 2) (((g 2) + 48) - 1) (ks1 t len g S (pm0 (g, S, B, L, P, ps)))) else 12) (nuP t len (g 2) (((g 2) + 48) - 1) (ks1 t len g S (pm0 (g, S, B, L, P, ps)))))]) (rest := []) hC hl.1 hM (c_X5_addPermit l D tb X z0 n a g (me_up M9 po (.inr (3, ps_fs ta len a (pm4 t len (g, S, B, L, P, ps))))) S B L P (ksV t len g S (pm0 (g, S, B, L, P, ps))) (nuV t len (g 2) (((g 2) + 48) - 1) (ks1 t len g S (pm0 (g, S, B, L, P, ps)))) (nuV t len 1 (if ((g 2) + 48) - (nuV t len (g 2) (((g 2) + 48) - 1) (ks1 t len g S (pm0 (g, S, B, L, P, ps)))) < 12 then ((g 2) + 48) - (nuV t len (g 2) (((g 2) + 48) - 1) (ks1 t len g S (pm0 (g, S, B, L, P, ps)))) else 12) (nuP t len (g 2) (((g 2) + 48) - 1) (ks1 t len g S (pm0 (g, S, B, L, P, ps))))) hW (by omega)) (kv_X3_139 hw rfl rfl ⟨Nat.le_of_ble_eq_true rfl, Nat.le_of_ble_eq_true rfl⟩) rfl rfl (sp_st _ _ _ _) rfl (Nat.le_of_ble_eq_true rfl) dX3_permitLine_109 ⟨Nat.le_of_ble_eq_true rfl, Nat.le_of_ble_eq_true rfl⟩ (fun H locs hM => ?_)
          refine lv_pop hx hb dX3_permitLine_112 rfl ?_
          exact me_vret hC hr hlk hM (pm_e (pmL_1 c_6)) (rfl) dX3_permitLine_113
  · have c_1 := (br_eq hP (nx_c 10) (by omega) (by omega)).mp c_1
    refine lv_aload_n hx hb dX3_permitLine_12 rfl (lv_at hl 0 rfl) ?_
    refine lv_iconst (v := 5) hx hb dX3_permitLine_13 (by decide) ?_
    refine me_callVv (As := [.int 5]) (rest := []) hC hl.1 hM (c_X3_fail l D tb X z0 n kK kV a po ta NN len g t M9 ps 5 hE hp) (kv_X3_47 hw rfl rfl ⟨Nat.le_of_ble_eq_true rfl, Nat.le_of_ble_eq_true rfl⟩) rfl rfl ((sp_out (by omega)).trans (me_up_s _ _ _)) rfl (Nat.le_of_ble_eq_true rfl) dX3_permitLine_14 ⟨Nat.le_of_ble_eq_true rfl, Nat.le_of_ble_eq_true rfl⟩ (fun H locs hM => ?_)
    have hM := hM.eq (ps_eq (q' := pm0 (g, S, B, L, P, ps)) (fc_t c_1).symm)
    refine lv_aload_n hx hb dX3_permitLine_17 rfl (lv_at hl 0 rfl) ?_
    refine me_callVi (As := []) (rest := []) hC hl.1 hM (c_X3_knownStreet l D tb X z0 n kK kV a po ta NN len g t M9 (pm0 (g, S, B, L, P, ps)) S hN hE hS hS0 h0) (kv_X3_117 hw rfl rfl ⟨Nat.le_of_ble_eq_true rfl, Nat.le_of_ble_eq_true rfl⟩) rfl rfl ((sp_out (by omega)).trans (me_up_s _ _ _)) rfl (Nat.le_of_ble_eq_true rfl) dX3_permitLine_18 ⟨Nat.le_of_ble_eq_true rfl, Nat.le_of_ble_eq_true rfl⟩ (fun H locs hM => ?_)
    refine lv_istore_n (lv' := [(1, .int (ksV t len g S (pm0 (g, S, B, L, P, ps)))), (0, .ref po)]) hx hb dX3_permitLine_21 rfl hl (by decide) rfl (fun ls hl => ?_)
    refine lv_aload_n hx hb dX3_permitLine_22 rfl (lv_at hl 1 rfl) ?_
    refine lv_aload_n hx hb dX3_permitLine_23 rfl (lv_at hl 1 rfl) ?_
    refine fg_X3_34 hC hM ((sp_out (by omega)).trans (me_up_s _ _ _)) rfl dX3_permitLine_24 ?_
    refine fg_X3_127 hC hM (sp_st _ _ _ _) rfl dX3_permitLine_27 ?_
    refine lv_aload_n hx hb dX3_permitLine_30 rfl (lv_at hl 1 rfl) ?_
    refine fg_X3_34 hC hM ((sp_out (by omega)).trans (me_up_s _ _ _)) rfl dX3_permitLine_31 ?_
    refine fg_X3_127 hC hM (sp_st _ _ _ _) rfl dX3_permitLine_34 ?_
    refine lv_bipush (v := 48) hx hb dX3_permitLine_37 (by decide) ?_
    refine lv_iadd hx hb dX3_permitLine_39 ?_
    refine lv_iconst (v := 1) hx hb dX3_permitLine_40 (by decide) ?_
    refine lv_isub hx hb dX3_permitLine_41 ?_
    refine me_callVi (As := [.int (g 2), .int (((g 2) + 48) - 1)]) (rest := []) hC hl.1 hM (c_X3_number l D tb X z0 n kK kV a po ta NN len g t M9 (ks1 t len g S (pm0 (g, S, B, L, P, ps))) (g 2) (((g 2) + 48) - 1) hE (pv_ks (t := t) h0)) (kv_X3_51 hw rfl rfl ⟨Nat.le_of_ble_eq_true rfl, Nat.le_of_ble_eq_true rfl⟩) rfl rfl ((sp_out (by omega)).trans (me_up_s _ _ _)) rfl (Nat.le_of_ble_eq_true rfl) dX3_permitLine_42 ⟨Nat.le_of_ble_eq_true rfl, Nat.le_of_ble_eq_true rfl⟩ (fun H locs hM => ?_)
    refine lv_istore_n (lv' := [(2, .int (nuV t len (g 2) (((g 2) + 48) - 1) (ks1 t len g S (pm0 (g, S, B, L, P, ps))))), (1, .int (ksV t len g S (pm0 (g, S, B, L, P, ps)))), (0, .ref po)]) hx hb dX3_permitLine_45 rfl hl (by decide) rfl (fun ls hl => ?_)
    refine lv_aload_n hx hb dX3_permitLine_46 rfl (lv_at hl 2 rfl) ?_
    refine lv_iconst (v := 1) hx hb dX3_permitLine_47 (by decide) ?_
    refine lv_bipush (v := 12) hx hb dX3_permitLine_48 (by decide) ?_
    refine lv_aload_n hx hb dX3_permitLine_50 rfl (lv_at hl 2 rfl) ?_
    refine fg_X3_34 hC hM ((sp_out (by omega)).trans (me_up_s _ _ _)) rfl dX3_permitLine_51 ?_
    refine fg_X3_127 hC hM (sp_st _ _ _ _) rfl dX3_permitLine_54 ?_
    refine lv_bipush (v := 48) hx hb dX3_permitLine_57 (by decide) ?_
    refine lv_iadd hx hb dX3_permitLine_59 ?_
    refine lv_iload_n hx hb dX3_permitLine_60 rfl (lv_at hl 0 rfl) ?_
    refine lv_isub hx hb dX3_permitLine_61 ?_
    refine va_mmin hx hb (hC.2.2.1.trans hl.1.symm) hC.2.2.2.1 (hw _ w_403) (hw _ w_404) (hw _ w_13) (hw _ w_405) (Nat.le_of_ble_eq_true rfl) (Nat.le_of_ble_eq_true rfl) (by first | omega | exact Nat.le_of_ble_eq_true rfl) (by first | omega | exact Nat.le_of_ble_eq_true rfl) dX3_permitLine_62 ?_
    refine me_callVi (As := [.int 1, .int (if ((g 2) + 48) - (nuV t len (g 2) (((g 2) + 48) - 1) (ks1 t len g S (pm0 (g, S, B, L, P, ps)))) < 12 then ((g 2) + 48) - (nuV t len (g 2) (((g 2) + 48) - 1) (ks1 t len g S (pm0 (g, S, B, L, P, ps)))) else 12)]) (rest := []) hC hl.1 hM (c_X3_number l D tb X z0 n kK kV a po ta NN len g t M9 (nuP t len (g 2) (((g 2) + 48) - 1) (ks1 t len g S (pm0 (g, S, B, L, P, ps)))) 1 (if ((g 2) + 48) - (nuV t len (g 2) (((g 2) + 48) - 1) (ks1 t len g S (pm0 (g, S, B, L, P, ps)))) < 12 then ((g 2) + 48) - (nuV t len (g 2) (((g 2) + 48) - 1) (ks1 t len g S (pm0 (g, S, B, L, P, ps)))) else 12) hE (pv_nu (t := t) (a := g 2) (b := ((g 2) + 48) - 1) (pv_ks (t := t) h0))) (kv_X3_51 hw rfl rfl ⟨Nat.le_of_ble_eq_true rfl, Nat.le_of_ble_eq_true rfl⟩) rfl rfl ((sp_out (by omega)).trans (me_up_s _ _ _)) rfl (Nat.le_of_ble_eq_true rfl) dX3_permitLine_65 ⟨Nat.le_of_ble_eq_true rfl, Nat.le_of_ble_eq_true rfl⟩ (fun H locs hM => ?_)
    refine lv_istore_n (lv' := [(3, .int (nuV t len 1 (if ((g 2) + 48) - (nuV t len (g 2) (((g 2) + 48) - 1) (ks1 t len g S (pm0 (g, S, B, L, P, ps)))) < 12 then ((g 2) + 48) - (nuV t len (g 2) (((g 2) + 48) - 1) (ks1 t len g S (pm0 (g, S, B, L, P, ps)))) else 12) (nuP t len (g 2) (((g 2) + 48) - 1) (ks1 t len g S (pm0 (g, S, B, L, P, ps)))))), (2, .int (nuV t len (g 2) (((g 2) + 48) - 1) (ks1 t len g S (pm0 (g, S, B, L, P, ps))))), (1, .int (ksV t len g S (pm0 (g, S, B, L, P, ps)))), (0, .ref po)]) hx hb dX3_permitLine_68 rfl hl (by decide) rfl (fun ls hl => ?_)
    have hM := hM.eq (ps_eq (q' := pm3 t len (g, S, B, L, P, ps)) rfl)
    refine lv_aload_n hx hb dX3_permitLine_69 rfl (lv_at hl 3 rfl) ?_
    refine fg_X3_21 hC hM ((sp_out (by omega)).trans (me_up_s _ _ _)) rfl dX3_permitLine_70 ?_
    refine lv_if_ne (tgt := 95) hx hb dX3_permitLine_73 (by decide) (fun c_7 => ?_) (fun c_7 => ?_)
    · have c_7 := (not_congr (br_eq rfl (show (0 : Int32) = nI 0 from rfl) (by omega) (by omega))).mp c_7
      have hM := hM.eq (ps_eq (q' := pm4 t len (g, S, B, L, P, ps)) (fc_f (fun z => c_7 z.1)).symm)
      refine lv_aload_n hx hb dX3_permitLine_95 rfl (lv_at hl 3 rfl) ?_
      refine fg_X3_21 hC hM ((sp_out (by omega)).trans (me_up_s _ _ _)) rfl dX3_permitLine_96 ?_
      refine lv_if_ne (tgt := 113) hx hb dX3_permitLine_99 (by decide) (fun c_8 => ?_) (fun c_8 => ?_)
      · have c_8 := (not_congr (br_eq rfl (show (0 : Int32) = nI 0 from rfl) (by omega) (by omega))).mp c_8
        exact me_vret hC hr hlk hM (pm_e (pmL_0 c_8)) (rfl) dX3_permitLine_113
      · have c_8 := (br_eq rfl (show (0 : Int32) = nI 0 from rfl) (by omega) (by omega)).mp c_8
        have z9 : ¬ P = 10 := (zk_pm c_8).1
        refine lv_aload_n hx hb dX3_permitLine_102 rfl (lv_at hl 3 rfl) ?_
        refine fg_X3_34 hC hM ((sp_out (by omega)).trans (me_up_s _ _ _)) rfl dX3_permitLine_103 ?_
        refine lv_iload_n hx hb dX3_permitLine_106 rfl (lv_at hl 2 rfl) ?_
        refine lv_iload_n hx hb dX3_permitLine_107 rfl (lv_at hl 1 rfl) ?_
        refine lv_iload_n hx hb dX3_permitLine_108 rfl (lv_at hl 0 rfl) ?_
        refine me_callVi (As := [.int (ksV t len g S (pm0 (g, S, B, L, P, ps))), .int (nuV t len (g 2) (((g 2) + 48) - 1) (ks1 t len g S (pm0 (g, S, B, L, P, ps)))), .int (nuV t len 1 (if ((g 2) + 48) - (nuV t len (g 2) (((g 2) + 48) - 1) (ks1 t len g S (pm0 (g, S, B, L, P, ps)))) < 12 then ((g 2) + 48) - (nuV t len (g 2) (((g 2) + 48) - 1) (ks1 t len g S (pm0 (g, S, B, L, P, ps)))) else 12) (nuP t len (g 2) (((g 2) + 48) - 1) (ks1 t len g S (pm0 (g, S, B, L, P, ps)))))]) (rest := []) hC hl.1 hM (c_X5_addPermit l D tb X z0 n a g (me_up M9 po (.inr (3, ps_fs ta len a (pm4 t len (g, S, B, L, P, ps))))) S B L P (ksV t len g S (pm0 (g, S, B, L, P, ps))) (nuV t len (g 2) (((g 2) + 48) - 1) (ks1 t len g S (pm0 (g, S, B, L, P, ps)))) (nuV t len 1 (if ((g 2) + 48) - (nuV t len (g 2) (((g 2) + 48) - 1) (ks1 t len g S (pm0 (g, S, B, L, P, ps)))) < 12 then ((g 2) + 48) - (nuV t len (g 2) (((g 2) + 48) - 1) (ks1 t len g S (pm0 (g, S, B, L, P, ps)))) else 12) (nuP t len (g 2) (((g 2) + 48) - 1) (ks1 t len g S (pm0 (g, S, B, L, P, ps))))) hW (by omega)) (kv_X3_139 hw rfl rfl ⟨Nat.le_of_ble_eq_true rfl, Nat.le_of_ble_eq_true rfl⟩) rfl rfl (sp_st _ _ _ _) rfl (Nat.le_of_ble_eq_true rfl) dX3_permitLine_109 ⟨Nat.le_of_ble_eq_true rfl, Nat.le_of_ble_eq_true rfl⟩ (fun H locs hM => ?_)
        refine lv_pop hx hb dX3_permitLine_112 rfl ?_
        exact me_vret hC hr hlk hM (pm_e (pmL_1 c_8)) (rfl) dX3_permitLine_113
    · have c_7 := (br_eq rfl (show (0 : Int32) = nI 0 from rfl) (by omega) (by omega)).mp c_7
      refine lv_aload_n hx hb dX3_permitLine_76 rfl (lv_at hl 3 rfl) ?_
      refine fg_X3_34 hC hM ((sp_out (by omega)).trans (me_up_s _ _ _)) rfl dX3_permitLine_77 ?_
      refine lv_iload_n hx hb dX3_permitLine_80 rfl (lv_at hl 2 rfl) ?_
      refine lv_iload_n hx hb dX3_permitLine_81 rfl (lv_at hl 1 rfl) ?_
      refine lv_iload_n hx hb dX3_permitLine_82 rfl (lv_at hl 0 rfl) ?_
      refine me_callVi (As := [.int (ksV t len g S (pm0 (g, S, B, L, P, ps))), .int (nuV t len (g 2) (((g 2) + 48) - 1) (ks1 t len g S (pm0 (g, S, B, L, P, ps)))), .int (nuV t len 1 (if ((g 2) + 48) - (nuV t len (g 2) (((g 2) + 48) - 1) (ks1 t len g S (pm0 (g, S, B, L, P, ps)))) < 12 then ((g 2) + 48) - (nuV t len (g 2) (((g 2) + 48) - 1) (ks1 t len g S (pm0 (g, S, B, L, P, ps)))) else 12) (nuP t len (g 2) (((g 2) + 48) - 1) (ks1 t len g S (pm0 (g, S, B, L, P, ps)))))]) (rest := []) hC hl.1 hM (c_X5_canPermit l D tb X z0 n a g (me_up M9 po (.inr (3, ps_fs ta len a (pm3 t len (g, S, B, L, P, ps))))) S B L P (ksV t len g S (pm0 (g, S, B, L, P, ps))) (nuV t len (g 2) (((g 2) + 48) - 1) (ks1 t len g S (pm0 (g, S, B, L, P, ps)))) (nuV t len 1 (if ((g 2) + 48) - (nuV t len (g 2) (((g 2) + 48) - 1) (ks1 t len g S (pm0 (g, S, B, L, P, ps)))) < 12 then ((g 2) + 48) - (nuV t len (g 2) (((g 2) + 48) - 1) (ks1 t len g S (pm0 (g, S, B, L, P, ps)))) else 12) (nuP t len (g 2) (((g 2) + 48) - 1) (ks1 t len g S (pm0 (g, S, B, L, P, ps))))) hW ) (kv_X3_135 hw rfl rfl ⟨Nat.le_of_ble_eq_true rfl, Nat.le_of_ble_eq_true rfl⟩) rfl rfl (sp_st _ _ _ _) rfl (Nat.le_of_ble_eq_true rfl) dX3_permitLine_83 ⟨Nat.le_of_ble_eq_true rfl, Nat.le_of_ble_eq_true rfl⟩ (fun H locs hM => ?_)
      refine lv_if_ne (tgt := 95) hx hb dX3_permitLine_86 (by decide) (fun c_9 => ?_) (fun c_9 => ?_)
      · have c_9 := b1_n0.mp c_9
        have hM := hM.eq (ps_eq (q' := pm4 t len (g, S, B, L, P, ps)) (fc_f (fun z => z.2 c_9)).symm)
        refine lv_aload_n hx hb dX3_permitLine_95 rfl (lv_at hl 3 rfl) ?_
        refine fg_X3_21 hC hM ((sp_out (by omega)).trans (me_up_s _ _ _)) rfl dX3_permitLine_96 ?_
        refine lv_if_ne (tgt := 113) hx hb dX3_permitLine_99 (by decide) (fun c_10 => ?_) (fun c_10 => ?_)
        · have c_10 := (not_congr (br_eq rfl (show (0 : Int32) = nI 0 from rfl) (by omega) (by omega))).mp c_10
          exact me_vret hC hr hlk hM (pm_e (pmL_0 c_10)) (rfl) dX3_permitLine_113
        · have c_10 := (br_eq rfl (show (0 : Int32) = nI 0 from rfl) (by omega) (by omega)).mp c_10
          have z9 : ¬ P = 10 := (zk_pm c_10).1
          refine lv_aload_n hx hb dX3_permitLine_102 rfl (lv_at hl 3 rfl) ?_
          refine fg_X3_34 hC hM ((sp_out (by omega)).trans (me_up_s _ _ _)) rfl dX3_permitLine_103 ?_
          refine lv_iload_n hx hb dX3_permitLine_106 rfl (lv_at hl 2 rfl) ?_
          refine lv_iload_n hx hb dX3_permitLine_107 rfl (lv_at hl 1 rfl) ?_
          refine lv_iload_n hx hb dX3_permitLine_108 rfl (lv_at hl 0 rfl) ?_
          refine me_callVi (As := [.int (ksV t len g S (pm0 (g, S, B, L, P, ps))), .int (nuV t len (g 2) (((g 2) + 48) - 1) (ks1 t len g S (pm0 (g, S, B, L, P, ps)))), .int (nuV t len 1 (if ((g 2) + 48) - (nuV t len (g 2) (((g 2) + 48) - 1) (ks1 t len g S (pm0 (g, S, B, L, P, ps)))) < 12 then ((g 2) + 48) - (nuV t len (g 2) (((g 2) + 48) - 1) (ks1 t len g S (pm0 (g, S, B, L, P, ps)))) else 12) (nuP t len (g 2) (((g 2) + 48) - 1) (ks1 t len g S (pm0 (g, S, B, L, P, ps)))))]) (rest := []) hC hl.1 hM (c_X5_addPermit l D tb X z0 n a g (me_up M9 po (.inr (3, ps_fs ta len a (pm4 t len (g, S, B, L, P, ps))))) S B L P (ksV t len g S (pm0 (g, S, B, L, P, ps))) (nuV t len (g 2) (((g 2) + 48) - 1) (ks1 t len g S (pm0 (g, S, B, L, P, ps)))) (nuV t len 1 (if ((g 2) + 48) - (nuV t len (g 2) (((g 2) + 48) - 1) (ks1 t len g S (pm0 (g, S, B, L, P, ps)))) < 12 then ((g 2) + 48) - (nuV t len (g 2) (((g 2) + 48) - 1) (ks1 t len g S (pm0 (g, S, B, L, P, ps)))) else 12) (nuP t len (g 2) (((g 2) + 48) - 1) (ks1 t len g S (pm0 (g, S, B, L, P, ps))))) hW (by omega)) (kv_X3_139 hw rfl rfl ⟨Nat.le_of_ble_eq_true rfl, Nat.le_of_ble_eq_true rfl⟩) rfl rfl (sp_st _ _ _ _) rfl (Nat.le_of_ble_eq_true rfl) dX3_permitLine_109 ⟨Nat.le_of_ble_eq_true rfl, Nat.le_of_ble_eq_true rfl⟩ (fun H locs hM => ?_)
          refine lv_pop hx hb dX3_permitLine_112 rfl ?_
          exact me_vret hC hr hlk hM (pm_e (pmL_1 c_10)) (rfl) dX3_permitLine_113
      · have c_9 := b1_0.mp c_9
        refine lv_aload_n hx hb dX3_permitLine_89 rfl (lv_at hl 3 rfl) ?_
        refine lv_bipush (v := 6) hx hb dX3_permitLine_90 (by decide) ?_
        refine me_callVv (As := [.int 6]) (rest := []) hC hl.1 hM (c_X3_fail l D tb X z0 n kK kV a po ta NN len g t M9 (pm3 t len (g, S, B, L, P, ps)) 6 hE h3) (kv_X3_47 hw rfl rfl ⟨Nat.le_of_ble_eq_true rfl, Nat.le_of_ble_eq_true rfl⟩) rfl rfl ((sp_out (by omega)).trans (me_up_s _ _ _)) rfl (Nat.le_of_ble_eq_true rfl) dX3_permitLine_92 ⟨Nat.le_of_ble_eq_true rfl, Nat.le_of_ble_eq_true rfl⟩ (fun H locs hM => ?_)
        have hM := hM.eq (ps_eq (q' := pm4 t len (g, S, B, L, P, ps)) (fc_t ⟨c_7, c_9⟩).symm)
        refine lv_aload_n hx hb dX3_permitLine_95 rfl (lv_at hl 3 rfl) ?_
        refine fg_X3_21 hC hM ((sp_out (by omega)).trans (me_up_s _ _ _)) rfl dX3_permitLine_96 ?_
        refine lv_if_ne (tgt := 113) hx hb dX3_permitLine_99 (by decide) (fun c_11 => ?_) (fun c_11 => ?_)
        · have c_11 := (not_congr (br_eq rfl (show (0 : Int32) = nI 0 from rfl) (by omega) (by omega))).mp c_11
          exact me_vret hC hr hlk hM (pm_e (pmL_0 c_11)) (rfl) dX3_permitLine_113
        · have c_11 := (br_eq rfl (show (0 : Int32) = nI 0 from rfl) (by omega) (by omega)).mp c_11
          have z9 : ¬ P = 10 := (zk_pm c_11).1
          refine lv_aload_n hx hb dX3_permitLine_102 rfl (lv_at hl 3 rfl) ?_
          refine fg_X3_34 hC hM ((sp_out (by omega)).trans (me_up_s _ _ _)) rfl dX3_permitLine_103 ?_
          refine lv_iload_n hx hb dX3_permitLine_106 rfl (lv_at hl 2 rfl) ?_
          refine lv_iload_n hx hb dX3_permitLine_107 rfl (lv_at hl 1 rfl) ?_
          refine lv_iload_n hx hb dX3_permitLine_108 rfl (lv_at hl 0 rfl) ?_
          refine me_callVi (As := [.int (ksV t len g S (pm0 (g, S, B, L, P, ps))), .int (nuV t len (g 2) (((g 2) + 48) - 1) (ks1 t len g S (pm0 (g, S, B, L, P, ps)))), .int (nuV t len 1 (if ((g 2) + 48) - (nuV t len (g 2) (((g 2) + 48) - 1) (ks1 t len g S (pm0 (g, S, B, L, P, ps)))) < 12 then ((g 2) + 48) - (nuV t len (g 2) (((g 2) + 48) - 1) (ks1 t len g S (pm0 (g, S, B, L, P, ps)))) else 12) (nuP t len (g 2) (((g 2) + 48) - 1) (ks1 t len g S (pm0 (g, S, B, L, P, ps)))))]) (rest := []) hC hl.1 hM (c_X5_addPermit l D tb X z0 n a g (me_up M9 po (.inr (3, ps_fs ta len a (pm4 t len (g, S, B, L, P, ps))))) S B L P (ksV t len g S (pm0 (g, S, B, L, P, ps))) (nuV t len (g 2) (((g 2) + 48) - 1) (ks1 t len g S (pm0 (g, S, B, L, P, ps)))) (nuV t len 1 (if ((g 2) + 48) - (nuV t len (g 2) (((g 2) + 48) - 1) (ks1 t len g S (pm0 (g, S, B, L, P, ps)))) < 12 then ((g 2) + 48) - (nuV t len (g 2) (((g 2) + 48) - 1) (ks1 t len g S (pm0 (g, S, B, L, P, ps)))) else 12) (nuP t len (g 2) (((g 2) + 48) - 1) (ks1 t len g S (pm0 (g, S, B, L, P, ps))))) hW (by omega)) (kv_X3_139 hw rfl rfl ⟨Nat.le_of_ble_eq_true rfl, Nat.le_of_ble_eq_true rfl⟩) rfl rfl (sp_st _ _ _ _) rfl (Nat.le_of_ble_eq_true rfl) dX3_permitLine_109 ⟨Nat.le_of_ble_eq_true rfl, Nat.le_of_ble_eq_true rfl⟩ (fun H locs hM => ?_)
          refine lv_pop hx hb dX3_permitLine_112 rfl ?_
          exact me_vret hC hr hlk hM (pm_e (pmL_1 c_11)) (rfl) dX3_permitLine_113
theorem d_X3_permitLine (l : Launch) (D : va_G) (tb : Nat → ClassId) (X : State → Prop) (z0 n : Nat) (kK kV : Nat → Nat) (a po ta NN len : Nat) (t : Nat → Int32) (M9 : me_M) (x : PR) (hN : ∀ U, X U → me_nest U) (hE : psE tb a po ta NN len t M9) (hx : okP len x) : Met l yX3_permitLine (.code yX3_permitLine cX3_permitLine 4 none :: ws_all) ({ frames := 4, cells := 0, slots := 0, locals := 87 } : Room) (me_Pc [.ref po] D tb X z0 (pmM tb a po ta len M9 x) n) (me_Qv D z0 (pmM tb a po ta len M9 (pmL t len x)) n) 0 0 (me_A z0) := by
  obtain ⟨g, S, B, L, P, ps⟩ := x
  obtain ⟨h1, ⟨T, hT, hT0⟩, h3⟩ := hx
  exact c_X3_permitLine l D tb X z0 n kK kV a po ta NN len g t M9 ps S B L P T hN hE h1 hT hT0 h3
set_option maxHeartbeats 4000000 in
theorem c_X3_lendLine (l : Launch) (D : va_G) (tb : Nat → ClassId) (X : State → Prop) (z0 n : Nat) (kK kV : Nat → Nat) (a po ta NN len : Nat) (g t : Nat → Int32) (M9 : me_M) (ps : PS) (S B L P T : Nat)  (hN : ∀ U, X U → me_nest U) (hE : psE tb a po ta NN len t M9) (hW : wf g S B L P) (hT : g 2 = nI T) (hT0 : T ≤ 9999) (hp : pvP len ps) : Met l yX3_lendLine (.code yX3_lendLine cX3_lendLine 4 none :: ws_all) ({ frames := 4, cells := 0, slots := 0, locals := 93 } : Room) (me_Pc [.ref po] D tb X z0 (sp tb a g (me_up M9 po (.inr (3, ps_fs ta len a ps)))) n) (me_Qv D z0 (pmM tb a po ta len M9 (ldL t len (g, S, B, L, P, ps))) n) 0 0 (me_A z0) := by
  refine me_open (by decide) (Nat.le_of_ble_eq_true rfl) ?_
  intro p e s m args below meth c ls hC hr hlk hnm hM hl
  have hl : lv_has ls 4 [(0, .ref po)] := hl
  have hx := hC.1
  have hb := hC.2.1
  have hw := hC.2.2.2.2.1
  obtain ⟨hS, hS0, hB, hB0, hL, hL0, hP, hP0, hwb, hwl⟩ := id hW
  obtain ⟨e1, e2, e3, e4, e5, e6⟩ := id hE
  obtain ⟨p1, p2, p3, p4⟩ := id hp
  have hx0 : okP len (g, S, B, L, P, ps) := okP_mk hW ⟨T, hT, hT0⟩ hp
  have h1 := pv_ld1 (t := t) hx0
  have h3 := pv_ld3 (t := t) hx0
  have h4 := pv_ld4 (t := t) hx0
  obtain ⟨-, -, -, k3⟩ := id h3
  obtain ⟨-, -, -, k4⟩ := id h4
  refine lv_aload_n hx hb dX3_lendLine_0 rfl (lv_at hl 0 rfl) ?_
  refine fg_X3_34 hC hM ((sp_out (by omega)).trans (me_up_s _ _ _)) rfl dX3_lendLine_1 ?_
  refine lv_aload_n hx hb dX3_lendLine_4 rfl (lv_at hl 0 rfl) ?_
  refine me_callVi (As := []) (rest := [.ref a]) hC hl.1 hM (c_X3_name l D tb X z0 n kK kV a po ta NN len g t M9 ps  hN hE hp) (kv_X3_101 hw rfl rfl ⟨Nat.le_of_ble_eq_true rfl, Nat.le_of_ble_eq_true rfl⟩) rfl rfl ((sp_out (by omega)).trans (me_up_s _ _ _)) rfl (Nat.le_of_ble_eq_true rfl) dX3_lendLine_5 ⟨Nat.le_of_ble_eq_true rfl, Nat.le_of_ble_eq_true rfl⟩ (fun H locs hM => ?_)
  refine me_callVi (As := [.int (nmV t len ps)]) (rest := []) hC hl.1 hM (c_X5_borrowerNamed l D tb X z0 n a g (me_up M9 po (.inr (3, ps_fs ta len a (nm1 t len ps)))) B (nmV t len ps) hB hB0) (kv_X3_114 hw rfl rfl ⟨Nat.le_of_ble_eq_true rfl, Nat.le_of_ble_eq_true rfl⟩) rfl rfl (sp_st _ _ _ _) rfl (Nat.le_of_ble_eq_true rfl) dX3_lendLine_8 ⟨Nat.le_of_ble_eq_true rfl, Nat.le_of_ble_eq_true rfl⟩ (fun H locs hM => ?_)
  refine lv_istore_n (lv' := [(1, .int (fi (fun k => g (89 + 11 * k + 5) = (nmV t len ps)) B 0)), (0, .ref po)]) hx hb dX3_lendLine_11 rfl hl (by decide) rfl (fun ls hl => ?_)
  refine lv_iload_n hx hb dX3_lendLine_12 rfl (lv_at hl 0 rfl) ?_
  refine lv_iconst (v := (-1)) hx hb dX3_lendLine_13 (by decide) ?_
  refine lv_icmp_ne (tgt := 22) hx hb dX3_lendLine_14 (by decide) (fun c_1 => ?_) (fun c_1 => ?_)
  · have hM := hM.eq (ps_eq (q' := ld1 t len (g, S, B, L, P, ps)) (fc_f c_1).symm)
    refine lv_aload_n hx hb dX3_lendLine_22 rfl (lv_at hl 1 rfl) ?_
    refine lv_aload_n hx hb dX3_lendLine_23 rfl (lv_at hl 1 rfl) ?_
    refine fg_X3_34 hC hM ((sp_out (by omega)).trans (me_up_s _ _ _)) rfl dX3_lendLine_24 ?_
    refine fg_X3_127 hC hM (sp_st _ _ _ _) rfl dX3_lendLine_27 ?_
    refine lv_aload_n hx hb dX3_lendLine_30 rfl (lv_at hl 1 rfl) ?_
    refine fg_X3_34 hC hM ((sp_out (by omega)).trans (me_up_s _ _ _)) rfl dX3_lendLine_31 ?_
    refine fg_X3_127 hC hM (sp_st _ _ _ _) rfl dX3_lendLine_34 ?_
    refine lv_bipush (v := 48) hx hb dX3_lendLine_37 (by decide) ?_
    refine lv_iadd hx hb dX3_lendLine_39 ?_
    refine lv_iconst (v := 1) hx hb dX3_lendLine_40 (by decide) ?_
    refine lv_isub hx hb dX3_lendLine_41 ?_
    refine me_callVi (As := [.int (g 2), .int (((g 2) + 48) - 1)]) (rest := []) hC hl.1 hM (c_X3_number l D tb X z0 n kK kV a po ta NN len g t M9 (ld1 t len (g, S, B, L, P, ps)) (g 2) (((g 2) + 48) - 1) hE h1) (kv_X3_51 hw rfl rfl ⟨Nat.le_of_ble_eq_true rfl, Nat.le_of_ble_eq_true rfl⟩) rfl rfl ((sp_out (by omega)).trans (me_up_s _ _ _)) rfl (Nat.le_of_ble_eq_true rfl) dX3_lendLine_42 ⟨Nat.le_of_ble_eq_true rfl, Nat.le_of_ble_eq_true rfl⟩ (fun H locs hM => ?_)
    refine lv_istore_n (lv' := [(2, .int (nuV t len (g 2) (((g 2) + 48) - 1) (ld1 t len (g, S, B, L, P, ps)))), (1, .int (fi (fun k => g (89 + 11 * k + 5) = (nmV t len ps)) B 0)), (0, .ref po)]) hx hb dX3_lendLine_45 rfl hl (by decide) rfl (fun ls hl => ?_)
    refine lv_aload_n hx hb dX3_lendLine_46 rfl (lv_at hl 2 rfl) ?_
    refine lv_iconst (v := 1) hx hb dX3_lendLine_47 (by decide) ?_
    refine lv_bipush (v := 6) hx hb dX3_lendLine_48 (by decide) ?_
    refine lv_aload_n hx hb dX3_lendLine_50 rfl (lv_at hl 2 rfl) ?_
    refine fg_X3_34 hC hM ((sp_out (by omega)).trans (me_up_s _ _ _)) rfl dX3_lendLine_51 ?_
    refine fg_X3_127 hC hM (sp_st _ _ _ _) rfl dX3_lendLine_54 ?_
    refine lv_bipush (v := 48) hx hb dX3_lendLine_57 (by decide) ?_
    refine lv_iadd hx hb dX3_lendLine_59 ?_
    refine lv_iload_n hx hb dX3_lendLine_60 rfl (lv_at hl 0 rfl) ?_
    refine lv_isub hx hb dX3_lendLine_61 ?_
    refine va_mmin hx hb (hC.2.2.1.trans hl.1.symm) hC.2.2.2.1 (hw _ w_403) (hw _ w_404) (hw _ w_13) (hw _ w_405) (Nat.le_of_ble_eq_true rfl) (Nat.le_of_ble_eq_true rfl) (by first | omega | exact Nat.le_of_ble_eq_true rfl) (by first | omega | exact Nat.le_of_ble_eq_true rfl) dX3_lendLine_62 ?_
    refine me_callVi (As := [.int 1, .int (if ((g 2) + 48) - (nuV t len (g 2) (((g 2) + 48) - 1) (ld1 t len (g, S, B, L, P, ps))) < 6 then ((g 2) + 48) - (nuV t len (g 2) (((g 2) + 48) - 1) (ld1 t len (g, S, B, L, P, ps))) else 6)]) (rest := []) hC hl.1 hM (c_X3_number l D tb X z0 n kK kV a po ta NN len g t M9 (nuP t len (g 2) (((g 2) + 48) - 1) (ld1 t len (g, S, B, L, P, ps))) 1 (if ((g 2) + 48) - (nuV t len (g 2) (((g 2) + 48) - 1) (ld1 t len (g, S, B, L, P, ps))) < 6 then ((g 2) + 48) - (nuV t len (g 2) (((g 2) + 48) - 1) (ld1 t len (g, S, B, L, P, ps))) else 6) hE (pv_nu (t := t) (a := g 2) (b := ((g 2) + 48) - 1) h1)) (kv_X3_51 hw rfl rfl ⟨Nat.le_of_ble_eq_true rfl, Nat.le_of_ble_eq_true rfl⟩) rfl rfl ((sp_out (by omega)).trans (me_up_s _ _ _)) rfl (Nat.le_of_ble_eq_true rfl) dX3_lendLine_65 ⟨Nat.le_of_ble_eq_true rfl, Nat.le_of_ble_eq_true rfl⟩ (fun H locs hM => ?_)
    refine lv_istore_n (lv' := [(3, .int (nuV t len 1 (if ((g 2) + 48) - (nuV t len (g 2) (((g 2) + 48) - 1) (ld1 t len (g, S, B, L, P, ps))) < 6 then ((g 2) + 48) - (nuV t len (g 2) (((g 2) + 48) - 1) (ld1 t len (g, S, B, L, P, ps))) else 6) (nuP t len (g 2) (((g 2) + 48) - 1) (ld1 t len (g, S, B, L, P, ps))))), (2, .int (nuV t len (g 2) (((g 2) + 48) - 1) (ld1 t len (g, S, B, L, P, ps)))), (1, .int (fi (fun k => g (89 + 11 * k + 5) = (nmV t len ps)) B 0)), (0, .ref po)]) hx hb dX3_lendLine_68 rfl hl (by decide) rfl (fun ls hl => ?_)
    have hM := hM.eq (ps_eq (q' := ld3 t len (g, S, B, L, P, ps)) rfl)
    refine lv_aload_n hx hb dX3_lendLine_69 rfl (lv_at hl 3 rfl) ?_
    refine fg_X3_21 hC hM ((sp_out (by omega)).trans (me_up_s _ _ _)) rfl dX3_lendLine_70 ?_
    refine lv_if_ne (tgt := 95) hx hb dX3_lendLine_73 (by decide) (fun c_2 => ?_) (fun c_2 => ?_)
    · have c_2 := (not_congr (br_eq rfl (show (0 : Int32) = nI 0 from rfl) (by omega) (by omega))).mp c_2
      have hM := hM.eq (ps_eq (q' := ld4 t len (g, S, B, L, P, ps)) (fc_f (fun z => c_2 z.1)).symm)
      refine lv_aload_n hx hb dX3_lendLine_95 rfl (lv_at hl 3 rfl) ?_
      refine fg_X3_21 hC hM ((sp_out (by omega)).trans (me_up_s _ _ _)) rfl dX3_lendLine_96 ?_
      refine lv_if_ne (tgt := 113) hx hb dX3_lendLine_99 (by decide) (fun c_3 => ?_) (fun c_3 => ?_)
      · have c_3 := (not_congr (br_eq rfl (show (0 : Int32) = nI 0 from rfl) (by omega) (by omega))).mp c_3
        exact me_vret hC hr hlk hM (pm_e (ldL_0 c_3)) (rfl) dX3_lendLine_113
      · have c_3 := (br_eq rfl (show (0 : Int32) = nI 0 from rfl) (by omega) (by omega)).mp c_3
        exact absurd (zk_ld4 c_3).2 c_2
    · have c_2 := (br_eq rfl (show (0 : Int32) = nI 0 from rfl) (by omega) (by omega)).mp c_2
      obtain ⟨b, s0, n9, hb9, u1, u2, v1, v2, v3, eb, es, en⟩ := ld_nat (t := t) hx0 hT hT0 c_2
      have hb9 : b < B := hb9
      have ebc : (ldV t len (g, S, B, L, P, ps)).toNatClampNeg = b := by rw [eb]; exact nI_clamp (by omega)
      have esc : (ldS t len (g, S, B, L, P, ps)).toNatClampNeg = s0 := by rw [es]; exact nI_clamp (by omega)
      have enc : (ldN t len (g, S, B, L, P, ps)).toNatClampNeg = n9 := by rw [en]; exact nI_clamp (by omega)
      refine lv_aload_n hx hb dX3_lendLine_76 rfl (lv_at hl 3 rfl) ?_
      refine fg_X3_34 hC hM ((sp_out (by omega)).trans (me_up_s _ _ _)) rfl dX3_lendLine_77 ?_
      refine lv_iload_n hx hb dX3_lendLine_80 rfl (lv_at hl 2 rfl) ?_
      refine lv_iload_n hx hb dX3_lendLine_81 rfl (lv_at hl 1 rfl) ?_
      refine lv_iload_n hx hb dX3_lendLine_82 rfl (lv_at hl 0 rfl) ?_
      have en2 : nuV t len 1 (if ((g 2) + 48) - (nuV t len (g 2) (((g 2) + 48) - 1) (ld1 t len (g, S, B, L, P, ps))) < 6 then ((g 2) + 48) - (nuV t len (g 2) (((g 2) + 48) - 1) (ld1 t len (g, S, B, L, P, ps))) else 6) (nuP t len (g 2) (((g 2) + 48) - 1) (ld1 t len (g, S, B, L, P, ps))) = nI n9 := en
      have es2 : nuV t len (g 2) (((g 2) + 48) - 1) (ld1 t len (g, S, B, L, P, ps)) = nI s0 := es
      have eb2 : fi (fun k => g (89 + 11 * k + 5) = (nmV t len ps)) B 0 = nI b := eb
      refine me_stk (st2 := [.int (nI n9), .int (nI s0), .int (nI b), .ref a]) (by rw [en2, es2, eb2]) ?_
      refine me_callVi (As := [.int (nI b), .int (nI s0), .int (nI n9)]) (rest := []) hC hl.1 hM (c_X5_reasonAgainst l D tb X z0 n a g (me_up M9 po (.inr (3, ps_fs ta len a (ld3 t len (g, S, B, L, P, ps))))) S B L P b s0 n9 hW (by omega) (by omega)) (kv_X3_143 hw rfl rfl ⟨Nat.le_of_ble_eq_true rfl, Nat.le_of_ble_eq_true rfl⟩) rfl rfl (sp_st _ _ _ _) rfl (Nat.le_of_ble_eq_true rfl) dX3_lendLine_83 ⟨Nat.le_of_ble_eq_true rfl, Nat.le_of_ble_eq_true rfl⟩ (fun H locs hM => ?_)
      refine lv_if_eq (tgt := 95) hx hb dX3_lendLine_86 (by decide) (fun c_4 => ?_) (fun c_4 => ?_)
      · have hM := hM.eq (ps_eq (q' := ld4 t len (g, S, B, L, P, ps)) (fc_f (fun z => z.2 (by rw [ebc, esc, enc]; exact c_4))).symm)
        have hL9 : L < 30 := reF_L hW c_4
        refine lv_aload_n hx hb dX3_lendLine_95 rfl (lv_at hl 3 rfl) ?_
        refine fg_X3_21 hC hM ((sp_out (by omega)).trans (me_up_s _ _ _)) rfl dX3_lendLine_96 ?_
        refine lv_if_ne (tgt := 113) hx hb dX3_lendLine_99 (by decide) (fun c_5 => ?_) (fun c_5 => ?_)
        · have c_5 := (not_congr (br_eq rfl (show (0 : Int32) = nI 0 from rfl) (by omega) (by omega))).mp c_5
          exact me_vret hC hr hlk hM (pm_e (ldL_0 c_5)) (rfl) dX3_lendLine_113
        · have c_5 := (br_eq rfl (show (0 : Int32) = nI 0 from rfl) (by omega) (by omega)).mp c_5
          refine lv_aload_n hx hb dX3_lendLine_102 rfl (lv_at hl 3 rfl) ?_
          refine fg_X3_34 hC hM ((sp_out (by omega)).trans (me_up_s _ _ _)) rfl dX3_lendLine_103 ?_
          refine lv_iload_n hx hb dX3_lendLine_106 rfl (lv_at hl 2 rfl) ?_
          refine lv_iload_n hx hb dX3_lendLine_107 rfl (lv_at hl 1 rfl) ?_
          refine lv_iload_n hx hb dX3_lendLine_108 rfl (lv_at hl 0 rfl) ?_
          have en2 : nuV t len 1 (if ((g 2) + 48) - (nuV t len (g 2) (((g 2) + 48) - 1) (ld1 t len (g, S, B, L, P, ps))) < 6 then ((g 2) + 48) - (nuV t len (g 2) (((g 2) + 48) - 1) (ld1 t len (g, S, B, L, P, ps))) else 6) (nuP t len (g 2) (((g 2) + 48) - 1) (ld1 t len (g, S, B, L, P, ps))) = nI n9 := en
          have es2 : nuV t len (g 2) (((g 2) + 48) - 1) (ld1 t len (g, S, B, L, P, ps)) = nI s0 := es
          have eb2 : fi (fun k => g (89 + 11 * k + 5) = (nmV t len ps)) B 0 = nI b := eb
          refine me_stk (st2 := [.int (nI n9), .int (nI s0), .int (nI b), .ref a]) (by rw [en2, es2, eb2]) ?_
          refine me_callVi (As := [.int (nI b), .int (nI s0), .int (nI n9)]) (rest := []) hC hl.1 hM (c_X5_addLoan l D tb X z0 n a g (me_up M9 po (.inr (3, ps_fs ta len a (ld4 t len (g, S, B, L, P, ps))))) S B L P b s0 n9 hW (by omega) (by omega)) (kv_X3_146 hw rfl rfl ⟨Nat.le_of_ble_eq_true rfl, Nat.le_of_ble_eq_true rfl⟩) rfl rfl (sp_st _ _ _ _) rfl (Nat.le_of_ble_eq_true rfl) dX3_lendLine_109 ⟨Nat.le_of_ble_eq_true rfl, Nat.le_of_ble_eq_true rfl⟩ (fun H locs hM => ?_)
          refine lv_pop hx hb dX3_lendLine_112 rfl ?_
          exact me_vret hC hr hlk hM (pm_e (ldL_1 c_5 ebc esc enc)) (rfl) dX3_lendLine_113
      · refine lv_aload_n hx hb dX3_lendLine_89 rfl (lv_at hl 3 rfl) ?_
        refine lv_bipush (v := 6) hx hb dX3_lendLine_90 (by decide) ?_
        refine me_callVv (As := [.int 6]) (rest := []) hC hl.1 hM (c_X3_fail l D tb X z0 n kK kV a po ta NN len g t M9 (ld3 t len (g, S, B, L, P, ps)) 6 hE h3) (kv_X3_47 hw rfl rfl ⟨Nat.le_of_ble_eq_true rfl, Nat.le_of_ble_eq_true rfl⟩) rfl rfl ((sp_out (by omega)).trans (me_up_s _ _ _)) rfl (Nat.le_of_ble_eq_true rfl) dX3_lendLine_92 ⟨Nat.le_of_ble_eq_true rfl, Nat.le_of_ble_eq_true rfl⟩ (fun H locs hM => ?_)
        have hM := hM.eq (ps_eq (q' := ld4 t len (g, S, B, L, P, ps)) (fc_t ⟨c_2, by rw [ebc, esc, enc]; exact c_4⟩).symm)
        refine lv_aload_n hx hb dX3_lendLine_95 rfl (lv_at hl 3 rfl) ?_
        refine fg_X3_21 hC hM ((sp_out (by omega)).trans (me_up_s _ _ _)) rfl dX3_lendLine_96 ?_
        refine lv_if_ne (tgt := 113) hx hb dX3_lendLine_99 (by decide) (fun c_6 => ?_) (fun c_6 => ?_)
        · have c_6 := (not_congr (br_eq rfl (show (0 : Int32) = nI 0 from rfl) (by omega) (by omega))).mp c_6
          exact me_vret hC hr hlk hM (pm_e (ldL_0 c_6)) (rfl) dX3_lendLine_113
        · have c_6 := (br_eq rfl (show (0 : Int32) = nI 0 from rfl) (by omega) (by omega)).mp c_6
          exact absurd ⟨c_2, by rw [ebc, esc, enc]; exact c_4⟩ (zk_ld4 c_6).1
  · refine lv_aload_n hx hb dX3_lendLine_17 rfl (lv_at hl 1 rfl) ?_
    refine lv_iconst (v := 3) hx hb dX3_lendLine_18 (by decide) ?_
    refine me_callVv (As := [.int 3]) (rest := []) hC hl.1 hM (c_X3_fail l D tb X z0 n kK kV a po ta NN len g t M9 (nm1 t len ps) 3 hE (pv_nm (t := t) hp)) (kv_X3_47 hw rfl rfl ⟨Nat.le_of_ble_eq_true rfl, Nat.le_of_ble_eq_true rfl⟩) rfl rfl ((sp_out (by omega)).trans (me_up_s _ _ _)) rfl (Nat.le_of_ble_eq_true rfl) dX3_lendLine_19 ⟨Nat.le_of_ble_eq_true rfl, Nat.le_of_ble_eq_true rfl⟩ (fun H locs hM => ?_)
    have hM := hM.eq (ps_eq (q' := ld1 t len (g, S, B, L, P, ps)) (fc_t c_1).symm)
    refine lv_aload_n hx hb dX3_lendLine_22 rfl (lv_at hl 1 rfl) ?_
    refine lv_aload_n hx hb dX3_lendLine_23 rfl (lv_at hl 1 rfl) ?_
    refine fg_X3_34 hC hM ((sp_out (by omega)).trans (me_up_s _ _ _)) rfl dX3_lendLine_24 ?_
    refine fg_X3_127 hC hM (sp_st _ _ _ _) rfl dX3_lendLine_27 ?_
    refine lv_aload_n hx hb dX3_lendLine_30 rfl (lv_at hl 1 rfl) ?_
    refine fg_X3_34 hC hM ((sp_out (by omega)).trans (me_up_s _ _ _)) rfl dX3_lendLine_31 ?_
    refine fg_X3_127 hC hM (sp_st _ _ _ _) rfl dX3_lendLine_34 ?_
    refine lv_bipush (v := 48) hx hb dX3_lendLine_37 (by decide) ?_
    refine lv_iadd hx hb dX3_lendLine_39 ?_
    refine lv_iconst (v := 1) hx hb dX3_lendLine_40 (by decide) ?_
    refine lv_isub hx hb dX3_lendLine_41 ?_
    refine me_callVi (As := [.int (g 2), .int (((g 2) + 48) - 1)]) (rest := []) hC hl.1 hM (c_X3_number l D tb X z0 n kK kV a po ta NN len g t M9 (ld1 t len (g, S, B, L, P, ps)) (g 2) (((g 2) + 48) - 1) hE h1) (kv_X3_51 hw rfl rfl ⟨Nat.le_of_ble_eq_true rfl, Nat.le_of_ble_eq_true rfl⟩) rfl rfl ((sp_out (by omega)).trans (me_up_s _ _ _)) rfl (Nat.le_of_ble_eq_true rfl) dX3_lendLine_42 ⟨Nat.le_of_ble_eq_true rfl, Nat.le_of_ble_eq_true rfl⟩ (fun H locs hM => ?_)
    refine lv_istore_n (lv' := [(2, .int (nuV t len (g 2) (((g 2) + 48) - 1) (ld1 t len (g, S, B, L, P, ps)))), (1, .int (fi (fun k => g (89 + 11 * k + 5) = (nmV t len ps)) B 0)), (0, .ref po)]) hx hb dX3_lendLine_45 rfl hl (by decide) rfl (fun ls hl => ?_)
    refine lv_aload_n hx hb dX3_lendLine_46 rfl (lv_at hl 2 rfl) ?_
    refine lv_iconst (v := 1) hx hb dX3_lendLine_47 (by decide) ?_
    refine lv_bipush (v := 6) hx hb dX3_lendLine_48 (by decide) ?_
    refine lv_aload_n hx hb dX3_lendLine_50 rfl (lv_at hl 2 rfl) ?_
    refine fg_X3_34 hC hM ((sp_out (by omega)).trans (me_up_s _ _ _)) rfl dX3_lendLine_51 ?_
    refine fg_X3_127 hC hM (sp_st _ _ _ _) rfl dX3_lendLine_54 ?_
    refine lv_bipush (v := 48) hx hb dX3_lendLine_57 (by decide) ?_
    refine lv_iadd hx hb dX3_lendLine_59 ?_
    refine lv_iload_n hx hb dX3_lendLine_60 rfl (lv_at hl 0 rfl) ?_
    refine lv_isub hx hb dX3_lendLine_61 ?_
    refine va_mmin hx hb (hC.2.2.1.trans hl.1.symm) hC.2.2.2.1 (hw _ w_403) (hw _ w_404) (hw _ w_13) (hw _ w_405) (Nat.le_of_ble_eq_true rfl) (Nat.le_of_ble_eq_true rfl) (by first | omega | exact Nat.le_of_ble_eq_true rfl) (by first | omega | exact Nat.le_of_ble_eq_true rfl) dX3_lendLine_62 ?_
    refine me_callVi (As := [.int 1, .int (if ((g 2) + 48) - (nuV t len (g 2) (((g 2) + 48) - 1) (ld1 t len (g, S, B, L, P, ps))) < 6 then ((g 2) + 48) - (nuV t len (g 2) (((g 2) + 48) - 1) (ld1 t len (g, S, B, L, P, ps))) else 6)]) (rest := []) hC hl.1 hM (c_X3_number l D tb X z0 n kK kV a po ta NN len g t M9 (nuP t len (g 2) (((g 2) + 48) - 1) (ld1 t len (g, S, B, L, P, ps))) 1 (if ((g 2) + 48) - (nuV t len (g 2) (((g 2) + 48) - 1) (ld1 t len (g, S, B, L, P, ps))) < 6 then ((g 2) + 48) - (nuV t len (g 2) (((g 2) + 48) - 1) (ld1 t len (g, S, B, L, P, ps))) else 6) hE (pv_nu (t := t) (a := g 2) (b := ((g 2) + 48) - 1) h1)) (kv_X3_51 hw rfl rfl ⟨Nat.le_of_ble_eq_true rfl, Nat.le_of_ble_eq_true rfl⟩) rfl rfl ((sp_out (by omega)).trans (me_up_s _ _ _)) rfl (Nat.le_of_ble_eq_true rfl) dX3_lendLine_65 ⟨Nat.le_of_ble_eq_true rfl, Nat.le_of_ble_eq_true rfl⟩ (fun H locs hM => ?_)
    refine lv_istore_n (lv' := [(3, .int (nuV t len 1 (if ((g 2) + 48) - (nuV t len (g 2) (((g 2) + 48) - 1) (ld1 t len (g, S, B, L, P, ps))) < 6 then ((g 2) + 48) - (nuV t len (g 2) (((g 2) + 48) - 1) (ld1 t len (g, S, B, L, P, ps))) else 6) (nuP t len (g 2) (((g 2) + 48) - 1) (ld1 t len (g, S, B, L, P, ps))))), (2, .int (nuV t len (g 2) (((g 2) + 48) - 1) (ld1 t len (g, S, B, L, P, ps)))), (1, .int (fi (fun k => g (89 + 11 * k + 5) = (nmV t len ps)) B 0)), (0, .ref po)]) hx hb dX3_lendLine_68 rfl hl (by decide) rfl (fun ls hl => ?_)
    have hM := hM.eq (ps_eq (q' := ld3 t len (g, S, B, L, P, ps)) rfl)
    refine lv_aload_n hx hb dX3_lendLine_69 rfl (lv_at hl 3 rfl) ?_
    refine fg_X3_21 hC hM ((sp_out (by omega)).trans (me_up_s _ _ _)) rfl dX3_lendLine_70 ?_
    refine lv_if_ne (tgt := 95) hx hb dX3_lendLine_73 (by decide) (fun c_7 => ?_) (fun c_7 => ?_)
    · have c_7 := (not_congr (br_eq rfl (show (0 : Int32) = nI 0 from rfl) (by omega) (by omega))).mp c_7
      have hM := hM.eq (ps_eq (q' := ld4 t len (g, S, B, L, P, ps)) (fc_f (fun z => c_7 z.1)).symm)
      refine lv_aload_n hx hb dX3_lendLine_95 rfl (lv_at hl 3 rfl) ?_
      refine fg_X3_21 hC hM ((sp_out (by omega)).trans (me_up_s _ _ _)) rfl dX3_lendLine_96 ?_
      refine lv_if_ne (tgt := 113) hx hb dX3_lendLine_99 (by decide) (fun c_8 => ?_) (fun c_8 => ?_)
      · have c_8 := (not_congr (br_eq rfl (show (0 : Int32) = nI 0 from rfl) (by omega) (by omega))).mp c_8
        exact me_vret hC hr hlk hM (pm_e (ldL_0 c_8)) (rfl) dX3_lendLine_113
      · have c_8 := (br_eq rfl (show (0 : Int32) = nI 0 from rfl) (by omega) (by omega)).mp c_8
        exact absurd (zk_ld4 c_8).2 c_7
    · have c_7 := (br_eq rfl (show (0 : Int32) = nI 0 from rfl) (by omega) (by omega)).mp c_7
      obtain ⟨b, s0, n9, hb9, u1, u2, v1, v2, v3, eb, es, en⟩ := ld_nat (t := t) hx0 hT hT0 c_7
      have hb9 : b < B := hb9
      have ebc : (ldV t len (g, S, B, L, P, ps)).toNatClampNeg = b := by rw [eb]; exact nI_clamp (by omega)
      have esc : (ldS t len (g, S, B, L, P, ps)).toNatClampNeg = s0 := by rw [es]; exact nI_clamp (by omega)
      have enc : (ldN t len (g, S, B, L, P, ps)).toNatClampNeg = n9 := by rw [en]; exact nI_clamp (by omega)
      refine lv_aload_n hx hb dX3_lendLine_76 rfl (lv_at hl 3 rfl) ?_
      refine fg_X3_34 hC hM ((sp_out (by omega)).trans (me_up_s _ _ _)) rfl dX3_lendLine_77 ?_
      refine lv_iload_n hx hb dX3_lendLine_80 rfl (lv_at hl 2 rfl) ?_
      refine lv_iload_n hx hb dX3_lendLine_81 rfl (lv_at hl 1 rfl) ?_
      refine lv_iload_n hx hb dX3_lendLine_82 rfl (lv_at hl 0 rfl) ?_
      have en2 : nuV t len 1 (if ((g 2) + 48) - (nuV t len (g 2) (((g 2) + 48) - 1) (ld1 t len (g, S, B, L, P, ps))) < 6 then ((g 2) + 48) - (nuV t len (g 2) (((g 2) + 48) - 1) (ld1 t len (g, S, B, L, P, ps))) else 6) (nuP t len (g 2) (((g 2) + 48) - 1) (ld1 t len (g, S, B, L, P, ps))) = nI n9 := en
      have es2 : nuV t len (g 2) (((g 2) + 48) - 1) (ld1 t len (g, S, B, L, P, ps)) = nI s0 := es
      have eb2 : fi (fun k => g (89 + 11 * k + 5) = (nmV t len ps)) B 0 = nI b := eb
      refine me_stk (st2 := [.int (nI n9), .int (nI s0), .int (nI b), .ref a]) (by rw [en2, es2, eb2]) ?_
      refine me_callVi (As := [.int (nI b), .int (nI s0), .int (nI n9)]) (rest := []) hC hl.1 hM (c_X5_reasonAgainst l D tb X z0 n a g (me_up M9 po (.inr (3, ps_fs ta len a (ld3 t len (g, S, B, L, P, ps))))) S B L P b s0 n9 hW (by omega) (by omega)) (kv_X3_143 hw rfl rfl ⟨Nat.le_of_ble_eq_true rfl, Nat.le_of_ble_eq_true rfl⟩) rfl rfl (sp_st _ _ _ _) rfl (Nat.le_of_ble_eq_true rfl) dX3_lendLine_83 ⟨Nat.le_of_ble_eq_true rfl, Nat.le_of_ble_eq_true rfl⟩ (fun H locs hM => ?_)
      refine lv_if_eq (tgt := 95) hx hb dX3_lendLine_86 (by decide) (fun c_9 => ?_) (fun c_9 => ?_)
      · have hM := hM.eq (ps_eq (q' := ld4 t len (g, S, B, L, P, ps)) (fc_f (fun z => z.2 (by rw [ebc, esc, enc]; exact c_9))).symm)
        have hL9 : L < 30 := reF_L hW c_9
        refine lv_aload_n hx hb dX3_lendLine_95 rfl (lv_at hl 3 rfl) ?_
        refine fg_X3_21 hC hM ((sp_out (by omega)).trans (me_up_s _ _ _)) rfl dX3_lendLine_96 ?_
        refine lv_if_ne (tgt := 113) hx hb dX3_lendLine_99 (by decide) (fun c_10 => ?_) (fun c_10 => ?_)
        · have c_10 := (not_congr (br_eq rfl (show (0 : Int32) = nI 0 from rfl) (by omega) (by omega))).mp c_10
          exact me_vret hC hr hlk hM (pm_e (ldL_0 c_10)) (rfl) dX3_lendLine_113
        · have c_10 := (br_eq rfl (show (0 : Int32) = nI 0 from rfl) (by omega) (by omega)).mp c_10
          refine lv_aload_n hx hb dX3_lendLine_102 rfl (lv_at hl 3 rfl) ?_
          refine fg_X3_34 hC hM ((sp_out (by omega)).trans (me_up_s _ _ _)) rfl dX3_lendLine_103 ?_
          refine lv_iload_n hx hb dX3_lendLine_106 rfl (lv_at hl 2 rfl) ?_
          refine lv_iload_n hx hb dX3_lendLine_107 rfl (lv_at hl 1 rfl) ?_
          refine lv_iload_n hx hb dX3_lendLine_108 rfl (lv_at hl 0 rfl) ?_
          have en2 : nuV t len 1 (if ((g 2) + 48) - (nuV t len (g 2) (((g 2) + 48) - 1) (ld1 t len (g, S, B, L, P, ps))) < 6 then ((g 2) + 48) - (nuV t len (g 2) (((g 2) + 48) - 1) (ld1 t len (g, S, B, L, P, ps))) else 6) (nuP t len (g 2) (((g 2) + 48) - 1) (ld1 t len (g, S, B, L, P, ps))) = nI n9 := en
          have es2 : nuV t len (g 2) (((g 2) + 48) - 1) (ld1 t len (g, S, B, L, P, ps)) = nI s0 := es
          have eb2 : fi (fun k => g (89 + 11 * k + 5) = (nmV t len ps)) B 0 = nI b := eb
          refine me_stk (st2 := [.int (nI n9), .int (nI s0), .int (nI b), .ref a]) (by rw [en2, es2, eb2]) ?_
          refine me_callVi (As := [.int (nI b), .int (nI s0), .int (nI n9)]) (rest := []) hC hl.1 hM (c_X5_addLoan l D tb X z0 n a g (me_up M9 po (.inr (3, ps_fs ta len a (ld4 t len (g, S, B, L, P, ps))))) S B L P b s0 n9 hW (by omega) (by omega)) (kv_X3_146 hw rfl rfl ⟨Nat.le_of_ble_eq_true rfl, Nat.le_of_ble_eq_true rfl⟩) rfl rfl (sp_st _ _ _ _) rfl (Nat.le_of_ble_eq_true rfl) dX3_lendLine_109 ⟨Nat.le_of_ble_eq_true rfl, Nat.le_of_ble_eq_true rfl⟩ (fun H locs hM => ?_)
          refine lv_pop hx hb dX3_lendLine_112 rfl ?_
          exact me_vret hC hr hlk hM (pm_e (ldL_1 c_10 ebc esc enc)) (rfl) dX3_lendLine_113
      · refine lv_aload_n hx hb dX3_lendLine_89 rfl (lv_at hl 3 rfl) ?_
        refine lv_bipush (v := 6) hx hb dX3_lendLine_90 (by decide) ?_
        refine me_callVv (As := [.int 6]) (rest := []) hC hl.1 hM (c_X3_fail l D tb X z0 n kK kV a po ta NN len g t M9 (ld3 t len (g, S, B, L, P, ps)) 6 hE h3) (kv_X3_47 hw rfl rfl ⟨Nat.le_of_ble_eq_true rfl, Nat.le_of_ble_eq_true rfl⟩) rfl rfl ((sp_out (by omega)).trans (me_up_s _ _ _)) rfl (Nat.le_of_ble_eq_true rfl) dX3_lendLine_92 ⟨Nat.le_of_ble_eq_true rfl, Nat.le_of_ble_eq_true rfl⟩ (fun H locs hM => ?_)
        have hM := hM.eq (ps_eq (q' := ld4 t len (g, S, B, L, P, ps)) (fc_t ⟨c_7, by rw [ebc, esc, enc]; exact c_9⟩).symm)
        refine lv_aload_n hx hb dX3_lendLine_95 rfl (lv_at hl 3 rfl) ?_
        refine fg_X3_21 hC hM ((sp_out (by omega)).trans (me_up_s _ _ _)) rfl dX3_lendLine_96 ?_
        refine lv_if_ne (tgt := 113) hx hb dX3_lendLine_99 (by decide) (fun c_11 => ?_) (fun c_11 => ?_)
        · have c_11 := (not_congr (br_eq rfl (show (0 : Int32) = nI 0 from rfl) (by omega) (by omega))).mp c_11
          exact me_vret hC hr hlk hM (pm_e (ldL_0 c_11)) (rfl) dX3_lendLine_113
        · have c_11 := (br_eq rfl (show (0 : Int32) = nI 0 from rfl) (by omega) (by omega)).mp c_11
          exact absurd ⟨c_7, by rw [ebc, esc, enc]; exact c_9⟩ (zk_ld4 c_11).1
theorem d_X3_lendLine (l : Launch) (D : va_G) (tb : Nat → ClassId) (X : State → Prop) (z0 n : Nat) (kK kV : Nat → Nat) (a po ta NN len : Nat) (t : Nat → Int32) (M9 : me_M) (x : PR) (hN : ∀ U, X U → me_nest U) (hE : psE tb a po ta NN len t M9) (hx : okP len x) : Met l yX3_lendLine (.code yX3_lendLine cX3_lendLine 4 none :: ws_all) ({ frames := 4, cells := 0, slots := 0, locals := 93 } : Room) (me_Pc [.ref po] D tb X z0 (pmM tb a po ta len M9 x) n) (me_Qv D z0 (pmM tb a po ta len M9 (ldL t len x)) n) 0 0 (me_A z0) := by
  obtain ⟨g, S, B, L, P, ps⟩ := x
  obtain ⟨h1, ⟨T, hT, hT0⟩, h3⟩ := hx
  exact c_X3_lendLine l D tb X z0 n kK kV a po ta NN len g t M9 ps S B L P T hN hE h1 hT hT0 h3
set_option maxHeartbeats 4000000 in
theorem c_X3_whistleLine (l : Launch) (D : va_G) (tb : Nat → ClassId) (X : State → Prop) (z0 n : Nat) (kK kV : Nat → Nat) (a po ta NN len : Nat) (g t : Nat → Int32) (M9 : me_M) (ps : PS) (S B L P T : Nat)  (hN : ∀ U, X U → me_nest U) (hE : psE tb a po ta NN len t M9) (hW : wf g S B L P) (hT : g 2 = nI T) (hT0 : T ≤ 9999) (hp : pvP len ps) : Met l yX3_whistleLine (.code yX3_whistleLine cX3_whistleLine 2 none :: ws_all) ({ frames := 3, cells := 0, slots := 0, locals := 68 } : Room) (me_Pc [.ref po] D tb X z0 (sp tb a g (me_up M9 po (.inr (3, ps_fs ta len a ps)))) n) (me_Qv D z0 (pmM tb a po ta len M9 (whL t len (g, S, B, L, P, ps))) n) 0 0 (me_A z0) := by
  refine me_open (by decide) (Nat.le_of_ble_eq_true rfl) ?_
  intro p e s m args below meth c ls hC hr hlk hnm hM hl
  have hl : lv_has ls 2 [(0, .ref po)] := hl
  have hx := hC.1
  have hb := hC.2.1
  have hw := hC.2.2.2.2.1
  obtain ⟨hS, hS0, hB, hB0, hL, hL0, hP, hP0, hwb, hwl⟩ := id hW
  obtain ⟨e1, e2, e3, e4, e5, e6⟩ := id hE
  obtain ⟨p1, p2, p3, p4⟩ := id hp
  have hx0 : okP len (g, S, B, L, P, ps) := okP_mk hW ⟨T, hT, hT0⟩ hp
  have h1 := pv_wh1 (t := t) hx0
  have h4 := pv_wh2 (t := t) hx0
  obtain ⟨-, -, -, k1⟩ := id h1
  obtain ⟨-, -, -, k4⟩ := id h4
  refine lv_aload_n hx hb dX3_whistleLine_0 rfl (lv_at hl 0 rfl) ?_
  refine lv_iconst (v := 0) hx hb dX3_whistleLine_1 (by decide) ?_
  refine lv_aload_n hx hb dX3_whistleLine_2 rfl (lv_at hl 0 rfl) ?_
  refine fg_X3_34 hC hM ((sp_out (by omega)).trans (me_up_s _ _ _)) rfl dX3_whistleLine_3 ?_
  refine fg_X3_149 hC hM (sp_st _ _ _ _) rfl dX3_whistleLine_6 ?_
  refine lv_iconst (v := 1) hx hb dX3_whistleLine_9 (by decide) ?_
  refine lv_isub hx hb dX3_whistleLine_10 ?_
  refine me_callVi (As := [.int 0, .int ((g 6) - 1)]) (rest := []) hC hl.1 hM (c_X3_number l D tb X z0 n kK kV a po ta NN len g t M9 ps 0 ((g 6) - 1) hE hp) (kv_X3_51 hw rfl rfl ⟨Nat.le_of_ble_eq_true rfl, Nat.le_of_ble_eq_true rfl⟩) rfl rfl ((sp_out (by omega)).trans (me_up_s _ _ _)) rfl (Nat.le_of_ble_eq_true rfl) dX3_whistleLine_11 ⟨Nat.le_of_ble_eq_true rfl, Nat.le_of_ble_eq_true rfl⟩ (fun H locs hM => ?_)
  refine lv_istore_n (lv' := [(1, .int (nuV t len 0 ((g 6) - 1) ps)), (0, .ref po)]) hx hb dX3_whistleLine_14 rfl hl (by decide) rfl (fun ls hl => ?_)
  have hM := hM.eq (ps_eq (q' := wh1 t len (g, S, B, L, P, ps)) rfl)
  refine lv_aload_n hx hb dX3_whistleLine_15 rfl (lv_at hl 1 rfl) ?_
  refine fg_X3_21 hC hM ((sp_out (by omega)).trans (me_up_s _ _ _)) rfl dX3_whistleLine_16 ?_
  refine lv_if_ne (tgt := 43) hx hb dX3_whistleLine_19 (by decide) (fun c_1 => ?_) (fun c_1 => ?_)
  · have c_1 := (not_congr (br_eq rfl (show (0 : Int32) = nI 0 from rfl) (by omega) (by omega))).mp c_1
    have hM := hM.eq (ps_eq (q' := wh2 t len (g, S, B, L, P, ps)) (fc_f (fun z => c_1 z.1)).symm)
    refine lv_aload_n hx hb dX3_whistleLine_43 rfl (lv_at hl 1 rfl) ?_
    refine fg_X3_21 hC hM ((sp_out (by omega)).trans (me_up_s _ _ _)) rfl dX3_whistleLine_44 ?_
    refine lv_if_ne (tgt := 63) hx hb dX3_whistleLine_47 (by decide) (fun c_2 => ?_) (fun c_2 => ?_)
    · have c_2 := (not_congr (br_eq rfl (show (0 : Int32) = nI 0 from rfl) (by omega) (by omega))).mp c_2
      exact me_vret hC hr hlk hM (pm_e (whL_0 c_2)) (rfl) dX3_whistleLine_63
    · have c_2 := (br_eq rfl (show (0 : Int32) = nI 0 from rfl) (by omega) (by omega)).mp c_2
      exact absurd (zk_wh2 c_2).2 c_1
  · have c_1 := (br_eq rfl (show (0 : Int32) = nI 0 from rfl) (by omega) (by omega)).mp c_1
    obtain ⟨k, hk, ek⟩ := wh_nat (t := t) hx0 c_1
    have hk : k < L := hk
    have ek1 : nuV t len 0 (g 6 - 1) ps = nI k := ek
    have ekc : (whV t len (g, S, B, L, P, ps)).toNatClampNeg = k := by rw [ek]; exact nI_clamp (by omega)
    refine lv_aload_n hx hb dX3_whistleLine_22 rfl (lv_at hl 1 rfl) ?_
    refine fg_X3_34 hC hM ((sp_out (by omega)).trans (me_up_s _ _ _)) rfl dX3_whistleLine_23 ?_
    refine fg_X3_152 hC hM (sp_st _ _ _ _) rfl dX3_whistleLine_26 ?_
    refine lv_iload_n hx hb dX3_whistleLine_29 rfl (lv_at hl 0 rfl) ?_
    refine me_aald (k := k) hC hM (sp_a3 _ _ _ _) (t0 := 8) rfl ek1 (by omega) (by decide) (sp_arr_at (by omega)) dX3_whistleLine_30 ?_
    refine me_callVi (As := []) (rest := []) hC hl.1 hM (c_X2_canBeReturned l D tb X z0 n _ _ _ _ _ _ _  (sp_loan _ _ _ _ (by omega))) (kv_X3_156 hw rfl rfl ⟨Nat.le_of_ble_eq_true rfl, Nat.le_of_ble_eq_true rfl⟩) rfl rfl (sp_loan _ _ _ _ (by omega)) rfl (Nat.le_of_ble_eq_true rfl) dX3_whistleLine_31 ⟨Nat.le_of_ble_eq_true rfl, Nat.le_of_ble_eq_true rfl⟩ (fun H locs hM => ?_)
    refine lv_if_ne (tgt := 43) hx hb dX3_whistleLine_34 (by decide) (fun c_3 => ?_) (fun c_3 => ?_)
    · have c_3 := b1_n0.mp c_3
      have hM := hM.eq (ps_eq (q' := wh2 t len (g, S, B, L, P, ps)) (fc_f (fun z => z.2 (by rw [ekc]; exact c_3))).symm)
      refine lv_aload_n hx hb dX3_whistleLine_43 rfl (lv_at hl 1 rfl) ?_
      refine fg_X3_21 hC hM ((sp_out (by omega)).trans (me_up_s _ _ _)) rfl dX3_whistleLine_44 ?_
      refine lv_if_ne (tgt := 63) hx hb dX3_whistleLine_47 (by decide) (fun c_4 => ?_) (fun c_4 => ?_)
      · have c_4 := (not_congr (br_eq rfl (show (0 : Int32) = nI 0 from rfl) (by omega) (by omega))).mp c_4
        exact me_vret hC hr hlk hM (pm_e (whL_0 c_4)) (rfl) dX3_whistleLine_63
      · have c_4 := (br_eq rfl (show (0 : Int32) = nI 0 from rfl) (by omega) (by omega)).mp c_4
        refine lv_aload_n hx hb dX3_whistleLine_50 rfl (lv_at hl 1 rfl) ?_
        refine fg_X3_34 hC hM ((sp_out (by omega)).trans (me_up_s _ _ _)) rfl dX3_whistleLine_51 ?_
        refine fg_X3_152 hC hM (sp_st _ _ _ _) rfl dX3_whistleLine_54 ?_
        refine lv_iload_n hx hb dX3_whistleLine_57 rfl (lv_at hl 0 rfl) ?_
        refine me_aald (k := k) hC hM (sp_a3 _ _ _ _) (t0 := 8) rfl ek1 (by omega) (by decide) (sp_arr_at (by omega)) dX3_whistleLine_58 ?_
        refine lv_iconst (v := 3) hx hb dX3_whistleLine_59 (by decide) ?_
        refine fp_X3_162 hC hM (sp_loan _ _ _ _ (by omega)) (Nat.le_of_ble_eq_true rfl) (M2 := sp tb a (upd g (261 + 5 * k + 4) 3) (me_up M9 po (.inr (3, ps_fs ta len a (wh2 t len (g, S, B, L, P, ps)))))) (sp_w_loan (k := k) 4 (by omega) (by decide) (by simp [upd])) dX3_whistleLine_60 (fun H locs hM => ?_)
        exact me_vret hC hr hlk hM (pm_e (whL_1 c_4 ekc)) (rfl) dX3_whistleLine_63
    · have c_3 := b1_0.mp c_3
      refine lv_aload_n hx hb dX3_whistleLine_37 rfl (lv_at hl 1 rfl) ?_
      refine lv_bipush (v := 6) hx hb dX3_whistleLine_38 (by decide) ?_
      refine me_callVv (As := [.int 6]) (rest := []) hC hl.1 hM (c_X3_fail l D tb X z0 n kK kV a po ta NN len g t M9 (wh1 t len (g, S, B, L, P, ps)) 6 hE h1) (kv_X3_47 hw rfl rfl ⟨Nat.le_of_ble_eq_true rfl, Nat.le_of_ble_eq_true rfl⟩) rfl rfl ((sp_out (by omega)).trans (me_up_s _ _ _)) rfl (Nat.le_of_ble_eq_true rfl) dX3_whistleLine_40 ⟨Nat.le_of_ble_eq_true rfl, Nat.le_of_ble_eq_true rfl⟩ (fun H locs hM => ?_)
      have hM := hM.eq (ps_eq (q' := wh2 t len (g, S, B, L, P, ps)) (fc_t ⟨c_1, by rw [ekc]; exact c_3⟩).symm)
      refine lv_aload_n hx hb dX3_whistleLine_43 rfl (lv_at hl 1 rfl) ?_
      refine fg_X3_21 hC hM ((sp_out (by omega)).trans (me_up_s _ _ _)) rfl dX3_whistleLine_44 ?_
      refine lv_if_ne (tgt := 63) hx hb dX3_whistleLine_47 (by decide) (fun c_5 => ?_) (fun c_5 => ?_)
      · have c_5 := (not_congr (br_eq rfl (show (0 : Int32) = nI 0 from rfl) (by omega) (by omega))).mp c_5
        exact me_vret hC hr hlk hM (pm_e (whL_0 c_5)) (rfl) dX3_whistleLine_63
      · have c_5 := (br_eq rfl (show (0 : Int32) = nI 0 from rfl) (by omega) (by omega)).mp c_5
        exact absurd ⟨c_1, by rw [ekc]; exact c_3⟩ (zk_wh2 c_5).1
theorem d_X3_whistleLine (l : Launch) (D : va_G) (tb : Nat → ClassId) (X : State → Prop) (z0 n : Nat) (kK kV : Nat → Nat) (a po ta NN len : Nat) (t : Nat → Int32) (M9 : me_M) (x : PR) (hN : ∀ U, X U → me_nest U) (hE : psE tb a po ta NN len t M9) (hx : okP len x) : Met l yX3_whistleLine (.code yX3_whistleLine cX3_whistleLine 2 none :: ws_all) ({ frames := 3, cells := 0, slots := 0, locals := 68 } : Room) (me_Pc [.ref po] D tb X z0 (pmM tb a po ta len M9 x) n) (me_Qv D z0 (pmM tb a po ta len M9 (whL t len x)) n) 0 0 (me_A z0) := by
  obtain ⟨g, S, B, L, P, ps⟩ := x
  obtain ⟨h1, ⟨T, hT, hT0⟩, h3⟩ := hx
  exact c_X3_whistleLine l D tb X z0 n kK kV a po ta NN len g t M9 ps S B L P T hN hE h1 hT hT0 h3
set_option maxHeartbeats 4000000 in
theorem c_X3_hoursToPass (l : Launch) (D : va_G) (tb : Nat → ClassId) (X : State → Prop) (z0 n : Nat) (kK kV : Nat → Nat) (a po ta NN len : Nat) (g t : Nat → Int32) (M9 : me_M) (ps : PS)  (hE : psE tb a po ta NN len t M9) (hp : pvP len ps) : Met l yX3_hoursToPass (.code yX3_hoursToPass cX3_hoursToPass 1 (some .int) :: ws_all) ({ frames := 3, cells := 0, slots := 0, locals := 68 } : Room) (me_Pc [.ref po] D tb X z0 (sp tb a g (me_up M9 po (.inr (3, ps_fs ta len a ps)))) n) (me_Qi D z0 (nuV t len 1 (mnF 99 (9999 - g 2)) ps) (psM tb a po ta len M9 g (nuP t len 1 (mnF 99 (9999 - g 2)) ps)) n) 0 0 (me_A z0) := by
  refine me_open (by decide) (Nat.le_of_ble_eq_true rfl) ?_
  intro p e s m args below meth c ls hC hr hlk hnm hM hl
  have hl : lv_has ls 1 [(0, .ref po)] := hl
  have hx := hC.1
  have hb := hC.2.1
  have hw := hC.2.2.2.2.1
  obtain ⟨e1, e2, e3, e4, e5, e6⟩ := id hE
  obtain ⟨p1, p2, p3, p4⟩ := id hp
  refine lv_aload_n hx hb dX3_hoursToPass_0 rfl (lv_at hl 0 rfl) ?_
  refine lv_iconst (v := 1) hx hb dX3_hoursToPass_1 (by decide) ?_
  refine lv_bipush (v := 99) hx hb dX3_hoursToPass_2 (by decide) ?_
  refine lv_sipush (v := 9999) hx hb dX3_hoursToPass_4 (by decide) ?_
  refine lv_aload_n hx hb dX3_hoursToPass_7 rfl (lv_at hl 0 rfl) ?_
  refine fg_X3_34 hC hM ((sp_out (by omega)).trans (me_up_s _ _ _)) rfl dX3_hoursToPass_8 ?_
  refine fg_X3_127 hC hM (sp_st _ _ _ _) rfl dX3_hoursToPass_11 ?_
  refine lv_isub hx hb dX3_hoursToPass_14 ?_
  refine va_mmin hx hb (hC.2.2.1.trans hl.1.symm) hC.2.2.2.1 (hw _ w_403) (hw _ w_404) (hw _ w_13) (hw _ w_405) (Nat.le_of_ble_eq_true rfl) (Nat.le_of_ble_eq_true rfl) (by first | omega | exact Nat.le_of_ble_eq_true rfl) (by first | omega | exact Nat.le_of_ble_eq_true rfl) dX3_hoursToPass_15 ?_
  refine me_callVi (As := [.int 1, .int (if 9999 - (g 2) < 99 then 9999 - (g 2) else 99)]) (rest := []) hC hl.1 hM (c_X3_number l D tb X z0 n kK kV a po ta NN len g t M9 ps 1 (if 9999 - (g 2) < 99 then 9999 - (g 2) else 99) hE hp) (kv_X3_51 hw rfl rfl ⟨Nat.le_of_ble_eq_true rfl, Nat.le_of_ble_eq_true rfl⟩) rfl rfl ((sp_out (by omega)).trans (me_up_s _ _ _)) rfl (Nat.le_of_ble_eq_true rfl) dX3_hoursToPass_18 ⟨Nat.le_of_ble_eq_true rfl, Nat.le_of_ble_eq_true rfl⟩ (fun H locs hM => ?_)
  exact me_iret hC hr hlk hM (by first | rfl | simp []) (rfl) (rfl) dX3_hoursToPass_21
