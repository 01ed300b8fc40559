set_option maxHeartbeats 4000000 in
theorem c_X3_parse (l : Launch) (D : va_G) (tb : Nat → ClassId) (X : State → Prop) (z0 n : Nat) (kK kV : Nat → Nat) (a po ta NN len : Nat) (g t : Nat → Int32) (M9 : me_M) (ps : PS) (S B L P T : Nat)  (hKS : ∀ U, X U → me_ks kK kV z0 U) (hN : ∀ U, X U → me_nest U) (hE : psE tb a po ta NN len t M9) (hW : wf g S B L P) (hT : g 2 = nI T) (hT0 : T ≤ 9999) (hp : pvP len ps) : Met l yX3_parse (.code yX3_parse cX3_parse 2 none :: ws_all) ({ frames := 5, cells := 0, slots := 0, locals := 116 } : Room) (me_Pc [.ref po] D tb X z0 (sp tb a g (me_up M9 po (.inr (3, ps_fs ta len a ps)))) n) (me_Qv D z0 (pmM tb a po ta len M9 (paF t len (g, S, B, L, P, ps))) n) 0 0 (me_A z0) := by
  refine me_open (by decide) (Nat.le_of_ble_eq_true rfl) ?_
  intro p e s m args below meth c ls hC hr hlk hnm hM hl
  have hl : lv_has ls 2 [(0, .ref po)] := hl
  have hx := hC.1
  have hb := hC.2.1
  have hw := hC.2.2.2.2.1
  obtain ⟨e1, e2, e3, e4, e5, e6⟩ := id hE
  obtain ⟨p1, p2, p3, p4⟩ := id hp
  have hx0 : okP len (g, S, B, L, P, ps) := okP_mk hW ⟨T, hT, hT0⟩ hp
  refine lv_aload_n hx hb dX3_parse_0 rfl (lv_at hl 0 rfl) ?_
  refine me_callVv (As := []) (rest := []) hC hl.1 hM (c_X3_next l D tb X z0 n kK kV a po ta NN len g t M9 ps  hE hp) (kv_X3_38 hw rfl rfl ⟨Nat.le_of_ble_eq_true rfl, Nat.le_of_ble_eq_true rfl⟩) rfl rfl ((sp_out (by omega)).trans (me_up_s _ _ _)) rfl (Nat.le_of_ble_eq_true rfl) dX3_parse_1 ⟨Nat.le_of_ble_eq_true rfl, Nat.le_of_ble_eq_true rfl⟩ (fun H locs hM => ?_)
  refine lv_aload_n hx hb dX3_parse_4 rfl (lv_at hl 0 rfl) ?_
  refine va_ldcS hx hb hC.2.2.2.1 (hKS s hC.2.2.2.2.2.1.2).2.2.2.1 dX3_parse_5 ?_
  refine me_callVi (As := [.ref (kK 0)]) (rest := []) hC hl.1 hM (c_X3_isWord l D tb X z0 n kK kV a po ta NN len g t M9 (nxP t len ps) 0 hKS hE (pv_nx (t := t) hp) (show 0 < 12 by decide)) (kv_X3_43 hw rfl rfl ⟨Nat.le_of_ble_eq_true rfl, Nat.le_of_ble_eq_true rfl⟩) rfl rfl ((sp_out (by omega)).trans (me_up_s _ _ _)) rfl (Nat.le_of_ble_eq_true rfl) dX3_parse_7 ⟨Nat.le_of_ble_eq_true rfl, Nat.le_of_ble_eq_true rfl⟩ (fun H locs hM => ?_)
  refine lv_if_ne (tgt := 18) hx hb dX3_parse_10 (by decide) (fun c_1 => ?_) (fun c_1 => ?_)
  · have c_1 := b1_n0.mp c_1
    have hM := hM.eq (ps_eq (q' := pa0 t len ps) (by unfold pa0; exact (fc_f (fun z => z c_1)).symm))
    have ha0 := pv_pa0 (t := t) hp
    refine lv_aload_n hx hb dX3_parse_18 rfl (lv_at hl 0 rfl) ?_
    refine fg_X3_34 hC hM ((sp_out (by omega)).trans (me_up_s _ _ _)) rfl dX3_parse_19 ?_
    refine lv_aload_n hx hb dX3_parse_22 rfl (lv_at hl 0 rfl) ?_
    refine lv_iconst (v := 1) hx hb dX3_parse_23 (by decide) ?_
    refine lv_bipush (v := 24) hx hb dX3_parse_24 (by decide) ?_
    refine me_callVi (As := [.int 1, .int 24]) (rest := [.ref a]) hC hl.1 hM (c_X3_number l D tb X z0 n kK kV a po ta NN len g t M9 (pa0 t len ps) 1 24 hE ha0) (kv_X3_51 hw rfl rfl ⟨Nat.le_of_ble_eq_true rfl, Nat.le_of_ble_eq_true rfl⟩) rfl rfl ((sp_out (by omega)).trans (me_up_s _ _ _)) rfl (Nat.le_of_ble_eq_true rfl) dX3_parse_26 ⟨Nat.le_of_ble_eq_true rfl, Nat.le_of_ble_eq_true rfl⟩ (fun H locs hM => ?_)
    refine fp_X3_55 hC hM (sp_st _ _ _ _) (Nat.le_of_ble_eq_true rfl) (M2 := sp tb a (upd g (0) (nuV t len 1 24 (pa0 t len ps))) (me_up M9 po (.inr (3, ps_fs ta len a (nuP t len 1 24 (pa0 t len ps)))))) (sp_w_st 0 (by decide) (by simp [upd])) dX3_parse_29 (fun H locs hM => ?_)
    refine lv_aload_n hx hb dX3_parse_32 rfl (lv_at hl 0 rfl) ?_
    refine fg_X3_34 hC hM ((sp_out (by omega)).trans (me_up_s _ _ _)) rfl dX3_parse_33 ?_
    refine lv_aload_n hx hb dX3_parse_36 rfl (lv_at hl 0 rfl) ?_
    refine lv_iconst (v := 0) hx hb dX3_parse_37 (by decide) ?_
    refine lv_bipush (v := 99) hx hb dX3_parse_38 (by decide) ?_
    refine me_callVi (As := [.int 0, .int 99]) (rest := [.ref a]) hC hl.1 hM (c_X3_number l D tb X z0 n kK kV a po ta NN len (upd g (0) (nuV t len 1 24 (pa0 t len ps))) t M9 (nuP t len 1 24 (pa0 t len ps)) 0 99 hE (pv_nu (t := t) (a := 1) (b := 24) ha0)) (kv_X3_51 hw rfl rfl ⟨Nat.le_of_ble_eq_true rfl, Nat.le_of_ble_eq_true rfl⟩) rfl rfl ((sp_out (by omega)).trans (me_up_s _ _ _)) rfl (Nat.le_of_ble_eq_true rfl) dX3_parse_40 ⟨Nat.le_of_ble_eq_true rfl, Nat.le_of_ble_eq_true rfl⟩ (fun H locs hM => ?_)
    refine fp_X3_60 hC hM (sp_st _ _ _ _) (Nat.le_of_ble_eq_true rfl) (M2 := sp tb a (upd (upd g (0) (nuV t len 1 24 (pa0 t len ps))) (1) (nuV t len 0 99 (nuP t len 1 24 (pa0 t len ps)))) (me_up M9 po (.inr (3, ps_fs ta len a (nuP t len 0 99 (nuP t len 1 24 (pa0 t len ps))))))) (sp_w_st 1 (by decide) (by simp [upd])) dX3_parse_43 (fun H locs hM => ?_)
    refine lv_aload_n hx hb dX3_parse_46 rfl (lv_at hl 0 rfl) ?_
    refine me_callVv (As := []) (rest := []) hC hl.1 hM (c_X3_next l D tb X z0 n kK kV a po ta NN len (upd (upd g (0) (nuV t len 1 24 (pa0 t len ps))) (1) (nuV t len 0 99 (nuP t len 1 24 (pa0 t len ps)))) t M9 (nuP t len 0 99 (nuP t len 1 24 (pa0 t len ps)))  hE (pv_nu (t := t) (a := 0) (b := 99) (pv_nu (t := t) (a := 1) (b := 24) ha0))) (kv_X3_38 hw rfl rfl ⟨Nat.le_of_ble_eq_true rfl, Nat.le_of_ble_eq_true rfl⟩) rfl rfl ((sp_out (by omega)).trans (me_up_s _ _ _)) rfl (Nat.le_of_ble_eq_true rfl) dX3_parse_47 ⟨Nat.le_of_ble_eq_true rfl, Nat.le_of_ble_eq_true rfl⟩ (fun H locs hM => ?_)
    have hM := hM.eq (paH_M (S := S) (B := B) (L := L) (P := P))
    refine lv_iconst (v := 0) hx hb dX3_parse_50 (by decide) ?_
    refine lv_istore_n (lv' := [(1, .int 0), (0, .ref po)]) hx hb dX3_parse_51 rfl hl (by decide) rfl (fun ls hl => ?_)
    have lp_52 : ∀ (r : Nat) (j : Nat) (x : PR) (H : Heap) (locs : List Loc) (ls : Array Slot), (j + r = len) → (paF t len (g, S, B, L, P, ps) = loP t len r x) → (okP len x) → me_at D z0 (sp tb a (rG (x)) (me_up M9 po (.inr (3, ps_fs ta len a (rp (x)))))) n s H locs → lv_has ls 2 [(0, .ref po), (1, .int (nI j))] → W p l e (({ frames := 5, cells := 0, slots := 0, locals := 116 } : Room)) s m args below meth c H locs 0 0 (MQ below (me_Qv D z0 (pmM tb a po ta len M9 (paF t len (g, S, B, L, P, ps))) n) args s 0 0 (me_A z0)) (F0 m 52 ls []) := by
      intro r
      refine Nat.strongRecOn r ?_
      intro r ih_52 j x H locs ls hk hq hx9 hM hl
      obtain ⟨x1, x2, x3, x4⟩ := id hx9.2.2
      refine lv_iload_n hx hb dX3_parse_52 rfl (lv_at hl 1 rfl) ?_
      refine lv_aload_n hx hb dX3_parse_53 rfl (lv_at hl 0 rfl) ?_
      refine fg_X3_31 hC hM ((sp_out (by omega)).trans (me_up_s _ _ _)) rfl dX3_parse_54 ?_
      refine lv_icmp_ge (tgt := 211) hx hb dX3_parse_57 (by decide) (fun c_2 => ?_) (fun c_2 => ?_)
      · have c_2 := (br_le rfl rfl (by omega) (by omega)).mp c_2
        exact me_vret hC hr hlk hM (pm_eq (x := x) (by rw [hq, show r = 0 by omega]; rfl)) (rfl) dX3_parse_211
      · have c_2 := (not_congr (br_le rfl rfl (by omega) (by omega))).mp c_2
        obtain ⟨r1, rfl⟩ : ∃ r1, r = r1 + 1 := ⟨r - 1, by omega⟩
        refine lv_aload_n hx hb dX3_parse_60 rfl (lv_at hl 0 rfl) ?_
        refine fg_X3_21 hC hM ((sp_out (by omega)).trans (me_up_s _ _ _)) rfl dX3_parse_61 ?_
        refine lv_if_ne (tgt := 211) hx hb dX3_parse_64 (by decide) (fun c_3 => ?_) (fun c_3 => ?_)
        · have c_3 := (not_congr (br_eq rfl (show (0 : Int32) = nI 0 from rfl) (by omega) (by omega))).mp c_3
          exact me_vret hC hr hlk hM (pm_eq (x := x) ((hq.trans (lo_f0 c_3)).symm)) (rfl) dX3_parse_211
        · have c_3 := (br_eq rfl (show (0 : Int32) = nI 0 from rfl) (by omega) (by omega)).mp c_3
          refine lv_aload_n hx hb dX3_parse_67 rfl (lv_at hl 0 rfl) ?_
          refine fg_X3_15 hC hM ((sp_out (by omega)).trans (me_up_s _ _ _)) rfl dX3_parse_68 ?_
          refine lv_iconst (v := 4) hx hb dX3_parse_71 (by decide) ?_
          refine lv_icmp_eq (tgt := 211) hx hb dX3_parse_72 (by decide) (fun c_4 => ?_) (fun c_4 => ?_)
          · have c_4 := (br_eq rfl (nx_c 4) (by omega) (by omega)).mp c_4
            exact me_vret hC hr hlk hM (pm_eq (x := x) ((hq.trans (lo_f4 c_4)).symm)) (rfl) dX3_parse_211
          · have c_4 := (not_congr (br_eq rfl (nx_c 4) (by omega) (by omega))).mp c_4
            refine lv_aload_n hx hb dX3_parse_75 rfl (lv_at hl 0 rfl) ?_
            refine fg_X3_15 hC hM ((sp_out (by omega)).trans (me_up_s _ _ _)) rfl dX3_parse_76 ?_
            refine lv_iconst (v := 3) hx hb dX3_parse_79 (by decide) ?_
            refine lv_icmp_eq (tgt := 88) hx hb dX3_parse_80 (by decide) (fun c_5 => ?_) (fun c_5 => ?_)
            · have c_5 := (br_eq rfl (nx_c 3) (by omega) (by omega)).mp c_5
              have hM := hM.eq (ps_eq (q' := fcP (¬ pTk (rp x) = 3) 1 (rp x)) (fc_f (fun z => z c_5)).symm)
              refine lv_aload_n hx hb dX3_parse_88 rfl (lv_at hl 0 rfl) ?_
              refine me_callVv (As := []) (rest := []) hC hl.1 hM (c_X3_next l D tb X z0 n kK kV a po ta NN len (rG (x)) t M9 (fcP (¬ pTk (rp x) = 3) 1 (rp x))  hE (pv_fc (by decide) hx9.2.2)) (kv_X3_38 hw rfl rfl ⟨Nat.le_of_ble_eq_true rfl, Nat.le_of_ble_eq_true rfl⟩) rfl rfl ((sp_out (by omega)).trans (me_up_s _ _ _)) rfl (Nat.le_of_ble_eq_true rfl) dX3_parse_89 ⟨Nat.le_of_ble_eq_true rfl, Nat.le_of_ble_eq_true rfl⟩ (fun H locs hM => ?_)
              have hM := hM.eq ln0_M
              have hy := ok_ln0 (t := t) hx9
              refine lv_aload_n hx hb dX3_parse_92 rfl (lv_at hl 0 rfl) ?_
              refine va_ldcS hx hb hC.2.2.2.1 (hKS s hC.2.2.2.2.2.1.2).2.2.2.2.1 dX3_parse_93 ?_
              refine me_callVi (As := [.ref (kK 1)]) (rest := []) hC hl.1 hM (c_X3_isWord l D tb X z0 n kK kV a po ta NN len (rG (ln0 t len x)) t M9 (rp (ln0 t len x)) 1 hKS hE hy.2.2 (show 1 < 12 by decide)) (kv_X3_43 hw rfl rfl ⟨Nat.le_of_ble_eq_true rfl, Nat.le_of_ble_eq_true rfl⟩) rfl rfl ((sp_out (by omega)).trans (me_up_s _ _ _)) rfl (Nat.le_of_ble_eq_true rfl) dX3_parse_95 ⟨Nat.le_of_ble_eq_true rfl, Nat.le_of_ble_eq_true rfl⟩ (fun H locs hM => ?_)
              refine lv_if_eq (tgt := 108) hx hb dX3_parse_98 (by decide) (fun c_6 => ?_) (fun c_6 => ?_)
              · have c_6 := b1_0.mp c_6
                refine lv_aload_n hx hb dX3_parse_108 rfl (lv_at hl 0 rfl) ?_
                refine va_ldcS hx hb hC.2.2.2.1 (hKS s hC.2.2.2.2.2.1.2).2.2.2.2.2.1 dX3_parse_109 ?_
                refine me_callVi (As := [.ref (kK 2)]) (rest := []) hC hl.1 hM (c_X3_isWord l D tb X z0 n kK kV a po ta NN len (rG (ln0 t len x)) t M9 (rp (ln0 t len x)) 2 hKS hE hy.2.2 (show 2 < 12 by decide)) (kv_X3_43 hw rfl rfl ⟨Nat.le_of_ble_eq_true rfl, Nat.le_of_ble_eq_true rfl⟩) rfl rfl ((sp_out (by omega)).trans (me_up_s _ _ _)) rfl (Nat.le_of_ble_eq_true rfl) dX3_parse_111 ⟨Nat.le_of_ble_eq_true rfl, Nat.le_of_ble_eq_true rfl⟩ (fun H locs hM => ?_)
                refine lv_if_eq (tgt := 124) hx hb dX3_parse_114 (by decide) (fun c_7 => ?_) (fun c_7 => ?_)
                · have c_7 := b1_0.mp c_7
                  refine lv_aload_n hx hb dX3_parse_124 rfl (lv_at hl 0 rfl) ?_
                  refine va_ldcS hx hb hC.2.2.2.1 (hKS s hC.2.2.2.2.2.1.2).2.2.2.2.2.2.1 dX3_parse_125 ?_
                  refine me_callVi (As := [.ref (kK 3)]) (rest := []) hC hl.1 hM (c_X3_isWord l D tb X z0 n kK kV a po ta NN len (rG (ln0 t len x)) t M9 (rp (ln0 t len x)) 3 hKS hE hy.2.2 (show 3 < 12 by decide)) (kv_X3_43 hw rfl rfl ⟨Nat.le_of_ble_eq_true rfl, Nat.le_of_ble_eq_true rfl⟩) rfl rfl ((sp_out (by omega)).trans (me_up_s _ _ _)) rfl (Nat.le_of_ble_eq_true rfl) dX3_parse_127 ⟨Nat.le_of_ble_eq_true rfl, Nat.le_of_ble_eq_true rfl⟩ (fun H locs hM => ?_)
                  refine lv_if_eq (tgt := 140) hx hb dX3_parse_130 (by decide) (fun c_8 => ?_) (fun c_8 => ?_)
                  · have c_8 := b1_0.mp c_8
                    refine lv_aload_n hx hb dX3_parse_140 rfl (lv_at hl 0 rfl) ?_
                    refine va_ldcS hx hb hC.2.2.2.1 (hKS s hC.2.2.2.2.2.1.2).2.2.2.2.2.2.2.1 dX3_parse_141 ?_
                    refine me_callVi (As := [.ref (kK 4)]) (rest := []) hC hl.1 hM (c_X3_isWord l D tb X z0 n kK kV a po ta NN len (rG (ln0 t len x)) t M9 (rp (ln0 t len x)) 4 hKS hE hy.2.2 (show 4 < 12 by decide)) (kv_X3_43 hw rfl rfl ⟨Nat.le_of_ble_eq_true rfl, Nat.le_of_ble_eq_true rfl⟩) rfl rfl ((sp_out (by omega)).trans (me_up_s _ _ _)) rfl (Nat.le_of_ble_eq_true rfl) dX3_parse_143 ⟨Nat.le_of_ble_eq_true rfl, Nat.le_of_ble_eq_true rfl⟩ (fun H locs hM => ?_)
                    refine lv_if_eq (tgt := 156) hx hb dX3_parse_146 (by decide) (fun c_9 => ?_) (fun c_9 => ?_)
                    · have c_9 := b1_0.mp c_9
                      refine lv_aload_n hx hb dX3_parse_156 rfl (lv_at hl 0 rfl) ?_
                      refine va_ldcS hx hb hC.2.2.2.1 (hKS s hC.2.2.2.2.2.1.2).2.2.2.2.2.2.2.2.1 dX3_parse_157 ?_
                      refine me_callVi (As := [.ref (kK 5)]) (rest := []) hC hl.1 hM (c_X3_isWord l D tb X z0 n kK kV a po ta NN len (rG (ln0 t len x)) t M9 (rp (ln0 t len x)) 5 hKS hE hy.2.2 (show 5 < 12 by decide)) (kv_X3_43 hw rfl rfl ⟨Nat.le_of_ble_eq_true rfl, Nat.le_of_ble_eq_true rfl⟩) rfl rfl ((sp_out (by omega)).trans (me_up_s _ _ _)) rfl (Nat.le_of_ble_eq_true rfl) dX3_parse_159 ⟨Nat.le_of_ble_eq_true rfl, Nat.le_of_ble_eq_true rfl⟩ (fun H locs hM => ?_)
                      refine lv_if_eq (tgt := 172) hx hb dX3_parse_162 (by decide) (fun c_10 => ?_) (fun c_10 => ?_)
                      · have c_10 := b1_0.mp c_10
                        refine lv_aload_n hx hb dX3_parse_172 rfl (lv_at hl 0 rfl) ?_
                        refine va_ldcS hx hb hC.2.2.2.1 (hKS s hC.2.2.2.2.2.1.2).2.2.2.2.2.2.2.2.2.1 dX3_parse_173 ?_
                        refine me_callVi (As := [.ref (kK 6)]) (rest := []) hC hl.1 hM (c_X3_isWord l D tb X z0 n kK kV a po ta NN len (rG (ln0 t len x)) t M9 (rp (ln0 t len x)) 6 hKS hE hy.2.2 (show 6 < 12 by decide)) (kv_X3_43 hw rfl rfl ⟨Nat.le_of_ble_eq_true rfl, Nat.le_of_ble_eq_true rfl⟩) rfl rfl ((sp_out (by omega)).trans (me_up_s _ _ _)) rfl (Nat.le_of_ble_eq_true rfl) dX3_parse_175 ⟨Nat.le_of_ble_eq_true rfl, Nat.le_of_ble_eq_true rfl⟩ (fun H locs hM => ?_)
                        refine lv_if_eq (tgt := 196) hx hb dX3_parse_178 (by decide) (fun c_11 => ?_) (fun c_11 => ?_)
                        · have c_11 := b1_0.mp c_11
                          refine lv_aload_n hx hb dX3_parse_196 rfl (lv_at hl 0 rfl) ?_
                          refine lv_iconst (v := 1) hx hb dX3_parse_197 (by decide) ?_
                          refine me_callVv (As := [.int 1]) (rest := []) hC hl.1 hM (c_X3_fail l D tb X z0 n kK kV a po ta NN len (rG (ln0 t len x)) t M9 (rp (ln0 t len x)) 1 hE hy.2.2) (kv_X3_47 hw rfl rfl ⟨Nat.le_of_ble_eq_true rfl, Nat.le_of_ble_eq_true rfl⟩) rfl rfl ((sp_out (by omega)).trans (me_up_s _ _ _)) rfl (Nat.le_of_ble_eq_true rfl) dX3_parse_198 ⟨Nat.le_of_ble_eq_true rfl, Nat.le_of_ble_eq_true rfl⟩ (fun H locs hM => ?_)
                          have hM := hM.eq lnM_e
                          have hM := hM.eq (pm_eq (ds_7 t len (ln0 t len x) c_6 c_7 c_8 c_9 c_10 c_11))
                          refine lv_aload_n hx hb dX3_parse_201 rfl (lv_at hl 0 rfl) ?_
                          refine me_callVv (As := []) (rest := []) hC hl.1 hM (c_X3_next l D tb X z0 n kK kV a po ta NN len (rG (dsL t len (ln0 t len x))) t M9 (rp (dsL t len (ln0 t len x)))  hE ((ok_ds hy).2.2)) (kv_X3_38 hw rfl rfl ⟨Nat.le_of_ble_eq_true rfl, Nat.le_of_ble_eq_true rfl⟩) rfl rfl ((sp_out (by omega)).trans (me_up_s _ _ _)) rfl (Nat.le_of_ble_eq_true rfl) dX3_parse_202 ⟨Nat.le_of_ble_eq_true rfl, Nat.le_of_ble_eq_true rfl⟩ (fun H locs hM => ?_)
                          refine lv_iinc (v := nI (j + 1)) (lv' := [(1, .int (nI (j + 1))), (0, .ref po)]) hx hb dX3_parse_205 hl (k := 1) rfl (nx_add rfl rfl) (by decide) rfl (fun ls hl => ?_)
                          refine lv_goto (tgt := 52) hx hb dX3_parse_208 (by decide) ?_
                          exact ih_52 r1 (by omega) (j + 1) (lnL t len x) _ _ _ (by omega) (hq.trans (lo_t c_3 c_4)) (ok_ln hx9) (hM.eq lnL_M) (lv_sub hl [1, 0] rfl)
                        · have c_11 := b1_n0.mp c_11
                          refine lv_aload_n hx hb dX3_parse_181 rfl (lv_at hl 0 rfl) ?_
                          refine fg_X3_34 hC hM ((sp_out (by omega)).trans (me_up_s _ _ _)) rfl dX3_parse_182 ?_
                          refine lv_aload_n hx hb dX3_parse_185 rfl (lv_at hl 0 rfl) ?_
                          refine me_callVi (As := []) (rest := [.ref a]) hC hl.1 hM (c_X3_hoursToPass l D tb X z0 n kK kV a po ta NN len (rG (ln0 t len x)) t M9 (rp (ln0 t len x)) hE hy.2.2) (kv_X3_90 hw rfl rfl ⟨Nat.le_of_ble_eq_true rfl, Nat.le_of_ble_eq_true rfl⟩) rfl rfl ((sp_out (by omega)).trans (me_up_s _ _ _)) rfl (Nat.le_of_ble_eq_true rfl) dX3_parse_186 ⟨Nat.le_of_ble_eq_true rfl, Nat.le_of_ble_eq_true rfl⟩ (fun H locs hM => ?_)
                          obtain ⟨T9, eT9, hT9⟩ := hy.2.1
                          obtain ⟨hh, hh0, hh1, ehh⟩ := ht_nat (t := t) hy eT9 hT9
                          have ehc : (htV t len (ln0 t len x)).toNatClampNeg = hh := by rw [ehh]; exact nI_clamp (by omega)
                          refine me_evi (y := nI hh) ehh ?_
                          refine me_callVi (As := [.int (nI hh)]) (rest := []) hC hl.1 hM (c_X5_passHours l D tb X z0 n a (rG (ln0 t len x)) (me_up M9 po (.inr (3, ps_fs ta len a (nuP t len 1 (mnF 99 (9999 - (rG (ln0 t len x)) 2)) (rp (ln0 t len x)))))) (rS (ln0 t len x)) (rB (ln0 t len x)) (rL (ln0 t len x)) (rP (ln0 t len x)) hh hN hy.1 (by omega)) (kv_X3_94 hw rfl rfl ⟨Nat.le_of_ble_eq_true rfl, Nat.le_of_ble_eq_true rfl⟩) rfl rfl (sp_st _ _ _ _) rfl (Nat.le_of_ble_eq_true rfl) dX3_parse_189 ⟨Nat.le_of_ble_eq_true rfl, Nat.le_of_ble_eq_true rfl⟩ (fun H locs hM => ?_)
                          refine lv_pop hx hb dX3_parse_192 rfl ?_
                          refine lv_goto (tgt := 201) hx hb dX3_parse_193 (by decide) ?_
                          have hM := hM.eq (htM ehc)
                          have hM := hM.eq (pm_eq (ds_6 t len (ln0 t len x) c_6 c_7 c_8 c_9 c_10 c_11))
                          refine lv_aload_n hx hb dX3_parse_201 rfl (lv_at hl 0 rfl) ?_
                          refine me_callVv (As := []) (rest := []) hC hl.1 hM (c_X3_next l D tb X z0 n kK kV a po ta NN len (rG (dsL t len (ln0 t len x))) t M9 (rp (dsL t len (ln0 t len x)))  hE ((ok_ds hy).2.2)) (kv_X3_38 hw rfl rfl ⟨Nat.le_of_ble_eq_true rfl, Nat.le_of_ble_eq_true rfl⟩) rfl rfl ((sp_out (by omega)).trans (me_up_s _ _ _)) rfl (Nat.le_of_ble_eq_true rfl) dX3_parse_202 ⟨Nat.le_of_ble_eq_true rfl, Nat.le_of_ble_eq_true rfl⟩ (fun H locs hM => ?_)
                          refine lv_iinc (v := nI (j + 1)) (lv' := [(1, .int (nI (j + 1))), (0, .ref po)]) hx hb dX3_parse_205 hl (k := 1) rfl (nx_add rfl rfl) (by decide) rfl (fun ls hl => ?_)
                          refine lv_goto (tgt := 52) hx hb dX3_parse_208 (by decide) ?_
                          exact ih_52 r1 (by omega) (j + 1) (lnL t len x) _ _ _ (by omega) (hq.trans (lo_t c_3 c_4)) (ok_ln hx9) (hM.eq lnL_M) (lv_sub hl [1, 0] rfl)
                      · have c_10 := b1_n0.mp c_10
                        refine lv_aload_n hx hb dX3_parse_165 rfl (lv_at hl 0 rfl) ?_
                        refine me_callVv (As := []) (rest := []) hC hl.1 hM (d_X3_whistleLine l D tb X z0 n kK kV a po ta NN len t M9 (ln0 t len x) hN hE hy) (kv_X3_85 hw rfl rfl ⟨Nat.le_of_ble_eq_true rfl, Nat.le_of_ble_eq_true rfl⟩) rfl rfl ((sp_out (by omega)).trans (me_up_s _ _ _)) rfl (Nat.le_of_ble_eq_true rfl) dX3_parse_166 ⟨Nat.le_of_ble_eq_true rfl, Nat.le_of_ble_eq_true rfl⟩ (fun H locs hM => ?_)
                        refine lv_goto (tgt := 201) hx hb dX3_parse_169 (by decide) ?_
                        have hM := hM.eq (pm_eq (ds_5 t len (ln0 t len x) c_6 c_7 c_8 c_9 c_10))
                        refine lv_aload_n hx hb dX3_parse_201 rfl (lv_at hl 0 rfl) ?_
                        refine me_callVv (As := []) (rest := []) hC hl.1 hM (c_X3_next l D tb X z0 n kK kV a po ta NN len (rG (dsL t len (ln0 t len x))) t M9 (rp (dsL t len (ln0 t len x)))  hE ((ok_ds hy).2.2)) (kv_X3_38 hw rfl rfl ⟨Nat.le_of_ble_eq_true rfl, Nat.le_of_ble_eq_true rfl⟩) rfl rfl ((sp_out (by omega)).trans (me_up_s _ _ _)) rfl (Nat.le_of_ble_eq_true rfl) dX3_parse_202 ⟨Nat.le_of_ble_eq_true rfl, Nat.le_of_ble_eq_true rfl⟩ (fun H locs hM => ?_)
                        refine lv_iinc (v := nI (j + 1)) (lv' := [(1, .int (nI (j + 1))), (0, .ref po)]) hx hb dX3_parse_205 hl (k := 1) rfl (nx_add rfl rfl) (by decide) rfl (fun ls hl => ?_)
                        refine lv_goto (tgt := 52) hx hb dX3_parse_208 (by decide) ?_
                        exact ih_52 r1 (by omega) (j + 1) (lnL t len x) _ _ _ (by omega) (hq.trans (lo_t c_3 c_4)) (ok_ln hx9) (hM.eq lnL_M) (lv_sub hl [1, 0] rfl)
                    · have c_9 := b1_n0.mp c_9
                      refine lv_aload_n hx hb dX3_parse_149 rfl (lv_at hl 0 rfl) ?_
                      refine me_callVv (As := []) (rest := []) hC hl.1 hM (d_X3_lendLine l D tb X z0 n kK kV a po ta NN len t M9 (ln0 t len x) hN hE hy) (kv_X3_80 hw rfl rfl ⟨Nat.le_of_ble_eq_true rfl, Nat.le_of_ble_eq_true rfl⟩) rfl rfl ((sp_out (by omega)).trans (me_up_s _ _ _)) rfl (Nat.le_of_ble_eq_true rfl) dX3_parse_150 ⟨Nat.le_of_ble_eq_true rfl, Nat.le_of_ble_eq_true rfl⟩ (fun H locs hM => ?_)
                      refine lv_goto (tgt := 201) hx hb dX3_parse_153 (by decide) ?_
                      have hM := hM.eq (pm_eq (ds_4 t len (ln0 t len x) c_6 c_7 c_8 c_9))
                      refine lv_aload_n hx hb dX3_parse_201 rfl (lv_at hl 0 rfl) ?_
                      refine me_callVv (As := []) (rest := []) hC hl.1 hM (c_X3_next l D tb X z0 n kK kV a po ta NN len (rG (dsL t len (ln0 t len x))) t M9 (rp (dsL t len (ln0 t len x)))  hE ((ok_ds hy).2.2)) (kv_X3_38 hw rfl rfl ⟨Nat.le_of_ble_eq_true rfl, Nat.le_of_ble_eq_true rfl⟩) rfl rfl ((sp_out (by omega)).trans (me_up_s _ _ _)) rfl (Nat.le_of_ble_eq_true rfl) dX3_parse_202 ⟨Nat.le_of_ble_eq_true rfl, Nat.le_of_ble_eq_true rfl⟩ (fun H locs hM => ?_)
                      refine lv_iinc (v := nI (j + 1)) (lv' := [(1, .int (nI (j + 1))), (0, .ref po)]) hx hb dX3_parse_205 hl (k := 1) rfl (nx_add rfl rfl) (by decide) rfl (fun ls hl => ?_)
                      refine lv_goto (tgt := 52) hx hb dX3_parse_208 (by decide) ?_
                      exact ih_52 r1 (by omega) (j + 1) (lnL t len x) _ _ _ (by omega) (hq.trans (lo_t c_3 c_4)) (ok_ln hx9) (hM.eq lnL_M) (lv_sub hl [1, 0] rfl)
                  · have c_8 := b1_n0.mp c_8
                    refine lv_aload_n hx hb dX3_parse_133 rfl (lv_at hl 0 rfl) ?_
                    refine me_callVv (As := []) (rest := []) hC hl.1 hM (d_X3_permitLine l D tb X z0 n kK kV a po ta NN len t M9 (ln0 t len x) hN hE hy) (kv_X3_75 hw rfl rfl ⟨Nat.le_of_ble_eq_true rfl, Nat.le_of_ble_eq_true rfl⟩) rfl rfl ((sp_out (by omega)).trans (me_up_s _ _ _)) rfl (Nat.le_of_ble_eq_true rfl) dX3_parse_134 ⟨Nat.le_of_ble_eq_true rfl, Nat.le_of_ble_eq_true rfl⟩ (fun H locs hM => ?_)
                    refine lv_goto (tgt := 201) hx hb dX3_parse_137 (by decide) ?_
                    have hM := hM.eq (pm_eq (ds_3 t len (ln0 t len x) c_6 c_7 c_8))
                    refine lv_aload_n hx hb dX3_parse_201 rfl (lv_at hl 0 rfl) ?_
                    refine me_callVv (As := []) (rest := []) hC hl.1 hM (c_X3_next l D tb X z0 n kK kV a po ta NN len (rG (dsL t len (ln0 t len x))) t M9 (rp (dsL t len (ln0 t len x)))  hE ((ok_ds hy).2.2)) (kv_X3_38 hw rfl rfl ⟨Nat.le_of_ble_eq_true rfl, Nat.le_of_ble_eq_true rfl⟩) rfl rfl ((sp_out (by omega)).trans (me_up_s _ _ _)) rfl (Nat.le_of_ble_eq_true rfl) dX3_parse_202 ⟨Nat.le_of_ble_eq_true rfl, Nat.le_of_ble_eq_true rfl⟩ (fun H locs hM => ?_)
                    refine lv_iinc (v := nI (j + 1)) (lv' := [(1, .int (nI (j + 1))), (0, .ref po)]) hx hb dX3_parse_205 hl (k := 1) rfl (nx_add rfl rfl) (by decide) rfl (fun ls hl => ?_)
                    refine lv_goto (tgt := 52) hx hb dX3_parse_208 (by decide) ?_
                    exact ih_52 r1 (by omega) (j + 1) (lnL t len x) _ _ _ (by omega) (hq.trans (lo_t c_3 c_4)) (ok_ln hx9) (hM.eq lnL_M) (lv_sub hl [1, 0] rfl)
                · have c_7 := b1_n0.mp c_7
                  refine lv_aload_n hx hb dX3_parse_117 rfl (lv_at hl 0 rfl) ?_
                  refine me_callVv (As := []) (rest := []) hC hl.1 hM (d_X3_borrowerLine l D tb X z0 n kK kV a po ta NN len t M9 (ln0 t len x) hN hE hy) (kv_X3_70 hw rfl rfl ⟨Nat.le_of_ble_eq_true rfl, Nat.le_of_ble_eq_true rfl⟩) rfl rfl ((sp_out (by omega)).trans (me_up_s _ _ _)) rfl (Nat.le_of_ble_eq_true rfl) dX3_parse_118 ⟨Nat.le_of_ble_eq_true rfl, Nat.le_of_ble_eq_true rfl⟩ (fun H locs hM => ?_)
                  refine lv_goto (tgt := 201) hx hb dX3_parse_121 (by decide) ?_
                  have hM := hM.eq (pm_eq (ds_2 t len (ln0 t len x) c_6 c_7))
                  refine lv_aload_n hx hb dX3_parse_201 rfl (lv_at hl 0 rfl) ?_
                  refine me_callVv (As := []) (rest := []) hC hl.1 hM (c_X3_next l D tb X z0 n kK kV a po ta NN len (rG (dsL t len (ln0 t len x))) t M9 (rp (dsL t len (ln0 t len x)))  hE ((ok_ds hy).2.2)) (kv_X3_38 hw rfl rfl ⟨Nat.le_of_ble_eq_true rfl, Nat.le_of_ble_eq_true rfl⟩) rfl rfl ((sp_out (by omega)).trans (me_up_s _ _ _)) rfl (Nat.le_of_ble_eq_true rfl) dX3_parse_202 ⟨Nat.le_of_ble_eq_true rfl, Nat.le_of_ble_eq_true rfl⟩ (fun H locs hM => ?_)
                  refine lv_iinc (v := nI (j + 1)) (lv' := [(1, .int (nI (j + 1))), (0, .ref po)]) hx hb dX3_parse_205 hl (k := 1) rfl (nx_add rfl rfl) (by decide) rfl (fun ls hl => ?_)
                  refine lv_goto (tgt := 52) hx hb dX3_parse_208 (by decide) ?_
                  exact ih_52 r1 (by omega) (j + 1) (lnL t len x) _ _ _ (by omega) (hq.trans (lo_t c_3 c_4)) (ok_ln hx9) (hM.eq lnL_M) (lv_sub hl [1, 0] rfl)
              · have c_6 := b1_n0.mp c_6
                refine lv_aload_n hx hb dX3_parse_101 rfl (lv_at hl 0 rfl) ?_
                refine me_callVv (As := []) (rest := []) hC hl.1 hM (d_X3_streetLine l D tb X z0 n kK kV a po ta NN len t M9 (ln0 t len x) hN hE hy) (kv_X3_65 hw rfl rfl ⟨Nat.le_of_ble_eq_true rfl, Nat.le_of_ble_eq_true rfl⟩) rfl rfl ((sp_out (by omega)).trans (me_up_s _ _ _)) rfl (Nat.le_of_ble_eq_true rfl) dX3_parse_102 ⟨Nat.le_of_ble_eq_true rfl, Nat.le_of_ble_eq_true rfl⟩ (fun H locs hM => ?_)
                refine lv_goto (tgt := 201) hx hb dX3_parse_105 (by decide) ?_
                have hM := hM.eq (pm_eq (ds_1 t len (ln0 t len x) c_6))
                refine lv_aload_n hx hb dX3_parse_201 rfl (lv_at hl 0 rfl) ?_
                refine me_callVv (As := []) (rest := []) hC hl.1 hM (c_X3_next l D tb X z0 n kK kV a po ta NN len (rG (dsL t len (ln0 t len x))) t M9 (rp (dsL t len (ln0 t len x)))  hE ((ok_ds hy).2.2)) (kv_X3_38 hw rfl rfl ⟨Nat.le_of_ble_eq_true rfl, Nat.le_of_ble_eq_true rfl⟩) rfl rfl ((sp_out (by omega)).trans (me_up_s _ _ _)) rfl (Nat.le_of_ble_eq_true rfl) dX3_parse_202 ⟨Nat.le_of_ble_eq_true rfl, Nat.le_of_ble_eq_true rfl⟩ (fun H locs hM => ?_)
                refine lv_iinc (v := nI (j + 1)) (lv' := [(1, .int (nI (j + 1))), (0, .ref po)]) hx hb dX3_parse_205 hl (k := 1) rfl (nx_add rfl rfl) (by decide) rfl (fun ls hl => ?_)
                refine lv_goto (tgt := 52) hx hb dX3_parse_208 (by decide) ?_
                exact ih_52 r1 (by omega) (j + 1) (lnL t len x) _ _ _ (by omega) (hq.trans (lo_t c_3 c_4)) (ok_ln hx9) (hM.eq lnL_M) (lv_sub hl [1, 0] rfl)
            · have c_5 := (not_congr (br_eq rfl (nx_c 3) (by omega) (by omega))).mp c_5
              refine lv_aload_n hx hb dX3_parse_83 rfl (lv_at hl 0 rfl) ?_
              refine lv_iconst (v := 1) hx hb dX3_parse_84 (by decide) ?_
              refine me_callVv (As := [.int 1]) (rest := []) hC hl.1 hM (c_X3_fail l D tb X z0 n kK kV a po ta NN len (rG (x)) t M9 (rp (x)) 1 hE hx9.2.2) (kv_X3_47 hw rfl rfl ⟨Nat.le_of_ble_eq_true rfl, Nat.le_of_ble_eq_true rfl⟩) rfl rfl ((sp_out (by omega)).trans (me_up_s _ _ _)) rfl (Nat.le_of_ble_eq_true rfl) dX3_parse_85 ⟨Nat.le_of_ble_eq_true rfl, Nat.le_of_ble_eq_true rfl⟩ (fun H locs hM => ?_)
              have hM := hM.eq (ps_eq (q' := fcP (¬ pTk (rp x) = 3) 1 (rp x)) (fc_t c_5).symm)
              refine lv_aload_n hx hb dX3_parse_88 rfl (lv_at hl 0 rfl) ?_
              refine me_callVv (As := []) (rest := []) hC hl.1 hM (c_X3_next l D tb X z0 n kK kV a po ta NN len (rG (x)) t M9 (fcP (¬ pTk (rp x) = 3) 1 (rp x))  hE (pv_fc (by decide) hx9.2.2)) (kv_X3_38 hw rfl rfl ⟨Nat.le_of_ble_eq_true rfl, Nat.le_of_ble_eq_true rfl⟩) rfl rfl ((sp_out (by omega)).trans (me_up_s _ _ _)) rfl (Nat.le_of_ble_eq_true rfl) dX3_parse_89 ⟨Nat.le_of_ble_eq_true rfl, Nat.le_of_ble_eq_true rfl⟩ (fun H locs hM => ?_)
              have hM := hM.eq ln0_M
              have hy := ok_ln0 (t := t) hx9
              refine lv_aload_n hx hb dX3_parse_92 rfl (lv_at hl 0 rfl) ?_
              refine va_ldcS hx hb hC.2.2.2.1 (hKS s hC.2.2.2.2.2.1.2).2.2.2.2.1 dX3_parse_93 ?_
              refine me_callVi (As := [.ref (kK 1)]) (rest := []) hC hl.1 hM (c_X3_isWord l D tb X z0 n kK kV a po ta NN len (rG (ln0 t len x)) t M9 (rp (ln0 t len x)) 1 hKS hE hy.2.2 (show 1 < 12 by decide)) (kv_X3_43 hw rfl rfl ⟨Nat.le_of_ble_eq_true rfl, Nat.le_of_ble_eq_true rfl⟩) rfl rfl ((sp_out (by omega)).trans (me_up_s _ _ _)) rfl (Nat.le_of_ble_eq_true rfl) dX3_parse_95 ⟨Nat.le_of_ble_eq_true rfl, Nat.le_of_ble_eq_true rfl⟩ (fun H locs hM => ?_)
              refine lv_if_eq (tgt := 108) hx hb dX3_parse_98 (by decide) (fun c_12 => ?_) (fun c_12 => ?_)
              · have c_12 := b1_0.mp c_12
                refine lv_aload_n hx hb dX3_parse_108 rfl (lv_at hl 0 rfl) ?_
                refine va_ldcS hx hb hC.2.2.2.1 (hKS s hC.2.2.2.2.2.1.2).2.2.2.2.2.1 dX3_parse_109 ?_
                refine me_callVi (As := [.ref (kK 2)]) (rest := []) hC hl.1 hM (c_X3_isWord l D tb X z0 n kK kV a po ta NN len (rG (ln0 t len x)) t M9 (rp (ln0 t len x)) 2 hKS hE hy.2.2 (show 2 < 12 by decide)) (kv_X3_43 hw rfl rfl ⟨Nat.le_of_ble_eq_true rfl, Nat.le_of_ble_eq_true rfl⟩) rfl rfl ((sp_out (by omega)).trans (me_up_s _ _ _)) rfl (Nat.le_of_ble_eq_true rfl) dX3_parse_111 ⟨Nat.le_of_ble_eq_true rfl, Nat.le_of_ble_eq_true rfl⟩ (fun H locs hM => ?_)
                refine lv_if_eq (tgt := 124) hx hb dX3_parse_114 (by decide) (fun c_13 => ?_) (fun c_13 => ?_)
                · have c_13 := b1_0.mp c_13
                  refine lv_aload_n hx hb dX3_parse_124 rfl (lv_at hl 0 rfl) ?_
                  refine va_ldcS hx hb hC.2.2.2.1 (hKS s hC.2.2.2.2.2.1.2).2.2.2.2.2.2.1 dX3_parse_125 ?_
                  refine me_callVi (As := [.ref (kK 3)]) (rest := []) hC hl.1 hM (c_X3_isWord l D tb X z0 n kK kV a po ta NN len (rG (ln0 t len x)) t M9 (rp (ln0 t len x)) 3 hKS hE hy.2.2 (show 3 < 12 by decide)) (kv_X3_43 hw rfl rfl ⟨Nat.le_of_ble_eq_true rfl, Nat.le_of_ble_eq_true rfl⟩) rfl rfl ((sp_out (by omega)).trans (me_up_s _ _ _)) rfl (Nat.le_of_ble_eq_true rfl) dX3_parse_127 ⟨Nat.le_of_ble_eq_true rfl, Nat.le_of_ble_eq_true rfl⟩ (fun H locs hM => ?_)
                  refine lv_if_eq (tgt := 140) hx hb dX3_parse_130 (by decide) (fun c_14 => ?_) (fun c_14 => ?_)
                  · have c_14 := b1_0.mp c_14
                    refine lv_aload_n hx hb dX3_parse_140 rfl (lv_at hl 0 rfl) ?_
                    refine va_ldcS hx hb hC.2.2.2.1 (hKS s hC.2.2.2.2.2.1.2).2.2.2.2.2.2.2.1 dX3_parse_141 ?_
                    refine me_callVi (As := [.ref (kK 4)]) (rest := []) hC hl.1 hM (c_X3_isWord l D tb X z0 n kK kV a po ta NN len (rG (ln0 t len x)) t M9 (rp (ln0 t len x)) 4 hKS hE hy.2.2 (show 4 < 12 by decide)) (kv_X3_43 hw rfl rfl ⟨Nat.le_of_ble_eq_true rfl, Nat.le_of_ble_eq_true rfl⟩) rfl rfl ((sp_out (by omega)).trans (me_up_s _ _ _)) rfl (Nat.le_of_ble_eq_true rfl) dX3_parse_143 ⟨Nat.le_of_ble_eq_true rfl, Nat.le_of_ble_eq_true rfl⟩ (fun H locs hM => ?_)
                    refine lv_if_eq (tgt := 156) hx hb dX3_parse_146 (by decide) (fun c_15 => ?_) (fun c_15 => ?_)
                    · have c_15 := b1_0.mp c_15
                      refine lv_aload_n hx hb dX3_parse_156 rfl (lv_at hl 0 rfl) ?_
                      refine va_ldcS hx hb hC.2.2.2.1 (hKS s hC.2.2.2.2.2.1.2).2.2.2.2.2.2.2.2.1 dX3_parse_157 ?_
                      refine me_callVi (As := [.ref (kK 5)]) (rest := []) hC hl.1 hM (c_X3_isWord l D tb X z0 n kK kV a po ta NN len (rG (ln0 t len x)) t M9 (rp (ln0 t len x)) 5 hKS hE hy.2.2 (show 5 < 12 by decide)) (kv_X3_43 hw rfl rfl ⟨Nat.le_of_ble_eq_true rfl, Nat.le_of_ble_eq_true rfl⟩) rfl rfl ((sp_out (by omega)).trans (me_up_s _ _ _)) rfl (Nat.le_of_ble_eq_true rfl) dX3_parse_159 ⟨Nat.le_of_ble_eq_true rfl, Nat.le_of_ble_eq_true rfl⟩ (fun H locs hM => ?_)
                      refine lv_if_eq (tgt := 172) hx hb dX3_parse_162 (by decide) (fun c_16 => ?_) (fun c_16 => ?_)
                      · have c_16 := b1_0.mp c_16
                        refine lv_aload_n hx hb dX3_parse_172 rfl (lv_at hl 0 rfl) ?_
                        refine va_ldcS hx hb hC.2.2.2.1 (hKS s hC.2.2.2.2.2.1.2).2.2.2.2.2.2.2.2.2.1 dX3_parse_173 ?_
                        refine me_callVi (As := [.ref (kK 6)]) (rest := []) hC hl.1 hM (c_X3_isWord l D tb X z0 n kK kV a po ta NN len (rG (ln0 t len x)) t M9 (rp (ln0 t len x)) 6 hKS hE hy.2.2 (show 6 < 12 by decide)) (kv_X3_43 hw rfl rfl ⟨Nat.le_of_ble_eq_true rfl, Nat.le_of_ble_eq_true rfl⟩) rfl rfl ((sp_out (by omega)).trans (me_up_s _ _ _)) rfl (Nat.le_of_ble_eq_true rfl) dX3_parse_175 ⟨Nat.le_of_ble_eq_true rfl, Nat.le_of_ble_eq_true rfl⟩ (fun H locs hM => ?_)
                        refine lv_if_eq (tgt := 196) hx hb dX3_parse_178 (by decide) (fun c_17 => ?_) (fun c_17 => ?_)
                        · have c_17 := b1_0.mp c_17
                          refine lv_aload_n hx hb dX3_parse_196 rfl (lv_at hl 0 rfl) ?_
                          refine lv_iconst (v := 1) hx hb dX3_parse_197 (by decide) ?_
                          refine me_callVv (As := [.int 1]) (rest := []) hC hl.1 hM (c_X3_fail l D tb X z0 n kK kV a po ta NN len (rG (ln0 t len x)) t M9 (rp (ln0 t len x)) 1 hE hy.2.2) (kv_X3_47 hw rfl rfl ⟨Nat.le_of_ble_eq_true rfl, Nat.le_of_ble_eq_true rfl⟩) rfl rfl ((sp_out (by omega)).trans (me_up_s _ _ _)) rfl (Nat.le_of_ble_eq_true rfl) dX3_parse_198 ⟨Nat.le_of_ble_eq_true rfl, Nat.le_of_ble_eq_true rfl⟩ (fun H locs hM => ?_)
                          have hM := hM.eq lnM_e
                          have hM := hM.eq (pm_eq (ds_7 t len (ln0 t len x) c_12 c_13 c_14 c_15 c_16 c_17))
                          refine lv_aload_n hx hb dX3_parse_201 rfl (lv_at hl 0 rfl) ?_
                          refine me_callVv (As := []) (rest := []) hC hl.1 hM (c_X3_next l D tb X z0 n kK kV a po ta NN len (rG (dsL t len (ln0 t len x))) t M9 (rp (dsL t len (ln0 t len x)))  hE ((ok_ds hy).2.2)) (kv_X3_38 hw rfl rfl ⟨Nat.le_of_ble_eq_true rfl, Nat.le_of_ble_eq_true rfl⟩) rfl rfl ((sp_out (by omega)).trans (me_up_s _ _ _)) rfl (Nat.le_of_ble_eq_true rfl) dX3_parse_202 ⟨Nat.le_of_ble_eq_true rfl, Nat.le_of_ble_eq_true rfl⟩ (fun H locs hM => ?_)
                          refine lv_iinc (v := nI (j + 1)) (lv' := [(1, .int (nI (j + 1))), (0, .ref po)]) hx hb dX3_parse_205 hl (k := 1) rfl (nx_add rfl rfl) (by decide) rfl (fun ls hl => ?_)
                          refine lv_goto (tgt := 52) hx hb dX3_parse_208 (by decide) ?_
                          exact ih_52 r1 (by omega) (j + 1) (lnL t len x) _ _ _ (by omega) (hq.trans (lo_t c_3 c_4)) (ok_ln hx9) (hM.eq lnL_M) (lv_sub hl [1, 0] rfl)
                        · have c_17 := b1_n0.mp c_17
                          refine lv_aload_n hx hb dX3_parse_181 rfl (lv_at hl 0 rfl) ?_
                          refine fg_X3_34 hC hM ((sp_out (by omega)).trans (me_up_s _ _ _)) rfl dX3_parse_182 ?_
                          refine lv_aload_n hx hb dX3_parse_185 rfl (lv_at hl 0 rfl) ?_
                          refine me_callVi (As := []) (rest := [.ref a]) hC hl.1 hM (c_X3_hoursToPass l D tb X z0 n kK kV a po ta NN len (rG (ln0 t len x)) t M9 (rp (ln0 t len x)) hE hy.2.2) (kv_X3_90 hw rfl rfl ⟨Nat.le_of_ble_eq_true rfl, Nat.le_of_ble_eq_true rfl⟩) rfl rfl ((sp_out (by omega)).trans (me_up_s _ _ _)) rfl (Nat.le_of_ble_eq_true rfl) dX3_parse_186 ⟨Nat.le_of_ble_eq_true rfl, Nat.le_of_ble_eq_true rfl⟩ (fun H locs hM => ?_)
                          obtain ⟨T9, eT9, hT9⟩ := hy.2.1
                          obtain ⟨hh, hh0, hh1, ehh⟩ := ht_nat (t := t) hy eT9 hT9
                          have ehc : (htV t len (ln0 t len x)).toNatClampNeg = hh := by rw [ehh]; exact nI_clamp (by omega)
                          refine me_evi (y := nI hh) ehh ?_
                          refine me_callVi (As := [.int (nI hh)]) (rest := []) hC hl.1 hM (c_X5_passHours l D tb X z0 n a (rG (ln0 t len x)) (me_up M9 po (.inr (3, ps_fs ta len a (nuP t len 1 (mnF 99 (9999 - (rG (ln0 t len x)) 2)) (rp (ln0 t len x)))))) (rS (ln0 t len x)) (rB (ln0 t len x)) (rL (ln0 t len x)) (rP (ln0 t len x)) hh hN hy.1 (by omega)) (kv_X3_94 hw rfl rfl ⟨Nat.le_of_ble_eq_true rfl, Nat.le_of_ble_eq_true rfl⟩) rfl rfl (sp_st _ _ _ _) rfl (Nat.le_of_ble_eq_true rfl) dX3_parse_189 ⟨Nat.le_of_ble_eq_true rfl, Nat.le_of_ble_eq_true rfl⟩ (fun H locs hM => ?_)
                          refine lv_pop hx hb dX3_parse_192 rfl ?_
                          refine lv_goto (tgt := 201) hx hb dX3_parse_193 (by decide) ?_
                          have hM := hM.eq (htM ehc)
                          have hM := hM.eq (pm_eq (ds_6 t len (ln0 t len x) c_12 c_13 c_14 c_15 c_16 c_17))
                          refine lv_aload_n hx hb dX3_parse_201 rfl (lv_at hl 0 rfl) ?_
                          refine me_callVv (As := []) (rest := []) hC hl.1 hM (c_X3_next l D tb X z0 n kK kV a po ta NN len (rG (dsL t len (ln0 t len x))) t M9 (rp (dsL t len (ln0 t len x)))  hE ((ok_ds hy).2.2)) (kv_X3_38 hw rfl rfl ⟨Nat.le_of_ble_eq_true rfl, Nat.le_of_ble_eq_true rfl⟩) rfl rfl ((sp_out (by omega)).trans (me_up_s _ _ _)) rfl (Nat.le_of_ble_eq_true rfl) dX3_parse_202 ⟨Nat.le_of_ble_eq_true rfl, Nat.le_of_ble_eq_true rfl⟩ (fun H locs hM => ?_)
                          refine lv_iinc (v := nI (j + 1)) (lv' := [(1, .int (nI (j + 1))), (0, .ref po)]) hx hb dX3_parse_205 hl (k := 1) rfl (nx_add rfl rfl) (by decide) rfl (fun ls hl => ?_)
                          refine lv_goto (tgt := 52) hx hb dX3_parse_208 (by decide) ?_
                          exact ih_52 r1 (by omega) (j + 1) (lnL t len x) _ _ _ (by omega) (hq.trans (lo_t c_3 c_4)) (ok_ln hx9) (hM.eq lnL_M) (lv_sub hl [1, 0] rfl)
                      · have c_16 := b1_n0.mp c_16
                        refine lv_aload_n hx hb dX3_parse_165 rfl (lv_at hl 0 rfl) ?_
                        refine me_callVv (As := []) (rest := []) hC hl.1 hM (d_X3_whistleLine l D tb X z0 n kK kV a po ta NN len t M9 (ln0 t len x) hN hE hy) (kv_X3_85 hw rfl rfl ⟨Nat.le_of_ble_eq_true rfl, Nat.le_of_ble_eq_true rfl⟩) rfl rfl ((sp_out (by omega)).trans (me_up_s _ _ _)) rfl (Nat.le_of_ble_eq_true rfl) dX3_parse_166 ⟨Nat.le_of_ble_eq_true rfl, Nat.le_of_ble_eq_true rfl⟩ (fun H locs hM => ?_)
                        refine lv_goto (tgt := 201) hx hb dX3_parse_169 (by decide) ?_
                        have hM := hM.eq (pm_eq (ds_5 t len (ln0 t len x) c_12 c_13 c_14 c_15 c_16))
                        refine lv_aload_n hx hb dX3_parse_201 rfl (lv_at hl 0 rfl) ?_
                        refine me_callVv (As := []) (rest := []) hC hl.1 hM (c_X3_next l D tb X z0 n kK kV a po ta NN len (rG (dsL t len (ln0 t len x))) t M9 (rp (dsL t len (ln0 t len x)))  hE ((ok_ds hy).2.2)) (kv_X3_38 hw rfl rfl ⟨Nat.le_of_ble_eq_true rfl, Nat.le_of_ble_eq_true rfl⟩) rfl rfl ((sp_out (by omega)).trans (me_up_s _ _ _)) rfl (Nat.le_of_ble_eq_true rfl) dX3_parse_202 ⟨Nat.le_of_ble_eq_true rfl, Nat.le_of_ble_eq_true rfl⟩ (fun H locs hM => ?_)
                        refine lv_iinc (v := nI (j + 1)) (lv' := [(1, .int (nI (j + 1))), (0, .ref po)]) hx hb dX3_parse_205 hl (k := 1) rfl (nx_add rfl rfl) (by decide) rfl (fun ls hl => ?_)
                        refine lv_goto (tgt := 52) hx hb dX3_parse_208 (by decide) ?_
                        exact ih_52 r1 (by omega) (j + 1) (lnL t len x) _ _ _ (by omega) (hq.trans (lo_t c_3 c_4)) (ok_ln hx9) (hM.eq lnL_M) (lv_sub hl [1, 0] rfl)
                    · have c_15 := b1_n0.mp c_15
                      refine lv_aload_n hx hb dX3_parse_149 rfl (lv_at hl 0 rfl) ?_
                      refine me_callVv (As := []) (rest := []) hC hl.1 hM (d_X3_lendLine l D tb X z0 n kK kV a po ta NN len t M9 (ln0 t len x) hN hE hy) (kv_X3_80 hw rfl rfl ⟨Nat.le_of_ble_eq_true rfl, Nat.le_of_ble_eq_true rfl⟩) rfl rfl ((sp_out (by omega)).trans (me_up_s _ _ _)) rfl (Nat.le_of_ble_eq_true rfl) dX3_parse_150 ⟨Nat.le_of_ble_eq_true rfl, Nat.le_of_ble_eq_true rfl⟩ (fun H locs hM => ?_)
                      refine lv_goto (tgt := 201) hx hb dX3_parse_153 (by decide) ?_
                      have hM := hM.eq (pm_eq (ds_4 t len (ln0 t len x) c_12 c_13 c_14 c_15))
                      refine lv_aload_n hx hb dX3_parse_201 rfl (lv_at hl 0 rfl) ?_
                      refine me_callVv (As := []) (rest := []) hC hl.1 hM (c_X3_next l D tb X z0 n kK kV a po ta NN len (rG (dsL t len (ln0 t len x))) t M9 (rp (dsL t len (ln0 t len x)))  hE ((ok_ds hy).2.2)) (kv_X3_38 hw rfl rfl ⟨Nat.le_of_ble_eq_true rfl, Nat.le_of_ble_eq_true rfl⟩) rfl rfl ((sp_out (by omega)).trans (me_up_s _ _ _)) rfl (Nat.le_of_ble_eq_true rfl) dX3_parse_202 ⟨Nat.le_of_ble_eq_true rfl, Nat.le_of_ble_eq_true rfl⟩ (fun H locs hM => ?_)
                      refine lv_iinc (v := nI (j + 1)) (lv' := [(1, .int (nI (j + 1))), (0, .ref po)]) hx hb dX3_parse_205 hl (k := 1) rfl (nx_add rfl rfl) (by decide) rfl (fun ls hl => ?_)
                      refine lv_goto (tgt := 52) hx hb dX3_parse_208 (by decide) ?_
                      exact ih_52 r1 (by omega) (j + 1) (lnL t len x) _ _ _ (by omega) (hq.trans (lo_t c_3 c_4)) (ok_ln hx9) (hM.eq lnL_M) (lv_sub hl [1, 0] rfl)
                  · have c_14 := b1_n0.mp c_14
                    refine lv_aload_n hx hb dX3_parse_133 rfl (lv_at hl 0 rfl) ?_
                    refine me_callVv (As := []) (rest := []) hC hl.1 hM (d_X3_permitLine l D tb X z0 n kK kV a po ta NN len t M9 (ln0 t len x) hN hE hy) (kv_X3_75 hw rfl rfl ⟨Nat.le_of_ble_eq_true rfl, Nat.le_of_ble_eq_true rfl⟩) rfl rfl ((sp_out (by omega)).trans (me_up_s _ _ _)) rfl (Nat.le_of_ble_eq_true rfl) dX3_parse_134 ⟨Nat.le_of_ble_eq_true rfl, Nat.le_of_ble_eq_true rfl⟩ (fun H locs hM => ?_)
                    refine lv_goto (tgt := 201) hx hb dX3_parse_137 (by decide) ?_
                    have hM := hM.eq (pm_eq (ds_3 t len (ln0 t len x) c_12 c_13 c_14))
                    refine lv_aload_n hx hb dX3_parse_201 rfl (lv_at hl 0 rfl) ?_
                    refine me_callVv (As := []) (rest := []) hC hl.1 hM (c_X3_next l D tb X z0 n kK kV a po ta NN len (rG (dsL t len (ln0 t len x))) t M9 (rp (dsL t len (ln0 t len x)))  hE ((ok_ds hy).2.2)) (kv_X3_38 hw rfl rfl ⟨Nat.le_of_ble_eq_true rfl, Nat.le_of_ble_eq_true rfl⟩) rfl rfl ((sp_out (by omega)).trans (me_up_s _ _ _)) rfl (Nat.le_of_ble_eq_true rfl) dX3_parse_202 ⟨Nat.le_of_ble_eq_true rfl, Nat.le_of_ble_eq_true rfl⟩ (fun H locs hM => ?_)
                    refine lv_iinc (v := nI (j + 1)) (lv' := [(1, .int (nI (j + 1))), (0, .ref po)]) hx hb dX3_parse_205 hl (k := 1) rfl (nx_add rfl rfl) (by decide) rfl (fun ls hl => ?_)
                    refine lv_goto (tgt := 52) hx hb dX3_parse_208 (by decide) ?_
                    exact ih_52 r1 (by omega) (j + 1) (lnL t len x) _ _ _ (by omega) (hq.trans (lo_t c_3 c_4)) (ok_ln hx9) (hM.eq lnL_M) (lv_sub hl [1, 0] rfl)
                · have c_13 := b1_n0.mp c_13
                  refine lv_aload_n hx hb dX3_parse_117 rfl (lv_at hl 0 rfl) ?_
                  refine me_callVv (As := []) (rest := []) hC hl.1 hM (d_X3_borrowerLine l D tb X z0 n kK kV a po ta NN len t M9 (ln0 t len x) hN hE hy) (kv_X3_70 hw rfl rfl ⟨Nat.le_of_ble_eq_true rfl, Nat.le_of_ble_eq_true rfl⟩) rfl rfl ((sp_out (by omega)).trans (me_up_s _ _ _)) rfl (Nat.le_of_ble_eq_true rfl) dX3_parse_118 ⟨Nat.le_of_ble_eq_true rfl, Nat.le_of_ble_eq_true rfl⟩ (fun H locs hM => ?_)
                  refine lv_goto (tgt := 201) hx hb dX3_parse_121 (by decide) ?_
                  have hM := hM.eq (pm_eq (ds_2 t len (ln0 t len x) c_12 c_13))
                  refine lv_aload_n hx hb dX3_parse_201 rfl (lv_at hl 0 rfl) ?_
                  refine me_callVv (As := []) (rest := []) hC hl.1 hM (c_X3_next l D tb X z0 n kK kV a po ta NN len (rG (dsL t len (ln0 t len x))) t M9 (rp (dsL t len (ln0 t len x)))  hE ((ok_ds hy).2.2)) (kv_X3_38 hw rfl rfl ⟨Nat.le_of_ble_eq_true rfl, Nat.le_of_ble_eq_true rfl⟩) rfl rfl ((sp_out (by omega)).trans (me_up_s _ _ _)) rfl (Nat.le_of_ble_eq_true rfl) dX3_parse_202 ⟨Nat.le_of_ble_eq_true rfl, Nat.le_of_ble_eq_true rfl⟩ (fun H locs hM => ?_)
                  refine lv_iinc (v := nI (j + 1)) (lv' := [(1, .int (nI (j + 1))), (0, .ref po)]) hx hb dX3_parse_205 hl (k := 1) rfl (nx_add rfl rfl) (by decide) rfl (fun ls hl => ?_)
                  refine lv_goto (tgt := 52) hx hb dX3_parse_208 (by decide) ?_
                  exact ih_52 r1 (by omega) (j + 1) (lnL t len x) _ _ _ (by omega) (hq.trans (lo_t c_3 c_4)) (ok_ln hx9) (hM.eq lnL_M) (lv_sub hl [1, 0] rfl)
              · have c_12 := b1_n0.mp c_12
                refine lv_aload_n hx hb dX3_parse_101 rfl (lv_at hl 0 rfl) ?_
                refine me_callVv (As := []) (rest := []) hC hl.1 hM (d_X3_streetLine l D tb X z0 n kK kV a po ta NN len t M9 (ln0 t len x) hN hE hy) (kv_X3_65 hw rfl rfl ⟨Nat.le_of_ble_eq_true rfl, Nat.le_of_ble_eq_true rfl⟩) rfl rfl ((sp_out (by omega)).trans (me_up_s _ _ _)) rfl (Nat.le_of_ble_eq_true rfl) dX3_parse_102 ⟨Nat.le_of_ble_eq_true rfl, Nat.le_of_ble_eq_true rfl⟩ (fun H locs hM => ?_)
                refine lv_goto (tgt := 201) hx hb dX3_parse_105 (by decide) ?_
                have hM := hM.eq (pm_eq (ds_1 t len (ln0 t len x) c_12))
                refine lv_aload_n hx hb dX3_parse_201 rfl (lv_at hl 0 rfl) ?_
                refine me_callVv (As := []) (rest := []) hC hl.1 hM (c_X3_next l D tb X z0 n kK kV a po ta NN len (rG (dsL t len (ln0 t len x))) t M9 (rp (dsL t len (ln0 t len x)))  hE ((ok_ds hy).2.2)) (kv_X3_38 hw rfl rfl ⟨Nat.le_of_ble_eq_true rfl, Nat.le_of_ble_eq_true rfl⟩) rfl rfl ((sp_out (by omega)).trans (me_up_s _ _ _)) rfl (Nat.le_of_ble_eq_true rfl) dX3_parse_202 ⟨Nat.le_of_ble_eq_true rfl, Nat.le_of_ble_eq_true rfl⟩ (fun H locs hM => ?_)
                refine lv_iinc (v := nI (j + 1)) (lv' := [(1, .int (nI (j + 1))), (0, .ref po)]) hx hb dX3_parse_205 hl (k := 1) rfl (nx_add rfl rfl) (by decide) rfl (fun ls hl => ?_)
                refine lv_goto (tgt := 52) hx hb dX3_parse_208 (by decide) ?_
                exact ih_52 r1 (by omega) (j + 1) (lnL t len x) _ _ _ (by omega) (hq.trans (lo_t c_3 c_4)) (ok_ln hx9) (hM.eq lnL_M) (lv_sub hl [1, 0] rfl)
    exact lp_52 len 0 (paH t len (g, S, B, L, P, ps)) _ _ _ (by omega) (by unfold paF; rfl) (ok_paH hx0) hM (lv_sub hl [1, 0] rfl)
  · have c_1 := b1_0.mp c_1
    refine lv_aload_n hx hb dX3_parse_13 rfl (lv_at hl 0 rfl) ?_
    refine lv_iconst (v := 1) hx hb dX3_parse_14 (by decide) ?_
    refine me_callVv (As := [.int 1]) (rest := []) hC hl.1 hM (c_X3_fail l D tb X z0 n kK kV a po ta NN len g t M9 (nxP t len ps) 1 hE (pv_nx (t := t) hp)) (kv_X3_47 hw rfl rfl ⟨Nat.le_of_ble_eq_true rfl, Nat.le_of_ble_eq_true rfl⟩) rfl rfl ((sp_out (by omega)).trans (me_up_s _ _ _)) rfl (Nat.le_of_ble_eq_true rfl) dX3_parse_15 ⟨Nat.le_of_ble_eq_true rfl, Nat.le_of_ble_eq_true rfl⟩ (fun H locs hM => ?_)
    have hM := hM.eq (ps_eq (q' := pa0 t len ps) (by unfold pa0; exact (fc_t c_1).symm))
    have ha0 := pv_pa0 (t := t) hp
    refine lv_aload_n hx hb dX3_parse_18 rfl (lv_at hl 0 rfl) ?_
    refine fg_X3_34 hC hM ((sp_out (by omega)).trans (me_up_s _ _ _)) rfl dX3_parse_19 ?_
    refine lv_aload_n hx hb dX3_parse_22 rfl (lv_at hl 0 rfl) ?_
    refine lv_iconst (v := 1) hx hb dX3_parse_23 (by decide) ?_
    refine lv_bipush (v := 24) hx hb dX3_parse_24 (by decide) ?_
    refine me_callVi (As := [.int 1, .int 24]) (rest := [.ref a]) hC hl.1 hM (c_X3_number l D tb X z0 n kK kV a po ta NN len g t M9 (pa0 t len ps) 1 24 hE ha0) (kv_X3_51 hw rfl rfl ⟨Nat.le_of_ble_eq_true rfl, Nat.le_of_ble_eq_true rfl⟩) rfl rfl ((sp_out (by omega)).trans (me_up_s _ _ _)) rfl (Nat.le_of_ble_eq_true rfl) dX3_parse_26 ⟨Nat.le_of_ble_eq_true rfl, Nat.le_of_ble_eq_true rfl⟩ (fun H locs hM => ?_)
    refine fp_X3_55 hC hM (sp_st _ _ _ _) (Nat.le_of_ble_eq_true rfl) (M2 := sp tb a (upd g (0) (nuV t len 1 24 (pa0 t len ps))) (me_up M9 po (.inr (3, ps_fs ta len a (nuP t len 1 24 (pa0 t len ps)))))) (sp_w_st 0 (by decide) (by simp [upd])) dX3_parse_29 (fun H locs hM => ?_)
    refine lv_aload_n hx hb dX3_parse_32 rfl (lv_at hl 0 rfl) ?_
    refine fg_X3_34 hC hM ((sp_out (by omega)).trans (me_up_s _ _ _)) rfl dX3_parse_33 ?_
    refine lv_aload_n hx hb dX3_parse_36 rfl (lv_at hl 0 rfl) ?_
    refine lv_iconst (v := 0) hx hb dX3_parse_37 (by decide) ?_
    refine lv_bipush (v := 99) hx hb dX3_parse_38 (by decide) ?_
    refine me_callVi (As := [.int 0, .int 99]) (rest := [.ref a]) hC hl.1 hM (c_X3_number l D tb X z0 n kK kV a po ta NN len (upd g (0) (nuV t len 1 24 (pa0 t len ps))) t M9 (nuP t len 1 24 (pa0 t len ps)) 0 99 hE (pv_nu (t := t) (a := 1) (b := 24) ha0)) (kv_X3_51 hw rfl rfl ⟨Nat.le_of_ble_eq_true rfl, Nat.le_of_ble_eq_true rfl⟩) rfl rfl ((sp_out (by omega)).trans (me_up_s _ _ _)) rfl (Nat.le_of_ble_eq_true rfl) dX3_parse_40 ⟨Nat.le_of_ble_eq_true rfl, Nat.le_of_ble_eq_true rfl⟩ (fun H locs hM => ?_)
    refine fp_X3_60 hC hM (sp_st _ _ _ _) (Nat.le_of_ble_eq_true rfl) (M2 := sp tb a (upd (upd g (0) (nuV t len 1 24 (pa0 t len ps))) (1) (nuV t len 0 99 (nuP t len 1 24 (pa0 t len ps)))) (me_up M9 po (.inr (3, ps_fs ta len a (nuP t len 0 99 (nuP t len 1 24 (pa0 t len ps))))))) (sp_w_st 1 (by decide) (by simp [upd])) dX3_parse_43 (fun H locs hM => ?_)
    refine lv_aload_n hx hb dX3_parse_46 rfl (lv_at hl 0 rfl) ?_
    refine me_callVv (As := []) (rest := []) hC hl.1 hM (c_X3_next l D tb X z0 n kK kV a po ta NN len (upd (upd g (0) (nuV t len 1 24 (pa0 t len ps))) (1) (nuV t len 0 99 (nuP t len 1 24 (pa0 t len ps)))) t M9 (nuP t len 0 99 (nuP t len 1 24 (pa0 t len ps)))  hE (pv_nu (t := t) (a := 0) (b := 99) (pv_nu (t := t) (a := 1) (b := 24) ha0))) (kv_X3_38 hw rfl rfl ⟨Nat.le_of_ble_eq_true rfl, Nat.le_of_ble_eq_true rfl⟩) rfl rfl ((sp_out (by omega)).trans (me_up_s _ _ _)) rfl (Nat.le_of_ble_eq_true rfl) dX3_parse_47 ⟨Nat.le_of_ble_eq_true rfl, Nat.le_of_ble_eq_true rfl⟩ (fun H locs hM => ?_)
    have hM := hM.eq (paH_M (S := S) (B := B) (L := L) (P := P))
    refine lv_iconst (v := 0) hx hb dX3_parse_50 (by decide) ?_
    refine lv_istore_n (lv' := [(1, .int 0), (0, .ref po)]) hx hb dX3_parse_51 rfl hl (by decide) rfl (fun ls hl => ?_)
    have lp_52 : ∀ (r : Nat) (j : Nat) (x : PR) (H : Heap) (locs : List Loc) (ls : Array Slot), (j + r = len) → (paF t len (g, S, B, L, P, ps) = loP t len r x) → (okP len x) → me_at D z0 (sp tb a (rG (x)) (me_up M9 po (.inr (3, ps_fs ta len a (rp (x)))))) n s H locs → lv_has ls 2 [(0, .ref po), (1, .int (nI j))] → W p l e (({ frames := 5, cells := 0, slots := 0, locals := 116 } : Room)) s m args below meth c H locs 0 0 (MQ below (me_Qv D z0 (pmM tb a po ta len M9 (paF t len (g, S, B, L, P, ps))) n) args s 0 0 (me_A z0)) (F0 m 52 ls []) := by
      intro r
      refine Nat.strongRecOn r ?_
      intro r ih_52 j x H locs ls hk hq hx9 hM hl
      obtain ⟨x1, x2, x3, x4⟩ := id hx9.2.2
      refine lv_iload_n hx hb dX3_parse_52 rfl (lv_at hl 1 rfl) ?_
      refine lv_aload_n hx hb dX3_parse_53 rfl (lv_at hl 0 rfl) ?_
      refine fg_X3_31 hC hM ((sp_out (by omega)).trans (me_up_s _ _ _)) rfl dX3_parse_54 ?_
      refine lv_icmp_ge (tgt := 211) hx hb dX3_parse_57 (by decide) (fun c_18 => ?_) (fun c_18 => ?_)
      · have c_18 := (br_le rfl rfl (by omega) (by omega)).mp c_18
        exact me_vret hC hr hlk hM (pm_eq (x := x) (by rw [hq, show r = 0 by omega]; rfl)) (rfl) dX3_parse_211
      · have c_18 := (not_congr (br_le rfl rfl (by omega) (by omega))).mp c_18
        obtain ⟨r1, rfl⟩ : ∃ r1, r = r1 + 1 := ⟨r - 1, by omega⟩
        refine lv_aload_n hx hb dX3_parse_60 rfl (lv_at hl 0 rfl) ?_
        refine fg_X3_21 hC hM ((sp_out (by omega)).trans (me_up_s _ _ _)) rfl dX3_parse_61 ?_
        refine lv_if_ne (tgt := 211) hx hb dX3_parse_64 (by decide) (fun c_19 => ?_) (fun c_19 => ?_)
        · have c_19 := (not_congr (br_eq rfl (show (0 : Int32) = nI 0 from rfl) (by omega) (by omega))).mp c_19
          exact me_vret hC hr hlk hM (pm_eq (x := x) ((hq.trans (lo_f0 c_19)).symm)) (rfl) dX3_parse_211
        · have c_19 := (br_eq rfl (show (0 : Int32) = nI 0 from rfl) (by omega) (by omega)).mp c_19
          refine lv_aload_n hx hb dX3_parse_67 rfl (lv_at hl 0 rfl) ?_
          refine fg_X3_15 hC hM ((sp_out (by omega)).trans (me_up_s _ _ _)) rfl dX3_parse_68 ?_
          refine lv_iconst (v := 4) hx hb dX3_parse_71 (by decide) ?_
          refine lv_icmp_eq (tgt := 211) hx hb dX3_parse_72 (by decide) (fun c_20 => ?_) (fun c_20 => ?_)
          · have c_20 := (br_eq rfl (nx_c 4) (by omega) (by omega)).mp c_20
            exact me_vret hC hr hlk hM (pm_eq (x := x) ((hq.trans (lo_f4 c_20)).symm)) (rfl) dX3_parse_211
          · have c_20 := (not_congr (br_eq rfl (nx_c 4) (by omega) (by omega))).mp c_20
            refine lv_aload_n hx hb dX3_parse_75 rfl (lv_at hl 0 rfl) ?_
            refine fg_X3_15 hC hM ((sp_out (by omega)).trans (me_up_s _ _ _)) rfl dX3_parse_76 ?_
            refine lv_iconst (v := 3) hx hb dX3_parse_79 (by decide) ?_
            refine lv_icmp_eq (tgt := 88) hx hb dX3_parse_80 (by decide) (fun c_21 => ?_) (fun c_21 => ?_)
            · have c_21 := (br_eq rfl (nx_c 3) (by omega) (by omega)).mp c_21
              have hM := hM.eq (ps_eq (q' := fcP (¬ pTk (rp x) = 3) 1 (rp x)) (fc_f (fun z => z c_21)).symm)
              refine lv_aload_n hx hb dX3_parse_88 rfl (lv_at hl 0 rfl) ?_
              refine me_callVv (As := []) (rest := []) hC hl.1 hM (c_X3_next l D tb X z0 n kK kV a po ta NN len (rG (x)) t M9 (fcP (¬ pTk (rp x) = 3) 1 (rp x))  hE (pv_fc (by decide) hx9.2.2)) (kv_X3_38 hw rfl rfl ⟨Nat.le_of_ble_eq_true rfl, Nat.le_of_ble_eq_true rfl⟩) rfl rfl ((sp_out (by omega)).trans (me_up_s _ _ _)) rfl (Nat.le_of_ble_eq_true rfl) dX3_parse_89 ⟨Nat.le_of_ble_eq_true rfl, Nat.le_of_ble_eq_true rfl⟩ (fun H locs hM => ?_)
              have hM := hM.eq ln0_M
              have hy := ok_ln0 (t := t) hx9
              refine lv_aload_n hx hb dX3_parse_92 rfl (lv_at hl 0 rfl) ?_
              refine va_ldcS hx hb hC.2.2.2.1 (hKS s hC.2.2.2.2.2.1.2).2.2.2.2.1 dX3_parse_93 ?_
              refine me_callVi (As := [.ref (kK 1)]) (rest := []) hC hl.1 hM (c_X3_isWord l D tb X z0 n kK kV a po ta NN len (rG (ln0 t len x)) t M9 (rp (ln0 t len x)) 1 hKS hE hy.2.2 (show 1 < 12 by decide)) (kv_X3_43 hw rfl rfl ⟨Nat.le_of_ble_eq_true rfl, Nat.le_of_ble_eq_true rfl⟩) rfl rfl ((sp_out (by omega)).trans (me_up_s _ _ _)) rfl (Nat.le_of_ble_eq_true rfl) dX3_parse_95 ⟨Nat.le_of_ble_eq_true rfl, Nat.le_of_ble_eq_true rfl⟩ (fun H locs hM => ?_)
              refine lv_if_eq (tgt := 108) hx hb dX3_parse_98 (by decide) (fun c_22 => ?_) (fun c_22 => ?_)
              · have c_22 := b1_0.mp c_22
                refine lv_aload_n hx hb dX3_parse_108 rfl (lv_at hl 0 rfl) ?_
                refine va_ldcS hx hb hC.2.2.2.1 (hKS s hC.2.2.2.2.2.1.2).2.2.2.2.2.1 dX3_parse_109 ?_
                refine me_callVi (As := [.ref (kK 2)]) (rest := []) hC hl.1 hM (c_X3_isWord l D tb X z0 n kK kV a po ta NN len (rG (ln0 t len x)) t M9 (rp (ln0 t len x)) 2 hKS hE hy.2.2 (show 2 < 12 by decide)) (kv_X3_43 hw rfl rfl ⟨Nat.le_of_ble_eq_true rfl, Nat.le_of_ble_eq_true rfl⟩) rfl rfl ((sp_out (by omega)).trans (me_up_s _ _ _)) rfl (Nat.le_of_ble_eq_true rfl) dX3_parse_111 ⟨Nat.le_of_ble_eq_true rfl, Nat.le_of_ble_eq_true rfl⟩ (fun H locs hM => ?_)
                refine lv_if_eq (tgt := 124) hx hb dX3_parse_114 (by decide) (fun c_23 => ?_) (fun c_23 => ?_)
                · have c_23 := b1_0.mp c_23
                  refine lv_aload_n hx hb dX3_parse_124 rfl (lv_at hl 0 rfl) ?_
                  refine va_ldcS hx hb hC.2.2.2.1 (hKS s hC.2.2.2.2.2.1.2).2.2.2.2.2.2.1 dX3_parse_125 ?_
                  refine me_callVi (As := [.ref (kK 3)]) (rest := []) hC hl.1 hM (c_X3_isWord l D tb X z0 n kK kV a po ta NN len (rG (ln0 t len x)) t M9 (rp (ln0 t len x)) 3 hKS hE hy.2.2 (show 3 < 12 by decide)) (kv_X3_43 hw rfl rfl ⟨Nat.le_of_ble_eq_true rfl, Nat.le_of_ble_eq_true rfl⟩) rfl rfl ((sp_out (by omega)).trans (me_up_s _ _ _)) rfl (Nat.le_of_ble_eq_true rfl) dX3_parse_127 ⟨Nat.le_of_ble_eq_true rfl, Nat.le_of_ble_eq_true rfl⟩ (fun H locs hM => ?_)
                  refine lv_if_eq (tgt := 140) hx hb dX3_parse_130 (by decide) (fun c_24 => ?_) (fun c_24 => ?_)
                  · have c_24 := b1_0.mp c_24
                    refine lv_aload_n hx hb dX3_parse_140 rfl (lv_at hl 0 rfl) ?_
                    refine va_ldcS hx hb hC.2.2.2.1 (hKS s hC.2.2.2.2.2.1.2).2.2.2.2.2.2.2.1 dX3_parse_141 ?_
                    refine me_callVi (As := [.ref (kK 4)]) (rest := []) hC hl.1 hM (c_X3_isWord l D tb X z0 n kK kV a po ta NN len (rG (ln0 t len x)) t M9 (rp (ln0 t len x)) 4 hKS hE hy.2.2 (show 4 < 12 by decide)) (kv_X3_43 hw rfl rfl ⟨Nat.le_of_ble_eq_true rfl, Nat.le_of_ble_eq_true rfl⟩) rfl rfl ((sp_out (by omega)).trans (me_up_s _ _ _)) rfl (Nat.le_of_ble_eq_true rfl) dX3_parse_143 ⟨Nat.le_of_ble_eq_true rfl, Nat.le_of_ble_eq_true rfl⟩ (fun H locs hM => ?_)
                    refine lv_if_eq (tgt := 156) hx hb dX3_parse_146 (by decide) (fun c_25 => ?_) (fun c_25 => ?_)
                    · have c_25 := b1_0.mp c_25
                      refine lv_aload_n hx hb dX3_parse_156 rfl (lv_at hl 0 rfl) ?_
                      refine va_ldcS hx hb hC.2.2.2.1 (hKS s hC.2.2.2.2.2.1.2).2.2.2.2.2.2.2.2.1 dX3_parse_157 ?_
                      refine me_callVi (As := [.ref (kK 5)]) (rest := []) hC hl.1 hM (c_X3_isWord l D tb X z0 n kK kV a po ta NN len (rG (ln0 t len x)) t M9 (rp (ln0 t len x)) 5 hKS hE hy.2.2 (show 5 < 12 by decide)) (kv_X3_43 hw rfl rfl ⟨Nat.le_of_ble_eq_true rfl, Nat.le_of_ble_eq_true rfl⟩) rfl rfl ((sp_out (by omega)).trans (me_up_s _ _ _)) rfl (Nat.le_of_ble_eq_true rfl) dX3_parse_159 ⟨Nat.le_of_ble_eq_true rfl, Nat.le_of_ble_eq_true rfl⟩ (fun H locs hM => ?_)
                      refine lv_if_eq (tgt := 172) hx hb dX3_parse_162 (by decide) (fun c_26 => ?_) (fun c_26 => ?_)
                      · have c_26 := b1_0.mp c_26
                        refine lv_aload_n hx hb dX3_parse_172 rfl (lv_at hl 0 rfl) ?_
                        refine va_ldcS hx hb hC.2.2.2.1 (hKS s hC.2.2.2.2.2.1.2).2.2.2.2.2.2.2.2.2.1 dX3_parse_173 ?_
                        refine me_callVi (As := [.ref (kK 6)]) (rest := []) hC hl.1 hM (c_X3_isWord l D tb X z0 n kK kV a po ta NN len (rG (ln0 t len x)) t M9 (rp (ln0 t len x)) 6 hKS hE hy.2.2 (show 6 < 12 by decide)) (kv_X3_43 hw rfl rfl ⟨Nat.le_of_ble_eq_true rfl, Nat.le_of_ble_eq_true rfl⟩) rfl rfl ((sp_out (by omega)).trans (me_up_s _ _ _)) rfl (Nat.le_of_ble_eq_true rfl) dX3_parse_175 ⟨Nat.le_of_ble_eq_true rfl, Nat.le_of_ble_eq_true rfl⟩ (fun H locs hM => ?_)
                        refine lv_if_eq (tgt := 196) hx hb dX3_parse_178 (by decide) (fun c_27 => ?_) (fun c_27 => ?_)
                        · have c_27 := b1_0.mp c_27
                          refine lv_aload_n hx hb dX3_parse_196 rfl (lv_at hl 0 rfl) ?_
                          refine lv_iconst (v := 1) hx hb dX3_parse_197 (by decide) ?_
                          refine me_callVv (As := [.int 1]) (rest := []) hC hl.1 hM (c_X3_fail l D tb X z0 n kK kV a po ta NN len (rG (ln0 t len x)) t M9 (rp (ln0 t len x)) 1 hE hy.2.2) (kv_X3_47 hw rfl rfl ⟨Nat.le_of_ble_eq_true rfl, Nat.le_of_ble_eq_true rfl⟩) rfl rfl ((sp_out (by omega)).trans (me_up_s _ _ _)) rfl (Nat.le_of_ble_eq_true rfl) dX3_parse_198 ⟨Nat.le_of_ble_eq_true rfl, Nat.le_of_ble_eq_true rfl⟩ (fun H locs hM => ?_)
                          have hM := hM.eq lnM_e
                          have hM := hM.eq (pm_eq (ds_7 t len (ln0 t len x) c_22 c_23 c_24 c_25 c_26 c_27))
                          refine lv_aload_n hx hb dX3_parse_201 rfl (lv_at hl 0 rfl) ?_
                          refine me_callVv (As := []) (rest := []) hC hl.1 hM (c_X3_next l D tb X z0 n kK kV a po ta NN len (rG (dsL t len (ln0 t len x))) t M9 (rp (dsL t len (ln0 t len x)))  hE ((ok_ds hy).2.2)) (kv_X3_38 hw rfl rfl ⟨Nat.le_of_ble_eq_true rfl, Nat.le_of_ble_eq_true rfl⟩) rfl rfl ((sp_out (by omega)).trans (me_up_s _ _ _)) rfl (Nat.le_of_ble_eq_true rfl) dX3_parse_202 ⟨Nat.le_of_ble_eq_true rfl, Nat.le_of_ble_eq_true rfl⟩ (fun H locs hM => ?_)
                          refine lv_iinc (v := nI (j + 1)) (lv' := [(1, .int (nI (j + 1))), (0, .ref po)]) hx hb dX3_parse_205 hl (k := 1) rfl (nx_add rfl rfl) (by decide) rfl (fun ls hl => ?_)
                          refine lv_goto (tgt := 52) hx hb dX3_parse_208 (by decide) ?_
                          exact ih_52 r1 (by omega) (j + 1) (lnL t len x) _ _ _ (by omega) (hq.trans (lo_t c_19 c_20)) (ok_ln hx9) (hM.eq lnL_M) (lv_sub hl [1, 0] rfl)
                        · have c_27 := b1_n0.mp c_27
                          refine lv_aload_n hx hb dX3_parse_181 rfl (lv_at hl 0 rfl) ?_
                          refine fg_X3_34 hC hM ((sp_out (by omega)).trans (me_up_s _ _ _)) rfl dX3_parse_182 ?_
                          refine lv_aload_n hx hb dX3_parse_185 rfl (lv_at hl 0 rfl) ?_
                          refine me_callVi (As := []) (rest := [.ref a]) hC hl.1 hM (c_X3_hoursToPass l D tb X z0 n kK kV a po ta NN len (rG (ln0 t len x)) t M9 (rp (ln0 t len x)) hE hy.2.2) (kv_X3_90 hw rfl rfl ⟨Nat.le_of_ble_eq_true rfl, Nat.le_of_ble_eq_true rfl⟩) rfl rfl ((sp_out (by omega)).trans (me_up_s _ _ _)) rfl (Nat.le_of_ble_eq_true rfl) dX3_parse_186 ⟨Nat.le_of_ble_eq_true rfl, Nat.le_of_ble_eq_true rfl⟩ (fun H locs hM => ?_)
                          obtain ⟨T9, eT9, hT9⟩ := hy.2.1
                          obtain ⟨hh, hh0, hh1, ehh⟩ := ht_nat (t := t) hy eT9 hT9
                          have ehc : (htV t len (ln0 t len x)).toNatClampNeg = hh := by rw [ehh]; exact nI_clamp (by omega)
                          refine me_evi (y := nI hh) ehh ?_
                          refine me_callVi (As := [.int (nI hh)]) (rest := []) hC hl.1 hM (c_X5_passHours l D tb X z0 n a (rG (ln0 t len x)) (me_up M9 po (.inr (3, ps_fs ta len a (nuP t len 1 (mnF 99 (9999 - (rG (ln0 t len x)) 2)) (rp (ln0 t len x)))))) (rS (ln0 t len x)) (rB (ln0 t len x)) (rL (ln0 t len x)) (rP (ln0 t len x)) hh hN hy.1 (by omega)) (kv_X3_94 hw rfl rfl ⟨Nat.le_of_ble_eq_true rfl, Nat.le_of_ble_eq_true rfl⟩) rfl rfl (sp_st _ _ _ _) rfl (Nat.le_of_ble_eq_true rfl) dX3_parse_189 ⟨Nat.le_of_ble_eq_true rfl, Nat.le_of_ble_eq_true rfl⟩ (fun H locs hM => ?_)
                          refine lv_pop hx hb dX3_parse_192 rfl ?_
                          refine lv_goto (tgt := 201) hx hb dX3_parse_193 (by decide) ?_
                          have hM := hM.eq (htM ehc)
                          have hM := hM.eq (pm_eq (ds_6 t len (ln0 t len x) c_22 c_23 c_24 c_25 c_26 c_27))
                          refine lv_aload_n hx hb dX3_parse_201 rfl (lv_at hl 0 rfl) ?_
                          refine me_callVv (As := []) (rest := []) hC hl.1 hM (c_X3_next l D tb X z0 n kK kV a po ta NN len (rG (dsL t len (ln0 t len x))) t M9 (rp (dsL t len (ln0 t len x)))  hE ((ok_ds hy).2.2)) (kv_X3_38 hw rfl rfl ⟨Nat.le_of_ble_eq_true rfl, Nat.le_of_ble_eq_true rfl⟩) rfl rfl ((sp_out (by omega)).trans (me_up_s _ _ _)) rfl (Nat.le_of_ble_eq_true rfl) dX3_parse_202 ⟨Nat.le_of_ble_eq_true rfl, Nat.le_of_ble_eq_true rfl⟩ (fun H locs hM => ?_)
                          refine lv_iinc (v := nI (j + 1)) (lv' := [(1, .int (nI (j + 1))), (0, .ref po)]) hx hb dX3_parse_205 hl (k := 1) rfl (nx_add rfl rfl) (by decide) rfl (fun ls hl => ?_)
                          refine lv_goto (tgt := 52) hx hb dX3_parse_208 (by decide) ?_
                          exact ih_52 r1 (by omega) (j + 1) (lnL t len x) _ _ _ (by omega) (hq.trans (lo_t c_19 c_20)) (ok_ln hx9) (hM.eq lnL_M) (lv_sub hl [1, 0] rfl)
                      · have c_26 := b1_n0.mp c_26
                        refine lv_aload_n hx hb dX3_parse_165 rfl (lv_at hl 0 rfl) ?_
                        refine me_callVv (As := []) (rest := []) hC hl.1 hM (d_X3_whistleLine l D tb X z0 n kK kV a po ta NN len t M9 (ln0 t len x) hN hE hy) (kv_X3_85 hw rfl rfl ⟨Nat.le_of_ble_eq_true rfl, Nat.le_of_ble_eq_true rfl⟩) rfl rfl ((sp_out (by omega)).trans (me_up_s _ _ _)) rfl (Nat.le_of_ble_eq_true rfl) dX3_parse_166 ⟨Nat.le_of_ble_eq_true rfl, Nat.le_of_ble_eq_true rfl⟩ (fun H locs hM => ?_)
                        refine lv_goto (tgt := 201) hx hb dX3_parse_169 (by decide) ?_
                        have hM := hM.eq (pm_eq (ds_5 t len (ln0 t len x) c_22 c_23 c_24 c_25 c_26))
                        refine lv_aload_n hx hb dX3_parse_201 rfl (lv_at hl 0 rfl) ?_
                        refine me_callVv (As := []) (rest := []) hC hl.1 hM (c_X3_next l D tb X z0 n kK kV a po ta NN len (rG (dsL t len (ln0 t len x))) t M9 (rp (dsL t len (ln0 t len x)))  hE ((ok_ds hy).2.2)) (kv_X3_38 hw rfl rfl ⟨Nat.le_of_ble_eq_true rfl, Nat.le_of_ble_eq_true rfl⟩) rfl rfl ((sp_out (by omega)).trans (me_up_s _ _ _)) rfl (Nat.le_of_ble_eq_true rfl) dX3_parse_202 ⟨Nat.le_of_ble_eq_true rfl, Nat.le_of_ble_eq_true rfl⟩ (fun H locs hM => ?_)
                        refine lv_iinc (v := nI (j + 1)) (lv' := [(1, .int (nI (j + 1))), (0, .ref po)]) hx hb dX3_parse_205 hl (k := 1) rfl (nx_add rfl rfl) (by decide) rfl (fun ls hl => ?_)
                        refine lv_goto (tgt := 52) hx hb dX3_parse_208 (by decide) ?_
                        exact ih_52 r1 (by omega) (j + 1) (lnL t len x) _ _ _ (by omega) (hq.trans (lo_t c_19 c_20)) (ok_ln hx9) (hM.eq lnL_M) (lv_sub hl [1, 0] rfl)
                    · have c_25 := b1_n0.mp c_25
                      refine lv_aload_n hx hb dX3_parse_149 rfl (lv_at hl 0 rfl) ?_
                      refine me_callVv (As := []) (rest := []) hC hl.1 hM (d_X3_lendLine l D tb X z0 n kK kV a po ta NN len t M9 (ln0 t len x) hN hE hy) (kv_X3_80 hw rfl rfl ⟨Nat.le_of_ble_eq_true rfl, Nat.le_of_ble_eq_true rfl⟩) rfl rfl ((sp_out (by omega)).trans (me_up_s _ _ _)) rfl (Nat.le_of_ble_eq_true rfl) dX3_parse_150 ⟨Nat.le_of_ble_eq_true rfl, Nat.le_of_ble_eq_true rfl⟩ (fun H locs hM => ?_)
                      refine lv_goto (tgt := 201) hx hb dX3_parse_153 (by decide) ?_
                      have hM := hM.eq (pm_eq (ds_4 t len (ln0 t len x) c_22 c_23 c_24 c_25))
                      refine lv_aload_n hx hb dX3_parse_201 rfl (lv_at hl 0 rfl) ?_
                      refine me_callVv (As := []) (rest := []) hC hl.1 hM (c_X3_next l D tb X z0 n kK kV a po ta NN len (rG (dsL t len (ln0 t len x))) t M9 (rp (dsL t len (ln0 t len x)))  hE ((ok_ds hy).2.2)) (kv_X3_38 hw rfl rfl ⟨Nat.le_of_ble_eq_true rfl, Nat.le_of_ble_eq_true rfl⟩) rfl rfl ((sp_out (by omega)).trans (me_up_s _ _ _)) rfl (Nat.le_of_ble_eq_true rfl) dX3_parse_202 ⟨Nat.le_of_ble_eq_true rfl, Nat.le_of_ble_eq_true rfl⟩ (fun H locs hM => ?_)
                      refine lv_iinc (v := nI (j + 1)) (lv' := [(1, .int (nI (j + 1))), (0, .ref po)]) hx hb dX3_parse_205 hl (k := 1) rfl (nx_add rfl rfl) (by decide) rfl (fun ls hl => ?_)
                      refine lv_goto (tgt := 52) hx hb dX3_parse_208 (by decide) ?_
                      exact ih_52 r1 (by omega) (j + 1) (lnL t len x) _ _ _ (by omega) (hq.trans (lo_t c_19 c_20)) (ok_ln hx9) (hM.eq lnL_M) (lv_sub hl [1, 0] rfl)
                  · have c_24 := b1_n0.mp c_24
                    refine lv_aload_n hx hb dX3_parse_133 rfl (lv_at hl 0 rfl) ?_
                    refine me_callVv (As := []) (rest := []) hC hl.1 hM (d_X3_permitLine l D tb X z0 n kK kV a po ta NN len t M9 (ln0 t len x) hN hE hy) (kv_X3_75 hw rfl rfl ⟨Nat.le_of_ble_eq_true rfl, Nat.le_of_ble_eq_true rfl⟩) rfl rfl ((sp_out (by omega)).trans (me_up_s _ _ _)) rfl (Nat.le_of_ble_eq_true rfl) dX3_parse_134 ⟨Nat.le_of_ble_eq_true rfl, Nat.le_of_ble_eq_true rfl⟩ (fun H locs hM => ?_)
                    refine lv_goto (tgt := 201) hx hb dX3_parse_137 (by decide) ?_
                    have hM := hM.eq (pm_eq (ds_3 t len (ln0 t len x) c_22 c_23 c_24))
                    refine lv_aload_n hx hb dX3_parse_201 rfl (lv_at hl 0 rfl) ?_
                    refine me_callVv (As := []) (rest := []) hC hl.1 hM (c_X3_next l D tb X z0 n kK kV a po ta NN len (rG (dsL t len (ln0 t len x))) t M9 (rp (dsL t len (ln0 t len x)))  hE ((ok_ds hy).2.2)) (kv_X3_38 hw rfl rfl ⟨Nat.le_of_ble_eq_true rfl, Nat.le_of_ble_eq_true rfl⟩) rfl rfl ((sp_out (by omega)).trans (me_up_s _ _ _)) rfl (Nat.le_of_ble_eq_true rfl) dX3_parse_202 ⟨Nat.le_of_ble_eq_true rfl, Nat.le_of_ble_eq_true rfl⟩ (fun H locs hM => ?_)
                    refine lv_iinc (v := nI (j + 1)) (lv' := [(1, .int (nI (j + 1))), (0, .ref po)]) hx hb dX3_parse_205 hl (k := 1) rfl (nx_add rfl rfl) (by decide) rfl (fun ls hl => ?_)
                    refine lv_goto (tgt := 52) hx hb dX3_parse_208 (by decide) ?_
                    exact ih_52 r1 (by omega) (j + 1) (lnL t len x) _ _ _ (by omega) (hq.trans (lo_t c_19 c_20)) (ok_ln hx9) (hM.eq lnL_M) (lv_sub hl [1, 0] rfl)
                · have c_23 := b1_n0.mp c_23
                  refine lv_aload_n hx hb dX3_parse_117 rfl (lv_at hl 0 rfl) ?_
                  refine me_callVv (As := []) (rest := []) hC hl.1 hM (d_X3_borrowerLine l D tb X z0 n kK kV a po ta NN len t M9 (ln0 t len x) hN hE hy) (kv_X3_70 hw rfl rfl ⟨Nat.le_of_ble_eq_true rfl, Nat.le_of_ble_eq_true rfl⟩) rfl rfl ((sp_out (by omega)).trans (me_up_s _ _ _)) rfl (Nat.le_of_ble_eq_true rfl) dX3_parse_118 ⟨Nat.le_of_ble_eq_true rfl, Nat.le_of_ble_eq_true rfl⟩ (fun H locs hM => ?_)
                  refine lv_goto (tgt := 201) hx hb dX3_parse_121 (by decide) ?_
                  have hM := hM.eq (pm_eq (ds_2 t len (ln0 t len x) c_22 c_23))
                  refine lv_aload_n hx hb dX3_parse_201 rfl (lv_at hl 0 rfl) ?_
                  refine me_callVv (As := []) (rest := []) hC hl.1 hM (c_X3_next l D tb X z0 n kK kV a po ta NN len (rG (dsL t len (ln0 t len x))) t M9 (rp (dsL t len (ln0 t len x)))  hE ((ok_ds hy).2.2)) (kv_X3_38 hw rfl rfl ⟨Nat.le_of_ble_eq_true rfl, Nat.le_of_ble_eq_true rfl⟩) rfl rfl ((sp_out (by omega)).trans (me_up_s _ _ _)) rfl (Nat.le_of_ble_eq_true rfl) dX3_parse_202 ⟨Nat.le_of_ble_eq_true rfl, Nat.le_of_ble_eq_true rfl⟩ (fun H locs hM => ?_)
                  refine lv_iinc (v := nI (j + 1)) (lv' := [(1, .int (nI (j + 1))), (0, .ref po)]) hx hb dX3_parse_205 hl (k := 1) rfl (nx_add rfl rfl) (by decide) rfl (fun ls hl => ?_)
                  refine lv_goto (tgt := 52) hx hb dX3_parse_208 (by decide) ?_
                  exact ih_52 r1 (by omega) (j + 1) (lnL t len x) _ _ _ (by omega) (hq.trans (lo_t c_19 c_20)) (ok_ln hx9) (hM.eq lnL_M) (lv_sub hl [1, 0] rfl)
              · have c_22 := b1_n0.mp c_22
                refine lv_aload_n hx hb dX3_parse_101 rfl (lv_at hl 0 rfl) ?_
                refine me_callVv (As := []) (rest := []) hC hl.1 hM (d_X3_streetLine l D tb X z0 n kK kV a po ta NN len t M9 (ln0 t len x) hN hE hy) (kv_X3_65 hw rfl rfl ⟨Nat.le_of_ble_eq_true rfl, Nat.le_of_ble_eq_true rfl⟩) rfl rfl ((sp_out (by omega)).trans (me_up_s _ _ _)) rfl (Nat.le_of_ble_eq_true rfl) dX3_parse_102 ⟨Nat.le_of_ble_eq_true rfl, Nat.le_of_ble_eq_true rfl⟩ (fun H locs hM => ?_)
                refine lv_goto (tgt := 201) hx hb dX3_parse_105 (by decide) ?_
                have hM := hM.eq (pm_eq (ds_1 t len (ln0 t len x) c_22))
                refine lv_aload_n hx hb dX3_parse_201 rfl (lv_at hl 0 rfl) ?_
                refine me_callVv (As := []) (rest := []) hC hl.1 hM (c_X3_next l D tb X z0 n kK kV a po ta NN len (rG (dsL t len (ln0 t len x))) t M9 (rp (dsL t len (ln0 t len x)))  hE ((ok_ds hy).2.2)) (kv_X3_38 hw rfl rfl ⟨Nat.le_of_ble_eq_true rfl, Nat.le_of_ble_eq_true rfl⟩) rfl rfl ((sp_out (by omega)).trans (me_up_s _ _ _)) rfl (Nat.le_of_ble_eq_true rfl) dX3_parse_202 ⟨Nat.le_of_ble_eq_true rfl, Nat.le_of_ble_eq_true rfl⟩ (fun H locs hM => ?_)
                refine lv_iinc (v := nI (j + 1)) (lv' := [(1, .int (nI (j + 1))), (0, .ref po)]) hx hb dX3_parse_205 hl (k := 1) rfl (nx_add rfl rfl) (by decide) rfl (fun ls hl => ?_)
                refine lv_goto (tgt := 52) hx hb dX3_parse_208 (by decide) ?_
                exact ih_52 r1 (by omega) (j + 1) (lnL t len x) _ _ _ (by omega) (hq.trans (lo_t c_19 c_20)) (ok_ln hx9) (hM.eq lnL_M) (lv_sub hl [1, 0] rfl)
            · have c_21 := (not_congr (br_eq rfl (nx_c 3) (by omega) (by omega))).mp c_21
              refine lv_aload_n hx hb dX3_parse_83 rfl (lv_at hl 0 rfl) ?_
              refine lv_iconst (v := 1) hx hb dX3_parse_84 (by decide) ?_
              refine me_callVv (As := [.int 1]) (rest := []) hC hl.1 hM (c_X3_fail l D tb X z0 n kK kV a po ta NN len (rG (x)) t M9 (rp (x)) 1 hE hx9.2.2) (kv_X3_47 hw rfl rfl ⟨Nat.le_of_ble_eq_true rfl, Nat.le_of_ble_eq_true rfl⟩) rfl rfl ((sp_out (by omega)).trans (me_up_s _ _ _)) rfl (Nat.le_of_ble_eq_true rfl) dX3_parse_85 ⟨Nat.le_of_ble_eq_true rfl, Nat.le_of_ble_eq_true rfl⟩ (fun H locs hM => ?_)
              have hM := hM.eq (ps_eq (q' := fcP (¬ pTk (rp x) = 3) 1 (rp x)) (fc_t c_21).symm)
              refine lv_aload_n hx hb dX3_parse_88 rfl (lv_at hl 0 rfl) ?_
              refine me_callVv (As := []) (rest := []) hC hl.1 hM (c_X3_next l D tb X z0 n kK kV a po ta NN len (rG (x)) t M9 (fcP (¬ pTk (rp x) = 3) 1 (rp x))  hE (pv_fc (by decide) hx9.2.2)) (kv_X3_38 hw rfl rfl ⟨Nat.le_of_ble_eq_true rfl, Nat.le_of_ble_eq_true rfl⟩) rfl rfl ((sp_out (by omega)).trans (me_up_s _ _ _)) rfl (Nat.le_of_ble_eq_true rfl) dX3_parse_89 ⟨Nat.le_of_ble_eq_true rfl, Nat.le_of_ble_eq_true rfl⟩ (fun H locs hM => ?_)
              have hM := hM.eq ln0_M
              have hy := ok_ln0 (t := t) hx9
              refine lv_aload_n hx hb dX3_parse_92 rfl (lv_at hl 0 rfl) ?_
              refine va_ldcS hx hb hC.2.2.2.1 (hKS s hC.2.2.2.2.2.1.2).2.2.2.2.1 dX3_parse_93 ?_
              refine me_callVi (As := [.ref (kK 1)]) (rest := []) hC hl.1 hM (c_X3_isWord l D tb X z0 n kK kV a po ta NN len (rG (ln0 t len x)) t M9 (rp (ln0 t len x)) 1 hKS hE hy.2.2 (show 1 < 12 by decide)) (kv_X3_43 hw rfl rfl ⟨Nat.le_of_ble_eq_true rfl, Nat.le_of_ble_eq_true rfl⟩) rfl rfl ((sp_out (by omega)).trans (me_up_s _ _ _)) rfl (Nat.le_of_ble_eq_true rfl) dX3_parse_95 ⟨Nat.le_of_ble_eq_true rfl, Nat.le_of_ble_eq_true rfl⟩ (fun H locs hM => ?_)
              refine lv_if_eq (tgt := 108) hx hb dX3_parse_98 (by decide) (fun c_28 => ?_) (fun c_28 => ?_)
              · have c_28 := b1_0.mp c_28
                refine lv_aload_n hx hb dX3_parse_108 rfl (lv_at hl 0 rfl) ?_
                refine va_ldcS hx hb hC.2.2.2.1 (hKS s hC.2.2.2.2.2.1.2).2.2.2.2.2.1 dX3_parse_109 ?_
                refine me_callVi (As := [.ref (kK 2)]) (rest := []) hC hl.1 hM (c_X3_isWord l D tb X z0 n kK kV a po ta NN len (rG (ln0 t len x)) t M9 (rp (ln0 t len x)) 2 hKS hE hy.2.2 (show 2 < 12 by decide)) (kv_X3_43 hw rfl rfl ⟨Nat.le_of_ble_eq_true rfl, Nat.le_of_ble_eq_true rfl⟩) rfl rfl ((sp_out (by omega)).trans (me_up_s _ _ _)) rfl (Nat.le_of_ble_eq_true rfl) dX3_parse_111 ⟨Nat.le_of_ble_eq_true rfl, Nat.le_of_ble_eq_true rfl⟩ (fun H locs hM => ?_)
                refine lv_if_eq (tgt := 124) hx hb dX3_parse_114 (by decide) (fun c_29 => ?_) (fun c_29 => ?_)
                · have c_29 := b1_0.mp c_29
                  refine lv_aload_n hx hb dX3_parse_124 rfl (lv_at hl 0 rfl) ?_
                  refine va_ldcS hx hb hC.2.2.2.1 (hKS s hC.2.2.2.2.2.1.2).2.2.2.2.2.2.1 dX3_parse_125 ?_
                  refine me_callVi (As := [.ref (kK 3)]) (rest := []) hC hl.1 hM (c_X3_isWord l D tb X z0 n kK kV a po ta NN len (rG (ln0 t len x)) t M9 (rp (ln0 t len x)) 3 hKS hE hy.2.2 (show 3 < 12 by decide)) (kv_X3_43 hw rfl rfl ⟨Nat.le_of_ble_eq_true rfl, Nat.le_of_ble_eq_true rfl⟩) rfl rfl ((sp_out (by omega)).trans (me_up_s _ _ _)) rfl (Nat.le_of_ble_eq_true rfl) dX3_parse_127 ⟨Nat.le_of_ble_eq_true rfl, Nat.le_of_ble_eq_true rfl⟩ (fun H locs hM => ?_)
                  refine lv_if_eq (tgt := 140) hx hb dX3_parse_130 (by decide) (fun c_30 => ?_) (fun c_30 => ?_)
                  · have c_30 := b1_0.mp c_30
                    refine lv_aload_n hx hb dX3_parse_140 rfl (lv_at hl 0 rfl) ?_
                    refine va_ldcS hx hb hC.2.2.2.1 (hKS s hC.2.2.2.2.2.1.2).2.2.2.2.2.2.2.1 dX3_parse_141 ?_
                    refine me_callVi (As := [.ref (kK 4)]) (rest := []) hC hl.1 hM (c_X3_isWord l D tb X z0 n kK kV a po ta NN len (rG (ln0 t len x)) t M9 (rp (ln0 t len x)) 4 hKS hE hy.2.2 (show 4 < 12 by decide)) (kv_X3_43 hw rfl rfl ⟨Nat.le_of_ble_eq_true rfl, Nat.le_of_ble_eq_true rfl⟩) rfl rfl ((sp_out (by omega)).trans (me_up_s _ _ _)) rfl (Nat.le_of_ble_eq_true rfl) dX3_parse_143 ⟨Nat.le_of_ble_eq_true rfl, Nat.le_of_ble_eq_true rfl⟩ (fun H locs hM => ?_)
                    refine lv_if_eq (tgt := 156) hx hb dX3_parse_146 (by decide) (fun c_31 => ?_) (fun c_31 => ?_)
                    · have c_31 := b1_0.mp c_31
                      refine lv_aload_n hx hb dX3_parse_156 rfl (lv_at hl 0 rfl) ?_
                      refine va_ldcS hx hb hC.2.2.2.1 (hKS s hC.2.2.2.2.2.1.2).2.2.2.2.2.2.2.2.1 dX3_parse_157 ?_
                      refine me_callVi (As := [.ref (kK 5)]) (rest := []) hC hl.1 hM (c_X3_isWord l D tb X z0 n kK kV a po ta NN len (rG (ln0 t len x)) t M9 (rp (ln0 t len x)) 5 hKS hE hy.2.2 (show 5 < 12 by decide)) (kv_X3_43 hw rfl rfl ⟨Nat.le_of_ble_eq_true rfl, Nat.le_of_ble_eq_true rfl⟩) rfl rfl ((sp_out (by omega)).trans (me_up_s _ _ _)) rfl (Nat.le_of_ble_eq_true rfl) dX3_parse_159 ⟨Nat.le_of_ble_eq_true rfl, Nat.le_of_ble_eq_true rfl⟩ (fun H locs hM => ?_)
                      refine lv_if_eq (tgt := 172) hx hb dX3_parse_162 (by decide) (fun c_32 => ?_) (fun c_32 => ?_)
                      · have c_32 := b1_0.mp c_32
                        refine lv_aload_n hx hb dX3_parse_172 rfl (lv_at hl 0 rfl) ?_
                        refine va_ldcS hx hb hC.2.2.2.1 (hKS s hC.2.2.2.2.2.1.2).2.2.2.2.2.2.2.2.2.1 dX3_parse_173 ?_
                        refine me_callVi (As := [.ref (kK 6)]) (rest := []) hC hl.1 hM (c_X3_isWord l D tb X z0 n kK kV a po ta NN len (rG (ln0 t len x)) t M9 (rp (ln0 t len x)) 6 hKS hE hy.2.2 (show 6 < 12 by decide)) (kv_X3_43 hw rfl rfl ⟨Nat.le_of_ble_eq_true rfl, Nat.le_of_ble_eq_true rfl⟩) rfl rfl ((sp_out (by omega)).trans (me_up_s _ _ _)) rfl (Nat.le_of_ble_eq_true rfl) dX3_parse_175 ⟨Nat.le_of_ble_eq_true rfl, Nat.le_of_ble_eq_true rfl⟩ (fun H locs hM => ?_)
                        refine lv_if_eq (tgt := 196) hx hb dX3_parse_178 (by decide) (fun c_33 => ?_) (fun c_33 => ?_)
                        · have c_33 := b1_0.mp c_33
                          refine lv_aload_n hx hb dX3_parse_196 rfl (lv_at hl 0 rfl) ?_
                          refine lv_iconst (v := 1) hx hb dX3_parse_197 (by decide) ?_
                          refine me_callVv (As := [.int 1]) (rest := []) hC hl.1 hM (c_X3_fail l D tb X z0 n kK kV a po ta NN len (rG (ln0 t len x)) t M9 (rp (ln0 t len x)) 1 hE hy.2.2) (kv_X3_47 hw rfl rfl ⟨Nat.le_of_ble_eq_true rfl, Nat.le_of_ble_eq_true rfl⟩) rfl rfl ((sp_out (by omega)).trans (me_up_s _ _ _)) rfl (Nat.le_of_ble_eq_true rfl) dX3_parse_198 ⟨Nat.le_of_ble_eq_true rfl, Nat.le_of_ble_eq_true rfl⟩ (fun H locs hM => ?_)
                          have hM := hM.eq lnM_e
                          have hM := hM.eq (pm_eq (ds_7 t len (ln0 t len x) c_28 c_29 c_30 c_31 c_32 c_33))
                          refine lv_aload_n hx hb dX3_parse_201 rfl (lv_at hl 0 rfl) ?_
                          refine me_callVv (As := []) (rest := []) hC hl.1 hM (c_X3_next l D tb X z0 n kK kV a po ta NN len (rG (dsL t len (ln0 t len x))) t M9 (rp (dsL t len (ln0 t len x)))  hE ((ok_ds hy).2.2)) (kv_X3_38 hw rfl rfl ⟨Nat.le_of_ble_eq_true rfl, Nat.le_of_ble_eq_true rfl⟩) rfl rfl ((sp_out (by omega)).trans (me_up_s _ _ _)) rfl (Nat.le_of_ble_eq_true rfl) dX3_parse_202 ⟨Nat.le_of_ble_eq_true rfl, Nat.le_of_ble_eq_true rfl⟩ (fun H locs hM => ?_)
                          refine lv_iinc (v := nI (j + 1)) (lv' := [(1, .int (nI (j + 1))), (0, .ref po)]) hx hb dX3_parse_205 hl (k := 1) rfl (nx_add rfl rfl) (by decide) rfl (fun ls hl => ?_)
                          refine lv_goto (tgt := 52) hx hb dX3_parse_208 (by decide) ?_
                          exact ih_52 r1 (by omega) (j + 1) (lnL t len x) _ _ _ (by omega) (hq.trans (lo_t c_19 c_20)) (ok_ln hx9) (hM.eq lnL_M) (lv_sub hl [1, 0] rfl)
                        · have c_33 := b1_n0.mp c_33
                          refine lv_aload_n hx hb dX3_parse_181 rfl (lv_at hl 0 rfl) ?_
                          refine fg_X3_34 hC hM ((sp_out (by omega)).trans (me_up_s _ _ _)) rfl dX3_parse_182 ?_
                          refine lv_aload_n hx hb dX3_parse_185 rfl (lv_at hl 0 rfl) ?_
                          refine me_callVi (As := []) (rest := [.ref a]) hC hl.1 hM (c_X3_hoursToPass l D tb X z0 n kK kV a po ta NN len (rG (ln0 t len x)) t M9 (rp (ln0 t len x)) hE hy.2.2) (kv_X3_90 hw rfl rfl ⟨Nat.le_of_ble_eq_true rfl, Nat.le_of_ble_eq_true rfl⟩) rfl rfl ((sp_out (by omega)).trans (me_up_s _ _ _)) rfl (Nat.le_of_ble_eq_true rfl) dX3_parse_186 ⟨Nat.le_of_ble_eq_true rfl, Nat.le_of_ble_eq_true rfl⟩ (fun H locs hM => ?_)
                          obtain ⟨T9, eT9, hT9⟩ := hy.2.1
                          obtain ⟨hh, hh0, hh1, ehh⟩ := ht_nat (t := t) hy eT9 hT9
                          have ehc : (htV t len (ln0 t len x)).toNatClampNeg = hh := by rw [ehh]; exact nI_clamp (by omega)
                          refine me_evi (y := nI hh) ehh ?_
                          refine me_callVi (As := [.int (nI hh)]) (rest := []) hC hl.1 hM (c_X5_passHours l D tb X z0 n a (rG (ln0 t len x)) (me_up M9 po (.inr (3, ps_fs ta len a (nuP t len 1 (mnF 99 (9999 - (rG (ln0 t len x)) 2)) (rp (ln0 t len x)))))) (rS (ln0 t len x)) (rB (ln0 t len x)) (rL (ln0 t len x)) (rP (ln0 t len x)) hh hN hy.1 (by omega)) (kv_X3_94 hw rfl rfl ⟨Nat.le_of_ble_eq_true rfl, Nat.le_of_ble_eq_true rfl⟩) rfl rfl (sp_st _ _ _ _) rfl (Nat.le_of_ble_eq_true rfl) dX3_parse_189 ⟨Nat.le_of_ble_eq_true rfl, Nat.le_of_ble_eq_true rfl⟩ (fun H locs hM => ?_)
                          refine lv_pop hx hb dX3_parse_192 rfl ?_
                          refine lv_goto (tgt := 201) hx hb dX3_parse_193 (by decide) ?_
                          have hM := hM.eq (htM ehc)
                          have hM := hM.eq (pm_eq (ds_6 t len (ln0 t len x) c_28 c_29 c_30 c_31 c_32 c_33))
                          refine lv_aload_n hx hb dX3_parse_201 rfl (lv_at hl 0 rfl) ?_
                          refine me_callVv (As := []) (rest := []) hC hl.1 hM (c_X3_next l D tb X z0 n kK kV a po ta NN len (rG (dsL t len (ln0 t len x))) t M9 (rp (dsL t len (ln0 t len x)))  hE ((ok_ds hy).2.2)) (kv_X3_38 hw rfl rfl ⟨Nat.le_of_ble_eq_true rfl, Nat.le_of_ble_eq_true rfl⟩) rfl rfl ((sp_out (by omega)).trans (me_up_s _ _ _)) rfl (Nat.le_of_ble_eq_true rfl) dX3_parse_202 ⟨Nat.le_of_ble_eq_true rfl, Nat.le_of_ble_eq_true rfl⟩ (fun H locs hM => ?_)
                          refine lv_iinc (v := nI (j + 1)) (lv' := [(1, .int (nI (j + 1))), (0, .ref po)]) hx hb dX3_parse_205 hl (k := 1) rfl (nx_add rfl rfl) (by decide) rfl (fun ls hl => ?_)
                          refine lv_goto (tgt := 52) hx hb dX3_parse_208 (by decide) ?_
                          exact ih_52 r1 (by omega) (j + 1) (lnL t len x) _ _ _ (by omega) (hq.trans (lo_t c_19 c_20)) (ok_ln hx9) (hM.eq lnL_M) (lv_sub hl [1, 0] rfl)
                      · have c_32 := b1_n0.mp c_32
                        refine lv_aload_n hx hb dX3_parse_165 rfl (lv_at hl 0 rfl) ?_
                        refine me_callVv (As := []) (rest := []) hC hl.1 hM (d_X3_whistleLine l D tb X z0 n kK kV a po ta NN len t M9 (ln0 t len x) hN hE hy) (kv_X3_85 hw rfl rfl ⟨Nat.le_of_ble_eq_true rfl, Nat.le_of_ble_eq_true rfl⟩) rfl rfl ((sp_out (by omega)).trans (me_up_s _ _ _)) rfl (Nat.le_of_ble_eq_true rfl) dX3_parse_166 ⟨Nat.le_of_ble_eq_true rfl, Nat.le_of_ble_eq_true rfl⟩ (fun H locs hM => ?_)
                        refine lv_goto (tgt := 201) hx hb dX3_parse_169 (by decide) ?_
                        have hM := hM.eq (pm_eq (ds_5 t len (ln0 t len x) c_28 c_29 c_30 c_31 c_32))
                        refine lv_aload_n hx hb dX3_parse_201 rfl (lv_at hl 0 rfl) ?_
                        refine me_callVv (As := []) (rest := []) hC hl.1 hM (c_X3_next l D tb X z0 n kK kV a po ta NN len (rG (dsL t len (ln0 t len x))) t M9 (rp (dsL t len (ln0 t len x)))  hE ((ok_ds hy).2.2)) (kv_X3_38 hw rfl rfl ⟨Nat.le_of_ble_eq_true rfl, Nat.le_of_ble_eq_true rfl⟩) rfl rfl ((sp_out (by omega)).trans (me_up_s _ _ _)) rfl (Nat.le_of_ble_eq_true rfl) dX3_parse_202 ⟨Nat.le_of_ble_eq_true rfl, Nat.le_of_ble_eq_true rfl⟩ (fun H locs hM => ?_)
                        refine lv_iinc (v := nI (j + 1)) (lv' := [(1, .int (nI (j + 1))), (0, .ref po)]) hx hb dX3_parse_205 hl (k := 1) rfl (nx_add rfl rfl) (by decide) rfl (fun ls hl => ?_)
                        refine lv_goto (tgt := 52) hx hb dX3_parse_208 (by decide) ?_
                        exact ih_52 r1 (by omega) (j + 1) (lnL t len x) _ _ _ (by omega) (hq.trans (lo_t c_19 c_20)) (ok_ln hx9) (hM.eq lnL_M) (lv_sub hl [1, 0] rfl)
                    · have c_31 := b1_n0.mp c_31
                      refine lv_aload_n hx hb dX3_parse_149 rfl (lv_at hl 0 rfl) ?_
                      refine me_callVv (As := []) (rest := []) hC hl.1 hM (d_X3_lendLine l D tb X z0 n kK kV a po ta NN len t M9 (ln0 t len x) hN hE hy) (kv_X3_80 hw rfl rfl ⟨Nat.le_of_ble_eq_true rfl, Nat.le_of_ble_eq_true rfl⟩) rfl rfl ((sp_out (by omega)).trans (me_up_s _ _ _)) rfl (Nat.le_of_ble_eq_true rfl) dX3_parse_150 ⟨Nat.le_of_ble_eq_true rfl, Nat.le_of_ble_eq_true rfl⟩ (fun H locs hM => ?_)
                      refine lv_goto (tgt := 201) hx hb dX3_parse_153 (by decide) ?_
                      have hM := hM.eq (pm_eq (ds_4 t len (ln0 t len x) c_28 c_29 c_30 c_31))
                      refine lv_aload_n hx hb dX3_parse_201 rfl (lv_at hl 0 rfl) ?_
                      refine me_callVv (As := []) (rest := []) hC hl.1 hM (c_X3_next l D tb X z0 n kK kV a po ta NN len (rG (dsL t len (ln0 t len x))) t M9 (rp (dsL t len (ln0 t len x)))  hE ((ok_ds hy).2.2)) (kv_X3_38 hw rfl rfl ⟨Nat.le_of_ble_eq_true rfl, Nat.le_of_ble_eq_true rfl⟩) rfl rfl ((sp_out (by omega)).trans (me_up_s _ _ _)) rfl (Nat.le_of_ble_eq_true rfl) dX3_parse_202 ⟨Nat.le_of_ble_eq_true rfl, Nat.le_of_ble_eq_true rfl⟩ (fun H locs hM => ?_)
                      refine lv_iinc (v := nI (j + 1)) (lv' := [(1, .int (nI (j + 1))), (0, .ref po)]) hx hb dX3_parse_205 hl (k := 1) rfl (nx_add rfl rfl) (by decide) rfl (fun ls hl => ?_)
                      refine lv_goto (tgt := 52) hx hb dX3_parse_208 (by decide) ?_
                      exact ih_52 r1 (by omega) (j + 1) (lnL t len x) _ _ _ (by omega) (hq.trans (lo_t c_19 c_20)) (ok_ln hx9) (hM.eq lnL_M) (lv_sub hl [1, 0] rfl)
                  · have c_30 := b1_n0.mp c_30
                    refine lv_aload_n hx hb dX3_parse_133 rfl (lv_at hl 0 rfl) ?_
                    refine me_callVv (As := []) (rest := []) hC hl.1 hM (d_X3_permitLine l D tb X z0 n kK kV a po ta NN len t M9 (ln0 t len x) hN hE hy) (kv_X3_75 hw rfl rfl ⟨Nat.le_of_ble_eq_true rfl, Nat.le_of_ble_eq_true rfl⟩) rfl rfl ((sp_out (by omega)).trans (me_up_s _ _ _)) rfl (Nat.le_of_ble_eq_true rfl) dX3_parse_134 ⟨Nat.le_of_ble_eq_true rfl, Nat.le_of_ble_eq_true rfl⟩ (fun H locs hM => ?_)
                    refine lv_goto (tgt := 201) hx hb dX3_parse_137 (by decide) ?_
                    have hM := hM.eq (pm_eq (ds_3 t len (ln0 t len x) c_28 c_29 c_30))
                    refine lv_aload_n hx hb dX3_parse_201 rfl (lv_at hl 0 rfl) ?_
                    refine me_callVv (As := []) (rest := []) hC hl.1 hM (c_X3_next l D tb X z0 n kK kV a po ta NN len (rG (dsL t len (ln0 t len x))) t M9 (rp (dsL t len (ln0 t len x)))  hE ((ok_ds hy).2.2)) (kv_X3_38 hw rfl rfl ⟨Nat.le_of_ble_eq_true rfl, Nat.le_of_ble_eq_true rfl⟩) rfl rfl ((sp_out (by omega)).trans (me_up_s _ _ _)) rfl (Nat.le_of_ble_eq_true rfl) dX3_parse_202 ⟨Nat.le_of_ble_eq_true rfl, Nat.le_of_ble_eq_true rfl⟩ (fun H locs hM => ?_)
                    refine lv_iinc (v := nI (j + 1)) (lv' := [(1, .int (nI (j + 1))), (0, .ref po)]) hx hb dX3_parse_205 hl (k := 1) rfl (nx_add rfl rfl) (by decide) rfl (fun ls hl => ?_)
                    refine lv_goto (tgt := 52) hx hb dX3_parse_208 (by decide) ?_
                    exact ih_52 r1 (by omega) (j + 1) (lnL t len x) _ _ _ (by omega) (hq.trans (lo_t c_19 c_20)) (ok_ln hx9) (hM.eq lnL_M) (lv_sub hl [1, 0] rfl)
                · have c_29 := b1_n0.mp c_29
                  refine lv_aload_n hx hb dX3_parse_117 rfl (lv_at hl 0 rfl) ?_
                  refine me_callVv (As := []) (rest := []) hC hl.1 hM (d_X3_borrowerLine l D tb X z0 n kK kV a po ta NN len t M9 (ln0 t len x) hN hE hy) (kv_X3_70 hw rfl rfl ⟨Nat.le_of_ble_eq_true rfl, Nat.le_of_ble_eq_true rfl⟩) rfl rfl ((sp_out (by omega)).trans (me_up_s _ _ _)) rfl (Nat.le_of_ble_eq_true rfl) dX3_parse_118 ⟨Nat.le_of_ble_eq_true rfl, Nat.le_of_ble_eq_true rfl⟩ (fun H locs hM => ?_)
                  refine lv_goto (tgt := 201) hx hb dX3_parse_121 (by decide) ?_
                  have hM := hM.eq (pm_eq (ds_2 t len (ln0 t len x) c_28 c_29))
                  refine lv_aload_n hx hb dX3_parse_201 rfl (lv_at hl 0 rfl) ?_
                  refine me_callVv (As := []) (rest := []) hC hl.1 hM (c_X3_next l D tb X z0 n kK kV a po ta NN len (rG (dsL t len (ln0 t len x))) t M9 (rp (dsL t len (ln0 t len x)))  hE ((ok_ds hy).2.2)) (kv_X3_38 hw rfl rfl ⟨Nat.le_of_ble_eq_true rfl, Nat.le_of_ble_eq_true rfl⟩) rfl rfl ((sp_out (by omega)).trans (me_up_s _ _ _)) rfl (Nat.le_of_ble_eq_true rfl) dX3_parse_202 ⟨Nat.le_of_ble_eq_true rfl, Nat.le_of_ble_eq_true rfl⟩ (fun H locs hM => ?_)
                  refine lv_iinc (v := nI (j + 1)) (lv' := [(1, .int (nI (j + 1))), (0, .ref po)]) hx hb dX3_parse_205 hl (k := 1) rfl (nx_add rfl rfl) (by decide) rfl (fun ls hl => ?_)
                  refine lv_goto (tgt := 52) hx hb dX3_parse_208 (by decide) ?_
                  exact ih_52 r1 (by omega) (j + 1) (lnL t len x) _ _ _ (by omega) (hq.trans (lo_t c_19 c_20)) (ok_ln hx9) (hM.eq lnL_M) (lv_sub hl [1, 0] rfl)
              · have c_28 := b1_n0.mp c_28
                refine lv_aload_n hx hb dX3_parse_101 rfl (lv_at hl 0 rfl) ?_
                refine me_callVv (As := []) (rest := []) hC hl.1 hM (d_X3_streetLine l D tb X z0 n kK kV a po ta NN len t M9 (ln0 t len x) hN hE hy) (kv_X3_65 hw rfl rfl ⟨Nat.le_of_ble_eq_true rfl, Nat.le_of_ble_eq_true rfl⟩) rfl rfl ((sp_out (by omega)).trans (me_up_s _ _ _)) rfl (Nat.le_of_ble_eq_true rfl) dX3_parse_102 ⟨Nat.le_of_ble_eq_true rfl, Nat.le_of_ble_eq_true rfl⟩ (fun H locs hM => ?_)
                refine lv_goto (tgt := 201) hx hb dX3_parse_105 (by decide) ?_
                have hM := hM.eq (pm_eq (ds_1 t len (ln0 t len x) c_28))
                refine lv_aload_n hx hb dX3_parse_201 rfl (lv_at hl 0 rfl) ?_
                refine me_callVv (As := []) (rest := []) hC hl.1 hM (c_X3_next l D tb X z0 n kK kV a po ta NN len (rG (dsL t len (ln0 t len x))) t M9 (rp (dsL t len (ln0 t len x)))  hE ((ok_ds hy).2.2)) (kv_X3_38 hw rfl rfl ⟨Nat.le_of_ble_eq_true rfl, Nat.le_of_ble_eq_true rfl⟩) rfl rfl ((sp_out (by omega)).trans (me_up_s _ _ _)) rfl (Nat.le_of_ble_eq_true rfl) dX3_parse_202 ⟨Nat.le_of_ble_eq_true rfl, Nat.le_of_ble_eq_true rfl⟩ (fun H locs hM => ?_)
                refine lv_iinc (v := nI (j + 1)) (lv' := [(1, .int (nI (j + 1))), (0, .ref po)]) hx hb dX3_parse_205 hl (k := 1) rfl (nx_add rfl rfl) (by decide) rfl (fun ls hl => ?_)
                refine lv_goto (tgt := 52) hx hb dX3_parse_208 (by decide) ?_
                exact ih_52 r1 (by omega) (j + 1) (lnL t len x) _ _ _ (by omega) (hq.trans (lo_t c_19 c_20)) (ok_ln hx9) (hM.eq lnL_M) (lv_sub hl [1, 0] rfl)
    exact lp_52 len 0 (paH t len (g, S, B, L, P, ps)) _ _ _ (by omega) (by unfold paF; rfl) (ok_paH hx0) hM (lv_sub hl [1, 0] rfl)
theorem d_X3_parse (l : Launch) (D : va_G) (tb : Nat → ClassId) (X : State → Prop) (z0 n : Nat) (kK kV : Nat → Nat) (a po ta NN len : Nat) (t : Nat → Int32) (M9 : me_M) (x : PR) (hKS : ∀ U, X U → me_ks kK kV z0 U) (hN : ∀ U, X U → me_nest U) (hE : psE tb a po ta NN len t M9) (hx : okP len x) : Met l yX3_parse (.code yX3_parse cX3_parse 2 none :: ws_all) ({ frames := 5, cells := 0, slots := 0, locals := 116 } : Room) (me_Pc [.ref po] D tb X z0 (pmM tb a po ta len M9 x) n) (me_Qv D z0 (pmM tb a po ta len M9 (paF t len x)) n) 0 0 (me_A z0) := by
  obtain ⟨g, S, B, L, P, ps⟩ := x
  obtain ⟨h1, ⟨T, hT, hT0⟩, h3⟩ := hx
  exact c_X3_parse l D tb X z0 n kK kV a po ta NN len g t M9 ps S B L P T hKS hN hE h1 hT hT0 h3
