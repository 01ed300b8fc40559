set_option maxHeartbeats 4000000 in
theorem c_X8_readsText (l : Launch) (D : va_G) (tb : Nat → ClassId) (X : State → Prop) (z0 n : Nat) (mo : Nat) (F w av od sv sl nz ip ot : Nat → Int32) (M0 : me_M) (len : Nat) (pq : QS)  (hln0 : len ≤ 700) : Met l yX8_readsText (.code yX8_readsText cX8_readsText 3 none :: ws_all) ({ frames := 10, cells := 0, slots := 0, locals := 218 } : Room) (me_Pc [.ref mo, .int (nI len)] D tb X z0 (mq tb mo (pqF F (pq)) w av od sv sl nz ip ot M0) n) (me_Qv D z0 (ymM tb mo (upd F 7 (nI len)) av od sv ip ot M0 (txY ip len w sl nz pq)) n) 0 0 (me_A z0) := by
  refine me_open (by decide) (Nat.le_of_ble_eq_true rfl) ?_
  intro p e s m args below meth c ls hC hr hlk hnm hM hl
  have hl : lv_has ls 3 [(0, .ref mo), (1, .int (nI len))] := hl
  have hx := hC.1
  have hb := hC.2.1
  have hw := hC.2.2.2.2.1
  refine lv_iconst (v := 0) hx hb dX8_readsText_0 (by decide) ?_
  refine lv_istore_n (lv' := [(2, .int 0), (0, .ref mo), (1, .int (nI len))]) hx hb dX8_readsText_1 rfl hl (by decide) rfl (fun ls hl => ?_)
  have lp_2 : ∀ (r : Nat) (k : Nat) (H : Heap) (locs : List Loc) (ls : Array Slot), (k + r = 411) → me_at D z0 (mq tb mo (pqF F (pq)) (zrW w k) av od sv sl nz ip ot M0) n s H locs → lv_has ls 3 [(0, .ref mo), (1, .int (nI len)), (2, .int (nI k))] → W p l e (({ frames := 10, cells := 0, slots := 0, locals := 218 } : Room)) s m args below meth c H locs 0 0 (MQ below (me_Qv D z0 (ymM tb mo (upd F 7 (nI len)) av od sv ip ot M0 (txY ip len w sl nz pq)) n) args s 0 0 (me_A z0)) (F0 m 2 ls []) := by
    intro r
    refine Nat.strongRecOn r ?_
    intro r ih_2 k H locs ls hk hM hl
    refine lv_iload_n hx hb dX8_readsText_2 rfl (lv_at hl 2 rfl) ?_
    refine lv_sipush (v := 411) hx hb dX8_readsText_3 (by decide) ?_
    refine lv_icmp_ge (tgt := 22) hx hb dX8_readsText_6 (by decide) (fun c_1 => ?_) (fun c_1 => ?_)
    · have c_1 := (br_le (nx_c 411) rfl (by omega) (by omega)).mp c_1
      have hM := hM.eq (M2 := mq tb mo (pqF F (pq)) (zrW w 411) av od sv sl nz ip ot M0) (by rw [show k = 411 by omega])
      refine lv_aload_n hx hb dX8_readsText_22 rfl (lv_at hl 0 rfl) ?_
      refine lv_iload_n hx hb dX8_readsText_23 rfl (lv_at hl 1 rfl) ?_
      refine fp_X8_175 hC hM mq_F (Nat.le_of_ble_eq_true rfl) (M2 := mq tb mo (upd (pqF F (pq)) 7 (nI len)) (zrW w 411) av od sv sl nz ip ot M0) (mq_wF (i := 7) (by simp [upd])) dX8_readsText_24 (fun H locs hM => ?_)
      refine lv_aload_n hx hb dX8_readsText_27 rfl (lv_at hl 0 rfl) ?_
      refine lv_iconst (v := 0) hx hb dX8_readsText_28 (by decide) ?_
      refine fp_X8_187 hC hM mq_F (Nat.le_of_ble_eq_true rfl) (M2 := mq tb mo (upd (pqF F (qKd pq, qFr pq, qTo pq, qVa pq, 0, qFa pq)) 7 (nI len)) (zrW w 411) av od sv sl nz ip ot M0) (mq_wF2 rfl) dX8_readsText_29 (fun H locs hM => ?_)
      refine lv_aload_n hx hb dX8_readsText_32 rfl (lv_at hl 0 rfl) ?_
      refine lv_iconst (v := 0) hx hb dX8_readsText_33 (by decide) ?_
      refine fp_X8_166 hC hM mq_F (Nat.le_of_ble_eq_true rfl) (M2 := mq tb mo (upd (pqF F (0, qFr pq, qTo pq, qVa pq, 0, qFa pq)) 7 (nI len)) (zrW w 411) av od sv sl nz ip ot M0) (mq_wF2 rfl) dX8_readsText_34 (fun H locs hM => ?_)
      refine lv_aload_n hx hb dX8_readsText_37 rfl (lv_at hl 0 rfl) ?_
      refine lv_iconst (v := 0) hx hb dX8_readsText_38 (by decide) ?_
      refine fp_X8_169 hC hM mq_F (Nat.le_of_ble_eq_true rfl) (M2 := mq tb mo (upd (pqF F (0, qFr pq, 0, qVa pq, 0, qFa pq)) 7 (nI len)) (zrW w 411) av od sv sl nz ip ot M0) (mq_wF2 rfl) dX8_readsText_39 (fun H locs hM => ?_)
      have hM := hM.eq (M2 := mq tb mo (pqF (upd F 7 (nI len)) (tx0 pq)) (zrW w 411) av od sv sl nz ip ot M0) (by rw [pqF_u (by omega)]; rfl)
      have hln : (upd F 7 (nI len)) 7 = nI len := upd_s _ _ _
      refine lv_aload_n hx hb dX8_readsText_42 rfl (lv_at hl 0 rfl) ?_
      refine me_callVv (As := []) (rest := []) hC hl.1 hM (c_X8_next l D tb X z0 n mo (upd F 7 (nI len)) (zrW w 411) av od sv sl nz ip ot M0 len (tx0 pq) hln hln0 ⟨Nat.zero_le _, by show 0 ≤ 4; omega, by show 0 ≤ 6; omega⟩) (kv_X8_193 hw rfl rfl ⟨Nat.le_of_ble_eq_true rfl, Nat.le_of_ble_eq_true rfl⟩) rfl rfl mq_F rfl (Nat.le_of_ble_eq_true rfl) dX8_readsText_43 ⟨Nat.le_of_ble_eq_true rfl, Nat.le_of_ble_eq_true rfl⟩ (fun H locs hM => ?_)
      obtain ⟨hz1_, hz2_, hz3_, hz4_⟩ := id (show qvP len (mxP ip len (tx0 pq)) from (qw_mx (p := tx0 pq) ⟨Nat.zero_le _, by show 0 ≤ 4; omega, by show 0 ≤ 6; omega⟩))
      refine lv_aload_n hx hb dX8_readsText_46 rfl (lv_at hl 0 rfl) ?_
      refine lv_iconst (v := 0) hx hb dX8_readsText_47 (by decide) ?_
      refine me_stk (st2 := [.int (nI 0), .ref mo]) (by rw [(show (0 : Int32) = nI 0 from rfl)]) ?_
      refine me_callVi (As := [.int (nI 0)]) (rest := []) hC hl.1 hM (c_X8_isKey l D tb X z0 n mo (upd F 7 (nI len)) (zrW w 411) av od sv sl nz ip ot M0 len (mxP ip len (tx0 pq)) 0 hln hln0 (qw_mx (p := tx0 pq) ⟨Nat.zero_le _, by show 0 ≤ 4; omega, by show 0 ≤ 6; omega⟩) (by omega)) (kv_X8_238 hw rfl rfl ⟨Nat.le_of_ble_eq_true rfl, Nat.le_of_ble_eq_true rfl⟩) rfl rfl mq_F rfl (Nat.le_of_ble_eq_true rfl) dX8_readsText_48 ⟨Nat.le_of_ble_eq_true rfl, Nat.le_of_ble_eq_true rfl⟩ (fun H locs hM => ?_)
      refine lv_if_eq (tgt := 61) hx hb dX8_readsText_51 (by decide) (fun c_2 => ?_) (fun c_2 => ?_)
      · have c_2 := b1_0.mp c_2
        refine lv_aload_n hx hb dX8_readsText_61 rfl (lv_at hl 0 rfl) ?_
        refine lv_iconst (v := 1) hx hb dX8_readsText_62 (by decide) ?_
        refine me_stk (st2 := [.int (nI 1), .ref mo]) (by rw [(show (1 : Int32) = nI 1 from rfl)]) ?_
        refine me_callVv (As := [.int (nI 1)]) (rest := []) hC hl.1 hM (c_X8_errs l D tb X z0 n mo (upd F 7 (nI len)) (zrW w 411) av od sv sl nz ip ot M0 len (mxP ip len (tx0 pq)) 1 hln hln0 (qw_mx (p := tx0 pq) ⟨Nat.zero_le _, by show 0 ≤ 4; omega, by show 0 ≤ 6; omega⟩) (by omega)) (kv_X8_196 hw rfl rfl ⟨Nat.le_of_ble_eq_true rfl, Nat.le_of_ble_eq_true rfl⟩) rfl rfl mq_F rfl (Nat.le_of_ble_eq_true rfl) dX8_readsText_63 ⟨Nat.le_of_ble_eq_true rfl, Nat.le_of_ble_eq_true rfl⟩ (fun H locs hM => ?_)
        obtain ⟨hz1_, hz2_, hz3_, hz4_⟩ := id (show qvP len (erP 1 (mxP ip len (tx0 pq))) from (qv_er (qw_mx (p := tx0 pq) ⟨Nat.zero_le _, by show 0 ≤ 4; omega, by show 0 ≤ 6; omega⟩) (by omega)))
        have hM := hM.eq (M2 := mq tb mo (pqF (upd F 7 (nI len)) (txB ip len pq)) (zrW w 411) av od sv sl nz ip ot M0) (mq_ps (by unfold txB; rw [if_neg c_2]))
        obtain ⟨hz1_, hz2_, hz3_, hz4_⟩ := id (show qvP len (txB ip len pq) from (qv_txB (p := pq)))
        refine lv_aload_n hx hb dX8_readsText_66 rfl (lv_at hl 0 rfl) ?_
        refine fg_X8_13 hC hM mq_F rfl dX8_readsText_67 ?_
        refine lv_iconst (v := 0) hx hb dX8_readsText_70 (by decide) ?_
        refine lv_aload_n hx hb dX8_readsText_71 rfl (lv_at hl 0 rfl) ?_
        refine lv_iconst (v := 1) hx hb dX8_readsText_72 (by decide) ?_
        refine lv_bipush (v := 24) hx hb dX8_readsText_73 (by decide) ?_
        refine me_callVi (As := [.int 1, .int 24]) (rest := [.int 0, .ref (mo + 2)]) hC hl.1 hM (c_X8_takesNumber l D tb X z0 n mo (upd F 7 (nI len)) (zrW w 411) av od sv sl nz ip ot M0 len (txB ip len pq) 1 24 hln hln0 (qv_txB (p := pq)) ) (kv_X8_214 hw rfl rfl ⟨Nat.le_of_ble_eq_true rfl, Nat.le_of_ble_eq_true rfl⟩) rfl rfl mq_F rfl (Nat.le_of_ble_eq_true rfl) dX8_readsText_75 ⟨Nat.le_of_ble_eq_true rfl, Nat.le_of_ble_eq_true rfl⟩ (fun H locs hM => ?_)
        obtain ⟨hz1_, hz2_, hz3_, hz4_⟩ := id (show qvP len (tnQ ip len 1 24 (txB ip len pq)) from (qv_tn (qv_txB (p := pq))))
        refine me_iast (k := 0) (M2 := mq tb mo (pqF (upd F 7 (nI len)) (tnQ ip len 1 24 (txB ip len pq))) (upd (zrW w 411) 0 (heV 1 24 (txB ip len pq))) av od sv sl nz ip ot M0) hC hM mq_w (show (0 : Int32) = nI 0 from rfl) (by omega) (by decide) mq_w_w dX8_readsText_78 (fun H locs hM => ?_)
        refine lv_aload_n hx hb dX8_readsText_79 rfl (lv_at hl 0 rfl) ?_
        refine fg_X8_13 hC hM mq_F rfl dX8_readsText_80 ?_
        refine lv_iconst (v := 1) hx hb dX8_readsText_83 (by decide) ?_
        refine lv_aload_n hx hb dX8_readsText_84 rfl (lv_at hl 0 rfl) ?_
        refine lv_iconst (v := 0) hx hb dX8_readsText_85 (by decide) ?_
        refine lv_bipush (v := 99) hx hb dX8_readsText_86 (by decide) ?_
        refine me_callVi (As := [.int 0, .int 99]) (rest := [.int 1, .ref (mo + 2)]) hC hl.1 hM (c_X8_takesNumber l D tb X z0 n mo (upd F 7 (nI len)) (upd (zrW w 411) 0 (heV 1 24 (txB ip len pq))) av od sv sl nz ip ot M0 len (tnQ ip len 1 24 (txB ip len pq)) 0 99 hln hln0 (qv_tn (qv_txB (p := pq))) ) (kv_X8_214 hw rfl rfl ⟨Nat.le_of_ble_eq_true rfl, Nat.le_of_ble_eq_true rfl⟩) rfl rfl mq_F rfl (Nat.le_of_ble_eq_true rfl) dX8_readsText_88 ⟨Nat.le_of_ble_eq_true rfl, Nat.le_of_ble_eq_true rfl⟩ (fun H locs hM => ?_)
        have hM := hM.eq (M2 := mq tb mo (pqF (upd F 7 (nI len)) (txQ ip len pq)) (upd (zrW w 411) 0 (heV 1 24 (txB ip len pq))) av od sv sl nz ip ot M0) (mq_ps rfl)
        obtain ⟨hz1_, hz2_, hz3_, hz4_⟩ := id (show qvP len (txQ ip len pq) from (show qvP len (txQ ip len pq) from by unfold txQ; exact qv_tn (qv_tn qv_txB)))
        refine me_iast (k := 1) (M2 := mq tb mo (pqF (upd F 7 (nI len)) (txQ ip len pq)) (upd (upd (zrW w 411) 0 (heV 1 24 (txB ip len pq))) 1 (heV 0 99 (tnQ ip len 1 24 (txB ip len pq)))) av od sv sl nz ip ot M0) hC hM mq_w (show (1 : Int32) = nI 1 from rfl) (by omega) (by decide) mq_w_w dX8_readsText_91 (fun H locs hM => ?_)
        have lp_92 : ∀ (r : Nat) (y : YM) (H : Heap) (locs : List Loc) (ls : Array Slot), (okY len y) → ((qFl (yq y) = 0 ∧ ¬ qKd (yq y) = 0) → len < qTo (yq y) + r) → (txY ip len w sl nz pq = loY ip len r y) → me_at D z0 (mq tb mo (pqF (upd F 7 (nI len)) (yq y)) (yw y) av od sv (ysl y) (ynz y) ip ot M0) n s H locs → lv_has ls 3 [(0, .ref mo), (1, .int (nI len))] → W p l e (({ frames := 10, cells := 0, slots := 0, locals := 218 } : Room)) s m args below meth c H locs 0 0 (MQ below (me_Qv D z0 (ymM tb mo (upd F 7 (nI len)) av od sv ip ot M0 (txY ip len w sl nz pq)) n) args s 0 0 (me_A z0)) (F0 m 92 ls []) := by
          intro r
          refine Nat.strongRecOn r ?_
          intro r ih_92 y H locs ls hyo hyr hyq hM hl
          obtain ⟨⟨T, hT0, hO⟩, hyq_⟩ := id hyo
          obtain ⟨hz1_, hz2_, hz3_, hz4_⟩ := id hyq_
          refine lv_aload_n hx hb dX8_readsText_92 rfl (lv_at hl 0 rfl) ?_
          refine fg_X8_187 hC hM mq_F rfl dX8_readsText_93 ?_
          refine me_evi (y := nI (qFl (yq y))) rfl ?_
          refine lv_if_ne (tgt := 133) hx hb dX8_readsText_96 (by decide) (fun c_3 => ?_) (fun c_3 => ?_)
          · have c_3 := (not_congr (br_eq rfl (show (0 : Int32) = nI 0 from rfl) (by omega) (by omega))).mp c_3
            exact me_vret hC hr hlk hM (congrArg (ymM tb mo (upd F 7 (nI len)) av od sv ip ot M0) (hyq.trans (lo_y0 (fun z => c_3 z.1) r)).symm) (rfl) dX8_readsText_133
          · have c_3 := (br_eq rfl (show (0 : Int32) = nI 0 from rfl) (by omega) (by omega)).mp c_3
            refine lv_aload_n hx hb dX8_readsText_99 rfl (lv_at hl 0 rfl) ?_
            refine fg_X8_166 hC hM mq_F rfl dX8_readsText_100 ?_
            refine me_evi (y := nI (qKd (yq y))) rfl ?_
            refine lv_if_eq (tgt := 133) hx hb dX8_readsText_103 (by decide) (fun c_4 => ?_) (fun c_4 => ?_)
            · have c_4 := (br_eq rfl (show (0 : Int32) = nI 0 from rfl) (by omega) (by omega)).mp c_4
              exact me_vret hC hr hlk hM (congrArg (ymM tb mo (upd F 7 (nI len)) av od sv ip ot M0) (hyq.trans (lo_y0 (fun z => z.2 c_4) r)).symm) (rfl) dX8_readsText_133
            · have c_4 := (not_congr (br_eq rfl (show (0 : Int32) = nI 0 from rfl) (by omega) (by omega))).mp c_4
              refine lv_aload_n hx hb dX8_readsText_106 rfl (lv_at hl 0 rfl) ?_
              obtain ⟨r1, rfl⟩ : ∃ r1, r = r1 + 1 := ⟨r - 1, by have h1_ := hyr ⟨c_3, c_4⟩; omega⟩
              refine fg_X8_166 hC hM mq_F rfl dX8_readsText_107 ?_
              refine me_evi (y := nI (qKd (yq y))) rfl ?_
              refine lv_iconst (v := 3) hx hb dX8_readsText_110 (by decide) ?_
              refine lv_icmp_ne (tgt := 125) hx hb dX8_readsText_111 (by decide) (fun c_5 => ?_) (fun c_5 => ?_)
              · have c_5 := (not_congr (br_eq rfl (nx_c 3) (by omega) (by omega))).mp c_5
                refine lv_aload_n hx hb dX8_readsText_125 rfl (lv_at hl 0 rfl) ?_
                refine lv_iconst (v := 1) hx hb dX8_readsText_126 (by decide) ?_
                refine me_stk (st2 := [.int (nI 1), .ref mo]) (by rw [(show (1 : Int32) = nI 1 from rfl)]) ?_
                refine me_callVv (As := [.int (nI 1)]) (rest := []) hC hl.1 hM (c_X8_errs l D tb X z0 n mo (upd F 7 (nI len)) (yw y) av od sv (ysl y) (ynz y) ip ot M0 len (yq y) 1 hln hln0 hyo.2 (by omega)) (kv_X8_196 hw rfl rfl ⟨Nat.le_of_ble_eq_true rfl, Nat.le_of_ble_eq_true rfl⟩) rfl rfl mq_F rfl (Nat.le_of_ble_eq_true rfl) dX8_readsText_127 ⟨Nat.le_of_ble_eq_true rfl, Nat.le_of_ble_eq_true rfl⟩ (fun H locs hM => ?_)
                refine lv_goto (tgt := 92) hx hb dX8_readsText_130 (by decide) ?_
                exact ih_92 r1 (by omega) (ltY ip len y) _ _ _ (fl_ltY hyo) (fun z => by have := to_lt hyo z.1; omega) (hyq.trans (lo_y1 ⟨c_3, c_4⟩)) (hM.eq (congrArg (ymM tb mo (upd F 7 (nI len)) av od sv ip ot M0) (show (yw y, ysl y, ynz y, yS y, yB y, yL y, yP y, erP 1 (yq y)) = ltY ip len y from by unfold ltY; rw [if_neg c_5]))) (lv_sub hl [0, 1] rfl)
              · have c_5 := (br_eq rfl (nx_c 3) (by omega) (by omega)).mp c_5
                refine lv_aload_n hx hb dX8_readsText_114 rfl (lv_at hl 0 rfl) ?_
                refine me_callVv (As := []) (rest := []) hC hl.1 hM (c_X8_next l D tb X z0 n mo (upd F 7 (nI len)) (yw y) av od sv (ysl y) (ynz y) ip ot M0 len (yq y)  hln hln0 (qv_w hyo.2) ) (kv_X8_193 hw rfl rfl ⟨Nat.le_of_ble_eq_true rfl, Nat.le_of_ble_eq_true rfl⟩) rfl rfl mq_F rfl (Nat.le_of_ble_eq_true rfl) dX8_readsText_115 ⟨Nat.le_of_ble_eq_true rfl, Nat.le_of_ble_eq_true rfl⟩ (fun H locs hM => ?_)
                obtain ⟨hz1_, hz2_, hz3_, hz4_⟩ := id (show qvP len (mxP ip len (yq y)) from (qv_mx hyo.2))
                refine lv_aload_n hx hb dX8_readsText_118 rfl (lv_at hl 0 rfl) ?_
                refine me_callVv (As := []) (rest := []) hC hl.1 hM (c_X8_readsLine l D tb X z0 n mo (upd F 7 (nI len)) (yw y) av od sv (ysl y) (ynz y) ip ot M0 len (mxP ip len (yq y)) (yS y) (yB y) (yL y) (yP y) T hln hln0 (qv_mx hyo.2) hO hT0) (kv_X8_259 hw rfl rfl ⟨Nat.le_of_ble_eq_true rfl, Nat.le_of_ble_eq_true rfl⟩) rfl rfl mq_F rfl (Nat.le_of_ble_eq_true rfl) dX8_readsText_119 ⟨Nat.le_of_ble_eq_true rfl, Nat.le_of_ble_eq_true rfl⟩ (fun H locs hM => ?_)
                refine lv_goto (tgt := 92) hx hb dX8_readsText_122 (by decide) ?_
                exact ih_92 r1 (by omega) (ltY ip len y) _ _ _ (fl_ltY hyo) (fun z => by have := to_lt hyo z.1; omega) (hyq.trans (lo_y1 ⟨c_3, c_4⟩)) (hM.eq (congrArg (ymM tb mo (upd F 7 (nI len)) av od sv ip ot M0) (show rnY ip len (yw y) (ysl y) (ynz y) (yS y) (yB y) (yL y) (yP y) (mxP ip len (yq y)) = ltY ip len y from by unfold ltY; rw [if_pos c_5]))) (lv_sub hl [0, 1] rfl)
        exact lp_92 (len + 1) (txI ip len w sl nz pq) _ _ _ ok_txI (fun _ => by omega) (by unfold txY; rfl) (hM.eq (show _ = ymM tb mo (upd F 7 (nI len)) av od sv ip ot M0 (txI ip len w sl nz pq) from ym_e (by unfold txI txW; rfl))) (lv_sub hl [0, 1] rfl)
      · have c_2 := b1_n0.mp c_2
        refine lv_aload_n hx hb dX8_readsText_54 rfl (lv_at hl 0 rfl) ?_
        refine me_callVv (As := []) (rest := []) hC hl.1 hM (c_X8_next l D tb X z0 n mo (upd F 7 (nI len)) (zrW w 411) av od sv sl nz ip ot M0 len (mxP ip len (tx0 pq))  hln hln0 (qv_w (qw_mx (p := tx0 pq) ⟨Nat.zero_le _, by show 0 ≤ 4; omega, by show 0 ≤ 6; omega⟩)) ) (kv_X8_193 hw rfl rfl ⟨Nat.le_of_ble_eq_true rfl, Nat.le_of_ble_eq_true rfl⟩) rfl rfl mq_F rfl (Nat.le_of_ble_eq_true rfl) dX8_readsText_55 ⟨Nat.le_of_ble_eq_true rfl, Nat.le_of_ble_eq_true rfl⟩ (fun H locs hM => ?_)
        obtain ⟨hz1_, hz2_, hz3_, hz4_⟩ := id (show qvP len (mxP ip len (mxP ip len (tx0 pq))) from (qv_mx (qw_mx (p := tx0 pq) ⟨Nat.zero_le _, by show 0 ≤ 4; omega, by show 0 ≤ 6; omega⟩)))
        refine lv_goto (tgt := 66) hx hb dX8_readsText_58 (by decide) ?_
        have hM := hM.eq (M2 := mq tb mo (pqF (upd F 7 (nI len)) (txB ip len pq)) (zrW w 411) av od sv sl nz ip ot M0) (mq_ps (by unfold txB; rw [if_pos c_2]))
        obtain ⟨hz1_, hz2_, hz3_, hz4_⟩ := id (show qvP len (txB ip len pq) from (qv_txB (p := pq)))
        refine lv_aload_n hx hb dX8_readsText_66 rfl (lv_at hl 0 rfl) ?_
        refine fg_X8_13 hC hM mq_F rfl dX8_readsText_67 ?_
        refine lv_iconst (v := 0) hx hb dX8_readsText_70 (by decide) ?_
        refine lv_aload_n hx hb dX8_readsText_71 rfl (lv_at hl 0 rfl) ?_
        refine lv_iconst (v := 1) hx hb dX8_readsText_72 (by decide) ?_
        refine lv_bipush (v := 24) hx hb dX8_readsText_73 (by decide) ?_
        refine me_callVi (As := [.int 1, .int 24]) (rest := [.int 0, .ref (mo + 2)]) hC hl.1 hM (c_X8_takesNumber l D tb X z0 n mo (upd F 7 (nI len)) (zrW w 411) av od sv sl nz ip ot M0 len (txB ip len pq) 1 24 hln hln0 (qv_txB (p := pq)) ) (kv_X8_214 hw rfl rfl ⟨Nat.le_of_ble_eq_true rfl, Nat.le_of_ble_eq_true rfl⟩) rfl rfl mq_F rfl (Nat.le_of_ble_eq_true rfl) dX8_readsText_75 ⟨Nat.le_of_ble_eq_true rfl, Nat.le_of_ble_eq_true rfl⟩ (fun H locs hM => ?_)
        obtain ⟨hz1_, hz2_, hz3_, hz4_⟩ := id (show qvP len (tnQ ip len 1 24 (txB ip len pq)) from (qv_tn (qv_txB (p := pq))))
        refine me_iast (k := 0) (M2 := mq tb mo (pqF (upd F 7 (nI len)) (tnQ ip len 1 24 (txB ip len pq))) (upd (zrW w 411) 0 (heV 1 24 (txB ip len pq))) av od sv sl nz ip ot M0) hC hM mq_w (show (0 : Int32) = nI 0 from rfl) (by omega) (by decide) mq_w_w dX8_readsText_78 (fun H locs hM => ?_)
        refine lv_aload_n hx hb dX8_readsText_79 rfl (lv_at hl 0 rfl) ?_
        refine fg_X8_13 hC hM mq_F rfl dX8_readsText_80 ?_
        refine lv_iconst (v := 1) hx hb dX8_readsText_83 (by decide) ?_
        refine lv_aload_n hx hb dX8_readsText_84 rfl (lv_at hl 0 rfl) ?_
        refine lv_iconst (v := 0) hx hb dX8_readsText_85 (by decide) ?_
        refine lv_bipush (v := 99) hx hb dX8_readsText_86 (by decide) ?_
        refine me_callVi (As := [.int 0, .int 99]) (rest := [.int 1, .ref (mo + 2)]) hC hl.1 hM (c_X8_takesNumber l D tb X z0 n mo (upd F 7 (nI len)) (upd (zrW w 411) 0 (heV 1 24 (txB ip len pq))) av od sv sl nz ip ot M0 len (tnQ ip len 1 24 (txB ip len pq)) 0 99 hln hln0 (qv_tn (qv_txB (p := pq))) ) (kv_X8_214 hw rfl rfl ⟨Nat.le_of_ble_eq_true rfl, Nat.le_of_ble_eq_true rfl⟩) rfl rfl mq_F rfl (Nat.le_of_ble_eq_true rfl) dX8_readsText_88 ⟨Nat.le_of_ble_eq_true rfl, Nat.le_of_ble_eq_true rfl⟩ (fun H locs hM => ?_)
        have hM := hM.eq (M2 := mq tb mo (pqF (upd F 7 (nI len)) (txQ ip len pq)) (upd (zrW w 411) 0 (heV 1 24 (txB ip len pq))) av od sv sl nz ip ot M0) (mq_ps rfl)
        obtain ⟨hz1_, hz2_, hz3_, hz4_⟩ := id (show qvP len (txQ ip len pq) from (show qvP len (txQ ip len pq) from by unfold txQ; exact qv_tn (qv_tn qv_txB)))
        refine me_iast (k := 1) (M2 := mq tb mo (pqF (upd F 7 (nI len)) (txQ ip len pq)) (upd (upd (zrW w 411) 0 (heV 1 24 (txB ip len pq))) 1 (heV 0 99 (tnQ ip len 1 24 (txB ip len pq)))) av od sv sl nz ip ot M0) hC hM mq_w (show (1 : Int32) = nI 1 from rfl) (by omega) (by decide) mq_w_w dX8_readsText_91 (fun H locs hM => ?_)
        have lp_92 : ∀ (r : Nat) (y : YM) (H : Heap) (locs : List Loc) (ls : Array Slot), (okY len y) → ((qFl (yq y) = 0 ∧ ¬ qKd (yq y) = 0) → len < qTo (yq y) + r) → (txY ip len w sl nz pq = loY ip len r y) → me_at D z0 (mq tb mo (pqF (upd F 7 (nI len)) (yq y)) (yw y) av od sv (ysl y) (ynz y) ip ot M0) n s H locs → lv_has ls 3 [(0, .ref mo), (1, .int (nI len))] → W p l e (({ frames := 10, cells := 0, slots := 0, locals := 218 } : Room)) s m args below meth c H locs 0 0 (MQ below (me_Qv D z0 (ymM tb mo (upd F 7 (nI len)) av od sv ip ot M0 (txY ip len w sl nz pq)) n) args s 0 0 (me_A z0)) (F0 m 92 ls []) := by
          intro r
          refine Nat.strongRecOn r ?_
          intro r ih_92 y H locs ls hyo hyr hyq hM hl
          obtain ⟨⟨T, hT0, hO⟩, hyq_⟩ := id hyo
          obtain ⟨hz1_, hz2_, hz3_, hz4_⟩ := id hyq_
          refine lv_aload_n hx hb dX8_readsText_92 rfl (lv_at hl 0 rfl) ?_
          refine fg_X8_187 hC hM mq_F rfl dX8_readsText_93 ?_
          refine me_evi (y := nI (qFl (yq y))) rfl ?_
          refine lv_if_ne (tgt := 133) hx hb dX8_readsText_96 (by decide) (fun c_6 => ?_) (fun c_6 => ?_)
          · have c_6 := (not_congr (br_eq rfl (show (0 : Int32) = nI 0 from rfl) (by omega) (by omega))).mp c_6
            exact me_vret hC hr hlk hM (congrArg (ymM tb mo (upd F 7 (nI len)) av od sv ip ot M0) (hyq.trans (lo_y0 (fun z => c_6 z.1) r)).symm) (rfl) dX8_readsText_133
          · have c_6 := (br_eq rfl (show (0 : Int32) = nI 0 from rfl) (by omega) (by omega)).mp c_6
            refine lv_aload_n hx hb dX8_readsText_99 rfl (lv_at hl 0 rfl) ?_
            refine fg_X8_166 hC hM mq_F rfl dX8_readsText_100 ?_
            refine me_evi (y := nI (qKd (yq y))) rfl ?_
            refine lv_if_eq (tgt := 133) hx hb dX8_readsText_103 (by decide) (fun c_7 => ?_) (fun c_7 => ?_)
            · have c_7 := (br_eq rfl (show (0 : Int32) = nI 0 from rfl) (by omega) (by omega)).mp c_7
              exact me_vret hC hr hlk hM (congrArg (ymM tb mo (upd F 7 (nI len)) av od sv ip ot M0) (hyq.trans (lo_y0 (fun z => z.2 c_7) r)).symm) (rfl) dX8_readsText_133
            · have c_7 := (not_congr (br_eq rfl (show (0 : Int32) = nI 0 from rfl) (by omega) (by omega))).mp c_7
              refine lv_aload_n hx hb dX8_readsText_106 rfl (lv_at hl 0 rfl) ?_
              obtain ⟨r1, rfl⟩ : ∃ r1, r = r1 + 1 := ⟨r - 1, by have h1_ := hyr ⟨c_6, c_7⟩; omega⟩
              refine fg_X8_166 hC hM mq_F rfl dX8_readsText_107 ?_
              refine me_evi (y := nI (qKd (yq y))) rfl ?_
              refine lv_iconst (v := 3) hx hb dX8_readsText_110 (by decide) ?_
              refine lv_icmp_ne (tgt := 125) hx hb dX8_readsText_111 (by decide) (fun c_8 => ?_) (fun c_8 => ?_)
              · have c_8 := (not_congr (br_eq rfl (nx_c 3) (by omega) (by omega))).mp c_8
                refine lv_aload_n hx hb dX8_readsText_125 rfl (lv_at hl 0 rfl) ?_
                refine lv_iconst (v := 1) hx hb dX8_readsText_126 (by decide) ?_
                refine me_stk (st2 := [.int (nI 1), .ref mo]) (by rw [(show (1 : Int32) = nI 1 from rfl)]) ?_
                refine me_callVv (As := [.int (nI 1)]) (rest := []) hC hl.1 hM (c_X8_errs l D tb X z0 n mo (upd F 7 (nI len)) (yw y) av od sv (ysl y) (ynz y) ip ot M0 len (yq y) 1 hln hln0 hyo.2 (by omega)) (kv_X8_196 hw rfl rfl ⟨Nat.le_of_ble_eq_true rfl, Nat.le_of_ble_eq_true rfl⟩) rfl rfl mq_F rfl (Nat.le_of_ble_eq_true rfl) dX8_readsText_127 ⟨Nat.le_of_ble_eq_true rfl, Nat.le_of_ble_eq_true rfl⟩ (fun H locs hM => ?_)
                refine lv_goto (tgt := 92) hx hb dX8_readsText_130 (by decide) ?_
                exact ih_92 r1 (by omega) (ltY ip len y) _ _ _ (fl_ltY hyo) (fun z => by have := to_lt hyo z.1; omega) (hyq.trans (lo_y1 ⟨c_6, c_7⟩)) (hM.eq (congrArg (ymM tb mo (upd F 7 (nI len)) av od sv ip ot M0) (show (yw y, ysl y, ynz y, yS y, yB y, yL y, yP y, erP 1 (yq y)) = ltY ip len y from by unfold ltY; rw [if_neg c_8]))) (lv_sub hl [0, 1] rfl)
              · have c_8 := (br_eq rfl (nx_c 3) (by omega) (by omega)).mp c_8
                refine lv_aload_n hx hb dX8_readsText_114 rfl (lv_at hl 0 rfl) ?_
                refine me_callVv (As := []) (rest := []) hC hl.1 hM (c_X8_next l D tb X z0 n mo (upd F 7 (nI len)) (yw y) av od sv (ysl y) (ynz y) ip ot M0 len (yq y)  hln hln0 (qv_w hyo.2) ) (kv_X8_193 hw rfl rfl ⟨Nat.le_of_ble_eq_true rfl, Nat.le_of_ble_eq_true rfl⟩) rfl rfl mq_F rfl (Nat.le_of_ble_eq_true rfl) dX8_readsText_115 ⟨Nat.le_of_ble_eq_true rfl, Nat.le_of_ble_eq_true rfl⟩ (fun H locs hM => ?_)
                obtain ⟨hz1_, hz2_, hz3_, hz4_⟩ := id (show qvP len (mxP ip len (yq y)) from (qv_mx hyo.2))
                refine lv_aload_n hx hb dX8_readsText_118 rfl (lv_at hl 0 rfl) ?_
                refine me_callVv (As := []) (rest := []) hC hl.1 hM (c_X8_readsLine l D tb X z0 n mo (upd F 7 (nI len)) (yw y) av od sv (ysl y) (ynz y) ip ot M0 len (mxP ip len (yq y)) (yS y) (yB y) (yL y) (yP y) T hln hln0 (qv_mx hyo.2) hO hT0) (kv_X8_259 hw rfl rfl ⟨Nat.le_of_ble_eq_true rfl, Nat.le_of_ble_eq_true rfl⟩) rfl rfl mq_F rfl (Nat.le_of_ble_eq_true rfl) dX8_readsText_119 ⟨Nat.le_of_ble_eq_true rfl, Nat.le_of_ble_eq_true rfl⟩ (fun H locs hM => ?_)
                refine lv_goto (tgt := 92) hx hb dX8_readsText_122 (by decide) ?_
                exact ih_92 r1 (by omega) (ltY ip len y) _ _ _ (fl_ltY hyo) (fun z => by have := to_lt hyo z.1; omega) (hyq.trans (lo_y1 ⟨c_6, c_7⟩)) (hM.eq (congrArg (ymM tb mo (upd F 7 (nI len)) av od sv ip ot M0) (show rnY ip len (yw y) (ysl y) (ynz y) (yS y) (yB y) (yL y) (yP y) (mxP ip len (yq y)) = ltY ip len y from by unfold ltY; rw [if_pos c_8]))) (lv_sub hl [0, 1] rfl)
        exact lp_92 (len + 1) (txI ip len w sl nz pq) _ _ _ ok_txI (fun _ => by omega) (by unfold txY; rfl) (hM.eq (show _ = ymM tb mo (upd F 7 (nI len)) av od sv ip ot M0 (txI ip len w sl nz pq) from ym_e (by unfold txI txW; rfl))) (lv_sub hl [0, 1] rfl)
    · have c_1 := (not_congr (br_le (nx_c 411) rfl (by omega) (by omega))).mp c_1
      obtain ⟨r1, rfl⟩ : ∃ r1, r = r1 + 1 := ⟨r - 1, by omega⟩
      refine lv_aload_n hx hb dX8_readsText_9 rfl (lv_at hl 0 rfl) ?_
      refine fg_X8_13 hC hM mq_F rfl dX8_readsText_10 ?_
      refine lv_iload_n hx hb dX8_readsText_13 rfl (lv_at hl 2 rfl) ?_
      refine lv_iconst (v := 0) hx hb dX8_readsText_14 (by decide) ?_
      refine me_iast (k := k) (M2 := mq tb mo (pqF F (pq)) (upd (zrW w k) (k) 0) av od sv sl nz ip ot M0) hC hM mq_w rfl (by omega) (by decide) mq_w_w dX8_readsText_15 (fun H locs hM => ?_)
      refine lv_iinc (v := nI (k + 1)) (lv' := [(2, .int (nI (k + 1))), (0, .ref mo), (1, .int (nI len))]) hx hb dX8_readsText_16 hl (k := 2) rfl (nx_add rfl rfl) (by decide) rfl (fun ls hl => ?_)
      refine lv_goto (tgt := 2) hx hb dX8_readsText_19 (by decide) ?_
      exact ih_2 r1 (by omega) (k + 1) _ _ _ (by omega) (hM.eq (by unfold zrW; rw [← cq_s0])) (lv_sub hl [1, 2, 0] rfl)
  exact lp_2 411 0 _ _ _ (by omega) (hM.eq (by unfold zrW; rw [cq_0])) (lv_sub hl [1, 2, 0] rfl)
theorem nz_fl {a : Nat} (ha : a ≤ 6) (h : ¬ a = 0) : ¬ nI a = (0 : Int32) := fun z => h ((br_eq rfl (show (0 : Int32) = nI 0 from rfl) (by omega) (by omega)).mp z)
set_option maxHeartbeats 4000000 in
theorem c_X8_load (l : Launch) (D : va_G) (tb : Nat → ClassId) (X : State → Prop) (z0 n : Nat) (mo : Nat) (F w av od sv sl nz ip ot : Nat → Int32) (M0 : me_M) (len il : Nat) (pq : QS)  (hil : F 3 = nI il) (hil0 : il ≤ 700) (hlen : len ≤ il) (hfl : qFl (yq (txY ip len w sl nz pq)) = 0) : Met l yX8_load (.code yX8_load cX8_load 2 (some .int) :: ws_all) ({ frames := 11, cells := 0, slots := 0, locals := 240 } : Room) (me_Pc [.ref mo, .int (nI len)] D tb X z0 (mq tb mo (pqF F (pq)) w av od sv sl nz ip ot M0) n) (me_Qi D z0 (nI (yL (txY ip len w sl nz pq))) (mq tb mo (upd (upd (upd (upd (upd (upd (pqF (upd F 7 (nI len)) (yq (txY ip len w sl nz pq))) 3 0) 5 (nI (qFl (yq (txY ip len w sl nz pq))))) 6 (-1)) 1 0) 2 0) 0 0) (yw (txY ip len w sl nz pq)) (cq av w 0 411) od sv (ysl (txY ip len w sl nz pq)) (ynz (txY ip len w sl nz pq)) ip ot M0) n) 0 0 (me_A z0) := by
  refine me_open (by decide) (Nat.le_of_ble_eq_true rfl) ?_
  intro p e s m args below meth c ls hC hr hlk hnm hM hl
  have hl : lv_has ls 2 [(0, .ref mo), (1, .int (nI len))] := hl
  have hx := hC.1
  have hb := hC.2.1
  have hw := hC.2.2.2.2.1
  have hln0 : len ≤ 700 := by omega
  have hokx := ok_txY (t := ip) (len := len) (w := w) (sl := sl) (nz := nz) (p := pq)
  generalize hY9 : txY ip len w sl nz pq = Y9 at hokx hfl ⊢
  obtain ⟨⟨T, hT0, hO⟩, hyq_⟩ := id hokx
  obtain ⟨hz1_, hz2_, hz3_, hz4_⟩ := id hyq_
  refine lv_iload_n hx hb dX8_load_0 rfl (lv_at hl 1 rfl) ?_
  refine lv_iconst (v := 0) hx hb dX8_load_1 (by decide) ?_
  refine lv_aload_n hx hb dX8_load_2 rfl (lv_at hl 0 rfl) ?_
  refine fg_X8_262 hC hM mq_F rfl dX8_load_3 ?_
  refine me_evi (y := F 3) rfl ?_
  refine me_callSi (As := [.int (nI len), .int 0, .int (F 3)]) (rest := []) hC hl.1 hM (c_X8_in l D tb X z0 n _ (nI len) 0 (F 3) ) (ks_X8_67 hw rfl rfl ⟨Nat.le_of_ble_eq_true rfl, Nat.le_of_ble_eq_true rfl⟩) rfl rfl (Nat.le_of_ble_eq_true rfl) dX8_load_6 ⟨Nat.le_of_ble_eq_true rfl, Nat.le_of_ble_eq_true rfl⟩ (fun H locs hM => ?_)
  refine lv_if_ne (tgt := 18) hx hb dX8_load_9 (by decide) (fun c_1 => ?_) (fun c_1 => ?_)
  · have c_1 := b1_n0.mp c_1
    refine lv_aload_n hx hb dX8_load_18 rfl (lv_at hl 0 rfl) ?_
    refine me_callVv (As := []) (rest := []) hC hl.1 hM (c_X8_putsAside l D tb X z0 n mo (pqF F (pq)) w av od sv sl nz ip ot M0 ) (kv_X8_274 hw rfl rfl ⟨Nat.le_of_ble_eq_true rfl, Nat.le_of_ble_eq_true rfl⟩) rfl rfl mq_F rfl (Nat.le_of_ble_eq_true rfl) dX8_load_19 ⟨Nat.le_of_ble_eq_true rfl, Nat.le_of_ble_eq_true rfl⟩ (fun H locs hM => ?_)
    refine lv_aload_n hx hb dX8_load_22 rfl (lv_at hl 0 rfl) ?_
    refine lv_iload_n hx hb dX8_load_23 rfl (lv_at hl 1 rfl) ?_
    refine me_callVv (As := [.int (nI len)]) (rest := []) hC hl.1 hM (c_X8_readsText l D tb X z0 n mo F w (cq av w 0 411) od sv sl nz ip ot M0 len pq hln0) (kv_X8_277 hw rfl rfl ⟨Nat.le_of_ble_eq_true rfl, Nat.le_of_ble_eq_true rfl⟩) rfl rfl mq_F rfl (Nat.le_of_ble_eq_true rfl) dX8_load_24 ⟨Nat.le_of_ble_eq_true rfl, Nat.le_of_ble_eq_true rfl⟩ (fun H locs hM => ?_)
    have hM := hM.eq (M2 := mq tb mo (pqF (upd F 7 (nI len)) (yq Y9)) (yw Y9) (cq av w 0 411) od sv (ysl Y9) (ynz Y9) ip ot M0) (by rw [hY9])
    refine lv_aload_n hx hb dX8_load_27 rfl (lv_at hl 0 rfl) ?_
    refine lv_iconst (v := 0) hx hb dX8_load_28 (by decide) ?_
    refine fp_X8_262 hC hM mq_F (Nat.le_of_ble_eq_true rfl) (M2 := mq tb mo (upd (pqF (upd F 7 (nI len)) (yq Y9)) 3 0) (yw Y9) (cq av w 0 411) od sv (ysl Y9) (ynz Y9) ip ot M0) (mq_wF (i := 3) (by simp [upd])) dX8_load_29 (fun H locs hM => ?_)
    refine lv_aload_n hx hb dX8_load_32 rfl (lv_at hl 0 rfl) ?_
    refine lv_aload_n hx hb dX8_load_33 rfl (lv_at hl 0 rfl) ?_
    refine fg_X8_187 hC hM mq_F rfl dX8_load_34 ?_
    refine me_evi (y := nI (qFl (yq Y9))) rfl ?_
    refine fp_X8_280 hC hM mq_F (Nat.le_of_ble_eq_true rfl) (M2 := mq tb mo (upd (upd (pqF (upd F 7 (nI len)) (yq Y9)) 3 0) 5 (nI (qFl (yq Y9)))) (yw Y9) (cq av w 0 411) od sv (ysl Y9) (ynz Y9) ip ot M0) (mq_wF (i := 5) (by simp [upd])) dX8_load_37 (fun H locs hM => ?_)
    refine lv_aload_n hx hb dX8_load_40 rfl (lv_at hl 0 rfl) ?_
    refine lv_aload_n hx hb dX8_load_41 rfl (lv_at hl 0 rfl) ?_
    refine fg_X8_187 hC hM mq_F rfl dX8_load_42 ?_
    refine me_evi (y := nI (qFl (yq Y9))) rfl ?_
    refine lv_if_ne (tgt := 52) hx hb dX8_load_45 (by decide) (fun c_2 => ?_) (fun c_2 => ?_)
    · have c_2 := (not_congr (br_eq rfl (show (0 : Int32) = nI 0 from rfl) (by omega) (by omega))).mp c_2
      exact absurd (by rw [hfl]) c_2
    · have c_2 := (br_eq rfl (show (0 : Int32) = nI 0 from rfl) (by omega) (by omega)).mp c_2
      refine lv_iconst (v := (-1)) hx hb dX8_load_48 (by decide) ?_
      refine lv_goto (tgt := 56) hx hb dX8_load_49 (by decide) ?_
      refine fp_X8_38 hC hM mq_F (Nat.le_of_ble_eq_true rfl) (M2 := mq tb mo (upd (upd (upd (pqF (upd F 7 (nI len)) (yq Y9)) 3 0) 5 (nI (qFl (yq Y9)))) 6 (-1)) (yw Y9) (cq av w 0 411) od sv (ysl Y9) (ynz Y9) ip ot M0) (mq_wF (i := 6) (by simp [upd])) dX8_load_56 (fun H locs hM => ?_)
      refine lv_aload_n hx hb dX8_load_59 rfl (lv_at hl 0 rfl) ?_
      refine fg_X8_187 hC hM mq_F rfl dX8_load_60 ?_
      refine me_evi (y := nI (qFl (yq Y9))) rfl ?_
      refine lv_if_eq (tgt := 76) hx hb dX8_load_63 (by decide) (fun c_3 => ?_) (fun c_3 => ?_)
      · have c_3 := (br_eq rfl (show (0 : Int32) = nI 0 from rfl) (by omega) (by omega)).mp c_3
        refine lv_aload_n hx hb dX8_load_76 rfl (lv_at hl 0 rfl) ?_
        refine lv_iconst (v := 0) hx hb dX8_load_77 (by decide) ?_
        refine fp_X8_163 hC hM mq_F (Nat.le_of_ble_eq_true rfl) (M2 := mq tb mo (upd (upd (upd (upd (pqF (upd F 7 (nI len)) (yq Y9)) 3 0) 5 (nI (qFl (yq Y9)))) 6 (-1)) 1 0) (yw Y9) (cq av w 0 411) od sv (ysl Y9) (ynz Y9) ip ot M0) (mq_wF (i := 1) (by simp [upd])) dX8_load_78 (fun H locs hM => ?_)
        refine lv_aload_n hx hb dX8_load_81 rfl (lv_at hl 0 rfl) ?_
        refine lv_iconst (v := 0) hx hb dX8_load_82 (by decide) ?_
        refine fp_X8_286 hC hM mq_F (Nat.le_of_ble_eq_true rfl) (M2 := mq tb mo (upd (upd (upd (upd (upd (pqF (upd F 7 (nI len)) (yq Y9)) 3 0) 5 (nI (qFl (yq Y9)))) 6 (-1)) 1 0) 2 0) (yw Y9) (cq av w 0 411) od sv (ysl Y9) (ynz Y9) ip ot M0) (mq_wF (i := 2) (by simp [upd])) dX8_load_83 (fun H locs hM => ?_)
        refine lv_aload_n hx hb dX8_load_86 rfl (lv_at hl 0 rfl) ?_
        refine lv_aload_n hx hb dX8_load_87 rfl (lv_at hl 0 rfl) ?_
        refine fg_X8_13 hC hM mq_F rfl dX8_load_88 ?_
        refine lv_bipush (v := 6) hx hb dX8_load_91 (by decide) ?_
        refine me_iald (k := 6) hC hM mq_w (nx_c 6) (by omega) (by decide) dX8_load_93 ?_
        refine me_callVi (As := [.int ((yw Y9) 6)]) (rest := []) hC hl.1 hM (c_X8_told l D tb X z0 n mo (upd (upd (upd (upd (upd (pqF (upd F 7 (nI len)) (yq Y9)) 3 0) 5 (nI (qFl (yq Y9)))) 6 (-1)) 1 0) 2 0) (yw Y9) (cq av w 0 411) od sv (ysl Y9) (ynz Y9) ip ot M0 ((yw Y9) 6) ) (kv_X8_271 hw rfl rfl ⟨Nat.le_of_ble_eq_true rfl, Nat.le_of_ble_eq_true rfl⟩) rfl rfl mq_F rfl (Nat.le_of_ble_eq_true rfl) dX8_load_94 ⟨Nat.le_of_ble_eq_true rfl, Nat.le_of_ble_eq_true rfl⟩ (fun H locs hM => ?_)
        exact me_iret hC hr hlk hM (hO.1.2.2.2.2.1) (rfl) (rfl) dX8_load_97
      · have c_3 := (not_congr (br_eq rfl (show (0 : Int32) = nI 0 from rfl) (by omega) (by omega))).mp c_3
        exact absurd (by rw [hfl]) c_3
  · have c_1 := b1_0.mp c_1
    exact absurd ((by rw [hil]; exact in_n (a := 0) (by omega) hlen (by omega))) c_1
set_option maxHeartbeats 4000000 in
theorem c_X8_load_x2 (l : Launch) (D : va_G) (tb : Nat → ClassId) (X : State → Prop) (z0 n : Nat) (mo : Nat) (F w av od sv sl nz ip ot : Nat → Int32) (M0 : me_M) (len il : Nat) (pq : QS)  (hil : F 3 = nI il) (hil0 : il ≤ 700) (hlen : len ≤ il) (hfl : ¬ qFl (yq (txY ip len w sl nz pq)) = 0) : Met l yX8_load (.code yX8_load cX8_load 2 (some .int) :: ws_all) ({ frames := 11, cells := 0, slots := 0, locals := 240 } : Room) (me_Pc [.ref mo, .int (nI len)] D tb X z0 (mq tb mo (pqF F (pq)) w av od sv sl nz ip ot M0) n) (me_Qi D z0 0 (mq tb mo (upd (upd (upd (upd (pqF (upd F 7 (nI len)) (yq (txY ip len w sl nz pq))) 3 0) 5 (nI (qFl (yq (txY ip len w sl nz pq))))) 6 (qFa (yq (txY ip len w sl nz pq)))) 0 2) (cq (yw (txY ip len w sl nz pq)) (cq av w 0 411) 0 411) (cq av w 0 411) od sv (ysl (txY ip len w sl nz pq)) (ynz (txY ip len w sl nz pq)) ip ot M0) n) 0 0 (me_A z0) := by
  refine me_open (by decide) (Nat.le_of_ble_eq_true rfl) ?_
  intro p e s m args below meth c ls hC hr hlk hnm hM hl
  have hl : lv_has ls 2 [(0, .ref mo), (1, .int (nI len))] := hl
  have hx := hC.1
  have hb := hC.2.1
  have hw := hC.2.2.2.2.1
  have hln0 : len ≤ 700 := by omega
  have hokx := ok_txY (t := ip) (len := len) (w := w) (sl := sl) (nz := nz) (p := pq)
  generalize hY9 : txY ip len w sl nz pq = Y9 at hokx hfl ⊢
  obtain ⟨⟨T, hT0, hO⟩, hyq_⟩ := id hokx
  obtain ⟨hz1_, hz2_, hz3_, hz4_⟩ := id hyq_
  refine lv_iload_n hx hb dX8_load_0 rfl (lv_at hl 1 rfl) ?_
  refine lv_iconst (v := 0) hx hb dX8_load_1 (by decide) ?_
  refine lv_aload_n hx hb dX8_load_2 rfl (lv_at hl 0 rfl) ?_
  refine fg_X8_262 hC hM mq_F rfl dX8_load_3 ?_
  refine me_evi (y := F 3) rfl ?_
  refine me_callSi (As := [.int (nI len), .int 0, .int (F 3)]) (rest := []) hC hl.1 hM (c_X8_in l D tb X z0 n _ (nI len) 0 (F 3) ) (ks_X8_67 hw rfl rfl ⟨Nat.le_of_ble_eq_true rfl, Nat.le_of_ble_eq_true rfl⟩) rfl rfl (Nat.le_of_ble_eq_true rfl) dX8_load_6 ⟨Nat.le_of_ble_eq_true rfl, Nat.le_of_ble_eq_true rfl⟩ (fun H locs hM => ?_)
  refine lv_if_ne (tgt := 18) hx hb dX8_load_9 (by decide) (fun c_1 => ?_) (fun c_1 => ?_)
  · have c_1 := b1_n0.mp c_1
    refine lv_aload_n hx hb dX8_load_18 rfl (lv_at hl 0 rfl) ?_
    refine me_callVv (As := []) (rest := []) hC hl.1 hM (c_X8_putsAside l D tb X z0 n mo (pqF F (pq)) w av od sv sl nz ip ot M0 ) (kv_X8_274 hw rfl rfl ⟨Nat.le_of_ble_eq_true rfl, Nat.le_of_ble_eq_true rfl⟩) rfl rfl mq_F rfl (Nat.le_of_ble_eq_true rfl) dX8_load_19 ⟨Nat.le_of_ble_eq_true rfl, Nat.le_of_ble_eq_true rfl⟩ (fun H locs hM => ?_)
    refine lv_aload_n hx hb dX8_load_22 rfl (lv_at hl 0 rfl) ?_
    refine lv_iload_n hx hb dX8_load_23 rfl (lv_at hl 1 rfl) ?_
    refine me_callVv (As := [.int (nI len)]) (rest := []) hC hl.1 hM (c_X8_readsText l D tb X z0 n mo F w (cq av w 0 411) od sv sl nz ip ot M0 len pq hln0) (kv_X8_277 hw rfl rfl ⟨Nat.le_of_ble_eq_true rfl, Nat.le_of_ble_eq_true rfl⟩) rfl rfl mq_F rfl (Nat.le_of_ble_eq_true rfl) dX8_load_24 ⟨Nat.le_of_ble_eq_true rfl, Nat.le_of_ble_eq_true rfl⟩ (fun H locs hM => ?_)
    have hM := hM.eq (M2 := mq tb mo (pqF (upd F 7 (nI len)) (yq Y9)) (yw Y9) (cq av w 0 411) od sv (ysl Y9) (ynz Y9) ip ot M0) (by rw [hY9])
    refine lv_aload_n hx hb dX8_load_27 rfl (lv_at hl 0 rfl) ?_
    refine lv_iconst (v := 0) hx hb dX8_load_28 (by decide) ?_
    refine fp_X8_262 hC hM mq_F (Nat.le_of_ble_eq_true rfl) (M2 := mq tb mo (upd (pqF (upd F 7 (nI len)) (yq Y9)) 3 0) (yw Y9) (cq av w 0 411) od sv (ysl Y9) (ynz Y9) ip ot M0) (mq_wF (i := 3) (by simp [upd])) dX8_load_29 (fun H locs hM => ?_)
    refine lv_aload_n hx hb dX8_load_32 rfl (lv_at hl 0 rfl) ?_
    refine lv_aload_n hx hb dX8_load_33 rfl (lv_at hl 0 rfl) ?_
    refine fg_X8_187 hC hM mq_F rfl dX8_load_34 ?_
    refine me_evi (y := nI (qFl (yq Y9))) rfl ?_
    refine fp_X8_280 hC hM mq_F (Nat.le_of_ble_eq_true rfl) (M2 := mq tb mo (upd (upd (pqF (upd F 7 (nI len)) (yq Y9)) 3 0) 5 (nI (qFl (yq Y9)))) (yw Y9) (cq av w 0 411) od sv (ysl Y9) (ynz Y9) ip ot M0) (mq_wF (i := 5) (by simp [upd])) dX8_load_37 (fun H locs hM => ?_)
    refine lv_aload_n hx hb dX8_load_40 rfl (lv_at hl 0 rfl) ?_
    refine lv_aload_n hx hb dX8_load_41 rfl (lv_at hl 0 rfl) ?_
    refine fg_X8_187 hC hM mq_F rfl dX8_load_42 ?_
    refine me_evi (y := nI (qFl (yq Y9))) rfl ?_
    refine lv_if_ne (tgt := 52) hx hb dX8_load_45 (by decide) (fun c_2 => ?_) (fun c_2 => ?_)
    · have c_2 := (not_congr (br_eq rfl (show (0 : Int32) = nI 0 from rfl) (by omega) (by omega))).mp c_2
      refine lv_aload_n hx hb dX8_load_52 rfl (lv_at hl 0 rfl) ?_
      refine fg_X8_190 hC hM mq_F rfl dX8_load_53 ?_
      refine me_evi (y := qFa (yq Y9)) rfl ?_
      refine fp_X8_38 hC hM mq_F (Nat.le_of_ble_eq_true rfl) (M2 := mq tb mo (upd (upd (upd (pqF (upd F 7 (nI len)) (yq Y9)) 3 0) 5 (nI (qFl (yq Y9)))) 6 (qFa (yq Y9))) (yw Y9) (cq av w 0 411) od sv (ysl Y9) (ynz Y9) ip ot M0) (mq_wF (i := 6) (by simp [upd])) dX8_load_56 (fun H locs hM => ?_)
      refine lv_aload_n hx hb dX8_load_59 rfl (lv_at hl 0 rfl) ?_
      refine fg_X8_187 hC hM mq_F rfl dX8_load_60 ?_
      refine me_evi (y := nI (qFl (yq Y9))) rfl ?_
      refine lv_if_eq (tgt := 76) hx hb dX8_load_63 (by decide) (fun c_3 => ?_) (fun c_3 => ?_)
      · have c_3 := (br_eq rfl (show (0 : Int32) = nI 0 from rfl) (by omega) (by omega)).mp c_3
        exact absurd c_3 hfl
      · have c_3 := (not_congr (br_eq rfl (show (0 : Int32) = nI 0 from rfl) (by omega) (by omega))).mp c_3
        refine lv_aload_n hx hb dX8_load_66 rfl (lv_at hl 0 rfl) ?_
        refine me_callVv (As := []) (rest := []) hC hl.1 hM (c_X8_putsBack l D tb X z0 n mo (upd (upd (upd (pqF (upd F 7 (nI len)) (yq Y9)) 3 0) 5 (nI (qFl (yq Y9)))) 6 (qFa (yq Y9))) (yw Y9) (cq av w 0 411) od sv (ysl Y9) (ynz Y9) ip ot M0 ) (kv_X8_283 hw rfl rfl ⟨Nat.le_of_ble_eq_true rfl, Nat.le_of_ble_eq_true rfl⟩) rfl rfl mq_F rfl (Nat.le_of_ble_eq_true rfl) dX8_load_67 ⟨Nat.le_of_ble_eq_true rfl, Nat.le_of_ble_eq_true rfl⟩ (fun H locs hM => ?_)
        refine lv_aload_n hx hb dX8_load_70 rfl (lv_at hl 0 rfl) ?_
        refine lv_iconst (v := 2) hx hb dX8_load_71 (by decide) ?_
        refine me_callVi (As := [.int 2]) (rest := []) hC hl.1 hM (c_X8_refuse l D tb X z0 n mo (upd (upd (upd (pqF (upd F 7 (nI len)) (yq Y9)) 3 0) 5 (nI (qFl (yq Y9)))) 6 (qFa (yq Y9))) (cq (yw Y9) (cq av w 0 411) 0 411) (cq av w 0 411) od sv (ysl Y9) (ynz Y9) ip ot M0 2 ) (kv_X8_265 hw rfl rfl ⟨Nat.le_of_ble_eq_true rfl, Nat.le_of_ble_eq_true rfl⟩) rfl rfl mq_F rfl (Nat.le_of_ble_eq_true rfl) dX8_load_72 ⟨Nat.le_of_ble_eq_true rfl, Nat.le_of_ble_eq_true rfl⟩ (fun H locs hM => ?_)
        exact me_iret hC hr hlk hM (rfl) (rfl) (rfl) dX8_load_75
    · have c_2 := (br_eq rfl (show (0 : Int32) = nI 0 from rfl) (by omega) (by omega)).mp c_2
      exact absurd c_2 hfl
  · have c_1 := b1_0.mp c_1
    exact absurd ((by rw [hil]; exact in_n (a := 0) (by omega) hlen (by omega))) c_1
set_option maxHeartbeats 4000000 in
theorem c_X8_load_x1 (l : Launch) (D : va_G) (tb : Nat → ClassId) (X : State → Prop) (z0 n : Nat) (mo : Nat) (F w av od sv sl nz ip ot : Nat → Int32) (M0 : me_M) (x : Int32)  (hbad : x < 0 ∨ F 3 < x) : Met l yX8_load (.code yX8_load cX8_load 2 (some .int) :: ws_all) ({ frames := 1, cells := 0, slots := 0, locals := 22 } : Room) (me_Pc [.ref mo, .int x] D tb X z0 (mq tb mo F w av od sv sl nz ip ot M0) n) (me_Qi D z0 0 (mq tb mo (upd F 0 1) w av od sv sl nz ip ot M0) n) 0 0 (me_A z0) := by
  refine me_open (by decide) (Nat.le_of_ble_eq_true rfl) ?_
  intro p e s m args below meth c ls hC hr hlk hnm hM hl
  have hl : lv_has ls 2 [(0, .ref mo), (1, .int x)] := hl
  have hx := hC.1
  have hb := hC.2.1
  have hw := hC.2.2.2.2.1
  refine lv_iload_n hx hb dX8_load_0 rfl (lv_at hl 1 rfl) ?_
  refine lv_iconst (v := 0) hx hb dX8_load_1 (by decide) ?_
  refine lv_aload_n hx hb dX8_load_2 rfl (lv_at hl 0 rfl) ?_
  refine fg_X8_262 hC hM mq_F rfl dX8_load_3 ?_
  refine me_callSi (As := [.int x, .int 0, .int (F 3)]) (rest := []) hC hl.1 hM (c_X8_in l D tb X z0 n _ x 0 (F 3) ) (ks_X8_67 hw rfl rfl ⟨Nat.le_of_ble_eq_true rfl, Nat.le_of_ble_eq_true rfl⟩) rfl rfl (Nat.le_of_ble_eq_true rfl) dX8_load_6 ⟨Nat.le_of_ble_eq_true rfl, Nat.le_of_ble_eq_true rfl⟩ (fun H locs hM => ?_)
  refine lv_if_ne (tgt := 18) hx hb dX8_load_9 (by decide) (fun c_1 => ?_) (fun c_1 => ?_)
  · have c_1 := b1_n0.mp c_1
    exact absurd c_1 (in_y hbad)
  · have c_1 := b1_0.mp c_1
    refine lv_aload_n hx hb dX8_load_12 rfl (lv_at hl 0 rfl) ?_
    refine lv_iconst (v := 1) hx hb dX8_load_13 (by decide) ?_
    refine me_callVi (As := [.int 1]) (rest := []) hC hl.1 hM (c_X8_refuse l D tb X z0 n mo F w av od sv sl nz ip ot M0 (1 : Int32) ) (kv_X8_265 hw rfl rfl ⟨Nat.le_of_ble_eq_true rfl, Nat.le_of_ble_eq_true rfl⟩) rfl rfl mq_F rfl (Nat.le_of_ble_eq_true rfl) dX8_load_14 ⟨Nat.le_of_ble_eq_true rfl, Nat.le_of_ble_eq_true rfl⟩ (fun H locs hM => ?_)
    exact me_iret hC hr hlk hM (rfl) (rfl) (rfl) dX8_load_17
set_option maxHeartbeats 4000000 in
theorem c_X8_feeds (l : Launch) (D : va_G) (tb : Nat → ClassId) (X : State → Prop) (z0 n : Nat) (mo : Nat) (F w av od sv sl nz ip ot : Nat → Int32) (M0 : me_M) (x : Int32) (il : Nat)  (hil : F 3 = nI il) (hil0 : il + 4 ≤ 700) : Met l yX8_feeds (.code yX8_feeds cX8_feeds 2 none :: ws_all) ({ frames := 0, cells := 0, slots := 0, locals := 0 } : Room) (me_Pc [.ref mo, .int x] D tb X z0 (mq tb mo F w av od sv sl nz ip ot M0) n) (me_Qv D z0 (mq tb mo (upd F 3 (nI (il + 4))) w av od sv sl nz (feW ip il x) ot M0) n) 0 0 (me_A z0) := by
  refine me_open (by decide) (Nat.le_of_ble_eq_true rfl) ?_
  intro p e s m args below meth c ls hC hr hlk hnm hM hl
  have hl : lv_has ls 2 [(0, .ref mo), (1, .int x)] := hl
  have hx := hC.1
  have hb := hC.2.1
  have hw := hC.2.2.2.2.1
  refine lv_aload_n hx hb dX8_feeds_0 rfl (lv_at hl 0 rfl) ?_
  refine fg_X8_31 hC hM mq_F rfl dX8_feeds_1 ?_
  refine lv_aload_n hx hb dX8_feeds_4 rfl (lv_at hl 0 rfl) ?_
  refine fg_X8_262 hC hM mq_F rfl dX8_feeds_5 ?_
  refine lv_iload_n hx hb dX8_feeds_8 rfl (lv_at hl 1 rfl) ?_
  refine lv_bipush (v := 24) hx hb dX8_feeds_9 (by decide) ?_
  refine lv_ishr hx hb dX8_feeds_11 ?_
  refine lv_i2b (v := (x >>> (24 &&& 31)).toInt8.toInt32) hx hb dX8_feeds_12 rfl ?_
  refine me_bast (k := il) (M2 := mq tb mo F w av od sv sl nz (upd ip il (vp_nar .byte ((x >>> (24 &&& 31)).toInt8.toInt32))) ot M0) hC hM mq_ip hil (by omega) (by first | decide | omega) mq_w_ip dX8_feeds_13 (fun H locs hM => ?_)
  refine lv_aload_n hx hb dX8_feeds_14 rfl (lv_at hl 0 rfl) ?_
  refine fg_X8_31 hC hM mq_F rfl dX8_feeds_15 ?_
  refine lv_aload_n hx hb dX8_feeds_18 rfl (lv_at hl 0 rfl) ?_
  refine fg_X8_262 hC hM mq_F rfl dX8_feeds_19 ?_
  refine lv_iconst (v := 1) hx hb dX8_feeds_22 (by decide) ?_
  refine lv_iadd hx hb dX8_feeds_23 ?_
  refine lv_iload_n hx hb dX8_feeds_24 rfl (lv_at hl 1 rfl) ?_
  refine lv_bipush (v := 16) hx hb dX8_feeds_25 (by decide) ?_
  refine lv_ishr hx hb dX8_feeds_27 ?_
  refine lv_i2b (v := (x >>> (16 &&& 31)).toInt8.toInt32) hx hb dX8_feeds_28 rfl ?_
  refine me_bast (k := il + 1) (M2 := mq tb mo F w av od sv sl nz (upd (upd ip il (vp_nar .byte ((x >>> (24 &&& 31)).toInt8.toInt32))) (il + 1) (vp_nar .byte ((x >>> (16 &&& 31)).toInt8.toInt32))) ot M0) hC hM mq_ip (nx_add hil (show (1 : Int32) = nI 1 from rfl)) (by omega) (by first | decide | omega) mq_w_ip dX8_feeds_29 (fun H locs hM => ?_)
  refine lv_aload_n hx hb dX8_feeds_30 rfl (lv_at hl 0 rfl) ?_
  refine fg_X8_31 hC hM mq_F rfl dX8_feeds_31 ?_
  refine lv_aload_n hx hb dX8_feeds_34 rfl (lv_at hl 0 rfl) ?_
  refine fg_X8_262 hC hM mq_F rfl dX8_feeds_35 ?_
  refine lv_iconst (v := 2) hx hb dX8_feeds_38 (by decide) ?_
  refine lv_iadd hx hb dX8_feeds_39 ?_
  refine lv_iload_n hx hb dX8_feeds_40 rfl (lv_at hl 1 rfl) ?_
  refine lv_bipush (v := 8) hx hb dX8_feeds_41 (by decide) ?_
  refine lv_ishr hx hb dX8_feeds_43 ?_
  refine lv_i2b (v := (x >>> (8 &&& 31)).toInt8.toInt32) hx hb dX8_feeds_44 rfl ?_
  refine me_bast (k := il + 2) (M2 := mq tb mo F w av od sv sl nz (upd (upd (upd ip il (vp_nar .byte ((x >>> (24 &&& 31)).toInt8.toInt32))) (il + 1) (vp_nar .byte ((x >>> (16 &&& 31)).toInt8.toInt32))) (il + 2) (vp_nar .byte ((x >>> (8 &&& 31)).toInt8.toInt32))) ot M0) hC hM mq_ip (nx_add hil (nx_c 2)) (by omega) (by first | decide | omega) mq_w_ip dX8_feeds_45 (fun H locs hM => ?_)
  refine lv_aload_n hx hb dX8_feeds_46 rfl (lv_at hl 0 rfl) ?_
  refine fg_X8_31 hC hM mq_F rfl dX8_feeds_47 ?_
  refine lv_aload_n hx hb dX8_feeds_50 rfl (lv_at hl 0 rfl) ?_
  refine fg_X8_262 hC hM mq_F rfl dX8_feeds_51 ?_
  refine lv_iconst (v := 3) hx hb dX8_feeds_54 (by decide) ?_
  refine lv_iadd hx hb dX8_feeds_55 ?_
  refine lv_iload_n hx hb dX8_feeds_56 rfl (lv_at hl 1 rfl) ?_
  refine lv_i2b (v := x.toInt8.toInt32) hx hb dX8_feeds_57 rfl ?_
  refine me_bast (k := il + 3) (M2 := mq tb mo F w av od sv sl nz (upd (upd (upd (upd ip il (vp_nar .byte ((x >>> (24 &&& 31)).toInt8.toInt32))) (il + 1) (vp_nar .byte ((x >>> (16 &&& 31)).toInt8.toInt32))) (il + 2) (vp_nar .byte ((x >>> (8 &&& 31)).toInt8.toInt32))) (il + 3) (vp_nar .byte x.toInt8.toInt32)) ot M0) hC hM mq_ip (nx_add hil (nx_c 3)) (by omega) (by first | decide | omega) mq_w_ip dX8_feeds_58 (fun H locs hM => ?_)
  refine lv_aload_n hx hb dX8_feeds_59 rfl (lv_at hl 0 rfl) ?_
  refine lv_dup hx hb dX8_feeds_60 rfl ?_
  refine fg_X8_262 hC hM mq_F rfl dX8_feeds_61 ?_
  refine lv_iconst (v := 4) hx hb dX8_feeds_64 (by decide) ?_
  refine lv_iadd hx hb dX8_feeds_65 ?_
  refine fp_X8_262 hC hM mq_F (Nat.le_of_ble_eq_true rfl) (M2 := mq tb mo (upd F 3 ((F 3) + 4)) w av od sv sl nz (upd (upd (upd (upd ip il (vp_nar .byte ((x >>> (24 &&& 31)).toInt8.toInt32))) (il + 1) (vp_nar .byte ((x >>> (16 &&& 31)).toInt8.toInt32))) (il + 2) (vp_nar .byte ((x >>> (8 &&& 31)).toInt8.toInt32))) (il + 3) (vp_nar .byte x.toInt8.toInt32)) ot M0) (mq_wF (i := 3) (by simp [upd])) dX8_feeds_66 (fun H locs hM => ?_)
  exact me_vret hC hr hlk hM (by rw [show F 3 + 4 = nI (il + 4) from nx_add hil (nx_c 4)]; rfl) (rfl) dX8_feeds_69
set_option maxHeartbeats 4000000 in
theorem c_X8_append (l : Launch) (D : va_G) (tb : Nat → ClassId) (X : State → Prop) (z0 n : Nat) (mo : Nat) (F w av od sv sl nz ip ot : Nat → Int32) (M0 : me_M) (xa xb xc xd xe : Int32) (il : Nat)  (hil : F 3 = nI il) (hil0 : il + 20 ≤ 700) : Met l yX8_append (.code yX8_append cX8_append 6 (some .int) :: ws_all) ({ frames := 1, cells := 0, slots := 0, locals := 21 } : Room) (me_Pc [.ref mo, .int xa, .int xb, .int xc, .int xd, .int xe] D tb X z0 (mq tb mo F w av od sv sl nz ip ot M0) n) (me_Qi D z0 (nI (il + 4 + 4 + 4 + 4 + 4)) (mq tb mo (upd (upd F 3 (nI (il + 4 + 4 + 4 + 4 + 4))) 0 0) w av od sv sl nz (feW (feW (feW (feW (feW ip il xa) (il + 4) xb) (il + 4 + 4) xc) (il + 4 + 4 + 4) xd) (il + 4 + 4 + 4 + 4) xe) ot M0) n) 0 0 (me_A z0) := by
  refine me_open (by decide) (Nat.le_of_ble_eq_true rfl) ?_
  intro p e s m args below meth c ls hC hr hlk hnm hM hl
  have hl : lv_has ls 6 [(0, .ref mo), (1, .int xa), (2, .int xb), (3, .int xc), (4, .int xd), (5, .int xe)] := hl
  have hx := hC.1
  have hb := hC.2.1
  have hw := hC.2.2.2.2.1
  refine lv_aload_n hx hb dX8_append_0 rfl (lv_at hl 0 rfl) ?_
  refine fg_X8_262 hC hM mq_F rfl dX8_append_1 ?_
  refine lv_sipush (v := 680) hx hb dX8_append_4 (by decide) ?_
  refine lv_icmp_le (tgt := 16) hx hb dX8_append_7 (by decide) (fun c_1 => ?_) (fun c_1 => ?_)
  · have c_1 := (br_le hil (nx_c 680) (by omega) (by omega)).mp c_1
    refine lv_aload_n hx hb dX8_append_16 rfl (lv_at hl 0 rfl) ?_
    refine lv_iload_n hx hb dX8_append_17 rfl (lv_at hl 1 rfl) ?_
    refine me_callVv (As := [.int xa]) (rest := []) hC hl.1 hM (c_X8_feeds l D tb X z0 n mo F w av od sv sl nz ip ot M0 xa il hil (by omega)) (kv_X8_268 hw rfl rfl ⟨Nat.le_of_ble_eq_true rfl, Nat.le_of_ble_eq_true rfl⟩) rfl rfl mq_F rfl (Nat.le_of_ble_eq_true rfl) dX8_append_18 ⟨Nat.le_of_ble_eq_true rfl, Nat.le_of_ble_eq_true rfl⟩ (fun H locs hM => ?_)
    refine lv_aload_n hx hb dX8_append_21 rfl (lv_at hl 0 rfl) ?_
    refine lv_iload_n hx hb dX8_append_22 rfl (lv_at hl 2 rfl) ?_
    refine me_callVv (As := [.int xb]) (rest := []) hC hl.1 hM (c_X8_feeds l D tb X z0 n mo (upd F 3 (nI (il + 4))) w av od sv sl nz (feW ip il xa) ot M0 xb (il + 4) (upd_s _ _ _) (by omega)) (kv_X8_268 hw rfl rfl ⟨Nat.le_of_ble_eq_true rfl, Nat.le_of_ble_eq_true rfl⟩) rfl rfl mq_F rfl (Nat.le_of_ble_eq_true rfl) dX8_append_23 ⟨Nat.le_of_ble_eq_true rfl, Nat.le_of_ble_eq_true rfl⟩ (fun H locs hM => ?_)
    have hM := hM.eq (M2 := mq tb mo (upd F 3 (nI (il + 4 + 4))) w av od sv sl nz (feW (feW ip il xa) (il + 4) xb) ot M0) (by rw [upd_upd])
    refine lv_aload_n hx hb dX8_append_26 rfl (lv_at hl 0 rfl) ?_
    refine lv_iload_n hx hb dX8_append_27 rfl (lv_at hl 3 rfl) ?_
    refine me_callVv (As := [.int xc]) (rest := []) hC hl.1 hM (c_X8_feeds l D tb X z0 n mo (upd F 3 (nI (il + 4 + 4))) w av od sv sl nz (feW (feW ip il xa) (il + 4) xb) ot M0 xc (il + 4 + 4) (upd_s _ _ _) (by omega)) (kv_X8_268 hw rfl rfl ⟨Nat.le_of_ble_eq_true rfl, Nat.le_of_ble_eq_true rfl⟩) rfl rfl mq_F rfl (Nat.le_of_ble_eq_true rfl) dX8_append_28 ⟨Nat.le_of_ble_eq_true rfl, Nat.le_of_ble_eq_true rfl⟩ (fun H locs hM => ?_)
    have hM := hM.eq (M2 := mq tb mo (upd F 3 (nI (il + 4 + 4 + 4))) w av od sv sl nz (feW (feW (feW ip il xa) (il + 4) xb) (il + 4 + 4) xc) ot M0) (by rw [upd_upd])
    refine lv_aload_n hx hb dX8_append_31 rfl (lv_at hl 0 rfl) ?_
    refine lv_iload hx hb dX8_append_32 (lv_at hl 4 rfl) ?_
    refine me_callVv (As := [.int xd]) (rest := []) hC hl.1 hM (c_X8_feeds l D tb X z0 n mo (upd F 3 (nI (il + 4 + 4 + 4))) w av od sv sl nz (feW (feW (feW ip il xa) (il + 4) xb) (il + 4 + 4) xc) ot M0 xd (il + 4 + 4 + 4) (upd_s _ _ _) (by omega)) (kv_X8_268 hw rfl rfl ⟨Nat.le_of_ble_eq_true rfl, Nat.le_of_ble_eq_true rfl⟩) rfl rfl mq_F rfl (Nat.le_of_ble_eq_true rfl) dX8_append_34 ⟨Nat.le_of_ble_eq_true rfl, Nat.le_of_ble_eq_true rfl⟩ (fun H locs hM => ?_)
    have hM := hM.eq (M2 := mq tb mo (upd F 3 (nI (il + 4 + 4 + 4 + 4))) w av od sv sl nz (feW (feW (feW (feW ip il xa) (il + 4) xb) (il + 4 + 4) xc) (il + 4 + 4 + 4) xd) ot M0) (by rw [upd_upd])
    refine lv_aload_n hx hb dX8_append_37 rfl (lv_at hl 0 rfl) ?_
    refine lv_iload hx hb dX8_append_38 (lv_at hl 5 rfl) ?_
    refine me_callVv (As := [.int xe]) (rest := []) hC hl.1 hM (c_X8_feeds l D tb X z0 n mo (upd F 3 (nI (il + 4 + 4 + 4 + 4))) w av od sv sl nz (feW (feW (feW (feW ip il xa) (il + 4) xb) (il + 4 + 4) xc) (il + 4 + 4 + 4) xd) ot M0 xe (il + 4 + 4 + 4 + 4) (upd_s _ _ _) (by omega)) (kv_X8_268 hw rfl rfl ⟨Nat.le_of_ble_eq_true rfl, Nat.le_of_ble_eq_true rfl⟩) rfl rfl mq_F rfl (Nat.le_of_ble_eq_true rfl) dX8_append_40 ⟨Nat.le_of_ble_eq_true rfl, Nat.le_of_ble_eq_true rfl⟩ (fun H locs hM => ?_)
    have hM := hM.eq (M2 := mq tb mo (upd F 3 (nI (il + 4 + 4 + 4 + 4 + 4))) w av od sv sl nz (feW (feW (feW (feW (feW ip il xa) (il + 4) xb) (il + 4 + 4) xc) (il + 4 + 4 + 4) xd) (il + 4 + 4 + 4 + 4) xe) ot M0) (by rw [upd_upd])
    refine lv_aload_n hx hb dX8_append_43 rfl (lv_at hl 0 rfl) ?_
    refine lv_aload_n hx hb dX8_append_44 rfl (lv_at hl 0 rfl) ?_
    refine fg_X8_262 hC hM mq_F rfl dX8_append_45 ?_
    refine me_callVi (As := [.int ((upd F 3 (nI (il + 4 + 4 + 4 + 4 + 4))) 3)]) (rest := []) hC hl.1 hM (c_X8_told l D tb X z0 n mo (upd F 3 (nI (il + 4 + 4 + 4 + 4 + 4))) w av od sv sl nz (feW (feW (feW (feW (feW ip il xa) (il + 4) xb) (il + 4 + 4) xc) (il + 4 + 4 + 4) xd) (il + 4 + 4 + 4 + 4) xe) ot M0 ((upd F 3 (nI (il + 4 + 4 + 4 + 4 + 4))) 3) ) (kv_X8_271 hw rfl rfl ⟨Nat.le_of_ble_eq_true rfl, Nat.le_of_ble_eq_true rfl⟩) rfl rfl mq_F rfl (Nat.le_of_ble_eq_true rfl) dX8_append_48 ⟨Nat.le_of_ble_eq_true rfl, Nat.le_of_ble_eq_true rfl⟩ (fun H locs hM => ?_)
    exact me_iret hC hr hlk hM (upd_s _ _ _) (rfl) (rfl) dX8_append_51
  · have c_1 := (not_congr (br_le hil (nx_c 680) (by omega) (by omega))).mp c_1
    exfalso; omega
set_option maxHeartbeats 4000000 in
theorem c_X8_append_x1 (l : Launch) (D : va_G) (tb : Nat → ClassId) (X : State → Prop) (z0 n : Nat) (mo : Nat) (F w av od sv sl nz ip ot : Nat → Int32) (M0 : me_M) (xa xb xc xd xe : Int32) (il : Nat)  (hil : F 3 = nI il) (hil0 : 700 < il + 20) (hil1 : il ≤ 700) : Met l yX8_append (.code yX8_append cX8_append 6 (some .int) :: ws_all) ({ frames := 1, cells := 0, slots := 0, locals := 21 } : Room) (me_Pc [.ref mo, .int xa, .int xb, .int xc, .int xd, .int xe] D tb X z0 (mq tb mo F w av od sv sl nz ip ot M0) n) (me_Qi D z0 0 (mq tb mo (upd F 0 1) w av od sv sl nz ip ot M0) n) 0 0 (me_A z0) := by
  refine me_open (by decide) (Nat.le_of_ble_eq_true rfl) ?_
  intro p e s m args below meth c ls hC hr hlk hnm hM hl
  have hl : lv_has ls 6 [(0, .ref mo), (1, .int xa), (2, .int xb), (3, .int xc), (4, .int xd), (5, .int xe)] := hl
  have hx := hC.1
  have hb := hC.2.1
  have hw := hC.2.2.2.2.1
  refine lv_aload_n hx hb dX8_append_0 rfl (lv_at hl 0 rfl) ?_
  refine fg_X8_262 hC hM mq_F rfl dX8_append_1 ?_
  refine lv_sipush (v := 680) hx hb dX8_append_4 (by decide) ?_
  refine lv_icmp_le (tgt := 16) hx hb dX8_append_7 (by decide) (fun c_1 => ?_) (fun c_1 => ?_)
  · have c_1 := (br_le hil (nx_c 680) (by omega) (by omega)).mp c_1
    exfalso; omega
  · have c_1 := (not_congr (br_le hil (nx_c 680) (by omega) (by omega))).mp c_1
    refine lv_aload_n hx hb dX8_append_10 rfl (lv_at hl 0 rfl) ?_
    refine lv_iconst (v := 1) hx hb dX8_append_11 (by decide) ?_
    refine me_callVi (As := [.int 1]) (rest := []) hC hl.1 hM (c_X8_refuse l D tb X z0 n mo F w av od sv sl nz ip ot M0 (1 : Int32) ) (kv_X8_265 hw rfl rfl ⟨Nat.le_of_ble_eq_true rfl, Nat.le_of_ble_eq_true rfl⟩) rfl rfl mq_F rfl (Nat.le_of_ble_eq_true rfl) dX8_append_12 ⟨Nat.le_of_ble_eq_true rfl, Nat.le_of_ble_eq_true rfl⟩ (fun H locs hM => ?_)
    exact me_iret hC hr hlk hM (rfl) (rfl) (rfl) dX8_append_15
