set_option maxHeartbeats 4000000 in
theorem c_X8_readsWhistle (l : Launch) (D : va_G) (tb : Nat → ClassId) (X : State → Prop) (z0 n : Nat) (mo : Nat) (F w av od sv sl nz ip ot : Nat → Int32) (M0 : me_M) (len : Nat) (pq : QS) (S B L P : Nat) (T : Nat)  (hln : F 7 = nI len) (hln0 : len ≤ 700) (hq : qvP len pq) (hO : ok1 S B L P T w) (hT0 : T ≤ 9999) : Met l yX8_readsWhistle (.code yX8_readsWhistle cX8_readsWhistle 2 none :: ws_all) ({ frames := 2, cells := 0, slots := 0, locals := 44 } : Room) (me_Pc [.ref mo] D tb X z0 (mq tb mo (pqF F (pq)) w av od sv sl nz ip ot M0) n) (me_Qv D z0 (ymM tb mo F av od sv ip ot M0 (rwY ip len w sl nz S B L P pq)) n) 0 0 (me_A z0) := by
  refine me_open (by decide) (Nat.le_of_ble_eq_true rfl) ?_
  intro p e s m args below meth c ls hC hr hlk hnm hM hl
  have hl : lv_has ls 2 [(0, .ref mo)] := hl
  have hx := hC.1
  have hb := hC.2.1
  have hw := hC.2.2.2.2.1
  obtain ⟨hq1, hq2, hq3, hq4⟩ := id hq
  obtain ⟨hW, hZ, hT⟩ := id hO
  obtain ⟨hS, hS0, hB, hB0, hL, hL0, hP, hP0, hwb, hwl⟩ := id hW
  refine lv_aload_n hx hb dX8_readsWhistle_0 rfl (lv_at hl 0 rfl) ?_
  refine me_callVv (As := []) (rest := []) hC hl.1 hM (c_X8_next l D tb X z0 n mo F w av od sv sl nz ip ot M0 len pq  hln hln0 (qv_w hq) ) (kv_X8_193 hw rfl rfl ⟨Nat.le_of_ble_eq_true rfl, Nat.le_of_ble_eq_true rfl⟩) rfl rfl mq_F rfl (Nat.le_of_ble_eq_true rfl) dX8_readsWhistle_1 ⟨Nat.le_of_ble_eq_true rfl, Nat.le_of_ble_eq_true rfl⟩ (fun H locs hM => ?_)
  obtain ⟨hz1_, hz2_, hz3_, hz4_⟩ := id (show qvP len (mxP ip len pq) from (qv_mx hq))
  refine lv_aload_n hx hb dX8_readsWhistle_4 rfl (lv_at hl 0 rfl) ?_
  refine lv_iconst (v := 0) hx hb dX8_readsWhistle_5 (by decide) ?_
  refine lv_aload_n hx hb dX8_readsWhistle_6 rfl (lv_at hl 0 rfl) ?_
  refine fg_X8_13 hC hM mq_F rfl dX8_readsWhistle_7 ?_
  refine lv_bipush (v := 6) hx hb dX8_readsWhistle_10 (by decide) ?_
  refine me_iald (k := 6) hC hM mq_w (nx_c 6) (by omega) (by decide) dX8_readsWhistle_12 ?_
  refine lv_iconst (v := 1) hx hb dX8_readsWhistle_13 (by decide) ?_
  refine lv_isub hx hb dX8_readsWhistle_14 ?_
  refine me_callVi (As := [.int 0, .int ((w 6) - 1)]) (rest := []) hC hl.1 hM (c_X8_here l D tb X z0 n mo F w av od sv sl nz ip ot M0 len (mxP ip len pq) 0 ((w 6) - 1) hln hln0 (qv_mx hq) ) (kv_X8_199 hw rfl rfl ⟨Nat.le_of_ble_eq_true rfl, Nat.le_of_ble_eq_true rfl⟩) rfl rfl mq_F rfl (Nat.le_of_ble_eq_true rfl) dX8_readsWhistle_15 ⟨Nat.le_of_ble_eq_true rfl, Nat.le_of_ble_eq_true rfl⟩ (fun H locs hM => ?_)
  have hM := hM.eq (M2 := mq tb mo (pqF F (rwA ip len w pq)) w av od sv sl nz ip ot M0) (mq_ps rfl)
  refine me_evi (y := rwV ip len w pq) rfl ?_
  obtain ⟨hz1_, hz2_, hz3_, hz4_⟩ := id (show qvP len (rwA ip len w pq) from (qv_he (qv_mx hq)))
  refine lv_istore_n (lv' := [(1, .int (rwV ip len w pq)), (0, .ref mo)]) hx hb dX8_readsWhistle_18 rfl hl (by decide) rfl (fun ls hl => ?_)
  refine lv_aload_n hx hb dX8_readsWhistle_19 rfl (lv_at hl 1 rfl) ?_
  refine fg_X8_187 hC hM mq_F rfl dX8_readsWhistle_20 ?_
  refine me_evi (y := nI (qFl (rwA ip len w pq))) rfl ?_
  refine lv_if_ne (tgt := 40) hx hb dX8_readsWhistle_23 (by decide) (fun c_1 => ?_) (fun c_1 => ?_)
  · have c_1 := (not_congr (br_eq rfl (show (0 : Int32) = nI 0 from rfl) (by omega) (by omega))).mp c_1
    have hM := hM.eq (M2 := mq tb mo (pqF F (rwB ip len w pq)) w av od sv sl nz ip ot M0) (mq_ps (by unfold rwB; rw [if_neg (fun z => c_1 z.1)]))
    obtain ⟨hz1_, hz2_, hz3_, hz4_⟩ := id (show qvP len (rwB ip len w pq) from (show qvP len (rwB ip len w pq) from by unfold rwB; split; exact qv_er (qv_he (qv_mx hq)) (by omega); exact qv_he (qv_mx hq)))
    refine lv_aload_n hx hb dX8_readsWhistle_40 rfl (lv_at hl 1 rfl) ?_
    refine fg_X8_187 hC hM mq_F rfl dX8_readsWhistle_41 ?_
    refine me_evi (y := nI (qFl (rwB ip len w pq))) rfl ?_
    refine lv_if_ne (tgt := 63) hx hb dX8_readsWhistle_44 (by decide) (fun c_2 => ?_) (fun c_2 => ?_)
    · have c_2 := (not_congr (br_eq rfl (show (0 : Int32) = nI 0 from rfl) (by omega) (by omega))).mp c_2
      exact me_vret hC hr hlk hM (ym_e (by unfold rwY; rw [if_neg c_2])) (rfl) dX8_readsWhistle_63
    · have c_2 := (br_eq rfl (show (0 : Int32) = nI 0 from rfl) (by omega) (by omega)).mp c_2
      exact absurd (zk_rw c_2).1 c_1
  · have c_1 := (br_eq rfl (show (0 : Int32) = nI 0 from rfl) (by omega) (by omega)).mp c_1
    obtain ⟨k9, hk9, ek⟩ := rw_nat (t := ip) (len := len) (w := w) (L := L) (q := pq) hL hL0 c_1
    have ekc : (rwV ip len w pq).toNatClampNeg = k9 := by rw [ek]; exact nI_clamp (by omega)
    refine lv_aload_n hx hb dX8_readsWhistle_26 rfl (lv_at hl 1 rfl) ?_
    refine lv_iload_n hx hb dX8_readsWhistle_27 rfl (lv_at hl 0 rfl) ?_
    refine me_stk (st2 := [.int (nI k9), .ref mo]) (by rw [ek]) ?_
    refine me_callVi (As := [.int (nI k9)]) (rest := []) hC hl.1 hM (c_X8_canWhistle l D tb X z0 n mo (pqF F (rwA ip len w pq)) w av od sv sl nz ip ot M0 k9 (by omega)) (kv_X8_235 hw rfl rfl ⟨Nat.le_of_ble_eq_true rfl, Nat.le_of_ble_eq_true rfl⟩) rfl rfl mq_F rfl (Nat.le_of_ble_eq_true rfl) dX8_readsWhistle_28 ⟨Nat.le_of_ble_eq_true rfl, Nat.le_of_ble_eq_true rfl⟩ (fun H locs hM => ?_)
    refine lv_if_ne (tgt := 40) hx hb dX8_readsWhistle_31 (by decide) (fun c_3 => ?_) (fun c_3 => ?_)
    · have c_3 := b1_n0.mp c_3
      have hM := hM.eq (M2 := mq tb mo (pqF F (rwB ip len w pq)) w av od sv sl nz ip ot M0) (mq_ps (by unfold rwB; rw [if_neg (fun z => z.2 (by rw [ekc]; exact c_3))]))
      obtain ⟨hz1_, hz2_, hz3_, hz4_⟩ := id (show qvP len (rwB ip len w pq) from (show qvP len (rwB ip len w pq) from by unfold rwB; split; exact qv_er (qv_he (qv_mx hq)) (by omega); exact qv_he (qv_mx hq)))
      refine lv_aload_n hx hb dX8_readsWhistle_40 rfl (lv_at hl 1 rfl) ?_
      refine fg_X8_187 hC hM mq_F rfl dX8_readsWhistle_41 ?_
      refine me_evi (y := nI (qFl (rwB ip len w pq))) rfl ?_
      refine lv_if_ne (tgt := 63) hx hb dX8_readsWhistle_44 (by decide) (fun c_4 => ?_) (fun c_4 => ?_)
      · have c_4 := (not_congr (br_eq rfl (show (0 : Int32) = nI 0 from rfl) (by omega) (by omega))).mp c_4
        exact me_vret hC hr hlk hM (ym_e (by unfold rwY; rw [if_neg c_4])) (rfl) dX8_readsWhistle_63
      · have c_4 := (br_eq rfl (show (0 : Int32) = nI 0 from rfl) (by omega) (by omega)).mp c_4
        refine lv_aload_n hx hb dX8_readsWhistle_47 rfl (lv_at hl 1 rfl) ?_
        refine fg_X8_13 hC hM mq_F rfl dX8_readsWhistle_48 ?_
        refine lv_iload_n hx hb dX8_readsWhistle_51 rfl (lv_at hl 0 rfl) ?_
        refine me_stk (st2 := [.int (nI k9), .ref (mo + 2)]) (by rw [ek]) ?_
        refine me_callSi (As := [.int (nI k9)]) (rest := [.ref (mo + 2)]) hC hl.1 hM (c_X8_l l D tb X z0 n _ k9 ) (ks_X8_93 hw rfl rfl ⟨Nat.le_of_ble_eq_true rfl, Nat.le_of_ble_eq_true rfl⟩) rfl rfl (Nat.le_of_ble_eq_true rfl) dX8_readsWhistle_52 ⟨Nat.le_of_ble_eq_true rfl, Nat.le_of_ble_eq_true rfl⟩ (fun H locs hM => ?_)
        refine lv_iconst (v := 4) hx hb dX8_readsWhistle_55 (by decide) ?_
        refine lv_iadd hx hb dX8_readsWhistle_56 ?_
        refine lv_iconst (v := 3) hx hb dX8_readsWhistle_57 (by decide) ?_
        refine me_iast (k := 261 + 5 * k9 + 4) (M2 := mq tb mo (pqF F (rwB ip len w pq)) (upd w (261 + 5 * k9 + 4) 3) av od sv sl nz ip ot M0) hC hM mq_w (nx_add rfl (nx_c 4)) (by omega) (by decide) mq_w_w dX8_readsWhistle_58 (fun H locs hM => ?_)
        refine lv_aload_n hx hb dX8_readsWhistle_59 rfl (lv_at hl 1 rfl) ?_
        refine me_callVv (As := []) (rest := []) hC hl.1 hM (c_X8_next l D tb X z0 n mo F (upd w (261 + 5 * k9 + 4) 3) av od sv sl nz ip ot M0 len (rwB ip len w pq)  hln hln0 (qv_w (show qvP len (rwB ip len w pq) from by unfold rwB; split; exact qv_er (qv_he (qv_mx hq)) (by omega); exact qv_he (qv_mx hq))) ) (kv_X8_193 hw rfl rfl ⟨Nat.le_of_ble_eq_true rfl, Nat.le_of_ble_eq_true rfl⟩) rfl rfl mq_F rfl (Nat.le_of_ble_eq_true rfl) dX8_readsWhistle_60 ⟨Nat.le_of_ble_eq_true rfl, Nat.le_of_ble_eq_true rfl⟩ (fun H locs hM => ?_)
        obtain ⟨hz1_, hz2_, hz3_, hz4_⟩ := id (show qvP len (mxP ip len (rwB ip len w pq)) from (qv_mx (show qvP len (rwB ip len w pq) from by unfold rwB; split; exact qv_er (qv_he (qv_mx hq)) (by omega); exact qv_he (qv_mx hq))))
        exact me_vret hC hr hlk hM (ym_e (by unfold rwY wsG; rw [if_pos c_4, ekc])) (rfl) dX8_readsWhistle_63
    · have c_3 := b1_0.mp c_3
      refine lv_aload_n hx hb dX8_readsWhistle_34 rfl (lv_at hl 1 rfl) ?_
      refine lv_bipush (v := 6) hx hb dX8_readsWhistle_35 (by decide) ?_
      refine me_stk (st2 := [.int (nI 6), .ref mo]) (by rw [(nx_c 6)]) ?_
      refine me_callVv (As := [.int (nI 6)]) (rest := []) hC hl.1 hM (c_X8_errs l D tb X z0 n mo F w av od sv sl nz ip ot M0 len (rwA ip len w pq) 6 hln hln0 (qv_he (qv_mx hq)) (by omega)) (kv_X8_196 hw rfl rfl ⟨Nat.le_of_ble_eq_true rfl, Nat.le_of_ble_eq_true rfl⟩) rfl rfl mq_F rfl (Nat.le_of_ble_eq_true rfl) dX8_readsWhistle_37 ⟨Nat.le_of_ble_eq_true rfl, Nat.le_of_ble_eq_true rfl⟩ (fun H locs hM => ?_)
      obtain ⟨hz1_, hz2_, hz3_, hz4_⟩ := id (show qvP len (erP 6 (rwA ip len w pq)) from (qv_er (qv_he (qv_mx hq)) (by omega)))
      have hM := hM.eq (M2 := mq tb mo (pqF F (rwB ip len w pq)) w av od sv sl nz ip ot M0) (mq_ps (by unfold rwB; rw [if_pos ⟨c_1, by rw [ekc]; exact c_3⟩]))
      obtain ⟨hz1_, hz2_, hz3_, hz4_⟩ := id (show qvP len (rwB ip len w pq) from (show qvP len (rwB ip len w pq) from by unfold rwB; split; exact qv_er (qv_he (qv_mx hq)) (by omega); exact qv_he (qv_mx hq)))
      refine lv_aload_n hx hb dX8_readsWhistle_40 rfl (lv_at hl 1 rfl) ?_
      refine fg_X8_187 hC hM mq_F rfl dX8_readsWhistle_41 ?_
      refine me_evi (y := nI (qFl (rwB ip len w pq))) rfl ?_
      refine lv_if_ne (tgt := 63) hx hb dX8_readsWhistle_44 (by decide) (fun c_5 => ?_) (fun c_5 => ?_)
      · have c_5 := (not_congr (br_eq rfl (show (0 : Int32) = nI 0 from rfl) (by omega) (by omega))).mp c_5
        exact me_vret hC hr hlk hM (ym_e (by unfold rwY; rw [if_neg c_5])) (rfl) dX8_readsWhistle_63
      · have c_5 := (br_eq rfl (show (0 : Int32) = nI 0 from rfl) (by omega) (by omega)).mp c_5
        exact absurd (by have z := (zk_rw c_5).2; rw [ekc] at z; exact z) c_3
set_option maxHeartbeats 4000000 in
theorem c_X8_readsHours (l : Launch) (D : va_G) (tb : Nat → ClassId) (X : State → Prop) (z0 n : Nat) (mo : Nat) (F w av od sv sl nz ip ot : Nat → Int32) (M0 : me_M) (len : Nat) (pq : QS) (S B L P : Nat) (T : Nat)  (hln : F 7 = nI len) (hln0 : len ≤ 700) (hq : qvP len pq) (hO : ok1 S B L P T w) (hT0 : T ≤ 9999) : Met l yX8_readsHours (.code yX8_readsHours cX8_readsHours 4 none :: ws_all) ({ frames := 8, cells := 0, slots := 0, locals := 175 } : Room) (me_Pc [.ref mo] D tb X z0 (mq tb mo (pqF F (pq)) w av od sv sl nz ip ot M0) n) (me_Qv D z0 (ymM tb mo F av od sv ip ot M0 (rhY ip len w sl nz S B L P pq)) n) 0 0 (me_A z0) := by
  refine me_open (by decide) (Nat.le_of_ble_eq_true rfl) ?_
  intro p e s m args below meth c ls hC hr hlk hnm hM hl
  have hl : lv_has ls 4 [(0, .ref mo)] := hl
  have hx := hC.1
  have hb := hC.2.1
  have hw := hC.2.2.2.2.1
  obtain ⟨hq1, hq2, hq3, hq4⟩ := id hq
  obtain ⟨hW, hZ, hT⟩ := id hO
  obtain ⟨hS, hS0, hB, hB0, hL, hL0, hP, hP0, hwb, hwl⟩ := id hW
  have hrh_ := (rh_nat (t := ip) (len := len) (w := w) (T := T) (q := pq) hT hT0).1
  refine lv_aload_n hx hb dX8_readsHours_0 rfl (lv_at hl 0 rfl) ?_
  refine me_callVv (As := []) (rest := []) hC hl.1 hM (c_X8_next l D tb X z0 n mo F w av od sv sl nz ip ot M0 len pq  hln hln0 (qv_w hq) ) (kv_X8_193 hw rfl rfl ⟨Nat.le_of_ble_eq_true rfl, Nat.le_of_ble_eq_true rfl⟩) rfl rfl mq_F rfl (Nat.le_of_ble_eq_true rfl) dX8_readsHours_1 ⟨Nat.le_of_ble_eq_true rfl, Nat.le_of_ble_eq_true rfl⟩ (fun H locs hM => ?_)
  obtain ⟨hz1_, hz2_, hz3_, hz4_⟩ := id (show qvP len (mxP ip len pq) from (qv_mx hq))
  refine lv_sipush (v := 9999) hx hb dX8_readsHours_4 (by decide) ?_
  refine lv_aload_n hx hb dX8_readsHours_7 rfl (lv_at hl 0 rfl) ?_
  refine fg_X8_13 hC hM mq_F rfl dX8_readsHours_8 ?_
  refine lv_iconst (v := 2) hx hb dX8_readsHours_11 (by decide) ?_
  refine me_iald (k := 2) hC hM mq_w (nx_c 2) (by omega) (by decide) dX8_readsHours_12 ?_
  refine lv_isub hx hb dX8_readsHours_13 ?_
  refine lv_istore_n (lv' := [(1, .int (9999 - (w 2))), (0, .ref mo)]) hx hb dX8_readsHours_14 rfl hl (by decide) rfl (fun ls hl => ?_)
  refine lv_aload_n hx hb dX8_readsHours_15 rfl (lv_at hl 1 rfl) ?_
  refine lv_iconst (v := 1) hx hb dX8_readsHours_16 (by decide) ?_
  refine lv_iload_n hx hb dX8_readsHours_17 rfl (lv_at hl 0 rfl) ?_
  refine lv_bipush (v := 99) hx hb dX8_readsHours_18 (by decide) ?_
  refine lv_icmp_ge (tgt := 27) hx hb dX8_readsHours_20 (by decide) (fun c_1 => ?_) (fun c_1 => ?_)
  · have c_1q := c_1
    have c_1 := Int32.not_lt.mpr c_1
    refine lv_bipush (v := 99) hx hb dX8_readsHours_27 (by decide) ?_
    refine me_evi (y := mnF 99 (9999 - w 2)) (by unfold mnF; rw [if_neg c_1]) ?_
    refine me_callVi (As := [.int 1, .int (mnF 99 (9999 - w 2))]) (rest := []) hC hl.1 hM (c_X8_takesNumber l D tb X z0 n mo F w av od sv sl nz ip ot M0 len (mxP ip len pq) 1 (mnF 99 (9999 - w 2)) hln hln0 (qv_mx hq) ) (kv_X8_214 hw rfl rfl ⟨Nat.le_of_ble_eq_true rfl, Nat.le_of_ble_eq_true rfl⟩) rfl rfl mq_F rfl (Nat.le_of_ble_eq_true rfl) dX8_readsHours_29 ⟨Nat.le_of_ble_eq_true rfl, Nat.le_of_ble_eq_true rfl⟩ (fun H locs hM => ?_)
    have hM := hM.eq (M2 := mq tb mo (pqF F (rhA ip len w pq)) w av od sv sl nz ip ot M0) (mq_ps rfl)
    refine me_evi (y := rhV ip len w pq) rfl ?_
    obtain ⟨hz1_, hz2_, hz3_, hz4_⟩ := id (show qvP len (rhA ip len w pq) from (qv_tn (qv_mx hq)))
    refine lv_istore_n (lv' := [(2, .int (rhV ip len w pq)), (1, .int (9999 - (w 2))), (0, .ref mo)]) hx hb dX8_readsHours_32 rfl hl (by decide) rfl (fun ls hl => ?_)
    refine lv_aload_n hx hb dX8_readsHours_33 rfl (lv_at hl 2 rfl) ?_
    refine lv_aload_n hx hb dX8_readsHours_34 rfl (lv_at hl 2 rfl) ?_
    refine fg_X8_187 hC hM mq_F rfl dX8_readsHours_35 ?_
    refine me_evi (y := nI (qFl (rhA ip len w pq))) rfl ?_
    refine lv_if_ne (tgt := 45) hx hb dX8_readsHours_38 (by decide) (fun c_2 => ?_) (fun c_2 => ?_)
    · have c_2 := (not_congr (br_eq rfl (show (0 : Int32) = nI 0 from rfl) (by omega) (by omega))).mp c_2
      refine lv_iconst (v := 0) hx hb dX8_readsHours_45 (by decide) ?_
      refine me_evi (y := nI (rhN ip len w pq)) (by unfold rhN; rw [if_neg c_2]; rfl) ?_
      refine me_callVi (As := [.int (nI (rhN ip len w pq))]) (rest := []) hC hl.1 hM (c_X8_passes l D tb X z0 n mo (pqF F (rhA ip len w pq)) w av od sv sl nz ip ot M0 S B L P T (rhN ip len w pq) hO (by omega)) (kv_X8_60 hw rfl rfl ⟨Nat.le_of_ble_eq_true rfl, Nat.le_of_ble_eq_true rfl⟩) rfl rfl mq_F rfl (Nat.le_of_ble_eq_true rfl) dX8_readsHours_46 ⟨Nat.le_of_ble_eq_true rfl, Nat.le_of_ble_eq_true rfl⟩ (fun H locs hM => ?_)
      refine lv_istore_n (lv' := [(3, .int (nI (mpN S B L P (rhN ip len w pq) (w, nz)))), (2, .int (rhV ip len w pq)), (1, .int (9999 - (w 2))), (0, .ref mo)]) hx hb dX8_readsHours_49 rfl hl (by decide) rfl (fun ls hl => ?_)
      exact me_vret hC hr hlk hM (ym_e (by unfold rhY; rfl)) (rfl) dX8_readsHours_50
    · have c_2 := (br_eq rfl (show (0 : Int32) = nI 0 from rfl) (by omega) (by omega)).mp c_2
      refine lv_iload_n hx hb dX8_readsHours_41 rfl (lv_at hl 0 rfl) ?_
      refine lv_goto (tgt := 46) hx hb dX8_readsHours_42 (by decide) ?_
      refine me_evi (y := nI (rhN ip len w pq)) ((rh_nat (t := ip) (len := len) (w := w) (T := T) (q := pq) hT hT0).2 c_2) ?_
      refine me_callVi (As := [.int (nI (rhN ip len w pq))]) (rest := []) hC hl.1 hM (c_X8_passes l D tb X z0 n mo (pqF F (rhA ip len w pq)) w av od sv sl nz ip ot M0 S B L P T (rhN ip len w pq) hO (by omega)) (kv_X8_60 hw rfl rfl ⟨Nat.le_of_ble_eq_true rfl, Nat.le_of_ble_eq_true rfl⟩) rfl rfl mq_F rfl (Nat.le_of_ble_eq_true rfl) dX8_readsHours_46 ⟨Nat.le_of_ble_eq_true rfl, Nat.le_of_ble_eq_true rfl⟩ (fun H locs hM => ?_)
      refine lv_istore_n (lv' := [(3, .int (nI (mpN S B L P (rhN ip len w pq) (w, nz)))), (2, .int (rhV ip len w pq)), (1, .int (9999 - (w 2))), (0, .ref mo)]) hx hb dX8_readsHours_49 rfl hl (by decide) rfl (fun ls hl => ?_)
      exact me_vret hC hr hlk hM (ym_e (by unfold rhY; rfl)) (rfl) dX8_readsHours_50
  · have c_1q := c_1
    have c_1 := Int32.not_le.mp c_1
    refine lv_iload_n hx hb dX8_readsHours_23 rfl (lv_at hl 0 rfl) ?_
    refine lv_goto (tgt := 29) hx hb dX8_readsHours_24 (by decide) ?_
    refine me_evi (y := mnF 99 (9999 - w 2)) (by unfold mnF; rw [if_pos c_1]) ?_
    refine me_callVi (As := [.int 1, .int (mnF 99 (9999 - w 2))]) (rest := []) hC hl.1 hM (c_X8_takesNumber l D tb X z0 n mo F w av od sv sl nz ip ot M0 len (mxP ip len pq) 1 (mnF 99 (9999 - w 2)) hln hln0 (qv_mx hq) ) (kv_X8_214 hw rfl rfl ⟨Nat.le_of_ble_eq_true rfl, Nat.le_of_ble_eq_true rfl⟩) rfl rfl mq_F rfl (Nat.le_of_ble_eq_true rfl) dX8_readsHours_29 ⟨Nat.le_of_ble_eq_true rfl, Nat.le_of_ble_eq_true rfl⟩ (fun H locs hM => ?_)
    have hM := hM.eq (M2 := mq tb mo (pqF F (rhA ip len w pq)) w av od sv sl nz ip ot M0) (mq_ps rfl)
    refine me_evi (y := rhV ip len w pq) rfl ?_
    obtain ⟨hz1_, hz2_, hz3_, hz4_⟩ := id (show qvP len (rhA ip len w pq) from (qv_tn (qv_mx hq)))
    refine lv_istore_n (lv' := [(2, .int (rhV ip len w pq)), (1, .int (9999 - (w 2))), (0, .ref mo)]) hx hb dX8_readsHours_32 rfl hl (by decide) rfl (fun ls hl => ?_)
    refine lv_aload_n hx hb dX8_readsHours_33 rfl (lv_at hl 2 rfl) ?_
    refine lv_aload_n hx hb dX8_readsHours_34 rfl (lv_at hl 2 rfl) ?_
    refine fg_X8_187 hC hM mq_F rfl dX8_readsHours_35 ?_
    refine me_evi (y := nI (qFl (rhA ip len w pq))) rfl ?_
    refine lv_if_ne (tgt := 45) hx hb dX8_readsHours_38 (by decide) (fun c_3 => ?_) (fun c_3 => ?_)
    · have c_3 := (not_congr (br_eq rfl (show (0 : Int32) = nI 0 from rfl) (by omega) (by omega))).mp c_3
      refine lv_iconst (v := 0) hx hb dX8_readsHours_45 (by decide) ?_
      refine me_evi (y := nI (rhN ip len w pq)) (by unfold rhN; rw [if_neg c_3]; rfl) ?_
      refine me_callVi (As := [.int (nI (rhN ip len w pq))]) (rest := []) hC hl.1 hM (c_X8_passes l D tb X z0 n mo (pqF F (rhA ip len w pq)) w av od sv sl nz ip ot M0 S B L P T (rhN ip len w pq) hO (by omega)) (kv_X8_60 hw rfl rfl ⟨Nat.le_of_ble_eq_true rfl, Nat.le_of_ble_eq_true rfl⟩) rfl rfl mq_F rfl (Nat.le_of_ble_eq_true rfl) dX8_readsHours_46 ⟨Nat.le_of_ble_eq_true rfl, Nat.le_of_ble_eq_true rfl⟩ (fun H locs hM => ?_)
      refine lv_istore_n (lv' := [(3, .int (nI (mpN S B L P (rhN ip len w pq) (w, nz)))), (2, .int (rhV ip len w pq)), (1, .int (9999 - (w 2))), (0, .ref mo)]) hx hb dX8_readsHours_49 rfl hl (by decide) rfl (fun ls hl => ?_)
      exact me_vret hC hr hlk hM (ym_e (by unfold rhY; rfl)) (rfl) dX8_readsHours_50
    · have c_3 := (br_eq rfl (show (0 : Int32) = nI 0 from rfl) (by omega) (by omega)).mp c_3
      refine lv_iload_n hx hb dX8_readsHours_41 rfl (lv_at hl 0 rfl) ?_
      refine lv_goto (tgt := 46) hx hb dX8_readsHours_42 (by decide) ?_
      refine me_evi (y := nI (rhN ip len w pq)) ((rh_nat (t := ip) (len := len) (w := w) (T := T) (q := pq) hT hT0).2 c_3) ?_
      refine me_callVi (As := [.int (nI (rhN ip len w pq))]) (rest := []) hC hl.1 hM (c_X8_passes l D tb X z0 n mo (pqF F (rhA ip len w pq)) w av od sv sl nz ip ot M0 S B L P T (rhN ip len w pq) hO (by omega)) (kv_X8_60 hw rfl rfl ⟨Nat.le_of_ble_eq_true rfl, Nat.le_of_ble_eq_true rfl⟩) rfl rfl mq_F rfl (Nat.le_of_ble_eq_true rfl) dX8_readsHours_46 ⟨Nat.le_of_ble_eq_true rfl, Nat.le_of_ble_eq_true rfl⟩ (fun H locs hM => ?_)
      refine lv_istore_n (lv' := [(3, .int (nI (mpN S B L P (rhN ip len w pq) (w, nz)))), (2, .int (rhV ip len w pq)), (1, .int (9999 - (w 2))), (0, .ref mo)]) hx hb dX8_readsHours_49 rfl hl (by decide) rfl (fun ls hl => ?_)
      exact me_vret hC hr hlk hM (ym_e (by unfold rhY; rfl)) (rfl) dX8_readsHours_50
set_option maxHeartbeats 4000000 in
theorem c_X8_readsLine (l : Launch) (D : va_G) (tb : Nat → ClassId) (X : State → Prop) (z0 n : Nat) (mo : Nat) (F w av od sv sl nz ip ot : Nat → Int32) (M0 : me_M) (len : Nat) (pq : QS) (S B L P : Nat) (T : Nat)  (hln : F 7 = nI len) (hln0 : len ≤ 700) (hq : qvP len pq) (hO : ok1 S B L P T w) (hT0 : T ≤ 9999) : Met l yX8_readsLine (.code yX8_readsLine cX8_readsLine 1 none :: ws_all) ({ frames := 9, cells := 0, slots := 0, locals := 198 } : Room) (me_Pc [.ref mo] D tb X z0 (mq tb mo (pqF F (pq)) w av od sv sl nz ip ot M0) n) (me_Qv D z0 (ymM tb mo F av od sv ip ot M0 (rnY ip len w sl nz S B L P pq)) n) 0 0 (me_A z0) := by
  refine me_open (by decide) (Nat.le_of_ble_eq_true rfl) ?_
  intro p e s m args below meth c ls hC hr hlk hnm hM hl
  have hl : lv_has ls 1 [(0, .ref mo)] := hl
  have hx := hC.1
  have hb := hC.2.1
  have hw := hC.2.2.2.2.1
  obtain ⟨hq1, hq2, hq3, hq4⟩ := id hq
  obtain ⟨hW, hZ, hT⟩ := id hO
  obtain ⟨hS, hS0, hB, hB0, hL, hL0, hP, hP0, hwb, hwl⟩ := id hW
  refine lv_aload_n hx hb dX8_readsLine_0 rfl (lv_at hl 0 rfl) ?_
  refine lv_iconst (v := 1) hx hb dX8_readsLine_1 (by decide) ?_
  refine me_stk (st2 := [.int (nI 1), .ref mo]) (by rw [(show (1 : Int32) = nI 1 from rfl)]) ?_
  refine me_callVi (As := [.int (nI 1)]) (rest := []) hC hl.1 hM (c_X8_isKey l D tb X z0 n mo F w av od sv sl nz ip ot M0 len pq 1 hln hln0 hq (by omega)) (kv_X8_238 hw rfl rfl ⟨Nat.le_of_ble_eq_true rfl, Nat.le_of_ble_eq_true rfl⟩) rfl rfl mq_F rfl (Nat.le_of_ble_eq_true rfl) dX8_readsLine_2 ⟨Nat.le_of_ble_eq_true rfl, Nat.le_of_ble_eq_true rfl⟩ (fun H locs hM => ?_)
  refine lv_if_eq (tgt := 15) hx hb dX8_readsLine_5 (by decide) (fun c_1 => ?_) (fun c_1 => ?_)
  · have c_1 := b1_0.mp c_1
    refine lv_aload_n hx hb dX8_readsLine_15 rfl (lv_at hl 0 rfl) ?_
    refine lv_iconst (v := 2) hx hb dX8_readsLine_16 (by decide) ?_
    refine me_stk (st2 := [.int (nI 2), .ref mo]) (by rw [(nx_c 2)]) ?_
    refine me_callVi (As := [.int (nI 2)]) (rest := []) hC hl.1 hM (c_X8_isKey l D tb X z0 n mo F w av od sv sl nz ip ot M0 len pq 2 hln hln0 hq (by omega)) (kv_X8_238 hw rfl rfl ⟨Nat.le_of_ble_eq_true rfl, Nat.le_of_ble_eq_true rfl⟩) rfl rfl mq_F rfl (Nat.le_of_ble_eq_true rfl) dX8_readsLine_17 ⟨Nat.le_of_ble_eq_true rfl, Nat.le_of_ble_eq_true rfl⟩ (fun H locs hM => ?_)
    refine lv_if_eq (tgt := 30) hx hb dX8_readsLine_20 (by decide) (fun c_2 => ?_) (fun c_2 => ?_)
    · have c_2 := b1_0.mp c_2
      refine lv_aload_n hx hb dX8_readsLine_30 rfl (lv_at hl 0 rfl) ?_
      refine lv_iconst (v := 3) hx hb dX8_readsLine_31 (by decide) ?_
      refine me_stk (st2 := [.int (nI 3), .ref mo]) (by rw [(nx_c 3)]) ?_
      refine me_callVi (As := [.int (nI 3)]) (rest := []) hC hl.1 hM (c_X8_isKey l D tb X z0 n mo F w av od sv sl nz ip ot M0 len pq 3 hln hln0 hq (by omega)) (kv_X8_238 hw rfl rfl ⟨Nat.le_of_ble_eq_true rfl, Nat.le_of_ble_eq_true rfl⟩) rfl rfl mq_F rfl (Nat.le_of_ble_eq_true rfl) dX8_readsLine_32 ⟨Nat.le_of_ble_eq_true rfl, Nat.le_of_ble_eq_true rfl⟩ (fun H locs hM => ?_)
      refine lv_if_eq (tgt := 45) hx hb dX8_readsLine_35 (by decide) (fun c_3 => ?_) (fun c_3 => ?_)
      · have c_3 := b1_0.mp c_3
        refine lv_aload_n hx hb dX8_readsLine_45 rfl (lv_at hl 0 rfl) ?_
        refine lv_iconst (v := 4) hx hb dX8_readsLine_46 (by decide) ?_
        refine me_stk (st2 := [.int (nI 4), .ref mo]) (by rw [(nx_c 4)]) ?_
        refine me_callVi (As := [.int (nI 4)]) (rest := []) hC hl.1 hM (c_X8_isKey l D tb X z0 n mo F w av od sv sl nz ip ot M0 len pq 4 hln hln0 hq (by omega)) (kv_X8_238 hw rfl rfl ⟨Nat.le_of_ble_eq_true rfl, Nat.le_of_ble_eq_true rfl⟩) rfl rfl mq_F rfl (Nat.le_of_ble_eq_true rfl) dX8_readsLine_47 ⟨Nat.le_of_ble_eq_true rfl, Nat.le_of_ble_eq_true rfl⟩ (fun H locs hM => ?_)
        refine lv_if_eq (tgt := 60) hx hb dX8_readsLine_50 (by decide) (fun c_4 => ?_) (fun c_4 => ?_)
        · have c_4 := b1_0.mp c_4
          refine lv_aload_n hx hb dX8_readsLine_60 rfl (lv_at hl 0 rfl) ?_
          refine lv_iconst (v := 5) hx hb dX8_readsLine_61 (by decide) ?_
          refine me_stk (st2 := [.int (nI 5), .ref mo]) (by rw [(nx_c 5)]) ?_
          refine me_callVi (As := [.int (nI 5)]) (rest := []) hC hl.1 hM (c_X8_isKey l D tb X z0 n mo F w av od sv sl nz ip ot M0 len pq 5 hln hln0 hq (by omega)) (kv_X8_238 hw rfl rfl ⟨Nat.le_of_ble_eq_true rfl, Nat.le_of_ble_eq_true rfl⟩) rfl rfl mq_F rfl (Nat.le_of_ble_eq_true rfl) dX8_readsLine_62 ⟨Nat.le_of_ble_eq_true rfl, Nat.le_of_ble_eq_true rfl⟩ (fun H locs hM => ?_)
          refine lv_if_eq (tgt := 75) hx hb dX8_readsLine_65 (by decide) (fun c_5 => ?_) (fun c_5 => ?_)
          · have c_5 := b1_0.mp c_5
            refine lv_aload_n hx hb dX8_readsLine_75 rfl (lv_at hl 0 rfl) ?_
            refine lv_bipush (v := 6) hx hb dX8_readsLine_76 (by decide) ?_
            refine me_stk (st2 := [.int (nI 6), .ref mo]) (by rw [(nx_c 6)]) ?_
            refine me_callVi (As := [.int (nI 6)]) (rest := []) hC hl.1 hM (c_X8_isKey l D tb X z0 n mo F w av od sv sl nz ip ot M0 len pq 6 hln hln0 hq (by omega)) (kv_X8_238 hw rfl rfl ⟨Nat.le_of_ble_eq_true rfl, Nat.le_of_ble_eq_true rfl⟩) rfl rfl mq_F rfl (Nat.le_of_ble_eq_true rfl) dX8_readsLine_78 ⟨Nat.le_of_ble_eq_true rfl, Nat.le_of_ble_eq_true rfl⟩ (fun H locs hM => ?_)
            refine lv_if_eq (tgt := 91) hx hb dX8_readsLine_81 (by decide) (fun c_6 => ?_) (fun c_6 => ?_)
            · have c_6 := b1_0.mp c_6
              refine lv_aload_n hx hb dX8_readsLine_91 rfl (lv_at hl 0 rfl) ?_
              refine lv_iconst (v := 1) hx hb dX8_readsLine_92 (by decide) ?_
              refine me_stk (st2 := [.int (nI 1), .ref mo]) (by rw [(show (1 : Int32) = nI 1 from rfl)]) ?_
              refine me_callVv (As := [.int (nI 1)]) (rest := []) hC hl.1 hM (c_X8_errs l D tb X z0 n mo F w av od sv sl nz ip ot M0 len pq 1 hln hln0 hq (by omega)) (kv_X8_196 hw rfl rfl ⟨Nat.le_of_ble_eq_true rfl, Nat.le_of_ble_eq_true rfl⟩) rfl rfl mq_F rfl (Nat.le_of_ble_eq_true rfl) dX8_readsLine_93 ⟨Nat.le_of_ble_eq_true rfl, Nat.le_of_ble_eq_true rfl⟩ (fun H locs hM => ?_)
              obtain ⟨hz1_, hz2_, hz3_, hz4_⟩ := id (show qvP len (erP 1 pq) from (qv_er hq (by omega)))
              exact me_vret hC hr hlk hM (ym_e (by unfold rnY; rw [if_neg c_1, if_neg c_2, if_neg c_3, if_neg c_4, if_neg c_5, if_neg c_6])) (rfl) dX8_readsLine_96
            · have c_6 := b1_n0.mp c_6
              refine lv_aload_n hx hb dX8_readsLine_84 rfl (lv_at hl 0 rfl) ?_
              refine me_callVv (As := []) (rest := []) hC hl.1 hM (c_X8_readsHours l D tb X z0 n mo F w av od sv sl nz ip ot M0 len pq S B L P T hln hln0 hq hO hT0) (kv_X8_256 hw rfl rfl ⟨Nat.le_of_ble_eq_true rfl, Nat.le_of_ble_eq_true rfl⟩) rfl rfl mq_F rfl (Nat.le_of_ble_eq_true rfl) dX8_readsLine_85 ⟨Nat.le_of_ble_eq_true rfl, Nat.le_of_ble_eq_true rfl⟩ (fun H locs hM => ?_)
              refine lv_goto (tgt := 96) hx hb dX8_readsLine_88 (by decide) ?_
              exact me_vret hC hr hlk hM (congrArg (ymM tb mo F av od sv ip ot M0) (show rhY ip len w sl nz S B L P pq = rnY ip len w sl nz S B L P pq from by unfold rnY; rw [if_neg c_1, if_neg c_2, if_neg c_3, if_neg c_4, if_neg c_5, if_pos c_6])) (rfl) dX8_readsLine_96
          · have c_5 := b1_n0.mp c_5
            refine lv_aload_n hx hb dX8_readsLine_68 rfl (lv_at hl 0 rfl) ?_
            refine me_callVv (As := []) (rest := []) hC hl.1 hM (c_X8_readsWhistle l D tb X z0 n mo F w av od sv sl nz ip ot M0 len pq S B L P T hln hln0 hq hO hT0) (kv_X8_253 hw rfl rfl ⟨Nat.le_of_ble_eq_true rfl, Nat.le_of_ble_eq_true rfl⟩) rfl rfl mq_F rfl (Nat.le_of_ble_eq_true rfl) dX8_readsLine_69 ⟨Nat.le_of_ble_eq_true rfl, Nat.le_of_ble_eq_true rfl⟩ (fun H locs hM => ?_)
            refine lv_goto (tgt := 96) hx hb dX8_readsLine_72 (by decide) ?_
            exact me_vret hC hr hlk hM (congrArg (ymM tb mo F av od sv ip ot M0) (show rwY ip len w sl nz S B L P pq = rnY ip len w sl nz S B L P pq from by unfold rnY; rw [if_neg c_1, if_neg c_2, if_neg c_3, if_neg c_4, if_pos c_5])) (rfl) dX8_readsLine_96
        · have c_4 := b1_n0.mp c_4
          refine lv_aload_n hx hb dX8_readsLine_53 rfl (lv_at hl 0 rfl) ?_
          refine me_callVv (As := []) (rest := []) hC hl.1 hM (c_X8_readsLend l D tb X z0 n mo F w av od sv sl nz ip ot M0 len pq S B L P T hln hln0 hq hO hT0) (kv_X8_250 hw rfl rfl ⟨Nat.le_of_ble_eq_true rfl, Nat.le_of_ble_eq_true rfl⟩) rfl rfl mq_F rfl (Nat.le_of_ble_eq_true rfl) dX8_readsLine_54 ⟨Nat.le_of_ble_eq_true rfl, Nat.le_of_ble_eq_true rfl⟩ (fun H locs hM => ?_)
          refine lv_goto (tgt := 96) hx hb dX8_readsLine_57 (by decide) ?_
          exact me_vret hC hr hlk hM (congrArg (ymM tb mo F av od sv ip ot M0) (show rlY ip len w sl nz S B L P pq = rnY ip len w sl nz S B L P pq from by unfold rnY; rw [if_neg c_1, if_neg c_2, if_neg c_3, if_pos c_4])) (rfl) dX8_readsLine_96
      · have c_3 := b1_n0.mp c_3
        refine lv_aload_n hx hb dX8_readsLine_38 rfl (lv_at hl 0 rfl) ?_
        refine me_callVv (As := []) (rest := []) hC hl.1 hM (c_X8_readsPermit l D tb X z0 n mo F w av od sv sl nz ip ot M0 len pq S B L P T hln hln0 hq hO hT0) (kv_X8_247 hw rfl rfl ⟨Nat.le_of_ble_eq_true rfl, Nat.le_of_ble_eq_true rfl⟩) rfl rfl mq_F rfl (Nat.le_of_ble_eq_true rfl) dX8_readsLine_39 ⟨Nat.le_of_ble_eq_true rfl, Nat.le_of_ble_eq_true rfl⟩ (fun H locs hM => ?_)
        refine lv_goto (tgt := 96) hx hb dX8_readsLine_42 (by decide) ?_
        exact me_vret hC hr hlk hM (congrArg (ymM tb mo F av od sv ip ot M0) (show rpY ip len w sl nz S B L P pq = rnY ip len w sl nz S B L P pq from by unfold rnY; rw [if_neg c_1, if_neg c_2, if_pos c_3])) (rfl) dX8_readsLine_96
    · have c_2 := b1_n0.mp c_2
      refine lv_aload_n hx hb dX8_readsLine_23 rfl (lv_at hl 0 rfl) ?_
      refine me_callVv (As := []) (rest := []) hC hl.1 hM (c_X8_readsBorrower l D tb X z0 n mo F w av od sv sl nz ip ot M0 len pq S B L P T hln hln0 hq hO hT0) (kv_X8_244 hw rfl rfl ⟨Nat.le_of_ble_eq_true rfl, Nat.le_of_ble_eq_true rfl⟩) rfl rfl mq_F rfl (Nat.le_of_ble_eq_true rfl) dX8_readsLine_24 ⟨Nat.le_of_ble_eq_true rfl, Nat.le_of_ble_eq_true rfl⟩ (fun H locs hM => ?_)
      refine lv_goto (tgt := 96) hx hb dX8_readsLine_27 (by decide) ?_
      exact me_vret hC hr hlk hM (congrArg (ymM tb mo F av od sv ip ot M0) (show rbY ip len w sl nz S B L P pq = rnY ip len w sl nz S B L P pq from by unfold rnY; rw [if_neg c_1, if_pos c_2])) (rfl) dX8_readsLine_96
  · have c_1 := b1_n0.mp c_1
    refine lv_aload_n hx hb dX8_readsLine_8 rfl (lv_at hl 0 rfl) ?_
    refine me_callVv (As := []) (rest := []) hC hl.1 hM (c_X8_readsStreet l D tb X z0 n mo F w av od sv sl nz ip ot M0 len pq S B L P T hln hln0 hq hO hT0) (kv_X8_241 hw rfl rfl ⟨Nat.le_of_ble_eq_true rfl, Nat.le_of_ble_eq_true rfl⟩) rfl rfl mq_F rfl (Nat.le_of_ble_eq_true rfl) dX8_readsLine_9 ⟨Nat.le_of_ble_eq_true rfl, Nat.le_of_ble_eq_true rfl⟩ (fun H locs hM => ?_)
    refine lv_goto (tgt := 96) hx hb dX8_readsLine_12 (by decide) ?_
    exact me_vret hC hr hlk hM (congrArg (ymM tb mo F av od sv ip ot M0) (show rsY ip len w sl nz S B L P pq = rnY ip len w sl nz S B L P pq from by unfold rnY; rw [if_pos c_1])) (rfl) dX8_readsLine_96
