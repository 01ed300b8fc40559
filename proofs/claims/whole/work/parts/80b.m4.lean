set_option maxHeartbeats 4000000 in
theorem c_X8_readsPermit (l : Launch) (D : va_G) (tb : Nat → ClassId) (X : State → Prop) (z0 n : Nat) (mo : Nat) (F w av od sv sl nz ip ot : Nat → Int32) (M0 : me_M) (len : Nat) (pq : QS) (S B L P : Nat) (T : Nat)  (hln : F 7 = nI len) (hln0 : len ≤ 700) (hq : qvP len pq) (hO : ok1 S B L P T w) (hT0 : T ≤ 9999) : Met l yX8_readsPermit (.code yX8_readsPermit cX8_readsPermit 4 none :: ws_all) ({ frames := 5, cells := 0, slots := 0, locals := 105 } : Room) (me_Pc [.ref mo] D tb X z0 (mq tb mo (pqF F (pq)) w av od sv sl nz ip ot M0) n) (me_Qv D z0 (ymM tb mo F av od sv ip ot M0 (rpY ip len w sl nz S B L P pq)) n) 0 0 (me_A z0) := by
  refine me_open (by decide) (Nat.le_of_ble_eq_true rfl) ?_
  intro p e s m args below meth c ls hC hr hlk hnm hM hl
  have hl : lv_has ls 4 [(0, .ref mo)] := hl
  have hx := hC.1
  have hb := hC.2.1
  have hw := hC.2.2.2.2.1
  obtain ⟨hq1, hq2, hq3, hq4⟩ := id hq
  obtain ⟨hW, hZ, hT⟩ := id hO
  obtain ⟨hS, hS0, hB, hB0, hL, hL0, hP, hP0, hwb, hwl⟩ := id hW
  refine lv_aload_n hx hb dX8_readsPermit_0 rfl (lv_at hl 0 rfl) ?_
  refine fg_X8_13 hC hM mq_F rfl dX8_readsPermit_1 ?_
  refine lv_iconst (v := 5) hx hb dX8_readsPermit_4 (by decide) ?_
  refine me_iald (k := 5) hC hM mq_w (nx_c 5) (by omega) (by decide) dX8_readsPermit_5 ?_
  refine lv_bipush (v := 10) hx hb dX8_readsPermit_6 (by decide) ?_
  refine lv_icmp_ne (tgt := 17) hx hb dX8_readsPermit_8 (by decide) (fun c_1 => ?_) (fun c_1 => ?_)
  · have c_1 := (not_congr (br_eq hP (nx_c 10) (by omega) (by omega))).mp c_1
    refine lv_aload_n hx hb dX8_readsPermit_17 rfl (lv_at hl 0 rfl) ?_
    refine me_callVv (As := []) (rest := []) hC hl.1 hM (c_X8_next l D tb X z0 n mo F w av od sv sl nz ip ot M0 len pq  hln hln0 (qv_w hq) ) (kv_X8_193 hw rfl rfl ⟨Nat.le_of_ble_eq_true rfl, Nat.le_of_ble_eq_true rfl⟩) rfl rfl mq_F rfl (Nat.le_of_ble_eq_true rfl) dX8_readsPermit_18 ⟨Nat.le_of_ble_eq_true rfl, Nat.le_of_ble_eq_true rfl⟩ (fun H locs hM => ?_)
    obtain ⟨hz1_, hz2_, hz3_, hz4_⟩ := id (show qvP len (mxP ip len pq) from (qv_mx hq))
    refine lv_aload_n hx hb dX8_readsPermit_21 rfl (lv_at hl 0 rfl) ?_
    refine me_callVi (As := []) (rest := []) hC hl.1 hM (c_X8_takesStreet l D tb X z0 n mo F w av od sv sl nz ip ot M0 len (mxP ip len pq) S hln hln0 (qv_mx hq) hS hS0) (kv_X8_217 hw rfl rfl ⟨Nat.le_of_ble_eq_true rfl, Nat.le_of_ble_eq_true rfl⟩) rfl rfl mq_F rfl (Nat.le_of_ble_eq_true rfl) dX8_readsPermit_22 ⟨Nat.le_of_ble_eq_true rfl, Nat.le_of_ble_eq_true rfl⟩ (fun H locs hM => ?_)
    have hM := hM.eq (M2 := mq tb mo (pqF F (rpA ip len w sl S pq)) w av od sv (slN ip sl (sp1 (mxP ip len pq))) nz ip ot M0) (mq_ps rfl)
    refine me_evi (y := rpV ip len w sl S pq) rfl ?_
    obtain ⟨hz1_, hz2_, hz3_, hz4_⟩ := id (show qvP len (rpA ip len w sl S pq) from (qv_ts (qv_mx hq)))
    refine lv_istore_n (lv' := [(1, .int (rpV ip len w sl S pq)), (0, .ref mo)]) hx hb dX8_readsPermit_25 rfl hl (by decide) rfl (fun ls hl => ?_)
    refine lv_aload_n hx hb dX8_readsPermit_26 rfl (lv_at hl 1 rfl) ?_
    refine me_callVi (As := []) (rest := []) hC hl.1 hM (c_X8_takesStart l D tb X z0 n mo F w av od sv (slN ip sl (sp1 (mxP ip len pq))) nz ip ot M0 len (rpA ip len w sl S pq)  hln hln0 (qv_ts (qv_mx hq)) ) (kv_X8_220 hw rfl rfl ⟨Nat.le_of_ble_eq_true rfl, Nat.le_of_ble_eq_true rfl⟩) rfl rfl mq_F rfl (Nat.le_of_ble_eq_true rfl) dX8_readsPermit_27 ⟨Nat.le_of_ble_eq_true rfl, Nat.le_of_ble_eq_true rfl⟩ (fun H locs hM => ?_)
    have hM := hM.eq (M2 := mq tb mo (pqF F (rpB ip len w sl S pq)) w av od sv (slN ip sl (sp1 (mxP ip len pq))) nz ip ot M0) (mq_ps rfl)
    refine me_evi (y := rpT ip len w sl S pq) rfl ?_
    obtain ⟨hz1_, hz2_, hz3_, hz4_⟩ := id (show qvP len (rpB ip len w sl S pq) from (qv_tn (a := w 2) (b := w 2 + 48 - 1) (qv_ts (qv_mx hq))))
    refine lv_istore_n (lv' := [(2, .int (rpT ip len w sl S pq)), (1, .int (rpV ip len w sl S pq)), (0, .ref mo)]) hx hb dX8_readsPermit_30 rfl hl (by decide) rfl (fun ls hl => ?_)
    refine lv_aload_n hx hb dX8_readsPermit_31 rfl (lv_at hl 2 rfl) ?_
    refine lv_iload_n hx hb dX8_readsPermit_32 rfl (lv_at hl 0 rfl) ?_
    refine lv_bipush (v := 12) hx hb dX8_readsPermit_33 (by decide) ?_
    refine me_callVi (As := [.int (rpT ip len w sl S pq), .int 12]) (rest := []) hC hl.1 hM (c_X8_lengthHere l D tb X z0 n mo F w av od sv (slN ip sl (sp1 (mxP ip len pq))) nz ip ot M0 len (rpB ip len w sl S pq) (rpT ip len w sl S pq) 12 hln hln0 (qv_tn (a := w 2) (b := w 2 + 48 - 1) (qv_ts (qv_mx hq))) ) (kv_X8_223 hw rfl rfl ⟨Nat.le_of_ble_eq_true rfl, Nat.le_of_ble_eq_true rfl⟩) rfl rfl mq_F rfl (Nat.le_of_ble_eq_true rfl) dX8_readsPermit_35 ⟨Nat.le_of_ble_eq_true rfl, Nat.le_of_ble_eq_true rfl⟩ (fun H locs hM => ?_)
    have hM := hM.eq (M2 := mq tb mo (pqF F (rpC ip len w sl S pq)) w av od sv (slN ip sl (sp1 (mxP ip len pq))) nz ip ot M0) (mq_ps rfl)
    refine me_evi (y := rpN ip len w sl S pq) rfl ?_
    obtain ⟨hz1_, hz2_, hz3_, hz4_⟩ := id (show qvP len (rpC ip len w sl S pq) from (qv_he (show qvP len (rpB ip len w sl S pq) from (qv_tn (a := w 2) (b := w 2 + 48 - 1) (qv_ts (qv_mx hq))))))
    refine lv_istore_n (lv' := [(3, .int (rpN ip len w sl S pq)), (2, .int (rpT ip len w sl S pq)), (1, .int (rpV ip len w sl S pq)), (0, .ref mo)]) hx hb dX8_readsPermit_38 rfl hl (by decide) rfl (fun ls hl => ?_)
    refine lv_aload_n hx hb dX8_readsPermit_39 rfl (lv_at hl 3 rfl) ?_
    refine fg_X8_187 hC hM mq_F rfl dX8_readsPermit_40 ?_
    refine me_evi (y := nI (qFl (rpC ip len w sl S pq))) rfl ?_
    refine lv_if_ne (tgt := 62) hx hb dX8_readsPermit_43 (by decide) (fun c_2 => ?_) (fun c_2 => ?_)
    · have c_2 := (not_congr (br_eq rfl (show (0 : Int32) = nI 0 from rfl) (by omega) (by omega))).mp c_2
      have hM := hM.eq (M2 := mq tb mo (pqF F (rpD ip len w sl S L P pq)) w av od sv (slN ip sl (sp1 (mxP ip len pq))) nz ip ot M0) (mq_ps (by unfold rpD; rw [if_neg (fun z => c_2 z.1)]))
      obtain ⟨hz1_, hz2_, hz3_, hz4_⟩ := id (show qvP len (rpD ip len w sl S L P pq) from (show qvP len (rpD ip len w sl S L P pq) from by unfold rpD; split; exact qv_er (show qvP len (rpC ip len w sl S pq) from (qv_he (show qvP len (rpB ip len w sl S pq) from (qv_tn (a := w 2) (b := w 2 + 48 - 1) (qv_ts (qv_mx hq)))))) (by omega); exact (show qvP len (rpC ip len w sl S pq) from (qv_he (show qvP len (rpB ip len w sl S pq) from (qv_tn (a := w 2) (b := w 2 + 48 - 1) (qv_ts (qv_mx hq))))))))
      refine lv_aload_n hx hb dX8_readsPermit_62 rfl (lv_at hl 3 rfl) ?_
      refine fg_X8_187 hC hM mq_F rfl dX8_readsPermit_63 ?_
      refine me_evi (y := nI (qFl (rpD ip len w sl S L P pq))) rfl ?_
      refine lv_if_ne (tgt := 80) hx hb dX8_readsPermit_66 (by decide) (fun c_3 => ?_) (fun c_3 => ?_)
      · have c_3 := (not_congr (br_eq rfl (show (0 : Int32) = nI 0 from rfl) (by omega) (by omega))).mp c_3
        exact me_vret hC hr hlk hM (ym_e (by unfold rpY; rw [if_neg c_1, if_neg c_3])) (rfl) dX8_readsPermit_80
      · have c_3 := (br_eq rfl (show (0 : Int32) = nI 0 from rfl) (by omega) (by omega)).mp c_3
        refine lv_aload_n hx hb dX8_readsPermit_69 rfl (lv_at hl 3 rfl) ?_
        refine lv_iload_n hx hb dX8_readsPermit_70 rfl (lv_at hl 2 rfl) ?_
        refine lv_iload_n hx hb dX8_readsPermit_71 rfl (lv_at hl 1 rfl) ?_
        refine lv_iload_n hx hb dX8_readsPermit_72 rfl (lv_at hl 0 rfl) ?_
        refine me_callVv (As := [.int (rpV ip len w sl S pq), .int (rpT ip len w sl S pq), .int (rpN ip len w sl S pq)]) (rest := []) hC hl.1 hM (c_X8_permits l D tb X z0 n mo (pqF F (rpD ip len w sl S L P pq)) w av od sv (slN ip sl (sp1 (mxP ip len pq))) nz ip ot M0 S B L P (rpV ip len w sl S pq) (rpT ip len w sl S pq) (rpN ip len w sl S pq) hW (by omega)) (kv_X8_54 hw rfl rfl ⟨Nat.le_of_ble_eq_true rfl, Nat.le_of_ble_eq_true rfl⟩) rfl rfl mq_F rfl (Nat.le_of_ble_eq_true rfl) dX8_readsPermit_73 ⟨Nat.le_of_ble_eq_true rfl, Nat.le_of_ble_eq_true rfl⟩ (fun H locs hM => ?_)
        refine lv_aload_n hx hb dX8_readsPermit_76 rfl (lv_at hl 3 rfl) ?_
        refine me_callVv (As := []) (rest := []) hC hl.1 hM (c_X8_next l D tb X z0 n mo F (apF w P (rpV ip len w sl S pq) (rpT ip len w sl S pq) (rpN ip len w sl S pq)) av od sv (slN ip sl (sp1 (mxP ip len pq))) nz ip ot M0 len (rpD ip len w sl S L P pq)  hln hln0 (qv_w (show qvP len (rpD ip len w sl S L P pq) from by unfold rpD; split; exact qv_er (show qvP len (rpC ip len w sl S pq) from (qv_he (show qvP len (rpB ip len w sl S pq) from (qv_tn (a := w 2) (b := w 2 + 48 - 1) (qv_ts (qv_mx hq)))))) (by omega); exact (show qvP len (rpC ip len w sl S pq) from (qv_he (show qvP len (rpB ip len w sl S pq) from (qv_tn (a := w 2) (b := w 2 + 48 - 1) (qv_ts (qv_mx hq)))))))) ) (kv_X8_193 hw rfl rfl ⟨Nat.le_of_ble_eq_true rfl, Nat.le_of_ble_eq_true rfl⟩) rfl rfl mq_F rfl (Nat.le_of_ble_eq_true rfl) dX8_readsPermit_77 ⟨Nat.le_of_ble_eq_true rfl, Nat.le_of_ble_eq_true rfl⟩ (fun H locs hM => ?_)
        obtain ⟨hz1_, hz2_, hz3_, hz4_⟩ := id (show qvP len (mxP ip len (rpD ip len w sl S L P pq)) from (qv_mx (show qvP len (rpD ip len w sl S L P pq) from by unfold rpD; split; exact qv_er (show qvP len (rpC ip len w sl S pq) from (qv_he (show qvP len (rpB ip len w sl S pq) from (qv_tn (a := w 2) (b := w 2 + 48 - 1) (qv_ts (qv_mx hq)))))) (by omega); exact (show qvP len (rpC ip len w sl S pq) from (qv_he (show qvP len (rpB ip len w sl S pq) from (qv_tn (a := w 2) (b := w 2 + 48 - 1) (qv_ts (qv_mx hq)))))))))
        exact me_vret hC hr hlk hM (ym_e (by unfold rpY; rw [if_neg c_1, if_pos c_3])) (rfl) dX8_readsPermit_80
    · have c_2 := (br_eq rfl (show (0 : Int32) = nI 0 from rfl) (by omega) (by omega)).mp c_2
      refine lv_aload_n hx hb dX8_readsPermit_46 rfl (lv_at hl 3 rfl) ?_
      refine lv_iload_n hx hb dX8_readsPermit_47 rfl (lv_at hl 2 rfl) ?_
      refine lv_iload_n hx hb dX8_readsPermit_48 rfl (lv_at hl 1 rfl) ?_
      refine lv_iload_n hx hb dX8_readsPermit_49 rfl (lv_at hl 0 rfl) ?_
      refine me_callVi (As := [.int (rpV ip len w sl S pq), .int (rpT ip len w sl S pq), .int (rpN ip len w sl S pq)]) (rest := []) hC hl.1 hM (c_X8_canPermit l D tb X z0 n mo (pqF F (rpC ip len w sl S pq)) w av od sv (slN ip sl (sp1 (mxP ip len pq))) nz ip ot M0 S B L P (rpV ip len w sl S pq) (rpT ip len w sl S pq) (rpN ip len w sl S pq) hW hZ) (kv_X8_226 hw rfl rfl ⟨Nat.le_of_ble_eq_true rfl, Nat.le_of_ble_eq_true rfl⟩) rfl rfl mq_F rfl (Nat.le_of_ble_eq_true rfl) dX8_readsPermit_50 ⟨Nat.le_of_ble_eq_true rfl, Nat.le_of_ble_eq_true rfl⟩ (fun H locs hM => ?_)
      refine lv_if_ne (tgt := 62) hx hb dX8_readsPermit_53 (by decide) (fun c_4 => ?_) (fun c_4 => ?_)
      · have c_4 := b1_n0.mp c_4
        have hM := hM.eq (M2 := mq tb mo (pqF F (rpD ip len w sl S L P pq)) w av od sv (slN ip sl (sp1 (mxP ip len pq))) nz ip ot M0) (mq_ps (by unfold rpD; rw [if_neg (fun z => z.2 c_4)]))
        obtain ⟨hz1_, hz2_, hz3_, hz4_⟩ := id (show qvP len (rpD ip len w sl S L P pq) from (show qvP len (rpD ip len w sl S L P pq) from by unfold rpD; split; exact qv_er (show qvP len (rpC ip len w sl S pq) from (qv_he (show qvP len (rpB ip len w sl S pq) from (qv_tn (a := w 2) (b := w 2 + 48 - 1) (qv_ts (qv_mx hq)))))) (by omega); exact (show qvP len (rpC ip len w sl S pq) from (qv_he (show qvP len (rpB ip len w sl S pq) from (qv_tn (a := w 2) (b := w 2 + 48 - 1) (qv_ts (qv_mx hq))))))))
        refine lv_aload_n hx hb dX8_readsPermit_62 rfl (lv_at hl 3 rfl) ?_
        refine fg_X8_187 hC hM mq_F rfl dX8_readsPermit_63 ?_
        refine me_evi (y := nI (qFl (rpD ip len w sl S L P pq))) rfl ?_
        refine lv_if_ne (tgt := 80) hx hb dX8_readsPermit_66 (by decide) (fun c_5 => ?_) (fun c_5 => ?_)
        · have c_5 := (not_congr (br_eq rfl (show (0 : Int32) = nI 0 from rfl) (by omega) (by omega))).mp c_5
          exact me_vret hC hr hlk hM (ym_e (by unfold rpY; rw [if_neg c_1, if_neg c_5])) (rfl) dX8_readsPermit_80
        · have c_5 := (br_eq rfl (show (0 : Int32) = nI 0 from rfl) (by omega) (by omega)).mp c_5
          refine lv_aload_n hx hb dX8_readsPermit_69 rfl (lv_at hl 3 rfl) ?_
          refine lv_iload_n hx hb dX8_readsPermit_70 rfl (lv_at hl 2 rfl) ?_
          refine lv_iload_n hx hb dX8_readsPermit_71 rfl (lv_at hl 1 rfl) ?_
          refine lv_iload_n hx hb dX8_readsPermit_72 rfl (lv_at hl 0 rfl) ?_
          refine me_callVv (As := [.int (rpV ip len w sl S pq), .int (rpT ip len w sl S pq), .int (rpN ip len w sl S pq)]) (rest := []) hC hl.1 hM (c_X8_permits l D tb X z0 n mo (pqF F (rpD ip len w sl S L P pq)) w av od sv (slN ip sl (sp1 (mxP ip len pq))) nz ip ot M0 S B L P (rpV ip len w sl S pq) (rpT ip len w sl S pq) (rpN ip len w sl S pq) hW (by omega)) (kv_X8_54 hw rfl rfl ⟨Nat.le_of_ble_eq_true rfl, Nat.le_of_ble_eq_true rfl⟩) rfl rfl mq_F rfl (Nat.le_of_ble_eq_true rfl) dX8_readsPermit_73 ⟨Nat.le_of_ble_eq_true rfl, Nat.le_of_ble_eq_true rfl⟩ (fun H locs hM => ?_)
          refine lv_aload_n hx hb dX8_readsPermit_76 rfl (lv_at hl 3 rfl) ?_
          refine me_callVv (As := []) (rest := []) hC hl.1 hM (c_X8_next l D tb X z0 n mo F (apF w P (rpV ip len w sl S pq) (rpT ip len w sl S pq) (rpN ip len w sl S pq)) av od sv (slN ip sl (sp1 (mxP ip len pq))) nz ip ot M0 len (rpD ip len w sl S L P pq)  hln hln0 (qv_w (show qvP len (rpD ip len w sl S L P pq) from by unfold rpD; split; exact qv_er (show qvP len (rpC ip len w sl S pq) from (qv_he (show qvP len (rpB ip len w sl S pq) from (qv_tn (a := w 2) (b := w 2 + 48 - 1) (qv_ts (qv_mx hq)))))) (by omega); exact (show qvP len (rpC ip len w sl S pq) from (qv_he (show qvP len (rpB ip len w sl S pq) from (qv_tn (a := w 2) (b := w 2 + 48 - 1) (qv_ts (qv_mx hq)))))))) ) (kv_X8_193 hw rfl rfl ⟨Nat.le_of_ble_eq_true rfl, Nat.le_of_ble_eq_true rfl⟩) rfl rfl mq_F rfl (Nat.le_of_ble_eq_true rfl) dX8_readsPermit_77 ⟨Nat.le_of_ble_eq_true rfl, Nat.le_of_ble_eq_true rfl⟩ (fun H locs hM => ?_)
          obtain ⟨hz1_, hz2_, hz3_, hz4_⟩ := id (show qvP len (mxP ip len (rpD ip len w sl S L P pq)) from (qv_mx (show qvP len (rpD ip len w sl S L P pq) from by unfold rpD; split; exact qv_er (show qvP len (rpC ip len w sl S pq) from (qv_he (show qvP len (rpB ip len w sl S pq) from (qv_tn (a := w 2) (b := w 2 + 48 - 1) (qv_ts (qv_mx hq)))))) (by omega); exact (show qvP len (rpC ip len w sl S pq) from (qv_he (show qvP len (rpB ip len w sl S pq) from (qv_tn (a := w 2) (b := w 2 + 48 - 1) (qv_ts (qv_mx hq)))))))))
          exact me_vret hC hr hlk hM (ym_e (by unfold rpY; rw [if_neg c_1, if_pos c_5])) (rfl) dX8_readsPermit_80
      · have c_4 := b1_0.mp c_4
        refine lv_aload_n hx hb dX8_readsPermit_56 rfl (lv_at hl 3 rfl) ?_
        refine lv_bipush (v := 6) hx hb dX8_readsPermit_57 (by decide) ?_
        refine me_stk (st2 := [.int (nI 6), .ref mo]) (by rw [(nx_c 6)]) ?_
        refine me_callVv (As := [.int (nI 6)]) (rest := []) hC hl.1 hM (c_X8_errs l D tb X z0 n mo F w av od sv (slN ip sl (sp1 (mxP ip len pq))) nz ip ot M0 len (rpC ip len w sl S pq) 6 hln hln0 (qv_he (show qvP len (rpB ip len w sl S pq) from (qv_tn (a := w 2) (b := w 2 + 48 - 1) (qv_ts (qv_mx hq))))) (by omega)) (kv_X8_196 hw rfl rfl ⟨Nat.le_of_ble_eq_true rfl, Nat.le_of_ble_eq_true rfl⟩) rfl rfl mq_F rfl (Nat.le_of_ble_eq_true rfl) dX8_readsPermit_59 ⟨Nat.le_of_ble_eq_true rfl, Nat.le_of_ble_eq_true rfl⟩ (fun H locs hM => ?_)
        obtain ⟨hz1_, hz2_, hz3_, hz4_⟩ := id (show qvP len (erP 6 (rpC ip len w sl S pq)) from (qv_er (show qvP len (rpC ip len w sl S pq) from (qv_he (show qvP len (rpB ip len w sl S pq) from (qv_tn (a := w 2) (b := w 2 + 48 - 1) (qv_ts (qv_mx hq)))))) (by omega)))
        have hM := hM.eq (M2 := mq tb mo (pqF F (rpD ip len w sl S L P pq)) w av od sv (slN ip sl (sp1 (mxP ip len pq))) nz ip ot M0) (mq_ps (by unfold rpD; rw [if_pos ⟨c_2, c_4⟩]))
        obtain ⟨hz1_, hz2_, hz3_, hz4_⟩ := id (show qvP len (rpD ip len w sl S L P pq) from (show qvP len (rpD ip len w sl S L P pq) from by unfold rpD; split; exact qv_er (show qvP len (rpC ip len w sl S pq) from (qv_he (show qvP len (rpB ip len w sl S pq) from (qv_tn (a := w 2) (b := w 2 + 48 - 1) (qv_ts (qv_mx hq)))))) (by omega); exact (show qvP len (rpC ip len w sl S pq) from (qv_he (show qvP len (rpB ip len w sl S pq) from (qv_tn (a := w 2) (b := w 2 + 48 - 1) (qv_ts (qv_mx hq))))))))
        refine lv_aload_n hx hb dX8_readsPermit_62 rfl (lv_at hl 3 rfl) ?_
        refine fg_X8_187 hC hM mq_F rfl dX8_readsPermit_63 ?_
        refine me_evi (y := nI (qFl (rpD ip len w sl S L P pq))) rfl ?_
        refine lv_if_ne (tgt := 80) hx hb dX8_readsPermit_66 (by decide) (fun c_6 => ?_) (fun c_6 => ?_)
        · have c_6 := (not_congr (br_eq rfl (show (0 : Int32) = nI 0 from rfl) (by omega) (by omega))).mp c_6
          exact me_vret hC hr hlk hM (ym_e (by unfold rpY; rw [if_neg c_1, if_neg c_6])) (rfl) dX8_readsPermit_80
        · have c_6 := (br_eq rfl (show (0 : Int32) = nI 0 from rfl) (by omega) (by omega)).mp c_6
          refine lv_aload_n hx hb dX8_readsPermit_69 rfl (lv_at hl 3 rfl) ?_
          refine lv_iload_n hx hb dX8_readsPermit_70 rfl (lv_at hl 2 rfl) ?_
          refine lv_iload_n hx hb dX8_readsPermit_71 rfl (lv_at hl 1 rfl) ?_
          refine lv_iload_n hx hb dX8_readsPermit_72 rfl (lv_at hl 0 rfl) ?_
          refine me_callVv (As := [.int (rpV ip len w sl S pq), .int (rpT ip len w sl S pq), .int (rpN ip len w sl S pq)]) (rest := []) hC hl.1 hM (c_X8_permits l D tb X z0 n mo (pqF F (rpD ip len w sl S L P pq)) w av od sv (slN ip sl (sp1 (mxP ip len pq))) nz ip ot M0 S B L P (rpV ip len w sl S pq) (rpT ip len w sl S pq) (rpN ip len w sl S pq) hW (by omega)) (kv_X8_54 hw rfl rfl ⟨Nat.le_of_ble_eq_true rfl, Nat.le_of_ble_eq_true rfl⟩) rfl rfl mq_F rfl (Nat.le_of_ble_eq_true rfl) dX8_readsPermit_73 ⟨Nat.le_of_ble_eq_true rfl, Nat.le_of_ble_eq_true rfl⟩ (fun H locs hM => ?_)
          refine lv_aload_n hx hb dX8_readsPermit_76 rfl (lv_at hl 3 rfl) ?_
          refine me_callVv (As := []) (rest := []) hC hl.1 hM (c_X8_next l D tb X z0 n mo F (apF w P (rpV ip len w sl S pq) (rpT ip len w sl S pq) (rpN ip len w sl S pq)) av od sv (slN ip sl (sp1 (mxP ip len pq))) nz ip ot M0 len (rpD ip len w sl S L P pq)  hln hln0 (qv_w (show qvP len (rpD ip len w sl S L P pq) from by unfold rpD; split; exact qv_er (show qvP len (rpC ip len w sl S pq) from (qv_he (show qvP len (rpB ip len w sl S pq) from (qv_tn (a := w 2) (b := w 2 + 48 - 1) (qv_ts (qv_mx hq)))))) (by omega); exact (show qvP len (rpC ip len w sl S pq) from (qv_he (show qvP len (rpB ip len w sl S pq) from (qv_tn (a := w 2) (b := w 2 + 48 - 1) (qv_ts (qv_mx hq)))))))) ) (kv_X8_193 hw rfl rfl ⟨Nat.le_of_ble_eq_true rfl, Nat.le_of_ble_eq_true rfl⟩) rfl rfl mq_F rfl (Nat.le_of_ble_eq_true rfl) dX8_readsPermit_77 ⟨Nat.le_of_ble_eq_true rfl, Nat.le_of_ble_eq_true rfl⟩ (fun H locs hM => ?_)
          obtain ⟨hz1_, hz2_, hz3_, hz4_⟩ := id (show qvP len (mxP ip len (rpD ip len w sl S L P pq)) from (qv_mx (show qvP len (rpD ip len w sl S L P pq) from by unfold rpD; split; exact qv_er (show qvP len (rpC ip len w sl S pq) from (qv_he (show qvP len (rpB ip len w sl S pq) from (qv_tn (a := w 2) (b := w 2 + 48 - 1) (qv_ts (qv_mx hq)))))) (by omega); exact (show qvP len (rpC ip len w sl S pq) from (qv_he (show qvP len (rpB ip len w sl S pq) from (qv_tn (a := w 2) (b := w 2 + 48 - 1) (qv_ts (qv_mx hq)))))))))
          exact me_vret hC hr hlk hM (ym_e (by unfold rpY; rw [if_neg c_1, if_pos c_6])) (rfl) dX8_readsPermit_80
  · have c_1 := (br_eq hP (nx_c 10) (by omega) (by omega)).mp c_1
    refine lv_aload_n hx hb dX8_readsPermit_11 rfl (lv_at hl 0 rfl) ?_
    refine lv_iconst (v := 5) hx hb dX8_readsPermit_12 (by decide) ?_
    refine me_stk (st2 := [.int (nI 5), .ref mo]) (by rw [(nx_c 5)]) ?_
    refine me_callVv (As := [.int (nI 5)]) (rest := []) hC hl.1 hM (c_X8_errs l D tb X z0 n mo F w av od sv sl nz ip ot M0 len pq 5 hln hln0 hq (by omega)) (kv_X8_196 hw rfl rfl ⟨Nat.le_of_ble_eq_true rfl, Nat.le_of_ble_eq_true rfl⟩) rfl rfl mq_F rfl (Nat.le_of_ble_eq_true rfl) dX8_readsPermit_13 ⟨Nat.le_of_ble_eq_true rfl, Nat.le_of_ble_eq_true rfl⟩ (fun H locs hM => ?_)
    obtain ⟨hz1_, hz2_, hz3_, hz4_⟩ := id (show qvP len (erP 5 pq) from (qv_er hq (by omega)))
    exact me_vret hC hr hlk hM (ym_e (by unfold rpY; rw [if_pos c_1])) (rfl) dX8_readsPermit_16
set_option maxHeartbeats 4000000 in
theorem c_X8_readsLend (l : Launch) (D : va_G) (tb : Nat → ClassId) (X : State → Prop) (z0 n : Nat) (mo : Nat) (F w av od sv sl nz ip ot : Nat → Int32) (M0 : me_M) (len : Nat) (pq : QS) (S B L P : Nat) (T : Nat)  (hln : F 7 = nI len) (hln0 : len ≤ 700) (hq : qvP len pq) (hO : ok1 S B L P T w) (hT0 : T ≤ 9999) : Met l yX8_readsLend (.code yX8_readsLend cX8_readsLend 4 none :: ws_all) ({ frames := 6, cells := 0, slots := 0, locals := 133 } : Room) (me_Pc [.ref mo] D tb X z0 (mq tb mo (pqF F (pq)) w av od sv sl nz ip ot M0) n) (me_Qv D z0 (ymM tb mo F av od sv ip ot M0 (rlY ip len w sl nz S B L P pq)) n) 0 0 (me_A z0) := by
  refine me_open (by decide) (Nat.le_of_ble_eq_true rfl) ?_
  intro p e s m args below meth c ls hC hr hlk hnm hM hl
  have hl : lv_has ls 4 [(0, .ref mo)] := hl
  have hx := hC.1
  have hb := hC.2.1
  have hw := hC.2.2.2.2.1
  obtain ⟨hq1, hq2, hq3, hq4⟩ := id hq
  obtain ⟨hW, hZ, hT⟩ := id hO
  obtain ⟨hS, hS0, hB, hB0, hL, hL0, hP, hP0, hwb, hwl⟩ := id hW
  refine lv_aload_n hx hb dX8_readsLend_0 rfl (lv_at hl 0 rfl) ?_
  refine me_callVv (As := []) (rest := []) hC hl.1 hM (c_X8_next l D tb X z0 n mo F w av od sv sl nz ip ot M0 len pq  hln hln0 (qv_w hq) ) (kv_X8_193 hw rfl rfl ⟨Nat.le_of_ble_eq_true rfl, Nat.le_of_ble_eq_true rfl⟩) rfl rfl mq_F rfl (Nat.le_of_ble_eq_true rfl) dX8_readsLend_1 ⟨Nat.le_of_ble_eq_true rfl, Nat.le_of_ble_eq_true rfl⟩ (fun H locs hM => ?_)
  obtain ⟨hz1_, hz2_, hz3_, hz4_⟩ := id (show qvP len (mxP ip len pq) from (qv_mx hq))
  refine lv_aload_n hx hb dX8_readsLend_4 rfl (lv_at hl 0 rfl) ?_
  refine me_callVi (As := []) (rest := []) hC hl.1 hM (c_X8_takesBorrower l D tb X z0 n mo F w av od sv sl nz ip ot M0 len (mxP ip len pq) B hln hln0 (qv_mx hq) hB hB0) (kv_X8_229 hw rfl rfl ⟨Nat.le_of_ble_eq_true rfl, Nat.le_of_ble_eq_true rfl⟩) rfl rfl mq_F rfl (Nat.le_of_ble_eq_true rfl) dX8_readsLend_5 ⟨Nat.le_of_ble_eq_true rfl, Nat.le_of_ble_eq_true rfl⟩ (fun H locs hM => ?_)
  have hM := hM.eq (M2 := mq tb mo (pqF F (rlA ip len w sl B pq)) w av od sv (slN ip sl (sp1 (mxP ip len pq))) nz ip ot M0) (mq_ps rfl)
  refine me_evi (y := rlV ip len w sl B pq) rfl ?_
  obtain ⟨hz1_, hz2_, hz3_, hz4_⟩ := id (show qvP len (rlA ip len w sl B pq) from (qv_tb (qv_mx hq)))
  refine lv_istore_n (lv' := [(1, .int (rlV ip len w sl B pq)), (0, .ref mo)]) hx hb dX8_readsLend_8 rfl hl (by decide) rfl (fun ls hl => ?_)
  refine lv_aload_n hx hb dX8_readsLend_9 rfl (lv_at hl 1 rfl) ?_
  refine me_callVi (As := []) (rest := []) hC hl.1 hM (c_X8_takesStart l D tb X z0 n mo F w av od sv (slN ip sl (sp1 (mxP ip len pq))) nz ip ot M0 len (rlA ip len w sl B pq)  hln hln0 (qv_tb (qv_mx hq)) ) (kv_X8_220 hw rfl rfl ⟨Nat.le_of_ble_eq_true rfl, Nat.le_of_ble_eq_true rfl⟩) rfl rfl mq_F rfl (Nat.le_of_ble_eq_true rfl) dX8_readsLend_10 ⟨Nat.le_of_ble_eq_true rfl, Nat.le_of_ble_eq_true rfl⟩ (fun H locs hM => ?_)
  have hM := hM.eq (M2 := mq tb mo (pqF F (rlB ip len w sl B pq)) w av od sv (slN ip sl (sp1 (mxP ip len pq))) nz ip ot M0) (mq_ps rfl)
  refine me_evi (y := rlT ip len w sl B pq) rfl ?_
  obtain ⟨hz1_, hz2_, hz3_, hz4_⟩ := id (show qvP len (rlB ip len w sl B pq) from (qv_tn (a := w 2) (b := w 2 + 48 - 1) (qv_tb (qv_mx hq))))
  refine lv_istore_n (lv' := [(2, .int (rlT ip len w sl B pq)), (1, .int (rlV ip len w sl B pq)), (0, .ref mo)]) hx hb dX8_readsLend_13 rfl hl (by decide) rfl (fun ls hl => ?_)
  refine lv_aload_n hx hb dX8_readsLend_14 rfl (lv_at hl 2 rfl) ?_
  refine lv_iload_n hx hb dX8_readsLend_15 rfl (lv_at hl 0 rfl) ?_
  refine lv_bipush (v := 6) hx hb dX8_readsLend_16 (by decide) ?_
  refine me_callVi (As := [.int (rlT ip len w sl B pq), .int 6]) (rest := []) hC hl.1 hM (c_X8_lengthHere l D tb X z0 n mo F w av od sv (slN ip sl (sp1 (mxP ip len pq))) nz ip ot M0 len (rlB ip len w sl B pq) (rlT ip len w sl B pq) 6 hln hln0 (qv_tn (a := w 2) (b := w 2 + 48 - 1) (qv_tb (qv_mx hq))) ) (kv_X8_223 hw rfl rfl ⟨Nat.le_of_ble_eq_true rfl, Nat.le_of_ble_eq_true rfl⟩) rfl rfl mq_F rfl (Nat.le_of_ble_eq_true rfl) dX8_readsLend_18 ⟨Nat.le_of_ble_eq_true rfl, Nat.le_of_ble_eq_true rfl⟩ (fun H locs hM => ?_)
  have hM := hM.eq (M2 := mq tb mo (pqF F (rlC ip len w sl B pq)) w av od sv (slN ip sl (sp1 (mxP ip len pq))) nz ip ot M0) (mq_ps rfl)
  refine me_evi (y := rlN ip len w sl B pq) rfl ?_
  obtain ⟨hz1_, hz2_, hz3_, hz4_⟩ := id (show qvP len (rlC ip len w sl B pq) from (qv_he (show qvP len (rlB ip len w sl B pq) from (qv_tn (a := w 2) (b := w 2 + 48 - 1) (qv_tb (qv_mx hq))))))
  refine lv_istore_n (lv' := [(3, .int (rlN ip len w sl B pq)), (2, .int (rlT ip len w sl B pq)), (1, .int (rlV ip len w sl B pq)), (0, .ref mo)]) hx hb dX8_readsLend_21 rfl hl (by decide) rfl (fun ls hl => ?_)
  refine lv_aload_n hx hb dX8_readsLend_22 rfl (lv_at hl 3 rfl) ?_
  refine fg_X8_187 hC hM mq_F rfl dX8_readsLend_23 ?_
  refine me_evi (y := nI (qFl (rlC ip len w sl B pq))) rfl ?_
  refine lv_if_ne (tgt := 45) hx hb dX8_readsLend_26 (by decide) (fun c_1 => ?_) (fun c_1 => ?_)
  · have c_1 := (not_congr (br_eq rfl (show (0 : Int32) = nI 0 from rfl) (by omega) (by omega))).mp c_1
    have hM := hM.eq (M2 := mq tb mo (pqF F (rlD ip len w sl B L P pq)) w av od sv (slN ip sl (sp1 (mxP ip len pq))) nz ip ot M0) (mq_ps (by unfold rlD; rw [if_neg (fun z => c_1 z.1)]))
    obtain ⟨hz1_, hz2_, hz3_, hz4_⟩ := id (show qvP len (rlD ip len w sl B L P pq) from (show qvP len (rlD ip len w sl B L P pq) from by unfold rlD; split; exact qv_er (show qvP len (rlC ip len w sl B pq) from (qv_he (show qvP len (rlB ip len w sl B pq) from (qv_tn (a := w 2) (b := w 2 + 48 - 1) (qv_tb (qv_mx hq)))))) (by omega); exact (show qvP len (rlC ip len w sl B pq) from (qv_he (show qvP len (rlB ip len w sl B pq) from (qv_tn (a := w 2) (b := w 2 + 48 - 1) (qv_tb (qv_mx hq))))))))
    refine lv_aload_n hx hb dX8_readsLend_45 rfl (lv_at hl 3 rfl) ?_
    refine fg_X8_187 hC hM mq_F rfl dX8_readsLend_46 ?_
    refine me_evi (y := nI (qFl (rlD ip len w sl B L P pq))) rfl ?_
    refine lv_if_ne (tgt := 63) hx hb dX8_readsLend_49 (by decide) (fun c_2 => ?_) (fun c_2 => ?_)
    · have c_2 := (not_congr (br_eq rfl (show (0 : Int32) = nI 0 from rfl) (by omega) (by omega))).mp c_2
      exact me_vret hC hr hlk hM (ym_e (by unfold rlY; rw [if_neg c_2])) (rfl) dX8_readsLend_63
    · have c_2 := (br_eq rfl (show (0 : Int32) = nI 0 from rfl) (by omega) (by omega)).mp c_2
      exact absurd (zk_rl c_2).1 c_1
  · have c_1 := (br_eq rfl (show (0 : Int32) = nI 0 from rfl) (by omega) (by omega)).mp c_1
    obtain ⟨b9, s9, n9, hb9, hs1, hs2, hn1, hn2, eb, es, en⟩ := rl_nat (t := ip) (len := len) (w := w) (sl := sl) (B := B) (T := T) (q := pq) hB0 hT hT0 c_1
    have ebc : (rlV ip len w sl B pq).toNatClampNeg = b9 := by rw [eb]; exact nI_clamp (by omega)
    have esc : (rlT ip len w sl B pq).toNatClampNeg = s9 := by rw [es]; exact nI_clamp (by omega)
    have enc : (rlN ip len w sl B pq).toNatClampNeg = n9 := by rw [en]; exact nI_clamp (by omega)
    refine lv_aload_n hx hb dX8_readsLend_29 rfl (lv_at hl 3 rfl) ?_
    refine lv_iload_n hx hb dX8_readsLend_30 rfl (lv_at hl 2 rfl) ?_
    refine lv_iload_n hx hb dX8_readsLend_31 rfl (lv_at hl 1 rfl) ?_
    refine lv_iload_n hx hb dX8_readsLend_32 rfl (lv_at hl 0 rfl) ?_
    refine me_stk (st2 := [.int (nI n9), .int (nI s9), .int (nI b9), .ref mo]) (by rw [eb, es, en]) ?_
    refine me_callVi (As := [.int (nI b9), .int (nI s9), .int (nI n9)]) (rest := []) hC hl.1 hM (c_X8_reasonFor l D tb X z0 n mo (pqF F (rlC ip len w sl B pq)) w av od sv (slN ip sl (sp1 (mxP ip len pq))) nz ip ot M0 S B L P b9 s9 n9 hW hZ (by omega) (by omega)) (kv_X8_232 hw rfl rfl ⟨Nat.le_of_ble_eq_true rfl, Nat.le_of_ble_eq_true rfl⟩) rfl rfl mq_F rfl (Nat.le_of_ble_eq_true rfl) dX8_readsLend_33 ⟨Nat.le_of_ble_eq_true rfl, Nat.le_of_ble_eq_true rfl⟩ (fun H locs hM => ?_)
    refine lv_if_eq (tgt := 45) hx hb dX8_readsLend_36 (by decide) (fun c_3 => ?_) (fun c_3 => ?_)
    · have hM := hM.eq (M2 := mq tb mo (pqF F (rlD ip len w sl B L P pq)) w av od sv (slN ip sl (sp1 (mxP ip len pq))) nz ip ot M0) (mq_ps (by unfold rlD; rw [if_neg (fun z => z.2 (by rw [ebc, esc, enc]; exact c_3))]))
      obtain ⟨hz1_, hz2_, hz3_, hz4_⟩ := id (show qvP len (rlD ip len w sl B L P pq) from (show qvP len (rlD ip len w sl B L P pq) from by unfold rlD; split; exact qv_er (show qvP len (rlC ip len w sl B pq) from (qv_he (show qvP len (rlB ip len w sl B pq) from (qv_tn (a := w 2) (b := w 2 + 48 - 1) (qv_tb (qv_mx hq)))))) (by omega); exact (show qvP len (rlC ip len w sl B pq) from (qv_he (show qvP len (rlB ip len w sl B pq) from (qv_tn (a := w 2) (b := w 2 + 48 - 1) (qv_tb (qv_mx hq))))))))
      refine lv_aload_n hx hb dX8_readsLend_45 rfl (lv_at hl 3 rfl) ?_
      refine fg_X8_187 hC hM mq_F rfl dX8_readsLend_46 ?_
      refine me_evi (y := nI (qFl (rlD ip len w sl B L P pq))) rfl ?_
      refine lv_if_ne (tgt := 63) hx hb dX8_readsLend_49 (by decide) (fun c_4 => ?_) (fun c_4 => ?_)
      · have c_4 := (not_congr (br_eq rfl (show (0 : Int32) = nI 0 from rfl) (by omega) (by omega))).mp c_4
        exact me_vret hC hr hlk hM (ym_e (by unfold rlY; rw [if_neg c_4])) (rfl) dX8_readsLend_63
      · have c_4 := (br_eq rfl (show (0 : Int32) = nI 0 from rfl) (by omega) (by omega)).mp c_4
        refine lv_aload_n hx hb dX8_readsLend_52 rfl (lv_at hl 3 rfl) ?_
        have hL30 := reF_L hW c_3
        refine lv_iload_n hx hb dX8_readsLend_53 rfl (lv_at hl 2 rfl) ?_
        refine lv_iload_n hx hb dX8_readsLend_54 rfl (lv_at hl 1 rfl) ?_
        refine lv_iload_n hx hb dX8_readsLend_55 rfl (lv_at hl 0 rfl) ?_
        refine me_stk (st2 := [.int (nI n9), .int (nI s9), .int (nI b9), .ref mo]) (by rw [eb, es, en]) ?_
        refine me_callVv (As := [.int (nI b9), .int (nI s9), .int (nI n9)]) (rest := []) hC hl.1 hM (c_X8_lends l D tb X z0 n mo (pqF F (rlD ip len w sl B L P pq)) w av od sv (slN ip sl (sp1 (mxP ip len pq))) nz ip ot M0 S B L P T b9 s9 n9 hO (by omega) (by omega)) (kv_X8_57 hw rfl rfl ⟨Nat.le_of_ble_eq_true rfl, Nat.le_of_ble_eq_true rfl⟩) rfl rfl mq_F rfl (Nat.le_of_ble_eq_true rfl) dX8_readsLend_56 ⟨Nat.le_of_ble_eq_true rfl, Nat.le_of_ble_eq_true rfl⟩ (fun H locs hM => ?_)
        refine lv_aload_n hx hb dX8_readsLend_59 rfl (lv_at hl 3 rfl) ?_
        refine me_callVv (As := []) (rest := []) hC hl.1 hM (c_X8_next l D tb X z0 n mo F (adF w L b9 s9 n9) av od sv (slN ip sl (sp1 (mxP ip len pq))) nz ip ot M0 len (rlD ip len w sl B L P pq)  hln hln0 (qv_w (show qvP len (rlD ip len w sl B L P pq) from by unfold rlD; split; exact qv_er (show qvP len (rlC ip len w sl B pq) from (qv_he (show qvP len (rlB ip len w sl B pq) from (qv_tn (a := w 2) (b := w 2 + 48 - 1) (qv_tb (qv_mx hq)))))) (by omega); exact (show qvP len (rlC ip len w sl B pq) from (qv_he (show qvP len (rlB ip len w sl B pq) from (qv_tn (a := w 2) (b := w 2 + 48 - 1) (qv_tb (qv_mx hq)))))))) ) (kv_X8_193 hw rfl rfl ⟨Nat.le_of_ble_eq_true rfl, Nat.le_of_ble_eq_true rfl⟩) rfl rfl mq_F rfl (Nat.le_of_ble_eq_true rfl) dX8_readsLend_60 ⟨Nat.le_of_ble_eq_true rfl, Nat.le_of_ble_eq_true rfl⟩ (fun H locs hM => ?_)
        obtain ⟨hz1_, hz2_, hz3_, hz4_⟩ := id (show qvP len (mxP ip len (rlD ip len w sl B L P pq)) from (qv_mx (show qvP len (rlD ip len w sl B L P pq) from by unfold rlD; split; exact qv_er (show qvP len (rlC ip len w sl B pq) from (qv_he (show qvP len (rlB ip len w sl B pq) from (qv_tn (a := w 2) (b := w 2 + 48 - 1) (qv_tb (qv_mx hq)))))) (by omega); exact (show qvP len (rlC ip len w sl B pq) from (qv_he (show qvP len (rlB ip len w sl B pq) from (qv_tn (a := w 2) (b := w 2 + 48 - 1) (qv_tb (qv_mx hq)))))))))
        exact me_vret hC hr hlk hM (ym_e (by unfold rlY; rw [if_pos c_4, ebc, esc, enc])) (rfl) dX8_readsLend_63
    · refine lv_aload_n hx hb dX8_readsLend_39 rfl (lv_at hl 3 rfl) ?_
      refine lv_bipush (v := 6) hx hb dX8_readsLend_40 (by decide) ?_
      refine me_stk (st2 := [.int (nI 6), .ref mo]) (by rw [(nx_c 6)]) ?_
      refine me_callVv (As := [.int (nI 6)]) (rest := []) hC hl.1 hM (c_X8_errs l D tb X z0 n mo F w av od sv (slN ip sl (sp1 (mxP ip len pq))) nz ip ot M0 len (rlC ip len w sl B pq) 6 hln hln0 (qv_he (show qvP len (rlB ip len w sl B pq) from (qv_tn (a := w 2) (b := w 2 + 48 - 1) (qv_tb (qv_mx hq))))) (by omega)) (kv_X8_196 hw rfl rfl ⟨Nat.le_of_ble_eq_true rfl, Nat.le_of_ble_eq_true rfl⟩) rfl rfl mq_F rfl (Nat.le_of_ble_eq_true rfl) dX8_readsLend_42 ⟨Nat.le_of_ble_eq_true rfl, Nat.le_of_ble_eq_true rfl⟩ (fun H locs hM => ?_)
      obtain ⟨hz1_, hz2_, hz3_, hz4_⟩ := id (show qvP len (erP 6 (rlC ip len w sl B pq)) from (qv_er (show qvP len (rlC ip len w sl B pq) from (qv_he (show qvP len (rlB ip len w sl B pq) from (qv_tn (a := w 2) (b := w 2 + 48 - 1) (qv_tb (qv_mx hq)))))) (by omega)))
      have hM := hM.eq (M2 := mq tb mo (pqF F (rlD ip len w sl B L P pq)) w av od sv (slN ip sl (sp1 (mxP ip len pq))) nz ip ot M0) (mq_ps (by unfold rlD; rw [if_pos ⟨c_1, by rw [ebc, esc, enc]; exact c_3⟩]))
      obtain ⟨hz1_, hz2_, hz3_, hz4_⟩ := id (show qvP len (rlD ip len w sl B L P pq) from (show qvP len (rlD ip len w sl B L P pq) from by unfold rlD; split; exact qv_er (show qvP len (rlC ip len w sl B pq) from (qv_he (show qvP len (rlB ip len w sl B pq) from (qv_tn (a := w 2) (b := w 2 + 48 - 1) (qv_tb (qv_mx hq)))))) (by omega); exact (show qvP len (rlC ip len w sl B pq) from (qv_he (show qvP len (rlB ip len w sl B pq) from (qv_tn (a := w 2) (b := w 2 + 48 - 1) (qv_tb (qv_mx hq))))))))
      refine lv_aload_n hx hb dX8_readsLend_45 rfl (lv_at hl 3 rfl) ?_
      refine fg_X8_187 hC hM mq_F rfl dX8_readsLend_46 ?_
      refine me_evi (y := nI (qFl (rlD ip len w sl B L P pq))) rfl ?_
      refine lv_if_ne (tgt := 63) hx hb dX8_readsLend_49 (by decide) (fun c_5 => ?_) (fun c_5 => ?_)
      · have c_5 := (not_congr (br_eq rfl (show (0 : Int32) = nI 0 from rfl) (by omega) (by omega))).mp c_5
        exact me_vret hC hr hlk hM (ym_e (by unfold rlY; rw [if_neg c_5])) (rfl) dX8_readsLend_63
      · have c_5 := (br_eq rfl (show (0 : Int32) = nI 0 from rfl) (by omega) (by omega)).mp c_5
        exact absurd (by have z := (zk_rl c_5).2; rw [ebc, esc, enc] at z; exact z) c_3
