set_option maxHeartbeats 4000000 in
theorem c_X8_readsStreet (l : Launch) (D : va_G) (tb : Nat → ClassId) (X : State → Prop) (z0 n : Nat) (mo : Nat) (F w av od sv sl nz ip ot : Nat → Int32) (M0 : me_M) (len : Nat) (pq : QS) (S B L P : Nat) (T : Nat)  (hln : F 7 = nI len) (hln0 : len ≤ 700) (hq : qvP len pq) (hO : ok1 S B L P T w) (hT0 : T ≤ 9999) : Met l yX8_readsStreet (.code yX8_readsStreet cX8_readsStreet 3 none :: ws_all) ({ frames := 4, cells := 0, slots := 0, locals := 85 } : Room) (me_Pc [.ref mo] D tb X z0 (mq tb mo (pqF F (pq)) w av od sv sl nz ip ot M0) n) (me_Qv D z0 (ymM tb mo F av od sv ip ot M0 (rsY ip len w sl nz S B L P pq)) n) 0 0 (me_A z0) := by
  refine me_open (by decide) (Nat.le_of_ble_eq_true rfl) ?_
  intro p e s m args below meth c ls hC hr hlk hnm hM hl
  have hl : lv_has ls 3 [(0, .ref mo)] := hl
  have hx := hC.1
  have hb := hC.2.1
  have hw := hC.2.2.2.2.1
  obtain ⟨hq1, hq2, hq3, hq4⟩ := id hq
  obtain ⟨hW, hZ, hT⟩ := id hO
  obtain ⟨hS, hS0, hB, hB0, hL, hL0, hP, hP0, hwb, hwl⟩ := id hW
  refine lv_aload_n hx hb dX8_readsStreet_0 rfl (lv_at hl 0 rfl) ?_
  refine fg_X8_13 hC hM mq_F rfl dX8_readsStreet_1 ?_
  refine lv_iconst (v := 3) hx hb dX8_readsStreet_4 (by decide) ?_
  refine me_iald (k := 3) hC hM mq_w (nx_c 3) (by omega) (by decide) dX8_readsStreet_5 ?_
  refine lv_bipush (v := 8) hx hb dX8_readsStreet_6 (by decide) ?_
  refine lv_icmp_ne (tgt := 17) hx hb dX8_readsStreet_8 (by decide) (fun c_1 => ?_) (fun c_1 => ?_)
  · have c_1 := (not_congr (br_eq hS (nx_c 8) (by omega) (by omega))).mp c_1
    refine lv_aload_n hx hb dX8_readsStreet_17 rfl (lv_at hl 0 rfl) ?_
    refine me_callVv (As := []) (rest := []) hC hl.1 hM (c_X8_next l D tb X z0 n mo F w av od sv sl nz ip ot M0 len pq  hln hln0 (qv_w hq) ) (kv_X8_193 hw rfl rfl ⟨Nat.le_of_ble_eq_true rfl, Nat.le_of_ble_eq_true rfl⟩) rfl rfl mq_F rfl (Nat.le_of_ble_eq_true rfl) dX8_readsStreet_18 ⟨Nat.le_of_ble_eq_true rfl, Nat.le_of_ble_eq_true rfl⟩ (fun H locs hM => ?_)
    obtain ⟨hz1_, hz2_, hz3_, hz4_⟩ := id (show qvP len (mxP ip len pq) from (qv_mx hq))
    refine lv_aload_n hx hb dX8_readsStreet_21 rfl (lv_at hl 0 rfl) ?_
    refine me_callVv (As := []) (rest := []) hC hl.1 hM (c_X8_spellsHere l D tb X z0 n mo F w av od sv sl nz ip ot M0 len (mxP ip len pq)  hln hln0 (qv_mx hq) ) (kv_X8_205 hw rfl rfl ⟨Nat.le_of_ble_eq_true rfl, Nat.le_of_ble_eq_true rfl⟩) rfl rfl mq_F rfl (Nat.le_of_ble_eq_true rfl) dX8_readsStreet_22 ⟨Nat.le_of_ble_eq_true rfl, Nat.le_of_ble_eq_true rfl⟩ (fun H locs hM => ?_)
    obtain ⟨hz1_, hz2_, hz3_, hz4_⟩ := id (show qvP len (sp1 (mxP ip len pq)) from (qv_s1 (qv_mx hq)))
    refine lv_aload_n hx hb dX8_readsStreet_25 rfl (lv_at hl 0 rfl) ?_
    refine fg_X8_187 hC hM mq_F rfl dX8_readsStreet_26 ?_
    refine me_evi (y := nI (qFl (sp1 (mxP ip len pq)))) rfl ?_
    refine lv_if_ne (tgt := 45) hx hb dX8_readsStreet_29 (by decide) (fun c_2 => ?_) (fun c_2 => ?_)
    · have c_2 := (not_congr (br_eq rfl (show (0 : Int32) = nI 0 from rfl) (by omega) (by omega))).mp c_2
      have hM := hM.eq (M2 := mq tb mo (pqF F (rsB ip len w sl S pq)) w av od sv (slN ip sl (sp1 (mxP ip len pq))) nz ip ot M0) (mq_ps (by unfold rsB; rw [if_neg (fun z => c_2 z.1)]))
      obtain ⟨hz1_, hz2_, hz3_, hz4_⟩ := id (show qvP len (rsB ip len w sl S pq) from (show qvP len (rsB ip len w sl S pq) from by unfold rsB; split; exact qv_er (qv_s1 (qv_mx hq)) (by omega); exact (qv_s1 (qv_mx hq))))
      refine lv_aload_n hx hb dX8_readsStreet_45 rfl (lv_at hl 0 rfl) ?_
      refine me_callVv (As := []) (rest := []) hC hl.1 hM (c_X8_goesOn l D tb X z0 n mo F w av od sv (slN ip sl (sp1 (mxP ip len pq))) nz ip ot M0 len (rsB ip len w sl S pq)  hln hln0 (show qvP len (rsB ip len w sl S pq) from by unfold rsB; split; exact qv_er (qv_s1 (qv_mx hq)) (by omega); exact (qv_s1 (qv_mx hq))) ) (kv_X8_202 hw rfl rfl ⟨Nat.le_of_ble_eq_true rfl, Nat.le_of_ble_eq_true rfl⟩) rfl rfl mq_F rfl (Nat.le_of_ble_eq_true rfl) dX8_readsStreet_46 ⟨Nat.le_of_ble_eq_true rfl, Nat.le_of_ble_eq_true rfl⟩ (fun H locs hM => ?_)
      obtain ⟨hz1_, hz2_, hz3_, hz4_⟩ := id (show qvP len (gnP ip len (rsB ip len w sl S pq)) from (qv_gn (show qvP len (rsB ip len w sl S pq) from by unfold rsB; split; exact qv_er (qv_s1 (qv_mx hq)) (by omega); exact (qv_s1 (qv_mx hq)))))
      refine lv_aload_n hx hb dX8_readsStreet_49 rfl (lv_at hl 0 rfl) ?_
      refine lv_iconst (v := 0) hx hb dX8_readsStreet_50 (by decide) ?_
      refine lv_bipush (v := 99) hx hb dX8_readsStreet_51 (by decide) ?_
      refine me_callVi (As := [.int 0, .int 99]) (rest := []) hC hl.1 hM (c_X8_takesNumber l D tb X z0 n mo F w av od sv (slN ip sl (sp1 (mxP ip len pq))) nz ip ot M0 len (gnP ip len (rsB ip len w sl S pq)) 0 99 hln hln0 (qv_gn (show qvP len (rsB ip len w sl S pq) from by unfold rsB; split; exact qv_er (qv_s1 (qv_mx hq)) (by omega); exact (qv_s1 (qv_mx hq)))) ) (kv_X8_214 hw rfl rfl ⟨Nat.le_of_ble_eq_true rfl, Nat.le_of_ble_eq_true rfl⟩) rfl rfl mq_F rfl (Nat.le_of_ble_eq_true rfl) dX8_readsStreet_53 ⟨Nat.le_of_ble_eq_true rfl, Nat.le_of_ble_eq_true rfl⟩ (fun H locs hM => ?_)
      obtain ⟨hz1_, hz2_, hz3_, hz4_⟩ := id (show qvP len (tnQ ip len 0 99 (gnP ip len (rsB ip len w sl S pq))) from (qv_tn (qv_gn (show qvP len (rsB ip len w sl S pq) from by unfold rsB; split; exact qv_er (qv_s1 (qv_mx hq)) (by omega); exact (qv_s1 (qv_mx hq))))))
      refine lv_istore_n (lv' := [(1, .int (heV 0 99 (gnP ip len (rsB ip len w sl S pq)))), (0, .ref mo)]) hx hb dX8_readsStreet_56 rfl hl (by decide) rfl (fun ls hl => ?_)
      refine lv_aload_n hx hb dX8_readsStreet_57 rfl (lv_at hl 1 rfl) ?_
      refine lv_iconst (v := 0) hx hb dX8_readsStreet_58 (by decide) ?_
      refine lv_bipush (v := 99) hx hb dX8_readsStreet_59 (by decide) ?_
      refine me_callVi (As := [.int 0, .int 99]) (rest := []) hC hl.1 hM (c_X8_takesNumber l D tb X z0 n mo F w av od sv (slN ip sl (sp1 (mxP ip len pq))) nz ip ot M0 len (tnQ ip len 0 99 (gnP ip len (rsB ip len w sl S pq))) 0 99 hln hln0 (qv_tn (qv_gn (show qvP len (rsB ip len w sl S pq) from by unfold rsB; split; exact qv_er (qv_s1 (qv_mx hq)) (by omega); exact (qv_s1 (qv_mx hq))))) ) (kv_X8_214 hw rfl rfl ⟨Nat.le_of_ble_eq_true rfl, Nat.le_of_ble_eq_true rfl⟩) rfl rfl mq_F rfl (Nat.le_of_ble_eq_true rfl) dX8_readsStreet_61 ⟨Nat.le_of_ble_eq_true rfl, Nat.le_of_ble_eq_true rfl⟩ (fun H locs hM => ?_)
      obtain ⟨hz1_, hz2_, hz3_, hz4_⟩ := id (show qvP len (tnQ ip len 0 99 (tnQ ip len 0 99 (gnP ip len (rsB ip len w sl S pq)))) from (qv_tn (qv_tn (qv_gn (show qvP len (rsB ip len w sl S pq) from by unfold rsB; split; exact qv_er (qv_s1 (qv_mx hq)) (by omega); exact (qv_s1 (qv_mx hq)))))))
      refine lv_istore_n (lv' := [(2, .int (heV 0 99 (tnQ ip len 0 99 (gnP ip len (rsB ip len w sl S pq))))), (1, .int (heV 0 99 (gnP ip len (rsB ip len w sl S pq)))), (0, .ref mo)]) hx hb dX8_readsStreet_64 rfl hl (by decide) rfl (fun ls hl => ?_)
      refine lv_aload_n hx hb dX8_readsStreet_65 rfl (lv_at hl 2 rfl) ?_
      refine fg_X8_187 hC hM mq_F rfl dX8_readsStreet_66 ?_
      refine me_evi (y := nI (qFl (tnQ ip len 0 99 (tnQ ip len 0 99 (gnP ip len (rsB ip len w sl S pq)))))) rfl ?_
      refine lv_if_ne (tgt := 78) hx hb dX8_readsStreet_69 (by decide) (fun c_3 => ?_) (fun c_3 => ?_)
      · have c_3 := (not_congr (br_eq rfl (show (0 : Int32) = nI 0 from rfl) (by omega) (by omega))).mp c_3
        exact me_vret hC hr hlk hM (ym_e (by unfold rsY; rw [if_neg c_1, if_neg c_3])) (rfl) dX8_readsStreet_78
      · have c_3 := (br_eq rfl (show (0 : Int32) = nI 0 from rfl) (by omega) (by omega)).mp c_3
        refine lv_aload_n hx hb dX8_readsStreet_72 rfl (lv_at hl 2 rfl) ?_
        refine lv_iload_n hx hb dX8_readsStreet_73 rfl (lv_at hl 1 rfl) ?_
        refine lv_iload_n hx hb dX8_readsStreet_74 rfl (lv_at hl 0 rfl) ?_
        refine me_callVv (As := [.int (heV 0 99 (gnP ip len (rsB ip len w sl S pq))), .int (heV 0 99 (tnQ ip len 0 99 (gnP ip len (rsB ip len w sl S pq))))]) (rest := []) hC hl.1 hM (c_X8_builds l D tb X z0 n mo (pqF F (tnQ ip len 0 99 (tnQ ip len 0 99 (gnP ip len (rsB ip len w sl S pq))))) w av od sv (slN ip sl (sp1 (mxP ip len pq))) nz ip ot M0 S (heV 0 99 (gnP ip len (rsB ip len w sl S pq))) (heV 0 99 (tnQ ip len 0 99 (gnP ip len (rsB ip len w sl S pq)))) hS (by omega)) (kv_X8_46 hw rfl rfl ⟨Nat.le_of_ble_eq_true rfl, Nat.le_of_ble_eq_true rfl⟩) rfl rfl mq_F rfl (Nat.le_of_ble_eq_true rfl) dX8_readsStreet_75 ⟨Nat.le_of_ble_eq_true rfl, Nat.le_of_ble_eq_true rfl⟩ (fun H locs hM => ?_)
        exact me_vret hC hr hlk hM (ym_e (by unfold rsY; rw [if_neg c_1, if_pos c_3])) (rfl) dX8_readsStreet_78
    · have c_2 := (br_eq rfl (show (0 : Int32) = nI 0 from rfl) (by omega) (by omega)).mp c_2
      refine lv_aload_n hx hb dX8_readsStreet_32 rfl (lv_at hl 0 rfl) ?_
      refine me_callVi (As := []) (rest := []) hC hl.1 hM (c_X8_streetSpelled l D tb X z0 n mo (pqF F (sp1 (mxP ip len pq))) w av od sv (slN ip sl (sp1 (mxP ip len pq))) nz ip ot M0 S hS hS0) (kv_X8_208 hw rfl rfl ⟨Nat.le_of_ble_eq_true rfl, Nat.le_of_ble_eq_true rfl⟩) rfl rfl mq_F rfl (Nat.le_of_ble_eq_true rfl) dX8_readsStreet_33 ⟨Nat.le_of_ble_eq_true rfl, Nat.le_of_ble_eq_true rfl⟩ (fun H locs hM => ?_)
      refine lv_iconst (v := (-1)) hx hb dX8_readsStreet_36 (by decide) ?_
      refine lv_icmp_eq (tgt := 45) hx hb dX8_readsStreet_37 (by decide) (fun c_4 => ?_) (fun c_4 => ?_)
      · have hM := hM.eq (M2 := mq tb mo (pqF F (rsB ip len w sl S pq)) w av od sv (slN ip sl (sp1 (mxP ip len pq))) nz ip ot M0) (mq_ps (by unfold rsB; rw [if_neg (fun z => z.2 c_4)]))
        obtain ⟨hz1_, hz2_, hz3_, hz4_⟩ := id (show qvP len (rsB ip len w sl S pq) from (show qvP len (rsB ip len w sl S pq) from by unfold rsB; split; exact qv_er (qv_s1 (qv_mx hq)) (by omega); exact (qv_s1 (qv_mx hq))))
        refine lv_aload_n hx hb dX8_readsStreet_45 rfl (lv_at hl 0 rfl) ?_
        refine me_callVv (As := []) (rest := []) hC hl.1 hM (c_X8_goesOn l D tb X z0 n mo F w av od sv (slN ip sl (sp1 (mxP ip len pq))) nz ip ot M0 len (rsB ip len w sl S pq)  hln hln0 (show qvP len (rsB ip len w sl S pq) from by unfold rsB; split; exact qv_er (qv_s1 (qv_mx hq)) (by omega); exact (qv_s1 (qv_mx hq))) ) (kv_X8_202 hw rfl rfl ⟨Nat.le_of_ble_eq_true rfl, Nat.le_of_ble_eq_true rfl⟩) rfl rfl mq_F rfl (Nat.le_of_ble_eq_true rfl) dX8_readsStreet_46 ⟨Nat.le_of_ble_eq_true rfl, Nat.le_of_ble_eq_true rfl⟩ (fun H locs hM => ?_)
        obtain ⟨hz1_, hz2_, hz3_, hz4_⟩ := id (show qvP len (gnP ip len (rsB ip len w sl S pq)) from (qv_gn (show qvP len (rsB ip len w sl S pq) from by unfold rsB; split; exact qv_er (qv_s1 (qv_mx hq)) (by omega); exact (qv_s1 (qv_mx hq)))))
        refine lv_aload_n hx hb dX8_readsStreet_49 rfl (lv_at hl 0 rfl) ?_
        refine lv_iconst (v := 0) hx hb dX8_readsStreet_50 (by decide) ?_
        refine lv_bipush (v := 99) hx hb dX8_readsStreet_51 (by decide) ?_
        refine me_callVi (As := [.int 0, .int 99]) (rest := []) hC hl.1 hM (c_X8_takesNumber l D tb X z0 n mo F w av od sv (slN ip sl (sp1 (mxP ip len pq))) nz ip ot M0 len (gnP ip len (rsB ip len w sl S pq)) 0 99 hln hln0 (qv_gn (show qvP len (rsB ip len w sl S pq) from by unfold rsB; split; exact qv_er (qv_s1 (qv_mx hq)) (by omega); exact (qv_s1 (qv_mx hq)))) ) (kv_X8_214 hw rfl rfl ⟨Nat.le_of_ble_eq_true rfl, Nat.le_of_ble_eq_true rfl⟩) rfl rfl mq_F rfl (Nat.le_of_ble_eq_true rfl) dX8_readsStreet_53 ⟨Nat.le_of_ble_eq_true rfl, Nat.le_of_ble_eq_true rfl⟩ (fun H locs hM => ?_)
        obtain ⟨hz1_, hz2_, hz3_, hz4_⟩ := id (show qvP len (tnQ ip len 0 99 (gnP ip len (rsB ip len w sl S pq))) from (qv_tn (qv_gn (show qvP len (rsB ip len w sl S pq) from by unfold rsB; split; exact qv_er (qv_s1 (qv_mx hq)) (by omega); exact (qv_s1 (qv_mx hq))))))
        refine lv_istore_n (lv' := [(1, .int (heV 0 99 (gnP ip len (rsB ip len w sl S pq)))), (0, .ref mo)]) hx hb dX8_readsStreet_56 rfl hl (by decide) rfl (fun ls hl => ?_)
        refine lv_aload_n hx hb dX8_readsStreet_57 rfl (lv_at hl 1 rfl) ?_
        refine lv_iconst (v := 0) hx hb dX8_readsStreet_58 (by decide) ?_
        refine lv_bipush (v := 99) hx hb dX8_readsStreet_59 (by decide) ?_
        refine me_callVi (As := [.int 0, .int 99]) (rest := []) hC hl.1 hM (c_X8_takesNumber l D tb X z0 n mo F w av od sv (slN ip sl (sp1 (mxP ip len pq))) nz ip ot M0 len (tnQ ip len 0 99 (gnP ip len (rsB ip len w sl S pq))) 0 99 hln hln0 (qv_tn (qv_gn (show qvP len (rsB ip len w sl S pq) from by unfold rsB; split; exact qv_er (qv_s1 (qv_mx hq)) (by omega); exact (qv_s1 (qv_mx hq))))) ) (kv_X8_214 hw rfl rfl ⟨Nat.le_of_ble_eq_true rfl, Nat.le_of_ble_eq_true rfl⟩) rfl rfl mq_F rfl (Nat.le_of_ble_eq_true rfl) dX8_readsStreet_61 ⟨Nat.le_of_ble_eq_true rfl, Nat.le_of_ble_eq_true rfl⟩ (fun H locs hM => ?_)
        obtain ⟨hz1_, hz2_, hz3_, hz4_⟩ := id (show qvP len (tnQ ip len 0 99 (tnQ ip len 0 99 (gnP ip len (rsB ip len w sl S pq)))) from (qv_tn (qv_tn (qv_gn (show qvP len (rsB ip len w sl S pq) from by unfold rsB; split; exact qv_er (qv_s1 (qv_mx hq)) (by omega); exact (qv_s1 (qv_mx hq)))))))
        refine lv_istore_n (lv' := [(2, .int (heV 0 99 (tnQ ip len 0 99 (gnP ip len (rsB ip len w sl S pq))))), (1, .int (heV 0 99 (gnP ip len (rsB ip len w sl S pq)))), (0, .ref mo)]) hx hb dX8_readsStreet_64 rfl hl (by decide) rfl (fun ls hl => ?_)
        refine lv_aload_n hx hb dX8_readsStreet_65 rfl (lv_at hl 2 rfl) ?_
        refine fg_X8_187 hC hM mq_F rfl dX8_readsStreet_66 ?_
        refine me_evi (y := nI (qFl (tnQ ip len 0 99 (tnQ ip len 0 99 (gnP ip len (rsB ip len w sl S pq)))))) rfl ?_
        refine lv_if_ne (tgt := 78) hx hb dX8_readsStreet_69 (by decide) (fun c_5 => ?_) (fun c_5 => ?_)
        · have c_5 := (not_congr (br_eq rfl (show (0 : Int32) = nI 0 from rfl) (by omega) (by omega))).mp c_5
          exact me_vret hC hr hlk hM (ym_e (by unfold rsY; rw [if_neg c_1, if_neg c_5])) (rfl) dX8_readsStreet_78
        · have c_5 := (br_eq rfl (show (0 : Int32) = nI 0 from rfl) (by omega) (by omega)).mp c_5
          refine lv_aload_n hx hb dX8_readsStreet_72 rfl (lv_at hl 2 rfl) ?_
          refine lv_iload_n hx hb dX8_readsStreet_73 rfl (lv_at hl 1 rfl) ?_
          refine lv_iload_n hx hb dX8_readsStreet_74 rfl (lv_at hl 0 rfl) ?_
          refine me_callVv (As := [.int (heV 0 99 (gnP ip len (rsB ip len w sl S pq))), .int (heV 0 99 (tnQ ip len 0 99 (gnP ip len (rsB ip len w sl S pq))))]) (rest := []) hC hl.1 hM (c_X8_builds l D tb X z0 n mo (pqF F (tnQ ip len 0 99 (tnQ ip len 0 99 (gnP ip len (rsB ip len w sl S pq))))) w av od sv (slN ip sl (sp1 (mxP ip len pq))) nz ip ot M0 S (heV 0 99 (gnP ip len (rsB ip len w sl S pq))) (heV 0 99 (tnQ ip len 0 99 (gnP ip len (rsB ip len w sl S pq)))) hS (by omega)) (kv_X8_46 hw rfl rfl ⟨Nat.le_of_ble_eq_true rfl, Nat.le_of_ble_eq_true rfl⟩) rfl rfl mq_F rfl (Nat.le_of_ble_eq_true rfl) dX8_readsStreet_75 ⟨Nat.le_of_ble_eq_true rfl, Nat.le_of_ble_eq_true rfl⟩ (fun H locs hM => ?_)
          exact me_vret hC hr hlk hM (ym_e (by unfold rsY; rw [if_neg c_1, if_pos c_5])) (rfl) dX8_readsStreet_78
      · refine lv_aload_n hx hb dX8_readsStreet_40 rfl (lv_at hl 0 rfl) ?_
        refine lv_iconst (v := 4) hx hb dX8_readsStreet_41 (by decide) ?_
        refine me_stk (st2 := [.int (nI 4), .ref mo]) (by rw [(nx_c 4)]) ?_
        refine me_callVv (As := [.int (nI 4)]) (rest := []) hC hl.1 hM (c_X8_errs l D tb X z0 n mo F w av od sv (slN ip sl (sp1 (mxP ip len pq))) nz ip ot M0 len (sp1 (mxP ip len pq)) 4 hln hln0 (qv_s1 (qv_mx hq)) (by omega)) (kv_X8_196 hw rfl rfl ⟨Nat.le_of_ble_eq_true rfl, Nat.le_of_ble_eq_true rfl⟩) rfl rfl mq_F rfl (Nat.le_of_ble_eq_true rfl) dX8_readsStreet_42 ⟨Nat.le_of_ble_eq_true rfl, Nat.le_of_ble_eq_true rfl⟩ (fun H locs hM => ?_)
        obtain ⟨hz1_, hz2_, hz3_, hz4_⟩ := id (show qvP len (erP 4 (sp1 (mxP ip len pq))) from (qv_er (qv_s1 (qv_mx hq)) (by omega)))
        have hM := hM.eq (M2 := mq tb mo (pqF F (rsB ip len w sl S pq)) w av od sv (slN ip sl (sp1 (mxP ip len pq))) nz ip ot M0) (mq_ps (by unfold rsB; rw [if_pos ⟨c_2, c_4⟩]))
        obtain ⟨hz1_, hz2_, hz3_, hz4_⟩ := id (show qvP len (rsB ip len w sl S pq) from (show qvP len (rsB ip len w sl S pq) from by unfold rsB; split; exact qv_er (qv_s1 (qv_mx hq)) (by omega); exact (qv_s1 (qv_mx hq))))
        refine lv_aload_n hx hb dX8_readsStreet_45 rfl (lv_at hl 0 rfl) ?_
        refine me_callVv (As := []) (rest := []) hC hl.1 hM (c_X8_goesOn l D tb X z0 n mo F w av od sv (slN ip sl (sp1 (mxP ip len pq))) nz ip ot M0 len (rsB ip len w sl S pq)  hln hln0 (show qvP len (rsB ip len w sl S pq) from by unfold rsB; split; exact qv_er (qv_s1 (qv_mx hq)) (by omega); exact (qv_s1 (qv_mx hq))) ) (kv_X8_202 hw rfl rfl ⟨Nat.le_of_ble_eq_true rfl, Nat.le_of_ble_eq_true rfl⟩) rfl rfl mq_F rfl (Nat.le_of_ble_eq_true rfl) dX8_readsStreet_46 ⟨Nat.le_of_ble_eq_true rfl, Nat.le_of_ble_eq_true rfl⟩ (fun H locs hM => ?_)
        obtain ⟨hz1_, hz2_, hz3_, hz4_⟩ := id (show qvP len (gnP ip len (rsB ip len w sl S pq)) from (qv_gn (show qvP len (rsB ip len w sl S pq) from by unfold rsB; split; exact qv_er (qv_s1 (qv_mx hq)) (by omega); exact (qv_s1 (qv_mx hq)))))
        refine lv_aload_n hx hb dX8_readsStreet_49 rfl (lv_at hl 0 rfl) ?_
        refine lv_iconst (v := 0) hx hb dX8_readsStreet_50 (by decide) ?_
        refine lv_bipush (v := 99) hx hb dX8_readsStreet_51 (by decide) ?_
        refine me_callVi (As := [.int 0, .int 99]) (rest := []) hC hl.1 hM (c_X8_takesNumber l D tb X z0 n mo F w av od sv (slN ip sl (sp1 (mxP ip len pq))) nz ip ot M0 len (gnP ip len (rsB ip len w sl S pq)) 0 99 hln hln0 (qv_gn (show qvP len (rsB ip len w sl S pq) from by unfold rsB; split; exact qv_er (qv_s1 (qv_mx hq)) (by omega); exact (qv_s1 (qv_mx hq)))) ) (kv_X8_214 hw rfl rfl ⟨Nat.le_of_ble_eq_true rfl, Nat.le_of_ble_eq_true rfl⟩) rfl rfl mq_F rfl (Nat.le_of_ble_eq_true rfl) dX8_readsStreet_53 ⟨Nat.le_of_ble_eq_true rfl, Nat.le_of_ble_eq_true rfl⟩ (fun H locs hM => ?_)
        obtain ⟨hz1_, hz2_, hz3_, hz4_⟩ := id (show qvP len (tnQ ip len 0 99 (gnP ip len (rsB ip len w sl S pq))) from (qv_tn (qv_gn (show qvP len (rsB ip len w sl S pq) from by unfold rsB; split; exact qv_er (qv_s1 (qv_mx hq)) (by omega); exact (qv_s1 (qv_mx hq))))))
        refine lv_istore_n (lv' := [(1, .int (heV 0 99 (gnP ip len (rsB ip len w sl S pq)))), (0, .ref mo)]) hx hb dX8_readsStreet_56 rfl hl (by decide) rfl (fun ls hl => ?_)
        refine lv_aload_n hx hb dX8_readsStreet_57 rfl (lv_at hl 1 rfl) ?_
        refine lv_iconst (v := 0) hx hb dX8_readsStreet_58 (by decide) ?_
        refine lv_bipush (v := 99) hx hb dX8_readsStreet_59 (by decide) ?_
        refine me_callVi (As := [.int 0, .int 99]) (rest := []) hC hl.1 hM (c_X8_takesNumber l D tb X z0 n mo F w av od sv (slN ip sl (sp1 (mxP ip len pq))) nz ip ot M0 len (tnQ ip len 0 99 (gnP ip len (rsB ip len w sl S pq))) 0 99 hln hln0 (qv_tn (qv_gn (show qvP len (rsB ip len w sl S pq) from by unfold rsB; split; exact qv_er (qv_s1 (qv_mx hq)) (by omega); exact (qv_s1 (qv_mx hq))))) ) (kv_X8_214 hw rfl rfl ⟨Nat.le_of_ble_eq_true rfl, Nat.le_of_ble_eq_true rfl⟩) rfl rfl mq_F rfl (Nat.le_of_ble_eq_true rfl) dX8_readsStreet_61 ⟨Nat.le_of_ble_eq_true rfl, Nat.le_of_ble_eq_true rfl⟩ (fun H locs hM => ?_)
        obtain ⟨hz1_, hz2_, hz3_, hz4_⟩ := id (show qvP len (tnQ ip len 0 99 (tnQ ip len 0 99 (gnP ip len (rsB ip len w sl S pq)))) from (qv_tn (qv_tn (qv_gn (show qvP len (rsB ip len w sl S pq) from by unfold rsB; split; exact qv_er (qv_s1 (qv_mx hq)) (by omega); exact (qv_s1 (qv_mx hq)))))))
        refine lv_istore_n (lv' := [(2, .int (heV 0 99 (tnQ ip len 0 99 (gnP ip len (rsB ip len w sl S pq))))), (1, .int (heV 0 99 (gnP ip len (rsB ip len w sl S pq)))), (0, .ref mo)]) hx hb dX8_readsStreet_64 rfl hl (by decide) rfl (fun ls hl => ?_)
        refine lv_aload_n hx hb dX8_readsStreet_65 rfl (lv_at hl 2 rfl) ?_
        refine fg_X8_187 hC hM mq_F rfl dX8_readsStreet_66 ?_
        refine me_evi (y := nI (qFl (tnQ ip len 0 99 (tnQ ip len 0 99 (gnP ip len (rsB ip len w sl S pq)))))) rfl ?_
        refine lv_if_ne (tgt := 78) hx hb dX8_readsStreet_69 (by decide) (fun c_6 => ?_) (fun c_6 => ?_)
        · have c_6 := (not_congr (br_eq rfl (show (0 : Int32) = nI 0 from rfl) (by omega) (by omega))).mp c_6
          exact me_vret hC hr hlk hM (ym_e (by unfold rsY; rw [if_neg c_1, if_neg c_6])) (rfl) dX8_readsStreet_78
        · have c_6 := (br_eq rfl (show (0 : Int32) = nI 0 from rfl) (by omega) (by omega)).mp c_6
          refine lv_aload_n hx hb dX8_readsStreet_72 rfl (lv_at hl 2 rfl) ?_
          refine lv_iload_n hx hb dX8_readsStreet_73 rfl (lv_at hl 1 rfl) ?_
          refine lv_iload_n hx hb dX8_readsStreet_74 rfl (lv_at hl 0 rfl) ?_
          refine me_callVv (As := [.int (heV 0 99 (gnP ip len (rsB ip len w sl S pq))), .int (heV 0 99 (tnQ ip len 0 99 (gnP ip len (rsB ip len w sl S pq))))]) (rest := []) hC hl.1 hM (c_X8_builds l D tb X z0 n mo (pqF F (tnQ ip len 0 99 (tnQ ip len 0 99 (gnP ip len (rsB ip len w sl S pq))))) w av od sv (slN ip sl (sp1 (mxP ip len pq))) nz ip ot M0 S (heV 0 99 (gnP ip len (rsB ip len w sl S pq))) (heV 0 99 (tnQ ip len 0 99 (gnP ip len (rsB ip len w sl S pq)))) hS (by omega)) (kv_X8_46 hw rfl rfl ⟨Nat.le_of_ble_eq_true rfl, Nat.le_of_ble_eq_true rfl⟩) rfl rfl mq_F rfl (Nat.le_of_ble_eq_true rfl) dX8_readsStreet_75 ⟨Nat.le_of_ble_eq_true rfl, Nat.le_of_ble_eq_true rfl⟩ (fun H locs hM => ?_)
          exact me_vret hC hr hlk hM (ym_e (by unfold rsY; rw [if_neg c_1, if_pos c_6])) (rfl) dX8_readsStreet_78
  · have c_1 := (br_eq hS (nx_c 8) (by omega) (by omega)).mp c_1
    refine lv_aload_n hx hb dX8_readsStreet_11 rfl (lv_at hl 0 rfl) ?_
    refine lv_iconst (v := 5) hx hb dX8_readsStreet_12 (by decide) ?_
    refine me_stk (st2 := [.int (nI 5), .ref mo]) (by rw [(nx_c 5)]) ?_
    refine me_callVv (As := [.int (nI 5)]) (rest := []) hC hl.1 hM (c_X8_errs l D tb X z0 n mo F w av od sv sl nz ip ot M0 len pq 5 hln hln0 hq (by omega)) (kv_X8_196 hw rfl rfl ⟨Nat.le_of_ble_eq_true rfl, Nat.le_of_ble_eq_true rfl⟩) rfl rfl mq_F rfl (Nat.le_of_ble_eq_true rfl) dX8_readsStreet_13 ⟨Nat.le_of_ble_eq_true rfl, Nat.le_of_ble_eq_true rfl⟩ (fun H locs hM => ?_)
    obtain ⟨hz1_, hz2_, hz3_, hz4_⟩ := id (show qvP len (erP 5 pq) from (qv_er hq (by omega)))
    exact me_vret hC hr hlk hM (ym_e (by unfold rsY; rw [if_pos c_1])) (rfl) dX8_readsStreet_16
set_option maxHeartbeats 4000000 in
theorem c_X8_readsBorrower (l : Launch) (D : va_G) (tb : Nat → ClassId) (X : State → Prop) (z0 n : Nat) (mo : Nat) (F w av od sv sl nz ip ot : Nat → Int32) (M0 : me_M) (len : Nat) (pq : QS) (S B L P : Nat) (T : Nat)  (hln : F 7 = nI len) (hln0 : len ≤ 700) (hq : qvP len pq) (hO : ok1 S B L P T w) (hT0 : T ≤ 9999) : Met l yX8_readsBorrower (.code yX8_readsBorrower cX8_readsBorrower 7 none :: ws_all) ({ frames := 4, cells := 0, slots := 0, locals := 85 } : Room) (me_Pc [.ref mo] D tb X z0 (mq tb mo (pqF F (pq)) w av od sv sl nz ip ot M0) n) (me_Qv D z0 (ymM tb mo F av od sv ip ot M0 (rbY ip len w sl nz S B L P pq)) n) 0 0 (me_A z0) := by
  refine me_open (by decide) (Nat.le_of_ble_eq_true rfl) ?_
  intro p e s m args below meth c ls hC hr hlk hnm hM hl
  have hl : lv_has ls 7 [(0, .ref mo)] := hl
  have hx := hC.1
  have hb := hC.2.1
  have hw := hC.2.2.2.2.1
  obtain ⟨hq1, hq2, hq3, hq4⟩ := id hq
  obtain ⟨hW, hZ, hT⟩ := id hO
  obtain ⟨hS, hS0, hB, hB0, hL, hL0, hP, hP0, hwb, hwl⟩ := id hW
  refine lv_aload_n hx hb dX8_readsBorrower_0 rfl (lv_at hl 0 rfl) ?_
  refine fg_X8_13 hC hM mq_F rfl dX8_readsBorrower_1 ?_
  refine lv_iconst (v := 4) hx hb dX8_readsBorrower_4 (by decide) ?_
  refine me_iald (k := 4) hC hM mq_w (nx_c 4) (by omega) (by decide) dX8_readsBorrower_5 ?_
  refine lv_bipush (v := 12) hx hb dX8_readsBorrower_6 (by decide) ?_
  refine lv_icmp_ne (tgt := 17) hx hb dX8_readsBorrower_8 (by decide) (fun c_1 => ?_) (fun c_1 => ?_)
  · have c_1 := (not_congr (br_eq hB (nx_c 12) (by omega) (by omega))).mp c_1
    refine lv_aload_n hx hb dX8_readsBorrower_17 rfl (lv_at hl 0 rfl) ?_
    refine me_callVv (As := []) (rest := []) hC hl.1 hM (c_X8_next l D tb X z0 n mo F w av od sv sl nz ip ot M0 len pq  hln hln0 (qv_w hq) ) (kv_X8_193 hw rfl rfl ⟨Nat.le_of_ble_eq_true rfl, Nat.le_of_ble_eq_true rfl⟩) rfl rfl mq_F rfl (Nat.le_of_ble_eq_true rfl) dX8_readsBorrower_18 ⟨Nat.le_of_ble_eq_true rfl, Nat.le_of_ble_eq_true rfl⟩ (fun H locs hM => ?_)
    obtain ⟨hz1_, hz2_, hz3_, hz4_⟩ := id (show qvP len (mxP ip len pq) from (qv_mx hq))
    refine lv_aload_n hx hb dX8_readsBorrower_21 rfl (lv_at hl 0 rfl) ?_
    refine me_callVv (As := []) (rest := []) hC hl.1 hM (c_X8_spellsHere l D tb X z0 n mo F w av od sv sl nz ip ot M0 len (mxP ip len pq)  hln hln0 (qv_mx hq) ) (kv_X8_205 hw rfl rfl ⟨Nat.le_of_ble_eq_true rfl, Nat.le_of_ble_eq_true rfl⟩) rfl rfl mq_F rfl (Nat.le_of_ble_eq_true rfl) dX8_readsBorrower_22 ⟨Nat.le_of_ble_eq_true rfl, Nat.le_of_ble_eq_true rfl⟩ (fun H locs hM => ?_)
    obtain ⟨hz1_, hz2_, hz3_, hz4_⟩ := id (show qvP len (sp1 (mxP ip len pq)) from (qv_s1 (qv_mx hq)))
    refine lv_aload_n hx hb dX8_readsBorrower_25 rfl (lv_at hl 0 rfl) ?_
    refine fg_X8_187 hC hM mq_F rfl dX8_readsBorrower_26 ?_
    refine me_evi (y := nI (qFl (sp1 (mxP ip len pq)))) rfl ?_
    refine lv_if_ne (tgt := 45) hx hb dX8_readsBorrower_29 (by decide) (fun c_2 => ?_) (fun c_2 => ?_)
    · have c_2 := (not_congr (br_eq rfl (show (0 : Int32) = nI 0 from rfl) (by omega) (by omega))).mp c_2
      have hM := hM.eq (M2 := mq tb mo (pqF F (rbB ip len w sl B pq)) w av od sv (slN ip sl (sp1 (mxP ip len pq))) nz ip ot M0) (mq_ps (by unfold rbB; rw [if_neg (fun z => c_2 z.1)]))
      obtain ⟨hz1_, hz2_, hz3_, hz4_⟩ := id (show qvP len (rbB ip len w sl B pq) from (show qvP len (rbB ip len w sl B pq) from by unfold rbB; split; exact qv_er (qv_s1 (qv_mx hq)) (by omega); exact (qv_s1 (qv_mx hq))))
      refine lv_aload_n hx hb dX8_readsBorrower_45 rfl (lv_at hl 0 rfl) ?_
      refine fg_X8_172 hC hM mq_F rfl dX8_readsBorrower_46 ?_
      refine me_evi (y := nI (qFr (rbB ip len w sl B pq))) rfl ?_
      refine lv_istore_n (lv' := [(1, .int (nI (qFr (rbB ip len w sl B pq)))), (0, .ref mo)]) hx hb dX8_readsBorrower_49 rfl hl (by decide) rfl (fun ls hl => ?_)
      refine lv_aload_n hx hb dX8_readsBorrower_50 rfl (lv_at hl 1 rfl) ?_
      refine fg_X8_169 hC hM mq_F rfl dX8_readsBorrower_51 ?_
      refine me_evi (y := nI (qTo (rbB ip len w sl B pq))) rfl ?_
      refine lv_aload_n hx hb dX8_readsBorrower_54 rfl (lv_at hl 1 rfl) ?_
      refine fg_X8_172 hC hM mq_F rfl dX8_readsBorrower_55 ?_
      refine me_evi (y := nI (qFr (rbB ip len w sl B pq))) rfl ?_
      refine lv_isub hx hb dX8_readsBorrower_58 ?_
      refine me_evi (y := nI ((qTo (rbB ip len w sl B pq)) - (qFr (rbB ip len w sl B pq)))) (nx_sub rfl rfl (by omega)) ?_
      refine lv_istore_n (lv' := [(2, .int (nI ((qTo (rbB ip len w sl B pq)) - (qFr (rbB ip len w sl B pq))))), (1, .int (nI (qFr (rbB ip len w sl B pq)))), (0, .ref mo)]) hx hb dX8_readsBorrower_59 rfl hl (by decide) rfl (fun ls hl => ?_)
      refine lv_aload_n hx hb dX8_readsBorrower_60 rfl (lv_at hl 2 rfl) ?_
      refine me_callVv (As := []) (rest := []) hC hl.1 hM (c_X8_goesOn l D tb X z0 n mo F w av od sv (slN ip sl (sp1 (mxP ip len pq))) nz ip ot M0 len (rbB ip len w sl B pq)  hln hln0 (show qvP len (rbB ip len w sl B pq) from by unfold rbB; split; exact qv_er (qv_s1 (qv_mx hq)) (by omega); exact (qv_s1 (qv_mx hq))) ) (kv_X8_202 hw rfl rfl ⟨Nat.le_of_ble_eq_true rfl, Nat.le_of_ble_eq_true rfl⟩) rfl rfl mq_F rfl (Nat.le_of_ble_eq_true rfl) dX8_readsBorrower_61 ⟨Nat.le_of_ble_eq_true rfl, Nat.le_of_ble_eq_true rfl⟩ (fun H locs hM => ?_)
      obtain ⟨hz1_, hz2_, hz3_, hz4_⟩ := id (show qvP len (gnP ip len (rbB ip len w sl B pq)) from (qv_gn (show qvP len (rbB ip len w sl B pq) from by unfold rbB; split; exact qv_er (qv_s1 (qv_mx hq)) (by omega); exact (qv_s1 (qv_mx hq)))))
      refine lv_aload_n hx hb dX8_readsBorrower_64 rfl (lv_at hl 2 rfl) ?_
      refine me_callVi (As := []) (rest := []) hC hl.1 hM (c_X8_takesStreet l D tb X z0 n mo F w av od sv (slN ip sl (sp1 (mxP ip len pq))) nz ip ot M0 len (gnP ip len (rbB ip len w sl B pq)) S hln hln0 (qv_gn (show qvP len (rbB ip len w sl B pq) from by unfold rbB; split; exact qv_er (qv_s1 (qv_mx hq)) (by omega); exact (qv_s1 (qv_mx hq)))) hS hS0) (kv_X8_217 hw rfl rfl ⟨Nat.le_of_ble_eq_true rfl, Nat.le_of_ble_eq_true rfl⟩) rfl rfl mq_F rfl (Nat.le_of_ble_eq_true rfl) dX8_readsBorrower_65 ⟨Nat.le_of_ble_eq_true rfl, Nat.le_of_ble_eq_true rfl⟩ (fun H locs hM => ?_)
      obtain ⟨hz1_, hz2_, hz3_, hz4_⟩ := id (show qvP len (tsQ ip len w (slN ip sl (sp1 (mxP ip len pq))) S (gnP ip len (rbB ip len w sl B pq))) from (qv_ts (qv_gn (show qvP len (rbB ip len w sl B pq) from by unfold rbB; split; exact qv_er (qv_s1 (qv_mx hq)) (by omega); exact (qv_s1 (qv_mx hq))))))
      refine lv_istore_n (lv' := [(3, .int (tsR ip len w (slN ip sl (sp1 (mxP ip len pq))) S (gnP ip len (rbB ip len w sl B pq)))), (2, .int (nI ((qTo (rbB ip len w sl B pq)) - (qFr (rbB ip len w sl B pq))))), (1, .int (nI (qFr (rbB ip len w sl B pq)))), (0, .ref mo)]) hx hb dX8_readsBorrower_68 rfl hl (by decide) rfl (fun ls hl => ?_)
      refine lv_aload_n hx hb dX8_readsBorrower_69 rfl (lv_at hl 3 rfl) ?_
      refine lv_iconst (v := 0) hx hb dX8_readsBorrower_70 (by decide) ?_
      refine lv_bipush (v := 9) hx hb dX8_readsBorrower_71 (by decide) ?_
      refine me_callVi (As := [.int 0, .int 9]) (rest := []) hC hl.1 hM (c_X8_takesNumber l D tb X z0 n mo F w av od sv (slN ip (slN ip sl (sp1 (mxP ip len pq))) (sp1 (gnP ip len (rbB ip len w sl B pq)))) nz ip ot M0 len (tsQ ip len w (slN ip sl (sp1 (mxP ip len pq))) S (gnP ip len (rbB ip len w sl B pq))) 0 9 hln hln0 (qv_ts (qv_gn (show qvP len (rbB ip len w sl B pq) from by unfold rbB; split; exact qv_er (qv_s1 (qv_mx hq)) (by omega); exact (qv_s1 (qv_mx hq))))) ) (kv_X8_214 hw rfl rfl ⟨Nat.le_of_ble_eq_true rfl, Nat.le_of_ble_eq_true rfl⟩) rfl rfl mq_F rfl (Nat.le_of_ble_eq_true rfl) dX8_readsBorrower_73 ⟨Nat.le_of_ble_eq_true rfl, Nat.le_of_ble_eq_true rfl⟩ (fun H locs hM => ?_)
      obtain ⟨hz1_, hz2_, hz3_, hz4_⟩ := id (show qvP len (tnQ ip len 0 9 (tsQ ip len w (slN ip sl (sp1 (mxP ip len pq))) S (gnP ip len (rbB ip len w sl B pq)))) from (qv_tn (qv_ts (qv_gn (show qvP len (rbB ip len w sl B pq) from by unfold rbB; split; exact qv_er (qv_s1 (qv_mx hq)) (by omega); exact (qv_s1 (qv_mx hq)))))))
      refine lv_istore (lv' := [(4, .int (heV 0 9 (tsQ ip len w (slN ip sl (sp1 (mxP ip len pq))) S (gnP ip len (rbB ip len w sl B pq))))), (3, .int (tsR ip len w (slN ip sl (sp1 (mxP ip len pq))) S (gnP ip len (rbB ip len w sl B pq)))), (2, .int (nI ((qTo (rbB ip len w sl B pq)) - (qFr (rbB ip len w sl B pq))))), (1, .int (nI (qFr (rbB ip len w sl B pq)))), (0, .ref mo)]) hx hb dX8_readsBorrower_76 hl (by decide) rfl (fun ls hl => ?_)
      refine lv_aload_n hx hb dX8_readsBorrower_78 rfl (lv_at hl 4 rfl) ?_
      refine lv_iconst (v := 0) hx hb dX8_readsBorrower_79 (by decide) ?_
      refine lv_sipush (v := 999) hx hb dX8_readsBorrower_80 (by decide) ?_
      refine me_callVi (As := [.int 0, .int 999]) (rest := []) hC hl.1 hM (c_X8_takesNumber l D tb X z0 n mo F w av od sv (slN ip (slN ip sl (sp1 (mxP ip len pq))) (sp1 (gnP ip len (rbB ip len w sl B pq)))) nz ip ot M0 len (tnQ ip len 0 9 (tsQ ip len w (slN ip sl (sp1 (mxP ip len pq))) S (gnP ip len (rbB ip len w sl B pq)))) 0 999 hln hln0 (qv_tn (qv_ts (qv_gn (show qvP len (rbB ip len w sl B pq) from by unfold rbB; split; exact qv_er (qv_s1 (qv_mx hq)) (by omega); exact (qv_s1 (qv_mx hq)))))) ) (kv_X8_214 hw rfl rfl ⟨Nat.le_of_ble_eq_true rfl, Nat.le_of_ble_eq_true rfl⟩) rfl rfl mq_F rfl (Nat.le_of_ble_eq_true rfl) dX8_readsBorrower_83 ⟨Nat.le_of_ble_eq_true rfl, Nat.le_of_ble_eq_true rfl⟩ (fun H locs hM => ?_)
      obtain ⟨hz1_, hz2_, hz3_, hz4_⟩ := id (show qvP len (tnQ ip len 0 999 (tnQ ip len 0 9 (tsQ ip len w (slN ip sl (sp1 (mxP ip len pq))) S (gnP ip len (rbB ip len w sl B pq))))) from (qv_tn (qv_tn (qv_ts (qv_gn (show qvP len (rbB ip len w sl B pq) from by unfold rbB; split; exact qv_er (qv_s1 (qv_mx hq)) (by omega); exact (qv_s1 (qv_mx hq))))))))
      refine lv_istore (lv' := [(5, .int (heV 0 999 (tnQ ip len 0 9 (tsQ ip len w (slN ip sl (sp1 (mxP ip len pq))) S (gnP ip len (rbB ip len w sl B pq)))))), (4, .int (heV 0 9 (tsQ ip len w (slN ip sl (sp1 (mxP ip len pq))) S (gnP ip len (rbB ip len w sl B pq))))), (3, .int (tsR ip len w (slN ip sl (sp1 (mxP ip len pq))) S (gnP ip len (rbB ip len w sl B pq)))), (2, .int (nI ((qTo (rbB ip len w sl B pq)) - (qFr (rbB ip len w sl B pq))))), (1, .int (nI (qFr (rbB ip len w sl B pq)))), (0, .ref mo)]) hx hb dX8_readsBorrower_86 hl (by decide) rfl (fun ls hl => ?_)
      refine lv_aload_n hx hb dX8_readsBorrower_88 rfl (lv_at hl 5 rfl) ?_
      refine fg_X8_187 hC hM mq_F rfl dX8_readsBorrower_89 ?_
      refine me_evi (y := nI (qFl (tnQ ip len 0 999 (tnQ ip len 0 9 (tsQ ip len w (slN ip sl (sp1 (mxP ip len pq))) S (gnP ip len (rbB ip len w sl B pq))))))) rfl ?_
      refine lv_if_ne (tgt := 146) hx hb dX8_readsBorrower_92 (by decide) (fun c_3 => ?_) (fun c_3 => ?_)
      · have c_3 := (not_congr (br_eq rfl (show (0 : Int32) = nI 0 from rfl) (by omega) (by omega))).mp c_3
        exact me_vret hC hr hlk hM (ym_e (by unfold rbY; rw [if_neg c_1, if_neg c_3])) (rfl) dX8_readsBorrower_146
      · have c_3 := (br_eq rfl (show (0 : Int32) = nI 0 from rfl) (by omega) (by omega)).mp c_3
        refine lv_iconst (v := 0) hx hb dX8_readsBorrower_95 (by decide) ?_
        refine lv_istore (lv' := [(6, .int 0), (5, .int (heV 0 999 (tnQ ip len 0 9 (tsQ ip len w (slN ip sl (sp1 (mxP ip len pq))) S (gnP ip len (rbB ip len w sl B pq)))))), (4, .int (heV 0 9 (tsQ ip len w (slN ip sl (sp1 (mxP ip len pq))) S (gnP ip len (rbB ip len w sl B pq))))), (3, .int (tsR ip len w (slN ip sl (sp1 (mxP ip len pq))) S (gnP ip len (rbB ip len w sl B pq)))), (2, .int (nI ((qTo (rbB ip len w sl B pq)) - (qFr (rbB ip len w sl B pq))))), (1, .int (nI (qFr (rbB ip len w sl B pq)))), (0, .ref mo)]) hx hb dX8_readsBorrower_96 hl (by decide) rfl (fun ls hl => ?_)
        have lp_98 : ∀ (r : Nat) (k : Nat) (H : Heap) (locs : List Loc) (ls : Array Slot), (k + r = 6) → me_at D z0 (mq tb mo (pqF F (tnQ ip len 0 999 (tnQ ip len 0 9 (tsQ ip len w (slN ip sl (sp1 (mxP ip len pq))) S (gnP ip len (rbB ip len w sl B pq)))))) w av od sv (cq (slN ip (slN ip sl (sp1 (mxP ip len pq))) (sp1 (gnP ip len (rbB ip len w sl B pq)))) (slF ip (rbB ip len w sl B pq)) 0 k) nz ip ot M0) n s H locs → lv_has ls 7 [(0, .ref mo), (1, .int (nI (qFr (rbB ip len w sl B pq)))), (2, .int (nI ((qTo (rbB ip len w sl B pq)) - (qFr (rbB ip len w sl B pq))))), (3, .int (tsR ip len w (slN ip sl (sp1 (mxP ip len pq))) S (gnP ip len (rbB ip len w sl B pq)))), (4, .int (heV 0 9 (tsQ ip len w (slN ip sl (sp1 (mxP ip len pq))) S (gnP ip len (rbB ip len w sl B pq))))), (5, .int (heV 0 999 (tnQ ip len 0 9 (tsQ ip len w (slN ip sl (sp1 (mxP ip len pq))) S (gnP ip len (rbB ip len w sl B pq)))))), (6, .int (nI k))] → W p l e (({ frames := 4, cells := 0, slots := 0, locals := 85 } : Room)) s m args below meth c H locs 0 0 (MQ below (me_Qv D z0 (ymM tb mo F av od sv ip ot M0 (rbY ip len w sl nz S B L P pq)) n) args s 0 0 (me_A z0)) (F0 m 98 ls []) := by
          intro r
          refine Nat.strongRecOn r ?_
          intro r ih_98 k H locs ls hk hM hl
          refine lv_iload hx hb dX8_readsBorrower_98 (lv_at hl 6 rfl) ?_
          refine lv_bipush (v := 6) hx hb dX8_readsBorrower_100 (by decide) ?_
          refine lv_icmp_ge (tgt := 137) hx hb dX8_readsBorrower_102 (by decide) (fun c_4 => ?_) (fun c_4 => ?_)
          · have c_4 := (br_le (nx_c 6) rfl (by omega) (by omega)).mp c_4
            have hM := hM.eq (M2 := mq tb mo (pqF F (tnQ ip len 0 999 (tnQ ip len 0 9 (tsQ ip len w (slN ip sl (sp1 (mxP ip len pq))) S (gnP ip len (rbB ip len w sl B pq)))))) w av od sv (rbU ip len w sl B pq) nz ip ot M0) (by rw [show k = 6 by omega])
            refine lv_aload_n hx hb dX8_readsBorrower_137 rfl (lv_at hl 0 rfl) ?_
            refine lv_iload_n hx hb dX8_readsBorrower_138 rfl (lv_at hl 3 rfl) ?_
            refine lv_iload hx hb dX8_readsBorrower_139 (lv_at hl 4 rfl) ?_
            refine lv_iload hx hb dX8_readsBorrower_141 (lv_at hl 5 rfl) ?_
            refine me_callVv (As := [.int (tsR ip len w (slN ip sl (sp1 (mxP ip len pq))) S (gnP ip len (rbB ip len w sl B pq))), .int (heV 0 9 (tsQ ip len w (slN ip sl (sp1 (mxP ip len pq))) S (gnP ip len (rbB ip len w sl B pq)))), .int (heV 0 999 (tnQ ip len 0 9 (tsQ ip len w (slN ip sl (sp1 (mxP ip len pq))) S (gnP ip len (rbB ip len w sl B pq)))))]) (rest := []) hC hl.1 hM (c_X8_comes l D tb X z0 n mo (pqF F (tnQ ip len 0 999 (tnQ ip len 0 9 (tsQ ip len w (slN ip sl (sp1 (mxP ip len pq))) S (gnP ip len (rbB ip len w sl B pq)))))) w av od sv (rbU ip len w sl B pq) nz ip ot M0 B (tsR ip len w (slN ip sl (sp1 (mxP ip len pq))) S (gnP ip len (rbB ip len w sl B pq))) (heV 0 9 (tsQ ip len w (slN ip sl (sp1 (mxP ip len pq))) S (gnP ip len (rbB ip len w sl B pq)))) (heV 0 999 (tnQ ip len 0 9 (tsQ ip len w (slN ip sl (sp1 (mxP ip len pq))) S (gnP ip len (rbB ip len w sl B pq))))) hB (by omega)) (kv_X8_50 hw rfl rfl ⟨Nat.le_of_ble_eq_true rfl, Nat.le_of_ble_eq_true rfl⟩) rfl rfl mq_F rfl (Nat.le_of_ble_eq_true rfl) dX8_readsBorrower_143 ⟨Nat.le_of_ble_eq_true rfl, Nat.le_of_ble_eq_true rfl⟩ (fun H locs hM => ?_)
            exact me_vret hC hr hlk hM (ym_e (by unfold rbY; rw [if_neg c_1, if_pos c_3])) (rfl) dX8_readsBorrower_146
          · have c_4 := (not_congr (br_le (nx_c 6) rfl (by omega) (by omega))).mp c_4
            obtain ⟨r1, rfl⟩ : ∃ r1, r = r1 + 1 := ⟨r - 1, by omega⟩
            refine lv_aload_n hx hb dX8_readsBorrower_105 rfl (lv_at hl 0 rfl) ?_
            refine fg_X8_25 hC hM mq_F rfl dX8_readsBorrower_106 ?_
            refine lv_iload hx hb dX8_readsBorrower_109 (lv_at hl 6 rfl) ?_
            refine lv_iload hx hb dX8_readsBorrower_111 (lv_at hl 6 rfl) ?_
            refine lv_iload_n hx hb dX8_readsBorrower_113 rfl (lv_at hl 2 rfl) ?_
            refine lv_icmp_ge (tgt := 129) hx hb dX8_readsBorrower_114 (by decide) (fun c_5 => ?_) (fun c_5 => ?_)
            · have c_5 := (br_le rfl rfl (by omega) (by omega)).mp c_5
              refine lv_iconst (v := 0) hx hb dX8_readsBorrower_129 (by decide) ?_
              refine me_iast (k := k) (M2 := mq tb mo (pqF F (tnQ ip len 0 999 (tnQ ip len 0 9 (tsQ ip len w (slN ip sl (sp1 (mxP ip len pq))) S (gnP ip len (rbB ip len w sl B pq)))))) w av od sv (upd (cq (slN ip (slN ip sl (sp1 (mxP ip len pq))) (sp1 (gnP ip len (rbB ip len w sl B pq)))) (slF ip (rbB ip len w sl B pq)) 0 k) (k) 0) nz ip ot M0) hC hM mq_sl rfl (by omega) (by decide) mq_w_sl dX8_readsBorrower_130 (fun H locs hM => ?_)
              refine lv_iinc (v := nI (k + 1)) (lv' := [(6, .int (nI (k + 1))), (0, .ref mo), (1, .int (nI (qFr (rbB ip len w sl B pq)))), (2, .int (nI ((qTo (rbB ip len w sl B pq)) - (qFr (rbB ip len w sl B pq))))), (3, .int (tsR ip len w (slN ip sl (sp1 (mxP ip len pq))) S (gnP ip len (rbB ip len w sl B pq)))), (4, .int (heV 0 9 (tsQ ip len w (slN ip sl (sp1 (mxP ip len pq))) S (gnP ip len (rbB ip len w sl B pq))))), (5, .int (heV 0 999 (tnQ ip len 0 9 (tsQ ip len w (slN ip sl (sp1 (mxP ip len pq))) S (gnP ip len (rbB ip len w sl B pq))))))]) hx hb dX8_readsBorrower_131 hl (k := 6) rfl (nx_add rfl rfl) (by decide) rfl (fun ls hl => ?_)
              refine lv_goto (tgt := 98) hx hb dX8_readsBorrower_134 (by decide) ?_
              exact ih_98 r1 (by omega) (k + 1) _ _ _ (by omega) (hM.eq (by rw [← cq_s0]; unfold slF; rw [if_neg (by omega)])) (lv_sub hl [1, 2, 3, 4, 5, 6, 0] rfl)
            · have c_5 := (not_congr (br_le rfl rfl (by omega) (by omega))).mp c_5
              refine lv_aload_n hx hb dX8_readsBorrower_117 rfl (lv_at hl 0 rfl) ?_
              refine fg_X8_31 hC hM mq_F rfl dX8_readsBorrower_118 ?_
              refine lv_iload_n hx hb dX8_readsBorrower_121 rfl (lv_at hl 1 rfl) ?_
              refine lv_iload hx hb dX8_readsBorrower_122 (lv_at hl 6 rfl) ?_
              refine lv_iadd hx hb dX8_readsBorrower_124 ?_
              refine me_bald (k := qFr (rbB ip len w sl B pq) + k) hC hM mq_ip (nx_add rfl rfl) (by omega) (by first | decide | omega) dX8_readsBorrower_125 ?_
              refine lv_goto (tgt := 130) hx hb dX8_readsBorrower_126 (by decide) ?_
              refine me_iast (k := k) (M2 := mq tb mo (pqF F (tnQ ip len 0 999 (tnQ ip len 0 9 (tsQ ip len w (slN ip sl (sp1 (mxP ip len pq))) S (gnP ip len (rbB ip len w sl B pq)))))) w av od sv (upd (cq (slN ip (slN ip sl (sp1 (mxP ip len pq))) (sp1 (gnP ip len (rbB ip len w sl B pq)))) (slF ip (rbB ip len w sl B pq)) 0 k) (k) (ip (qFr (rbB ip len w sl B pq) + k))) nz ip ot M0) hC hM mq_sl rfl (by omega) (by decide) mq_w_sl dX8_readsBorrower_130 (fun H locs hM => ?_)
              refine lv_iinc (v := nI (k + 1)) (lv' := [(6, .int (nI (k + 1))), (0, .ref mo), (1, .int (nI (qFr (rbB ip len w sl B pq)))), (2, .int (nI ((qTo (rbB ip len w sl B pq)) - (qFr (rbB ip len w sl B pq))))), (3, .int (tsR ip len w (slN ip sl (sp1 (mxP ip len pq))) S (gnP ip len (rbB ip len w sl B pq)))), (4, .int (heV 0 9 (tsQ ip len w (slN ip sl (sp1 (mxP ip len pq))) S (gnP ip len (rbB ip len w sl B pq))))), (5, .int (heV 0 999 (tnQ ip len 0 9 (tsQ ip len w (slN ip sl (sp1 (mxP ip len pq))) S (gnP ip len (rbB ip len w sl B pq))))))]) hx hb dX8_readsBorrower_131 hl (k := 6) rfl (nx_add rfl rfl) (by decide) rfl (fun ls hl => ?_)
              refine lv_goto (tgt := 98) hx hb dX8_readsBorrower_134 (by decide) ?_
              exact ih_98 r1 (by omega) (k + 1) _ _ _ (by omega) (hM.eq (by rw [← cq_s0]; unfold slF; rw [if_pos (by omega)])) (lv_sub hl [1, 2, 3, 4, 5, 6, 0] rfl)
        exact lp_98 6 0 _ _ _ (by omega) (hM.eq (by rw [cq_0])) (lv_sub hl [6, 5, 4, 3, 2, 1, 0] rfl)
    · have c_2 := (br_eq rfl (show (0 : Int32) = nI 0 from rfl) (by omega) (by omega)).mp c_2
      refine lv_aload_n hx hb dX8_readsBorrower_32 rfl (lv_at hl 0 rfl) ?_
      refine me_callVi (As := []) (rest := []) hC hl.1 hM (c_X8_borrowerSpelled l D tb X z0 n mo (pqF F (sp1 (mxP ip len pq))) w av od sv (slN ip sl (sp1 (mxP ip len pq))) nz ip ot M0 B hB hB0) (kv_X8_211 hw rfl rfl ⟨Nat.le_of_ble_eq_true rfl, Nat.le_of_ble_eq_true rfl⟩) rfl rfl mq_F rfl (Nat.le_of_ble_eq_true rfl) dX8_readsBorrower_33 ⟨Nat.le_of_ble_eq_true rfl, Nat.le_of_ble_eq_true rfl⟩ (fun H locs hM => ?_)
      refine lv_iconst (v := (-1)) hx hb dX8_readsBorrower_36 (by decide) ?_
      refine lv_icmp_eq (tgt := 45) hx hb dX8_readsBorrower_37 (by decide) (fun c_6 => ?_) (fun c_6 => ?_)
      · have hM := hM.eq (M2 := mq tb mo (pqF F (rbB ip len w sl B pq)) w av od sv (slN ip sl (sp1 (mxP ip len pq))) nz ip ot M0) (mq_ps (by unfold rbB; rw [if_neg (fun z => z.2 c_6)]))
        obtain ⟨hz1_, hz2_, hz3_, hz4_⟩ := id (show qvP len (rbB ip len w sl B pq) from (show qvP len (rbB ip len w sl B pq) from by unfold rbB; split; exact qv_er (qv_s1 (qv_mx hq)) (by omega); exact (qv_s1 (qv_mx hq))))
        refine lv_aload_n hx hb dX8_readsBorrower_45 rfl (lv_at hl 0 rfl) ?_
        refine fg_X8_172 hC hM mq_F rfl dX8_readsBorrower_46 ?_
        refine me_evi (y := nI (qFr (rbB ip len w sl B pq))) rfl ?_
        refine lv_istore_n (lv' := [(1, .int (nI (qFr (rbB ip len w sl B pq)))), (0, .ref mo)]) hx hb dX8_readsBorrower_49 rfl hl (by decide) rfl (fun ls hl => ?_)
        refine lv_aload_n hx hb dX8_readsBorrower_50 rfl (lv_at hl 1 rfl) ?_
        refine fg_X8_169 hC hM mq_F rfl dX8_readsBorrower_51 ?_
        refine me_evi (y := nI (qTo (rbB ip len w sl B pq))) rfl ?_
        refine lv_aload_n hx hb dX8_readsBorrower_54 rfl (lv_at hl 1 rfl) ?_
        refine fg_X8_172 hC hM mq_F rfl dX8_readsBorrower_55 ?_
        refine me_evi (y := nI (qFr (rbB ip len w sl B pq))) rfl ?_
        refine lv_isub hx hb dX8_readsBorrower_58 ?_
        refine me_evi (y := nI ((qTo (rbB ip len w sl B pq)) - (qFr (rbB ip len w sl B pq)))) (nx_sub rfl rfl (by omega)) ?_
        refine lv_istore_n (lv' := [(2, .int (nI ((qTo (rbB ip len w sl B pq)) - (qFr (rbB ip len w sl B pq))))), (1, .int (nI (qFr (rbB ip len w sl B pq)))), (0, .ref mo)]) hx hb dX8_readsBorrower_59 rfl hl (by decide) rfl (fun ls hl => ?_)
        refine lv_aload_n hx hb dX8_readsBorrower_60 rfl (lv_at hl 2 rfl) ?_
        refine me_callVv (As := []) (rest := []) hC hl.1 hM (c_X8_goesOn l D tb X z0 n mo F w av od sv (slN ip sl (sp1 (mxP ip len pq))) nz ip ot M0 len (rbB ip len w sl B pq)  hln hln0 (show qvP len (rbB ip len w sl B pq) from by unfold rbB; split; exact qv_er (qv_s1 (qv_mx hq)) (by omega); exact (qv_s1 (qv_mx hq))) ) (kv_X8_202 hw rfl rfl ⟨Nat.le_of_ble_eq_true rfl, Nat.le_of_ble_eq_true rfl⟩) rfl rfl mq_F rfl (Nat.le_of_ble_eq_true rfl) dX8_readsBorrower_61 ⟨Nat.le_of_ble_eq_true rfl, Nat.le_of_ble_eq_true rfl⟩ (fun H locs hM => ?_)
        obtain ⟨hz1_, hz2_, hz3_, hz4_⟩ := id (show qvP len (gnP ip len (rbB ip len w sl B pq)) from (qv_gn (show qvP len (rbB ip len w sl B pq) from by unfold rbB; split; exact qv_er (qv_s1 (qv_mx hq)) (by omega); exact (qv_s1 (qv_mx hq)))))
        refine lv_aload_n hx hb dX8_readsBorrower_64 rfl (lv_at hl 2 rfl) ?_
        refine me_callVi (As := []) (rest := []) hC hl.1 hM (c_X8_takesStreet l D tb X z0 n mo F w av od sv (slN ip sl (sp1 (mxP ip len pq))) nz ip ot M0 len (gnP ip len (rbB ip len w sl B pq)) S hln hln0 (qv_gn (show qvP len (rbB ip len w sl B pq) from by unfold rbB; split; exact qv_er (qv_s1 (qv_mx hq)) (by omega); exact (qv_s1 (qv_mx hq)))) hS hS0) (kv_X8_217 hw rfl rfl ⟨Nat.le_of_ble_eq_true rfl, Nat.le_of_ble_eq_true rfl⟩) rfl rfl mq_F rfl (Nat.le_of_ble_eq_true rfl) dX8_readsBorrower_65 ⟨Nat.le_of_ble_eq_true rfl, Nat.le_of_ble_eq_true rfl⟩ (fun H locs hM => ?_)
        obtain ⟨hz1_, hz2_, hz3_, hz4_⟩ := id (show qvP len (tsQ ip len w (slN ip sl (sp1 (mxP ip len pq))) S (gnP ip len (rbB ip len w sl B pq))) from (qv_ts (qv_gn (show qvP len (rbB ip len w sl B pq) from by unfold rbB; split; exact qv_er (qv_s1 (qv_mx hq)) (by omega); exact (qv_s1 (qv_mx hq))))))
        refine lv_istore_n (lv' := [(3, .int (tsR ip len w (slN ip sl (sp1 (mxP ip len pq))) S (gnP ip len (rbB ip len w sl B pq)))), (2, .int (nI ((qTo (rbB ip len w sl B pq)) - (qFr (rbB ip len w sl B pq))))), (1, .int (nI (qFr (rbB ip len w sl B pq)))), (0, .ref mo)]) hx hb dX8_readsBorrower_68 rfl hl (by decide) rfl (fun ls hl => ?_)
        refine lv_aload_n hx hb dX8_readsBorrower_69 rfl (lv_at hl 3 rfl) ?_
        refine lv_iconst (v := 0) hx hb dX8_readsBorrower_70 (by decide) ?_
        refine lv_bipush (v := 9) hx hb dX8_readsBorrower_71 (by decide) ?_
        refine me_callVi (As := [.int 0, .int 9]) (rest := []) hC hl.1 hM (c_X8_takesNumber l D tb X z0 n mo F w av od sv (slN ip (slN ip sl (sp1 (mxP ip len pq))) (sp1 (gnP ip len (rbB ip len w sl B pq)))) nz ip ot M0 len (tsQ ip len w (slN ip sl (sp1 (mxP ip len pq))) S (gnP ip len (rbB ip len w sl B pq))) 0 9 hln hln0 (qv_ts (qv_gn (show qvP len (rbB ip len w sl B pq) from by unfold rbB; split; exact qv_er (qv_s1 (qv_mx hq)) (by omega); exact (qv_s1 (qv_mx hq))))) ) (kv_X8_214 hw rfl rfl ⟨Nat.le_of_ble_eq_true rfl, Nat.le_of_ble_eq_true rfl⟩) rfl rfl mq_F rfl (Nat.le_of_ble_eq_true rfl) dX8_readsBorrower_73 ⟨Nat.le_of_ble_eq_true rfl, Nat.le_of_ble_eq_true rfl⟩ (fun H locs hM => ?_)
        obtain ⟨hz1_, hz2_, hz3_, hz4_⟩ := id (show qvP len (tnQ ip len 0 9 (tsQ ip len w (slN ip sl (sp1 (mxP ip len pq))) S (gnP ip len (rbB ip len w sl B pq)))) from (qv_tn (qv_ts (qv_gn (show qvP len (rbB ip len w sl B pq) from by unfold rbB; split; exact qv_er (qv_s1 (qv_mx hq)) (by omega); exact (qv_s1 (qv_mx hq)))))))
        refine lv_istore (lv' := [(4, .int (heV 0 9 (tsQ ip len w (slN ip sl (sp1 (mxP ip len pq))) S (gnP ip len (rbB ip len w sl B pq))))), (3, .int (tsR ip len w (slN ip sl (sp1 (mxP ip len pq))) S (gnP ip len (rbB ip len w sl B pq)))), (2, .int (nI ((qTo (rbB ip len w sl B pq)) - (qFr (rbB ip len w sl B pq))))), (1, .int (nI (qFr (rbB ip len w sl B pq)))), (0, .ref mo)]) hx hb dX8_readsBorrower_76 hl (by decide) rfl (fun ls hl => ?_)
        refine lv_aload_n hx hb dX8_readsBorrower_78 rfl (lv_at hl 4 rfl) ?_
        refine lv_iconst (v := 0) hx hb dX8_readsBorrower_79 (by decide) ?_
        refine lv_sipush (v := 999) hx hb dX8_readsBorrower_80 (by decide) ?_
        refine me_callVi (As := [.int 0, .int 999]) (rest := []) hC hl.1 hM (c_X8_takesNumber l D tb X z0 n mo F w av od sv (slN ip (slN ip sl (sp1 (mxP ip len pq))) (sp1 (gnP ip len (rbB ip len w sl B pq)))) nz ip ot M0 len (tnQ ip len 0 9 (tsQ ip len w (slN ip sl (sp1 (mxP ip len pq))) S (gnP ip len (rbB ip len w sl B pq)))) 0 999 hln hln0 (qv_tn (qv_ts (qv_gn (show qvP len (rbB ip len w sl B pq) from by unfold rbB; split; exact qv_er (qv_s1 (qv_mx hq)) (by omega); exact (qv_s1 (qv_mx hq)))))) ) (kv_X8_214 hw rfl rfl ⟨Nat.le_of_ble_eq_true rfl, Nat.le_of_ble_eq_true rfl⟩) rfl rfl mq_F rfl (Nat.le_of_ble_eq_true rfl) dX8_readsBorrower_83 ⟨Nat.le_of_ble_eq_true rfl, Nat.le_of_ble_eq_true rfl⟩ (fun H locs hM => ?_)
        obtain ⟨hz1_, hz2_, hz3_, hz4_⟩ := id (show qvP len (tnQ ip len 0 999 (tnQ ip len 0 9 (tsQ ip len w (slN ip sl (sp1 (mxP ip len pq))) S (gnP ip len (rbB ip len w sl B pq))))) from (qv_tn (qv_tn (qv_ts (qv_gn (show qvP len (rbB ip len w sl B pq) from by unfold rbB; split; exact qv_er (qv_s1 (qv_mx hq)) (by omega); exact (qv_s1 (qv_mx hq))))))))
        refine lv_istore (lv' := [(5, .int (heV 0 999 (tnQ ip len 0 9 (tsQ ip len w (slN ip sl (sp1 (mxP ip len pq))) S (gnP ip len (rbB ip len w sl B pq)))))), (4, .int (heV 0 9 (tsQ ip len w (slN ip sl (sp1 (mxP ip len pq))) S (gnP ip len (rbB ip len w sl B pq))))), (3, .int (tsR ip len w (slN ip sl (sp1 (mxP ip len pq))) S (gnP ip len (rbB ip len w sl B pq)))), (2, .int (nI ((qTo (rbB ip len w sl B pq)) - (qFr (rbB ip len w sl B pq))))), (1, .int (nI (qFr (rbB ip len w sl B pq)))), (0, .ref mo)]) hx hb dX8_readsBorrower_86 hl (by decide) rfl (fun ls hl => ?_)
        refine lv_aload_n hx hb dX8_readsBorrower_88 rfl (lv_at hl 5 rfl) ?_
        refine fg_X8_187 hC hM mq_F rfl dX8_readsBorrower_89 ?_
        refine me_evi (y := nI (qFl (tnQ ip len 0 999 (tnQ ip len 0 9 (tsQ ip len w (slN ip sl (sp1 (mxP ip len pq))) S (gnP ip len (rbB ip len w sl B pq))))))) rfl ?_
        refine lv_if_ne (tgt := 146) hx hb dX8_readsBorrower_92 (by decide) (fun c_7 => ?_) (fun c_7 => ?_)
        · have c_7 := (not_congr (br_eq rfl (show (0 : Int32) = nI 0 from rfl) (by omega) (by omega))).mp c_7
          exact me_vret hC hr hlk hM (ym_e (by unfold rbY; rw [if_neg c_1, if_neg c_7])) (rfl) dX8_readsBorrower_146
        · have c_7 := (br_eq rfl (show (0 : Int32) = nI 0 from rfl) (by omega) (by omega)).mp c_7
          refine lv_iconst (v := 0) hx hb dX8_readsBorrower_95 (by decide) ?_
          refine lv_istore (lv' := [(6, .int 0), (5, .int (heV 0 999 (tnQ ip len 0 9 (tsQ ip len w (slN ip sl (sp1 (mxP ip len pq))) S (gnP ip len (rbB ip len w sl B pq)))))), (4, .int (heV 0 9 (tsQ ip len w (slN ip sl (sp1 (mxP ip len pq))) S (gnP ip len (rbB ip len w sl B pq))))), (3, .int (tsR ip len w (slN ip sl (sp1 (mxP ip len pq))) S (gnP ip len (rbB ip len w sl B pq)))), (2, .int (nI ((qTo (rbB ip len w sl B pq)) - (qFr (rbB ip len w sl B pq))))), (1, .int (nI (qFr (rbB ip len w sl B pq)))), (0, .ref mo)]) hx hb dX8_readsBorrower_96 hl (by decide) rfl (fun ls hl => ?_)
          have lp_98 : ∀ (r : Nat) (k : Nat) (H : Heap) (locs : List Loc) (ls : Array Slot), (k + r = 6) → me_at D z0 (mq tb mo (pqF F (tnQ ip len 0 999 (tnQ ip len 0 9 (tsQ ip len w (slN ip sl (sp1 (mxP ip len pq))) S (gnP ip len (rbB ip len w sl B pq)))))) w av od sv (cq (slN ip (slN ip sl (sp1 (mxP ip len pq))) (sp1 (gnP ip len (rbB ip len w sl B pq)))) (slF ip (rbB ip len w sl B pq)) 0 k) nz ip ot M0) n s H locs → lv_has ls 7 [(0, .ref mo), (1, .int (nI (qFr (rbB ip len w sl B pq)))), (2, .int (nI ((qTo (rbB ip len w sl B pq)) - (qFr (rbB ip len w sl B pq))))), (3, .int (tsR ip len w (slN ip sl (sp1 (mxP ip len pq))) S (gnP ip len (rbB ip len w sl B pq)))), (4, .int (heV 0 9 (tsQ ip len w (slN ip sl (sp1 (mxP ip len pq))) S (gnP ip len (rbB ip len w sl B pq))))), (5, .int (heV 0 999 (tnQ ip len 0 9 (tsQ ip len w (slN ip sl (sp1 (mxP ip len pq))) S (gnP ip len (rbB ip len w sl B pq)))))), (6, .int (nI k))] → W p l e (({ frames := 4, cells := 0, slots := 0, locals := 85 } : Room)) s m args below meth c H locs 0 0 (MQ below (me_Qv D z0 (ymM tb mo F av od sv ip ot M0 (rbY ip len w sl nz S B L P pq)) n) args s 0 0 (me_A z0)) (F0 m 98 ls []) := by
            intro r
            refine Nat.strongRecOn r ?_
            intro r ih_98 k H locs ls hk hM hl
            refine lv_iload hx hb dX8_readsBorrower_98 (lv_at hl 6 rfl) ?_
            refine lv_bipush (v := 6) hx hb dX8_readsBorrower_100 (by decide) ?_
            refine lv_icmp_ge (tgt := 137) hx hb dX8_readsBorrower_102 (by decide) (fun c_8 => ?_) (fun c_8 => ?_)
            · have c_8 := (br_le (nx_c 6) rfl (by omega) (by omega)).mp c_8
              have hM := hM.eq (M2 := mq tb mo (pqF F (tnQ ip len 0 999 (tnQ ip len 0 9 (tsQ ip len w (slN ip sl (sp1 (mxP ip len pq))) S (gnP ip len (rbB ip len w sl B pq)))))) w av od sv (rbU ip len w sl B pq) nz ip ot M0) (by rw [show k = 6 by omega])
              refine lv_aload_n hx hb dX8_readsBorrower_137 rfl (lv_at hl 0 rfl) ?_
              refine lv_iload_n hx hb dX8_readsBorrower_138 rfl (lv_at hl 3 rfl) ?_
              refine lv_iload hx hb dX8_readsBorrower_139 (lv_at hl 4 rfl) ?_
              refine lv_iload hx hb dX8_readsBorrower_141 (lv_at hl 5 rfl) ?_
              refine me_callVv (As := [.int (tsR ip len w (slN ip sl (sp1 (mxP ip len pq))) S (gnP ip len (rbB ip len w sl B pq))), .int (heV 0 9 (tsQ ip len w (slN ip sl (sp1 (mxP ip len pq))) S (gnP ip len (rbB ip len w sl B pq)))), .int (heV 0 999 (tnQ ip len 0 9 (tsQ ip len w (slN ip sl (sp1 (mxP ip len pq))) S (gnP ip len (rbB ip len w sl B pq)))))]) (rest := []) hC hl.1 hM (c_X8_comes l D tb X z0 n mo (pqF F (tnQ ip len 0 999 (tnQ ip len 0 9 (tsQ ip len w (slN ip sl (sp1 (mxP ip len pq))) S (gnP ip len (rbB ip len w sl B pq)))))) w av od sv (rbU ip len w sl B pq) nz ip ot M0 B (tsR ip len w (slN ip sl (sp1 (mxP ip len pq))) S (gnP ip len (rbB ip len w sl B pq))) (heV 0 9 (tsQ ip len w (slN ip sl (sp1 (mxP ip len pq))) S (gnP ip len (rbB ip len w sl B pq)))) (heV 0 999 (tnQ ip len 0 9 (tsQ ip len w (slN ip sl (sp1 (mxP ip len pq))) S (gnP ip len (rbB ip len w sl B pq))))) hB (by omega)) (kv_X8_50 hw rfl rfl ⟨Nat.le_of_ble_eq_true rfl, Nat.le_of_ble_eq_true rfl⟩) rfl rfl mq_F rfl (Nat.le_of_ble_eq_true rfl) dX8_readsBorrower_143 ⟨Nat.le_of_ble_eq_true rfl, Nat.le_of_ble_eq_true rfl⟩ (fun H locs hM => ?_)
              exact me_vret hC hr hlk hM (ym_e (by unfold rbY; rw [if_neg c_1, if_pos c_7])) (rfl) dX8_readsBorrower_146
            · have c_8 := (not_congr (br_le (nx_c 6) rfl (by omega) (by omega))).mp c_8
              obtain ⟨r1, rfl⟩ : ∃ r1, r = r1 + 1 := ⟨r - 1, by omega⟩
              refine lv_aload_n hx hb dX8_readsBorrower_105 rfl (lv_at hl 0 rfl) ?_
              refine fg_X8_25 hC hM mq_F rfl dX8_readsBorrower_106 ?_
              refine lv_iload hx hb dX8_readsBorrower_109 (lv_at hl 6 rfl) ?_
              refine lv_iload hx hb dX8_readsBorrower_111 (lv_at hl 6 rfl) ?_
              refine lv_iload_n hx hb dX8_readsBorrower_113 rfl (lv_at hl 2 rfl) ?_
              refine lv_icmp_ge (tgt := 129) hx hb dX8_readsBorrower_114 (by decide) (fun c_9 => ?_) (fun c_9 => ?_)
              · have c_9 := (br_le rfl rfl (by omega) (by omega)).mp c_9
                refine lv_iconst (v := 0) hx hb dX8_readsBorrower_129 (by decide) ?_
                refine me_iast (k := k) (M2 := mq tb mo (pqF F (tnQ ip len 0 999 (tnQ ip len 0 9 (tsQ ip len w (slN ip sl (sp1 (mxP ip len pq))) S (gnP ip len (rbB ip len w sl B pq)))))) w av od sv (upd (cq (slN ip (slN ip sl (sp1 (mxP ip len pq))) (sp1 (gnP ip len (rbB ip len w sl B pq)))) (slF ip (rbB ip len w sl B pq)) 0 k) (k) 0) nz ip ot M0) hC hM mq_sl rfl (by omega) (by decide) mq_w_sl dX8_readsBorrower_130 (fun H locs hM => ?_)
                refine lv_iinc (v := nI (k + 1)) (lv' := [(6, .int (nI (k + 1))), (0, .ref mo), (1, .int (nI (qFr (rbB ip len w sl B pq)))), (2, .int (nI ((qTo (rbB ip len w sl B pq)) - (qFr (rbB ip len w sl B pq))))), (3, .int (tsR ip len w (slN ip sl (sp1 (mxP ip len pq))) S (gnP ip len (rbB ip len w sl B pq)))), (4, .int (heV 0 9 (tsQ ip len w (slN ip sl (sp1 (mxP ip len pq))) S (gnP ip len (rbB ip len w sl B pq))))), (5, .int (heV 0 999 (tnQ ip len 0 9 (tsQ ip len w (slN ip sl (sp1 (mxP ip len pq))) S (gnP ip len (rbB ip len w sl B pq))))))]) hx hb dX8_readsBorrower_131 hl (k := 6) rfl (nx_add rfl rfl) (by decide) rfl (fun ls hl => ?_)
                refine lv_goto (tgt := 98) hx hb dX8_readsBorrower_134 (by decide) ?_
                exact ih_98 r1 (by omega) (k + 1) _ _ _ (by omega) (hM.eq (by rw [← cq_s0]; unfold slF; rw [if_neg (by omega)])) (lv_sub hl [1, 2, 3, 4, 5, 6, 0] rfl)
              · have c_9 := (not_congr (br_le rfl rfl (by omega) (by omega))).mp c_9
                refine lv_aload_n hx hb dX8_readsBorrower_117 rfl (lv_at hl 0 rfl) ?_
                refine fg_X8_31 hC hM mq_F rfl dX8_readsBorrower_118 ?_
                refine lv_iload_n hx hb dX8_readsBorrower_121 rfl (lv_at hl 1 rfl) ?_
                refine lv_iload hx hb dX8_readsBorrower_122 (lv_at hl 6 rfl) ?_
                refine lv_iadd hx hb dX8_readsBorrower_124 ?_
                refine me_bald (k := qFr (rbB ip len w sl B pq) + k) hC hM mq_ip (nx_add rfl rfl) (by omega) (by first | decide | omega) dX8_readsBorrower_125 ?_
                refine lv_goto (tgt := 130) hx hb dX8_readsBorrower_126 (by decide) ?_
                refine me_iast (k := k) (M2 := mq tb mo (pqF F (tnQ ip len 0 999 (tnQ ip len 0 9 (tsQ ip len w (slN ip sl (sp1 (mxP ip len pq))) S (gnP ip len (rbB ip len w sl B pq)))))) w av od sv (upd (cq (slN ip (slN ip sl (sp1 (mxP ip len pq))) (sp1 (gnP ip len (rbB ip len w sl B pq)))) (slF ip (rbB ip len w sl B pq)) 0 k) (k) (ip (qFr (rbB ip len w sl B pq) + k))) nz ip ot M0) hC hM mq_sl rfl (by omega) (by decide) mq_w_sl dX8_readsBorrower_130 (fun H locs hM => ?_)
                refine lv_iinc (v := nI (k + 1)) (lv' := [(6, .int (nI (k + 1))), (0, .ref mo), (1, .int (nI (qFr (rbB ip len w sl B pq)))), (2, .int (nI ((qTo (rbB ip len w sl B pq)) - (qFr (rbB ip len w sl B pq))))), (3, .int (tsR ip len w (slN ip sl (sp1 (mxP ip len pq))) S (gnP ip len (rbB ip len w sl B pq)))), (4, .int (heV 0 9 (tsQ ip len w (slN ip sl (sp1 (mxP ip len pq))) S (gnP ip len (rbB ip len w sl B pq))))), (5, .int (heV 0 999 (tnQ ip len 0 9 (tsQ ip len w (slN ip sl (sp1 (mxP ip len pq))) S (gnP ip len (rbB ip len w sl B pq))))))]) hx hb dX8_readsBorrower_131 hl (k := 6) rfl (nx_add rfl rfl) (by decide) rfl (fun ls hl => ?_)
                refine lv_goto (tgt := 98) hx hb dX8_readsBorrower_134 (by decide) ?_
                exact ih_98 r1 (by omega) (k + 1) _ _ _ (by omega) (hM.eq (by rw [← cq_s0]; unfold slF; rw [if_pos (by omega)])) (lv_sub hl [1, 2, 3, 4, 5, 6, 0] rfl)
          exact lp_98 6 0 _ _ _ (by omega) (hM.eq (by rw [cq_0])) (lv_sub hl [6, 5, 4, 3, 2, 1, 0] rfl)
      · refine lv_aload_n hx hb dX8_readsBorrower_40 rfl (lv_at hl 0 rfl) ?_
        refine lv_iconst (v := 4) hx hb dX8_readsBorrower_41 (by decide) ?_
        refine me_stk (st2 := [.int (nI 4), .ref mo]) (by rw [(nx_c 4)]) ?_
        refine me_callVv (As := [.int (nI 4)]) (rest := []) hC hl.1 hM (c_X8_errs l D tb X z0 n mo F w av od sv (slN ip sl (sp1 (mxP ip len pq))) nz ip ot M0 len (sp1 (mxP ip len pq)) 4 hln hln0 (qv_s1 (qv_mx hq)) (by omega)) (kv_X8_196 hw rfl rfl ⟨Nat.le_of_ble_eq_true rfl, Nat.le_of_ble_eq_true rfl⟩) rfl rfl mq_F rfl (Nat.le_of_ble_eq_true rfl) dX8_readsBorrower_42 ⟨Nat.le_of_ble_eq_true rfl, Nat.le_of_ble_eq_true rfl⟩ (fun H locs hM => ?_)
        obtain ⟨hz1_, hz2_, hz3_, hz4_⟩ := id (show qvP len (erP 4 (sp1 (mxP ip len pq))) from (qv_er (qv_s1 (qv_mx hq)) (by omega)))
        have hM := hM.eq (M2 := mq tb mo (pqF F (rbB ip len w sl B pq)) w av od sv (slN ip sl (sp1 (mxP ip len pq))) nz ip ot M0) (mq_ps (by unfold rbB; rw [if_pos ⟨c_2, c_6⟩]))
        obtain ⟨hz1_, hz2_, hz3_, hz4_⟩ := id (show qvP len (rbB ip len w sl B pq) from (show qvP len (rbB ip len w sl B pq) from by unfold rbB; split; exact qv_er (qv_s1 (qv_mx hq)) (by omega); exact (qv_s1 (qv_mx hq))))
        refine lv_aload_n hx hb dX8_readsBorrower_45 rfl (lv_at hl 0 rfl) ?_
        refine fg_X8_172 hC hM mq_F rfl dX8_readsBorrower_46 ?_
        refine me_evi (y := nI (qFr (rbB ip len w sl B pq))) rfl ?_
        refine lv_istore_n (lv' := [(1, .int (nI (qFr (rbB ip len w sl B pq)))), (0, .ref mo)]) hx hb dX8_readsBorrower_49 rfl hl (by decide) rfl (fun ls hl => ?_)
        refine lv_aload_n hx hb dX8_readsBorrower_50 rfl (lv_at hl 1 rfl) ?_
        refine fg_X8_169 hC hM mq_F rfl dX8_readsBorrower_51 ?_
        refine me_evi (y := nI (qTo (rbB ip len w sl B pq))) rfl ?_
        refine lv_aload_n hx hb dX8_readsBorrower_54 rfl (lv_at hl 1 rfl) ?_
        refine fg_X8_172 hC hM mq_F rfl dX8_readsBorrower_55 ?_
        refine me_evi (y := nI (qFr (rbB ip len w sl B pq))) rfl ?_
        refine lv_isub hx hb dX8_readsBorrower_58 ?_
        refine me_evi (y := nI ((qTo (rbB ip len w sl B pq)) - (qFr (rbB ip len w sl B pq)))) (nx_sub rfl rfl (by omega)) ?_
        refine lv_istore_n (lv' := [(2, .int (nI ((qTo (rbB ip len w sl B pq)) - (qFr (rbB ip len w sl B pq))))), (1, .int (nI (qFr (rbB ip len w sl B pq)))), (0, .ref mo)]) hx hb dX8_readsBorrower_59 rfl hl (by decide) rfl (fun ls hl => ?_)
        refine lv_aload_n hx hb dX8_readsBorrower_60 rfl (lv_at hl 2 rfl) ?_
        refine me_callVv (As := []) (rest := []) hC hl.1 hM (c_X8_goesOn l D tb X z0 n mo F w av od sv (slN ip sl (sp1 (mxP ip len pq))) nz ip ot M0 len (rbB ip len w sl B pq)  hln hln0 (show qvP len (rbB ip len w sl B pq) from by unfold rbB; split; exact qv_er (qv_s1 (qv_mx hq)) (by omega); exact (qv_s1 (qv_mx hq))) ) (kv_X8_202 hw rfl rfl ⟨Nat.le_of_ble_eq_true rfl, Nat.le_of_ble_eq_true rfl⟩) rfl rfl mq_F rfl (Nat.le_of_ble_eq_true rfl) dX8_readsBorrower_61 ⟨Nat.le_of_ble_eq_true rfl, Nat.le_of_ble_eq_true rfl⟩ (fun H locs hM => ?_)
        obtain ⟨hz1_, hz2_, hz3_, hz4_⟩ := id (show qvP len (gnP ip len (rbB ip len w sl B pq)) from (qv_gn (show qvP len (rbB ip len w sl B pq) from by unfold rbB; split; exact qv_er (qv_s1 (qv_mx hq)) (by omega); exact (qv_s1 (qv_mx hq)))))
        refine lv_aload_n hx hb dX8_readsBorrower_64 rfl (lv_at hl 2 rfl) ?_
        refine me_callVi (As := []) (rest := []) hC hl.1 hM (c_X8_takesStreet l D tb X z0 n mo F w av od sv (slN ip sl (sp1 (mxP ip len pq))) nz ip ot M0 len (gnP ip len (rbB ip len w sl B pq)) S hln hln0 (qv_gn (show qvP len (rbB ip len w sl B pq) from by unfold rbB; split; exact qv_er (qv_s1 (qv_mx hq)) (by omega); exact (qv_s1 (qv_mx hq)))) hS hS0) (kv_X8_217 hw rfl rfl ⟨Nat.le_of_ble_eq_true rfl, Nat.le_of_ble_eq_true rfl⟩) rfl rfl mq_F rfl (Nat.le_of_ble_eq_true rfl) dX8_readsBorrower_65 ⟨Nat.le_of_ble_eq_true rfl, Nat.le_of_ble_eq_true rfl⟩ (fun H locs hM => ?_)
        obtain ⟨hz1_, hz2_, hz3_, hz4_⟩ := id (show qvP len (tsQ ip len w (slN ip sl (sp1 (mxP ip len pq))) S (gnP ip len (rbB ip len w sl B pq))) from (qv_ts (qv_gn (show qvP len (rbB ip len w sl B pq) from by unfold rbB; split; exact qv_er (qv_s1 (qv_mx hq)) (by omega); exact (qv_s1 (qv_mx hq))))))
        refine lv_istore_n (lv' := [(3, .int (tsR ip len w (slN ip sl (sp1 (mxP ip len pq))) S (gnP ip len (rbB ip len w sl B pq)))), (2, .int (nI ((qTo (rbB ip len w sl B pq)) - (qFr (rbB ip len w sl B pq))))), (1, .int (nI (qFr (rbB ip len w sl B pq)))), (0, .ref mo)]) hx hb dX8_readsBorrower_68 rfl hl (by decide) rfl (fun ls hl => ?_)
        refine lv_aload_n hx hb dX8_readsBorrower_69 rfl (lv_at hl 3 rfl) ?_
        refine lv_iconst (v := 0) hx hb dX8_readsBorrower_70 (by decide) ?_
        refine lv_bipush (v := 9) hx hb dX8_readsBorrower_71 (by decide) ?_
        refine me_callVi (As := [.int 0, .int 9]) (rest := []) hC hl.1 hM (c_X8_takesNumber l D tb X z0 n mo F w av od sv (slN ip (slN ip sl (sp1 (mxP ip len pq))) (sp1 (gnP ip len (rbB ip len w sl B pq)))) nz ip ot M0 len (tsQ ip len w (slN ip sl (sp1 (mxP ip len pq))) S (gnP ip len (rbB ip len w sl B pq))) 0 9 hln hln0 (qv_ts (qv_gn (show qvP len (rbB ip len w sl B pq) from by unfold rbB; split; exact qv_er (qv_s1 (qv_mx hq)) (by omega); exact (qv_s1 (qv_mx hq))))) ) (kv_X8_214 hw rfl rfl ⟨Nat.le_of_ble_eq_true rfl, Nat.le_of_ble_eq_true rfl⟩) rfl rfl mq_F rfl (Nat.le_of_ble_eq_true rfl) dX8_readsBorrower_73 ⟨Nat.le_of_ble_eq_true rfl, Nat.le_of_ble_eq_true rfl⟩ (fun H locs hM => ?_)
        obtain ⟨hz1_, hz2_, hz3_, hz4_⟩ := id (show qvP len (tnQ ip len 0 9 (tsQ ip len w (slN ip sl (sp1 (mxP ip len pq))) S (gnP ip len (rbB ip len w sl B pq)))) from (qv_tn (qv_ts (qv_gn (show qvP len (rbB ip len w sl B pq) from by unfold rbB; split; exact qv_er (qv_s1 (qv_mx hq)) (by omega); exact (qv_s1 (qv_mx hq)))))))
        refine lv_istore (lv' := [(4, .int (heV 0 9 (tsQ ip len w (slN ip sl (sp1 (mxP ip len pq))) S (gnP ip len (rbB ip len w sl B pq))))), (3, .int (tsR ip len w (slN ip sl (sp1 (mxP ip len pq))) S (gnP ip len (rbB ip len w sl B pq)))), (2, .int (nI ((qTo (rbB ip len w sl B pq)) - (qFr (rbB ip len w sl B pq))))), (1, .int (nI (qFr (rbB ip len w sl B pq)))), (0, .ref mo)]) hx hb dX8_readsBorrower_76 hl (by decide) rfl (fun ls hl => ?_)
        refine lv_aload_n hx hb dX8_readsBorrower_78 rfl (lv_at hl 4 rfl) ?_
        refine lv_iconst (v := 0) hx hb dX8_readsBorrower_79 (by decide) ?_
        refine lv_sipush (v := 999) hx hb dX8_readsBorrower_80 (by decide) ?_
        refine me_callVi (As := [.int 0, .int 999]) (rest := []) hC hl.1 hM (c_X8_takesNumber l D tb X z0 n mo F w av od sv (slN ip (slN ip sl (sp1 (mxP ip len pq))) (sp1 (gnP ip len (rbB ip len w sl B pq)))) nz ip ot M0 len (tnQ ip len 0 9 (tsQ ip len w (slN ip sl (sp1 (mxP ip len pq))) S (gnP ip len (rbB ip len w sl B pq)))) 0 999 hln hln0 (qv_tn (qv_ts (qv_gn (show qvP len (rbB ip len w sl B pq) from by unfold rbB; split; exact qv_er (qv_s1 (qv_mx hq)) (by omega); exact (qv_s1 (qv_mx hq)))))) ) (kv_X8_214 hw rfl rfl ⟨Nat.le_of_ble_eq_true rfl, Nat.le_of_ble_eq_true rfl⟩) rfl rfl mq_F rfl (Nat.le_of_ble_eq_true rfl) dX8_readsBorrower_83 ⟨Nat.le_of_ble_eq_true rfl, Nat.le_of_ble_eq_true rfl⟩ (fun H locs hM => ?_)
        obtain ⟨hz1_, hz2_, hz3_, hz4_⟩ := id (show qvP len (tnQ ip len 0 999 (tnQ ip len 0 9 (tsQ ip len w (slN ip sl (sp1 (mxP ip len pq))) S (gnP ip len (rbB ip len w sl B pq))))) from (qv_tn (qv_tn (qv_ts (qv_gn (show qvP len (rbB ip len w sl B pq) from by unfold rbB; split; exact qv_er (qv_s1 (qv_mx hq)) (by omega); exact (qv_s1 (qv_mx hq))))))))
        refine lv_istore (lv' := [(5, .int (heV 0 999 (tnQ ip len 0 9 (tsQ ip len w (slN ip sl (sp1 (mxP ip len pq))) S (gnP ip len (rbB ip len w sl B pq)))))), (4, .int (heV 0 9 (tsQ ip len w (slN ip sl (sp1 (mxP ip len pq))) S (gnP ip len (rbB ip len w sl B pq))))), (3, .int (tsR ip len w (slN ip sl (sp1 (mxP ip len pq))) S (gnP ip len (rbB ip len w sl B pq)))), (2, .int (nI ((qTo (rbB ip len w sl B pq)) - (qFr (rbB ip len w sl B pq))))), (1, .int (nI (qFr (rbB ip len w sl B pq)))), (0, .ref mo)]) hx hb dX8_readsBorrower_86 hl (by decide) rfl (fun ls hl => ?_)
        refine lv_aload_n hx hb dX8_readsBorrower_88 rfl (lv_at hl 5 rfl) ?_
        refine fg_X8_187 hC hM mq_F rfl dX8_readsBorrower_89 ?_
        refine me_evi (y := nI (qFl (tnQ ip len 0 999 (tnQ ip len 0 9 (tsQ ip len w (slN ip sl (sp1 (mxP ip len pq))) S (gnP ip len (rbB ip len w sl B pq))))))) rfl ?_
        refine lv_if_ne (tgt := 146) hx hb dX8_readsBorrower_92 (by decide) (fun c_10 => ?_) (fun c_10 => ?_)
        · have c_10 := (not_congr (br_eq rfl (show (0 : Int32) = nI 0 from rfl) (by omega) (by omega))).mp c_10
          exact me_vret hC hr hlk hM (ym_e (by unfold rbY; rw [if_neg c_1, if_neg c_10])) (rfl) dX8_readsBorrower_146
        · have c_10 := (br_eq rfl (show (0 : Int32) = nI 0 from rfl) (by omega) (by omega)).mp c_10
          refine lv_iconst (v := 0) hx hb dX8_readsBorrower_95 (by decide) ?_
          refine lv_istore (lv' := [(6, .int 0), (5, .int (heV 0 999 (tnQ ip len 0 9 (tsQ ip len w (slN ip sl (sp1 (mxP ip len pq))) S (gnP ip len (rbB ip len w sl B pq)))))), (4, .int (heV 0 9 (tsQ ip len w (slN ip sl (sp1 (mxP ip len pq))) S (gnP ip len (rbB ip len w sl B pq))))), (3, .int (tsR ip len w (slN ip sl (sp1 (mxP ip len pq))) S (gnP ip len (rbB ip len w sl B pq)))), (2, .int (nI ((qTo (rbB ip len w sl B pq)) - (qFr (rbB ip len w sl B pq))))), (1, .int (nI (qFr (rbB ip len w sl B pq)))), (0, .ref mo)]) hx hb dX8_readsBorrower_96 hl (by decide) rfl (fun ls hl => ?_)
          have lp_98 : ∀ (r : Nat) (k : Nat) (H : Heap) (locs : List Loc) (ls : Array Slot), (k + r = 6) → me_at D z0 (mq tb mo (pqF F (tnQ ip len 0 999 (tnQ ip len 0 9 (tsQ ip len w (slN ip sl (sp1 (mxP ip len pq))) S (gnP ip len (rbB ip len w sl B pq)))))) w av od sv (cq (slN ip (slN ip sl (sp1 (mxP ip len pq))) (sp1 (gnP ip len (rbB ip len w sl B pq)))) (slF ip (rbB ip len w sl B pq)) 0 k) nz ip ot M0) n s H locs → lv_has ls 7 [(0, .ref mo), (1, .int (nI (qFr (rbB ip len w sl B pq)))), (2, .int (nI ((qTo (rbB ip len w sl B pq)) - (qFr (rbB ip len w sl B pq))))), (3, .int (tsR ip len w (slN ip sl (sp1 (mxP ip len pq))) S (gnP ip len (rbB ip len w sl B pq)))), (4, .int (heV 0 9 (tsQ ip len w (slN ip sl (sp1 (mxP ip len pq))) S (gnP ip len (rbB ip len w sl B pq))))), (5, .int (heV 0 999 (tnQ ip len 0 9 (tsQ ip len w (slN ip sl (sp1 (mxP ip len pq))) S (gnP ip len (rbB ip len w sl B pq)))))), (6, .int (nI k))] → W p l e (({ frames := 4, cells := 0, slots := 0, locals := 85 } : Room)) s m args below meth c H locs 0 0 (MQ below (me_Qv D z0 (ymM tb mo F av od sv ip ot M0 (rbY ip len w sl nz S B L P pq)) n) args s 0 0 (me_A z0)) (F0 m 98 ls []) := by
            intro r
            refine Nat.strongRecOn r ?_
            intro r ih_98 k H locs ls hk hM hl
            refine lv_iload hx hb dX8_readsBorrower_98 (lv_at hl 6 rfl) ?_
            refine lv_bipush (v := 6) hx hb dX8_readsBorrower_100 (by decide) ?_
            refine lv_icmp_ge (tgt := 137) hx hb dX8_readsBorrower_102 (by decide) (fun c_11 => ?_) (fun c_11 => ?_)
            · have c_11 := (br_le (nx_c 6) rfl (by omega) (by omega)).mp c_11
              have hM := hM.eq (M2 := mq tb mo (pqF F (tnQ ip len 0 999 (tnQ ip len 0 9 (tsQ ip len w (slN ip sl (sp1 (mxP ip len pq))) S (gnP ip len (rbB ip len w sl B pq)))))) w av od sv (rbU ip len w sl B pq) nz ip ot M0) (by rw [show k = 6 by omega])
              refine lv_aload_n hx hb dX8_readsBorrower_137 rfl (lv_at hl 0 rfl) ?_
              refine lv_iload_n hx hb dX8_readsBorrower_138 rfl (lv_at hl 3 rfl) ?_
              refine lv_iload hx hb dX8_readsBorrower_139 (lv_at hl 4 rfl) ?_
              refine lv_iload hx hb dX8_readsBorrower_141 (lv_at hl 5 rfl) ?_
              refine me_callVv (As := [.int (tsR ip len w (slN ip sl (sp1 (mxP ip len pq))) S (gnP ip len (rbB ip len w sl B pq))), .int (heV 0 9 (tsQ ip len w (slN ip sl (sp1 (mxP ip len pq))) S (gnP ip len (rbB ip len w sl B pq)))), .int (heV 0 999 (tnQ ip len 0 9 (tsQ ip len w (slN ip sl (sp1 (mxP ip len pq))) S (gnP ip len (rbB ip len w sl B pq)))))]) (rest := []) hC hl.1 hM (c_X8_comes l D tb X z0 n mo (pqF F (tnQ ip len 0 999 (tnQ ip len 0 9 (tsQ ip len w (slN ip sl (sp1 (mxP ip len pq))) S (gnP ip len (rbB ip len w sl B pq)))))) w av od sv (rbU ip len w sl B pq) nz ip ot M0 B (tsR ip len w (slN ip sl (sp1 (mxP ip len pq))) S (gnP ip len (rbB ip len w sl B pq))) (heV 0 9 (tsQ ip len w (slN ip sl (sp1 (mxP ip len pq))) S (gnP ip len (rbB ip len w sl B pq)))) (heV 0 999 (tnQ ip len 0 9 (tsQ ip len w (slN ip sl (sp1 (mxP ip len pq))) S (gnP ip len (rbB ip len w sl B pq))))) hB (by omega)) (kv_X8_50 hw rfl rfl ⟨Nat.le_of_ble_eq_true rfl, Nat.le_of_ble_eq_true rfl⟩) rfl rfl mq_F rfl (Nat.le_of_ble_eq_true rfl) dX8_readsBorrower_143 ⟨Nat.le_of_ble_eq_true rfl, Nat.le_of_ble_eq_true rfl⟩ (fun H locs hM => ?_)
              exact me_vret hC hr hlk hM (ym_e (by unfold rbY; rw [if_neg c_1, if_pos c_10])) (rfl) dX8_readsBorrower_146
            · have c_11 := (not_congr (br_le (nx_c 6) rfl (by omega) (by omega))).mp c_11
              obtain ⟨r1, rfl⟩ : ∃ r1, r = r1 + 1 := ⟨r - 1, by omega⟩
              refine lv_aload_n hx hb dX8_readsBorrower_105 rfl (lv_at hl 0 rfl) ?_
              refine fg_X8_25 hC hM mq_F rfl dX8_readsBorrower_106 ?_
              refine lv_iload hx hb dX8_readsBorrower_109 (lv_at hl 6 rfl) ?_
              refine lv_iload hx hb dX8_readsBorrower_111 (lv_at hl 6 rfl) ?_
              refine lv_iload_n hx hb dX8_readsBorrower_113 rfl (lv_at hl 2 rfl) ?_
              refine lv_icmp_ge (tgt := 129) hx hb dX8_readsBorrower_114 (by decide) (fun c_12 => ?_) (fun c_12 => ?_)
              · have c_12 := (br_le rfl rfl (by omega) (by omega)).mp c_12
                refine lv_iconst (v := 0) hx hb dX8_readsBorrower_129 (by decide) ?_
                refine me_iast (k := k) (M2 := mq tb mo (pqF F (tnQ ip len 0 999 (tnQ ip len 0 9 (tsQ ip len w (slN ip sl (sp1 (mxP ip len pq))) S (gnP ip len (rbB ip len w sl B pq)))))) w av od sv (upd (cq (slN ip (slN ip sl (sp1 (mxP ip len pq))) (sp1 (gnP ip len (rbB ip len w sl B pq)))) (slF ip (rbB ip len w sl B pq)) 0 k) (k) 0) nz ip ot M0) hC hM mq_sl rfl (by omega) (by decide) mq_w_sl dX8_readsBorrower_130 (fun H locs hM => ?_)
                refine lv_iinc (v := nI (k + 1)) (lv' := [(6, .int (nI (k + 1))), (0, .ref mo), (1, .int (nI (qFr (rbB ip len w sl B pq)))), (2, .int (nI ((qTo (rbB ip len w sl B pq)) - (qFr (rbB ip len w sl B pq))))), (3, .int (tsR ip len w (slN ip sl (sp1 (mxP ip len pq))) S (gnP ip len (rbB ip len w sl B pq)))), (4, .int (heV 0 9 (tsQ ip len w (slN ip sl (sp1 (mxP ip len pq))) S (gnP ip len (rbB ip len w sl B pq))))), (5, .int (heV 0 999 (tnQ ip len 0 9 (tsQ ip len w (slN ip sl (sp1 (mxP ip len pq))) S (gnP ip len (rbB ip len w sl B pq))))))]) hx hb dX8_readsBorrower_131 hl (k := 6) rfl (nx_add rfl rfl) (by decide) rfl (fun ls hl => ?_)
                refine lv_goto (tgt := 98) hx hb dX8_readsBorrower_134 (by decide) ?_
                exact ih_98 r1 (by omega) (k + 1) _ _ _ (by omega) (hM.eq (by rw [← cq_s0]; unfold slF; rw [if_neg (by omega)])) (lv_sub hl [1, 2, 3, 4, 5, 6, 0] rfl)
              · have c_12 := (not_congr (br_le rfl rfl (by omega) (by omega))).mp c_12
                refine lv_aload_n hx hb dX8_readsBorrower_117 rfl (lv_at hl 0 rfl) ?_
                refine fg_X8_31 hC hM mq_F rfl dX8_readsBorrower_118 ?_
                refine lv_iload_n hx hb dX8_readsBorrower_121 rfl (lv_at hl 1 rfl) ?_
                refine lv_iload hx hb dX8_readsBorrower_122 (lv_at hl 6 rfl) ?_
                refine lv_iadd hx hb dX8_readsBorrower_124 ?_
                refine me_bald (k := qFr (rbB ip len w sl B pq) + k) hC hM mq_ip (nx_add rfl rfl) (by omega) (by first | decide | omega) dX8_readsBorrower_125 ?_
                refine lv_goto (tgt := 130) hx hb dX8_readsBorrower_126 (by decide) ?_
                refine me_iast (k := k) (M2 := mq tb mo (pqF F (tnQ ip len 0 999 (tnQ ip len 0 9 (tsQ ip len w (slN ip sl (sp1 (mxP ip len pq))) S (gnP ip len (rbB ip len w sl B pq)))))) w av od sv (upd (cq (slN ip (slN ip sl (sp1 (mxP ip len pq))) (sp1 (gnP ip len (rbB ip len w sl B pq)))) (slF ip (rbB ip len w sl B pq)) 0 k) (k) (ip (qFr (rbB ip len w sl B pq) + k))) nz ip ot M0) hC hM mq_sl rfl (by omega) (by decide) mq_w_sl dX8_readsBorrower_130 (fun H locs hM => ?_)
                refine lv_iinc (v := nI (k + 1)) (lv' := [(6, .int (nI (k + 1))), (0, .ref mo), (1, .int (nI (qFr (rbB ip len w sl B pq)))), (2, .int (nI ((qTo (rbB ip len w sl B pq)) - (qFr (rbB ip len w sl B pq))))), (3, .int (tsR ip len w (slN ip sl (sp1 (mxP ip len pq))) S (gnP ip len (rbB ip len w sl B pq)))), (4, .int (heV 0 9 (tsQ ip len w (slN ip sl (sp1 (mxP ip len pq))) S (gnP ip len (rbB ip len w sl B pq))))), (5, .int (heV 0 999 (tnQ ip len 0 9 (tsQ ip len w (slN ip sl (sp1 (mxP ip len pq))) S (gnP ip len (rbB ip len w sl B pq))))))]) hx hb dX8_readsBorrower_131 hl (k := 6) rfl (nx_add rfl rfl) (by decide) rfl (fun ls hl => ?_)
                refine lv_goto (tgt := 98) hx hb dX8_readsBorrower_134 (by decide) ?_
                exact ih_98 r1 (by omega) (k + 1) _ _ _ (by omega) (hM.eq (by rw [← cq_s0]; unfold slF; rw [if_pos (by omega)])) (lv_sub hl [1, 2, 3, 4, 5, 6, 0] rfl)
          exact lp_98 6 0 _ _ _ (by omega) (hM.eq (by rw [cq_0])) (lv_sub hl [6, 5, 4, 3, 2, 1, 0] rfl)
  · have c_1 := (br_eq hB (nx_c 12) (by omega) (by omega)).mp c_1
    refine lv_aload_n hx hb dX8_readsBorrower_11 rfl (lv_at hl 0 rfl) ?_
    refine lv_iconst (v := 5) hx hb dX8_readsBorrower_12 (by decide) ?_
    refine me_stk (st2 := [.int (nI 5), .ref mo]) (by rw [(nx_c 5)]) ?_
    refine me_callVv (As := [.int (nI 5)]) (rest := []) hC hl.1 hM (c_X8_errs l D tb X z0 n mo F w av od sv sl nz ip ot M0 len pq 5 hln hln0 hq (by omega)) (kv_X8_196 hw rfl rfl ⟨Nat.le_of_ble_eq_true rfl, Nat.le_of_ble_eq_true rfl⟩) rfl rfl mq_F rfl (Nat.le_of_ble_eq_true rfl) dX8_readsBorrower_13 ⟨Nat.le_of_ble_eq_true rfl, Nat.le_of_ble_eq_true rfl⟩ (fun H locs hM => ?_)
    obtain ⟨hz1_, hz2_, hz3_, hz4_⟩ := id (show qvP len (erP 5 pq) from (qv_er hq (by omega)))
    exact me_vret hC hr hlk hM (ym_e (by unfold rbY; rw [if_pos c_1])) (rfl) dX8_readsBorrower_16
