set_option maxHeartbeats 4000000 in
theorem c_X8_isLetter (l : Launch) (D : va_G) (tb : Nat → ClassId) (X : State → Prop) (z0 n : Nat) (M : me_M) (b : Int32)  : Met l yX8_isLetter (.code yX8_isLetter cX8_isLetter 1 (some .boolean) :: ws_all) ({ frames := 0, cells := 0, slots := 0, locals := 0 } : Room) (me_Pc [.int b] D tb X z0 (M) n) (me_Qi D z0 (b1 (ltP b)) (M) n) 0 0 (me_A z0) := by
  refine me_open (by decide) (Nat.le_of_ble_eq_true rfl) ?_
  intro p e s m args below meth c ls hC hr hlk hnm hM hl
  have hl : lv_has ls 1 [(0, .int b)] := hl
  have hx := hC.1
  have hb := hC.2.1
  have hw := hC.2.2.2.2.1
  refine lv_iload_n hx hb dX8_isLetter_0 rfl (lv_at hl 0 rfl) ?_
  refine lv_bipush (v := 97) hx hb dX8_isLetter_1 (by decide) ?_
  refine lv_icmp_lt (tgt := 16) hx hb dX8_isLetter_3 (by decide) (fun c_1 => ?_) (fun c_1 => ?_)
  · have c_1q := Int32.not_le.mpr c_1
    refine lv_iconst (v := 0) hx hb dX8_isLetter_16 (by decide) ?_
    exact me_zret hC hr hlk hM (by first | rfl | simp [b1, ltP, c_1, c_1q]) (by first | decide | simp) (rfl) (rfl) dX8_isLetter_17
  · have c_1q := Int32.not_lt.mp c_1
    refine lv_iload_n hx hb dX8_isLetter_6 rfl (lv_at hl 0 rfl) ?_
    refine lv_bipush (v := 122) hx hb dX8_isLetter_7 (by decide) ?_
    refine lv_icmp_gt (tgt := 16) hx hb dX8_isLetter_9 (by decide) (fun c_2 => ?_) (fun c_2 => ?_)
    · have c_2q := Int32.not_le.mpr c_2
      refine lv_iconst (v := 0) hx hb dX8_isLetter_16 (by decide) ?_
      exact me_zret hC hr hlk hM (by first | rfl | simp [b1, ltP, c_1, c_2, c_1q, c_2q]) (by first | decide | simp) (rfl) (rfl) dX8_isLetter_17
    · have c_2q := Int32.not_lt.mp c_2
      refine lv_iconst (v := 1) hx hb dX8_isLetter_12 (by decide) ?_
      refine lv_goto (tgt := 17) hx hb dX8_isLetter_13 (by decide) ?_
      exact me_zret hC hr hlk hM (by first | rfl | simp [b1, ltP, c_1, c_2, c_1q, c_2q]) (by first | decide | simp) (rfl) (rfl) dX8_isLetter_17
set_option maxHeartbeats 4000000 in
theorem c_X8_isDigit (l : Launch) (D : va_G) (tb : Nat → ClassId) (X : State → Prop) (z0 n : Nat) (M : me_M) (b : Int32)  : Met l yX8_isDigit (.code yX8_isDigit cX8_isDigit 1 (some .boolean) :: ws_all) ({ frames := 0, cells := 0, slots := 0, locals := 0 } : Room) (me_Pc [.int b] D tb X z0 (M) n) (me_Qi D z0 (b1 (dgP b)) (M) n) 0 0 (me_A z0) := by
  refine me_open (by decide) (Nat.le_of_ble_eq_true rfl) ?_
  intro p e s m args below meth c ls hC hr hlk hnm hM hl
  have hl : lv_has ls 1 [(0, .int b)] := hl
  have hx := hC.1
  have hb := hC.2.1
  have hw := hC.2.2.2.2.1
  refine lv_iload_n hx hb dX8_isDigit_0 rfl (lv_at hl 0 rfl) ?_
  refine lv_bipush (v := 48) hx hb dX8_isDigit_1 (by decide) ?_
  refine lv_icmp_lt (tgt := 16) hx hb dX8_isDigit_3 (by decide) (fun c_1 => ?_) (fun c_1 => ?_)
  · have c_1q := Int32.not_le.mpr c_1
    refine lv_iconst (v := 0) hx hb dX8_isDigit_16 (by decide) ?_
    exact me_zret hC hr hlk hM (by first | rfl | simp [b1, dgP, c_1, c_1q]) (by first | decide | simp) (rfl) (rfl) dX8_isDigit_17
  · have c_1q := Int32.not_lt.mp c_1
    refine lv_iload_n hx hb dX8_isDigit_6 rfl (lv_at hl 0 rfl) ?_
    refine lv_bipush (v := 57) hx hb dX8_isDigit_7 (by decide) ?_
    refine lv_icmp_gt (tgt := 16) hx hb dX8_isDigit_9 (by decide) (fun c_2 => ?_) (fun c_2 => ?_)
    · have c_2q := Int32.not_le.mpr c_2
      refine lv_iconst (v := 0) hx hb dX8_isDigit_16 (by decide) ?_
      exact me_zret hC hr hlk hM (by first | rfl | simp [b1, dgP, c_1, c_2, c_1q, c_2q]) (by first | decide | simp) (rfl) (rfl) dX8_isDigit_17
    · have c_2q := Int32.not_lt.mp c_2
      refine lv_iconst (v := 1) hx hb dX8_isDigit_12 (by decide) ?_
      refine lv_goto (tgt := 17) hx hb dX8_isDigit_13 (by decide) ?_
      exact me_zret hC hr hlk hM (by first | rfl | simp [b1, dgP, c_1, c_2, c_1q, c_2q]) (by first | decide | simp) (rfl) (rfl) dX8_isDigit_17
set_option maxHeartbeats 4000000 in
theorem c_X8_errs (l : Launch) (D : va_G) (tb : Nat → ClassId) (X : State → Prop) (z0 n : Nat) (mo : Nat) (F w av od sv sl nz ip ot : Nat → Int32) (M0 : me_M) (len : Nat) (pq : QS) (kd : Nat)  (hln : F 7 = nI len) (hln0 : len ≤ 700) (hq : qvP len pq) (hkd : kd ≤ 6) : Met l yX8_errs (.code yX8_errs cX8_errs 2 none :: ws_all) ({ frames := 0, cells := 0, slots := 0, locals := 0 } : Room) (me_Pc [.ref mo, .int (nI kd)] D tb X z0 (mq tb mo (pqF F (pq)) w av od sv sl nz ip ot M0) n) (me_Qv D z0 (mq tb mo (pqF F (erP kd pq)) w av od sv sl nz ip ot M0) n) 0 0 (me_A z0) := by
  refine me_open (by decide) (Nat.le_of_ble_eq_true rfl) ?_
  intro p e s m args below meth c ls hC hr hlk hnm hM hl
  have hl : lv_has ls 2 [(0, .ref mo), (1, .int (nI kd))] := hl
  have hx := hC.1
  have hb := hC.2.1
  have hw := hC.2.2.2.2.1
  obtain ⟨hq1, hq2, hq3, hq4⟩ := id hq
  refine lv_aload_n hx hb dX8_errs_0 rfl (lv_at hl 0 rfl) ?_
  refine fg_X8_187 hC hM mq_F rfl dX8_errs_1 ?_
  refine me_evi (y := nI (qFl pq)) rfl ?_
  refine lv_if_ne (tgt := 20) hx hb dX8_errs_4 (by decide) (fun c_1 => ?_) (fun c_1 => ?_)
  · have c_1 := (not_congr (br_eq rfl (show (0 : Int32) = nI 0 from rfl) (by omega) (by omega))).mp c_1
    exact me_vret hC hr hlk hM (mq_ps (by unfold erP; rw [if_neg c_1])) (rfl) dX8_errs_20
  · have c_1 := (br_eq rfl (show (0 : Int32) = nI 0 from rfl) (by omega) (by omega)).mp c_1
    refine lv_aload_n hx hb dX8_errs_7 rfl (lv_at hl 0 rfl) ?_
    refine lv_iload_n hx hb dX8_errs_8 rfl (lv_at hl 1 rfl) ?_
    refine fp_X8_187 hC hM mq_F (Nat.le_of_ble_eq_true rfl) (M2 := mq tb mo (pqF F (qKd pq, qFr pq, qTo pq, qVa pq, kd, qFa pq)) w av od sv sl nz ip ot M0) (mq_wF2 rfl) dX8_errs_9 (fun H locs hM => ?_)
    refine lv_aload_n hx hb dX8_errs_12 rfl (lv_at hl 0 rfl) ?_
    refine lv_aload_n hx hb dX8_errs_13 rfl (lv_at hl 0 rfl) ?_
    refine fg_X8_172 hC hM mq_F rfl dX8_errs_14 ?_
    refine me_evi (y := nI (qFr pq)) rfl ?_
    refine fp_X8_190 hC hM mq_F (Nat.le_of_ble_eq_true rfl) (M2 := mq tb mo (pqF F (qKd pq, qFr pq, qTo pq, qVa pq, kd, nI (qFr pq))) w av od sv sl nz ip ot M0) (mq_wF2 rfl) dX8_errs_17 (fun H locs hM => ?_)
    exact me_vret hC hr hlk hM (mq_ps (by unfold erP; rw [if_pos c_1])) (rfl) dX8_errs_20
set_option maxHeartbeats 4000000 in
theorem c_X8_next (l : Launch) (D : va_G) (tb : Nat → ClassId) (X : State → Prop) (z0 n : Nat) (mo : Nat) (F w av od sv sl nz ip ot : Nat → Int32) (M0 : me_M) (len : Nat) (pq : QS)  (hln : F 7 = nI len) (hln0 : len ≤ 700) (hq : qwP len pq) : Met l yX8_next (.code yX8_next cX8_next 3 none :: ws_all) ({ frames := 1, cells := 0, slots := 0, locals := 20 } : Room) (me_Pc [.ref mo] D tb X z0 (mq tb mo (pqF F (pq)) w av od sv sl nz ip ot M0) n) (me_Qv D z0 (mq tb mo (pqF F (mxP ip len pq)) w av od sv sl nz ip ot M0) n) 0 0 (me_A z0) := by
  refine me_open (by decide) (Nat.le_of_ble_eq_true rfl) ?_
  intro p e s m args below meth c ls hC hr hlk hnm hM hl
  have hl : lv_has ls 3 [(0, .ref mo)] := hl
  have hx := hC.1
  have hb := hC.2.1
  have hw := hC.2.2.2.2.1
  obtain ⟨hq2, hq3, hq4⟩ := id hq
  refine lv_aload_n hx hb dX8_next_0 rfl (lv_at hl 0 rfl) ?_
  refine fg_X8_166 hC hM mq_F rfl dX8_next_1 ?_
  refine me_evi (y := nI (qKd pq)) rfl ?_
  refine lv_iconst (v := 1) hx hb dX8_next_4 (by decide) ?_
  refine lv_icmp_eq (tgt := 16) hx hb dX8_next_5 (by decide) (fun c_1 => ?_) (fun c_1 => ?_)
  · have c_1 := (br_eq rfl (show (1 : Int32) = nI 1 from rfl) (by omega) (by omega)).mp c_1
    refine lv_iconst (v := 1) hx hb dX8_next_16 (by decide) ?_
    refine lv_goto (tgt := 21) hx hb dX8_next_17 (by decide) ?_
    refine lv_istore_n (lv' := [(1, .int 1), (0, .ref mo)]) hx hb dX8_next_21 rfl hl (by decide) rfl (fun ls hl => ?_)
    refine lv_aload_n hx hb dX8_next_22 rfl (lv_at hl 1 rfl) ?_
    refine lv_aload_n hx hb dX8_next_23 rfl (lv_at hl 1 rfl) ?_
    refine fg_X8_169 hC hM mq_F rfl dX8_next_24 ?_
    refine me_evi (y := nI (qTo pq)) rfl ?_
    refine fp_X8_172 hC hM mq_F (Nat.le_of_ble_eq_true rfl) (M2 := mq tb mo (pqF F (qKd pq, qTo pq, qTo pq, qVa pq, qFl pq, qFa pq)) w av od sv sl nz ip ot M0) (mq_wF2 rfl) dX8_next_27 (fun H locs hM => ?_)
    have lp_30 : ∀ (r : Nat) (k : Nat) (H : Heap) (locs : List Loc) (ls : Array Slot), (k + r = len) → (qTo pq ≤ k) → (skP ip (len - qTo pq) (qTo pq) = skP ip r k) → me_at D z0 (mq tb mo (pqF F (qKd pq, k, qTo pq, qVa pq, qFl pq, qFa pq)) w av od sv sl nz ip ot M0) n s H locs → lv_has ls 3 [(0, .ref mo), (1, .int 1)] → W p l e (({ frames := 1, cells := 0, slots := 0, locals := 20 } : Room)) s m args below meth c H locs 0 0 (MQ below (me_Qv D z0 (mq tb mo (pqF F (mxP ip len pq)) w av od sv sl nz ip ot M0) n) args s 0 0 (me_A z0)) (F0 m 30 ls []) := by
      intro r
      refine Nat.strongRecOn r ?_
      intro r ih_30 k H locs ls hk hk1 hs hM hl
      refine lv_aload_n hx hb dX8_next_30 rfl (lv_at hl 0 rfl) ?_
      refine fg_X8_172 hC hM mq_F rfl dX8_next_31 ?_
      refine me_evi (y := nI k) rfl ?_
      refine lv_aload_n hx hb dX8_next_34 rfl (lv_at hl 0 rfl) ?_
      refine fg_X8_175 hC hM mq_F rfl dX8_next_35 ?_
      refine me_evi (y := F 7) rfl ?_
      refine lv_icmp_ge (tgt := 82) hx hb dX8_next_38 (by decide) (fun c_2 => ?_) (fun c_2 => ?_)
      · have c_2 := (br_le hln rfl (by omega) (by omega)).mp c_2
        have hs2 : skP ip (len - qTo pq) (qTo pq) = k := by rw [hs, show r = 0 by omega]; rfl
        refine lv_iload_n hx hb dX8_next_82 rfl (lv_at hl 1 rfl) ?_
        refine lv_if_eq (tgt := 101) hx hb dX8_next_83 (by decide) (fun c_3 => ?_) (fun c_3 => ?_)
        · exact absurd c_3 (by decide)
        · refine lv_aload_n hx hb dX8_next_86 rfl (lv_at hl 0 rfl) ?_
          refine fg_X8_172 hC hM mq_F rfl dX8_next_87 ?_
          refine me_evi (y := nI k) rfl ?_
          refine lv_aload_n hx hb dX8_next_90 rfl (lv_at hl 0 rfl) ?_
          refine fg_X8_169 hC hM mq_F rfl dX8_next_91 ?_
          refine me_evi (y := nI (qTo pq)) rfl ?_
          refine lv_icmp_ne (tgt := 101) hx hb dX8_next_94 (by decide) (fun c_4 => ?_) (fun c_4 => ?_)
          · have c_4 := (not_congr (br_eq rfl rfl (by omega) (by omega))).mp c_4
            refine lv_iconst (v := 0) hx hb dX8_next_101 (by decide) ?_
            refine lv_istore_n (lv' := [(2, .int 0), (0, .ref mo), (1, .int 1)]) hx hb dX8_next_102 rfl hl (by decide) rfl (fun ls hl => ?_)
            refine lv_aload_n hx hb dX8_next_103 rfl (lv_at hl 1 rfl) ?_
            refine lv_aload_n hx hb dX8_next_104 rfl (lv_at hl 1 rfl) ?_
            refine fg_X8_172 hC hM mq_F rfl dX8_next_105 ?_
            refine me_evi (y := nI k) rfl ?_
            refine fp_X8_169 hC hM mq_F (Nat.le_of_ble_eq_true rfl) (M2 := mq tb mo (pqF F (qKd pq, k, k, qVa pq, qFl pq, qFa pq)) w av od sv sl nz ip ot M0) (mq_wF2 rfl) dX8_next_108 (fun H locs hM => ?_)
            refine lv_aload_n hx hb dX8_next_111 rfl (lv_at hl 1 rfl) ?_
            refine fg_X8_172 hC hM mq_F rfl dX8_next_112 ?_
            refine me_evi (y := nI k) rfl ?_
            refine lv_aload_n hx hb dX8_next_115 rfl (lv_at hl 1 rfl) ?_
            refine fg_X8_175 hC hM mq_F rfl dX8_next_116 ?_
            refine me_evi (y := F 7) rfl ?_
            refine lv_icmp_ne (tgt := 130) hx hb dX8_next_119 (by decide) (fun c_5 => ?_) (fun c_5 => ?_)
            · have c_5 := (not_congr (br_eq rfl hln (by omega) (by omega))).mp c_5
              refine lv_aload_n hx hb dX8_next_130 rfl (lv_at hl 1 rfl) ?_
              refine fg_X8_31 hC hM mq_F rfl dX8_next_131 ?_
              refine lv_aload_n hx hb dX8_next_134 rfl (lv_at hl 1 rfl) ?_
              refine fg_X8_172 hC hM mq_F rfl dX8_next_135 ?_
              refine me_evi (y := nI k) rfl ?_
              refine me_bald (k := k) hC hM mq_ip rfl (by omega) (by first | decide | omega) dX8_next_138 ?_
              refine me_callSi (As := [.int (ip k)]) (rest := []) hC hl.1 hM (c_X8_isLetter l D tb X z0 n _ (ip k) ) (ks_X8_178 hw rfl rfl ⟨Nat.le_of_ble_eq_true rfl, Nat.le_of_ble_eq_true rfl⟩) rfl rfl (Nat.le_of_ble_eq_true rfl) dX8_next_139 ⟨Nat.le_of_ble_eq_true rfl, Nat.le_of_ble_eq_true rfl⟩ (fun H locs hM => ?_)
              refine lv_if_eq (tgt := 200) hx hb dX8_next_142 (by decide) (fun c_6 => ?_) (fun c_6 => ?_)
              · have c_6 := b1_0.mp c_6
                refine lv_aload_n hx hb dX8_next_200 rfl (lv_at hl 1 rfl) ?_
                refine fg_X8_31 hC hM mq_F rfl dX8_next_201 ?_
                refine lv_aload_n hx hb dX8_next_204 rfl (lv_at hl 1 rfl) ?_
                refine fg_X8_172 hC hM mq_F rfl dX8_next_205 ?_
                refine me_evi (y := nI k) rfl ?_
                refine me_bald (k := k) hC hM mq_ip rfl (by omega) (by first | decide | omega) dX8_next_208 ?_
                refine me_callSi (As := [.int (ip k)]) (rest := []) hC hl.1 hM (c_X8_isDigit l D tb X z0 n _ (ip k) ) (ks_X8_181 hw rfl rfl ⟨Nat.le_of_ble_eq_true rfl, Nat.le_of_ble_eq_true rfl⟩) rfl rfl (Nat.le_of_ble_eq_true rfl) dX8_next_209 ⟨Nat.le_of_ble_eq_true rfl, Nat.le_of_ble_eq_true rfl⟩ (fun H locs hM => ?_)
                refine lv_if_eq (tgt := 325) hx hb dX8_next_212 (by decide) (fun c_7 => ?_) (fun c_7 => ?_)
                · have c_7 := b1_0.mp c_7
                  refine lv_aload_n hx hb dX8_next_325 rfl (lv_at hl 1 rfl) ?_
                  refine lv_aload_n hx hb dX8_next_326 rfl (lv_at hl 1 rfl) ?_
                  refine fg_X8_172 hC hM mq_F rfl dX8_next_327 ?_
                  refine me_evi (y := nI k) rfl ?_
                  refine lv_iconst (v := 1) hx hb dX8_next_330 (by decide) ?_
                  refine lv_iadd hx hb dX8_next_331 ?_
                  refine me_evi (y := nI (k + 1)) (nx_add rfl (show (1 : Int32) = nI 1 from rfl)) ?_
                  refine fp_X8_169 hC hM mq_F (Nat.le_of_ble_eq_true rfl) (M2 := mq tb mo (pqF F (qKd pq, k, k + 1, qVa pq, qFl pq, qFa pq)) w av od sv sl nz ip ot M0) (mq_wF2 rfl) dX8_next_332 (fun H locs hM => ?_)
                  refine lv_aload_n hx hb dX8_next_335 rfl (lv_at hl 1 rfl) ?_
                  refine lv_aload_n hx hb dX8_next_336 rfl (lv_at hl 1 rfl) ?_
                  refine fg_X8_31 hC hM mq_F rfl dX8_next_337 ?_
                  refine lv_aload_n hx hb dX8_next_340 rfl (lv_at hl 1 rfl) ?_
                  refine fg_X8_172 hC hM mq_F rfl dX8_next_341 ?_
                  refine me_evi (y := nI k) rfl ?_
                  refine me_bald (k := k) hC hM mq_ip rfl (by omega) (by first | decide | omega) dX8_next_344 ?_
                  refine lv_bipush (v := 59) hx hb dX8_next_345 (by decide) ?_
                  refine lv_icmp_ne (tgt := 354) hx hb dX8_next_347 (by decide) (fun c_8 => ?_) (fun c_8 => ?_)
                  · refine lv_iconst (v := 4) hx hb dX8_next_354 (by decide) ?_
                    refine fp_X8_166 hC hM mq_F (Nat.le_of_ble_eq_true rfl) (M2 := mq tb mo (pqF F (4, k, k + 1, qVa pq, qFl pq, qFa pq)) w av od sv sl nz ip ot M0) (mq_wF2 rfl) dX8_next_355 (fun H locs hM => ?_)
                    exact me_vret hC hr hlk hM (mq_ps (by unfold mxP; rw [hs2]; unfold mx1; rw [if_neg c_5, if_neg c_6, if_neg c_7, if_neg c_8])) (rfl) dX8_next_358
                  · refine lv_iconst (v := 3) hx hb dX8_next_350 (by decide) ?_
                    refine lv_goto (tgt := 355) hx hb dX8_next_351 (by decide) ?_
                    refine fp_X8_166 hC hM mq_F (Nat.le_of_ble_eq_true rfl) (M2 := mq tb mo (pqF F (3, k, k + 1, qVa pq, qFl pq, qFa pq)) w av od sv sl nz ip ot M0) (mq_wF2 rfl) dX8_next_355 (fun H locs hM => ?_)
                    exact me_vret hC hr hlk hM (mq_ps (by unfold mxP; rw [hs2]; unfold mx1; rw [if_neg c_5, if_neg c_6, if_neg c_7, if_pos c_8])) (rfl) dX8_next_358
                · have c_7 := b1_n0.mp c_7
                  refine lv_aload_n hx hb dX8_next_215 rfl (lv_at hl 1 rfl) ?_
                  refine lv_iconst (v := 0) hx hb dX8_next_216 (by decide) ?_
                  refine fp_X8_184 hC hM mq_F (Nat.le_of_ble_eq_true rfl) (M2 := mq tb mo (pqF F (qKd pq, k, k, 0, qFl pq, qFa pq)) w av od sv sl nz ip ot M0) (mq_wF2 rfl) dX8_next_217 (fun H locs hM => ?_)
                  have lp_220 : ∀ (r2 : Nat) (k2 : Nat) (v : Int32) (H : Heap) (locs : List Loc) (ls : Array Slot), (k2 + r2 = len) → (k ≤ k2) → (drP ip (len - k) k = drP ip r2 k2) → (dvP ip k (len - k) k 0 = dvP ip k r2 k2 v) → me_at D z0 (mq tb mo (pqF F (qKd pq, k, k2, v, qFl pq, qFa pq)) w av od sv sl nz ip ot M0) n s H locs → lv_has ls 3 [(0, .ref mo), (1, .int 1), (2, .int 0)] → W p l e (({ frames := 1, cells := 0, slots := 0, locals := 20 } : Room)) s m args below meth c H locs 0 0 (MQ below (me_Qv D z0 (mq tb mo (pqF F (mxP ip len pq)) w av od sv sl nz ip ot M0) n) args s 0 0 (me_A z0)) (F0 m 220 ls []) := by
                    intro r2
                    refine Nat.strongRecOn r2 ?_
                    intro r2 ih_220 k2 v H locs ls hk2 hk3 hd2 hv2 hM hl
                    refine lv_aload_n hx hb dX8_next_220 rfl (lv_at hl 0 rfl) ?_
                    refine fg_X8_169 hC hM mq_F rfl dX8_next_221 ?_
                    refine me_evi (y := nI k2) rfl ?_
                    refine lv_aload_n hx hb dX8_next_224 rfl (lv_at hl 0 rfl) ?_
                    refine fg_X8_175 hC hM mq_F rfl dX8_next_225 ?_
                    refine me_evi (y := F 7) rfl ?_
                    refine lv_icmp_ge (tgt := 296) hx hb dX8_next_228 (by decide) (fun c_9 => ?_) (fun c_9 => ?_)
                    · have c_9 := (br_le hln rfl (by omega) (by omega)).mp c_9
                      have hd3 : drP ip (len - k) k = k2 := by rw [hd2, show r2 = 0 by omega]; rfl
                      have hv3 : dvP ip k (len - k) k 0 = v := by rw [hv2, show r2 = 0 by omega]; rfl
                      refine lv_aload_n hx hb dX8_next_296 rfl (lv_at hl 0 rfl) ?_
                      refine lv_iload_n hx hb dX8_next_297 rfl (lv_at hl 2 rfl) ?_
                      refine lv_if_ne (tgt := 314) hx hb dX8_next_298 (by decide) (fun c_10 => ?_) (fun c_10 => ?_)
                      · exact absurd c_10 (by decide)
                      · refine lv_aload_n hx hb dX8_next_301 rfl (lv_at hl 0 rfl) ?_
                        refine fg_X8_169 hC hM mq_F rfl dX8_next_302 ?_
                        refine me_evi (y := nI k2) rfl ?_
                        refine lv_aload_n hx hb dX8_next_305 rfl (lv_at hl 0 rfl) ?_
                        refine fg_X8_172 hC hM mq_F rfl dX8_next_306 ?_
                        refine me_evi (y := nI k) rfl ?_
                        refine lv_isub hx hb dX8_next_309 ?_
                        refine lv_iconst (v := 4) hx hb dX8_next_310 (by decide) ?_
                        refine lv_icmp_le (tgt := 318) hx hb dX8_next_311 (by decide) (fun c_11 => ?_) (fun c_11 => ?_)
                        · have c_11 := (br_le (nx_sub rfl rfl (by omega)) (nx_c 4) (by omega) (by omega)).mp c_11
                          refine lv_iconst (v := 2) hx hb dX8_next_318 (by decide) ?_
                          refine fp_X8_166 hC hM mq_F (Nat.le_of_ble_eq_true rfl) (M2 := mq tb mo (pqF F (2, k, k2, v, qFl pq, qFa pq)) w av od sv sl nz ip ot M0) (mq_wF2 rfl) dX8_next_319 (fun H locs hM => ?_)
                          refine lv_goto (tgt := 358) hx hb dX8_next_322 (by decide) ?_
                          exact me_vret hC hr hlk hM (mq_ps (by unfold mxP; rw [hs2]; unfold mx1; rw [if_neg c_5, if_neg c_6, if_pos c_7, hd3, hv3, if_neg (fun z => z.elim (fun z => c_4 z.2) (fun z => absurd z (by omega)))])) (rfl) dX8_next_358
                        · have c_11 := (not_congr (br_le (nx_sub rfl rfl (by omega)) (nx_c 4) (by omega) (by omega))).mp c_11
                          refine lv_iconst (v := 4) hx hb dX8_next_314 (by decide) ?_
                          refine lv_goto (tgt := 319) hx hb dX8_next_315 (by decide) ?_
                          refine fp_X8_166 hC hM mq_F (Nat.le_of_ble_eq_true rfl) (M2 := mq tb mo (pqF F (4, k, k2, v, qFl pq, qFa pq)) w av od sv sl nz ip ot M0) (mq_wF2 rfl) dX8_next_319 (fun H locs hM => ?_)
                          refine lv_goto (tgt := 358) hx hb dX8_next_322 (by decide) ?_
                          exact me_vret hC hr hlk hM (mq_ps (by unfold mxP; rw [hs2]; unfold mx1; rw [if_neg c_5, if_neg c_6, if_pos c_7, hd3, hv3, if_pos (Or.inr (by omega))])) (rfl) dX8_next_358
                    · have c_9 := (not_congr (br_le hln rfl (by omega) (by omega))).mp c_9
                      obtain ⟨r3, rfl⟩ : ∃ r3, r2 = r3 + 1 := ⟨r2 - 1, by omega⟩
                      refine lv_aload_n hx hb dX8_next_231 rfl (lv_at hl 0 rfl) ?_
                      refine fg_X8_31 hC hM mq_F rfl dX8_next_232 ?_
                      refine lv_aload_n hx hb dX8_next_235 rfl (lv_at hl 0 rfl) ?_
                      refine fg_X8_169 hC hM mq_F rfl dX8_next_236 ?_
                      refine me_evi (y := nI k2) rfl ?_
                      refine me_bald (k := k2) hC hM mq_ip rfl (by omega) (by first | decide | omega) dX8_next_239 ?_
                      refine me_callSi (As := [.int (ip k2)]) (rest := []) hC hl.1 hM (c_X8_isDigit l D tb X z0 n _ (ip k2) ) (ks_X8_181 hw rfl rfl ⟨Nat.le_of_ble_eq_true rfl, Nat.le_of_ble_eq_true rfl⟩) rfl rfl (Nat.le_of_ble_eq_true rfl) dX8_next_240 ⟨Nat.le_of_ble_eq_true rfl, Nat.le_of_ble_eq_true rfl⟩ (fun H locs hM => ?_)
                      refine lv_if_eq (tgt := 296) hx hb dX8_next_243 (by decide) (fun c_12 => ?_) (fun c_12 => ?_)
                      · have c_12 := b1_0.mp c_12
                        have hd3 : drP ip (len - k) k = k2 := hd2.trans (drP_f c_12)
                        have hv3 : dvP ip k (len - k) k 0 = v := hv2.trans (dvP_f c_12)
                        refine lv_aload_n hx hb dX8_next_296 rfl (lv_at hl 0 rfl) ?_
                        refine lv_iload_n hx hb dX8_next_297 rfl (lv_at hl 2 rfl) ?_
                        refine lv_if_ne (tgt := 314) hx hb dX8_next_298 (by decide) (fun c_13 => ?_) (fun c_13 => ?_)
                        · exact absurd c_13 (by decide)
                        · refine lv_aload_n hx hb dX8_next_301 rfl (lv_at hl 0 rfl) ?_
                          refine fg_X8_169 hC hM mq_F rfl dX8_next_302 ?_
                          refine me_evi (y := nI k2) rfl ?_
                          refine lv_aload_n hx hb dX8_next_305 rfl (lv_at hl 0 rfl) ?_
                          refine fg_X8_172 hC hM mq_F rfl dX8_next_306 ?_
                          refine me_evi (y := nI k) rfl ?_
                          refine lv_isub hx hb dX8_next_309 ?_
                          refine lv_iconst (v := 4) hx hb dX8_next_310 (by decide) ?_
                          refine lv_icmp_le (tgt := 318) hx hb dX8_next_311 (by decide) (fun c_14 => ?_) (fun c_14 => ?_)
                          · have c_14 := (br_le (nx_sub rfl rfl (by omega)) (nx_c 4) (by omega) (by omega)).mp c_14
                            refine lv_iconst (v := 2) hx hb dX8_next_318 (by decide) ?_
                            refine fp_X8_166 hC hM mq_F (Nat.le_of_ble_eq_true rfl) (M2 := mq tb mo (pqF F (2, k, k2, v, qFl pq, qFa pq)) w av od sv sl nz ip ot M0) (mq_wF2 rfl) dX8_next_319 (fun H locs hM => ?_)
                            refine lv_goto (tgt := 358) hx hb dX8_next_322 (by decide) ?_
                            exact me_vret hC hr hlk hM (mq_ps (by unfold mxP; rw [hs2]; unfold mx1; rw [if_neg c_5, if_neg c_6, if_pos c_7, hd3, hv3, if_neg (fun z => z.elim (fun z => c_4 z.2) (fun z => absurd z (by omega)))])) (rfl) dX8_next_358
                          · have c_14 := (not_congr (br_le (nx_sub rfl rfl (by omega)) (nx_c 4) (by omega) (by omega))).mp c_14
                            refine lv_iconst (v := 4) hx hb dX8_next_314 (by decide) ?_
                            refine lv_goto (tgt := 319) hx hb dX8_next_315 (by decide) ?_
                            refine fp_X8_166 hC hM mq_F (Nat.le_of_ble_eq_true rfl) (M2 := mq tb mo (pqF F (4, k, k2, v, qFl pq, qFa pq)) w av od sv sl nz ip ot M0) (mq_wF2 rfl) dX8_next_319 (fun H locs hM => ?_)
                            refine lv_goto (tgt := 358) hx hb dX8_next_322 (by decide) ?_
                            exact me_vret hC hr hlk hM (mq_ps (by unfold mxP; rw [hs2]; unfold mx1; rw [if_neg c_5, if_neg c_6, if_pos c_7, hd3, hv3, if_pos (Or.inr (by omega))])) (rfl) dX8_next_358
                      · have c_12 := b1_n0.mp c_12
                        refine lv_aload_n hx hb dX8_next_246 rfl (lv_at hl 0 rfl) ?_
                        refine fg_X8_169 hC hM mq_F rfl dX8_next_247 ?_
                        refine me_evi (y := nI k2) rfl ?_
                        refine lv_aload_n hx hb dX8_next_250 rfl (lv_at hl 0 rfl) ?_
                        refine fg_X8_172 hC hM mq_F rfl dX8_next_251 ?_
                        refine me_evi (y := nI k) rfl ?_
                        refine lv_isub hx hb dX8_next_254 ?_
                        refine lv_iconst (v := 4) hx hb dX8_next_255 (by decide) ?_
                        refine lv_icmp_ge (tgt := 283) hx hb dX8_next_256 (by decide) (fun c_15 => ?_) (fun c_15 => ?_)
                        · have c_15 := (br_le (nx_c 4) (nx_sub rfl rfl (by omega)) (by omega) (by omega)).mp c_15
                          refine lv_aload_n hx hb dX8_next_283 rfl (lv_at hl 0 rfl) ?_
                          refine lv_dup hx hb dX8_next_284 rfl ?_
                          refine fg_X8_169 hC hM mq_F rfl dX8_next_285 ?_
                          refine me_evi (y := nI k2) rfl ?_
                          refine lv_iconst (v := 1) hx hb dX8_next_288 (by decide) ?_
                          refine lv_iadd hx hb dX8_next_289 ?_
                          refine me_evi (y := nI (k2 + 1)) (nx_add rfl (show (1 : Int32) = nI 1 from rfl)) ?_
                          refine fp_X8_169 hC hM mq_F (Nat.le_of_ble_eq_true rfl) (M2 := mq tb mo (pqF F (qKd pq, k, k2 + 1, v, qFl pq, qFa pq)) w av od sv sl nz ip ot M0) (mq_wF2 rfl) dX8_next_290 (fun H locs hM => ?_)
                          refine lv_goto (tgt := 220) hx hb dX8_next_293 (by decide) ?_
                          exact ih_220 r3 (by omega) (k2 + 1) v _ _ _ (by omega) (by omega) (hd2.trans (drP_t c_12)) (hv2.trans (dvP_b c_12 (by omega))) hM (lv_sub hl [0, 1, 2] rfl)
                        · have c_15 := (not_congr (br_le (nx_c 4) (nx_sub rfl rfl (by omega)) (by omega) (by omega))).mp c_15
                          refine lv_aload_n hx hb dX8_next_259 rfl (lv_at hl 0 rfl) ?_
                          refine lv_bipush (v := 10) hx hb dX8_next_260 (by decide) ?_
                          refine lv_aload_n hx hb dX8_next_262 rfl (lv_at hl 0 rfl) ?_
                          refine fg_X8_184 hC hM mq_F rfl dX8_next_263 ?_
                          refine me_evi (y := v) rfl ?_
                          refine lv_imul hx hb dX8_next_266 ?_
                          refine lv_aload_n hx hb dX8_next_267 rfl (lv_at hl 0 rfl) ?_
                          refine fg_X8_31 hC hM mq_F rfl dX8_next_268 ?_
                          refine lv_aload_n hx hb dX8_next_271 rfl (lv_at hl 0 rfl) ?_
                          refine fg_X8_169 hC hM mq_F rfl dX8_next_272 ?_
                          refine me_evi (y := nI k2) rfl ?_
                          refine me_bald (k := k2) hC hM mq_ip rfl (by omega) (by first | decide | omega) dX8_next_275 ?_
                          refine lv_iadd hx hb dX8_next_276 ?_
                          refine lv_bipush (v := 48) hx hb dX8_next_277 (by decide) ?_
                          refine lv_isub hx hb dX8_next_279 ?_
                          refine fp_X8_184 hC hM mq_F (Nat.le_of_ble_eq_true rfl) (M2 := mq tb mo (pqF F (qKd pq, k, k2, ((10 * v) + (ip k2)) - 48, qFl pq, qFa pq)) w av od sv sl nz ip ot M0) (mq_wF2 rfl) dX8_next_280 (fun H locs hM => ?_)
                          refine lv_aload_n hx hb dX8_next_283 rfl (lv_at hl 0 rfl) ?_
                          refine lv_dup hx hb dX8_next_284 rfl ?_
                          refine fg_X8_169 hC hM mq_F rfl dX8_next_285 ?_
                          refine me_evi (y := nI k2) rfl ?_
                          refine lv_iconst (v := 1) hx hb dX8_next_288 (by decide) ?_
                          refine lv_iadd hx hb dX8_next_289 ?_
                          refine me_evi (y := nI (k2 + 1)) (nx_add rfl (show (1 : Int32) = nI 1 from rfl)) ?_
                          refine fp_X8_169 hC hM mq_F (Nat.le_of_ble_eq_true rfl) (M2 := mq tb mo (pqF F (qKd pq, k, k2 + 1, ((10 * v) + (ip k2)) - 48, qFl pq, qFa pq)) w av od sv sl nz ip ot M0) (mq_wF2 rfl) dX8_next_290 (fun H locs hM => ?_)
                          refine lv_goto (tgt := 220) hx hb dX8_next_293 (by decide) ?_
                          exact ih_220 r3 (by omega) (k2 + 1) (10 * v + ip k2 - 48) _ _ _ (by omega) (by omega) (hd2.trans (drP_t c_12)) (hv2.trans (dvP_a c_12 (by omega))) hM (lv_sub hl [0, 1, 2] rfl)
                  exact lp_220 (len - k) k 0 _ _ _ (by omega) (by omega) rfl rfl hM (lv_sub hl [1, 2, 0] rfl)
              · have c_6 := b1_n0.mp c_6
                have lp_145 : ∀ (r2 : Nat) (k2 : Nat) (H : Heap) (locs : List Loc) (ls : Array Slot), (k2 + r2 = len) → (k ≤ k2) → (lrP ip (len - k) k = lrP ip r2 k2) → me_at D z0 (mq tb mo (pqF F (qKd pq, k, k2, qVa pq, qFl pq, qFa pq)) w av od sv sl nz ip ot M0) n s H locs → lv_has ls 3 [(0, .ref mo), (1, .int 1), (2, .int 0)] → W p l e (({ frames := 1, cells := 0, slots := 0, locals := 20 } : Room)) s m args below meth c H locs 0 0 (MQ below (me_Qv D z0 (mq tb mo (pqF F (mxP ip len pq)) w av od sv sl nz ip ot M0) n) args s 0 0 (me_A z0)) (F0 m 145 ls []) := by
                  intro r2
                  refine Nat.strongRecOn r2 ?_
                  intro r2 ih_145 k2 H locs ls hk2 hk3 hl2 hM hl
                  refine lv_aload_n hx hb dX8_next_145 rfl (lv_at hl 0 rfl) ?_
                  refine fg_X8_169 hC hM mq_F rfl dX8_next_146 ?_
                  refine me_evi (y := nI k2) rfl ?_
                  refine lv_aload_n hx hb dX8_next_149 rfl (lv_at hl 0 rfl) ?_
                  refine fg_X8_175 hC hM mq_F rfl dX8_next_150 ?_
                  refine me_evi (y := F 7) rfl ?_
                  refine lv_icmp_ge (tgt := 184) hx hb dX8_next_153 (by decide) (fun c_16 => ?_) (fun c_16 => ?_)
                  · have c_16 := (br_le hln rfl (by omega) (by omega)).mp c_16
                    have hl3 : lrP ip (len - k) k = k2 := by rw [hl2, show r2 = 0 by omega]; rfl
                    refine lv_aload_n hx hb dX8_next_184 rfl (lv_at hl 0 rfl) ?_
                    refine lv_iload_n hx hb dX8_next_185 rfl (lv_at hl 2 rfl) ?_
                    refine lv_if_eq (tgt := 193) hx hb dX8_next_186 (by decide) (fun c_17 => ?_) (fun c_17 => ?_)
                    · refine lv_iconst (v := 1) hx hb dX8_next_193 (by decide) ?_
                      refine fp_X8_166 hC hM mq_F (Nat.le_of_ble_eq_true rfl) (M2 := mq tb mo (pqF F (1, k, k2, qVa pq, qFl pq, qFa pq)) w av od sv sl nz ip ot M0) (mq_wF2 rfl) dX8_next_194 (fun H locs hM => ?_)
                      refine lv_goto (tgt := 358) hx hb dX8_next_197 (by decide) ?_
                      exact me_vret hC hr hlk hM (mq_ps (by unfold mxP; rw [hs2]; unfold mx1; rw [if_neg c_5, if_pos c_6, hl3, if_neg (fun z => c_4 z.2)])) (rfl) dX8_next_358
                    · exact absurd c_17 (by decide)
                  · have c_16 := (not_congr (br_le hln rfl (by omega) (by omega))).mp c_16
                    obtain ⟨r3, rfl⟩ : ∃ r3, r2 = r3 + 1 := ⟨r2 - 1, by omega⟩
                    refine lv_aload_n hx hb dX8_next_156 rfl (lv_at hl 0 rfl) ?_
                    refine fg_X8_31 hC hM mq_F rfl dX8_next_157 ?_
                    refine lv_aload_n hx hb dX8_next_160 rfl (lv_at hl 0 rfl) ?_
                    refine fg_X8_169 hC hM mq_F rfl dX8_next_161 ?_
                    refine me_evi (y := nI k2) rfl ?_
                    refine me_bald (k := k2) hC hM mq_ip rfl (by omega) (by first | decide | omega) dX8_next_164 ?_
                    refine me_callSi (As := [.int (ip k2)]) (rest := []) hC hl.1 hM (c_X8_isLetter l D tb X z0 n _ (ip k2) ) (ks_X8_178 hw rfl rfl ⟨Nat.le_of_ble_eq_true rfl, Nat.le_of_ble_eq_true rfl⟩) rfl rfl (Nat.le_of_ble_eq_true rfl) dX8_next_165 ⟨Nat.le_of_ble_eq_true rfl, Nat.le_of_ble_eq_true rfl⟩ (fun H locs hM => ?_)
                    refine lv_if_eq (tgt := 184) hx hb dX8_next_168 (by decide) (fun c_18 => ?_) (fun c_18 => ?_)
                    · have c_18 := b1_0.mp c_18
                      have hl3 : lrP ip (len - k) k = k2 := hl2.trans (lrP_f c_18)
                      refine lv_aload_n hx hb dX8_next_184 rfl (lv_at hl 0 rfl) ?_
                      refine lv_iload_n hx hb dX8_next_185 rfl (lv_at hl 2 rfl) ?_
                      refine lv_if_eq (tgt := 193) hx hb dX8_next_186 (by decide) (fun c_19 => ?_) (fun c_19 => ?_)
                      · refine lv_iconst (v := 1) hx hb dX8_next_193 (by decide) ?_
                        refine fp_X8_166 hC hM mq_F (Nat.le_of_ble_eq_true rfl) (M2 := mq tb mo (pqF F (1, k, k2, qVa pq, qFl pq, qFa pq)) w av od sv sl nz ip ot M0) (mq_wF2 rfl) dX8_next_194 (fun H locs hM => ?_)
                        refine lv_goto (tgt := 358) hx hb dX8_next_197 (by decide) ?_
                        exact me_vret hC hr hlk hM (mq_ps (by unfold mxP; rw [hs2]; unfold mx1; rw [if_neg c_5, if_pos c_6, hl3, if_neg (fun z => c_4 z.2)])) (rfl) dX8_next_358
                      · exact absurd c_19 (by decide)
                    · have c_18 := b1_n0.mp c_18
                      refine lv_aload_n hx hb dX8_next_171 rfl (lv_at hl 0 rfl) ?_
                      refine lv_dup hx hb dX8_next_172 rfl ?_
                      refine fg_X8_169 hC hM mq_F rfl dX8_next_173 ?_
                      refine me_evi (y := nI k2) rfl ?_
                      refine lv_iconst (v := 1) hx hb dX8_next_176 (by decide) ?_
                      refine lv_iadd hx hb dX8_next_177 ?_
                      refine me_evi (y := nI (k2 + 1)) (nx_add rfl (show (1 : Int32) = nI 1 from rfl)) ?_
                      refine fp_X8_169 hC hM mq_F (Nat.le_of_ble_eq_true rfl) (M2 := mq tb mo (pqF F (qKd pq, k, k2 + 1, qVa pq, qFl pq, qFa pq)) w av od sv sl nz ip ot M0) (mq_wF2 rfl) dX8_next_178 (fun H locs hM => ?_)
                      refine lv_goto (tgt := 145) hx hb dX8_next_181 (by decide) ?_
                      exact ih_145 r3 (by omega) (k2 + 1) _ _ _ (by omega) (by omega) (hl2.trans (lrP_t c_18)) hM (lv_sub hl [0, 1, 2] rfl)
                exact lp_145 (len - k) k _ _ _ (by omega) (by omega) rfl hM (lv_sub hl [1, 2, 0] rfl)
            · have c_5 := (br_eq rfl hln (by omega) (by omega)).mp c_5
              refine lv_aload_n hx hb dX8_next_122 rfl (lv_at hl 1 rfl) ?_
              refine lv_iconst (v := 0) hx hb dX8_next_123 (by decide) ?_
              refine fp_X8_166 hC hM mq_F (Nat.le_of_ble_eq_true rfl) (M2 := mq tb mo (pqF F (0, k, k, qVa pq, qFl pq, qFa pq)) w av od sv sl nz ip ot M0) (mq_wF2 rfl) dX8_next_124 (fun H locs hM => ?_)
              refine lv_goto (tgt := 358) hx hb dX8_next_127 (by decide) ?_
              exact me_vret hC hr hlk hM (mq_ps (by unfold mxP; rw [hs2]; unfold mx1; rw [if_pos c_5])) (rfl) dX8_next_358
          · have c_4 := (br_eq rfl rfl (by omega) (by omega)).mp c_4
            refine lv_iconst (v := 1) hx hb dX8_next_97 (by decide) ?_
            refine lv_goto (tgt := 102) hx hb dX8_next_98 (by decide) ?_
            refine lv_istore_n (lv' := [(2, .int 1), (0, .ref mo), (1, .int 1)]) hx hb dX8_next_102 rfl hl (by decide) rfl (fun ls hl => ?_)
            refine lv_aload_n hx hb dX8_next_103 rfl (lv_at hl 1 rfl) ?_
            refine lv_aload_n hx hb dX8_next_104 rfl (lv_at hl 1 rfl) ?_
            refine fg_X8_172 hC hM mq_F rfl dX8_next_105 ?_
            refine me_evi (y := nI k) rfl ?_
            refine fp_X8_169 hC hM mq_F (Nat.le_of_ble_eq_true rfl) (M2 := mq tb mo (pqF F (qKd pq, k, k, qVa pq, qFl pq, qFa pq)) w av od sv sl nz ip ot M0) (mq_wF2 rfl) dX8_next_108 (fun H locs hM => ?_)
            refine lv_aload_n hx hb dX8_next_111 rfl (lv_at hl 1 rfl) ?_
            refine fg_X8_172 hC hM mq_F rfl dX8_next_112 ?_
            refine me_evi (y := nI k) rfl ?_
            refine lv_aload_n hx hb dX8_next_115 rfl (lv_at hl 1 rfl) ?_
            refine fg_X8_175 hC hM mq_F rfl dX8_next_116 ?_
            refine me_evi (y := F 7) rfl ?_
            refine lv_icmp_ne (tgt := 130) hx hb dX8_next_119 (by decide) (fun c_20 => ?_) (fun c_20 => ?_)
            · have c_20 := (not_congr (br_eq rfl hln (by omega) (by omega))).mp c_20
              refine lv_aload_n hx hb dX8_next_130 rfl (lv_at hl 1 rfl) ?_
              refine fg_X8_31 hC hM mq_F rfl dX8_next_131 ?_
              refine lv_aload_n hx hb dX8_next_134 rfl (lv_at hl 1 rfl) ?_
              refine fg_X8_172 hC hM mq_F rfl dX8_next_135 ?_
              refine me_evi (y := nI k) rfl ?_
              refine me_bald (k := k) hC hM mq_ip rfl (by omega) (by first | decide | omega) dX8_next_138 ?_
              refine me_callSi (As := [.int (ip k)]) (rest := []) hC hl.1 hM (c_X8_isLetter l D tb X z0 n _ (ip k) ) (ks_X8_178 hw rfl rfl ⟨Nat.le_of_ble_eq_true rfl, Nat.le_of_ble_eq_true rfl⟩) rfl rfl (Nat.le_of_ble_eq_true rfl) dX8_next_139 ⟨Nat.le_of_ble_eq_true rfl, Nat.le_of_ble_eq_true rfl⟩ (fun H locs hM => ?_)
              refine lv_if_eq (tgt := 200) hx hb dX8_next_142 (by decide) (fun c_21 => ?_) (fun c_21 => ?_)
              · have c_21 := b1_0.mp c_21
                refine lv_aload_n hx hb dX8_next_200 rfl (lv_at hl 1 rfl) ?_
                refine fg_X8_31 hC hM mq_F rfl dX8_next_201 ?_
                refine lv_aload_n hx hb dX8_next_204 rfl (lv_at hl 1 rfl) ?_
                refine fg_X8_172 hC hM mq_F rfl dX8_next_205 ?_
                refine me_evi (y := nI k) rfl ?_
                refine me_bald (k := k) hC hM mq_ip rfl (by omega) (by first | decide | omega) dX8_next_208 ?_
                refine me_callSi (As := [.int (ip k)]) (rest := []) hC hl.1 hM (c_X8_isDigit l D tb X z0 n _ (ip k) ) (ks_X8_181 hw rfl rfl ⟨Nat.le_of_ble_eq_true rfl, Nat.le_of_ble_eq_true rfl⟩) rfl rfl (Nat.le_of_ble_eq_true rfl) dX8_next_209 ⟨Nat.le_of_ble_eq_true rfl, Nat.le_of_ble_eq_true rfl⟩ (fun H locs hM => ?_)
                refine lv_if_eq (tgt := 325) hx hb dX8_next_212 (by decide) (fun c_22 => ?_) (fun c_22 => ?_)
                · have c_22 := b1_0.mp c_22
                  refine lv_aload_n hx hb dX8_next_325 rfl (lv_at hl 1 rfl) ?_
                  refine lv_aload_n hx hb dX8_next_326 rfl (lv_at hl 1 rfl) ?_
                  refine fg_X8_172 hC hM mq_F rfl dX8_next_327 ?_
                  refine me_evi (y := nI k) rfl ?_
                  refine lv_iconst (v := 1) hx hb dX8_next_330 (by decide) ?_
                  refine lv_iadd hx hb dX8_next_331 ?_
                  refine me_evi (y := nI (k + 1)) (nx_add rfl (show (1 : Int32) = nI 1 from rfl)) ?_
                  refine fp_X8_169 hC hM mq_F (Nat.le_of_ble_eq_true rfl) (M2 := mq tb mo (pqF F (qKd pq, k, k + 1, qVa pq, qFl pq, qFa pq)) w av od sv sl nz ip ot M0) (mq_wF2 rfl) dX8_next_332 (fun H locs hM => ?_)
                  refine lv_aload_n hx hb dX8_next_335 rfl (lv_at hl 1 rfl) ?_
                  refine lv_aload_n hx hb dX8_next_336 rfl (lv_at hl 1 rfl) ?_
                  refine fg_X8_31 hC hM mq_F rfl dX8_next_337 ?_
                  refine lv_aload_n hx hb dX8_next_340 rfl (lv_at hl 1 rfl) ?_
                  refine fg_X8_172 hC hM mq_F rfl dX8_next_341 ?_
                  refine me_evi (y := nI k) rfl ?_
                  refine me_bald (k := k) hC hM mq_ip rfl (by omega) (by first | decide | omega) dX8_next_344 ?_
                  refine lv_bipush (v := 59) hx hb dX8_next_345 (by decide) ?_
                  refine lv_icmp_ne (tgt := 354) hx hb dX8_next_347 (by decide) (fun c_23 => ?_) (fun c_23 => ?_)
                  · refine lv_iconst (v := 4) hx hb dX8_next_354 (by decide) ?_
                    refine fp_X8_166 hC hM mq_F (Nat.le_of_ble_eq_true rfl) (M2 := mq tb mo (pqF F (4, k, k + 1, qVa pq, qFl pq, qFa pq)) w av od sv sl nz ip ot M0) (mq_wF2 rfl) dX8_next_355 (fun H locs hM => ?_)
                    exact me_vret hC hr hlk hM (mq_ps (by unfold mxP; rw [hs2]; unfold mx1; rw [if_neg c_20, if_neg c_21, if_neg c_22, if_neg c_23])) (rfl) dX8_next_358
                  · refine lv_iconst (v := 3) hx hb dX8_next_350 (by decide) ?_
                    refine lv_goto (tgt := 355) hx hb dX8_next_351 (by decide) ?_
                    refine fp_X8_166 hC hM mq_F (Nat.le_of_ble_eq_true rfl) (M2 := mq tb mo (pqF F (3, k, k + 1, qVa pq, qFl pq, qFa pq)) w av od sv sl nz ip ot M0) (mq_wF2 rfl) dX8_next_355 (fun H locs hM => ?_)
                    exact me_vret hC hr hlk hM (mq_ps (by unfold mxP; rw [hs2]; unfold mx1; rw [if_neg c_20, if_neg c_21, if_neg c_22, if_pos c_23])) (rfl) dX8_next_358
                · have c_22 := b1_n0.mp c_22
                  refine lv_aload_n hx hb dX8_next_215 rfl (lv_at hl 1 rfl) ?_
                  refine lv_iconst (v := 0) hx hb dX8_next_216 (by decide) ?_
                  refine fp_X8_184 hC hM mq_F (Nat.le_of_ble_eq_true rfl) (M2 := mq tb mo (pqF F (qKd pq, k, k, 0, qFl pq, qFa pq)) w av od sv sl nz ip ot M0) (mq_wF2 rfl) dX8_next_217 (fun H locs hM => ?_)
                  have lp_220 : ∀ (r2 : Nat) (k2 : Nat) (v : Int32) (H : Heap) (locs : List Loc) (ls : Array Slot), (k2 + r2 = len) → (k ≤ k2) → (drP ip (len - k) k = drP ip r2 k2) → (dvP ip k (len - k) k 0 = dvP ip k r2 k2 v) → me_at D z0 (mq tb mo (pqF F (qKd pq, k, k2, v, qFl pq, qFa pq)) w av od sv sl nz ip ot M0) n s H locs → lv_has ls 3 [(0, .ref mo), (1, .int 1), (2, .int 1)] → W p l e (({ frames := 1, cells := 0, slots := 0, locals := 20 } : Room)) s m args below meth c H locs 0 0 (MQ below (me_Qv D z0 (mq tb mo (pqF F (mxP ip len pq)) w av od sv sl nz ip ot M0) n) args s 0 0 (me_A z0)) (F0 m 220 ls []) := by
                    intro r2
                    refine Nat.strongRecOn r2 ?_
                    intro r2 ih_220 k2 v H locs ls hk2 hk3 hd2 hv2 hM hl
                    refine lv_aload_n hx hb dX8_next_220 rfl (lv_at hl 0 rfl) ?_
                    refine fg_X8_169 hC hM mq_F rfl dX8_next_221 ?_
                    refine me_evi (y := nI k2) rfl ?_
                    refine lv_aload_n hx hb dX8_next_224 rfl (lv_at hl 0 rfl) ?_
                    refine fg_X8_175 hC hM mq_F rfl dX8_next_225 ?_
                    refine me_evi (y := F 7) rfl ?_
                    refine lv_icmp_ge (tgt := 296) hx hb dX8_next_228 (by decide) (fun c_24 => ?_) (fun c_24 => ?_)
                    · have c_24 := (br_le hln rfl (by omega) (by omega)).mp c_24
                      have hd3 : drP ip (len - k) k = k2 := by rw [hd2, show r2 = 0 by omega]; rfl
                      have hv3 : dvP ip k (len - k) k 0 = v := by rw [hv2, show r2 = 0 by omega]; rfl
                      refine lv_aload_n hx hb dX8_next_296 rfl (lv_at hl 0 rfl) ?_
                      refine lv_iload_n hx hb dX8_next_297 rfl (lv_at hl 2 rfl) ?_
                      refine lv_if_ne (tgt := 314) hx hb dX8_next_298 (by decide) (fun c_25 => ?_) (fun c_25 => ?_)
                      · refine lv_iconst (v := 4) hx hb dX8_next_314 (by decide) ?_
                        refine lv_goto (tgt := 319) hx hb dX8_next_315 (by decide) ?_
                        refine fp_X8_166 hC hM mq_F (Nat.le_of_ble_eq_true rfl) (M2 := mq tb mo (pqF F (4, k, k2, v, qFl pq, qFa pq)) w av od sv sl nz ip ot M0) (mq_wF2 rfl) dX8_next_319 (fun H locs hM => ?_)
                        refine lv_goto (tgt := 358) hx hb dX8_next_322 (by decide) ?_
                        exact me_vret hC hr hlk hM (mq_ps (by unfold mxP; rw [hs2]; unfold mx1; rw [if_neg c_20, if_neg c_21, if_pos c_22, hd3, hv3, if_pos (Or.inl ⟨(Or.inl c_1), c_4⟩)])) (rfl) dX8_next_358
                      · exact absurd c_25 (by decide)
                    · have c_24 := (not_congr (br_le hln rfl (by omega) (by omega))).mp c_24
                      obtain ⟨r3, rfl⟩ : ∃ r3, r2 = r3 + 1 := ⟨r2 - 1, by omega⟩
                      refine lv_aload_n hx hb dX8_next_231 rfl (lv_at hl 0 rfl) ?_
                      refine fg_X8_31 hC hM mq_F rfl dX8_next_232 ?_
                      refine lv_aload_n hx hb dX8_next_235 rfl (lv_at hl 0 rfl) ?_
                      refine fg_X8_169 hC hM mq_F rfl dX8_next_236 ?_
                      refine me_evi (y := nI k2) rfl ?_
                      refine me_bald (k := k2) hC hM mq_ip rfl (by omega) (by first | decide | omega) dX8_next_239 ?_
                      refine me_callSi (As := [.int (ip k2)]) (rest := []) hC hl.1 hM (c_X8_isDigit l D tb X z0 n _ (ip k2) ) (ks_X8_181 hw rfl rfl ⟨Nat.le_of_ble_eq_true rfl, Nat.le_of_ble_eq_true rfl⟩) rfl rfl (Nat.le_of_ble_eq_true rfl) dX8_next_240 ⟨Nat.le_of_ble_eq_true rfl, Nat.le_of_ble_eq_true rfl⟩ (fun H locs hM => ?_)
                      refine lv_if_eq (tgt := 296) hx hb dX8_next_243 (by decide) (fun c_26 => ?_) (fun c_26 => ?_)
                      · have c_26 := b1_0.mp c_26
                        have hd3 : drP ip (len - k) k = k2 := hd2.trans (drP_f c_26)
                        have hv3 : dvP ip k (len - k) k 0 = v := hv2.trans (dvP_f c_26)
                        refine lv_aload_n hx hb dX8_next_296 rfl (lv_at hl 0 rfl) ?_
                        refine lv_iload_n hx hb dX8_next_297 rfl (lv_at hl 2 rfl) ?_
                        refine lv_if_ne (tgt := 314) hx hb dX8_next_298 (by decide) (fun c_27 => ?_) (fun c_27 => ?_)
                        · refine lv_iconst (v := 4) hx hb dX8_next_314 (by decide) ?_
                          refine lv_goto (tgt := 319) hx hb dX8_next_315 (by decide) ?_
                          refine fp_X8_166 hC hM mq_F (Nat.le_of_ble_eq_true rfl) (M2 := mq tb mo (pqF F (4, k, k2, v, qFl pq, qFa pq)) w av od sv sl nz ip ot M0) (mq_wF2 rfl) dX8_next_319 (fun H locs hM => ?_)
                          refine lv_goto (tgt := 358) hx hb dX8_next_322 (by decide) ?_
                          exact me_vret hC hr hlk hM (mq_ps (by unfold mxP; rw [hs2]; unfold mx1; rw [if_neg c_20, if_neg c_21, if_pos c_22, hd3, hv3, if_pos (Or.inl ⟨(Or.inl c_1), c_4⟩)])) (rfl) dX8_next_358
                        · exact absurd c_27 (by decide)
                      · have c_26 := b1_n0.mp c_26
                        refine lv_aload_n hx hb dX8_next_246 rfl (lv_at hl 0 rfl) ?_
                        refine fg_X8_169 hC hM mq_F rfl dX8_next_247 ?_
                        refine me_evi (y := nI k2) rfl ?_
                        refine lv_aload_n hx hb dX8_next_250 rfl (lv_at hl 0 rfl) ?_
                        refine fg_X8_172 hC hM mq_F rfl dX8_next_251 ?_
                        refine me_evi (y := nI k) rfl ?_
                        refine lv_isub hx hb dX8_next_254 ?_
                        refine lv_iconst (v := 4) hx hb dX8_next_255 (by decide) ?_
                        refine lv_icmp_ge (tgt := 283) hx hb dX8_next_256 (by decide) (fun c_28 => ?_) (fun c_28 => ?_)
                        · have c_28 := (br_le (nx_c 4) (nx_sub rfl rfl (by omega)) (by omega) (by omega)).mp c_28
                          refine lv_aload_n hx hb dX8_next_283 rfl (lv_at hl 0 rfl) ?_
                          refine lv_dup hx hb dX8_next_284 rfl ?_
                          refine fg_X8_169 hC hM mq_F rfl dX8_next_285 ?_
                          refine me_evi (y := nI k2) rfl ?_
                          refine lv_iconst (v := 1) hx hb dX8_next_288 (by decide) ?_
                          refine lv_iadd hx hb dX8_next_289 ?_
                          refine me_evi (y := nI (k2 + 1)) (nx_add rfl (show (1 : Int32) = nI 1 from rfl)) ?_
                          refine fp_X8_169 hC hM mq_F (Nat.le_of_ble_eq_true rfl) (M2 := mq tb mo (pqF F (qKd pq, k, k2 + 1, v, qFl pq, qFa pq)) w av od sv sl nz ip ot M0) (mq_wF2 rfl) dX8_next_290 (fun H locs hM => ?_)
                          refine lv_goto (tgt := 220) hx hb dX8_next_293 (by decide) ?_
                          exact ih_220 r3 (by omega) (k2 + 1) v _ _ _ (by omega) (by omega) (hd2.trans (drP_t c_26)) (hv2.trans (dvP_b c_26 (by omega))) hM (lv_sub hl [0, 1, 2] rfl)
                        · have c_28 := (not_congr (br_le (nx_c 4) (nx_sub rfl rfl (by omega)) (by omega) (by omega))).mp c_28
                          refine lv_aload_n hx hb dX8_next_259 rfl (lv_at hl 0 rfl) ?_
                          refine lv_bipush (v := 10) hx hb dX8_next_260 (by decide) ?_
                          refine lv_aload_n hx hb dX8_next_262 rfl (lv_at hl 0 rfl) ?_
                          refine fg_X8_184 hC hM mq_F rfl dX8_next_263 ?_
                          refine me_evi (y := v) rfl ?_
                          refine lv_imul hx hb dX8_next_266 ?_
                          refine lv_aload_n hx hb dX8_next_267 rfl (lv_at hl 0 rfl) ?_
                          refine fg_X8_31 hC hM mq_F rfl dX8_next_268 ?_
                          refine lv_aload_n hx hb dX8_next_271 rfl (lv_at hl 0 rfl) ?_
                          refine fg_X8_169 hC hM mq_F rfl dX8_next_272 ?_
                          refine me_evi (y := nI k2) rfl ?_
                          refine me_bald (k := k2) hC hM mq_ip rfl (by omega) (by first | decide | omega) dX8_next_275 ?_
                          refine lv_iadd hx hb dX8_next_276 ?_
                          refine lv_bipush (v := 48) hx hb dX8_next_277 (by decide) ?_
                          refine lv_isub hx hb dX8_next_279 ?_
                          refine fp_X8_184 hC hM mq_F (Nat.le_of_ble_eq_true rfl) (M2 := mq tb mo (pqF F (qKd pq, k, k2, ((10 * v) + (ip k2)) - 48, qFl pq, qFa pq)) w av od sv sl nz ip ot M0) (mq_wF2 rfl) dX8_next_280 (fun H locs hM => ?_)
                          refine lv_aload_n hx hb dX8_next_283 rfl (lv_at hl 0 rfl) ?_
                          refine lv_dup hx hb dX8_next_284 rfl ?_
                          refine fg_X8_169 hC hM mq_F rfl dX8_next_285 ?_
                          refine me_evi (y := nI k2) rfl ?_
                          refine lv_iconst (v := 1) hx hb dX8_next_288 (by decide) ?_
                          refine lv_iadd hx hb dX8_next_289 ?_
                          refine me_evi (y := nI (k2 + 1)) (nx_add rfl (show (1 : Int32) = nI 1 from rfl)) ?_
                          refine fp_X8_169 hC hM mq_F (Nat.le_of_ble_eq_true rfl) (M2 := mq tb mo (pqF F (qKd pq, k, k2 + 1, ((10 * v) + (ip k2)) - 48, qFl pq, qFa pq)) w av od sv sl nz ip ot M0) (mq_wF2 rfl) dX8_next_290 (fun H locs hM => ?_)
                          refine lv_goto (tgt := 220) hx hb dX8_next_293 (by decide) ?_
                          exact ih_220 r3 (by omega) (k2 + 1) (10 * v + ip k2 - 48) _ _ _ (by omega) (by omega) (hd2.trans (drP_t c_26)) (hv2.trans (dvP_a c_26 (by omega))) hM (lv_sub hl [0, 1, 2] rfl)
                  exact lp_220 (len - k) k 0 _ _ _ (by omega) (by omega) rfl rfl hM (lv_sub hl [1, 2, 0] rfl)
              · have c_21 := b1_n0.mp c_21
                have lp_145 : ∀ (r2 : Nat) (k2 : Nat) (H : Heap) (locs : List Loc) (ls : Array Slot), (k2 + r2 = len) → (k ≤ k2) → (lrP ip (len - k) k = lrP ip r2 k2) → me_at D z0 (mq tb mo (pqF F (qKd pq, k, k2, qVa pq, qFl pq, qFa pq)) w av od sv sl nz ip ot M0) n s H locs → lv_has ls 3 [(0, .ref mo), (1, .int 1), (2, .int 1)] → W p l e (({ frames := 1, cells := 0, slots := 0, locals := 20 } : Room)) s m args below meth c H locs 0 0 (MQ below (me_Qv D z0 (mq tb mo (pqF F (mxP ip len pq)) w av od sv sl nz ip ot M0) n) args s 0 0 (me_A z0)) (F0 m 145 ls []) := by
                  intro r2
                  refine Nat.strongRecOn r2 ?_
                  intro r2 ih_145 k2 H locs ls hk2 hk3 hl2 hM hl
                  refine lv_aload_n hx hb dX8_next_145 rfl (lv_at hl 0 rfl) ?_
                  refine fg_X8_169 hC hM mq_F rfl dX8_next_146 ?_
                  refine me_evi (y := nI k2) rfl ?_
                  refine lv_aload_n hx hb dX8_next_149 rfl (lv_at hl 0 rfl) ?_
                  refine fg_X8_175 hC hM mq_F rfl dX8_next_150 ?_
                  refine me_evi (y := F 7) rfl ?_
                  refine lv_icmp_ge (tgt := 184) hx hb dX8_next_153 (by decide) (fun c_29 => ?_) (fun c_29 => ?_)
                  · have c_29 := (br_le hln rfl (by omega) (by omega)).mp c_29
                    have hl3 : lrP ip (len - k) k = k2 := by rw [hl2, show r2 = 0 by omega]; rfl
                    refine lv_aload_n hx hb dX8_next_184 rfl (lv_at hl 0 rfl) ?_
                    refine lv_iload_n hx hb dX8_next_185 rfl (lv_at hl 2 rfl) ?_
                    refine lv_if_eq (tgt := 193) hx hb dX8_next_186 (by decide) (fun c_30 => ?_) (fun c_30 => ?_)
                    · exact absurd c_30 (by decide)
                    · refine lv_iconst (v := 4) hx hb dX8_next_189 (by decide) ?_
                      refine lv_goto (tgt := 194) hx hb dX8_next_190 (by decide) ?_
                      refine fp_X8_166 hC hM mq_F (Nat.le_of_ble_eq_true rfl) (M2 := mq tb mo (pqF F (4, k, k2, qVa pq, qFl pq, qFa pq)) w av od sv sl nz ip ot M0) (mq_wF2 rfl) dX8_next_194 (fun H locs hM => ?_)
                      refine lv_goto (tgt := 358) hx hb dX8_next_197 (by decide) ?_
                      exact me_vret hC hr hlk hM (mq_ps (by unfold mxP; rw [hs2]; unfold mx1; rw [if_neg c_20, if_pos c_21, hl3, if_pos (⟨(Or.inl c_1), c_4⟩)])) (rfl) dX8_next_358
                  · have c_29 := (not_congr (br_le hln rfl (by omega) (by omega))).mp c_29
                    obtain ⟨r3, rfl⟩ : ∃ r3, r2 = r3 + 1 := ⟨r2 - 1, by omega⟩
                    refine lv_aload_n hx hb dX8_next_156 rfl (lv_at hl 0 rfl) ?_
                    refine fg_X8_31 hC hM mq_F rfl dX8_next_157 ?_
                    refine lv_aload_n hx hb dX8_next_160 rfl (lv_at hl 0 rfl) ?_
                    refine fg_X8_169 hC hM mq_F rfl dX8_next_161 ?_
                    refine me_evi (y := nI k2) rfl ?_
                    refine me_bald (k := k2) hC hM mq_ip rfl (by omega) (by first | decide | omega) dX8_next_164 ?_
                    refine me_callSi (As := [.int (ip k2)]) (rest := []) hC hl.1 hM (c_X8_isLetter l D tb X z0 n _ (ip k2) ) (ks_X8_178 hw rfl rfl ⟨Nat.le_of_ble_eq_true rfl, Nat.le_of_ble_eq_true rfl⟩) rfl rfl (Nat.le_of_ble_eq_true rfl) dX8_next_165 ⟨Nat.le_of_ble_eq_true rfl, Nat.le_of_ble_eq_true rfl⟩ (fun H locs hM => ?_)
                    refine lv_if_eq (tgt := 184) hx hb dX8_next_168 (by decide) (fun c_31 => ?_) (fun c_31 => ?_)
                    · have c_31 := b1_0.mp c_31
                      have hl3 : lrP ip (len - k) k = k2 := hl2.trans (lrP_f c_31)
                      refine lv_aload_n hx hb dX8_next_184 rfl (lv_at hl 0 rfl) ?_
                      refine lv_iload_n hx hb dX8_next_185 rfl (lv_at hl 2 rfl) ?_
                      refine lv_if_eq (tgt := 193) hx hb dX8_next_186 (by decide) (fun c_32 => ?_) (fun c_32 => ?_)
                      · exact absurd c_32 (by decide)
                      · refine lv_iconst (v := 4) hx hb dX8_next_189 (by decide) ?_
                        refine lv_goto (tgt := 194) hx hb dX8_next_190 (by decide) ?_
                        refine fp_X8_166 hC hM mq_F (Nat.le_of_ble_eq_true rfl) (M2 := mq tb mo (pqF F (4, k, k2, qVa pq, qFl pq, qFa pq)) w av od sv sl nz ip ot M0) (mq_wF2 rfl) dX8_next_194 (fun H locs hM => ?_)
                        refine lv_goto (tgt := 358) hx hb dX8_next_197 (by decide) ?_
                        exact me_vret hC hr hlk hM (mq_ps (by unfold mxP; rw [hs2]; unfold mx1; rw [if_neg c_20, if_pos c_21, hl3, if_pos (⟨(Or.inl c_1), c_4⟩)])) (rfl) dX8_next_358
                    · have c_31 := b1_n0.mp c_31
                      refine lv_aload_n hx hb dX8_next_171 rfl (lv_at hl 0 rfl) ?_
                      refine lv_dup hx hb dX8_next_172 rfl ?_
                      refine fg_X8_169 hC hM mq_F rfl dX8_next_173 ?_
                      refine me_evi (y := nI k2) rfl ?_
                      refine lv_iconst (v := 1) hx hb dX8_next_176 (by decide) ?_
                      refine lv_iadd hx hb dX8_next_177 ?_
                      refine me_evi (y := nI (k2 + 1)) (nx_add rfl (show (1 : Int32) = nI 1 from rfl)) ?_
                      refine fp_X8_169 hC hM mq_F (Nat.le_of_ble_eq_true rfl) (M2 := mq tb mo (pqF F (qKd pq, k, k2 + 1, qVa pq, qFl pq, qFa pq)) w av od sv sl nz ip ot M0) (mq_wF2 rfl) dX8_next_178 (fun H locs hM => ?_)
                      refine lv_goto (tgt := 145) hx hb dX8_next_181 (by decide) ?_
                      exact ih_145 r3 (by omega) (k2 + 1) _ _ _ (by omega) (by omega) (hl2.trans (lrP_t c_31)) hM (lv_sub hl [0, 1, 2] rfl)
                exact lp_145 (len - k) k _ _ _ (by omega) (by omega) rfl hM (lv_sub hl [1, 2, 0] rfl)
            · have c_20 := (br_eq rfl hln (by omega) (by omega)).mp c_20
              refine lv_aload_n hx hb dX8_next_122 rfl (lv_at hl 1 rfl) ?_
              refine lv_iconst (v := 0) hx hb dX8_next_123 (by decide) ?_
              refine fp_X8_166 hC hM mq_F (Nat.le_of_ble_eq_true rfl) (M2 := mq tb mo (pqF F (0, k, k, qVa pq, qFl pq, qFa pq)) w av od sv sl nz ip ot M0) (mq_wF2 rfl) dX8_next_124 (fun H locs hM => ?_)
              refine lv_goto (tgt := 358) hx hb dX8_next_127 (by decide) ?_
              exact me_vret hC hr hlk hM (mq_ps (by unfold mxP; rw [hs2]; unfold mx1; rw [if_pos c_20])) (rfl) dX8_next_358
      · have c_2 := (not_congr (br_le hln rfl (by omega) (by omega))).mp c_2
        obtain ⟨r1, rfl⟩ : ∃ r1, r = r1 + 1 := ⟨r - 1, by omega⟩
        refine lv_aload_n hx hb dX8_next_41 rfl (lv_at hl 0 rfl) ?_
        refine fg_X8_31 hC hM mq_F rfl dX8_next_42 ?_
        refine lv_aload_n hx hb dX8_next_45 rfl (lv_at hl 0 rfl) ?_
        refine fg_X8_172 hC hM mq_F rfl dX8_next_46 ?_
        refine me_evi (y := nI k) rfl ?_
        refine me_bald (k := k) hC hM mq_ip rfl (by omega) (by first | decide | omega) dX8_next_49 ?_
        refine lv_bipush (v := 32) hx hb dX8_next_50 (by decide) ?_
        refine lv_icmp_eq (tgt := 69) hx hb dX8_next_52 (by decide) (fun c_33 => ?_) (fun c_33 => ?_)
        · refine lv_aload_n hx hb dX8_next_69 rfl (lv_at hl 0 rfl) ?_
          refine lv_dup hx hb dX8_next_70 rfl ?_
          refine fg_X8_172 hC hM mq_F rfl dX8_next_71 ?_
          refine me_evi (y := nI k) rfl ?_
          refine lv_iconst (v := 1) hx hb dX8_next_74 (by decide) ?_
          refine lv_iadd hx hb dX8_next_75 ?_
          refine me_evi (y := nI (k + 1)) (nx_add rfl (show (1 : Int32) = nI 1 from rfl)) ?_
          refine fp_X8_172 hC hM mq_F (Nat.le_of_ble_eq_true rfl) (M2 := mq tb mo (pqF F (qKd pq, k + 1, qTo pq, qVa pq, qFl pq, qFa pq)) w av od sv sl nz ip ot M0) (mq_wF2 rfl) dX8_next_76 (fun H locs hM => ?_)
          refine lv_goto (tgt := 30) hx hb dX8_next_79 (by decide) ?_
          exact ih_30 r1 (by omega) (k + 1) _ _ _ (by omega) (by omega) (hs.trans (skP_t (Or.inl c_33))) hM (lv_sub hl [0, 1] rfl)
        · refine lv_aload_n hx hb dX8_next_55 rfl (lv_at hl 0 rfl) ?_
          refine fg_X8_31 hC hM mq_F rfl dX8_next_56 ?_
          refine lv_aload_n hx hb dX8_next_59 rfl (lv_at hl 0 rfl) ?_
          refine fg_X8_172 hC hM mq_F rfl dX8_next_60 ?_
          refine me_evi (y := nI k) rfl ?_
          refine me_bald (k := k) hC hM mq_ip rfl (by omega) (by first | decide | omega) dX8_next_63 ?_
          refine lv_bipush (v := 10) hx hb dX8_next_64 (by decide) ?_
          refine lv_icmp_ne (tgt := 82) hx hb dX8_next_66 (by decide) (fun c_34 => ?_) (fun c_34 => ?_)
          · have hs2 : skP ip (len - qTo pq) (qTo pq) = k := hs.trans (skP_f (fun z => z.elim c_33 c_34))
            refine lv_iload_n hx hb dX8_next_82 rfl (lv_at hl 1 rfl) ?_
            refine lv_if_eq (tgt := 101) hx hb dX8_next_83 (by decide) (fun c_35 => ?_) (fun c_35 => ?_)
            · exact absurd c_35 (by decide)
            · refine lv_aload_n hx hb dX8_next_86 rfl (lv_at hl 0 rfl) ?_
              refine fg_X8_172 hC hM mq_F rfl dX8_next_87 ?_
              refine me_evi (y := nI k) rfl ?_
              refine lv_aload_n hx hb dX8_next_90 rfl (lv_at hl 0 rfl) ?_
              refine fg_X8_169 hC hM mq_F rfl dX8_next_91 ?_
              refine me_evi (y := nI (qTo pq)) rfl ?_
              refine lv_icmp_ne (tgt := 101) hx hb dX8_next_94 (by decide) (fun c_36 => ?_) (fun c_36 => ?_)
              · have c_36 := (not_congr (br_eq rfl rfl (by omega) (by omega))).mp c_36
                refine lv_iconst (v := 0) hx hb dX8_next_101 (by decide) ?_
                refine lv_istore_n (lv' := [(2, .int 0), (0, .ref mo), (1, .int 1)]) hx hb dX8_next_102 rfl hl (by decide) rfl (fun ls hl => ?_)
                refine lv_aload_n hx hb dX8_next_103 rfl (lv_at hl 1 rfl) ?_
                refine lv_aload_n hx hb dX8_next_104 rfl (lv_at hl 1 rfl) ?_
                refine fg_X8_172 hC hM mq_F rfl dX8_next_105 ?_
                refine me_evi (y := nI k) rfl ?_
                refine fp_X8_169 hC hM mq_F (Nat.le_of_ble_eq_true rfl) (M2 := mq tb mo (pqF F (qKd pq, k, k, qVa pq, qFl pq, qFa pq)) w av od sv sl nz ip ot M0) (mq_wF2 rfl) dX8_next_108 (fun H locs hM => ?_)
                refine lv_aload_n hx hb dX8_next_111 rfl (lv_at hl 1 rfl) ?_
                refine fg_X8_172 hC hM mq_F rfl dX8_next_112 ?_
                refine me_evi (y := nI k) rfl ?_
                refine lv_aload_n hx hb dX8_next_115 rfl (lv_at hl 1 rfl) ?_
                refine fg_X8_175 hC hM mq_F rfl dX8_next_116 ?_
                refine me_evi (y := F 7) rfl ?_
                refine lv_icmp_ne (tgt := 130) hx hb dX8_next_119 (by decide) (fun c_37 => ?_) (fun c_37 => ?_)
                · have c_37 := (not_congr (br_eq rfl hln (by omega) (by omega))).mp c_37
                  refine lv_aload_n hx hb dX8_next_130 rfl (lv_at hl 1 rfl) ?_
                  refine fg_X8_31 hC hM mq_F rfl dX8_next_131 ?_
                  refine lv_aload_n hx hb dX8_next_134 rfl (lv_at hl 1 rfl) ?_
                  refine fg_X8_172 hC hM mq_F rfl dX8_next_135 ?_
                  refine me_evi (y := nI k) rfl ?_
                  refine me_bald (k := k) hC hM mq_ip rfl (by omega) (by first | decide | omega) dX8_next_138 ?_
                  refine me_callSi (As := [.int (ip k)]) (rest := []) hC hl.1 hM (c_X8_isLetter l D tb X z0 n _ (ip k) ) (ks_X8_178 hw rfl rfl ⟨Nat.le_of_ble_eq_true rfl, Nat.le_of_ble_eq_true rfl⟩) rfl rfl (Nat.le_of_ble_eq_true rfl) dX8_next_139 ⟨Nat.le_of_ble_eq_true rfl, Nat.le_of_ble_eq_true rfl⟩ (fun H locs hM => ?_)
                  refine lv_if_eq (tgt := 200) hx hb dX8_next_142 (by decide) (fun c_38 => ?_) (fun c_38 => ?_)
                  · have c_38 := b1_0.mp c_38
                    refine lv_aload_n hx hb dX8_next_200 rfl (lv_at hl 1 rfl) ?_
                    refine fg_X8_31 hC hM mq_F rfl dX8_next_201 ?_
                    refine lv_aload_n hx hb dX8_next_204 rfl (lv_at hl 1 rfl) ?_
                    refine fg_X8_172 hC hM mq_F rfl dX8_next_205 ?_
                    refine me_evi (y := nI k) rfl ?_
                    refine me_bald (k := k) hC hM mq_ip rfl (by omega) (by first | decide | omega) dX8_next_208 ?_
                    refine me_callSi (As := [.int (ip k)]) (rest := []) hC hl.1 hM (c_X8_isDigit l D tb X z0 n _ (ip k) ) (ks_X8_181 hw rfl rfl ⟨Nat.le_of_ble_eq_true rfl, Nat.le_of_ble_eq_true rfl⟩) rfl rfl (Nat.le_of_ble_eq_true rfl) dX8_next_209 ⟨Nat.le_of_ble_eq_true rfl, Nat.le_of_ble_eq_true rfl⟩ (fun H locs hM => ?_)
                    refine lv_if_eq (tgt := 325) hx hb dX8_next_212 (by decide) (fun c_39 => ?_) (fun c_39 => ?_)
                    · have c_39 := b1_0.mp c_39
                      refine lv_aload_n hx hb dX8_next_325 rfl (lv_at hl 1 rfl) ?_
                      refine lv_aload_n hx hb dX8_next_326 rfl (lv_at hl 1 rfl) ?_
                      refine fg_X8_172 hC hM mq_F rfl dX8_next_327 ?_
                      refine me_evi (y := nI k) rfl ?_
                      refine lv_iconst (v := 1) hx hb dX8_next_330 (by decide) ?_
                      refine lv_iadd hx hb dX8_next_331 ?_
                      refine me_evi (y := nI (k + 1)) (nx_add rfl (show (1 : Int32) = nI 1 from rfl)) ?_
                      refine fp_X8_169 hC hM mq_F (Nat.le_of_ble_eq_true rfl) (M2 := mq tb mo (pqF F (qKd pq, k, k + 1, qVa pq, qFl pq, qFa pq)) w av od sv sl nz ip ot M0) (mq_wF2 rfl) dX8_next_332 (fun H locs hM => ?_)
                      refine lv_aload_n hx hb dX8_next_335 rfl (lv_at hl 1 rfl) ?_
                      refine lv_aload_n hx hb dX8_next_336 rfl (lv_at hl 1 rfl) ?_
                      refine fg_X8_31 hC hM mq_F rfl dX8_next_337 ?_
                      refine lv_aload_n hx hb dX8_next_340 rfl (lv_at hl 1 rfl) ?_
                      refine fg_X8_172 hC hM mq_F rfl dX8_next_341 ?_
                      refine me_evi (y := nI k) rfl ?_
                      refine me_bald (k := k) hC hM mq_ip rfl (by omega) (by first | decide | omega) dX8_next_344 ?_
                      refine lv_bipush (v := 59) hx hb dX8_next_345 (by decide) ?_
                      refine lv_icmp_ne (tgt := 354) hx hb dX8_next_347 (by decide) (fun c_40 => ?_) (fun c_40 => ?_)
                      · refine lv_iconst (v := 4) hx hb dX8_next_354 (by decide) ?_
                        refine fp_X8_166 hC hM mq_F (Nat.le_of_ble_eq_true rfl) (M2 := mq tb mo (pqF F (4, k, k + 1, qVa pq, qFl pq, qFa pq)) w av od sv sl nz ip ot M0) (mq_wF2 rfl) dX8_next_355 (fun H locs hM => ?_)
                        exact me_vret hC hr hlk hM (mq_ps (by unfold mxP; rw [hs2]; unfold mx1; rw [if_neg c_37, if_neg c_38, if_neg c_39, if_neg c_40])) (rfl) dX8_next_358
                      · refine lv_iconst (v := 3) hx hb dX8_next_350 (by decide) ?_
                        refine lv_goto (tgt := 355) hx hb dX8_next_351 (by decide) ?_
                        refine fp_X8_166 hC hM mq_F (Nat.le_of_ble_eq_true rfl) (M2 := mq tb mo (pqF F (3, k, k + 1, qVa pq, qFl pq, qFa pq)) w av od sv sl nz ip ot M0) (mq_wF2 rfl) dX8_next_355 (fun H locs hM => ?_)
                        exact me_vret hC hr hlk hM (mq_ps (by unfold mxP; rw [hs2]; unfold mx1; rw [if_neg c_37, if_neg c_38, if_neg c_39, if_pos c_40])) (rfl) dX8_next_358
                    · have c_39 := b1_n0.mp c_39
                      refine lv_aload_n hx hb dX8_next_215 rfl (lv_at hl 1 rfl) ?_
                      refine lv_iconst (v := 0) hx hb dX8_next_216 (by decide) ?_
                      refine fp_X8_184 hC hM mq_F (Nat.le_of_ble_eq_true rfl) (M2 := mq tb mo (pqF F (qKd pq, k, k, 0, qFl pq, qFa pq)) w av od sv sl nz ip ot M0) (mq_wF2 rfl) dX8_next_217 (fun H locs hM => ?_)
                      have lp_220 : ∀ (r2 : Nat) (k2 : Nat) (v : Int32) (H : Heap) (locs : List Loc) (ls : Array Slot), (k2 + r2 = len) → (k ≤ k2) → (drP ip (len - k) k = drP ip r2 k2) → (dvP ip k (len - k) k 0 = dvP ip k r2 k2 v) → me_at D z0 (mq tb mo (pqF F (qKd pq, k, k2, v, qFl pq, qFa pq)) w av od sv sl nz ip ot M0) n s H locs → lv_has ls 3 [(0, .ref mo), (1, .int 1), (2, .int 0)] → W p l e (({ frames := 1, cells := 0, slots := 0, locals := 20 } : Room)) s m args below meth c H locs 0 0 (MQ below (me_Qv D z0 (mq tb mo (pqF F (mxP ip len pq)) w av od sv sl nz ip ot M0) n) args s 0 0 (me_A z0)) (F0 m 220 ls []) := by
                        intro r2
                        refine Nat.strongRecOn r2 ?_
                        intro r2 ih_220 k2 v H locs ls hk2 hk3 hd2 hv2 hM hl
                        refine lv_aload_n hx hb dX8_next_220 rfl (lv_at hl 0 rfl) ?_
                        refine fg_X8_169 hC hM mq_F rfl dX8_next_221 ?_
                        refine me_evi (y := nI k2) rfl ?_
                        refine lv_aload_n hx hb dX8_next_224 rfl (lv_at hl 0 rfl) ?_
                        refine fg_X8_175 hC hM mq_F rfl dX8_next_225 ?_
                        refine me_evi (y := F 7) rfl ?_
                        refine lv_icmp_ge (tgt := 296) hx hb dX8_next_228 (by decide) (fun c_41 => ?_) (fun c_41 => ?_)
                        · have c_41 := (br_le hln rfl (by omega) (by omega)).mp c_41
                          have hd3 : drP ip (len - k) k = k2 := by rw [hd2, show r2 = 0 by omega]; rfl
                          have hv3 : dvP ip k (len - k) k 0 = v := by rw [hv2, show r2 = 0 by omega]; rfl
                          refine lv_aload_n hx hb dX8_next_296 rfl (lv_at hl 0 rfl) ?_
                          refine lv_iload_n hx hb dX8_next_297 rfl (lv_at hl 2 rfl) ?_
                          refine lv_if_ne (tgt := 314) hx hb dX8_next_298 (by decide) (fun c_42 => ?_) (fun c_42 => ?_)
                          · exact absurd c_42 (by decide)
                          · refine lv_aload_n hx hb dX8_next_301 rfl (lv_at hl 0 rfl) ?_
                            refine fg_X8_169 hC hM mq_F rfl dX8_next_302 ?_
                            refine me_evi (y := nI k2) rfl ?_
                            refine lv_aload_n hx hb dX8_next_305 rfl (lv_at hl 0 rfl) ?_
                            refine fg_X8_172 hC hM mq_F rfl dX8_next_306 ?_
                            refine me_evi (y := nI k) rfl ?_
                            refine lv_isub hx hb dX8_next_309 ?_
                            refine lv_iconst (v := 4) hx hb dX8_next_310 (by decide) ?_
                            refine lv_icmp_le (tgt := 318) hx hb dX8_next_311 (by decide) (fun c_43 => ?_) (fun c_43 => ?_)
                            · have c_43 := (br_le (nx_sub rfl rfl (by omega)) (nx_c 4) (by omega) (by omega)).mp c_43
                              refine lv_iconst (v := 2) hx hb dX8_next_318 (by decide) ?_
                              refine fp_X8_166 hC hM mq_F (Nat.le_of_ble_eq_true rfl) (M2 := mq tb mo (pqF F (2, k, k2, v, qFl pq, qFa pq)) w av od sv sl nz ip ot M0) (mq_wF2 rfl) dX8_next_319 (fun H locs hM => ?_)
                              refine lv_goto (tgt := 358) hx hb dX8_next_322 (by decide) ?_
                              exact me_vret hC hr hlk hM (mq_ps (by unfold mxP; rw [hs2]; unfold mx1; rw [if_neg c_37, if_neg c_38, if_pos c_39, hd3, hv3, if_neg (fun z => z.elim (fun z => c_36 z.2) (fun z => absurd z (by omega)))])) (rfl) dX8_next_358
                            · have c_43 := (not_congr (br_le (nx_sub rfl rfl (by omega)) (nx_c 4) (by omega) (by omega))).mp c_43
                              refine lv_iconst (v := 4) hx hb dX8_next_314 (by decide) ?_
                              refine lv_goto (tgt := 319) hx hb dX8_next_315 (by decide) ?_
                              refine fp_X8_166 hC hM mq_F (Nat.le_of_ble_eq_true rfl) (M2 := mq tb mo (pqF F (4, k, k2, v, qFl pq, qFa pq)) w av od sv sl nz ip ot M0) (mq_wF2 rfl) dX8_next_319 (fun H locs hM => ?_)
                              refine lv_goto (tgt := 358) hx hb dX8_next_322 (by decide) ?_
                              exact me_vret hC hr hlk hM (mq_ps (by unfold mxP; rw [hs2]; unfold mx1; rw [if_neg c_37, if_neg c_38, if_pos c_39, hd3, hv3, if_pos (Or.inr (by omega))])) (rfl) dX8_next_358
                        · have c_41 := (not_congr (br_le hln rfl (by omega) (by omega))).mp c_41
                          obtain ⟨r3, rfl⟩ : ∃ r3, r2 = r3 + 1 := ⟨r2 - 1, by omega⟩
                          refine lv_aload_n hx hb dX8_next_231 rfl (lv_at hl 0 rfl) ?_
                          refine fg_X8_31 hC hM mq_F rfl dX8_next_232 ?_
                          refine lv_aload_n hx hb dX8_next_235 rfl (lv_at hl 0 rfl) ?_
                          refine fg_X8_169 hC hM mq_F rfl dX8_next_236 ?_
                          refine me_evi (y := nI k2) rfl ?_
                          refine me_bald (k := k2) hC hM mq_ip rfl (by omega) (by first | decide | omega) dX8_next_239 ?_
                          refine me_callSi (As := [.int (ip k2)]) (rest := []) hC hl.1 hM (c_X8_isDigit l D tb X z0 n _ (ip k2) ) (ks_X8_181 hw rfl rfl ⟨Nat.le_of_ble_eq_true rfl, Nat.le_of_ble_eq_true rfl⟩) rfl rfl (Nat.le_of_ble_eq_true rfl) dX8_next_240 ⟨Nat.le_of_ble_eq_true rfl, Nat.le_of_ble_eq_true rfl⟩ (fun H locs hM => ?_)
                          refine lv_if_eq (tgt := 296) hx hb dX8_next_243 (by decide) (fun c_44 => ?_) (fun c_44 => ?_)
                          · have c_44 := b1_0.mp c_44
                            have hd3 : drP ip (len - k) k = k2 := hd2.trans (drP_f c_44)
                            have hv3 : dvP ip k (len - k) k 0 = v := hv2.trans (dvP_f c_44)
                            refine lv_aload_n hx hb dX8_next_296 rfl (lv_at hl 0 rfl) ?_
                            refine lv_iload_n hx hb dX8_next_297 rfl (lv_at hl 2 rfl) ?_
                            refine lv_if_ne (tgt := 314) hx hb dX8_next_298 (by decide) (fun c_45 => ?_) (fun c_45 => ?_)
                            · exact absurd c_45 (by decide)
                            · refine lv_aload_n hx hb dX8_next_301 rfl (lv_at hl 0 rfl) ?_
                              refine fg_X8_169 hC hM mq_F rfl dX8_next_302 ?_
                              refine me_evi (y := nI k2) rfl ?_
                              refine lv_aload_n hx hb dX8_next_305 rfl (lv_at hl 0 rfl) ?_
                              refine fg_X8_172 hC hM mq_F rfl dX8_next_306 ?_
                              refine me_evi (y := nI k) rfl ?_
                              refine lv_isub hx hb dX8_next_309 ?_
                              refine lv_iconst (v := 4) hx hb dX8_next_310 (by decide) ?_
                              refine lv_icmp_le (tgt := 318) hx hb dX8_next_311 (by decide) (fun c_46 => ?_) (fun c_46 => ?_)
                              · have c_46 := (br_le (nx_sub rfl rfl (by omega)) (nx_c 4) (by omega) (by omega)).mp c_46
                                refine lv_iconst (v := 2) hx hb dX8_next_318 (by decide) ?_
                                refine fp_X8_166 hC hM mq_F (Nat.le_of_ble_eq_true rfl) (M2 := mq tb mo (pqF F (2, k, k2, v, qFl pq, qFa pq)) w av od sv sl nz ip ot M0) (mq_wF2 rfl) dX8_next_319 (fun H locs hM => ?_)
                                refine lv_goto (tgt := 358) hx hb dX8_next_322 (by decide) ?_
                                exact me_vret hC hr hlk hM (mq_ps (by unfold mxP; rw [hs2]; unfold mx1; rw [if_neg c_37, if_neg c_38, if_pos c_39, hd3, hv3, if_neg (fun z => z.elim (fun z => c_36 z.2) (fun z => absurd z (by omega)))])) (rfl) dX8_next_358
                              · have c_46 := (not_congr (br_le (nx_sub rfl rfl (by omega)) (nx_c 4) (by omega) (by omega))).mp c_46
                                refine lv_iconst (v := 4) hx hb dX8_next_314 (by decide) ?_
                                refine lv_goto (tgt := 319) hx hb dX8_next_315 (by decide) ?_
                                refine fp_X8_166 hC hM mq_F (Nat.le_of_ble_eq_true rfl) (M2 := mq tb mo (pqF F (4, k, k2, v, qFl pq, qFa pq)) w av od sv sl nz ip ot M0) (mq_wF2 rfl) dX8_next_319 (fun H locs hM => ?_)
                                refine lv_goto (tgt := 358) hx hb dX8_next_322 (by decide) ?_
                                exact me_vret hC hr hlk hM (mq_ps (by unfold mxP; rw [hs2]; unfold mx1; rw [if_neg c_37, if_neg c_38, if_pos c_39, hd3, hv3, if_pos (Or.inr (by omega))])) (rfl) dX8_next_358
                          · have c_44 := b1_n0.mp c_44
                            refine lv_aload_n hx hb dX8_next_246 rfl (lv_at hl 0 rfl) ?_
                            refine fg_X8_169 hC hM mq_F rfl dX8_next_247 ?_
                            refine me_evi (y := nI k2) rfl ?_
                            refine lv_aload_n hx hb dX8_next_250 rfl (lv_at hl 0 rfl) ?_
                            refine fg_X8_172 hC hM mq_F rfl dX8_next_251 ?_
                            refine me_evi (y := nI k) rfl ?_
                            refine lv_isub hx hb dX8_next_254 ?_
                            refine lv_iconst (v := 4) hx hb dX8_next_255 (by decide) ?_
                            refine lv_icmp_ge (tgt := 283) hx hb dX8_next_256 (by decide) (fun c_47 => ?_) (fun c_47 => ?_)
                            · have c_47 := (br_le (nx_c 4) (nx_sub rfl rfl (by omega)) (by omega) (by omega)).mp c_47
                              refine lv_aload_n hx hb dX8_next_283 rfl (lv_at hl 0 rfl) ?_
                              refine lv_dup hx hb dX8_next_284 rfl ?_
                              refine fg_X8_169 hC hM mq_F rfl dX8_next_285 ?_
                              refine me_evi (y := nI k2) rfl ?_
                              refine lv_iconst (v := 1) hx hb dX8_next_288 (by decide) ?_
                              refine lv_iadd hx hb dX8_next_289 ?_
                              refine me_evi (y := nI (k2 + 1)) (nx_add rfl (show (1 : Int32) = nI 1 from rfl)) ?_
                              refine fp_X8_169 hC hM mq_F (Nat.le_of_ble_eq_true rfl) (M2 := mq tb mo (pqF F (qKd pq, k, k2 + 1, v, qFl pq, qFa pq)) w av od sv sl nz ip ot M0) (mq_wF2 rfl) dX8_next_290 (fun H locs hM => ?_)
                              refine lv_goto (tgt := 220) hx hb dX8_next_293 (by decide) ?_
                              exact ih_220 r3 (by omega) (k2 + 1) v _ _ _ (by omega) (by omega) (hd2.trans (drP_t c_44)) (hv2.trans (dvP_b c_44 (by omega))) hM (lv_sub hl [0, 1, 2] rfl)
                            · have c_47 := (not_congr (br_le (nx_c 4) (nx_sub rfl rfl (by omega)) (by omega) (by omega))).mp c_47
                              refine lv_aload_n hx hb dX8_next_259 rfl (lv_at hl 0 rfl) ?_
                              refine lv_bipush (v := 10) hx hb dX8_next_260 (by decide) ?_
                              refine lv_aload_n hx hb dX8_next_262 rfl (lv_at hl 0 rfl) ?_
                              refine fg_X8_184 hC hM mq_F rfl dX8_next_263 ?_
                              refine me_evi (y := v) rfl ?_
                              refine lv_imul hx hb dX8_next_266 ?_
                              refine lv_aload_n hx hb dX8_next_267 rfl (lv_at hl 0 rfl) ?_
                              refine fg_X8_31 hC hM mq_F rfl dX8_next_268 ?_
                              refine lv_aload_n hx hb dX8_next_271 rfl (lv_at hl 0 rfl) ?_
                              refine fg_X8_169 hC hM mq_F rfl dX8_next_272 ?_
                              refine me_evi (y := nI k2) rfl ?_
                              refine me_bald (k := k2) hC hM mq_ip rfl (by omega) (by first | decide | omega) dX8_next_275 ?_
                              refine lv_iadd hx hb dX8_next_276 ?_
                              refine lv_bipush (v := 48) hx hb dX8_next_277 (by decide) ?_
                              refine lv_isub hx hb dX8_next_279 ?_
                              refine fp_X8_184 hC hM mq_F (Nat.le_of_ble_eq_true rfl) (M2 := mq tb mo (pqF F (qKd pq, k, k2, ((10 * v) + (ip k2)) - 48, qFl pq, qFa pq)) w av od sv sl nz ip ot M0) (mq_wF2 rfl) dX8_next_280 (fun H locs hM => ?_)
                              refine lv_aload_n hx hb dX8_next_283 rfl (lv_at hl 0 rfl) ?_
                              refine lv_dup hx hb dX8_next_284 rfl ?_
                              refine fg_X8_169 hC hM mq_F rfl dX8_next_285 ?_
                              refine me_evi (y := nI k2) rfl ?_
                              refine lv_iconst (v := 1) hx hb dX8_next_288 (by decide) ?_
                              refine lv_iadd hx hb dX8_next_289 ?_
                              refine me_evi (y := nI (k2 + 1)) (nx_add rfl (show (1 : Int32) = nI 1 from rfl)) ?_
                              refine fp_X8_169 hC hM mq_F (Nat.le_of_ble_eq_true rfl) (M2 := mq tb mo (pqF F (qKd pq, k, k2 + 1, ((10 * v) + (ip k2)) - 48, qFl pq, qFa pq)) w av od sv sl nz ip ot M0) (mq_wF2 rfl) dX8_next_290 (fun H locs hM => ?_)
                              refine lv_goto (tgt := 220) hx hb dX8_next_293 (by decide) ?_
                              exact ih_220 r3 (by omega) (k2 + 1) (10 * v + ip k2 - 48) _ _ _ (by omega) (by omega) (hd2.trans (drP_t c_44)) (hv2.trans (dvP_a c_44 (by omega))) hM (lv_sub hl [0, 1, 2] rfl)
                      exact lp_220 (len - k) k 0 _ _ _ (by omega) (by omega) rfl rfl hM (lv_sub hl [1, 2, 0] rfl)
                  · have c_38 := b1_n0.mp c_38
                    have lp_145 : ∀ (r2 : Nat) (k2 : Nat) (H : Heap) (locs : List Loc) (ls : Array Slot), (k2 + r2 = len) → (k ≤ k2) → (lrP ip (len - k) k = lrP ip r2 k2) → me_at D z0 (mq tb mo (pqF F (qKd pq, k, k2, qVa pq, qFl pq, qFa pq)) w av od sv sl nz ip ot M0) n s H locs → lv_has ls 3 [(0, .ref mo), (1, .int 1), (2, .int 0)] → W p l e (({ frames := 1, cells := 0, slots := 0, locals := 20 } : Room)) s m args below meth c H locs 0 0 (MQ below (me_Qv D z0 (mq tb mo (pqF F (mxP ip len pq)) w av od sv sl nz ip ot M0) n) args s 0 0 (me_A z0)) (F0 m 145 ls []) := by
                      intro r2
                      refine Nat.strongRecOn r2 ?_
                      intro r2 ih_145 k2 H locs ls hk2 hk3 hl2 hM hl
                      refine lv_aload_n hx hb dX8_next_145 rfl (lv_at hl 0 rfl) ?_
                      refine fg_X8_169 hC hM mq_F rfl dX8_next_146 ?_
                      refine me_evi (y := nI k2) rfl ?_
                      refine lv_aload_n hx hb dX8_next_149 rfl (lv_at hl 0 rfl) ?_
                      refine fg_X8_175 hC hM mq_F rfl dX8_next_150 ?_
                      refine me_evi (y := F 7) rfl ?_
                      refine lv_icmp_ge (tgt := 184) hx hb dX8_next_153 (by decide) (fun c_48 => ?_) (fun c_48 => ?_)
                      · have c_48 := (br_le hln rfl (by omega) (by omega)).mp c_48
                        have hl3 : lrP ip (len - k) k = k2 := by rw [hl2, show r2 = 0 by omega]; rfl
                        refine lv_aload_n hx hb dX8_next_184 rfl (lv_at hl 0 rfl) ?_
                        refine lv_iload_n hx hb dX8_next_185 rfl (lv_at hl 2 rfl) ?_
                        refine lv_if_eq (tgt := 193) hx hb dX8_next_186 (by decide) (fun c_49 => ?_) (fun c_49 => ?_)
                        · refine lv_iconst (v := 1) hx hb dX8_next_193 (by decide) ?_
                          refine fp_X8_166 hC hM mq_F (Nat.le_of_ble_eq_true rfl) (M2 := mq tb mo (pqF F (1, k, k2, qVa pq, qFl pq, qFa pq)) w av od sv sl nz ip ot M0) (mq_wF2 rfl) dX8_next_194 (fun H locs hM => ?_)
                          refine lv_goto (tgt := 358) hx hb dX8_next_197 (by decide) ?_
                          exact me_vret hC hr hlk hM (mq_ps (by unfold mxP; rw [hs2]; unfold mx1; rw [if_neg c_37, if_pos c_38, hl3, if_neg (fun z => c_36 z.2)])) (rfl) dX8_next_358
                        · exact absurd c_49 (by decide)
                      · have c_48 := (not_congr (br_le hln rfl (by omega) (by omega))).mp c_48
                        obtain ⟨r3, rfl⟩ : ∃ r3, r2 = r3 + 1 := ⟨r2 - 1, by omega⟩
                        refine lv_aload_n hx hb dX8_next_156 rfl (lv_at hl 0 rfl) ?_
                        refine fg_X8_31 hC hM mq_F rfl dX8_next_157 ?_
                        refine lv_aload_n hx hb dX8_next_160 rfl (lv_at hl 0 rfl) ?_
                        refine fg_X8_169 hC hM mq_F rfl dX8_next_161 ?_
                        refine me_evi (y := nI k2) rfl ?_
                        refine me_bald (k := k2) hC hM mq_ip rfl (by omega) (by first | decide | omega) dX8_next_164 ?_
                        refine me_callSi (As := [.int (ip k2)]) (rest := []) hC hl.1 hM (c_X8_isLetter l D tb X z0 n _ (ip k2) ) (ks_X8_178 hw rfl rfl ⟨Nat.le_of_ble_eq_true rfl, Nat.le_of_ble_eq_true rfl⟩) rfl rfl (Nat.le_of_ble_eq_true rfl) dX8_next_165 ⟨Nat.le_of_ble_eq_true rfl, Nat.le_of_ble_eq_true rfl⟩ (fun H locs hM => ?_)
                        refine lv_if_eq (tgt := 184) hx hb dX8_next_168 (by decide) (fun c_50 => ?_) (fun c_50 => ?_)
                        · have c_50 := b1_0.mp c_50
                          have hl3 : lrP ip (len - k) k = k2 := hl2.trans (lrP_f c_50)
                          refine lv_aload_n hx hb dX8_next_184 rfl (lv_at hl 0 rfl) ?_
                          refine lv_iload_n hx hb dX8_next_185 rfl (lv_at hl 2 rfl) ?_
                          refine lv_if_eq (tgt := 193) hx hb dX8_next_186 (by decide) (fun c_51 => ?_) (fun c_51 => ?_)
                          · refine lv_iconst (v := 1) hx hb dX8_next_193 (by decide) ?_
                            refine fp_X8_166 hC hM mq_F (Nat.le_of_ble_eq_true rfl) (M2 := mq tb mo (pqF F (1, k, k2, qVa pq, qFl pq, qFa pq)) w av od sv sl nz ip ot M0) (mq_wF2 rfl) dX8_next_194 (fun H locs hM => ?_)
                            refine lv_goto (tgt := 358) hx hb dX8_next_197 (by decide) ?_
                            exact me_vret hC hr hlk hM (mq_ps (by unfold mxP; rw [hs2]; unfold mx1; rw [if_neg c_37, if_pos c_38, hl3, if_neg (fun z => c_36 z.2)])) (rfl) dX8_next_358
                          · exact absurd c_51 (by decide)
                        · have c_50 := b1_n0.mp c_50
                          refine lv_aload_n hx hb dX8_next_171 rfl (lv_at hl 0 rfl) ?_
                          refine lv_dup hx hb dX8_next_172 rfl ?_
                          refine fg_X8_169 hC hM mq_F rfl dX8_next_173 ?_
                          refine me_evi (y := nI k2) rfl ?_
                          refine lv_iconst (v := 1) hx hb dX8_next_176 (by decide) ?_
                          refine lv_iadd hx hb dX8_next_177 ?_
                          refine me_evi (y := nI (k2 + 1)) (nx_add rfl (show (1 : Int32) = nI 1 from rfl)) ?_
                          refine fp_X8_169 hC hM mq_F (Nat.le_of_ble_eq_true rfl) (M2 := mq tb mo (pqF F (qKd pq, k, k2 + 1, qVa pq, qFl pq, qFa pq)) w av od sv sl nz ip ot M0) (mq_wF2 rfl) dX8_next_178 (fun H locs hM => ?_)
                          refine lv_goto (tgt := 145) hx hb dX8_next_181 (by decide) ?_
                          exact ih_145 r3 (by omega) (k2 + 1) _ _ _ (by omega) (by omega) (hl2.trans (lrP_t c_50)) hM (lv_sub hl [0, 1, 2] rfl)
                    exact lp_145 (len - k) k _ _ _ (by omega) (by omega) rfl hM (lv_sub hl [1, 2, 0] rfl)
                · have c_37 := (br_eq rfl hln (by omega) (by omega)).mp c_37
                  refine lv_aload_n hx hb dX8_next_122 rfl (lv_at hl 1 rfl) ?_
                  refine lv_iconst (v := 0) hx hb dX8_next_123 (by decide) ?_
                  refine fp_X8_166 hC hM mq_F (Nat.le_of_ble_eq_true rfl) (M2 := mq tb mo (pqF F (0, k, k, qVa pq, qFl pq, qFa pq)) w av od sv sl nz ip ot M0) (mq_wF2 rfl) dX8_next_124 (fun H locs hM => ?_)
                  refine lv_goto (tgt := 358) hx hb dX8_next_127 (by decide) ?_
                  exact me_vret hC hr hlk hM (mq_ps (by unfold mxP; rw [hs2]; unfold mx1; rw [if_pos c_37])) (rfl) dX8_next_358
              · have c_36 := (br_eq rfl rfl (by omega) (by omega)).mp c_36
                refine lv_iconst (v := 1) hx hb dX8_next_97 (by decide) ?_
                refine lv_goto (tgt := 102) hx hb dX8_next_98 (by decide) ?_
                refine lv_istore_n (lv' := [(2, .int 1), (0, .ref mo), (1, .int 1)]) hx hb dX8_next_102 rfl hl (by decide) rfl (fun ls hl => ?_)
                refine lv_aload_n hx hb dX8_next_103 rfl (lv_at hl 1 rfl) ?_
                refine lv_aload_n hx hb dX8_next_104 rfl (lv_at hl 1 rfl) ?_
                refine fg_X8_172 hC hM mq_F rfl dX8_next_105 ?_
                refine me_evi (y := nI k) rfl ?_
                refine fp_X8_169 hC hM mq_F (Nat.le_of_ble_eq_true rfl) (M2 := mq tb mo (pqF F (qKd pq, k, k, qVa pq, qFl pq, qFa pq)) w av od sv sl nz ip ot M0) (mq_wF2 rfl) dX8_next_108 (fun H locs hM => ?_)
                refine lv_aload_n hx hb dX8_next_111 rfl (lv_at hl 1 rfl) ?_
                refine fg_X8_172 hC hM mq_F rfl dX8_next_112 ?_
                refine me_evi (y := nI k) rfl ?_
                refine lv_aload_n hx hb dX8_next_115 rfl (lv_at hl 1 rfl) ?_
                refine fg_X8_175 hC hM mq_F rfl dX8_next_116 ?_
                refine me_evi (y := F 7) rfl ?_
                refine lv_icmp_ne (tgt := 130) hx hb dX8_next_119 (by decide) (fun c_52 => ?_) (fun c_52 => ?_)
                · have c_52 := (not_congr (br_eq rfl hln (by omega) (by omega))).mp c_52
                  refine lv_aload_n hx hb dX8_next_130 rfl (lv_at hl 1 rfl) ?_
                  refine fg_X8_31 hC hM mq_F rfl dX8_next_131 ?_
                  refine lv_aload_n hx hb dX8_next_134 rfl (lv_at hl 1 rfl) ?_
                  refine fg_X8_172 hC hM mq_F rfl dX8_next_135 ?_
                  refine me_evi (y := nI k) rfl ?_
                  refine me_bald (k := k) hC hM mq_ip rfl (by omega) (by first | decide | omega) dX8_next_138 ?_
                  refine me_callSi (As := [.int (ip k)]) (rest := []) hC hl.1 hM (c_X8_isLetter l D tb X z0 n _ (ip k) ) (ks_X8_178 hw rfl rfl ⟨Nat.le_of_ble_eq_true rfl, Nat.le_of_ble_eq_true rfl⟩) rfl rfl (Nat.le_of_ble_eq_true rfl) dX8_next_139 ⟨Nat.le_of_ble_eq_true rfl, Nat.le_of_ble_eq_true rfl⟩ (fun H locs hM => ?_)
                  refine lv_if_eq (tgt := 200) hx hb dX8_next_142 (by decide) (fun c_53 => ?_) (fun c_53 => ?_)
                  · have c_53 := b1_0.mp c_53
                    refine lv_aload_n hx hb dX8_next_200 rfl (lv_at hl 1 rfl) ?_
                    refine fg_X8_31 hC hM mq_F rfl dX8_next_201 ?_
                    refine lv_aload_n hx hb dX8_next_204 rfl (lv_at hl 1 rfl) ?_
                    refine fg_X8_172 hC hM mq_F rfl dX8_next_205 ?_
                    refine me_evi (y := nI k) rfl ?_
                    refine me_bald (k := k) hC hM mq_ip rfl (by omega) (by first | decide | omega) dX8_next_208 ?_
                    refine me_callSi (As := [.int (ip k)]) (rest := []) hC hl.1 hM (c_X8_isDigit l D tb X z0 n _ (ip k) ) (ks_X8_181 hw rfl rfl ⟨Nat.le_of_ble_eq_true rfl, Nat.le_of_ble_eq_true rfl⟩) rfl rfl (Nat.le_of_ble_eq_true rfl) dX8_next_209 ⟨Nat.le_of_ble_eq_true rfl, Nat.le_of_ble_eq_true rfl⟩ (fun H locs hM => ?_)
                    refine lv_if_eq (tgt := 325) hx hb dX8_next_212 (by decide) (fun c_54 => ?_) (fun c_54 => ?_)
                    · have c_54 := b1_0.mp c_54
                      refine lv_aload_n hx hb dX8_next_325 rfl (lv_at hl 1 rfl) ?_
                      refine lv_aload_n hx hb dX8_next_326 rfl (lv_at hl 1 rfl) ?_
                      refine fg_X8_172 hC hM mq_F rfl dX8_next_327 ?_
                      refine me_evi (y := nI k) rfl ?_
                      refine lv_iconst (v := 1) hx hb dX8_next_330 (by decide) ?_
                      refine lv_iadd hx hb dX8_next_331 ?_
                      refine me_evi (y := nI (k + 1)) (nx_add rfl (show (1 : Int32) = nI 1 from rfl)) ?_
                      refine fp_X8_169 hC hM mq_F (Nat.le_of_ble_eq_true rfl) (M2 := mq tb mo (pqF F (qKd pq, k, k + 1, qVa pq, qFl pq, qFa pq)) w av od sv sl nz ip ot M0) (mq_wF2 rfl) dX8_next_332 (fun H locs hM => ?_)
                      refine lv_aload_n hx hb dX8_next_335 rfl (lv_at hl 1 rfl) ?_
                      refine lv_aload_n hx hb dX8_next_336 rfl (lv_at hl 1 rfl) ?_
                      refine fg_X8_31 hC hM mq_F rfl dX8_next_337 ?_
                      refine lv_aload_n hx hb dX8_next_340 rfl (lv_at hl 1 rfl) ?_
                      refine fg_X8_172 hC hM mq_F rfl dX8_next_341 ?_
                      refine me_evi (y := nI k) rfl ?_
                      refine me_bald (k := k) hC hM mq_ip rfl (by omega) (by first | decide | omega) dX8_next_344 ?_
                      refine lv_bipush (v := 59) hx hb dX8_next_345 (by decide) ?_
                      refine lv_icmp_ne (tgt := 354) hx hb dX8_next_347 (by decide) (fun c_55 => ?_) (fun c_55 => ?_)
                      · refine lv_iconst (v := 4) hx hb dX8_next_354 (by decide) ?_
                        refine fp_X8_166 hC hM mq_F (Nat.le_of_ble_eq_true rfl) (M2 := mq tb mo (pqF F (4, k, k + 1, qVa pq, qFl pq, qFa pq)) w av od sv sl nz ip ot M0) (mq_wF2 rfl) dX8_next_355 (fun H locs hM => ?_)
                        exact me_vret hC hr hlk hM (mq_ps (by unfold mxP; rw [hs2]; unfold mx1; rw [if_neg c_52, if_neg c_53, if_neg c_54, if_neg c_55])) (rfl) dX8_next_358
                      · refine lv_iconst (v := 3) hx hb dX8_next_350 (by decide) ?_
                        refine lv_goto (tgt := 355) hx hb dX8_next_351 (by decide) ?_
                        refine fp_X8_166 hC hM mq_F (Nat.le_of_ble_eq_true rfl) (M2 := mq tb mo (pqF F (3, k, k + 1, qVa pq, qFl pq, qFa pq)) w av od sv sl nz ip ot M0) (mq_wF2 rfl) dX8_next_355 (fun H locs hM => ?_)
                        exact me_vret hC hr hlk hM (mq_ps (by unfold mxP; rw [hs2]; unfold mx1; rw [if_neg c_52, if_neg c_53, if_neg c_54, if_pos c_55])) (rfl) dX8_next_358
                    · have c_54 := b1_n0.mp c_54
                      refine lv_aload_n hx hb dX8_next_215 rfl (lv_at hl 1 rfl) ?_
                      refine lv_iconst (v := 0) hx hb dX8_next_216 (by decide) ?_
                      refine fp_X8_184 hC hM mq_F (Nat.le_of_ble_eq_true rfl) (M2 := mq tb mo (pqF F (qKd pq, k, k, 0, qFl pq, qFa pq)) w av od sv sl nz ip ot M0) (mq_wF2 rfl) dX8_next_217 (fun H locs hM => ?_)
                      have lp_220 : ∀ (r2 : Nat) (k2 : Nat) (v : Int32) (H : Heap) (locs : List Loc) (ls : Array Slot), (k2 + r2 = len) → (k ≤ k2) → (drP ip (len - k) k = drP ip r2 k2) → (dvP ip k (len - k) k 0 = dvP ip k r2 k2 v) → me_at D z0 (mq tb mo (pqF F (qKd pq, k, k2, v, qFl pq, qFa pq)) w av od sv sl nz ip ot M0) n s H locs → lv_has ls 3 [(0, .ref mo), (1, .int 1), (2, .int 1)] → W p l e (({ frames := 1, cells := 0, slots := 0, locals := 20 } : Room)) s m args below meth c H locs 0 0 (MQ below (me_Qv D z0 (mq tb mo (pqF F (mxP ip len pq)) w av od sv sl nz ip ot M0) n) args s 0 0 (me_A z0)) (F0 m 220 ls []) := by
                        intro r2
                        refine Nat.strongRecOn r2 ?_
                        intro r2 ih_220 k2 v H locs ls hk2 hk3 hd2 hv2 hM hl
                        refine lv_aload_n hx hb dX8_next_220 rfl (lv_at hl 0 rfl) ?_
                        refine fg_X8_169 hC hM mq_F rfl dX8_next_221 ?_
                        refine me_evi (y := nI k2) rfl ?_
                        refine lv_aload_n hx hb dX8_next_224 rfl (lv_at hl 0 rfl) ?_
                        refine fg_X8_175 hC hM mq_F rfl dX8_next_225 ?_
                        refine me_evi (y := F 7) rfl ?_
                        refine lv_icmp_ge (tgt := 296) hx hb dX8_next_228 (by decide) (fun c_56 => ?_) (fun c_56 => ?_)
                        · have c_56 := (br_le hln rfl (by omega) (by omega)).mp c_56
                          have hd3 : drP ip (len - k) k = k2 := by rw [hd2, show r2 = 0 by omega]; rfl
                          have hv3 : dvP ip k (len - k) k 0 = v := by rw [hv2, show r2 = 0 by omega]; rfl
                          refine lv_aload_n hx hb dX8_next_296 rfl (lv_at hl 0 rfl) ?_
                          refine lv_iload_n hx hb dX8_next_297 rfl (lv_at hl 2 rfl) ?_
                          refine lv_if_ne (tgt := 314) hx hb dX8_next_298 (by decide) (fun c_57 => ?_) (fun c_57 => ?_)
                          · refine lv_iconst (v := 4) hx hb dX8_next_314 (by decide) ?_
                            refine lv_goto (tgt := 319) hx hb dX8_next_315 (by decide) ?_
                            refine fp_X8_166 hC hM mq_F (Nat.le_of_ble_eq_true rfl) (M2 := mq tb mo (pqF F (4, k, k2, v, qFl pq, qFa pq)) w av od sv sl nz ip ot M0) (mq_wF2 rfl) dX8_next_319 (fun H locs hM => ?_)
                            refine lv_goto (tgt := 358) hx hb dX8_next_322 (by decide) ?_
                            exact me_vret hC hr hlk hM (mq_ps (by unfold mxP; rw [hs2]; unfold mx1; rw [if_neg c_52, if_neg c_53, if_pos c_54, hd3, hv3, if_pos (Or.inl ⟨(Or.inl c_1), c_36⟩)])) (rfl) dX8_next_358
                          · exact absurd c_57 (by decide)
                        · have c_56 := (not_congr (br_le hln rfl (by omega) (by omega))).mp c_56
                          obtain ⟨r3, rfl⟩ : ∃ r3, r2 = r3 + 1 := ⟨r2 - 1, by omega⟩
                          refine lv_aload_n hx hb dX8_next_231 rfl (lv_at hl 0 rfl) ?_
                          refine fg_X8_31 hC hM mq_F rfl dX8_next_232 ?_
                          refine lv_aload_n hx hb dX8_next_235 rfl (lv_at hl 0 rfl) ?_
                          refine fg_X8_169 hC hM mq_F rfl dX8_next_236 ?_
                          refine me_evi (y := nI k2) rfl ?_
                          refine me_bald (k := k2) hC hM mq_ip rfl (by omega) (by first | decide | omega) dX8_next_239 ?_
                          refine me_callSi (As := [.int (ip k2)]) (rest := []) hC hl.1 hM (c_X8_isDigit l D tb X z0 n _ (ip k2) ) (ks_X8_181 hw rfl rfl ⟨Nat.le_of_ble_eq_true rfl, Nat.le_of_ble_eq_true rfl⟩) rfl rfl (Nat.le_of_ble_eq_true rfl) dX8_next_240 ⟨Nat.le_of_ble_eq_true rfl, Nat.le_of_ble_eq_true rfl⟩ (fun H locs hM => ?_)
                          refine lv_if_eq (tgt := 296) hx hb dX8_next_243 (by decide) (fun c_58 => ?_) (fun c_58 => ?_)
                          · have c_58 := b1_0.mp c_58
                            have hd3 : drP ip (len - k) k = k2 := hd2.trans (drP_f c_58)
                            have hv3 : dvP ip k (len - k) k 0 = v := hv2.trans (dvP_f c_58)
                            refine lv_aload_n hx hb dX8_next_296 rfl (lv_at hl 0 rfl) ?_
                            refine lv_iload_n hx hb dX8_next_297 rfl (lv_at hl 2 rfl) ?_
                            refine lv_if_ne (tgt := 314) hx hb dX8_next_298 (by decide) (fun c_59 => ?_) (fun c_59 => ?_)
                            · refine lv_iconst (v := 4) hx hb dX8_next_314 (by decide) ?_
                              refine lv_goto (tgt := 319) hx hb dX8_next_315 (by decide) ?_
                              refine fp_X8_166 hC hM mq_F (Nat.le_of_ble_eq_true rfl) (M2 := mq tb mo (pqF F (4, k, k2, v, qFl pq, qFa pq)) w av od sv sl nz ip ot M0) (mq_wF2 rfl) dX8_next_319 (fun H locs hM => ?_)
                              refine lv_goto (tgt := 358) hx hb dX8_next_322 (by decide) ?_
                              exact me_vret hC hr hlk hM (mq_ps (by unfold mxP; rw [hs2]; unfold mx1; rw [if_neg c_52, if_neg c_53, if_pos c_54, hd3, hv3, if_pos (Or.inl ⟨(Or.inl c_1), c_36⟩)])) (rfl) dX8_next_358
                            · exact absurd c_59 (by decide)
                          · have c_58 := b1_n0.mp c_58
                            refine lv_aload_n hx hb dX8_next_246 rfl (lv_at hl 0 rfl) ?_
                            refine fg_X8_169 hC hM mq_F rfl dX8_next_247 ?_
                            refine me_evi (y := nI k2) rfl ?_
                            refine lv_aload_n hx hb dX8_next_250 rfl (lv_at hl 0 rfl) ?_
                            refine fg_X8_172 hC hM mq_F rfl dX8_next_251 ?_
                            refine me_evi (y := nI k) rfl ?_
                            refine lv_isub hx hb dX8_next_254 ?_
                            refine lv_iconst (v := 4) hx hb dX8_next_255 (by decide) ?_
                            refine lv_icmp_ge (tgt := 283) hx hb dX8_next_256 (by decide) (fun c_60 => ?_) (fun c_60 => ?_)
                            · have c_60 := (br_le (nx_c 4) (nx_sub rfl rfl (by omega)) (by omega) (by omega)).mp c_60
                              refine lv_aload_n hx hb dX8_next_283 rfl (lv_at hl 0 rfl) ?_
                              refine lv_dup hx hb dX8_next_284 rfl ?_
                              refine fg_X8_169 hC hM mq_F rfl dX8_next_285 ?_
                              refine me_evi (y := nI k2) rfl ?_
                              refine lv_iconst (v := 1) hx hb dX8_next_288 (by decide) ?_
                              refine lv_iadd hx hb dX8_next_289 ?_
                              refine me_evi (y := nI (k2 + 1)) (nx_add rfl (show (1 : Int32) = nI 1 from rfl)) ?_
                              refine fp_X8_169 hC hM mq_F (Nat.le_of_ble_eq_true rfl) (M2 := mq tb mo (pqF F (qKd pq, k, k2 + 1, v, qFl pq, qFa pq)) w av od sv sl nz ip ot M0) (mq_wF2 rfl) dX8_next_290 (fun H locs hM => ?_)
                              refine lv_goto (tgt := 220) hx hb dX8_next_293 (by decide) ?_
                              exact ih_220 r3 (by omega) (k2 + 1) v _ _ _ (by omega) (by omega) (hd2.trans (drP_t c_58)) (hv2.trans (dvP_b c_58 (by omega))) hM (lv_sub hl [0, 1, 2] rfl)
                            · have c_60 := (not_congr (br_le (nx_c 4) (nx_sub rfl rfl (by omega)) (by omega) (by omega))).mp c_60
                              refine lv_aload_n hx hb dX8_next_259 rfl (lv_at hl 0 rfl) ?_
                              refine lv_bipush (v := 10) hx hb dX8_next_260 (by decide) ?_
                              refine lv_aload_n hx hb dX8_next_262 rfl (lv_at hl 0 rfl) ?_
                              refine fg_X8_184 hC hM mq_F rfl dX8_next_263 ?_
                              refine me_evi (y := v) rfl ?_
                              refine lv_imul hx hb dX8_next_266 ?_
                              refine lv_aload_n hx hb dX8_next_267 rfl (lv_at hl 0 rfl) ?_
                              refine fg_X8_31 hC hM mq_F rfl dX8_next_268 ?_
                              refine lv_aload_n hx hb dX8_next_271 rfl (lv_at hl 0 rfl) ?_
                              refine fg_X8_169 hC hM mq_F rfl dX8_next_272 ?_
                              refine me_evi (y := nI k2) rfl ?_
                              refine me_bald (k := k2) hC hM mq_ip rfl (by omega) (by first | decide | omega) dX8_next_275 ?_
                              refine lv_iadd hx hb dX8_next_276 ?_
                              refine lv_bipush (v := 48) hx hb dX8_next_277 (by decide) ?_
                              refine lv_isub hx hb dX8_next_279 ?_
                              refine fp_X8_184 hC hM mq_F (Nat.le_of_ble_eq_true rfl) (M2 := mq tb mo (pqF F (qKd pq, k, k2, ((10 * v) + (ip k2)) - 48, qFl pq, qFa pq)) w av od sv sl nz ip ot M0) (mq_wF2 rfl) dX8_next_280 (fun H locs hM => ?_)
                              refine lv_aload_n hx hb dX8_next_283 rfl (lv_at hl 0 rfl) ?_
                              refine lv_dup hx hb dX8_next_284 rfl ?_
                              refine fg_X8_169 hC hM mq_F rfl dX8_next_285 ?_
                              refine me_evi (y := nI k2) rfl ?_
                              refine lv_iconst (v := 1) hx hb dX8_next_288 (by decide) ?_
                              refine lv_iadd hx hb dX8_next_289 ?_
                              refine me_evi (y := nI (k2 + 1)) (nx_add rfl (show (1 : Int32) = nI 1 from rfl)) ?_
                              refine fp_X8_169 hC hM mq_F (Nat.le_of_ble_eq_true rfl) (M2 := mq tb mo (pqF F (qKd pq, k, k2 + 1, ((10 * v) + (ip k2)) - 48, qFl pq, qFa pq)) w av od sv sl nz ip ot M0) (mq_wF2 rfl) dX8_next_290 (fun H locs hM => ?_)
                              refine lv_goto (tgt := 220) hx hb dX8_next_293 (by decide) ?_
                              exact ih_220 r3 (by omega) (k2 + 1) (10 * v + ip k2 - 48) _ _ _ (by omega) (by omega) (hd2.trans (drP_t c_58)) (hv2.trans (dvP_a c_58 (by omega))) hM (lv_sub hl [0, 1, 2] rfl)
                      exact lp_220 (len - k) k 0 _ _ _ (by omega) (by omega) rfl rfl hM (lv_sub hl [1, 2, 0] rfl)
                  · have c_53 := b1_n0.mp c_53
                    have lp_145 : ∀ (r2 : Nat) (k2 : Nat) (H : Heap) (locs : List Loc) (ls : Array Slot), (k2 + r2 = len) → (k ≤ k2) → (lrP ip (len - k) k = lrP ip r2 k2) → me_at D z0 (mq tb mo (pqF F (qKd pq, k, k2, qVa pq, qFl pq, qFa pq)) w av od sv sl nz ip ot M0) n s H locs → lv_has ls 3 [(0, .ref mo), (1, .int 1), (2, .int 1)] → W p l e (({ frames := 1, cells := 0, slots := 0, locals := 20 } : Room)) s m args below meth c H locs 0 0 (MQ below (me_Qv D z0 (mq tb mo (pqF F (mxP ip len pq)) w av od sv sl nz ip ot M0) n) args s 0 0 (me_A z0)) (F0 m 145 ls []) := by
                      intro r2
                      refine Nat.strongRecOn r2 ?_
                      intro r2 ih_145 k2 H locs ls hk2 hk3 hl2 hM hl
                      refine lv_aload_n hx hb dX8_next_145 rfl (lv_at hl 0 rfl) ?_
                      refine fg_X8_169 hC hM mq_F rfl dX8_next_146 ?_
                      refine me_evi (y := nI k2) rfl ?_
                      refine lv_aload_n hx hb dX8_next_149 rfl (lv_at hl 0 rfl) ?_
                      refine fg_X8_175 hC hM mq_F rfl dX8_next_150 ?_
                      refine me_evi (y := F 7) rfl ?_
                      refine lv_icmp_ge (tgt := 184) hx hb dX8_next_153 (by decide) (fun c_61 => ?_) (fun c_61 => ?_)
                      · have c_61 := (br_le hln rfl (by omega) (by omega)).mp c_61
                        have hl3 : lrP ip (len - k) k = k2 := by rw [hl2, show r2 = 0 by omega]; rfl
                        refine lv_aload_n hx hb dX8_next_184 rfl (lv_at hl 0 rfl) ?_
                        refine lv_iload_n hx hb dX8_next_185 rfl (lv_at hl 2 rfl) ?_
                        refine lv_if_eq (tgt := 193) hx hb dX8_next_186 (by decide) (fun c_62 => ?_) (fun c_62 => ?_)
                        · exact absurd c_62 (by decide)
                        · refine lv_iconst (v := 4) hx hb dX8_next_189 (by decide) ?_
                          refine lv_goto (tgt := 194) hx hb dX8_next_190 (by decide) ?_
                          refine fp_X8_166 hC hM mq_F (Nat.le_of_ble_eq_true rfl) (M2 := mq tb mo (pqF F (4, k, k2, qVa pq, qFl pq, qFa pq)) w av od sv sl nz ip ot M0) (mq_wF2 rfl) dX8_next_194 (fun H locs hM => ?_)
                          refine lv_goto (tgt := 358) hx hb dX8_next_197 (by decide) ?_
                          exact me_vret hC hr hlk hM (mq_ps (by unfold mxP; rw [hs2]; unfold mx1; rw [if_neg c_52, if_pos c_53, hl3, if_pos (⟨(Or.inl c_1), c_36⟩)])) (rfl) dX8_next_358
                      · have c_61 := (not_congr (br_le hln rfl (by omega) (by omega))).mp c_61
                        obtain ⟨r3, rfl⟩ : ∃ r3, r2 = r3 + 1 := ⟨r2 - 1, by omega⟩
                        refine lv_aload_n hx hb dX8_next_156 rfl (lv_at hl 0 rfl) ?_
                        refine fg_X8_31 hC hM mq_F rfl dX8_next_157 ?_
                        refine lv_aload_n hx hb dX8_next_160 rfl (lv_at hl 0 rfl) ?_
                        refine fg_X8_169 hC hM mq_F rfl dX8_next_161 ?_
                        refine me_evi (y := nI k2) rfl ?_
                        refine me_bald (k := k2) hC hM mq_ip rfl (by omega) (by first | decide | omega) dX8_next_164 ?_
                        refine me_callSi (As := [.int (ip k2)]) (rest := []) hC hl.1 hM (c_X8_isLetter l D tb X z0 n _ (ip k2) ) (ks_X8_178 hw rfl rfl ⟨Nat.le_of_ble_eq_true rfl, Nat.le_of_ble_eq_true rfl⟩) rfl rfl (Nat.le_of_ble_eq_true rfl) dX8_next_165 ⟨Nat.le_of_ble_eq_true rfl, Nat.le_of_ble_eq_true rfl⟩ (fun H locs hM => ?_)
                        refine lv_if_eq (tgt := 184) hx hb dX8_next_168 (by decide) (fun c_63 => ?_) (fun c_63 => ?_)
                        · have c_63 := b1_0.mp c_63
                          have hl3 : lrP ip (len - k) k = k2 := hl2.trans (lrP_f c_63)
                          refine lv_aload_n hx hb dX8_next_184 rfl (lv_at hl 0 rfl) ?_
                          refine lv_iload_n hx hb dX8_next_185 rfl (lv_at hl 2 rfl) ?_
                          refine lv_if_eq (tgt := 193) hx hb dX8_next_186 (by decide) (fun c_64 => ?_) (fun c_64 => ?_)
                          · exact absurd c_64 (by decide)
                          · refine lv_iconst (v := 4) hx hb dX8_next_189 (by decide) ?_
                            refine lv_goto (tgt := 194) hx hb dX8_next_190 (by decide) ?_
                            refine fp_X8_166 hC hM mq_F (Nat.le_of_ble_eq_true rfl) (M2 := mq tb mo (pqF F (4, k, k2, qVa pq, qFl pq, qFa pq)) w av od sv sl nz ip ot M0) (mq_wF2 rfl) dX8_next_194 (fun H locs hM => ?_)
                            refine lv_goto (tgt := 358) hx hb dX8_next_197 (by decide) ?_
                            exact me_vret hC hr hlk hM (mq_ps (by unfold mxP; rw [hs2]; unfold mx1; rw [if_neg c_52, if_pos c_53, hl3, if_pos (⟨(Or.inl c_1), c_36⟩)])) (rfl) dX8_next_358
                        · have c_63 := b1_n0.mp c_63
                          refine lv_aload_n hx hb dX8_next_171 rfl (lv_at hl 0 rfl) ?_
                          refine lv_dup hx hb dX8_next_172 rfl ?_
                          refine fg_X8_169 hC hM mq_F rfl dX8_next_173 ?_
                          refine me_evi (y := nI k2) rfl ?_
                          refine lv_iconst (v := 1) hx hb dX8_next_176 (by decide) ?_
                          refine lv_iadd hx hb dX8_next_177 ?_
                          refine me_evi (y := nI (k2 + 1)) (nx_add rfl (show (1 : Int32) = nI 1 from rfl)) ?_
                          refine fp_X8_169 hC hM mq_F (Nat.le_of_ble_eq_true rfl) (M2 := mq tb mo (pqF F (qKd pq, k, k2 + 1, qVa pq, qFl pq, qFa pq)) w av od sv sl nz ip ot M0) (mq_wF2 rfl) dX8_next_178 (fun H locs hM => ?_)
                          refine lv_goto (tgt := 145) hx hb dX8_next_181 (by decide) ?_
                          exact ih_145 r3 (by omega) (k2 + 1) _ _ _ (by omega) (by omega) (hl2.trans (lrP_t c_63)) hM (lv_sub hl [0, 1, 2] rfl)
                    exact lp_145 (len - k) k _ _ _ (by omega) (by omega) rfl hM (lv_sub hl [1, 2, 0] rfl)
                · have c_52 := (br_eq rfl hln (by omega) (by omega)).mp c_52
                  refine lv_aload_n hx hb dX8_next_122 rfl (lv_at hl 1 rfl) ?_
                  refine lv_iconst (v := 0) hx hb dX8_next_123 (by decide) ?_
                  refine fp_X8_166 hC hM mq_F (Nat.le_of_ble_eq_true rfl) (M2 := mq tb mo (pqF F (0, k, k, qVa pq, qFl pq, qFa pq)) w av od sv sl nz ip ot M0) (mq_wF2 rfl) dX8_next_124 (fun H locs hM => ?_)
                  refine lv_goto (tgt := 358) hx hb dX8_next_127 (by decide) ?_
                  exact me_vret hC hr hlk hM (mq_ps (by unfold mxP; rw [hs2]; unfold mx1; rw [if_pos c_52])) (rfl) dX8_next_358
          · refine lv_aload_n hx hb dX8_next_69 rfl (lv_at hl 0 rfl) ?_
            refine lv_dup hx hb dX8_next_70 rfl ?_
            refine fg_X8_172 hC hM mq_F rfl dX8_next_71 ?_
            refine me_evi (y := nI k) rfl ?_
            refine lv_iconst (v := 1) hx hb dX8_next_74 (by decide) ?_
            refine lv_iadd hx hb dX8_next_75 ?_
            refine me_evi (y := nI (k + 1)) (nx_add rfl (show (1 : Int32) = nI 1 from rfl)) ?_
            refine fp_X8_172 hC hM mq_F (Nat.le_of_ble_eq_true rfl) (M2 := mq tb mo (pqF F (qKd pq, k + 1, qTo pq, qVa pq, qFl pq, qFa pq)) w av od sv sl nz ip ot M0) (mq_wF2 rfl) dX8_next_76 (fun H locs hM => ?_)
            refine lv_goto (tgt := 30) hx hb dX8_next_79 (by decide) ?_
            exact ih_30 r1 (by omega) (k + 1) _ _ _ (by omega) (by omega) (hs.trans (skP_t (Or.inr c_34))) hM (lv_sub hl [0, 1] rfl)
    exact lp_30 (len - qTo pq) (qTo pq) _ _ _ (by omega) (by omega) rfl hM (lv_sub hl [1, 0] rfl)
  · have c_1 := (not_congr (br_eq rfl (show (1 : Int32) = nI 1 from rfl) (by omega) (by omega))).mp c_1
    refine lv_aload_n hx hb dX8_next_8 rfl (lv_at hl 0 rfl) ?_
    refine fg_X8_166 hC hM mq_F rfl dX8_next_9 ?_
    refine me_evi (y := nI (qKd pq)) rfl ?_
    refine lv_iconst (v := 2) hx hb dX8_next_12 (by decide) ?_
    refine lv_icmp_ne (tgt := 20) hx hb dX8_next_13 (by decide) (fun c_65 => ?_) (fun c_65 => ?_)
    · have c_65 := (not_congr (br_eq rfl (nx_c 2) (by omega) (by omega))).mp c_65
      refine lv_iconst (v := 0) hx hb dX8_next_20 (by decide) ?_
      refine lv_istore_n (lv' := [(1, .int 0), (0, .ref mo)]) hx hb dX8_next_21 rfl hl (by decide) rfl (fun ls hl => ?_)
      refine lv_aload_n hx hb dX8_next_22 rfl (lv_at hl 1 rfl) ?_
      refine lv_aload_n hx hb dX8_next_23 rfl (lv_at hl 1 rfl) ?_
      refine fg_X8_169 hC hM mq_F rfl dX8_next_24 ?_
      refine me_evi (y := nI (qTo pq)) rfl ?_
      refine fp_X8_172 hC hM mq_F (Nat.le_of_ble_eq_true rfl) (M2 := mq tb mo (pqF F (qKd pq, qTo pq, qTo pq, qVa pq, qFl pq, qFa pq)) w av od sv sl nz ip ot M0) (mq_wF2 rfl) dX8_next_27 (fun H locs hM => ?_)
      have lp_30 : ∀ (r : Nat) (k : Nat) (H : Heap) (locs : List Loc) (ls : Array Slot), (k + r = len) → (qTo pq ≤ k) → (skP ip (len - qTo pq) (qTo pq) = skP ip r k) → me_at D z0 (mq tb mo (pqF F (qKd pq, k, qTo pq, qVa pq, qFl pq, qFa pq)) w av od sv sl nz ip ot M0) n s H locs → lv_has ls 3 [(0, .ref mo), (1, .int 0)] → W p l e (({ frames := 1, cells := 0, slots := 0, locals := 20 } : Room)) s m args below meth c H locs 0 0 (MQ below (me_Qv D z0 (mq tb mo (pqF F (mxP ip len pq)) w av od sv sl nz ip ot M0) n) args s 0 0 (me_A z0)) (F0 m 30 ls []) := by
        intro r
        refine Nat.strongRecOn r ?_
        intro r ih_30 k H locs ls hk hk1 hs hM hl
        refine lv_aload_n hx hb dX8_next_30 rfl (lv_at hl 0 rfl) ?_
        refine fg_X8_172 hC hM mq_F rfl dX8_next_31 ?_
        refine me_evi (y := nI k) rfl ?_
        refine lv_aload_n hx hb dX8_next_34 rfl (lv_at hl 0 rfl) ?_
        refine fg_X8_175 hC hM mq_F rfl dX8_next_35 ?_
        refine me_evi (y := F 7) rfl ?_
        refine lv_icmp_ge (tgt := 82) hx hb dX8_next_38 (by decide) (fun c_66 => ?_) (fun c_66 => ?_)
        · have c_66 := (br_le hln rfl (by omega) (by omega)).mp c_66
          have hs2 : skP ip (len - qTo pq) (qTo pq) = k := by rw [hs, show r = 0 by omega]; rfl
          refine lv_iload_n hx hb dX8_next_82 rfl (lv_at hl 1 rfl) ?_
          refine lv_if_eq (tgt := 101) hx hb dX8_next_83 (by decide) (fun c_67 => ?_) (fun c_67 => ?_)
          · refine lv_iconst (v := 0) hx hb dX8_next_101 (by decide) ?_
            refine lv_istore_n (lv' := [(2, .int 0), (0, .ref mo), (1, .int 0)]) hx hb dX8_next_102 rfl hl (by decide) rfl (fun ls hl => ?_)
            refine lv_aload_n hx hb dX8_next_103 rfl (lv_at hl 1 rfl) ?_
            refine lv_aload_n hx hb dX8_next_104 rfl (lv_at hl 1 rfl) ?_
            refine fg_X8_172 hC hM mq_F rfl dX8_next_105 ?_
            refine me_evi (y := nI k) rfl ?_
            refine fp_X8_169 hC hM mq_F (Nat.le_of_ble_eq_true rfl) (M2 := mq tb mo (pqF F (qKd pq, k, k, qVa pq, qFl pq, qFa pq)) w av od sv sl nz ip ot M0) (mq_wF2 rfl) dX8_next_108 (fun H locs hM => ?_)
            refine lv_aload_n hx hb dX8_next_111 rfl (lv_at hl 1 rfl) ?_
            refine fg_X8_172 hC hM mq_F rfl dX8_next_112 ?_
            refine me_evi (y := nI k) rfl ?_
            refine lv_aload_n hx hb dX8_next_115 rfl (lv_at hl 1 rfl) ?_
            refine fg_X8_175 hC hM mq_F rfl dX8_next_116 ?_
            refine me_evi (y := F 7) rfl ?_
            refine lv_icmp_ne (tgt := 130) hx hb dX8_next_119 (by decide) (fun c_68 => ?_) (fun c_68 => ?_)
            · have c_68 := (not_congr (br_eq rfl hln (by omega) (by omega))).mp c_68
              refine lv_aload_n hx hb dX8_next_130 rfl (lv_at hl 1 rfl) ?_
              refine fg_X8_31 hC hM mq_F rfl dX8_next_131 ?_
              refine lv_aload_n hx hb dX8_next_134 rfl (lv_at hl 1 rfl) ?_
              refine fg_X8_172 hC hM mq_F rfl dX8_next_135 ?_
              refine me_evi (y := nI k) rfl ?_
              refine me_bald (k := k) hC hM mq_ip rfl (by omega) (by first | decide | omega) dX8_next_138 ?_
              refine me_callSi (As := [.int (ip k)]) (rest := []) hC hl.1 hM (c_X8_isLetter l D tb X z0 n _ (ip k) ) (ks_X8_178 hw rfl rfl ⟨Nat.le_of_ble_eq_true rfl, Nat.le_of_ble_eq_true rfl⟩) rfl rfl (Nat.le_of_ble_eq_true rfl) dX8_next_139 ⟨Nat.le_of_ble_eq_true rfl, Nat.le_of_ble_eq_true rfl⟩ (fun H locs hM => ?_)
              refine lv_if_eq (tgt := 200) hx hb dX8_next_142 (by decide) (fun c_69 => ?_) (fun c_69 => ?_)
              · have c_69 := b1_0.mp c_69
                refine lv_aload_n hx hb dX8_next_200 rfl (lv_at hl 1 rfl) ?_
                refine fg_X8_31 hC hM mq_F rfl dX8_next_201 ?_
                refine lv_aload_n hx hb dX8_next_204 rfl (lv_at hl 1 rfl) ?_
                refine fg_X8_172 hC hM mq_F rfl dX8_next_205 ?_
                refine me_evi (y := nI k) rfl ?_
                refine me_bald (k := k) hC hM mq_ip rfl (by omega) (by first | decide | omega) dX8_next_208 ?_
                refine me_callSi (As := [.int (ip k)]) (rest := []) hC hl.1 hM (c_X8_isDigit l D tb X z0 n _ (ip k) ) (ks_X8_181 hw rfl rfl ⟨Nat.le_of_ble_eq_true rfl, Nat.le_of_ble_eq_true rfl⟩) rfl rfl (Nat.le_of_ble_eq_true rfl) dX8_next_209 ⟨Nat.le_of_ble_eq_true rfl, Nat.le_of_ble_eq_true rfl⟩ (fun H locs hM => ?_)
                refine lv_if_eq (tgt := 325) hx hb dX8_next_212 (by decide) (fun c_70 => ?_) (fun c_70 => ?_)
                · have c_70 := b1_0.mp c_70
                  refine lv_aload_n hx hb dX8_next_325 rfl (lv_at hl 1 rfl) ?_
                  refine lv_aload_n hx hb dX8_next_326 rfl (lv_at hl 1 rfl) ?_
                  refine fg_X8_172 hC hM mq_F rfl dX8_next_327 ?_
                  refine me_evi (y := nI k) rfl ?_
                  refine lv_iconst (v := 1) hx hb dX8_next_330 (by decide) ?_
                  refine lv_iadd hx hb dX8_next_331 ?_
                  refine me_evi (y := nI (k + 1)) (nx_add rfl (show (1 : Int32) = nI 1 from rfl)) ?_
                  refine fp_X8_169 hC hM mq_F (Nat.le_of_ble_eq_true rfl) (M2 := mq tb mo (pqF F (qKd pq, k, k + 1, qVa pq, qFl pq, qFa pq)) w av od sv sl nz ip ot M0) (mq_wF2 rfl) dX8_next_332 (fun H locs hM => ?_)
                  refine lv_aload_n hx hb dX8_next_335 rfl (lv_at hl 1 rfl) ?_
                  refine lv_aload_n hx hb dX8_next_336 rfl (lv_at hl 1 rfl) ?_
                  refine fg_X8_31 hC hM mq_F rfl dX8_next_337 ?_
                  refine lv_aload_n hx hb dX8_next_340 rfl (lv_at hl 1 rfl) ?_
                  refine fg_X8_172 hC hM mq_F rfl dX8_next_341 ?_
                  refine me_evi (y := nI k) rfl ?_
                  refine me_bald (k := k) hC hM mq_ip rfl (by omega) (by first | decide | omega) dX8_next_344 ?_
                  refine lv_bipush (v := 59) hx hb dX8_next_345 (by decide) ?_
                  refine lv_icmp_ne (tgt := 354) hx hb dX8_next_347 (by decide) (fun c_71 => ?_) (fun c_71 => ?_)
                  · refine lv_iconst (v := 4) hx hb dX8_next_354 (by decide) ?_
                    refine fp_X8_166 hC hM mq_F (Nat.le_of_ble_eq_true rfl) (M2 := mq tb mo (pqF F (4, k, k + 1, qVa pq, qFl pq, qFa pq)) w av od sv sl nz ip ot M0) (mq_wF2 rfl) dX8_next_355 (fun H locs hM => ?_)
                    exact me_vret hC hr hlk hM (mq_ps (by unfold mxP; rw [hs2]; unfold mx1; rw [if_neg c_68, if_neg c_69, if_neg c_70, if_neg c_71])) (rfl) dX8_next_358
                  · refine lv_iconst (v := 3) hx hb dX8_next_350 (by decide) ?_
                    refine lv_goto (tgt := 355) hx hb dX8_next_351 (by decide) ?_
                    refine fp_X8_166 hC hM mq_F (Nat.le_of_ble_eq_true rfl) (M2 := mq tb mo (pqF F (3, k, k + 1, qVa pq, qFl pq, qFa pq)) w av od sv sl nz ip ot M0) (mq_wF2 rfl) dX8_next_355 (fun H locs hM => ?_)
                    exact me_vret hC hr hlk hM (mq_ps (by unfold mxP; rw [hs2]; unfold mx1; rw [if_neg c_68, if_neg c_69, if_neg c_70, if_pos c_71])) (rfl) dX8_next_358
                · have c_70 := b1_n0.mp c_70
                  refine lv_aload_n hx hb dX8_next_215 rfl (lv_at hl 1 rfl) ?_
                  refine lv_iconst (v := 0) hx hb dX8_next_216 (by decide) ?_
                  refine fp_X8_184 hC hM mq_F (Nat.le_of_ble_eq_true rfl) (M2 := mq tb mo (pqF F (qKd pq, k, k, 0, qFl pq, qFa pq)) w av od sv sl nz ip ot M0) (mq_wF2 rfl) dX8_next_217 (fun H locs hM => ?_)
                  have lp_220 : ∀ (r2 : Nat) (k2 : Nat) (v : Int32) (H : Heap) (locs : List Loc) (ls : Array Slot), (k2 + r2 = len) → (k ≤ k2) → (drP ip (len - k) k = drP ip r2 k2) → (dvP ip k (len - k) k 0 = dvP ip k r2 k2 v) → me_at D z0 (mq tb mo (pqF F (qKd pq, k, k2, v, qFl pq, qFa pq)) w av od sv sl nz ip ot M0) n s H locs → lv_has ls 3 [(0, .ref mo), (1, .int 0), (2, .int 0)] → W p l e (({ frames := 1, cells := 0, slots := 0, locals := 20 } : Room)) s m args below meth c H locs 0 0 (MQ below (me_Qv D z0 (mq tb mo (pqF F (mxP ip len pq)) w av od sv sl nz ip ot M0) n) args s 0 0 (me_A z0)) (F0 m 220 ls []) := by
                    intro r2
                    refine Nat.strongRecOn r2 ?_
                    intro r2 ih_220 k2 v H locs ls hk2 hk3 hd2 hv2 hM hl
                    refine lv_aload_n hx hb dX8_next_220 rfl (lv_at hl 0 rfl) ?_
                    refine fg_X8_169 hC hM mq_F rfl dX8_next_221 ?_
                    refine me_evi (y := nI k2) rfl ?_
                    refine lv_aload_n hx hb dX8_next_224 rfl (lv_at hl 0 rfl) ?_
                    refine fg_X8_175 hC hM mq_F rfl dX8_next_225 ?_
                    refine me_evi (y := F 7) rfl ?_
                    refine lv_icmp_ge (tgt := 296) hx hb dX8_next_228 (by decide) (fun c_72 => ?_) (fun c_72 => ?_)
                    · have c_72 := (br_le hln rfl (by omega) (by omega)).mp c_72
                      have hd3 : drP ip (len - k) k = k2 := by rw [hd2, show r2 = 0 by omega]; rfl
                      have hv3 : dvP ip k (len - k) k 0 = v := by rw [hv2, show r2 = 0 by omega]; rfl
                      refine lv_aload_n hx hb dX8_next_296 rfl (lv_at hl 0 rfl) ?_
                      refine lv_iload_n hx hb dX8_next_297 rfl (lv_at hl 2 rfl) ?_
                      refine lv_if_ne (tgt := 314) hx hb dX8_next_298 (by decide) (fun c_73 => ?_) (fun c_73 => ?_)
                      · exact absurd c_73 (by decide)
                      · refine lv_aload_n hx hb dX8_next_301 rfl (lv_at hl 0 rfl) ?_
                        refine fg_X8_169 hC hM mq_F rfl dX8_next_302 ?_
                        refine me_evi (y := nI k2) rfl ?_
                        refine lv_aload_n hx hb dX8_next_305 rfl (lv_at hl 0 rfl) ?_
                        refine fg_X8_172 hC hM mq_F rfl dX8_next_306 ?_
                        refine me_evi (y := nI k) rfl ?_
                        refine lv_isub hx hb dX8_next_309 ?_
                        refine lv_iconst (v := 4) hx hb dX8_next_310 (by decide) ?_
                        refine lv_icmp_le (tgt := 318) hx hb dX8_next_311 (by decide) (fun c_74 => ?_) (fun c_74 => ?_)
                        · have c_74 := (br_le (nx_sub rfl rfl (by omega)) (nx_c 4) (by omega) (by omega)).mp c_74
                          refine lv_iconst (v := 2) hx hb dX8_next_318 (by decide) ?_
                          refine fp_X8_166 hC hM mq_F (Nat.le_of_ble_eq_true rfl) (M2 := mq tb mo (pqF F (2, k, k2, v, qFl pq, qFa pq)) w av od sv sl nz ip ot M0) (mq_wF2 rfl) dX8_next_319 (fun H locs hM => ?_)
                          refine lv_goto (tgt := 358) hx hb dX8_next_322 (by decide) ?_
                          exact me_vret hC hr hlk hM (mq_ps (by unfold mxP; rw [hs2]; unfold mx1; rw [if_neg c_68, if_neg c_69, if_pos c_70, hd3, hv3, if_neg (fun z => z.elim (fun z => z.1.elim c_1 c_65) (fun z => absurd z (by omega)))])) (rfl) dX8_next_358
                        · have c_74 := (not_congr (br_le (nx_sub rfl rfl (by omega)) (nx_c 4) (by omega) (by omega))).mp c_74
                          refine lv_iconst (v := 4) hx hb dX8_next_314 (by decide) ?_
                          refine lv_goto (tgt := 319) hx hb dX8_next_315 (by decide) ?_
                          refine fp_X8_166 hC hM mq_F (Nat.le_of_ble_eq_true rfl) (M2 := mq tb mo (pqF F (4, k, k2, v, qFl pq, qFa pq)) w av od sv sl nz ip ot M0) (mq_wF2 rfl) dX8_next_319 (fun H locs hM => ?_)
                          refine lv_goto (tgt := 358) hx hb dX8_next_322 (by decide) ?_
                          exact me_vret hC hr hlk hM (mq_ps (by unfold mxP; rw [hs2]; unfold mx1; rw [if_neg c_68, if_neg c_69, if_pos c_70, hd3, hv3, if_pos (Or.inr (by omega))])) (rfl) dX8_next_358
                    · have c_72 := (not_congr (br_le hln rfl (by omega) (by omega))).mp c_72
                      obtain ⟨r3, rfl⟩ : ∃ r3, r2 = r3 + 1 := ⟨r2 - 1, by omega⟩
                      refine lv_aload_n hx hb dX8_next_231 rfl (lv_at hl 0 rfl) ?_
                      refine fg_X8_31 hC hM mq_F rfl dX8_next_232 ?_
                      refine lv_aload_n hx hb dX8_next_235 rfl (lv_at hl 0 rfl) ?_
                      refine fg_X8_169 hC hM mq_F rfl dX8_next_236 ?_
                      refine me_evi (y := nI k2) rfl ?_
                      refine me_bald (k := k2) hC hM mq_ip rfl (by omega) (by first | decide | omega) dX8_next_239 ?_
                      refine me_callSi (As := [.int (ip k2)]) (rest := []) hC hl.1 hM (c_X8_isDigit l D tb X z0 n _ (ip k2) ) (ks_X8_181 hw rfl rfl ⟨Nat.le_of_ble_eq_true rfl, Nat.le_of_ble_eq_true rfl⟩) rfl rfl (Nat.le_of_ble_eq_true rfl) dX8_next_240 ⟨Nat.le_of_ble_eq_true rfl, Nat.le_of_ble_eq_true rfl⟩ (fun H locs hM => ?_)
                      refine lv_if_eq (tgt := 296) hx hb dX8_next_243 (by decide) (fun c_75 => ?_) (fun c_75 => ?_)
                      · have c_75 := b1_0.mp c_75
                        have hd3 : drP ip (len - k) k = k2 := hd2.trans (drP_f c_75)
                        have hv3 : dvP ip k (len - k) k 0 = v := hv2.trans (dvP_f c_75)
                        refine lv_aload_n hx hb dX8_next_296 rfl (lv_at hl 0 rfl) ?_
                        refine lv_iload_n hx hb dX8_next_297 rfl (lv_at hl 2 rfl) ?_
                        refine lv_if_ne (tgt := 314) hx hb dX8_next_298 (by decide) (fun c_76 => ?_) (fun c_76 => ?_)
                        · exact absurd c_76 (by decide)
                        · refine lv_aload_n hx hb dX8_next_301 rfl (lv_at hl 0 rfl) ?_
                          refine fg_X8_169 hC hM mq_F rfl dX8_next_302 ?_
                          refine me_evi (y := nI k2) rfl ?_
                          refine lv_aload_n hx hb dX8_next_305 rfl (lv_at hl 0 rfl) ?_
                          refine fg_X8_172 hC hM mq_F rfl dX8_next_306 ?_
                          refine me_evi (y := nI k) rfl ?_
                          refine lv_isub hx hb dX8_next_309 ?_
                          refine lv_iconst (v := 4) hx hb dX8_next_310 (by decide) ?_
                          refine lv_icmp_le (tgt := 318) hx hb dX8_next_311 (by decide) (fun c_77 => ?_) (fun c_77 => ?_)
                          · have c_77 := (br_le (nx_sub rfl rfl (by omega)) (nx_c 4) (by omega) (by omega)).mp c_77
                            refine lv_iconst (v := 2) hx hb dX8_next_318 (by decide) ?_
                            refine fp_X8_166 hC hM mq_F (Nat.le_of_ble_eq_true rfl) (M2 := mq tb mo (pqF F (2, k, k2, v, qFl pq, qFa pq)) w av od sv sl nz ip ot M0) (mq_wF2 rfl) dX8_next_319 (fun H locs hM => ?_)
                            refine lv_goto (tgt := 358) hx hb dX8_next_322 (by decide) ?_
                            exact me_vret hC hr hlk hM (mq_ps (by unfold mxP; rw [hs2]; unfold mx1; rw [if_neg c_68, if_neg c_69, if_pos c_70, hd3, hv3, if_neg (fun z => z.elim (fun z => z.1.elim c_1 c_65) (fun z => absurd z (by omega)))])) (rfl) dX8_next_358
                          · have c_77 := (not_congr (br_le (nx_sub rfl rfl (by omega)) (nx_c 4) (by omega) (by omega))).mp c_77
                            refine lv_iconst (v := 4) hx hb dX8_next_314 (by decide) ?_
                            refine lv_goto (tgt := 319) hx hb dX8_next_315 (by decide) ?_
                            refine fp_X8_166 hC hM mq_F (Nat.le_of_ble_eq_true rfl) (M2 := mq tb mo (pqF F (4, k, k2, v, qFl pq, qFa pq)) w av od sv sl nz ip ot M0) (mq_wF2 rfl) dX8_next_319 (fun H locs hM => ?_)
                            refine lv_goto (tgt := 358) hx hb dX8_next_322 (by decide) ?_
                            exact me_vret hC hr hlk hM (mq_ps (by unfold mxP; rw [hs2]; unfold mx1; rw [if_neg c_68, if_neg c_69, if_pos c_70, hd3, hv3, if_pos (Or.inr (by omega))])) (rfl) dX8_next_358
                      · have c_75 := b1_n0.mp c_75
                        refine lv_aload_n hx hb dX8_next_246 rfl (lv_at hl 0 rfl) ?_
                        refine fg_X8_169 hC hM mq_F rfl dX8_next_247 ?_
                        refine me_evi (y := nI k2) rfl ?_
                        refine lv_aload_n hx hb dX8_next_250 rfl (lv_at hl 0 rfl) ?_
                        refine fg_X8_172 hC hM mq_F rfl dX8_next_251 ?_
                        refine me_evi (y := nI k) rfl ?_
                        refine lv_isub hx hb dX8_next_254 ?_
                        refine lv_iconst (v := 4) hx hb dX8_next_255 (by decide) ?_
                        refine lv_icmp_ge (tgt := 283) hx hb dX8_next_256 (by decide) (fun c_78 => ?_) (fun c_78 => ?_)
                        · have c_78 := (br_le (nx_c 4) (nx_sub rfl rfl (by omega)) (by omega) (by omega)).mp c_78
                          refine lv_aload_n hx hb dX8_next_283 rfl (lv_at hl 0 rfl) ?_
                          refine lv_dup hx hb dX8_next_284 rfl ?_
                          refine fg_X8_169 hC hM mq_F rfl dX8_next_285 ?_
                          refine me_evi (y := nI k2) rfl ?_
                          refine lv_iconst (v := 1) hx hb dX8_next_288 (by decide) ?_
                          refine lv_iadd hx hb dX8_next_289 ?_
                          refine me_evi (y := nI (k2 + 1)) (nx_add rfl (show (1 : Int32) = nI 1 from rfl)) ?_
                          refine fp_X8_169 hC hM mq_F (Nat.le_of_ble_eq_true rfl) (M2 := mq tb mo (pqF F (qKd pq, k, k2 + 1, v, qFl pq, qFa pq)) w av od sv sl nz ip ot M0) (mq_wF2 rfl) dX8_next_290 (fun H locs hM => ?_)
                          refine lv_goto (tgt := 220) hx hb dX8_next_293 (by decide) ?_
                          exact ih_220 r3 (by omega) (k2 + 1) v _ _ _ (by omega) (by omega) (hd2.trans (drP_t c_75)) (hv2.trans (dvP_b c_75 (by omega))) hM (lv_sub hl [0, 1, 2] rfl)
                        · have c_78 := (not_congr (br_le (nx_c 4) (nx_sub rfl rfl (by omega)) (by omega) (by omega))).mp c_78
                          refine lv_aload_n hx hb dX8_next_259 rfl (lv_at hl 0 rfl) ?_
                          refine lv_bipush (v := 10) hx hb dX8_next_260 (by decide) ?_
                          refine lv_aload_n hx hb dX8_next_262 rfl (lv_at hl 0 rfl) ?_
                          refine fg_X8_184 hC hM mq_F rfl dX8_next_263 ?_
                          refine me_evi (y := v) rfl ?_
                          refine lv_imul hx hb dX8_next_266 ?_
                          refine lv_aload_n hx hb dX8_next_267 rfl (lv_at hl 0 rfl) ?_
                          refine fg_X8_31 hC hM mq_F rfl dX8_next_268 ?_
                          refine lv_aload_n hx hb dX8_next_271 rfl (lv_at hl 0 rfl) ?_
                          refine fg_X8_169 hC hM mq_F rfl dX8_next_272 ?_
                          refine me_evi (y := nI k2) rfl ?_
                          refine me_bald (k := k2) hC hM mq_ip rfl (by omega) (by first | decide | omega) dX8_next_275 ?_
                          refine lv_iadd hx hb dX8_next_276 ?_
                          refine lv_bipush (v := 48) hx hb dX8_next_277 (by decide) ?_
                          refine lv_isub hx hb dX8_next_279 ?_
                          refine fp_X8_184 hC hM mq_F (Nat.le_of_ble_eq_true rfl) (M2 := mq tb mo (pqF F (qKd pq, k, k2, ((10 * v) + (ip k2)) - 48, qFl pq, qFa pq)) w av od sv sl nz ip ot M0) (mq_wF2 rfl) dX8_next_280 (fun H locs hM => ?_)
                          refine lv_aload_n hx hb dX8_next_283 rfl (lv_at hl 0 rfl) ?_
                          refine lv_dup hx hb dX8_next_284 rfl ?_
                          refine fg_X8_169 hC hM mq_F rfl dX8_next_285 ?_
                          refine me_evi (y := nI k2) rfl ?_
                          refine lv_iconst (v := 1) hx hb dX8_next_288 (by decide) ?_
                          refine lv_iadd hx hb dX8_next_289 ?_
                          refine me_evi (y := nI (k2 + 1)) (nx_add rfl (show (1 : Int32) = nI 1 from rfl)) ?_
                          refine fp_X8_169 hC hM mq_F (Nat.le_of_ble_eq_true rfl) (M2 := mq tb mo (pqF F (qKd pq, k, k2 + 1, ((10 * v) + (ip k2)) - 48, qFl pq, qFa pq)) w av od sv sl nz ip ot M0) (mq_wF2 rfl) dX8_next_290 (fun H locs hM => ?_)
                          refine lv_goto (tgt := 220) hx hb dX8_next_293 (by decide) ?_
                          exact ih_220 r3 (by omega) (k2 + 1) (10 * v + ip k2 - 48) _ _ _ (by omega) (by omega) (hd2.trans (drP_t c_75)) (hv2.trans (dvP_a c_75 (by omega))) hM (lv_sub hl [0, 1, 2] rfl)
                  exact lp_220 (len - k) k 0 _ _ _ (by omega) (by omega) rfl rfl hM (lv_sub hl [1, 2, 0] rfl)
              · have c_69 := b1_n0.mp c_69
                have lp_145 : ∀ (r2 : Nat) (k2 : Nat) (H : Heap) (locs : List Loc) (ls : Array Slot), (k2 + r2 = len) → (k ≤ k2) → (lrP ip (len - k) k = lrP ip r2 k2) → me_at D z0 (mq tb mo (pqF F (qKd pq, k, k2, qVa pq, qFl pq, qFa pq)) w av od sv sl nz ip ot M0) n s H locs → lv_has ls 3 [(0, .ref mo), (1, .int 0), (2, .int 0)] → W p l e (({ frames := 1, cells := 0, slots := 0, locals := 20 } : Room)) s m args below meth c H locs 0 0 (MQ below (me_Qv D z0 (mq tb mo (pqF F (mxP ip len pq)) w av od sv sl nz ip ot M0) n) args s 0 0 (me_A z0)) (F0 m 145 ls []) := by
                  intro r2
                  refine Nat.strongRecOn r2 ?_
                  intro r2 ih_145 k2 H locs ls hk2 hk3 hl2 hM hl
                  refine lv_aload_n hx hb dX8_next_145 rfl (lv_at hl 0 rfl) ?_
                  refine fg_X8_169 hC hM mq_F rfl dX8_next_146 ?_
                  refine me_evi (y := nI k2) rfl ?_
                  refine lv_aload_n hx hb dX8_next_149 rfl (lv_at hl 0 rfl) ?_
                  refine fg_X8_175 hC hM mq_F rfl dX8_next_150 ?_
                  refine me_evi (y := F 7) rfl ?_
                  refine lv_icmp_ge (tgt := 184) hx hb dX8_next_153 (by decide) (fun c_79 => ?_) (fun c_79 => ?_)
                  · have c_79 := (br_le hln rfl (by omega) (by omega)).mp c_79
                    have hl3 : lrP ip (len - k) k = k2 := by rw [hl2, show r2 = 0 by omega]; rfl
                    refine lv_aload_n hx hb dX8_next_184 rfl (lv_at hl 0 rfl) ?_
                    refine lv_iload_n hx hb dX8_next_185 rfl (lv_at hl 2 rfl) ?_
                    refine lv_if_eq (tgt := 193) hx hb dX8_next_186 (by decide) (fun c_80 => ?_) (fun c_80 => ?_)
                    · refine lv_iconst (v := 1) hx hb dX8_next_193 (by decide) ?_
                      refine fp_X8_166 hC hM mq_F (Nat.le_of_ble_eq_true rfl) (M2 := mq tb mo (pqF F (1, k, k2, qVa pq, qFl pq, qFa pq)) w av od sv sl nz ip ot M0) (mq_wF2 rfl) dX8_next_194 (fun H locs hM => ?_)
                      refine lv_goto (tgt := 358) hx hb dX8_next_197 (by decide) ?_
                      exact me_vret hC hr hlk hM (mq_ps (by unfold mxP; rw [hs2]; unfold mx1; rw [if_neg c_68, if_pos c_69, hl3, if_neg (fun z => z.1.elim c_1 c_65)])) (rfl) dX8_next_358
                    · exact absurd c_80 (by decide)
                  · have c_79 := (not_congr (br_le hln rfl (by omega) (by omega))).mp c_79
                    obtain ⟨r3, rfl⟩ : ∃ r3, r2 = r3 + 1 := ⟨r2 - 1, by omega⟩
                    refine lv_aload_n hx hb dX8_next_156 rfl (lv_at hl 0 rfl) ?_
                    refine fg_X8_31 hC hM mq_F rfl dX8_next_157 ?_
                    refine lv_aload_n hx hb dX8_next_160 rfl (lv_at hl 0 rfl) ?_
                    refine fg_X8_169 hC hM mq_F rfl dX8_next_161 ?_
                    refine me_evi (y := nI k2) rfl ?_
                    refine me_bald (k := k2) hC hM mq_ip rfl (by omega) (by first | decide | omega) dX8_next_164 ?_
                    refine me_callSi (As := [.int (ip k2)]) (rest := []) hC hl.1 hM (c_X8_isLetter l D tb X z0 n _ (ip k2) ) (ks_X8_178 hw rfl rfl ⟨Nat.le_of_ble_eq_true rfl, Nat.le_of_ble_eq_true rfl⟩) rfl rfl (Nat.le_of_ble_eq_true rfl) dX8_next_165 ⟨Nat.le_of_ble_eq_true rfl, Nat.le_of_ble_eq_true rfl⟩ (fun H locs hM => ?_)
                    refine lv_if_eq (tgt := 184) hx hb dX8_next_168 (by decide) (fun c_81 => ?_) (fun c_81 => ?_)
                    · have c_81 := b1_0.mp c_81
                      have hl3 : lrP ip (len - k) k = k2 := hl2.trans (lrP_f c_81)
                      refine lv_aload_n hx hb dX8_next_184 rfl (lv_at hl 0 rfl) ?_
                      refine lv_iload_n hx hb dX8_next_185 rfl (lv_at hl 2 rfl) ?_
                      refine lv_if_eq (tgt := 193) hx hb dX8_next_186 (by decide) (fun c_82 => ?_) (fun c_82 => ?_)
                      · refine lv_iconst (v := 1) hx hb dX8_next_193 (by decide) ?_
                        refine fp_X8_166 hC hM mq_F (Nat.le_of_ble_eq_true rfl) (M2 := mq tb mo (pqF F (1, k, k2, qVa pq, qFl pq, qFa pq)) w av od sv sl nz ip ot M0) (mq_wF2 rfl) dX8_next_194 (fun H locs hM => ?_)
                        refine lv_goto (tgt := 358) hx hb dX8_next_197 (by decide) ?_
                        exact me_vret hC hr hlk hM (mq_ps (by unfold mxP; rw [hs2]; unfold mx1; rw [if_neg c_68, if_pos c_69, hl3, if_neg (fun z => z.1.elim c_1 c_65)])) (rfl) dX8_next_358
                      · exact absurd c_82 (by decide)
                    · have c_81 := b1_n0.mp c_81
                      refine lv_aload_n hx hb dX8_next_171 rfl (lv_at hl 0 rfl) ?_
                      refine lv_dup hx hb dX8_next_172 rfl ?_
                      refine fg_X8_169 hC hM mq_F rfl dX8_next_173 ?_
                      refine me_evi (y := nI k2) rfl ?_
                      refine lv_iconst (v := 1) hx hb dX8_next_176 (by decide) ?_
                      refine lv_iadd hx hb dX8_next_177 ?_
                      refine me_evi (y := nI (k2 + 1)) (nx_add rfl (show (1 : Int32) = nI 1 from rfl)) ?_
                      refine fp_X8_169 hC hM mq_F (Nat.le_of_ble_eq_true rfl) (M2 := mq tb mo (pqF F (qKd pq, k, k2 + 1, qVa pq, qFl pq, qFa pq)) w av od sv sl nz ip ot M0) (mq_wF2 rfl) dX8_next_178 (fun H locs hM => ?_)
                      refine lv_goto (tgt := 145) hx hb dX8_next_181 (by decide) ?_
                      exact ih_145 r3 (by omega) (k2 + 1) _ _ _ (by omega) (by omega) (hl2.trans (lrP_t c_81)) hM (lv_sub hl [0, 1, 2] rfl)
                exact lp_145 (len - k) k _ _ _ (by omega) (by omega) rfl hM (lv_sub hl [1, 2, 0] rfl)
            · have c_68 := (br_eq rfl hln (by omega) (by omega)).mp c_68
              refine lv_aload_n hx hb dX8_next_122 rfl (lv_at hl 1 rfl) ?_
              refine lv_iconst (v := 0) hx hb dX8_next_123 (by decide) ?_
              refine fp_X8_166 hC hM mq_F (Nat.le_of_ble_eq_true rfl) (M2 := mq tb mo (pqF F (0, k, k, qVa pq, qFl pq, qFa pq)) w av od sv sl nz ip ot M0) (mq_wF2 rfl) dX8_next_124 (fun H locs hM => ?_)
              refine lv_goto (tgt := 358) hx hb dX8_next_127 (by decide) ?_
              exact me_vret hC hr hlk hM (mq_ps (by unfold mxP; rw [hs2]; unfold mx1; rw [if_pos c_68])) (rfl) dX8_next_358
          · exact absurd c_67 (by decide)
        · have c_66 := (not_congr (br_le hln rfl (by omega) (by omega))).mp c_66
          obtain ⟨r1, rfl⟩ : ∃ r1, r = r1 + 1 := ⟨r - 1, by omega⟩
          refine lv_aload_n hx hb dX8_next_41 rfl (lv_at hl 0 rfl) ?_
          refine fg_X8_31 hC hM mq_F rfl dX8_next_42 ?_
          refine lv_aload_n hx hb dX8_next_45 rfl (lv_at hl 0 rfl) ?_
          refine fg_X8_172 hC hM mq_F rfl dX8_next_46 ?_
          refine me_evi (y := nI k) rfl ?_
          refine me_bald (k := k) hC hM mq_ip rfl (by omega) (by first | decide | omega) dX8_next_49 ?_
          refine lv_bipush (v := 32) hx hb dX8_next_50 (by decide) ?_
          refine lv_icmp_eq (tgt := 69) hx hb dX8_next_52 (by decide) (fun c_83 => ?_) (fun c_83 => ?_)
          · refine lv_aload_n hx hb dX8_next_69 rfl (lv_at hl 0 rfl) ?_
            refine lv_dup hx hb dX8_next_70 rfl ?_
            refine fg_X8_172 hC hM mq_F rfl dX8_next_71 ?_
            refine me_evi (y := nI k) rfl ?_
            refine lv_iconst (v := 1) hx hb dX8_next_74 (by decide) ?_
            refine lv_iadd hx hb dX8_next_75 ?_
            refine me_evi (y := nI (k + 1)) (nx_add rfl (show (1 : Int32) = nI 1 from rfl)) ?_
            refine fp_X8_172 hC hM mq_F (Nat.le_of_ble_eq_true rfl) (M2 := mq tb mo (pqF F (qKd pq, k + 1, qTo pq, qVa pq, qFl pq, qFa pq)) w av od sv sl nz ip ot M0) (mq_wF2 rfl) dX8_next_76 (fun H locs hM => ?_)
            refine lv_goto (tgt := 30) hx hb dX8_next_79 (by decide) ?_
            exact ih_30 r1 (by omega) (k + 1) _ _ _ (by omega) (by omega) (hs.trans (skP_t (Or.inl c_83))) hM (lv_sub hl [0, 1] rfl)
          · refine lv_aload_n hx hb dX8_next_55 rfl (lv_at hl 0 rfl) ?_
            refine fg_X8_31 hC hM mq_F rfl dX8_next_56 ?_
            refine lv_aload_n hx hb dX8_next_59 rfl (lv_at hl 0 rfl) ?_
            refine fg_X8_172 hC hM mq_F rfl dX8_next_60 ?_
            refine me_evi (y := nI k) rfl ?_
            refine me_bald (k := k) hC hM mq_ip rfl (by omega) (by first | decide | omega) dX8_next_63 ?_
            refine lv_bipush (v := 10) hx hb dX8_next_64 (by decide) ?_
            refine lv_icmp_ne (tgt := 82) hx hb dX8_next_66 (by decide) (fun c_84 => ?_) (fun c_84 => ?_)
            · have hs2 : skP ip (len - qTo pq) (qTo pq) = k := hs.trans (skP_f (fun z => z.elim c_83 c_84))
              refine lv_iload_n hx hb dX8_next_82 rfl (lv_at hl 1 rfl) ?_
              refine lv_if_eq (tgt := 101) hx hb dX8_next_83 (by decide) (fun c_85 => ?_) (fun c_85 => ?_)
              · refine lv_iconst (v := 0) hx hb dX8_next_101 (by decide) ?_
                refine lv_istore_n (lv' := [(2, .int 0), (0, .ref mo), (1, .int 0)]) hx hb dX8_next_102 rfl hl (by decide) rfl (fun ls hl => ?_)
                refine lv_aload_n hx hb dX8_next_103 rfl (lv_at hl 1 rfl) ?_
                refine lv_aload_n hx hb dX8_next_104 rfl (lv_at hl 1 rfl) ?_
                refine fg_X8_172 hC hM mq_F rfl dX8_next_105 ?_
                refine me_evi (y := nI k) rfl ?_
                refine fp_X8_169 hC hM mq_F (Nat.le_of_ble_eq_true rfl) (M2 := mq tb mo (pqF F (qKd pq, k, k, qVa pq, qFl pq, qFa pq)) w av od sv sl nz ip ot M0) (mq_wF2 rfl) dX8_next_108 (fun H locs hM => ?_)
                refine lv_aload_n hx hb dX8_next_111 rfl (lv_at hl 1 rfl) ?_
                refine fg_X8_172 hC hM mq_F rfl dX8_next_112 ?_
                refine me_evi (y := nI k) rfl ?_
                refine lv_aload_n hx hb dX8_next_115 rfl (lv_at hl 1 rfl) ?_
                refine fg_X8_175 hC hM mq_F rfl dX8_next_116 ?_
                refine me_evi (y := F 7) rfl ?_
                refine lv_icmp_ne (tgt := 130) hx hb dX8_next_119 (by decide) (fun c_86 => ?_) (fun c_86 => ?_)
                · have c_86 := (not_congr (br_eq rfl hln (by omega) (by omega))).mp c_86
                  refine lv_aload_n hx hb dX8_next_130 rfl (lv_at hl 1 rfl) ?_
                  refine fg_X8_31 hC hM mq_F rfl dX8_next_131 ?_
                  refine lv_aload_n hx hb dX8_next_134 rfl (lv_at hl 1 rfl) ?_
                  refine fg_X8_172 hC hM mq_F rfl dX8_next_135 ?_
                  refine me_evi (y := nI k) rfl ?_
                  refine me_bald (k := k) hC hM mq_ip rfl (by omega) (by first | decide | omega) dX8_next_138 ?_
                  refine me_callSi (As := [.int (ip k)]) (rest := []) hC hl.1 hM (c_X8_isLetter l D tb X z0 n _ (ip k) ) (ks_X8_178 hw rfl rfl ⟨Nat.le_of_ble_eq_true rfl, Nat.le_of_ble_eq_true rfl⟩) rfl rfl (Nat.le_of_ble_eq_true rfl) dX8_next_139 ⟨Nat.le_of_ble_eq_true rfl, Nat.le_of_ble_eq_true rfl⟩ (fun H locs hM => ?_)
                  refine lv_if_eq (tgt := 200) hx hb dX8_next_142 (by decide) (fun c_87 => ?_) (fun c_87 => ?_)
                  · have c_87 := b1_0.mp c_87
                    refine lv_aload_n hx hb dX8_next_200 rfl (lv_at hl 1 rfl) ?_
                    refine fg_X8_31 hC hM mq_F rfl dX8_next_201 ?_
                    refine lv_aload_n hx hb dX8_next_204 rfl (lv_at hl 1 rfl) ?_
                    refine fg_X8_172 hC hM mq_F rfl dX8_next_205 ?_
                    refine me_evi (y := nI k) rfl ?_
                    refine me_bald (k := k) hC hM mq_ip rfl (by omega) (by first | decide | omega) dX8_next_208 ?_
                    refine me_callSi (As := [.int (ip k)]) (rest := []) hC hl.1 hM (c_X8_isDigit l D tb X z0 n _ (ip k) ) (ks_X8_181 hw rfl rfl ⟨Nat.le_of_ble_eq_true rfl, Nat.le_of_ble_eq_true rfl⟩) rfl rfl (Nat.le_of_ble_eq_true rfl) dX8_next_209 ⟨Nat.le_of_ble_eq_true rfl, Nat.le_of_ble_eq_true rfl⟩ (fun H locs hM => ?_)
                    refine lv_if_eq (tgt := 325) hx hb dX8_next_212 (by decide) (fun c_88 => ?_) (fun c_88 => ?_)
                    · have c_88 := b1_0.mp c_88
                      refine lv_aload_n hx hb dX8_next_325 rfl (lv_at hl 1 rfl) ?_
                      refine lv_aload_n hx hb dX8_next_326 rfl (lv_at hl 1 rfl) ?_
                      refine fg_X8_172 hC hM mq_F rfl dX8_next_327 ?_
                      refine me_evi (y := nI k) rfl ?_
                      refine lv_iconst (v := 1) hx hb dX8_next_330 (by decide) ?_
                      refine lv_iadd hx hb dX8_next_331 ?_
                      refine me_evi (y := nI (k + 1)) (nx_add rfl (show (1 : Int32) = nI 1 from rfl)) ?_
                      refine fp_X8_169 hC hM mq_F (Nat.le_of_ble_eq_true rfl) (M2 := mq tb mo (pqF F (qKd pq, k, k + 1, qVa pq, qFl pq, qFa pq)) w av od sv sl nz ip ot M0) (mq_wF2 rfl) dX8_next_332 (fun H locs hM => ?_)
                      refine lv_aload_n hx hb dX8_next_335 rfl (lv_at hl 1 rfl) ?_
                      refine lv_aload_n hx hb dX8_next_336 rfl (lv_at hl 1 rfl) ?_
                      refine fg_X8_31 hC hM mq_F rfl dX8_next_337 ?_
                      refine lv_aload_n hx hb dX8_next_340 rfl (lv_at hl 1 rfl) ?_
                      refine fg_X8_172 hC hM mq_F rfl dX8_next_341 ?_
                      refine me_evi (y := nI k) rfl ?_
                      refine me_bald (k := k) hC hM mq_ip rfl (by omega) (by first | decide | omega) dX8_next_344 ?_
                      refine lv_bipush (v := 59) hx hb dX8_next_345 (by decide) ?_
                      refine lv_icmp_ne (tgt := 354) hx hb dX8_next_347 (by decide) (fun c_89 => ?_) (fun c_89 => ?_)
                      · refine lv_iconst (v := 4) hx hb dX8_next_354 (by decide) ?_
                        refine fp_X8_166 hC hM mq_F (Nat.le_of_ble_eq_true rfl) (M2 := mq tb mo (pqF F (4, k, k + 1, qVa pq, qFl pq, qFa pq)) w av od sv sl nz ip ot M0) (mq_wF2 rfl) dX8_next_355 (fun H locs hM => ?_)
                        exact me_vret hC hr hlk hM (mq_ps (by unfold mxP; rw [hs2]; unfold mx1; rw [if_neg c_86, if_neg c_87, if_neg c_88, if_neg c_89])) (rfl) dX8_next_358
                      · refine lv_iconst (v := 3) hx hb dX8_next_350 (by decide) ?_
                        refine lv_goto (tgt := 355) hx hb dX8_next_351 (by decide) ?_
                        refine fp_X8_166 hC hM mq_F (Nat.le_of_ble_eq_true rfl) (M2 := mq tb mo (pqF F (3, k, k + 1, qVa pq, qFl pq, qFa pq)) w av od sv sl nz ip ot M0) (mq_wF2 rfl) dX8_next_355 (fun H locs hM => ?_)
                        exact me_vret hC hr hlk hM (mq_ps (by unfold mxP; rw [hs2]; unfold mx1; rw [if_neg c_86, if_neg c_87, if_neg c_88, if_pos c_89])) (rfl) dX8_next_358
                    · have c_88 := b1_n0.mp c_88
                      refine lv_aload_n hx hb dX8_next_215 rfl (lv_at hl 1 rfl) ?_
                      refine lv_iconst (v := 0) hx hb dX8_next_216 (by decide) ?_
                      refine fp_X8_184 hC hM mq_F (Nat.le_of_ble_eq_true rfl) (M2 := mq tb mo (pqF F (qKd pq, k, k, 0, qFl pq, qFa pq)) w av od sv sl nz ip ot M0) (mq_wF2 rfl) dX8_next_217 (fun H locs hM => ?_)
                      have lp_220 : ∀ (r2 : Nat) (k2 : Nat) (v : Int32) (H : Heap) (locs : List Loc) (ls : Array Slot), (k2 + r2 = len) → (k ≤ k2) → (drP ip (len - k) k = drP ip r2 k2) → (dvP ip k (len - k) k 0 = dvP ip k r2 k2 v) → me_at D z0 (mq tb mo (pqF F (qKd pq, k, k2, v, qFl pq, qFa pq)) w av od sv sl nz ip ot M0) n s H locs → lv_has ls 3 [(0, .ref mo), (1, .int 0), (2, .int 0)] → W p l e (({ frames := 1, cells := 0, slots := 0, locals := 20 } : Room)) s m args below meth c H locs 0 0 (MQ below (me_Qv D z0 (mq tb mo (pqF F (mxP ip len pq)) w av od sv sl nz ip ot M0) n) args s 0 0 (me_A z0)) (F0 m 220 ls []) := by
                        intro r2
                        refine Nat.strongRecOn r2 ?_
                        intro r2 ih_220 k2 v H locs ls hk2 hk3 hd2 hv2 hM hl
                        refine lv_aload_n hx hb dX8_next_220 rfl (lv_at hl 0 rfl) ?_
                        refine fg_X8_169 hC hM mq_F rfl dX8_next_221 ?_
                        refine me_evi (y := nI k2) rfl ?_
                        refine lv_aload_n hx hb dX8_next_224 rfl (lv_at hl 0 rfl) ?_
                        refine fg_X8_175 hC hM mq_F rfl dX8_next_225 ?_
                        refine me_evi (y := F 7) rfl ?_
                        refine lv_icmp_ge (tgt := 296) hx hb dX8_next_228 (by decide) (fun c_90 => ?_) (fun c_90 => ?_)
                        · have c_90 := (br_le hln rfl (by omega) (by omega)).mp c_90
                          have hd3 : drP ip (len - k) k = k2 := by rw [hd2, show r2 = 0 by omega]; rfl
                          have hv3 : dvP ip k (len - k) k 0 = v := by rw [hv2, show r2 = 0 by omega]; rfl
                          refine lv_aload_n hx hb dX8_next_296 rfl (lv_at hl 0 rfl) ?_
                          refine lv_iload_n hx hb dX8_next_297 rfl (lv_at hl 2 rfl) ?_
                          refine lv_if_ne (tgt := 314) hx hb dX8_next_298 (by decide) (fun c_91 => ?_) (fun c_91 => ?_)
                          · exact absurd c_91 (by decide)
                          · refine lv_aload_n hx hb dX8_next_301 rfl (lv_at hl 0 rfl) ?_
                            refine fg_X8_169 hC hM mq_F rfl dX8_next_302 ?_
                            refine me_evi (y := nI k2) rfl ?_
                            refine lv_aload_n hx hb dX8_next_305 rfl (lv_at hl 0 rfl) ?_
                            refine fg_X8_172 hC hM mq_F rfl dX8_next_306 ?_
                            refine me_evi (y := nI k) rfl ?_
                            refine lv_isub hx hb dX8_next_309 ?_
                            refine lv_iconst (v := 4) hx hb dX8_next_310 (by decide) ?_
                            refine lv_icmp_le (tgt := 318) hx hb dX8_next_311 (by decide) (fun c_92 => ?_) (fun c_92 => ?_)
                            · have c_92 := (br_le (nx_sub rfl rfl (by omega)) (nx_c 4) (by omega) (by omega)).mp c_92
                              refine lv_iconst (v := 2) hx hb dX8_next_318 (by decide) ?_
                              refine fp_X8_166 hC hM mq_F (Nat.le_of_ble_eq_true rfl) (M2 := mq tb mo (pqF F (2, k, k2, v, qFl pq, qFa pq)) w av od sv sl nz ip ot M0) (mq_wF2 rfl) dX8_next_319 (fun H locs hM => ?_)
                              refine lv_goto (tgt := 358) hx hb dX8_next_322 (by decide) ?_
                              exact me_vret hC hr hlk hM (mq_ps (by unfold mxP; rw [hs2]; unfold mx1; rw [if_neg c_86, if_neg c_87, if_pos c_88, hd3, hv3, if_neg (fun z => z.elim (fun z => z.1.elim c_1 c_65) (fun z => absurd z (by omega)))])) (rfl) dX8_next_358
                            · have c_92 := (not_congr (br_le (nx_sub rfl rfl (by omega)) (nx_c 4) (by omega) (by omega))).mp c_92
                              refine lv_iconst (v := 4) hx hb dX8_next_314 (by decide) ?_
                              refine lv_goto (tgt := 319) hx hb dX8_next_315 (by decide) ?_
                              refine fp_X8_166 hC hM mq_F (Nat.le_of_ble_eq_true rfl) (M2 := mq tb mo (pqF F (4, k, k2, v, qFl pq, qFa pq)) w av od sv sl nz ip ot M0) (mq_wF2 rfl) dX8_next_319 (fun H locs hM => ?_)
                              refine lv_goto (tgt := 358) hx hb dX8_next_322 (by decide) ?_
                              exact me_vret hC hr hlk hM (mq_ps (by unfold mxP; rw [hs2]; unfold mx1; rw [if_neg c_86, if_neg c_87, if_pos c_88, hd3, hv3, if_pos (Or.inr (by omega))])) (rfl) dX8_next_358
                        · have c_90 := (not_congr (br_le hln rfl (by omega) (by omega))).mp c_90
                          obtain ⟨r3, rfl⟩ : ∃ r3, r2 = r3 + 1 := ⟨r2 - 1, by omega⟩
                          refine lv_aload_n hx hb dX8_next_231 rfl (lv_at hl 0 rfl) ?_
                          refine fg_X8_31 hC hM mq_F rfl dX8_next_232 ?_
                          refine lv_aload_n hx hb dX8_next_235 rfl (lv_at hl 0 rfl) ?_
                          refine fg_X8_169 hC hM mq_F rfl dX8_next_236 ?_
                          refine me_evi (y := nI k2) rfl ?_
                          refine me_bald (k := k2) hC hM mq_ip rfl (by omega) (by first | decide | omega) dX8_next_239 ?_
                          refine me_callSi (As := [.int (ip k2)]) (rest := []) hC hl.1 hM (c_X8_isDigit l D tb X z0 n _ (ip k2) ) (ks_X8_181 hw rfl rfl ⟨Nat.le_of_ble_eq_true rfl, Nat.le_of_ble_eq_true rfl⟩) rfl rfl (Nat.le_of_ble_eq_true rfl) dX8_next_240 ⟨Nat.le_of_ble_eq_true rfl, Nat.le_of_ble_eq_true rfl⟩ (fun H locs hM => ?_)
                          refine lv_if_eq (tgt := 296) hx hb dX8_next_243 (by decide) (fun c_93 => ?_) (fun c_93 => ?_)
                          · have c_93 := b1_0.mp c_93
                            have hd3 : drP ip (len - k) k = k2 := hd2.trans (drP_f c_93)
                            have hv3 : dvP ip k (len - k) k 0 = v := hv2.trans (dvP_f c_93)
                            refine lv_aload_n hx hb dX8_next_296 rfl (lv_at hl 0 rfl) ?_
                            refine lv_iload_n hx hb dX8_next_297 rfl (lv_at hl 2 rfl) ?_
                            refine lv_if_ne (tgt := 314) hx hb dX8_next_298 (by decide) (fun c_94 => ?_) (fun c_94 => ?_)
                            · exact absurd c_94 (by decide)
                            · refine lv_aload_n hx hb dX8_next_301 rfl (lv_at hl 0 rfl) ?_
                              refine fg_X8_169 hC hM mq_F rfl dX8_next_302 ?_
                              refine me_evi (y := nI k2) rfl ?_
                              refine lv_aload_n hx hb dX8_next_305 rfl (lv_at hl 0 rfl) ?_
                              refine fg_X8_172 hC hM mq_F rfl dX8_next_306 ?_
                              refine me_evi (y := nI k) rfl ?_
                              refine lv_isub hx hb dX8_next_309 ?_
                              refine lv_iconst (v := 4) hx hb dX8_next_310 (by decide) ?_
                              refine lv_icmp_le (tgt := 318) hx hb dX8_next_311 (by decide) (fun c_95 => ?_) (fun c_95 => ?_)
                              · have c_95 := (br_le (nx_sub rfl rfl (by omega)) (nx_c 4) (by omega) (by omega)).mp c_95
                                refine lv_iconst (v := 2) hx hb dX8_next_318 (by decide) ?_
                                refine fp_X8_166 hC hM mq_F (Nat.le_of_ble_eq_true rfl) (M2 := mq tb mo (pqF F (2, k, k2, v, qFl pq, qFa pq)) w av od sv sl nz ip ot M0) (mq_wF2 rfl) dX8_next_319 (fun H locs hM => ?_)
                                refine lv_goto (tgt := 358) hx hb dX8_next_322 (by decide) ?_
                                exact me_vret hC hr hlk hM (mq_ps (by unfold mxP; rw [hs2]; unfold mx1; rw [if_neg c_86, if_neg c_87, if_pos c_88, hd3, hv3, if_neg (fun z => z.elim (fun z => z.1.elim c_1 c_65) (fun z => absurd z (by omega)))])) (rfl) dX8_next_358
                              · have c_95 := (not_congr (br_le (nx_sub rfl rfl (by omega)) (nx_c 4) (by omega) (by omega))).mp c_95
                                refine lv_iconst (v := 4) hx hb dX8_next_314 (by decide) ?_
                                refine lv_goto (tgt := 319) hx hb dX8_next_315 (by decide) ?_
                                refine fp_X8_166 hC hM mq_F (Nat.le_of_ble_eq_true rfl) (M2 := mq tb mo (pqF F (4, k, k2, v, qFl pq, qFa pq)) w av od sv sl nz ip ot M0) (mq_wF2 rfl) dX8_next_319 (fun H locs hM => ?_)
                                refine lv_goto (tgt := 358) hx hb dX8_next_322 (by decide) ?_
                                exact me_vret hC hr hlk hM (mq_ps (by unfold mxP; rw [hs2]; unfold mx1; rw [if_neg c_86, if_neg c_87, if_pos c_88, hd3, hv3, if_pos (Or.inr (by omega))])) (rfl) dX8_next_358
                          · have c_93 := b1_n0.mp c_93
                            refine lv_aload_n hx hb dX8_next_246 rfl (lv_at hl 0 rfl) ?_
                            refine fg_X8_169 hC hM mq_F rfl dX8_next_247 ?_
                            refine me_evi (y := nI k2) rfl ?_
                            refine lv_aload_n hx hb dX8_next_250 rfl (lv_at hl 0 rfl) ?_
                            refine fg_X8_172 hC hM mq_F rfl dX8_next_251 ?_
                            refine me_evi (y := nI k) rfl ?_
                            refine lv_isub hx hb dX8_next_254 ?_
                            refine lv_iconst (v := 4) hx hb dX8_next_255 (by decide) ?_
                            refine lv_icmp_ge (tgt := 283) hx hb dX8_next_256 (by decide) (fun c_96 => ?_) (fun c_96 => ?_)
                            · have c_96 := (br_le (nx_c 4) (nx_sub rfl rfl (by omega)) (by omega) (by omega)).mp c_96
                              refine lv_aload_n hx hb dX8_next_283 rfl (lv_at hl 0 rfl) ?_
                              refine lv_dup hx hb dX8_next_284 rfl ?_
                              refine fg_X8_169 hC hM mq_F rfl dX8_next_285 ?_
                              refine me_evi (y := nI k2) rfl ?_
                              refine lv_iconst (v := 1) hx hb dX8_next_288 (by decide) ?_
                              refine lv_iadd hx hb dX8_next_289 ?_
                              refine me_evi (y := nI (k2 + 1)) (nx_add rfl (show (1 : Int32) = nI 1 from rfl)) ?_
                              refine fp_X8_169 hC hM mq_F (Nat.le_of_ble_eq_true rfl) (M2 := mq tb mo (pqF F (qKd pq, k, k2 + 1, v, qFl pq, qFa pq)) w av od sv sl nz ip ot M0) (mq_wF2 rfl) dX8_next_290 (fun H locs hM => ?_)
                              refine lv_goto (tgt := 220) hx hb dX8_next_293 (by decide) ?_
                              exact ih_220 r3 (by omega) (k2 + 1) v _ _ _ (by omega) (by omega) (hd2.trans (drP_t c_93)) (hv2.trans (dvP_b c_93 (by omega))) hM (lv_sub hl [0, 1, 2] rfl)
                            · have c_96 := (not_congr (br_le (nx_c 4) (nx_sub rfl rfl (by omega)) (by omega) (by omega))).mp c_96
                              refine lv_aload_n hx hb dX8_next_259 rfl (lv_at hl 0 rfl) ?_
                              refine lv_bipush (v := 10) hx hb dX8_next_260 (by decide) ?_
                              refine lv_aload_n hx hb dX8_next_262 rfl (lv_at hl 0 rfl) ?_
                              refine fg_X8_184 hC hM mq_F rfl dX8_next_263 ?_
                              refine me_evi (y := v) rfl ?_
                              refine lv_imul hx hb dX8_next_266 ?_
                              refine lv_aload_n hx hb dX8_next_267 rfl (lv_at hl 0 rfl) ?_
                              refine fg_X8_31 hC hM mq_F rfl dX8_next_268 ?_
                              refine lv_aload_n hx hb dX8_next_271 rfl (lv_at hl 0 rfl) ?_
                              refine fg_X8_169 hC hM mq_F rfl dX8_next_272 ?_
                              refine me_evi (y := nI k2) rfl ?_
                              refine me_bald (k := k2) hC hM mq_ip rfl (by omega) (by first | decide | omega) dX8_next_275 ?_
                              refine lv_iadd hx hb dX8_next_276 ?_
                              refine lv_bipush (v := 48) hx hb dX8_next_277 (by decide) ?_
                              refine lv_isub hx hb dX8_next_279 ?_
                              refine fp_X8_184 hC hM mq_F (Nat.le_of_ble_eq_true rfl) (M2 := mq tb mo (pqF F (qKd pq, k, k2, ((10 * v) + (ip k2)) - 48, qFl pq, qFa pq)) w av od sv sl nz ip ot M0) (mq_wF2 rfl) dX8_next_280 (fun H locs hM => ?_)
                              refine lv_aload_n hx hb dX8_next_283 rfl (lv_at hl 0 rfl) ?_
                              refine lv_dup hx hb dX8_next_284 rfl ?_
                              refine fg_X8_169 hC hM mq_F rfl dX8_next_285 ?_
                              refine me_evi (y := nI k2) rfl ?_
                              refine lv_iconst (v := 1) hx hb dX8_next_288 (by decide) ?_
                              refine lv_iadd hx hb dX8_next_289 ?_
                              refine me_evi (y := nI (k2 + 1)) (nx_add rfl (show (1 : Int32) = nI 1 from rfl)) ?_
                              refine fp_X8_169 hC hM mq_F (Nat.le_of_ble_eq_true rfl) (M2 := mq tb mo (pqF F (qKd pq, k, k2 + 1, ((10 * v) + (ip k2)) - 48, qFl pq, qFa pq)) w av od sv sl nz ip ot M0) (mq_wF2 rfl) dX8_next_290 (fun H locs hM => ?_)
                              refine lv_goto (tgt := 220) hx hb dX8_next_293 (by decide) ?_
                              exact ih_220 r3 (by omega) (k2 + 1) (10 * v + ip k2 - 48) _ _ _ (by omega) (by omega) (hd2.trans (drP_t c_93)) (hv2.trans (dvP_a c_93 (by omega))) hM (lv_sub hl [0, 1, 2] rfl)
                      exact lp_220 (len - k) k 0 _ _ _ (by omega) (by omega) rfl rfl hM (lv_sub hl [1, 2, 0] rfl)
                  · have c_87 := b1_n0.mp c_87
                    have lp_145 : ∀ (r2 : Nat) (k2 : Nat) (H : Heap) (locs : List Loc) (ls : Array Slot), (k2 + r2 = len) → (k ≤ k2) → (lrP ip (len - k) k = lrP ip r2 k2) → me_at D z0 (mq tb mo (pqF F (qKd pq, k, k2, qVa pq, qFl pq, qFa pq)) w av od sv sl nz ip ot M0) n s H locs → lv_has ls 3 [(0, .ref mo), (1, .int 0), (2, .int 0)] → W p l e (({ frames := 1, cells := 0, slots := 0, locals := 20 } : Room)) s m args below meth c H locs 0 0 (MQ below (me_Qv D z0 (mq tb mo (pqF F (mxP ip len pq)) w av od sv sl nz ip ot M0) n) args s 0 0 (me_A z0)) (F0 m 145 ls []) := by
                      intro r2
                      refine Nat.strongRecOn r2 ?_
                      intro r2 ih_145 k2 H locs ls hk2 hk3 hl2 hM hl
                      refine lv_aload_n hx hb dX8_next_145 rfl (lv_at hl 0 rfl) ?_
                      refine fg_X8_169 hC hM mq_F rfl dX8_next_146 ?_
                      refine me_evi (y := nI k2) rfl ?_
                      refine lv_aload_n hx hb dX8_next_149 rfl (lv_at hl 0 rfl) ?_
                      refine fg_X8_175 hC hM mq_F rfl dX8_next_150 ?_
                      refine me_evi (y := F 7) rfl ?_
                      refine lv_icmp_ge (tgt := 184) hx hb dX8_next_153 (by decide) (fun c_97 => ?_) (fun c_97 => ?_)
                      · have c_97 := (br_le hln rfl (by omega) (by omega)).mp c_97
                        have hl3 : lrP ip (len - k) k = k2 := by rw [hl2, show r2 = 0 by omega]; rfl
                        refine lv_aload_n hx hb dX8_next_184 rfl (lv_at hl 0 rfl) ?_
                        refine lv_iload_n hx hb dX8_next_185 rfl (lv_at hl 2 rfl) ?_
                        refine lv_if_eq (tgt := 193) hx hb dX8_next_186 (by decide) (fun c_98 => ?_) (fun c_98 => ?_)
                        · refine lv_iconst (v := 1) hx hb dX8_next_193 (by decide) ?_
                          refine fp_X8_166 hC hM mq_F (Nat.le_of_ble_eq_true rfl) (M2 := mq tb mo (pqF F (1, k, k2, qVa pq, qFl pq, qFa pq)) w av od sv sl nz ip ot M0) (mq_wF2 rfl) dX8_next_194 (fun H locs hM => ?_)
                          refine lv_goto (tgt := 358) hx hb dX8_next_197 (by decide) ?_
                          exact me_vret hC hr hlk hM (mq_ps (by unfold mxP; rw [hs2]; unfold mx1; rw [if_neg c_86, if_pos c_87, hl3, if_neg (fun z => z.1.elim c_1 c_65)])) (rfl) dX8_next_358
                        · exact absurd c_98 (by decide)
                      · have c_97 := (not_congr (br_le hln rfl (by omega) (by omega))).mp c_97
                        obtain ⟨r3, rfl⟩ : ∃ r3, r2 = r3 + 1 := ⟨r2 - 1, by omega⟩
                        refine lv_aload_n hx hb dX8_next_156 rfl (lv_at hl 0 rfl) ?_
                        refine fg_X8_31 hC hM mq_F rfl dX8_next_157 ?_
                        refine lv_aload_n hx hb dX8_next_160 rfl (lv_at hl 0 rfl) ?_
                        refine fg_X8_169 hC hM mq_F rfl dX8_next_161 ?_
                        refine me_evi (y := nI k2) rfl ?_
                        refine me_bald (k := k2) hC hM mq_ip rfl (by omega) (by first | decide | omega) dX8_next_164 ?_
                        refine me_callSi (As := [.int (ip k2)]) (rest := []) hC hl.1 hM (c_X8_isLetter l D tb X z0 n _ (ip k2) ) (ks_X8_178 hw rfl rfl ⟨Nat.le_of_ble_eq_true rfl, Nat.le_of_ble_eq_true rfl⟩) rfl rfl (Nat.le_of_ble_eq_true rfl) dX8_next_165 ⟨Nat.le_of_ble_eq_true rfl, Nat.le_of_ble_eq_true rfl⟩ (fun H locs hM => ?_)
                        refine lv_if_eq (tgt := 184) hx hb dX8_next_168 (by decide) (fun c_99 => ?_) (fun c_99 => ?_)
                        · have c_99 := b1_0.mp c_99
                          have hl3 : lrP ip (len - k) k = k2 := hl2.trans (lrP_f c_99)
                          refine lv_aload_n hx hb dX8_next_184 rfl (lv_at hl 0 rfl) ?_
                          refine lv_iload_n hx hb dX8_next_185 rfl (lv_at hl 2 rfl) ?_
                          refine lv_if_eq (tgt := 193) hx hb dX8_next_186 (by decide) (fun c_100 => ?_) (fun c_100 => ?_)
                          · refine lv_iconst (v := 1) hx hb dX8_next_193 (by decide) ?_
                            refine fp_X8_166 hC hM mq_F (Nat.le_of_ble_eq_true rfl) (M2 := mq tb mo (pqF F (1, k, k2, qVa pq, qFl pq, qFa pq)) w av od sv sl nz ip ot M0) (mq_wF2 rfl) dX8_next_194 (fun H locs hM => ?_)
                            refine lv_goto (tgt := 358) hx hb dX8_next_197 (by decide) ?_
                            exact me_vret hC hr hlk hM (mq_ps (by unfold mxP; rw [hs2]; unfold mx1; rw [if_neg c_86, if_pos c_87, hl3, if_neg (fun z => z.1.elim c_1 c_65)])) (rfl) dX8_next_358
                          · exact absurd c_100 (by decide)
                        · have c_99 := b1_n0.mp c_99
                          refine lv_aload_n hx hb dX8_next_171 rfl (lv_at hl 0 rfl) ?_
                          refine lv_dup hx hb dX8_next_172 rfl ?_
                          refine fg_X8_169 hC hM mq_F rfl dX8_next_173 ?_
                          refine me_evi (y := nI k2) rfl ?_
                          refine lv_iconst (v := 1) hx hb dX8_next_176 (by decide) ?_
                          refine lv_iadd hx hb dX8_next_177 ?_
                          refine me_evi (y := nI (k2 + 1)) (nx_add rfl (show (1 : Int32) = nI 1 from rfl)) ?_
                          refine fp_X8_169 hC hM mq_F (Nat.le_of_ble_eq_true rfl) (M2 := mq tb mo (pqF F (qKd pq, k, k2 + 1, qVa pq, qFl pq, qFa pq)) w av od sv sl nz ip ot M0) (mq_wF2 rfl) dX8_next_178 (fun H locs hM => ?_)
                          refine lv_goto (tgt := 145) hx hb dX8_next_181 (by decide) ?_
                          exact ih_145 r3 (by omega) (k2 + 1) _ _ _ (by omega) (by omega) (hl2.trans (lrP_t c_99)) hM (lv_sub hl [0, 1, 2] rfl)
                    exact lp_145 (len - k) k _ _ _ (by omega) (by omega) rfl hM (lv_sub hl [1, 2, 0] rfl)
                · have c_86 := (br_eq rfl hln (by omega) (by omega)).mp c_86
                  refine lv_aload_n hx hb dX8_next_122 rfl (lv_at hl 1 rfl) ?_
                  refine lv_iconst (v := 0) hx hb dX8_next_123 (by decide) ?_
                  refine fp_X8_166 hC hM mq_F (Nat.le_of_ble_eq_true rfl) (M2 := mq tb mo (pqF F (0, k, k, qVa pq, qFl pq, qFa pq)) w av od sv sl nz ip ot M0) (mq_wF2 rfl) dX8_next_124 (fun H locs hM => ?_)
                  refine lv_goto (tgt := 358) hx hb dX8_next_127 (by decide) ?_
                  exact me_vret hC hr hlk hM (mq_ps (by unfold mxP; rw [hs2]; unfold mx1; rw [if_pos c_86])) (rfl) dX8_next_358
              · exact absurd c_85 (by decide)
            · refine lv_aload_n hx hb dX8_next_69 rfl (lv_at hl 0 rfl) ?_
              refine lv_dup hx hb dX8_next_70 rfl ?_
              refine fg_X8_172 hC hM mq_F rfl dX8_next_71 ?_
              refine me_evi (y := nI k) rfl ?_
              refine lv_iconst (v := 1) hx hb dX8_next_74 (by decide) ?_
              refine lv_iadd hx hb dX8_next_75 ?_
              refine me_evi (y := nI (k + 1)) (nx_add rfl (show (1 : Int32) = nI 1 from rfl)) ?_
              refine fp_X8_172 hC hM mq_F (Nat.le_of_ble_eq_true rfl) (M2 := mq tb mo (pqF F (qKd pq, k + 1, qTo pq, qVa pq, qFl pq, qFa pq)) w av od sv sl nz ip ot M0) (mq_wF2 rfl) dX8_next_76 (fun H locs hM => ?_)
              refine lv_goto (tgt := 30) hx hb dX8_next_79 (by decide) ?_
              exact ih_30 r1 (by omega) (k + 1) _ _ _ (by omega) (by omega) (hs.trans (skP_t (Or.inr c_84))) hM (lv_sub hl [0, 1] rfl)
      exact lp_30 (len - qTo pq) (qTo pq) _ _ _ (by omega) (by omega) rfl hM (lv_sub hl [1, 0] rfl)
    · have c_65 := (br_eq rfl (nx_c 2) (by omega) (by omega)).mp c_65
      refine lv_iconst (v := 1) hx hb dX8_next_16 (by decide) ?_
      refine lv_goto (tgt := 21) hx hb dX8_next_17 (by decide) ?_
      refine lv_istore_n (lv' := [(1, .int 1), (0, .ref mo)]) hx hb dX8_next_21 rfl hl (by decide) rfl (fun ls hl => ?_)
      refine lv_aload_n hx hb dX8_next_22 rfl (lv_at hl 1 rfl) ?_
      refine lv_aload_n hx hb dX8_next_23 rfl (lv_at hl 1 rfl) ?_
      refine fg_X8_169 hC hM mq_F rfl dX8_next_24 ?_
      refine me_evi (y := nI (qTo pq)) rfl ?_
      refine fp_X8_172 hC hM mq_F (Nat.le_of_ble_eq_true rfl) (M2 := mq tb mo (pqF F (qKd pq, qTo pq, qTo pq, qVa pq, qFl pq, qFa pq)) w av od sv sl nz ip ot M0) (mq_wF2 rfl) dX8_next_27 (fun H locs hM => ?_)
      have lp_30 : ∀ (r : Nat) (k : Nat) (H : Heap) (locs : List Loc) (ls : Array Slot), (k + r = len) → (qTo pq ≤ k) → (skP ip (len - qTo pq) (qTo pq) = skP ip r k) → me_at D z0 (mq tb mo (pqF F (qKd pq, k, qTo pq, qVa pq, qFl pq, qFa pq)) w av od sv sl nz ip ot M0) n s H locs → lv_has ls 3 [(0, .ref mo), (1, .int 1)] → W p l e (({ frames := 1, cells := 0, slots := 0, locals := 20 } : Room)) s m args below meth c H locs 0 0 (MQ below (me_Qv D z0 (mq tb mo (pqF F (mxP ip len pq)) w av od sv sl nz ip ot M0) n) args s 0 0 (me_A z0)) (F0 m 30 ls []) := by
        intro r
        refine Nat.strongRecOn r ?_
        intro r ih_30 k H locs ls hk hk1 hs hM hl
        refine lv_aload_n hx hb dX8_next_30 rfl (lv_at hl 0 rfl) ?_
        refine fg_X8_172 hC hM mq_F rfl dX8_next_31 ?_
        refine me_evi (y := nI k) rfl ?_
        refine lv_aload_n hx hb dX8_next_34 rfl (lv_at hl 0 rfl) ?_
        refine fg_X8_175 hC hM mq_F rfl dX8_next_35 ?_
        refine me_evi (y := F 7) rfl ?_
        refine lv_icmp_ge (tgt := 82) hx hb dX8_next_38 (by decide) (fun c_101 => ?_) (fun c_101 => ?_)
        · have c_101 := (br_le hln rfl (by omega) (by omega)).mp c_101
          have hs2 : skP ip (len - qTo pq) (qTo pq) = k := by rw [hs, show r = 0 by omega]; rfl
          refine lv_iload_n hx hb dX8_next_82 rfl (lv_at hl 1 rfl) ?_
          refine lv_if_eq (tgt := 101) hx hb dX8_next_83 (by decide) (fun c_102 => ?_) (fun c_102 => ?_)
          · exact absurd c_102 (by decide)
          · refine lv_aload_n hx hb dX8_next_86 rfl (lv_at hl 0 rfl) ?_
            refine fg_X8_172 hC hM mq_F rfl dX8_next_87 ?_
            refine me_evi (y := nI k) rfl ?_
            refine lv_aload_n hx hb dX8_next_90 rfl (lv_at hl 0 rfl) ?_
            refine fg_X8_169 hC hM mq_F rfl dX8_next_91 ?_
            refine me_evi (y := nI (qTo pq)) rfl ?_
            refine lv_icmp_ne (tgt := 101) hx hb dX8_next_94 (by decide) (fun c_103 => ?_) (fun c_103 => ?_)
            · have c_103 := (not_congr (br_eq rfl rfl (by omega) (by omega))).mp c_103
              refine lv_iconst (v := 0) hx hb dX8_next_101 (by decide) ?_
              refine lv_istore_n (lv' := [(2, .int 0), (0, .ref mo), (1, .int 1)]) hx hb dX8_next_102 rfl hl (by decide) rfl (fun ls hl => ?_)
              refine lv_aload_n hx hb dX8_next_103 rfl (lv_at hl 1 rfl) ?_
              refine lv_aload_n hx hb dX8_next_104 rfl (lv_at hl 1 rfl) ?_
              refine fg_X8_172 hC hM mq_F rfl dX8_next_105 ?_
              refine me_evi (y := nI k) rfl ?_
              refine fp_X8_169 hC hM mq_F (Nat.le_of_ble_eq_true rfl) (M2 := mq tb mo (pqF F (qKd pq, k, k, qVa pq, qFl pq, qFa pq)) w av od sv sl nz ip ot M0) (mq_wF2 rfl) dX8_next_108 (fun H locs hM => ?_)
              refine lv_aload_n hx hb dX8_next_111 rfl (lv_at hl 1 rfl) ?_
              refine fg_X8_172 hC hM mq_F rfl dX8_next_112 ?_
              refine me_evi (y := nI k) rfl ?_
              refine lv_aload_n hx hb dX8_next_115 rfl (lv_at hl 1 rfl) ?_
              refine fg_X8_175 hC hM mq_F rfl dX8_next_116 ?_
              refine me_evi (y := F 7) rfl ?_
              refine lv_icmp_ne (tgt := 130) hx hb dX8_next_119 (by decide) (fun c_104 => ?_) (fun c_104 => ?_)
              · have c_104 := (not_congr (br_eq rfl hln (by omega) (by omega))).mp c_104
                refine lv_aload_n hx hb dX8_next_130 rfl (lv_at hl 1 rfl) ?_
                refine fg_X8_31 hC hM mq_F rfl dX8_next_131 ?_
                refine lv_aload_n hx hb dX8_next_134 rfl (lv_at hl 1 rfl) ?_
                refine fg_X8_172 hC hM mq_F rfl dX8_next_135 ?_
                refine me_evi (y := nI k) rfl ?_
                refine me_bald (k := k) hC hM mq_ip rfl (by omega) (by first | decide | omega) dX8_next_138 ?_
                refine me_callSi (As := [.int (ip k)]) (rest := []) hC hl.1 hM (c_X8_isLetter l D tb X z0 n _ (ip k) ) (ks_X8_178 hw rfl rfl ⟨Nat.le_of_ble_eq_true rfl, Nat.le_of_ble_eq_true rfl⟩) rfl rfl (Nat.le_of_ble_eq_true rfl) dX8_next_139 ⟨Nat.le_of_ble_eq_true rfl, Nat.le_of_ble_eq_true rfl⟩ (fun H locs hM => ?_)
                refine lv_if_eq (tgt := 200) hx hb dX8_next_142 (by decide) (fun c_105 => ?_) (fun c_105 => ?_)
                · have c_105 := b1_0.mp c_105
                  refine lv_aload_n hx hb dX8_next_200 rfl (lv_at hl 1 rfl) ?_
                  refine fg_X8_31 hC hM mq_F rfl dX8_next_201 ?_
                  refine lv_aload_n hx hb dX8_next_204 rfl (lv_at hl 1 rfl) ?_
                  refine fg_X8_172 hC hM mq_F rfl dX8_next_205 ?_
                  refine me_evi (y := nI k) rfl ?_
                  refine me_bald (k := k) hC hM mq_ip rfl (by omega) (by first | decide | omega) dX8_next_208 ?_
                  refine me_callSi (As := [.int (ip k)]) (rest := []) hC hl.1 hM (c_X8_isDigit l D tb X z0 n _ (ip k) ) (ks_X8_181 hw rfl rfl ⟨Nat.le_of_ble_eq_true rfl, Nat.le_of_ble_eq_true rfl⟩) rfl rfl (Nat.le_of_ble_eq_true rfl) dX8_next_209 ⟨Nat.le_of_ble_eq_true rfl, Nat.le_of_ble_eq_true rfl⟩ (fun H locs hM => ?_)
                  refine lv_if_eq (tgt := 325) hx hb dX8_next_212 (by decide) (fun c_106 => ?_) (fun c_106 => ?_)
                  · have c_106 := b1_0.mp c_106
                    refine lv_aload_n hx hb dX8_next_325 rfl (lv_at hl 1 rfl) ?_
                    refine lv_aload_n hx hb dX8_next_326 rfl (lv_at hl 1 rfl) ?_
                    refine fg_X8_172 hC hM mq_F rfl dX8_next_327 ?_
                    refine me_evi (y := nI k) rfl ?_
                    refine lv_iconst (v := 1) hx hb dX8_next_330 (by decide) ?_
                    refine lv_iadd hx hb dX8_next_331 ?_
                    refine me_evi (y := nI (k + 1)) (nx_add rfl (show (1 : Int32) = nI 1 from rfl)) ?_
                    refine fp_X8_169 hC hM mq_F (Nat.le_of_ble_eq_true rfl) (M2 := mq tb mo (pqF F (qKd pq, k, k + 1, qVa pq, qFl pq, qFa pq)) w av od sv sl nz ip ot M0) (mq_wF2 rfl) dX8_next_332 (fun H locs hM => ?_)
                    refine lv_aload_n hx hb dX8_next_335 rfl (lv_at hl 1 rfl) ?_
                    refine lv_aload_n hx hb dX8_next_336 rfl (lv_at hl 1 rfl) ?_
                    refine fg_X8_31 hC hM mq_F rfl dX8_next_337 ?_
                    refine lv_aload_n hx hb dX8_next_340 rfl (lv_at hl 1 rfl) ?_
                    refine fg_X8_172 hC hM mq_F rfl dX8_next_341 ?_
                    refine me_evi (y := nI k) rfl ?_
                    refine me_bald (k := k) hC hM mq_ip rfl (by omega) (by first | decide | omega) dX8_next_344 ?_
                    refine lv_bipush (v := 59) hx hb dX8_next_345 (by decide) ?_
                    refine lv_icmp_ne (tgt := 354) hx hb dX8_next_347 (by decide) (fun c_107 => ?_) (fun c_107 => ?_)
                    · refine lv_iconst (v := 4) hx hb dX8_next_354 (by decide) ?_
                      refine fp_X8_166 hC hM mq_F (Nat.le_of_ble_eq_true rfl) (M2 := mq tb mo (pqF F (4, k, k + 1, qVa pq, qFl pq, qFa pq)) w av od sv sl nz ip ot M0) (mq_wF2 rfl) dX8_next_355 (fun H locs hM => ?_)
                      exact me_vret hC hr hlk hM (mq_ps (by unfold mxP; rw [hs2]; unfold mx1; rw [if_neg c_104, if_neg c_105, if_neg c_106, if_neg c_107])) (rfl) dX8_next_358
                    · refine lv_iconst (v := 3) hx hb dX8_next_350 (by decide) ?_
                      refine lv_goto (tgt := 355) hx hb dX8_next_351 (by decide) ?_
                      refine fp_X8_166 hC hM mq_F (Nat.le_of_ble_eq_true rfl) (M2 := mq tb mo (pqF F (3, k, k + 1, qVa pq, qFl pq, qFa pq)) w av od sv sl nz ip ot M0) (mq_wF2 rfl) dX8_next_355 (fun H locs hM => ?_)
                      exact me_vret hC hr hlk hM (mq_ps (by unfold mxP; rw [hs2]; unfold mx1; rw [if_neg c_104, if_neg c_105, if_neg c_106, if_pos c_107])) (rfl) dX8_next_358
                  · have c_106 := b1_n0.mp c_106
                    refine lv_aload_n hx hb dX8_next_215 rfl (lv_at hl 1 rfl) ?_
                    refine lv_iconst (v := 0) hx hb dX8_next_216 (by decide) ?_
                    refine fp_X8_184 hC hM mq_F (Nat.le_of_ble_eq_true rfl) (M2 := mq tb mo (pqF F (qKd pq, k, k, 0, qFl pq, qFa pq)) w av od sv sl nz ip ot M0) (mq_wF2 rfl) dX8_next_217 (fun H locs hM => ?_)
                    have lp_220 : ∀ (r2 : Nat) (k2 : Nat) (v : Int32) (H : Heap) (locs : List Loc) (ls : Array Slot), (k2 + r2 = len) → (k ≤ k2) → (drP ip (len - k) k = drP ip r2 k2) → (dvP ip k (len - k) k 0 = dvP ip k r2 k2 v) → me_at D z0 (mq tb mo (pqF F (qKd pq, k, k2, v, qFl pq, qFa pq)) w av od sv sl nz ip ot M0) n s H locs → lv_has ls 3 [(0, .ref mo), (1, .int 1), (2, .int 0)] → W p l e (({ frames := 1, cells := 0, slots := 0, locals := 20 } : Room)) s m args below meth c H locs 0 0 (MQ below (me_Qv D z0 (mq tb mo (pqF F (mxP ip len pq)) w av od sv sl nz ip ot M0) n) args s 0 0 (me_A z0)) (F0 m 220 ls []) := by
                      intro r2
                      refine Nat.strongRecOn r2 ?_
                      intro r2 ih_220 k2 v H locs ls hk2 hk3 hd2 hv2 hM hl
                      refine lv_aload_n hx hb dX8_next_220 rfl (lv_at hl 0 rfl) ?_
                      refine fg_X8_169 hC hM mq_F rfl dX8_next_221 ?_
                      refine me_evi (y := nI k2) rfl ?_
                      refine lv_aload_n hx hb dX8_next_224 rfl (lv_at hl 0 rfl) ?_
                      refine fg_X8_175 hC hM mq_F rfl dX8_next_225 ?_
                      refine me_evi (y := F 7) rfl ?_
                      refine lv_icmp_ge (tgt := 296) hx hb dX8_next_228 (by decide) (fun c_108 => ?_) (fun c_108 => ?_)
                      · have c_108 := (br_le hln rfl (by omega) (by omega)).mp c_108
                        have hd3 : drP ip (len - k) k = k2 := by rw [hd2, show r2 = 0 by omega]; rfl
                        have hv3 : dvP ip k (len - k) k 0 = v := by rw [hv2, show r2 = 0 by omega]; rfl
                        refine lv_aload_n hx hb dX8_next_296 rfl (lv_at hl 0 rfl) ?_
                        refine lv_iload_n hx hb dX8_next_297 rfl (lv_at hl 2 rfl) ?_
                        refine lv_if_ne (tgt := 314) hx hb dX8_next_298 (by decide) (fun c_109 => ?_) (fun c_109 => ?_)
                        · exact absurd c_109 (by decide)
                        · refine lv_aload_n hx hb dX8_next_301 rfl (lv_at hl 0 rfl) ?_
                          refine fg_X8_169 hC hM mq_F rfl dX8_next_302 ?_
                          refine me_evi (y := nI k2) rfl ?_
                          refine lv_aload_n hx hb dX8_next_305 rfl (lv_at hl 0 rfl) ?_
                          refine fg_X8_172 hC hM mq_F rfl dX8_next_306 ?_
                          refine me_evi (y := nI k) rfl ?_
                          refine lv_isub hx hb dX8_next_309 ?_
                          refine lv_iconst (v := 4) hx hb dX8_next_310 (by decide) ?_
                          refine lv_icmp_le (tgt := 318) hx hb dX8_next_311 (by decide) (fun c_110 => ?_) (fun c_110 => ?_)
                          · have c_110 := (br_le (nx_sub rfl rfl (by omega)) (nx_c 4) (by omega) (by omega)).mp c_110
                            refine lv_iconst (v := 2) hx hb dX8_next_318 (by decide) ?_
                            refine fp_X8_166 hC hM mq_F (Nat.le_of_ble_eq_true rfl) (M2 := mq tb mo (pqF F (2, k, k2, v, qFl pq, qFa pq)) w av od sv sl nz ip ot M0) (mq_wF2 rfl) dX8_next_319 (fun H locs hM => ?_)
                            refine lv_goto (tgt := 358) hx hb dX8_next_322 (by decide) ?_
                            exact me_vret hC hr hlk hM (mq_ps (by unfold mxP; rw [hs2]; unfold mx1; rw [if_neg c_104, if_neg c_105, if_pos c_106, hd3, hv3, if_neg (fun z => z.elim (fun z => c_103 z.2) (fun z => absurd z (by omega)))])) (rfl) dX8_next_358
                          · have c_110 := (not_congr (br_le (nx_sub rfl rfl (by omega)) (nx_c 4) (by omega) (by omega))).mp c_110
                            refine lv_iconst (v := 4) hx hb dX8_next_314 (by decide) ?_
                            refine lv_goto (tgt := 319) hx hb dX8_next_315 (by decide) ?_
                            refine fp_X8_166 hC hM mq_F (Nat.le_of_ble_eq_true rfl) (M2 := mq tb mo (pqF F (4, k, k2, v, qFl pq, qFa pq)) w av od sv sl nz ip ot M0) (mq_wF2 rfl) dX8_next_319 (fun H locs hM => ?_)
                            refine lv_goto (tgt := 358) hx hb dX8_next_322 (by decide) ?_
                            exact me_vret hC hr hlk hM (mq_ps (by unfold mxP; rw [hs2]; unfold mx1; rw [if_neg c_104, if_neg c_105, if_pos c_106, hd3, hv3, if_pos (Or.inr (by omega))])) (rfl) dX8_next_358
                      · have c_108 := (not_congr (br_le hln rfl (by omega) (by omega))).mp c_108
                        obtain ⟨r3, rfl⟩ : ∃ r3, r2 = r3 + 1 := ⟨r2 - 1, by omega⟩
                        refine lv_aload_n hx hb dX8_next_231 rfl (lv_at hl 0 rfl) ?_
                        refine fg_X8_31 hC hM mq_F rfl dX8_next_232 ?_
                        refine lv_aload_n hx hb dX8_next_235 rfl (lv_at hl 0 rfl) ?_
                        refine fg_X8_169 hC hM mq_F rfl dX8_next_236 ?_
                        refine me_evi (y := nI k2) rfl ?_
                        refine me_bald (k := k2) hC hM mq_ip rfl (by omega) (by first | decide | omega) dX8_next_239 ?_
                        refine me_callSi (As := [.int (ip k2)]) (rest := []) hC hl.1 hM (c_X8_isDigit l D tb X z0 n _ (ip k2) ) (ks_X8_181 hw rfl rfl ⟨Nat.le_of_ble_eq_true rfl, Nat.le_of_ble_eq_true rfl⟩) rfl rfl (Nat.le_of_ble_eq_true rfl) dX8_next_240 ⟨Nat.le_of_ble_eq_true rfl, Nat.le_of_ble_eq_true rfl⟩ (fun H locs hM => ?_)
                        refine lv_if_eq (tgt := 296) hx hb dX8_next_243 (by decide) (fun c_111 => ?_) (fun c_111 => ?_)
                        · have c_111 := b1_0.mp c_111
                          have hd3 : drP ip (len - k) k = k2 := hd2.trans (drP_f c_111)
                          have hv3 : dvP ip k (len - k) k 0 = v := hv2.trans (dvP_f c_111)
                          refine lv_aload_n hx hb dX8_next_296 rfl (lv_at hl 0 rfl) ?_
                          refine lv_iload_n hx hb dX8_next_297 rfl (lv_at hl 2 rfl) ?_
                          refine lv_if_ne (tgt := 314) hx hb dX8_next_298 (by decide) (fun c_112 => ?_) (fun c_112 => ?_)
                          · exact absurd c_112 (by decide)
                          · refine lv_aload_n hx hb dX8_next_301 rfl (lv_at hl 0 rfl) ?_
                            refine fg_X8_169 hC hM mq_F rfl dX8_next_302 ?_
                            refine me_evi (y := nI k2) rfl ?_
                            refine lv_aload_n hx hb dX8_next_305 rfl (lv_at hl 0 rfl) ?_
                            refine fg_X8_172 hC hM mq_F rfl dX8_next_306 ?_
                            refine me_evi (y := nI k) rfl ?_
                            refine lv_isub hx hb dX8_next_309 ?_
                            refine lv_iconst (v := 4) hx hb dX8_next_310 (by decide) ?_
                            refine lv_icmp_le (tgt := 318) hx hb dX8_next_311 (by decide) (fun c_113 => ?_) (fun c_113 => ?_)
                            · have c_113 := (br_le (nx_sub rfl rfl (by omega)) (nx_c 4) (by omega) (by omega)).mp c_113
                              refine lv_iconst (v := 2) hx hb dX8_next_318 (by decide) ?_
                              refine fp_X8_166 hC hM mq_F (Nat.le_of_ble_eq_true rfl) (M2 := mq tb mo (pqF F (2, k, k2, v, qFl pq, qFa pq)) w av od sv sl nz ip ot M0) (mq_wF2 rfl) dX8_next_319 (fun H locs hM => ?_)
                              refine lv_goto (tgt := 358) hx hb dX8_next_322 (by decide) ?_
                              exact me_vret hC hr hlk hM (mq_ps (by unfold mxP; rw [hs2]; unfold mx1; rw [if_neg c_104, if_neg c_105, if_pos c_106, hd3, hv3, if_neg (fun z => z.elim (fun z => c_103 z.2) (fun z => absurd z (by omega)))])) (rfl) dX8_next_358
                            · have c_113 := (not_congr (br_le (nx_sub rfl rfl (by omega)) (nx_c 4) (by omega) (by omega))).mp c_113
                              refine lv_iconst (v := 4) hx hb dX8_next_314 (by decide) ?_
                              refine lv_goto (tgt := 319) hx hb dX8_next_315 (by decide) ?_
                              refine fp_X8_166 hC hM mq_F (Nat.le_of_ble_eq_true rfl) (M2 := mq tb mo (pqF F (4, k, k2, v, qFl pq, qFa pq)) w av od sv sl nz ip ot M0) (mq_wF2 rfl) dX8_next_319 (fun H locs hM => ?_)
                              refine lv_goto (tgt := 358) hx hb dX8_next_322 (by decide) ?_
                              exact me_vret hC hr hlk hM (mq_ps (by unfold mxP; rw [hs2]; unfold mx1; rw [if_neg c_104, if_neg c_105, if_pos c_106, hd3, hv3, if_pos (Or.inr (by omega))])) (rfl) dX8_next_358
                        · have c_111 := b1_n0.mp c_111
                          refine lv_aload_n hx hb dX8_next_246 rfl (lv_at hl 0 rfl) ?_
                          refine fg_X8_169 hC hM mq_F rfl dX8_next_247 ?_
                          refine me_evi (y := nI k2) rfl ?_
                          refine lv_aload_n hx hb dX8_next_250 rfl (lv_at hl 0 rfl) ?_
                          refine fg_X8_172 hC hM mq_F rfl dX8_next_251 ?_
                          refine me_evi (y := nI k) rfl ?_
                          refine lv_isub hx hb dX8_next_254 ?_
                          refine lv_iconst (v := 4) hx hb dX8_next_255 (by decide) ?_
                          refine lv_icmp_ge (tgt := 283) hx hb dX8_next_256 (by decide) (fun c_114 => ?_) (fun c_114 => ?_)
                          · have c_114 := (br_le (nx_c 4) (nx_sub rfl rfl (by omega)) (by omega) (by omega)).mp c_114
                            refine lv_aload_n hx hb dX8_next_283 rfl (lv_at hl 0 rfl) ?_
                            refine lv_dup hx hb dX8_next_284 rfl ?_
                            refine fg_X8_169 hC hM mq_F rfl dX8_next_285 ?_
                            refine me_evi (y := nI k2) rfl ?_
                            refine lv_iconst (v := 1) hx hb dX8_next_288 (by decide) ?_
                            refine lv_iadd hx hb dX8_next_289 ?_
                            refine me_evi (y := nI (k2 + 1)) (nx_add rfl (show (1 : Int32) = nI 1 from rfl)) ?_
                            refine fp_X8_169 hC hM mq_F (Nat.le_of_ble_eq_true rfl) (M2 := mq tb mo (pqF F (qKd pq, k, k2 + 1, v, qFl pq, qFa pq)) w av od sv sl nz ip ot M0) (mq_wF2 rfl) dX8_next_290 (fun H locs hM => ?_)
                            refine lv_goto (tgt := 220) hx hb dX8_next_293 (by decide) ?_
                            exact ih_220 r3 (by omega) (k2 + 1) v _ _ _ (by omega) (by omega) (hd2.trans (drP_t c_111)) (hv2.trans (dvP_b c_111 (by omega))) hM (lv_sub hl [0, 1, 2] rfl)
                          · have c_114 := (not_congr (br_le (nx_c 4) (nx_sub rfl rfl (by omega)) (by omega) (by omega))).mp c_114
                            refine lv_aload_n hx hb dX8_next_259 rfl (lv_at hl 0 rfl) ?_
                            refine lv_bipush (v := 10) hx hb dX8_next_260 (by decide) ?_
                            refine lv_aload_n hx hb dX8_next_262 rfl (lv_at hl 0 rfl) ?_
                            refine fg_X8_184 hC hM mq_F rfl dX8_next_263 ?_
                            refine me_evi (y := v) rfl ?_
                            refine lv_imul hx hb dX8_next_266 ?_
                            refine lv_aload_n hx hb dX8_next_267 rfl (lv_at hl 0 rfl) ?_
                            refine fg_X8_31 hC hM mq_F rfl dX8_next_268 ?_
                            refine lv_aload_n hx hb dX8_next_271 rfl (lv_at hl 0 rfl) ?_
                            refine fg_X8_169 hC hM mq_F rfl dX8_next_272 ?_
                            refine me_evi (y := nI k2) rfl ?_
                            refine me_bald (k := k2) hC hM mq_ip rfl (by omega) (by first | decide | omega) dX8_next_275 ?_
                            refine lv_iadd hx hb dX8_next_276 ?_
                            refine lv_bipush (v := 48) hx hb dX8_next_277 (by decide) ?_
                            refine lv_isub hx hb dX8_next_279 ?_
                            refine fp_X8_184 hC hM mq_F (Nat.le_of_ble_eq_true rfl) (M2 := mq tb mo (pqF F (qKd pq, k, k2, ((10 * v) + (ip k2)) - 48, qFl pq, qFa pq)) w av od sv sl nz ip ot M0) (mq_wF2 rfl) dX8_next_280 (fun H locs hM => ?_)
                            refine lv_aload_n hx hb dX8_next_283 rfl (lv_at hl 0 rfl) ?_
                            refine lv_dup hx hb dX8_next_284 rfl ?_
                            refine fg_X8_169 hC hM mq_F rfl dX8_next_285 ?_
                            refine me_evi (y := nI k2) rfl ?_
                            refine lv_iconst (v := 1) hx hb dX8_next_288 (by decide) ?_
                            refine lv_iadd hx hb dX8_next_289 ?_
                            refine me_evi (y := nI (k2 + 1)) (nx_add rfl (show (1 : Int32) = nI 1 from rfl)) ?_
                            refine fp_X8_169 hC hM mq_F (Nat.le_of_ble_eq_true rfl) (M2 := mq tb mo (pqF F (qKd pq, k, k2 + 1, ((10 * v) + (ip k2)) - 48, qFl pq, qFa pq)) w av od sv sl nz ip ot M0) (mq_wF2 rfl) dX8_next_290 (fun H locs hM => ?_)
                            refine lv_goto (tgt := 220) hx hb dX8_next_293 (by decide) ?_
                            exact ih_220 r3 (by omega) (k2 + 1) (10 * v + ip k2 - 48) _ _ _ (by omega) (by omega) (hd2.trans (drP_t c_111)) (hv2.trans (dvP_a c_111 (by omega))) hM (lv_sub hl [0, 1, 2] rfl)
                    exact lp_220 (len - k) k 0 _ _ _ (by omega) (by omega) rfl rfl hM (lv_sub hl [1, 2, 0] rfl)
                · have c_105 := b1_n0.mp c_105
                  have lp_145 : ∀ (r2 : Nat) (k2 : Nat) (H : Heap) (locs : List Loc) (ls : Array Slot), (k2 + r2 = len) → (k ≤ k2) → (lrP ip (len - k) k = lrP ip r2 k2) → me_at D z0 (mq tb mo (pqF F (qKd pq, k, k2, qVa pq, qFl pq, qFa pq)) w av od sv sl nz ip ot M0) n s H locs → lv_has ls 3 [(0, .ref mo), (1, .int 1), (2, .int 0)] → W p l e (({ frames := 1, cells := 0, slots := 0, locals := 20 } : Room)) s m args below meth c H locs 0 0 (MQ below (me_Qv D z0 (mq tb mo (pqF F (mxP ip len pq)) w av od sv sl nz ip ot M0) n) args s 0 0 (me_A z0)) (F0 m 145 ls []) := by
                    intro r2
                    refine Nat.strongRecOn r2 ?_
                    intro r2 ih_145 k2 H locs ls hk2 hk3 hl2 hM hl
                    refine lv_aload_n hx hb dX8_next_145 rfl (lv_at hl 0 rfl) ?_
                    refine fg_X8_169 hC hM mq_F rfl dX8_next_146 ?_
                    refine me_evi (y := nI k2) rfl ?_
                    refine lv_aload_n hx hb dX8_next_149 rfl (lv_at hl 0 rfl) ?_
                    refine fg_X8_175 hC hM mq_F rfl dX8_next_150 ?_
                    refine me_evi (y := F 7) rfl ?_
                    refine lv_icmp_ge (tgt := 184) hx hb dX8_next_153 (by decide) (fun c_115 => ?_) (fun c_115 => ?_)
                    · have c_115 := (br_le hln rfl (by omega) (by omega)).mp c_115
                      have hl3 : lrP ip (len - k) k = k2 := by rw [hl2, show r2 = 0 by omega]; rfl
                      refine lv_aload_n hx hb dX8_next_184 rfl (lv_at hl 0 rfl) ?_
                      refine lv_iload_n hx hb dX8_next_185 rfl (lv_at hl 2 rfl) ?_
                      refine lv_if_eq (tgt := 193) hx hb dX8_next_186 (by decide) (fun c_116 => ?_) (fun c_116 => ?_)
                      · refine lv_iconst (v := 1) hx hb dX8_next_193 (by decide) ?_
                        refine fp_X8_166 hC hM mq_F (Nat.le_of_ble_eq_true rfl) (M2 := mq tb mo (pqF F (1, k, k2, qVa pq, qFl pq, qFa pq)) w av od sv sl nz ip ot M0) (mq_wF2 rfl) dX8_next_194 (fun H locs hM => ?_)
                        refine lv_goto (tgt := 358) hx hb dX8_next_197 (by decide) ?_
                        exact me_vret hC hr hlk hM (mq_ps (by unfold mxP; rw [hs2]; unfold mx1; rw [if_neg c_104, if_pos c_105, hl3, if_neg (fun z => c_103 z.2)])) (rfl) dX8_next_358
                      · exact absurd c_116 (by decide)
                    · have c_115 := (not_congr (br_le hln rfl (by omega) (by omega))).mp c_115
                      obtain ⟨r3, rfl⟩ : ∃ r3, r2 = r3 + 1 := ⟨r2 - 1, by omega⟩
                      refine lv_aload_n hx hb dX8_next_156 rfl (lv_at hl 0 rfl) ?_
                      refine fg_X8_31 hC hM mq_F rfl dX8_next_157 ?_
                      refine lv_aload_n hx hb dX8_next_160 rfl (lv_at hl 0 rfl) ?_
                      refine fg_X8_169 hC hM mq_F rfl dX8_next_161 ?_
                      refine me_evi (y := nI k2) rfl ?_
                      refine me_bald (k := k2) hC hM mq_ip rfl (by omega) (by first | decide | omega) dX8_next_164 ?_
                      refine me_callSi (As := [.int (ip k2)]) (rest := []) hC hl.1 hM (c_X8_isLetter l D tb X z0 n _ (ip k2) ) (ks_X8_178 hw rfl rfl ⟨Nat.le_of_ble_eq_true rfl, Nat.le_of_ble_eq_true rfl⟩) rfl rfl (Nat.le_of_ble_eq_true rfl) dX8_next_165 ⟨Nat.le_of_ble_eq_true rfl, Nat.le_of_ble_eq_true rfl⟩ (fun H locs hM => ?_)
                      refine lv_if_eq (tgt := 184) hx hb dX8_next_168 (by decide) (fun c_117 => ?_) (fun c_117 => ?_)
                      · have c_117 := b1_0.mp c_117
                        have hl3 : lrP ip (len - k) k = k2 := hl2.trans (lrP_f c_117)
                        refine lv_aload_n hx hb dX8_next_184 rfl (lv_at hl 0 rfl) ?_
                        refine lv_iload_n hx hb dX8_next_185 rfl (lv_at hl 2 rfl) ?_
                        refine lv_if_eq (tgt := 193) hx hb dX8_next_186 (by decide) (fun c_118 => ?_) (fun c_118 => ?_)
                        · refine lv_iconst (v := 1) hx hb dX8_next_193 (by decide) ?_
                          refine fp_X8_166 hC hM mq_F (Nat.le_of_ble_eq_true rfl) (M2 := mq tb mo (pqF F (1, k, k2, qVa pq, qFl pq, qFa pq)) w av od sv sl nz ip ot M0) (mq_wF2 rfl) dX8_next_194 (fun H locs hM => ?_)
                          refine lv_goto (tgt := 358) hx hb dX8_next_197 (by decide) ?_
                          exact me_vret hC hr hlk hM (mq_ps (by unfold mxP; rw [hs2]; unfold mx1; rw [if_neg c_104, if_pos c_105, hl3, if_neg (fun z => c_103 z.2)])) (rfl) dX8_next_358
                        · exact absurd c_118 (by decide)
                      · have c_117 := b1_n0.mp c_117
                        refine lv_aload_n hx hb dX8_next_171 rfl (lv_at hl 0 rfl) ?_
                        refine lv_dup hx hb dX8_next_172 rfl ?_
                        refine fg_X8_169 hC hM mq_F rfl dX8_next_173 ?_
                        refine me_evi (y := nI k2) rfl ?_
                        refine lv_iconst (v := 1) hx hb dX8_next_176 (by decide) ?_
                        refine lv_iadd hx hb dX8_next_177 ?_
                        refine me_evi (y := nI (k2 + 1)) (nx_add rfl (show (1 : Int32) = nI 1 from rfl)) ?_
                        refine fp_X8_169 hC hM mq_F (Nat.le_of_ble_eq_true rfl) (M2 := mq tb mo (pqF F (qKd pq, k, k2 + 1, qVa pq, qFl pq, qFa pq)) w av od sv sl nz ip ot M0) (mq_wF2 rfl) dX8_next_178 (fun H locs hM => ?_)
                        refine lv_goto (tgt := 145) hx hb dX8_next_181 (by decide) ?_
                        exact ih_145 r3 (by omega) (k2 + 1) _ _ _ (by omega) (by omega) (hl2.trans (lrP_t c_117)) hM (lv_sub hl [0, 1, 2] rfl)
                  exact lp_145 (len - k) k _ _ _ (by omega) (by omega) rfl hM (lv_sub hl [1, 2, 0] rfl)
              · have c_104 := (br_eq rfl hln (by omega) (by omega)).mp c_104
                refine lv_aload_n hx hb dX8_next_122 rfl (lv_at hl 1 rfl) ?_
                refine lv_iconst (v := 0) hx hb dX8_next_123 (by decide) ?_
                refine fp_X8_166 hC hM mq_F (Nat.le_of_ble_eq_true rfl) (M2 := mq tb mo (pqF F (0, k, k, qVa pq, qFl pq, qFa pq)) w av od sv sl nz ip ot M0) (mq_wF2 rfl) dX8_next_124 (fun H locs hM => ?_)
                refine lv_goto (tgt := 358) hx hb dX8_next_127 (by decide) ?_
                exact me_vret hC hr hlk hM (mq_ps (by unfold mxP; rw [hs2]; unfold mx1; rw [if_pos c_104])) (rfl) dX8_next_358
            · have c_103 := (br_eq rfl rfl (by omega) (by omega)).mp c_103
              refine lv_iconst (v := 1) hx hb dX8_next_97 (by decide) ?_
              refine lv_goto (tgt := 102) hx hb dX8_next_98 (by decide) ?_
              refine lv_istore_n (lv' := [(2, .int 1), (0, .ref mo), (1, .int 1)]) hx hb dX8_next_102 rfl hl (by decide) rfl (fun ls hl => ?_)
              refine lv_aload_n hx hb dX8_next_103 rfl (lv_at hl 1 rfl) ?_
              refine lv_aload_n hx hb dX8_next_104 rfl (lv_at hl 1 rfl) ?_
              refine fg_X8_172 hC hM mq_F rfl dX8_next_105 ?_
              refine me_evi (y := nI k) rfl ?_
              refine fp_X8_169 hC hM mq_F (Nat.le_of_ble_eq_true rfl) (M2 := mq tb mo (pqF F (qKd pq, k, k, qVa pq, qFl pq, qFa pq)) w av od sv sl nz ip ot M0) (mq_wF2 rfl) dX8_next_108 (fun H locs hM => ?_)
              refine lv_aload_n hx hb dX8_next_111 rfl (lv_at hl 1 rfl) ?_
              refine fg_X8_172 hC hM mq_F rfl dX8_next_112 ?_
              refine me_evi (y := nI k) rfl ?_
              refine lv_aload_n hx hb dX8_next_115 rfl (lv_at hl 1 rfl) ?_
              refine fg_X8_175 hC hM mq_F rfl dX8_next_116 ?_
              refine me_evi (y := F 7) rfl ?_
              refine lv_icmp_ne (tgt := 130) hx hb dX8_next_119 (by decide) (fun c_119 => ?_) (fun c_119 => ?_)
              · have c_119 := (not_congr (br_eq rfl hln (by omega) (by omega))).mp c_119
                refine lv_aload_n hx hb dX8_next_130 rfl (lv_at hl 1 rfl) ?_
                refine fg_X8_31 hC hM mq_F rfl dX8_next_131 ?_
                refine lv_aload_n hx hb dX8_next_134 rfl (lv_at hl 1 rfl) ?_
                refine fg_X8_172 hC hM mq_F rfl dX8_next_135 ?_
                refine me_evi (y := nI k) rfl ?_
                refine me_bald (k := k) hC hM mq_ip rfl (by omega) (by first | decide | omega) dX8_next_138 ?_
                refine me_callSi (As := [.int (ip k)]) (rest := []) hC hl.1 hM (c_X8_isLetter l D tb X z0 n _ (ip k) ) (ks_X8_178 hw rfl rfl ⟨Nat.le_of_ble_eq_true rfl, Nat.le_of_ble_eq_true rfl⟩) rfl rfl (Nat.le_of_ble_eq_true rfl) dX8_next_139 ⟨Nat.le_of_ble_eq_true rfl, Nat.le_of_ble_eq_true rfl⟩ (fun H locs hM => ?_)
                refine lv_if_eq (tgt := 200) hx hb dX8_next_142 (by decide) (fun c_120 => ?_) (fun c_120 => ?_)
                · have c_120 := b1_0.mp c_120
                  refine lv_aload_n hx hb dX8_next_200 rfl (lv_at hl 1 rfl) ?_
                  refine fg_X8_31 hC hM mq_F rfl dX8_next_201 ?_
                  refine lv_aload_n hx hb dX8_next_204 rfl (lv_at hl 1 rfl) ?_
                  refine fg_X8_172 hC hM mq_F rfl dX8_next_205 ?_
                  refine me_evi (y := nI k) rfl ?_
                  refine me_bald (k := k) hC hM mq_ip rfl (by omega) (by first | decide | omega) dX8_next_208 ?_
                  refine me_callSi (As := [.int (ip k)]) (rest := []) hC hl.1 hM (c_X8_isDigit l D tb X z0 n _ (ip k) ) (ks_X8_181 hw rfl rfl ⟨Nat.le_of_ble_eq_true rfl, Nat.le_of_ble_eq_true rfl⟩) rfl rfl (Nat.le_of_ble_eq_true rfl) dX8_next_209 ⟨Nat.le_of_ble_eq_true rfl, Nat.le_of_ble_eq_true rfl⟩ (fun H locs hM => ?_)
                  refine lv_if_eq (tgt := 325) hx hb dX8_next_212 (by decide) (fun c_121 => ?_) (fun c_121 => ?_)
                  · have c_121 := b1_0.mp c_121
                    refine lv_aload_n hx hb dX8_next_325 rfl (lv_at hl 1 rfl) ?_
                    refine lv_aload_n hx hb dX8_next_326 rfl (lv_at hl 1 rfl) ?_
                    refine fg_X8_172 hC hM mq_F rfl dX8_next_327 ?_
                    refine me_evi (y := nI k) rfl ?_
                    refine lv_iconst (v := 1) hx hb dX8_next_330 (by decide) ?_
                    refine lv_iadd hx hb dX8_next_331 ?_
                    refine me_evi (y := nI (k + 1)) (nx_add rfl (show (1 : Int32) = nI 1 from rfl)) ?_
                    refine fp_X8_169 hC hM mq_F (Nat.le_of_ble_eq_true rfl) (M2 := mq tb mo (pqF F (qKd pq, k, k + 1, qVa pq, qFl pq, qFa pq)) w av od sv sl nz ip ot M0) (mq_wF2 rfl) dX8_next_332 (fun H locs hM => ?_)
                    refine lv_aload_n hx hb dX8_next_335 rfl (lv_at hl 1 rfl) ?_
                    refine lv_aload_n hx hb dX8_next_336 rfl (lv_at hl 1 rfl) ?_
                    refine fg_X8_31 hC hM mq_F rfl dX8_next_337 ?_
                    refine lv_aload_n hx hb dX8_next_340 rfl (lv_at hl 1 rfl) ?_
                    refine fg_X8_172 hC hM mq_F rfl dX8_next_341 ?_
                    refine me_evi (y := nI k) rfl ?_
                    refine me_bald (k := k) hC hM mq_ip rfl (by omega) (by first | decide | omega) dX8_next_344 ?_
                    refine lv_bipush (v := 59) hx hb dX8_next_345 (by decide) ?_
                    refine lv_icmp_ne (tgt := 354) hx hb dX8_next_347 (by decide) (fun c_122 => ?_) (fun c_122 => ?_)
                    · refine lv_iconst (v := 4) hx hb dX8_next_354 (by decide) ?_
                      refine fp_X8_166 hC hM mq_F (Nat.le_of_ble_eq_true rfl) (M2 := mq tb mo (pqF F (4, k, k + 1, qVa pq, qFl pq, qFa pq)) w av od sv sl nz ip ot M0) (mq_wF2 rfl) dX8_next_355 (fun H locs hM => ?_)
                      exact me_vret hC hr hlk hM (mq_ps (by unfold mxP; rw [hs2]; unfold mx1; rw [if_neg c_119, if_neg c_120, if_neg c_121, if_neg c_122])) (rfl) dX8_next_358
                    · refine lv_iconst (v := 3) hx hb dX8_next_350 (by decide) ?_
                      refine lv_goto (tgt := 355) hx hb dX8_next_351 (by decide) ?_
                      refine fp_X8_166 hC hM mq_F (Nat.le_of_ble_eq_true rfl) (M2 := mq tb mo (pqF F (3, k, k + 1, qVa pq, qFl pq, qFa pq)) w av od sv sl nz ip ot M0) (mq_wF2 rfl) dX8_next_355 (fun H locs hM => ?_)
                      exact me_vret hC hr hlk hM (mq_ps (by unfold mxP; rw [hs2]; unfold mx1; rw [if_neg c_119, if_neg c_120, if_neg c_121, if_pos c_122])) (rfl) dX8_next_358
                  · have c_121 := b1_n0.mp c_121
                    refine lv_aload_n hx hb dX8_next_215 rfl (lv_at hl 1 rfl) ?_
                    refine lv_iconst (v := 0) hx hb dX8_next_216 (by decide) ?_
                    refine fp_X8_184 hC hM mq_F (Nat.le_of_ble_eq_true rfl) (M2 := mq tb mo (pqF F (qKd pq, k, k, 0, qFl pq, qFa pq)) w av od sv sl nz ip ot M0) (mq_wF2 rfl) dX8_next_217 (fun H locs hM => ?_)
                    have lp_220 : ∀ (r2 : Nat) (k2 : Nat) (v : Int32) (H : Heap) (locs : List Loc) (ls : Array Slot), (k2 + r2 = len) → (k ≤ k2) → (drP ip (len - k) k = drP ip r2 k2) → (dvP ip k (len - k) k 0 = dvP ip k r2 k2 v) → me_at D z0 (mq tb mo (pqF F (qKd pq, k, k2, v, qFl pq, qFa pq)) w av od sv sl nz ip ot M0) n s H locs → lv_has ls 3 [(0, .ref mo), (1, .int 1), (2, .int 1)] → W p l e (({ frames := 1, cells := 0, slots := 0, locals := 20 } : Room)) s m args below meth c H locs 0 0 (MQ below (me_Qv D z0 (mq tb mo (pqF F (mxP ip len pq)) w av od sv sl nz ip ot M0) n) args s 0 0 (me_A z0)) (F0 m 220 ls []) := by
                      intro r2
                      refine Nat.strongRecOn r2 ?_
                      intro r2 ih_220 k2 v H locs ls hk2 hk3 hd2 hv2 hM hl
                      refine lv_aload_n hx hb dX8_next_220 rfl (lv_at hl 0 rfl) ?_
                      refine fg_X8_169 hC hM mq_F rfl dX8_next_221 ?_
                      refine me_evi (y := nI k2) rfl ?_
                      refine lv_aload_n hx hb dX8_next_224 rfl (lv_at hl 0 rfl) ?_
                      refine fg_X8_175 hC hM mq_F rfl dX8_next_225 ?_
                      refine me_evi (y := F 7) rfl ?_
                      refine lv_icmp_ge (tgt := 296) hx hb dX8_next_228 (by decide) (fun c_123 => ?_) (fun c_123 => ?_)
                      · have c_123 := (br_le hln rfl (by omega) (by omega)).mp c_123
                        have hd3 : drP ip (len - k) k = k2 := by rw [hd2, show r2 = 0 by omega]; rfl
                        have hv3 : dvP ip k (len - k) k 0 = v := by rw [hv2, show r2 = 0 by omega]; rfl
                        refine lv_aload_n hx hb dX8_next_296 rfl (lv_at hl 0 rfl) ?_
                        refine lv_iload_n hx hb dX8_next_297 rfl (lv_at hl 2 rfl) ?_
                        refine lv_if_ne (tgt := 314) hx hb dX8_next_298 (by decide) (fun c_124 => ?_) (fun c_124 => ?_)
                        · refine lv_iconst (v := 4) hx hb dX8_next_314 (by decide) ?_
                          refine lv_goto (tgt := 319) hx hb dX8_next_315 (by decide) ?_
                          refine fp_X8_166 hC hM mq_F (Nat.le_of_ble_eq_true rfl) (M2 := mq tb mo (pqF F (4, k, k2, v, qFl pq, qFa pq)) w av od sv sl nz ip ot M0) (mq_wF2 rfl) dX8_next_319 (fun H locs hM => ?_)
                          refine lv_goto (tgt := 358) hx hb dX8_next_322 (by decide) ?_
                          exact me_vret hC hr hlk hM (mq_ps (by unfold mxP; rw [hs2]; unfold mx1; rw [if_neg c_119, if_neg c_120, if_pos c_121, hd3, hv3, if_pos (Or.inl ⟨(Or.inr c_65), c_103⟩)])) (rfl) dX8_next_358
                        · exact absurd c_124 (by decide)
                      · have c_123 := (not_congr (br_le hln rfl (by omega) (by omega))).mp c_123
                        obtain ⟨r3, rfl⟩ : ∃ r3, r2 = r3 + 1 := ⟨r2 - 1, by omega⟩
                        refine lv_aload_n hx hb dX8_next_231 rfl (lv_at hl 0 rfl) ?_
                        refine fg_X8_31 hC hM mq_F rfl dX8_next_232 ?_
                        refine lv_aload_n hx hb dX8_next_235 rfl (lv_at hl 0 rfl) ?_
                        refine fg_X8_169 hC hM mq_F rfl dX8_next_236 ?_
                        refine me_evi (y := nI k2) rfl ?_
                        refine me_bald (k := k2) hC hM mq_ip rfl (by omega) (by first | decide | omega) dX8_next_239 ?_
                        refine me_callSi (As := [.int (ip k2)]) (rest := []) hC hl.1 hM (c_X8_isDigit l D tb X z0 n _ (ip k2) ) (ks_X8_181 hw rfl rfl ⟨Nat.le_of_ble_eq_true rfl, Nat.le_of_ble_eq_true rfl⟩) rfl rfl (Nat.le_of_ble_eq_true rfl) dX8_next_240 ⟨Nat.le_of_ble_eq_true rfl, Nat.le_of_ble_eq_true rfl⟩ (fun H locs hM => ?_)
                        refine lv_if_eq (tgt := 296) hx hb dX8_next_243 (by decide) (fun c_125 => ?_) (fun c_125 => ?_)
                        · have c_125 := b1_0.mp c_125
                          have hd3 : drP ip (len - k) k = k2 := hd2.trans (drP_f c_125)
                          have hv3 : dvP ip k (len - k) k 0 = v := hv2.trans (dvP_f c_125)
                          refine lv_aload_n hx hb dX8_next_296 rfl (lv_at hl 0 rfl) ?_
                          refine lv_iload_n hx hb dX8_next_297 rfl (lv_at hl 2 rfl) ?_
                          refine lv_if_ne (tgt := 314) hx hb dX8_next_298 (by decide) (fun c_126 => ?_) (fun c_126 => ?_)
                          · refine lv_iconst (v := 4) hx hb dX8_next_314 (by decide) ?_
                            refine lv_goto (tgt := 319) hx hb dX8_next_315 (by decide) ?_
                            refine fp_X8_166 hC hM mq_F (Nat.le_of_ble_eq_true rfl) (M2 := mq tb mo (pqF F (4, k, k2, v, qFl pq, qFa pq)) w av od sv sl nz ip ot M0) (mq_wF2 rfl) dX8_next_319 (fun H locs hM => ?_)
                            refine lv_goto (tgt := 358) hx hb dX8_next_322 (by decide) ?_
                            exact me_vret hC hr hlk hM (mq_ps (by unfold mxP; rw [hs2]; unfold mx1; rw [if_neg c_119, if_neg c_120, if_pos c_121, hd3, hv3, if_pos (Or.inl ⟨(Or.inr c_65), c_103⟩)])) (rfl) dX8_next_358
                          · exact absurd c_126 (by decide)
                        · have c_125 := b1_n0.mp c_125
                          refine lv_aload_n hx hb dX8_next_246 rfl (lv_at hl 0 rfl) ?_
                          refine fg_X8_169 hC hM mq_F rfl dX8_next_247 ?_
                          refine me_evi (y := nI k2) rfl ?_
                          refine lv_aload_n hx hb dX8_next_250 rfl (lv_at hl 0 rfl) ?_
                          refine fg_X8_172 hC hM mq_F rfl dX8_next_251 ?_
                          refine me_evi (y := nI k) rfl ?_
                          refine lv_isub hx hb dX8_next_254 ?_
                          refine lv_iconst (v := 4) hx hb dX8_next_255 (by decide) ?_
                          refine lv_icmp_ge (tgt := 283) hx hb dX8_next_256 (by decide) (fun c_127 => ?_) (fun c_127 => ?_)
                          · have c_127 := (br_le (nx_c 4) (nx_sub rfl rfl (by omega)) (by omega) (by omega)).mp c_127
                            refine lv_aload_n hx hb dX8_next_283 rfl (lv_at hl 0 rfl) ?_
                            refine lv_dup hx hb dX8_next_284 rfl ?_
                            refine fg_X8_169 hC hM mq_F rfl dX8_next_285 ?_
                            refine me_evi (y := nI k2) rfl ?_
                            refine lv_iconst (v := 1) hx hb dX8_next_288 (by decide) ?_
                            refine lv_iadd hx hb dX8_next_289 ?_
                            refine me_evi (y := nI (k2 + 1)) (nx_add rfl (show (1 : Int32) = nI 1 from rfl)) ?_
                            refine fp_X8_169 hC hM mq_F (Nat.le_of_ble_eq_true rfl) (M2 := mq tb mo (pqF F (qKd pq, k, k2 + 1, v, qFl pq, qFa pq)) w av od sv sl nz ip ot M0) (mq_wF2 rfl) dX8_next_290 (fun H locs hM => ?_)
                            refine lv_goto (tgt := 220) hx hb dX8_next_293 (by decide) ?_
                            exact ih_220 r3 (by omega) (k2 + 1) v _ _ _ (by omega) (by omega) (hd2.trans (drP_t c_125)) (hv2.trans (dvP_b c_125 (by omega))) hM (lv_sub hl [0, 1, 2] rfl)
                          · have c_127 := (not_congr (br_le (nx_c 4) (nx_sub rfl rfl (by omega)) (by omega) (by omega))).mp c_127
                            refine lv_aload_n hx hb dX8_next_259 rfl (lv_at hl 0 rfl) ?_
                            refine lv_bipush (v := 10) hx hb dX8_next_260 (by decide) ?_
                            refine lv_aload_n hx hb dX8_next_262 rfl (lv_at hl 0 rfl) ?_
                            refine fg_X8_184 hC hM mq_F rfl dX8_next_263 ?_
                            refine me_evi (y := v) rfl ?_
                            refine lv_imul hx hb dX8_next_266 ?_
                            refine lv_aload_n hx hb dX8_next_267 rfl (lv_at hl 0 rfl) ?_
                            refine fg_X8_31 hC hM mq_F rfl dX8_next_268 ?_
                            refine lv_aload_n hx hb dX8_next_271 rfl (lv_at hl 0 rfl) ?_
                            refine fg_X8_169 hC hM mq_F rfl dX8_next_272 ?_
                            refine me_evi (y := nI k2) rfl ?_
                            refine me_bald (k := k2) hC hM mq_ip rfl (by omega) (by first | decide | omega) dX8_next_275 ?_
                            refine lv_iadd hx hb dX8_next_276 ?_
                            refine lv_bipush (v := 48) hx hb dX8_next_277 (by decide) ?_
                            refine lv_isub hx hb dX8_next_279 ?_
                            refine fp_X8_184 hC hM mq_F (Nat.le_of_ble_eq_true rfl) (M2 := mq tb mo (pqF F (qKd pq, k, k2, ((10 * v) + (ip k2)) - 48, qFl pq, qFa pq)) w av od sv sl nz ip ot M0) (mq_wF2 rfl) dX8_next_280 (fun H locs hM => ?_)
                            refine lv_aload_n hx hb dX8_next_283 rfl (lv_at hl 0 rfl) ?_
                            refine lv_dup hx hb dX8_next_284 rfl ?_
                            refine fg_X8_169 hC hM mq_F rfl dX8_next_285 ?_
                            refine me_evi (y := nI k2) rfl ?_
                            refine lv_iconst (v := 1) hx hb dX8_next_288 (by decide) ?_
                            refine lv_iadd hx hb dX8_next_289 ?_
                            refine me_evi (y := nI (k2 + 1)) (nx_add rfl (show (1 : Int32) = nI 1 from rfl)) ?_
                            refine fp_X8_169 hC hM mq_F (Nat.le_of_ble_eq_true rfl) (M2 := mq tb mo (pqF F (qKd pq, k, k2 + 1, ((10 * v) + (ip k2)) - 48, qFl pq, qFa pq)) w av od sv sl nz ip ot M0) (mq_wF2 rfl) dX8_next_290 (fun H locs hM => ?_)
                            refine lv_goto (tgt := 220) hx hb dX8_next_293 (by decide) ?_
                            exact ih_220 r3 (by omega) (k2 + 1) (10 * v + ip k2 - 48) _ _ _ (by omega) (by omega) (hd2.trans (drP_t c_125)) (hv2.trans (dvP_a c_125 (by omega))) hM (lv_sub hl [0, 1, 2] rfl)
                    exact lp_220 (len - k) k 0 _ _ _ (by omega) (by omega) rfl rfl hM (lv_sub hl [1, 2, 0] rfl)
                · have c_120 := b1_n0.mp c_120
                  have lp_145 : ∀ (r2 : Nat) (k2 : Nat) (H : Heap) (locs : List Loc) (ls : Array Slot), (k2 + r2 = len) → (k ≤ k2) → (lrP ip (len - k) k = lrP ip r2 k2) → me_at D z0 (mq tb mo (pqF F (qKd pq, k, k2, qVa pq, qFl pq, qFa pq)) w av od sv sl nz ip ot M0) n s H locs → lv_has ls 3 [(0, .ref mo), (1, .int 1), (2, .int 1)] → W p l e (({ frames := 1, cells := 0, slots := 0, locals := 20 } : Room)) s m args below meth c H locs 0 0 (MQ below (me_Qv D z0 (mq tb mo (pqF F (mxP ip len pq)) w av od sv sl nz ip ot M0) n) args s 0 0 (me_A z0)) (F0 m 145 ls []) := by
                    intro r2
                    refine Nat.strongRecOn r2 ?_
                    intro r2 ih_145 k2 H locs ls hk2 hk3 hl2 hM hl
                    refine lv_aload_n hx hb dX8_next_145 rfl (lv_at hl 0 rfl) ?_
                    refine fg_X8_169 hC hM mq_F rfl dX8_next_146 ?_
                    refine me_evi (y := nI k2) rfl ?_
                    refine lv_aload_n hx hb dX8_next_149 rfl (lv_at hl 0 rfl) ?_
                    refine fg_X8_175 hC hM mq_F rfl dX8_next_150 ?_
                    refine me_evi (y := F 7) rfl ?_
                    refine lv_icmp_ge (tgt := 184) hx hb dX8_next_153 (by decide) (fun c_128 => ?_) (fun c_128 => ?_)
                    · have c_128 := (br_le hln rfl (by omega) (by omega)).mp c_128
                      have hl3 : lrP ip (len - k) k = k2 := by rw [hl2, show r2 = 0 by omega]; rfl
                      refine lv_aload_n hx hb dX8_next_184 rfl (lv_at hl 0 rfl) ?_
                      refine lv_iload_n hx hb dX8_next_185 rfl (lv_at hl 2 rfl) ?_
                      refine lv_if_eq (tgt := 193) hx hb dX8_next_186 (by decide) (fun c_129 => ?_) (fun c_129 => ?_)
                      · exact absurd c_129 (by decide)
                      · refine lv_iconst (v := 4) hx hb dX8_next_189 (by decide) ?_
                        refine lv_goto (tgt := 194) hx hb dX8_next_190 (by decide) ?_
                        refine fp_X8_166 hC hM mq_F (Nat.le_of_ble_eq_true rfl) (M2 := mq tb mo (pqF F (4, k, k2, qVa pq, qFl pq, qFa pq)) w av od sv sl nz ip ot M0) (mq_wF2 rfl) dX8_next_194 (fun H locs hM => ?_)
                        refine lv_goto (tgt := 358) hx hb dX8_next_197 (by decide) ?_
                        exact me_vret hC hr hlk hM (mq_ps (by unfold mxP; rw [hs2]; unfold mx1; rw [if_neg c_119, if_pos c_120, hl3, if_pos (⟨(Or.inr c_65), c_103⟩)])) (rfl) dX8_next_358
                    · have c_128 := (not_congr (br_le hln rfl (by omega) (by omega))).mp c_128
                      obtain ⟨r3, rfl⟩ : ∃ r3, r2 = r3 + 1 := ⟨r2 - 1, by omega⟩
                      refine lv_aload_n hx hb dX8_next_156 rfl (lv_at hl 0 rfl) ?_
                      refine fg_X8_31 hC hM mq_F rfl dX8_next_157 ?_
                      refine lv_aload_n hx hb dX8_next_160 rfl (lv_at hl 0 rfl) ?_
                      refine fg_X8_169 hC hM mq_F rfl dX8_next_161 ?_
                      refine me_evi (y := nI k2) rfl ?_
                      refine me_bald (k := k2) hC hM mq_ip rfl (by omega) (by first | decide | omega) dX8_next_164 ?_
                      refine me_callSi (As := [.int (ip k2)]) (rest := []) hC hl.1 hM (c_X8_isLetter l D tb X z0 n _ (ip k2) ) (ks_X8_178 hw rfl rfl ⟨Nat.le_of_ble_eq_true rfl, Nat.le_of_ble_eq_true rfl⟩) rfl rfl (Nat.le_of_ble_eq_true rfl) dX8_next_165 ⟨Nat.le_of_ble_eq_true rfl, Nat.le_of_ble_eq_true rfl⟩ (fun H locs hM => ?_)
                      refine lv_if_eq (tgt := 184) hx hb dX8_next_168 (by decide) (fun c_130 => ?_) (fun c_130 => ?_)
                      · have c_130 := b1_0.mp c_130
                        have hl3 : lrP ip (len - k) k = k2 := hl2.trans (lrP_f c_130)
                        refine lv_aload_n hx hb dX8_next_184 rfl (lv_at hl 0 rfl) ?_
                        refine lv_iload_n hx hb dX8_next_185 rfl (lv_at hl 2 rfl) ?_
                        refine lv_if_eq (tgt := 193) hx hb dX8_next_186 (by decide) (fun c_131 => ?_) (fun c_131 => ?_)
                        · exact absurd c_131 (by decide)
                        · refine lv_iconst (v := 4) hx hb dX8_next_189 (by decide) ?_
                          refine lv_goto (tgt := 194) hx hb dX8_next_190 (by decide) ?_
                          refine fp_X8_166 hC hM mq_F (Nat.le_of_ble_eq_true rfl) (M2 := mq tb mo (pqF F (4, k, k2, qVa pq, qFl pq, qFa pq)) w av od sv sl nz ip ot M0) (mq_wF2 rfl) dX8_next_194 (fun H locs hM => ?_)
                          refine lv_goto (tgt := 358) hx hb dX8_next_197 (by decide) ?_
                          exact me_vret hC hr hlk hM (mq_ps (by unfold mxP; rw [hs2]; unfold mx1; rw [if_neg c_119, if_pos c_120, hl3, if_pos (⟨(Or.inr c_65), c_103⟩)])) (rfl) dX8_next_358
                      · have c_130 := b1_n0.mp c_130
                        refine lv_aload_n hx hb dX8_next_171 rfl (lv_at hl 0 rfl) ?_
                        refine lv_dup hx hb dX8_next_172 rfl ?_
                        refine fg_X8_169 hC hM mq_F rfl dX8_next_173 ?_
                        refine me_evi (y := nI k2) rfl ?_
                        refine lv_iconst (v := 1) hx hb dX8_next_176 (by decide) ?_
                        refine lv_iadd hx hb dX8_next_177 ?_
                        refine me_evi (y := nI (k2 + 1)) (nx_add rfl (show (1 : Int32) = nI 1 from rfl)) ?_
                        refine fp_X8_169 hC hM mq_F (Nat.le_of_ble_eq_true rfl) (M2 := mq tb mo (pqF F (qKd pq, k, k2 + 1, qVa pq, qFl pq, qFa pq)) w av od sv sl nz ip ot M0) (mq_wF2 rfl) dX8_next_178 (fun H locs hM => ?_)
                        refine lv_goto (tgt := 145) hx hb dX8_next_181 (by decide) ?_
                        exact ih_145 r3 (by omega) (k2 + 1) _ _ _ (by omega) (by omega) (hl2.trans (lrP_t c_130)) hM (lv_sub hl [0, 1, 2] rfl)
                  exact lp_145 (len - k) k _ _ _ (by omega) (by omega) rfl hM (lv_sub hl [1, 2, 0] rfl)
              · have c_119 := (br_eq rfl hln (by omega) (by omega)).mp c_119
                refine lv_aload_n hx hb dX8_next_122 rfl (lv_at hl 1 rfl) ?_
                refine lv_iconst (v := 0) hx hb dX8_next_123 (by decide) ?_
                refine fp_X8_166 hC hM mq_F (Nat.le_of_ble_eq_true rfl) (M2 := mq tb mo (pqF F (0, k, k, qVa pq, qFl pq, qFa pq)) w av od sv sl nz ip ot M0) (mq_wF2 rfl) dX8_next_124 (fun H locs hM => ?_)
                refine lv_goto (tgt := 358) hx hb dX8_next_127 (by decide) ?_
                exact me_vret hC hr hlk hM (mq_ps (by unfold mxP; rw [hs2]; unfold mx1; rw [if_pos c_119])) (rfl) dX8_next_358
        · have c_101 := (not_congr (br_le hln rfl (by omega) (by omega))).mp c_101
          obtain ⟨r1, rfl⟩ : ∃ r1, r = r1 + 1 := ⟨r - 1, by omega⟩
          refine lv_aload_n hx hb dX8_next_41 rfl (lv_at hl 0 rfl) ?_
          refine fg_X8_31 hC hM mq_F rfl dX8_next_42 ?_
          refine lv_aload_n hx hb dX8_next_45 rfl (lv_at hl 0 rfl) ?_
          refine fg_X8_172 hC hM mq_F rfl dX8_next_46 ?_
          refine me_evi (y := nI k) rfl ?_
          refine me_bald (k := k) hC hM mq_ip rfl (by omega) (by first | decide | omega) dX8_next_49 ?_
          refine lv_bipush (v := 32) hx hb dX8_next_50 (by decide) ?_
          refine lv_icmp_eq (tgt := 69) hx hb dX8_next_52 (by decide) (fun c_132 => ?_) (fun c_132 => ?_)
          · refine lv_aload_n hx hb dX8_next_69 rfl (lv_at hl 0 rfl) ?_
            refine lv_dup hx hb dX8_next_70 rfl ?_
            refine fg_X8_172 hC hM mq_F rfl dX8_next_71 ?_
            refine me_evi (y := nI k) rfl ?_
            refine lv_iconst (v := 1) hx hb dX8_next_74 (by decide) ?_
            refine lv_iadd hx hb dX8_next_75 ?_
            refine me_evi (y := nI (k + 1)) (nx_add rfl (show (1 : Int32) = nI 1 from rfl)) ?_
            refine fp_X8_172 hC hM mq_F (Nat.le_of_ble_eq_true rfl) (M2 := mq tb mo (pqF F (qKd pq, k + 1, qTo pq, qVa pq, qFl pq, qFa pq)) w av od sv sl nz ip ot M0) (mq_wF2 rfl) dX8_next_76 (fun H locs hM => ?_)
            refine lv_goto (tgt := 30) hx hb dX8_next_79 (by decide) ?_
            exact ih_30 r1 (by omega) (k + 1) _ _ _ (by omega) (by omega) (hs.trans (skP_t (Or.inl c_132))) hM (lv_sub hl [0, 1] rfl)
          · refine lv_aload_n hx hb dX8_next_55 rfl (lv_at hl 0 rfl) ?_
            refine fg_X8_31 hC hM mq_F rfl dX8_next_56 ?_
            refine lv_aload_n hx hb dX8_next_59 rfl (lv_at hl 0 rfl) ?_
            refine fg_X8_172 hC hM mq_F rfl dX8_next_60 ?_
            refine me_evi (y := nI k) rfl ?_
            refine me_bald (k := k) hC hM mq_ip rfl (by omega) (by first | decide | omega) dX8_next_63 ?_
            refine lv_bipush (v := 10) hx hb dX8_next_64 (by decide) ?_
            refine lv_icmp_ne (tgt := 82) hx hb dX8_next_66 (by decide) (fun c_133 => ?_) (fun c_133 => ?_)
            · have hs2 : skP ip (len - qTo pq) (qTo pq) = k := hs.trans (skP_f (fun z => z.elim c_132 c_133))
              refine lv_iload_n hx hb dX8_next_82 rfl (lv_at hl 1 rfl) ?_
              refine lv_if_eq (tgt := 101) hx hb dX8_next_83 (by decide) (fun c_134 => ?_) (fun c_134 => ?_)
              · exact absurd c_134 (by decide)
              · refine lv_aload_n hx hb dX8_next_86 rfl (lv_at hl 0 rfl) ?_
                refine fg_X8_172 hC hM mq_F rfl dX8_next_87 ?_
                refine me_evi (y := nI k) rfl ?_
                refine lv_aload_n hx hb dX8_next_90 rfl (lv_at hl 0 rfl) ?_
                refine fg_X8_169 hC hM mq_F rfl dX8_next_91 ?_
                refine me_evi (y := nI (qTo pq)) rfl ?_
                refine lv_icmp_ne (tgt := 101) hx hb dX8_next_94 (by decide) (fun c_135 => ?_) (fun c_135 => ?_)
                · have c_135 := (not_congr (br_eq rfl rfl (by omega) (by omega))).mp c_135
                  refine lv_iconst (v := 0) hx hb dX8_next_101 (by decide) ?_
                  refine lv_istore_n (lv' := [(2, .int 0), (0, .ref mo), (1, .int 1)]) hx hb dX8_next_102 rfl hl (by decide) rfl (fun ls hl => ?_)
                  refine lv_aload_n hx hb dX8_next_103 rfl (lv_at hl 1 rfl) ?_
                  refine lv_aload_n hx hb dX8_next_104 rfl (lv_at hl 1 rfl) ?_
                  refine fg_X8_172 hC hM mq_F rfl dX8_next_105 ?_
                  refine me_evi (y := nI k) rfl ?_
                  refine fp_X8_169 hC hM mq_F (Nat.le_of_ble_eq_true rfl) (M2 := mq tb mo (pqF F (qKd pq, k, k, qVa pq, qFl pq, qFa pq)) w av od sv sl nz ip ot M0) (mq_wF2 rfl) dX8_next_108 (fun H locs hM => ?_)
                  refine lv_aload_n hx hb dX8_next_111 rfl (lv_at hl 1 rfl) ?_
                  refine fg_X8_172 hC hM mq_F rfl dX8_next_112 ?_
                  refine me_evi (y := nI k) rfl ?_
                  refine lv_aload_n hx hb dX8_next_115 rfl (lv_at hl 1 rfl) ?_
                  refine fg_X8_175 hC hM mq_F rfl dX8_next_116 ?_
                  refine me_evi (y := F 7) rfl ?_
                  refine lv_icmp_ne (tgt := 130) hx hb dX8_next_119 (by decide) (fun c_136 => ?_) (fun c_136 => ?_)
                  · have c_136 := (not_congr (br_eq rfl hln (by omega) (by omega))).mp c_136
                    refine lv_aload_n hx hb dX8_next_130 rfl (lv_at hl 1 rfl) ?_
                    refine fg_X8_31 hC hM mq_F rfl dX8_next_131 ?_
                    refine lv_aload_n hx hb dX8_next_134 rfl (lv_at hl 1 rfl) ?_
                    refine fg_X8_172 hC hM mq_F rfl dX8_next_135 ?_
                    refine me_evi (y := nI k) rfl ?_
                    refine me_bald (k := k) hC hM mq_ip rfl (by omega) (by first | decide | omega) dX8_next_138 ?_
                    refine me_callSi (As := [.int (ip k)]) (rest := []) hC hl.1 hM (c_X8_isLetter l D tb X z0 n _ (ip k) ) (ks_X8_178 hw rfl rfl ⟨Nat.le_of_ble_eq_true rfl, Nat.le_of_ble_eq_true rfl⟩) rfl rfl (Nat.le_of_ble_eq_true rfl) dX8_next_139 ⟨Nat.le_of_ble_eq_true rfl, Nat.le_of_ble_eq_true rfl⟩ (fun H locs hM => ?_)
                    refine lv_if_eq (tgt := 200) hx hb dX8_next_142 (by decide) (fun c_137 => ?_) (fun c_137 => ?_)
                    · have c_137 := b1_0.mp c_137
                      refine lv_aload_n hx hb dX8_next_200 rfl (lv_at hl 1 rfl) ?_
                      refine fg_X8_31 hC hM mq_F rfl dX8_next_201 ?_
                      refine lv_aload_n hx hb dX8_next_204 rfl (lv_at hl 1 rfl) ?_
                      refine fg_X8_172 hC hM mq_F rfl dX8_next_205 ?_
                      refine me_evi (y := nI k) rfl ?_
                      refine me_bald (k := k) hC hM mq_ip rfl (by omega) (by first | decide | omega) dX8_next_208 ?_
                      refine me_callSi (As := [.int (ip k)]) (rest := []) hC hl.1 hM (c_X8_isDigit l D tb X z0 n _ (ip k) ) (ks_X8_181 hw rfl rfl ⟨Nat.le_of_ble_eq_true rfl, Nat.le_of_ble_eq_true rfl⟩) rfl rfl (Nat.le_of_ble_eq_true rfl) dX8_next_209 ⟨Nat.le_of_ble_eq_true rfl, Nat.le_of_ble_eq_true rfl⟩ (fun H locs hM => ?_)
                      refine lv_if_eq (tgt := 325) hx hb dX8_next_212 (by decide) (fun c_138 => ?_) (fun c_138 => ?_)
                      · have c_138 := b1_0.mp c_138
                        refine lv_aload_n hx hb dX8_next_325 rfl (lv_at hl 1 rfl) ?_
                        refine lv_aload_n hx hb dX8_next_326 rfl (lv_at hl 1 rfl) ?_
                        refine fg_X8_172 hC hM mq_F rfl dX8_next_327 ?_
                        refine me_evi (y := nI k) rfl ?_
                        refine lv_iconst (v := 1) hx hb dX8_next_330 (by decide) ?_
                        refine lv_iadd hx hb dX8_next_331 ?_
                        refine me_evi (y := nI (k + 1)) (nx_add rfl (show (1 : Int32) = nI 1 from rfl)) ?_
                        refine fp_X8_169 hC hM mq_F (Nat.le_of_ble_eq_true rfl) (M2 := mq tb mo (pqF F (qKd pq, k, k + 1, qVa pq, qFl pq, qFa pq)) w av od sv sl nz ip ot M0) (mq_wF2 rfl) dX8_next_332 (fun H locs hM => ?_)
                        refine lv_aload_n hx hb dX8_next_335 rfl (lv_at hl 1 rfl) ?_
                        refine lv_aload_n hx hb dX8_next_336 rfl (lv_at hl 1 rfl) ?_
                        refine fg_X8_31 hC hM mq_F rfl dX8_next_337 ?_
                        refine lv_aload_n hx hb dX8_next_340 rfl (lv_at hl 1 rfl) ?_
                        refine fg_X8_172 hC hM mq_F rfl dX8_next_341 ?_
                        refine me_evi (y := nI k) rfl ?_
                        refine me_bald (k := k) hC hM mq_ip rfl (by omega) (by first | decide | omega) dX8_next_344 ?_
                        refine lv_bipush (v := 59) hx hb dX8_next_345 (by decide) ?_
                        refine lv_icmp_ne (tgt := 354) hx hb dX8_next_347 (by decide) (fun c_139 => ?_) (fun c_139 => ?_)
                        · refine lv_iconst (v := 4) hx hb dX8_next_354 (by decide) ?_
                          refine fp_X8_166 hC hM mq_F (Nat.le_of_ble_eq_true rfl) (M2 := mq tb mo (pqF F (4, k, k + 1, qVa pq, qFl pq, qFa pq)) w av od sv sl nz ip ot M0) (mq_wF2 rfl) dX8_next_355 (fun H locs hM => ?_)
                          exact me_vret hC hr hlk hM (mq_ps (by unfold mxP; rw [hs2]; unfold mx1; rw [if_neg c_136, if_neg c_137, if_neg c_138, if_neg c_139])) (rfl) dX8_next_358
                        · refine lv_iconst (v := 3) hx hb dX8_next_350 (by decide) ?_
                          refine lv_goto (tgt := 355) hx hb dX8_next_351 (by decide) ?_
                          refine fp_X8_166 hC hM mq_F (Nat.le_of_ble_eq_true rfl) (M2 := mq tb mo (pqF F (3, k, k + 1, qVa pq, qFl pq, qFa pq)) w av od sv sl nz ip ot M0) (mq_wF2 rfl) dX8_next_355 (fun H locs hM => ?_)
                          exact me_vret hC hr hlk hM (mq_ps (by unfold mxP; rw [hs2]; unfold mx1; rw [if_neg c_136, if_neg c_137, if_neg c_138, if_pos c_139])) (rfl) dX8_next_358
                      · have c_138 := b1_n0.mp c_138
                        refine lv_aload_n hx hb dX8_next_215 rfl (lv_at hl 1 rfl) ?_
                        refine lv_iconst (v := 0) hx hb dX8_next_216 (by decide) ?_
                        refine fp_X8_184 hC hM mq_F (Nat.le_of_ble_eq_true rfl) (M2 := mq tb mo (pqF F (qKd pq, k, k, 0, qFl pq, qFa pq)) w av od sv sl nz ip ot M0) (mq_wF2 rfl) dX8_next_217 (fun H locs hM => ?_)
                        have lp_220 : ∀ (r2 : Nat) (k2 : Nat) (v : Int32) (H : Heap) (locs : List Loc) (ls : Array Slot), (k2 + r2 = len) → (k ≤ k2) → (drP ip (len - k) k = drP ip r2 k2) → (dvP ip k (len - k) k 0 = dvP ip k r2 k2 v) → me_at D z0 (mq tb mo (pqF F (qKd pq, k, k2, v, qFl pq, qFa pq)) w av od sv sl nz ip ot M0) n s H locs → lv_has ls 3 [(0, .ref mo), (1, .int 1), (2, .int 0)] → W p l e (({ frames := 1, cells := 0, slots := 0, locals := 20 } : Room)) s m args below meth c H locs 0 0 (MQ below (me_Qv D z0 (mq tb mo (pqF F (mxP ip len pq)) w av od sv sl nz ip ot M0) n) args s 0 0 (me_A z0)) (F0 m 220 ls []) := by
                          intro r2
                          refine Nat.strongRecOn r2 ?_
                          intro r2 ih_220 k2 v H locs ls hk2 hk3 hd2 hv2 hM hl
                          refine lv_aload_n hx hb dX8_next_220 rfl (lv_at hl 0 rfl) ?_
                          refine fg_X8_169 hC hM mq_F rfl dX8_next_221 ?_
                          refine me_evi (y := nI k2) rfl ?_
                          refine lv_aload_n hx hb dX8_next_224 rfl (lv_at hl 0 rfl) ?_
                          refine fg_X8_175 hC hM mq_F rfl dX8_next_225 ?_
                          refine me_evi (y := F 7) rfl ?_
                          refine lv_icmp_ge (tgt := 296) hx hb dX8_next_228 (by decide) (fun c_140 => ?_) (fun c_140 => ?_)
                          · have c_140 := (br_le hln rfl (by omega) (by omega)).mp c_140
                            have hd3 : drP ip (len - k) k = k2 := by rw [hd2, show r2 = 0 by omega]; rfl
                            have hv3 : dvP ip k (len - k) k 0 = v := by rw [hv2, show r2 = 0 by omega]; rfl
                            refine lv_aload_n hx hb dX8_next_296 rfl (lv_at hl 0 rfl) ?_
                            refine lv_iload_n hx hb dX8_next_297 rfl (lv_at hl 2 rfl) ?_
                            refine lv_if_ne (tgt := 314) hx hb dX8_next_298 (by decide) (fun c_141 => ?_) (fun c_141 => ?_)
                            · exact absurd c_141 (by decide)
                            · refine lv_aload_n hx hb dX8_next_301 rfl (lv_at hl 0 rfl) ?_
                              refine fg_X8_169 hC hM mq_F rfl dX8_next_302 ?_
                              refine me_evi (y := nI k2) rfl ?_
                              refine lv_aload_n hx hb dX8_next_305 rfl (lv_at hl 0 rfl) ?_
                              refine fg_X8_172 hC hM mq_F rfl dX8_next_306 ?_
                              refine me_evi (y := nI k) rfl ?_
                              refine lv_isub hx hb dX8_next_309 ?_
                              refine lv_iconst (v := 4) hx hb dX8_next_310 (by decide) ?_
                              refine lv_icmp_le (tgt := 318) hx hb dX8_next_311 (by decide) (fun c_142 => ?_) (fun c_142 => ?_)
                              · have c_142 := (br_le (nx_sub rfl rfl (by omega)) (nx_c 4) (by omega) (by omega)).mp c_142
                                refine lv_iconst (v := 2) hx hb dX8_next_318 (by decide) ?_
                                refine fp_X8_166 hC hM mq_F (Nat.le_of_ble_eq_true rfl) (M2 := mq tb mo (pqF F (2, k, k2, v, qFl pq, qFa pq)) w av od sv sl nz ip ot M0) (mq_wF2 rfl) dX8_next_319 (fun H locs hM => ?_)
                                refine lv_goto (tgt := 358) hx hb dX8_next_322 (by decide) ?_
                                exact me_vret hC hr hlk hM (mq_ps (by unfold mxP; rw [hs2]; unfold mx1; rw [if_neg c_136, if_neg c_137, if_pos c_138, hd3, hv3, if_neg (fun z => z.elim (fun z => c_135 z.2) (fun z => absurd z (by omega)))])) (rfl) dX8_next_358
                              · have c_142 := (not_congr (br_le (nx_sub rfl rfl (by omega)) (nx_c 4) (by omega) (by omega))).mp c_142
                                refine lv_iconst (v := 4) hx hb dX8_next_314 (by decide) ?_
                                refine lv_goto (tgt := 319) hx hb dX8_next_315 (by decide) ?_
                                refine fp_X8_166 hC hM mq_F (Nat.le_of_ble_eq_true rfl) (M2 := mq tb mo (pqF F (4, k, k2, v, qFl pq, qFa pq)) w av od sv sl nz ip ot M0) (mq_wF2 rfl) dX8_next_319 (fun H locs hM => ?_)
                                refine lv_goto (tgt := 358) hx hb dX8_next_322 (by decide) ?_
                                exact me_vret hC hr hlk hM (mq_ps (by unfold mxP; rw [hs2]; unfold mx1; rw [if_neg c_136, if_neg c_137, if_pos c_138, hd3, hv3, if_pos (Or.inr (by omega))])) (rfl) dX8_next_358
                          · have c_140 := (not_congr (br_le hln rfl (by omega) (by omega))).mp c_140
                            obtain ⟨r3, rfl⟩ : ∃ r3, r2 = r3 + 1 := ⟨r2 - 1, by omega⟩
                            refine lv_aload_n hx hb dX8_next_231 rfl (lv_at hl 0 rfl) ?_
                            refine fg_X8_31 hC hM mq_F rfl dX8_next_232 ?_
                            refine lv_aload_n hx hb dX8_next_235 rfl (lv_at hl 0 rfl) ?_
                            refine fg_X8_169 hC hM mq_F rfl dX8_next_236 ?_
                            refine me_evi (y := nI k2) rfl ?_
                            refine me_bald (k := k2) hC hM mq_ip rfl (by omega) (by first | decide | omega) dX8_next_239 ?_
                            refine me_callSi (As := [.int (ip k2)]) (rest := []) hC hl.1 hM (c_X8_isDigit l D tb X z0 n _ (ip k2) ) (ks_X8_181 hw rfl rfl ⟨Nat.le_of_ble_eq_true rfl, Nat.le_of_ble_eq_true rfl⟩) rfl rfl (Nat.le_of_ble_eq_true rfl) dX8_next_240 ⟨Nat.le_of_ble_eq_true rfl, Nat.le_of_ble_eq_true rfl⟩ (fun H locs hM => ?_)
                            refine lv_if_eq (tgt := 296) hx hb dX8_next_243 (by decide) (fun c_143 => ?_) (fun c_143 => ?_)
                            · have c_143 := b1_0.mp c_143
                              have hd3 : drP ip (len - k) k = k2 := hd2.trans (drP_f c_143)
                              have hv3 : dvP ip k (len - k) k 0 = v := hv2.trans (dvP_f c_143)
                              refine lv_aload_n hx hb dX8_next_296 rfl (lv_at hl 0 rfl) ?_
                              refine lv_iload_n hx hb dX8_next_297 rfl (lv_at hl 2 rfl) ?_
                              refine lv_if_ne (tgt := 314) hx hb dX8_next_298 (by decide) (fun c_144 => ?_) (fun c_144 => ?_)
                              · exact absurd c_144 (by decide)
                              · refine lv_aload_n hx hb dX8_next_301 rfl (lv_at hl 0 rfl) ?_
                                refine fg_X8_169 hC hM mq_F rfl dX8_next_302 ?_
                                refine me_evi (y := nI k2) rfl ?_
                                refine lv_aload_n hx hb dX8_next_305 rfl (lv_at hl 0 rfl) ?_
                                refine fg_X8_172 hC hM mq_F rfl dX8_next_306 ?_
                                refine me_evi (y := nI k) rfl ?_
                                refine lv_isub hx hb dX8_next_309 ?_
                                refine lv_iconst (v := 4) hx hb dX8_next_310 (by decide) ?_
                                refine lv_icmp_le (tgt := 318) hx hb dX8_next_311 (by decide) (fun c_145 => ?_) (fun c_145 => ?_)
                                · have c_145 := (br_le (nx_sub rfl rfl (by omega)) (nx_c 4) (by omega) (by omega)).mp c_145
                                  refine lv_iconst (v := 2) hx hb dX8_next_318 (by decide) ?_
                                  refine fp_X8_166 hC hM mq_F (Nat.le_of_ble_eq_true rfl) (M2 := mq tb mo (pqF F (2, k, k2, v, qFl pq, qFa pq)) w av od sv sl nz ip ot M0) (mq_wF2 rfl) dX8_next_319 (fun H locs hM => ?_)
                                  refine lv_goto (tgt := 358) hx hb dX8_next_322 (by decide) ?_
                                  exact me_vret hC hr hlk hM (mq_ps (by unfold mxP; rw [hs2]; unfold mx1; rw [if_neg c_136, if_neg c_137, if_pos c_138, hd3, hv3, if_neg (fun z => z.elim (fun z => c_135 z.2) (fun z => absurd z (by omega)))])) (rfl) dX8_next_358
                                · have c_145 := (not_congr (br_le (nx_sub rfl rfl (by omega)) (nx_c 4) (by omega) (by omega))).mp c_145
                                  refine lv_iconst (v := 4) hx hb dX8_next_314 (by decide) ?_
                                  refine lv_goto (tgt := 319) hx hb dX8_next_315 (by decide) ?_
                                  refine fp_X8_166 hC hM mq_F (Nat.le_of_ble_eq_true rfl) (M2 := mq tb mo (pqF F (4, k, k2, v, qFl pq, qFa pq)) w av od sv sl nz ip ot M0) (mq_wF2 rfl) dX8_next_319 (fun H locs hM => ?_)
                                  refine lv_goto (tgt := 358) hx hb dX8_next_322 (by decide) ?_
                                  exact me_vret hC hr hlk hM (mq_ps (by unfold mxP; rw [hs2]; unfold mx1; rw [if_neg c_136, if_neg c_137, if_pos c_138, hd3, hv3, if_pos (Or.inr (by omega))])) (rfl) dX8_next_358
                            · have c_143 := b1_n0.mp c_143
                              refine lv_aload_n hx hb dX8_next_246 rfl (lv_at hl 0 rfl) ?_
                              refine fg_X8_169 hC hM mq_F rfl dX8_next_247 ?_
                              refine me_evi (y := nI k2) rfl ?_
                              refine lv_aload_n hx hb dX8_next_250 rfl (lv_at hl 0 rfl) ?_
                              refine fg_X8_172 hC hM mq_F rfl dX8_next_251 ?_
                              refine me_evi (y := nI k) rfl ?_
                              refine lv_isub hx hb dX8_next_254 ?_
                              refine lv_iconst (v := 4) hx hb dX8_next_255 (by decide) ?_
                              refine lv_icmp_ge (tgt := 283) hx hb dX8_next_256 (by decide) (fun c_146 => ?_) (fun c_146 => ?_)
                              · have c_146 := (br_le (nx_c 4) (nx_sub rfl rfl (by omega)) (by omega) (by omega)).mp c_146
                                refine lv_aload_n hx hb dX8_next_283 rfl (lv_at hl 0 rfl) ?_
                                refine lv_dup hx hb dX8_next_284 rfl ?_
                                refine fg_X8_169 hC hM mq_F rfl dX8_next_285 ?_
                                refine me_evi (y := nI k2) rfl ?_
                                refine lv_iconst (v := 1) hx hb dX8_next_288 (by decide) ?_
                                refine lv_iadd hx hb dX8_next_289 ?_
                                refine me_evi (y := nI (k2 + 1)) (nx_add rfl (show (1 : Int32) = nI 1 from rfl)) ?_
                                refine fp_X8_169 hC hM mq_F (Nat.le_of_ble_eq_true rfl) (M2 := mq tb mo (pqF F (qKd pq, k, k2 + 1, v, qFl pq, qFa pq)) w av od sv sl nz ip ot M0) (mq_wF2 rfl) dX8_next_290 (fun H locs hM => ?_)
                                refine lv_goto (tgt := 220) hx hb dX8_next_293 (by decide) ?_
                                exact ih_220 r3 (by omega) (k2 + 1) v _ _ _ (by omega) (by omega) (hd2.trans (drP_t c_143)) (hv2.trans (dvP_b c_143 (by omega))) hM (lv_sub hl [0, 1, 2] rfl)
                              · have c_146 := (not_congr (br_le (nx_c 4) (nx_sub rfl rfl (by omega)) (by omega) (by omega))).mp c_146
                                refine lv_aload_n hx hb dX8_next_259 rfl (lv_at hl 0 rfl) ?_
                                refine lv_bipush (v := 10) hx hb dX8_next_260 (by decide) ?_
                                refine lv_aload_n hx hb dX8_next_262 rfl (lv_at hl 0 rfl) ?_
                                refine fg_X8_184 hC hM mq_F rfl dX8_next_263 ?_
                                refine me_evi (y := v) rfl ?_
                                refine lv_imul hx hb dX8_next_266 ?_
                                refine lv_aload_n hx hb dX8_next_267 rfl (lv_at hl 0 rfl) ?_
                                refine fg_X8_31 hC hM mq_F rfl dX8_next_268 ?_
                                refine lv_aload_n hx hb dX8_next_271 rfl (lv_at hl 0 rfl) ?_
                                refine fg_X8_169 hC hM mq_F rfl dX8_next_272 ?_
                                refine me_evi (y := nI k2) rfl ?_
                                refine me_bald (k := k2) hC hM mq_ip rfl (by omega) (by first | decide | omega) dX8_next_275 ?_
                                refine lv_iadd hx hb dX8_next_276 ?_
                                refine lv_bipush (v := 48) hx hb dX8_next_277 (by decide) ?_
                                refine lv_isub hx hb dX8_next_279 ?_
                                refine fp_X8_184 hC hM mq_F (Nat.le_of_ble_eq_true rfl) (M2 := mq tb mo (pqF F (qKd pq, k, k2, ((10 * v) + (ip k2)) - 48, qFl pq, qFa pq)) w av od sv sl nz ip ot M0) (mq_wF2 rfl) dX8_next_280 (fun H locs hM => ?_)
                                refine lv_aload_n hx hb dX8_next_283 rfl (lv_at hl 0 rfl) ?_
                                refine lv_dup hx hb dX8_next_284 rfl ?_
                                refine fg_X8_169 hC hM mq_F rfl dX8_next_285 ?_
                                refine me_evi (y := nI k2) rfl ?_
                                refine lv_iconst (v := 1) hx hb dX8_next_288 (by decide) ?_
                                refine lv_iadd hx hb dX8_next_289 ?_
                                refine me_evi (y := nI (k2 + 1)) (nx_add rfl (show (1 : Int32) = nI 1 from rfl)) ?_
                                refine fp_X8_169 hC hM mq_F (Nat.le_of_ble_eq_true rfl) (M2 := mq tb mo (pqF F (qKd pq, k, k2 + 1, ((10 * v) + (ip k2)) - 48, qFl pq, qFa pq)) w av od sv sl nz ip ot M0) (mq_wF2 rfl) dX8_next_290 (fun H locs hM => ?_)
                                refine lv_goto (tgt := 220) hx hb dX8_next_293 (by decide) ?_
                                exact ih_220 r3 (by omega) (k2 + 1) (10 * v + ip k2 - 48) _ _ _ (by omega) (by omega) (hd2.trans (drP_t c_143)) (hv2.trans (dvP_a c_143 (by omega))) hM (lv_sub hl [0, 1, 2] rfl)
                        exact lp_220 (len - k) k 0 _ _ _ (by omega) (by omega) rfl rfl hM (lv_sub hl [1, 2, 0] rfl)
                    · have c_137 := b1_n0.mp c_137
                      have lp_145 : ∀ (r2 : Nat) (k2 : Nat) (H : Heap) (locs : List Loc) (ls : Array Slot), (k2 + r2 = len) → (k ≤ k2) → (lrP ip (len - k) k = lrP ip r2 k2) → me_at D z0 (mq tb mo (pqF F (qKd pq, k, k2, qVa pq, qFl pq, qFa pq)) w av od sv sl nz ip ot M0) n s H locs → lv_has ls 3 [(0, .ref mo), (1, .int 1), (2, .int 0)] → W p l e (({ frames := 1, cells := 0, slots := 0, locals := 20 } : Room)) s m args below meth c H locs 0 0 (MQ below (me_Qv D z0 (mq tb mo (pqF F (mxP ip len pq)) w av od sv sl nz ip ot M0) n) args s 0 0 (me_A z0)) (F0 m 145 ls []) := by
                        intro r2
                        refine Nat.strongRecOn r2 ?_
                        intro r2 ih_145 k2 H locs ls hk2 hk3 hl2 hM hl
                        refine lv_aload_n hx hb dX8_next_145 rfl (lv_at hl 0 rfl) ?_
                        refine fg_X8_169 hC hM mq_F rfl dX8_next_146 ?_
                        refine me_evi (y := nI k2) rfl ?_
                        refine lv_aload_n hx hb dX8_next_149 rfl (lv_at hl 0 rfl) ?_
                        refine fg_X8_175 hC hM mq_F rfl dX8_next_150 ?_
                        refine me_evi (y := F 7) rfl ?_
                        refine lv_icmp_ge (tgt := 184) hx hb dX8_next_153 (by decide) (fun c_147 => ?_) (fun c_147 => ?_)
                        · have c_147 := (br_le hln rfl (by omega) (by omega)).mp c_147
                          have hl3 : lrP ip (len - k) k = k2 := by rw [hl2, show r2 = 0 by omega]; rfl
                          refine lv_aload_n hx hb dX8_next_184 rfl (lv_at hl 0 rfl) ?_
                          refine lv_iload_n hx hb dX8_next_185 rfl (lv_at hl 2 rfl) ?_
                          refine lv_if_eq (tgt := 193) hx hb dX8_next_186 (by decide) (fun c_148 => ?_) (fun c_148 => ?_)
                          · refine lv_iconst (v := 1) hx hb dX8_next_193 (by decide) ?_
                            refine fp_X8_166 hC hM mq_F (Nat.le_of_ble_eq_true rfl) (M2 := mq tb mo (pqF F (1, k, k2, qVa pq, qFl pq, qFa pq)) w av od sv sl nz ip ot M0) (mq_wF2 rfl) dX8_next_194 (fun H locs hM => ?_)
                            refine lv_goto (tgt := 358) hx hb dX8_next_197 (by decide) ?_
                            exact me_vret hC hr hlk hM (mq_ps (by unfold mxP; rw [hs2]; unfold mx1; rw [if_neg c_136, if_pos c_137, hl3, if_neg (fun z => c_135 z.2)])) (rfl) dX8_next_358
                          · exact absurd c_148 (by decide)
                        · have c_147 := (not_congr (br_le hln rfl (by omega) (by omega))).mp c_147
                          obtain ⟨r3, rfl⟩ : ∃ r3, r2 = r3 + 1 := ⟨r2 - 1, by omega⟩
                          refine lv_aload_n hx hb dX8_next_156 rfl (lv_at hl 0 rfl) ?_
                          refine fg_X8_31 hC hM mq_F rfl dX8_next_157 ?_
                          refine lv_aload_n hx hb dX8_next_160 rfl (lv_at hl 0 rfl) ?_
                          refine fg_X8_169 hC hM mq_F rfl dX8_next_161 ?_
                          refine me_evi (y := nI k2) rfl ?_
                          refine me_bald (k := k2) hC hM mq_ip rfl (by omega) (by first | decide | omega) dX8_next_164 ?_
                          refine me_callSi (As := [.int (ip k2)]) (rest := []) hC hl.1 hM (c_X8_isLetter l D tb X z0 n _ (ip k2) ) (ks_X8_178 hw rfl rfl ⟨Nat.le_of_ble_eq_true rfl, Nat.le_of_ble_eq_true rfl⟩) rfl rfl (Nat.le_of_ble_eq_true rfl) dX8_next_165 ⟨Nat.le_of_ble_eq_true rfl, Nat.le_of_ble_eq_true rfl⟩ (fun H locs hM => ?_)
                          refine lv_if_eq (tgt := 184) hx hb dX8_next_168 (by decide) (fun c_149 => ?_) (fun c_149 => ?_)
                          · have c_149 := b1_0.mp c_149
                            have hl3 : lrP ip (len - k) k = k2 := hl2.trans (lrP_f c_149)
                            refine lv_aload_n hx hb dX8_next_184 rfl (lv_at hl 0 rfl) ?_
                            refine lv_iload_n hx hb dX8_next_185 rfl (lv_at hl 2 rfl) ?_
                            refine lv_if_eq (tgt := 193) hx hb dX8_next_186 (by decide) (fun c_150 => ?_) (fun c_150 => ?_)
                            · refine lv_iconst (v := 1) hx hb dX8_next_193 (by decide) ?_
                              refine fp_X8_166 hC hM mq_F (Nat.le_of_ble_eq_true rfl) (M2 := mq tb mo (pqF F (1, k, k2, qVa pq, qFl pq, qFa pq)) w av od sv sl nz ip ot M0) (mq_wF2 rfl) dX8_next_194 (fun H locs hM => ?_)
                              refine lv_goto (tgt := 358) hx hb dX8_next_197 (by decide) ?_
                              exact me_vret hC hr hlk hM (mq_ps (by unfold mxP; rw [hs2]; unfold mx1; rw [if_neg c_136, if_pos c_137, hl3, if_neg (fun z => c_135 z.2)])) (rfl) dX8_next_358
                            · exact absurd c_150 (by decide)
                          · have c_149 := b1_n0.mp c_149
                            refine lv_aload_n hx hb dX8_next_171 rfl (lv_at hl 0 rfl) ?_
                            refine lv_dup hx hb dX8_next_172 rfl ?_
                            refine fg_X8_169 hC hM mq_F rfl dX8_next_173 ?_
                            refine me_evi (y := nI k2) rfl ?_
                            refine lv_iconst (v := 1) hx hb dX8_next_176 (by decide) ?_
                            refine lv_iadd hx hb dX8_next_177 ?_
                            refine me_evi (y := nI (k2 + 1)) (nx_add rfl (show (1 : Int32) = nI 1 from rfl)) ?_
                            refine fp_X8_169 hC hM mq_F (Nat.le_of_ble_eq_true rfl) (M2 := mq tb mo (pqF F (qKd pq, k, k2 + 1, qVa pq, qFl pq, qFa pq)) w av od sv sl nz ip ot M0) (mq_wF2 rfl) dX8_next_178 (fun H locs hM => ?_)
                            refine lv_goto (tgt := 145) hx hb dX8_next_181 (by decide) ?_
                            exact ih_145 r3 (by omega) (k2 + 1) _ _ _ (by omega) (by omega) (hl2.trans (lrP_t c_149)) hM (lv_sub hl [0, 1, 2] rfl)
                      exact lp_145 (len - k) k _ _ _ (by omega) (by omega) rfl hM (lv_sub hl [1, 2, 0] rfl)
                  · have c_136 := (br_eq rfl hln (by omega) (by omega)).mp c_136
                    refine lv_aload_n hx hb dX8_next_122 rfl (lv_at hl 1 rfl) ?_
                    refine lv_iconst (v := 0) hx hb dX8_next_123 (by decide) ?_
                    refine fp_X8_166 hC hM mq_F (Nat.le_of_ble_eq_true rfl) (M2 := mq tb mo (pqF F (0, k, k, qVa pq, qFl pq, qFa pq)) w av od sv sl nz ip ot M0) (mq_wF2 rfl) dX8_next_124 (fun H locs hM => ?_)
                    refine lv_goto (tgt := 358) hx hb dX8_next_127 (by decide) ?_
                    exact me_vret hC hr hlk hM (mq_ps (by unfold mxP; rw [hs2]; unfold mx1; rw [if_pos c_136])) (rfl) dX8_next_358
                · have c_135 := (br_eq rfl rfl (by omega) (by omega)).mp c_135
                  refine lv_iconst (v := 1) hx hb dX8_next_97 (by decide) ?_
                  refine lv_goto (tgt := 102) hx hb dX8_next_98 (by decide) ?_
                  refine lv_istore_n (lv' := [(2, .int 1), (0, .ref mo), (1, .int 1)]) hx hb dX8_next_102 rfl hl (by decide) rfl (fun ls hl => ?_)
                  refine lv_aload_n hx hb dX8_next_103 rfl (lv_at hl 1 rfl) ?_
                  refine lv_aload_n hx hb dX8_next_104 rfl (lv_at hl 1 rfl) ?_
                  refine fg_X8_172 hC hM mq_F rfl dX8_next_105 ?_
                  refine me_evi (y := nI k) rfl ?_
                  refine fp_X8_169 hC hM mq_F (Nat.le_of_ble_eq_true rfl) (M2 := mq tb mo (pqF F (qKd pq, k, k, qVa pq, qFl pq, qFa pq)) w av od sv sl nz ip ot M0) (mq_wF2 rfl) dX8_next_108 (fun H locs hM => ?_)
                  refine lv_aload_n hx hb dX8_next_111 rfl (lv_at hl 1 rfl) ?_
                  refine fg_X8_172 hC hM mq_F rfl dX8_next_112 ?_
                  refine me_evi (y := nI k) rfl ?_
                  refine lv_aload_n hx hb dX8_next_115 rfl (lv_at hl 1 rfl) ?_
                  refine fg_X8_175 hC hM mq_F rfl dX8_next_116 ?_
                  refine me_evi (y := F 7) rfl ?_
                  refine lv_icmp_ne (tgt := 130) hx hb dX8_next_119 (by decide) (fun c_151 => ?_) (fun c_151 => ?_)
                  · have c_151 := (not_congr (br_eq rfl hln (by omega) (by omega))).mp c_151
                    refine lv_aload_n hx hb dX8_next_130 rfl (lv_at hl 1 rfl) ?_
                    refine fg_X8_31 hC hM mq_F rfl dX8_next_131 ?_
                    refine lv_aload_n hx hb dX8_next_134 rfl (lv_at hl 1 rfl) ?_
                    refine fg_X8_172 hC hM mq_F rfl dX8_next_135 ?_
                    refine me_evi (y := nI k) rfl ?_
                    refine me_bald (k := k) hC hM mq_ip rfl (by omega) (by first | decide | omega) dX8_next_138 ?_
                    refine me_callSi (As := [.int (ip k)]) (rest := []) hC hl.1 hM (c_X8_isLetter l D tb X z0 n _ (ip k) ) (ks_X8_178 hw rfl rfl ⟨Nat.le_of_ble_eq_true rfl, Nat.le_of_ble_eq_true rfl⟩) rfl rfl (Nat.le_of_ble_eq_true rfl) dX8_next_139 ⟨Nat.le_of_ble_eq_true rfl, Nat.le_of_ble_eq_true rfl⟩ (fun H locs hM => ?_)
                    refine lv_if_eq (tgt := 200) hx hb dX8_next_142 (by decide) (fun c_152 => ?_) (fun c_152 => ?_)
                    · have c_152 := b1_0.mp c_152
                      refine lv_aload_n hx hb dX8_next_200 rfl (lv_at hl 1 rfl) ?_
                      refine fg_X8_31 hC hM mq_F rfl dX8_next_201 ?_
                      refine lv_aload_n hx hb dX8_next_204 rfl (lv_at hl 1 rfl) ?_
                      refine fg_X8_172 hC hM mq_F rfl dX8_next_205 ?_
                      refine me_evi (y := nI k) rfl ?_
                      refine me_bald (k := k) hC hM mq_ip rfl (by omega) (by first | decide | omega) dX8_next_208 ?_
                      refine me_callSi (As := [.int (ip k)]) (rest := []) hC hl.1 hM (c_X8_isDigit l D tb X z0 n _ (ip k) ) (ks_X8_181 hw rfl rfl ⟨Nat.le_of_ble_eq_true rfl, Nat.le_of_ble_eq_true rfl⟩) rfl rfl (Nat.le_of_ble_eq_true rfl) dX8_next_209 ⟨Nat.le_of_ble_eq_true rfl, Nat.le_of_ble_eq_true rfl⟩ (fun H locs hM => ?_)
                      refine lv_if_eq (tgt := 325) hx hb dX8_next_212 (by decide) (fun c_153 => ?_) (fun c_153 => ?_)
                      · have c_153 := b1_0.mp c_153
                        refine lv_aload_n hx hb dX8_next_325 rfl (lv_at hl 1 rfl) ?_
                        refine lv_aload_n hx hb dX8_next_326 rfl (lv_at hl 1 rfl) ?_
                        refine fg_X8_172 hC hM mq_F rfl dX8_next_327 ?_
                        refine me_evi (y := nI k) rfl ?_
                        refine lv_iconst (v := 1) hx hb dX8_next_330 (by decide) ?_
                        refine lv_iadd hx hb dX8_next_331 ?_
                        refine me_evi (y := nI (k + 1)) (nx_add rfl (show (1 : Int32) = nI 1 from rfl)) ?_
                        refine fp_X8_169 hC hM mq_F (Nat.le_of_ble_eq_true rfl) (M2 := mq tb mo (pqF F (qKd pq, k, k + 1, qVa pq, qFl pq, qFa pq)) w av od sv sl nz ip ot M0) (mq_wF2 rfl) dX8_next_332 (fun H locs hM => ?_)
                        refine lv_aload_n hx hb dX8_next_335 rfl (lv_at hl 1 rfl) ?_
                        refine lv_aload_n hx hb dX8_next_336 rfl (lv_at hl 1 rfl) ?_
                        refine fg_X8_31 hC hM mq_F rfl dX8_next_337 ?_
                        refine lv_aload_n hx hb dX8_next_340 rfl (lv_at hl 1 rfl) ?_
                        refine fg_X8_172 hC hM mq_F rfl dX8_next_341 ?_
                        refine me_evi (y := nI k) rfl ?_
                        refine me_bald (k := k) hC hM mq_ip rfl (by omega) (by first | decide | omega) dX8_next_344 ?_
                        refine lv_bipush (v := 59) hx hb dX8_next_345 (by decide) ?_
                        refine lv_icmp_ne (tgt := 354) hx hb dX8_next_347 (by decide) (fun c_154 => ?_) (fun c_154 => ?_)
                        · refine lv_iconst (v := 4) hx hb dX8_next_354 (by decide) ?_
                          refine fp_X8_166 hC hM mq_F (Nat.le_of_ble_eq_true rfl) (M2 := mq tb mo (pqF F (4, k, k + 1, qVa pq, qFl pq, qFa pq)) w av od sv sl nz ip ot M0) (mq_wF2 rfl) dX8_next_355 (fun H locs hM => ?_)
                          exact me_vret hC hr hlk hM (mq_ps (by unfold mxP; rw [hs2]; unfold mx1; rw [if_neg c_151, if_neg c_152, if_neg c_153, if_neg c_154])) (rfl) dX8_next_358
                        · refine lv_iconst (v := 3) hx hb dX8_next_350 (by decide) ?_
                          refine lv_goto (tgt := 355) hx hb dX8_next_351 (by decide) ?_
                          refine fp_X8_166 hC hM mq_F (Nat.le_of_ble_eq_true rfl) (M2 := mq tb mo (pqF F (3, k, k + 1, qVa pq, qFl pq, qFa pq)) w av od sv sl nz ip ot M0) (mq_wF2 rfl) dX8_next_355 (fun H locs hM => ?_)
                          exact me_vret hC hr hlk hM (mq_ps (by unfold mxP; rw [hs2]; unfold mx1; rw [if_neg c_151, if_neg c_152, if_neg c_153, if_pos c_154])) (rfl) dX8_next_358
                      · have c_153 := b1_n0.mp c_153
                        refine lv_aload_n hx hb dX8_next_215 rfl (lv_at hl 1 rfl) ?_
                        refine lv_iconst (v := 0) hx hb dX8_next_216 (by decide) ?_
                        refine fp_X8_184 hC hM mq_F (Nat.le_of_ble_eq_true rfl) (M2 := mq tb mo (pqF F (qKd pq, k, k, 0, qFl pq, qFa pq)) w av od sv sl nz ip ot M0) (mq_wF2 rfl) dX8_next_217 (fun H locs hM => ?_)
                        have lp_220 : ∀ (r2 : Nat) (k2 : Nat) (v : Int32) (H : Heap) (locs : List Loc) (ls : Array Slot), (k2 + r2 = len) → (k ≤ k2) → (drP ip (len - k) k = drP ip r2 k2) → (dvP ip k (len - k) k 0 = dvP ip k r2 k2 v) → me_at D z0 (mq tb mo (pqF F (qKd pq, k, k2, v, qFl pq, qFa pq)) w av od sv sl nz ip ot M0) n s H locs → lv_has ls 3 [(0, .ref mo), (1, .int 1), (2, .int 1)] → W p l e (({ frames := 1, cells := 0, slots := 0, locals := 20 } : Room)) s m args below meth c H locs 0 0 (MQ below (me_Qv D z0 (mq tb mo (pqF F (mxP ip len pq)) w av od sv sl nz ip ot M0) n) args s 0 0 (me_A z0)) (F0 m 220 ls []) := by
                          intro r2
                          refine Nat.strongRecOn r2 ?_
                          intro r2 ih_220 k2 v H locs ls hk2 hk3 hd2 hv2 hM hl
                          refine lv_aload_n hx hb dX8_next_220 rfl (lv_at hl 0 rfl) ?_
                          refine fg_X8_169 hC hM mq_F rfl dX8_next_221 ?_
                          refine me_evi (y := nI k2) rfl ?_
                          refine lv_aload_n hx hb dX8_next_224 rfl (lv_at hl 0 rfl) ?_
                          refine fg_X8_175 hC hM mq_F rfl dX8_next_225 ?_
                          refine me_evi (y := F 7) rfl ?_
                          refine lv_icmp_ge (tgt := 296) hx hb dX8_next_228 (by decide) (fun c_155 => ?_) (fun c_155 => ?_)
                          · have c_155 := (br_le hln rfl (by omega) (by omega)).mp c_155
                            have hd3 : drP ip (len - k) k = k2 := by rw [hd2, show r2 = 0 by omega]; rfl
                            have hv3 : dvP ip k (len - k) k 0 = v := by rw [hv2, show r2 = 0 by omega]; rfl
                            refine lv_aload_n hx hb dX8_next_296 rfl (lv_at hl 0 rfl) ?_
                            refine lv_iload_n hx hb dX8_next_297 rfl (lv_at hl 2 rfl) ?_
                            refine lv_if_ne (tgt := 314) hx hb dX8_next_298 (by decide) (fun c_156 => ?_) (fun c_156 => ?_)
                            · refine lv_iconst (v := 4) hx hb dX8_next_314 (by decide) ?_
                              refine lv_goto (tgt := 319) hx hb dX8_next_315 (by decide) ?_
                              refine fp_X8_166 hC hM mq_F (Nat.le_of_ble_eq_true rfl) (M2 := mq tb mo (pqF F (4, k, k2, v, qFl pq, qFa pq)) w av od sv sl nz ip ot M0) (mq_wF2 rfl) dX8_next_319 (fun H locs hM => ?_)
                              refine lv_goto (tgt := 358) hx hb dX8_next_322 (by decide) ?_
                              exact me_vret hC hr hlk hM (mq_ps (by unfold mxP; rw [hs2]; unfold mx1; rw [if_neg c_151, if_neg c_152, if_pos c_153, hd3, hv3, if_pos (Or.inl ⟨(Or.inr c_65), c_135⟩)])) (rfl) dX8_next_358
                            · exact absurd c_156 (by decide)
                          · have c_155 := (not_congr (br_le hln rfl (by omega) (by omega))).mp c_155
                            obtain ⟨r3, rfl⟩ : ∃ r3, r2 = r3 + 1 := ⟨r2 - 1, by omega⟩
                            refine lv_aload_n hx hb dX8_next_231 rfl (lv_at hl 0 rfl) ?_
                            refine fg_X8_31 hC hM mq_F rfl dX8_next_232 ?_
                            refine lv_aload_n hx hb dX8_next_235 rfl (lv_at hl 0 rfl) ?_
                            refine fg_X8_169 hC hM mq_F rfl dX8_next_236 ?_
                            refine me_evi (y := nI k2) rfl ?_
                            refine me_bald (k := k2) hC hM mq_ip rfl (by omega) (by first | decide | omega) dX8_next_239 ?_
                            refine me_callSi (As := [.int (ip k2)]) (rest := []) hC hl.1 hM (c_X8_isDigit l D tb X z0 n _ (ip k2) ) (ks_X8_181 hw rfl rfl ⟨Nat.le_of_ble_eq_true rfl, Nat.le_of_ble_eq_true rfl⟩) rfl rfl (Nat.le_of_ble_eq_true rfl) dX8_next_240 ⟨Nat.le_of_ble_eq_true rfl, Nat.le_of_ble_eq_true rfl⟩ (fun H locs hM => ?_)
                            refine lv_if_eq (tgt := 296) hx hb dX8_next_243 (by decide) (fun c_157 => ?_) (fun c_157 => ?_)
                            · have c_157 := b1_0.mp c_157
                              have hd3 : drP ip (len - k) k = k2 := hd2.trans (drP_f c_157)
                              have hv3 : dvP ip k (len - k) k 0 = v := hv2.trans (dvP_f c_157)
                              refine lv_aload_n hx hb dX8_next_296 rfl (lv_at hl 0 rfl) ?_
                              refine lv_iload_n hx hb dX8_next_297 rfl (lv_at hl 2 rfl) ?_
                              refine lv_if_ne (tgt := 314) hx hb dX8_next_298 (by decide) (fun c_158 => ?_) (fun c_158 => ?_)
                              · refine lv_iconst (v := 4) hx hb dX8_next_314 (by decide) ?_
                                refine lv_goto (tgt := 319) hx hb dX8_next_315 (by decide) ?_
                                refine fp_X8_166 hC hM mq_F (Nat.le_of_ble_eq_true rfl) (M2 := mq tb mo (pqF F (4, k, k2, v, qFl pq, qFa pq)) w av od sv sl nz ip ot M0) (mq_wF2 rfl) dX8_next_319 (fun H locs hM => ?_)
                                refine lv_goto (tgt := 358) hx hb dX8_next_322 (by decide) ?_
                                exact me_vret hC hr hlk hM (mq_ps (by unfold mxP; rw [hs2]; unfold mx1; rw [if_neg c_151, if_neg c_152, if_pos c_153, hd3, hv3, if_pos (Or.inl ⟨(Or.inr c_65), c_135⟩)])) (rfl) dX8_next_358
                              · exact absurd c_158 (by decide)
                            · have c_157 := b1_n0.mp c_157
                              refine lv_aload_n hx hb dX8_next_246 rfl (lv_at hl 0 rfl) ?_
                              refine fg_X8_169 hC hM mq_F rfl dX8_next_247 ?_
                              refine me_evi (y := nI k2) rfl ?_
                              refine lv_aload_n hx hb dX8_next_250 rfl (lv_at hl 0 rfl) ?_
                              refine fg_X8_172 hC hM mq_F rfl dX8_next_251 ?_
                              refine me_evi (y := nI k) rfl ?_
                              refine lv_isub hx hb dX8_next_254 ?_
                              refine lv_iconst (v := 4) hx hb dX8_next_255 (by decide) ?_
                              refine lv_icmp_ge (tgt := 283) hx hb dX8_next_256 (by decide) (fun c_159 => ?_) (fun c_159 => ?_)
                              · have c_159 := (br_le (nx_c 4) (nx_sub rfl rfl (by omega)) (by omega) (by omega)).mp c_159
                                refine lv_aload_n hx hb dX8_next_283 rfl (lv_at hl 0 rfl) ?_
                                refine lv_dup hx hb dX8_next_284 rfl ?_
                                refine fg_X8_169 hC hM mq_F rfl dX8_next_285 ?_
                                refine me_evi (y := nI k2) rfl ?_
                                refine lv_iconst (v := 1) hx hb dX8_next_288 (by decide) ?_
                                refine lv_iadd hx hb dX8_next_289 ?_
                                refine me_evi (y := nI (k2 + 1)) (nx_add rfl (show (1 : Int32) = nI 1 from rfl)) ?_
                                refine fp_X8_169 hC hM mq_F (Nat.le_of_ble_eq_true rfl) (M2 := mq tb mo (pqF F (qKd pq, k, k2 + 1, v, qFl pq, qFa pq)) w av od sv sl nz ip ot M0) (mq_wF2 rfl) dX8_next_290 (fun H locs hM => ?_)
                                refine lv_goto (tgt := 220) hx hb dX8_next_293 (by decide) ?_
                                exact ih_220 r3 (by omega) (k2 + 1) v _ _ _ (by omega) (by omega) (hd2.trans (drP_t c_157)) (hv2.trans (dvP_b c_157 (by omega))) hM (lv_sub hl [0, 1, 2] rfl)
                              · have c_159 := (not_congr (br_le (nx_c 4) (nx_sub rfl rfl (by omega)) (by omega) (by omega))).mp c_159
                                refine lv_aload_n hx hb dX8_next_259 rfl (lv_at hl 0 rfl) ?_
                                refine lv_bipush (v := 10) hx hb dX8_next_260 (by decide) ?_
                                refine lv_aload_n hx hb dX8_next_262 rfl (lv_at hl 0 rfl) ?_
                                refine fg_X8_184 hC hM mq_F rfl dX8_next_263 ?_
                                refine me_evi (y := v) rfl ?_
                                refine lv_imul hx hb dX8_next_266 ?_
                                refine lv_aload_n hx hb dX8_next_267 rfl (lv_at hl 0 rfl) ?_
                                refine fg_X8_31 hC hM mq_F rfl dX8_next_268 ?_
                                refine lv_aload_n hx hb dX8_next_271 rfl (lv_at hl 0 rfl) ?_
                                refine fg_X8_169 hC hM mq_F rfl dX8_next_272 ?_
                                refine me_evi (y := nI k2) rfl ?_
                                refine me_bald (k := k2) hC hM mq_ip rfl (by omega) (by first | decide | omega) dX8_next_275 ?_
                                refine lv_iadd hx hb dX8_next_276 ?_
                                refine lv_bipush (v := 48) hx hb dX8_next_277 (by decide) ?_
                                refine lv_isub hx hb dX8_next_279 ?_
                                refine fp_X8_184 hC hM mq_F (Nat.le_of_ble_eq_true rfl) (M2 := mq tb mo (pqF F (qKd pq, k, k2, ((10 * v) + (ip k2)) - 48, qFl pq, qFa pq)) w av od sv sl nz ip ot M0) (mq_wF2 rfl) dX8_next_280 (fun H locs hM => ?_)
                                refine lv_aload_n hx hb dX8_next_283 rfl (lv_at hl 0 rfl) ?_
                                refine lv_dup hx hb dX8_next_284 rfl ?_
                                refine fg_X8_169 hC hM mq_F rfl dX8_next_285 ?_
                                refine me_evi (y := nI k2) rfl ?_
                                refine lv_iconst (v := 1) hx hb dX8_next_288 (by decide) ?_
                                refine lv_iadd hx hb dX8_next_289 ?_
                                refine me_evi (y := nI (k2 + 1)) (nx_add rfl (show (1 : Int32) = nI 1 from rfl)) ?_
                                refine fp_X8_169 hC hM mq_F (Nat.le_of_ble_eq_true rfl) (M2 := mq tb mo (pqF F (qKd pq, k, k2 + 1, ((10 * v) + (ip k2)) - 48, qFl pq, qFa pq)) w av od sv sl nz ip ot M0) (mq_wF2 rfl) dX8_next_290 (fun H locs hM => ?_)
                                refine lv_goto (tgt := 220) hx hb dX8_next_293 (by decide) ?_
                                exact ih_220 r3 (by omega) (k2 + 1) (10 * v + ip k2 - 48) _ _ _ (by omega) (by omega) (hd2.trans (drP_t c_157)) (hv2.trans (dvP_a c_157 (by omega))) hM (lv_sub hl [0, 1, 2] rfl)
                        exact lp_220 (len - k) k 0 _ _ _ (by omega) (by omega) rfl rfl hM (lv_sub hl [1, 2, 0] rfl)
                    · have c_152 := b1_n0.mp c_152
                      have lp_145 : ∀ (r2 : Nat) (k2 : Nat) (H : Heap) (locs : List Loc) (ls : Array Slot), (k2 + r2 = len) → (k ≤ k2) → (lrP ip (len - k) k = lrP ip r2 k2) → me_at D z0 (mq tb mo (pqF F (qKd pq, k, k2, qVa pq, qFl pq, qFa pq)) w av od sv sl nz ip ot M0) n s H locs → lv_has ls 3 [(0, .ref mo), (1, .int 1), (2, .int 1)] → W p l e (({ frames := 1, cells := 0, slots := 0, locals := 20 } : Room)) s m args below meth c H locs 0 0 (MQ below (me_Qv D z0 (mq tb mo (pqF F (mxP ip len pq)) w av od sv sl nz ip ot M0) n) args s 0 0 (me_A z0)) (F0 m 145 ls []) := by
                        intro r2
                        refine Nat.strongRecOn r2 ?_
                        intro r2 ih_145 k2 H locs ls hk2 hk3 hl2 hM hl
                        refine lv_aload_n hx hb dX8_next_145 rfl (lv_at hl 0 rfl) ?_
                        refine fg_X8_169 hC hM mq_F rfl dX8_next_146 ?_
                        refine me_evi (y := nI k2) rfl ?_
                        refine lv_aload_n hx hb dX8_next_149 rfl (lv_at hl 0 rfl) ?_
                        refine fg_X8_175 hC hM mq_F rfl dX8_next_150 ?_
                        refine me_evi (y := F 7) rfl ?_
                        refine lv_icmp_ge (tgt := 184) hx hb dX8_next_153 (by decide) (fun c_160 => ?_) (fun c_160 => ?_)
                        · have c_160 := (br_le hln rfl (by omega) (by omega)).mp c_160
                          have hl3 : lrP ip (len - k) k = k2 := by rw [hl2, show r2 = 0 by omega]; rfl
                          refine lv_aload_n hx hb dX8_next_184 rfl (lv_at hl 0 rfl) ?_
                          refine lv_iload_n hx hb dX8_next_185 rfl (lv_at hl 2 rfl) ?_
                          refine lv_if_eq (tgt := 193) hx hb dX8_next_186 (by decide) (fun c_161 => ?_) (fun c_161 => ?_)
                          · exact absurd c_161 (by decide)
                          · refine lv_iconst (v := 4) hx hb dX8_next_189 (by decide) ?_
                            refine lv_goto (tgt := 194) hx hb dX8_next_190 (by decide) ?_
                            refine fp_X8_166 hC hM mq_F (Nat.le_of_ble_eq_true rfl) (M2 := mq tb mo (pqF F (4, k, k2, qVa pq, qFl pq, qFa pq)) w av od sv sl nz ip ot M0) (mq_wF2 rfl) dX8_next_194 (fun H locs hM => ?_)
                            refine lv_goto (tgt := 358) hx hb dX8_next_197 (by decide) ?_
                            exact me_vret hC hr hlk hM (mq_ps (by unfold mxP; rw [hs2]; unfold mx1; rw [if_neg c_151, if_pos c_152, hl3, if_pos (⟨(Or.inr c_65), c_135⟩)])) (rfl) dX8_next_358
                        · have c_160 := (not_congr (br_le hln rfl (by omega) (by omega))).mp c_160
                          obtain ⟨r3, rfl⟩ : ∃ r3, r2 = r3 + 1 := ⟨r2 - 1, by omega⟩
                          refine lv_aload_n hx hb dX8_next_156 rfl (lv_at hl 0 rfl) ?_
                          refine fg_X8_31 hC hM mq_F rfl dX8_next_157 ?_
                          refine lv_aload_n hx hb dX8_next_160 rfl (lv_at hl 0 rfl) ?_
                          refine fg_X8_169 hC hM mq_F rfl dX8_next_161 ?_
                          refine me_evi (y := nI k2) rfl ?_
                          refine me_bald (k := k2) hC hM mq_ip rfl (by omega) (by first | decide | omega) dX8_next_164 ?_
                          refine me_callSi (As := [.int (ip k2)]) (rest := []) hC hl.1 hM (c_X8_isLetter l D tb X z0 n _ (ip k2) ) (ks_X8_178 hw rfl rfl ⟨Nat.le_of_ble_eq_true rfl, Nat.le_of_ble_eq_true rfl⟩) rfl rfl (Nat.le_of_ble_eq_true rfl) dX8_next_165 ⟨Nat.le_of_ble_eq_true rfl, Nat.le_of_ble_eq_true rfl⟩ (fun H locs hM => ?_)
                          refine lv_if_eq (tgt := 184) hx hb dX8_next_168 (by decide) (fun c_162 => ?_) (fun c_162 => ?_)
                          · have c_162 := b1_0.mp c_162
                            have hl3 : lrP ip (len - k) k = k2 := hl2.trans (lrP_f c_162)
                            refine lv_aload_n hx hb dX8_next_184 rfl (lv_at hl 0 rfl) ?_
                            refine lv_iload_n hx hb dX8_next_185 rfl (lv_at hl 2 rfl) ?_
                            refine lv_if_eq (tgt := 193) hx hb dX8_next_186 (by decide) (fun c_163 => ?_) (fun c_163 => ?_)
                            · exact absurd c_163 (by decide)
                            · refine lv_iconst (v := 4) hx hb dX8_next_189 (by decide) ?_
                              refine lv_goto (tgt := 194) hx hb dX8_next_190 (by decide) ?_
                              refine fp_X8_166 hC hM mq_F (Nat.le_of_ble_eq_true rfl) (M2 := mq tb mo (pqF F (4, k, k2, qVa pq, qFl pq, qFa pq)) w av od sv sl nz ip ot M0) (mq_wF2 rfl) dX8_next_194 (fun H locs hM => ?_)
                              refine lv_goto (tgt := 358) hx hb dX8_next_197 (by decide) ?_
                              exact me_vret hC hr hlk hM (mq_ps (by unfold mxP; rw [hs2]; unfold mx1; rw [if_neg c_151, if_pos c_152, hl3, if_pos (⟨(Or.inr c_65), c_135⟩)])) (rfl) dX8_next_358
                          · have c_162 := b1_n0.mp c_162
                            refine lv_aload_n hx hb dX8_next_171 rfl (lv_at hl 0 rfl) ?_
                            refine lv_dup hx hb dX8_next_172 rfl ?_
                            refine fg_X8_169 hC hM mq_F rfl dX8_next_173 ?_
                            refine me_evi (y := nI k2) rfl ?_
                            refine lv_iconst (v := 1) hx hb dX8_next_176 (by decide) ?_
                            refine lv_iadd hx hb dX8_next_177 ?_
                            refine me_evi (y := nI (k2 + 1)) (nx_add rfl (show (1 : Int32) = nI 1 from rfl)) ?_
                            refine fp_X8_169 hC hM mq_F (Nat.le_of_ble_eq_true rfl) (M2 := mq tb mo (pqF F (qKd pq, k, k2 + 1, qVa pq, qFl pq, qFa pq)) w av od sv sl nz ip ot M0) (mq_wF2 rfl) dX8_next_178 (fun H locs hM => ?_)
                            refine lv_goto (tgt := 145) hx hb dX8_next_181 (by decide) ?_
                            exact ih_145 r3 (by omega) (k2 + 1) _ _ _ (by omega) (by omega) (hl2.trans (lrP_t c_162)) hM (lv_sub hl [0, 1, 2] rfl)
                      exact lp_145 (len - k) k _ _ _ (by omega) (by omega) rfl hM (lv_sub hl [1, 2, 0] rfl)
                  · have c_151 := (br_eq rfl hln (by omega) (by omega)).mp c_151
                    refine lv_aload_n hx hb dX8_next_122 rfl (lv_at hl 1 rfl) ?_
                    refine lv_iconst (v := 0) hx hb dX8_next_123 (by decide) ?_
                    refine fp_X8_166 hC hM mq_F (Nat.le_of_ble_eq_true rfl) (M2 := mq tb mo (pqF F (0, k, k, qVa pq, qFl pq, qFa pq)) w av od sv sl nz ip ot M0) (mq_wF2 rfl) dX8_next_124 (fun H locs hM => ?_)
                    refine lv_goto (tgt := 358) hx hb dX8_next_127 (by decide) ?_
                    exact me_vret hC hr hlk hM (mq_ps (by unfold mxP; rw [hs2]; unfold mx1; rw [if_pos c_151])) (rfl) dX8_next_358
            · refine lv_aload_n hx hb dX8_next_69 rfl (lv_at hl 0 rfl) ?_
              refine lv_dup hx hb dX8_next_70 rfl ?_
              refine fg_X8_172 hC hM mq_F rfl dX8_next_71 ?_
              refine me_evi (y := nI k) rfl ?_
              refine lv_iconst (v := 1) hx hb dX8_next_74 (by decide) ?_
              refine lv_iadd hx hb dX8_next_75 ?_
              refine me_evi (y := nI (k + 1)) (nx_add rfl (show (1 : Int32) = nI 1 from rfl)) ?_
              refine fp_X8_172 hC hM mq_F (Nat.le_of_ble_eq_true rfl) (M2 := mq tb mo (pqF F (qKd pq, k + 1, qTo pq, qVa pq, qFl pq, qFa pq)) w av od sv sl nz ip ot M0) (mq_wF2 rfl) dX8_next_76 (fun H locs hM => ?_)
              refine lv_goto (tgt := 30) hx hb dX8_next_79 (by decide) ?_
              exact ih_30 r1 (by omega) (k + 1) _ _ _ (by omega) (by omega) (hs.trans (skP_t (Or.inr c_133))) hM (lv_sub hl [0, 1] rfl)
      exact lp_30 (len - qTo pq) (qTo pq) _ _ _ (by omega) (by omega) rfl hM (lv_sub hl [1, 0] rfl)
set_option maxHeartbeats 4000000 in
theorem c_X8_goesOn (l : Launch) (D : va_G) (tb : Nat → ClassId) (X : State → Prop) (z0 n : Nat) (mo : Nat) (F w av od sv sl nz ip ot : Nat → Int32) (M0 : me_M) (len : Nat) (pq : QS)  (hln : F 7 = nI len) (hln0 : len ≤ 700) (hq : qvP len pq) : Met l yX8_goesOn (.code yX8_goesOn cX8_goesOn 1 none :: ws_all) ({ frames := 2, cells := 0, slots := 0, locals := 42 } : Room) (me_Pc [.ref mo] D tb X z0 (mq tb mo (pqF F (pq)) w av od sv sl nz ip ot M0) n) (me_Qv D z0 (mq tb mo (pqF F (gnP ip len pq)) w av od sv sl nz ip ot M0) n) 0 0 (me_A z0) := by
  refine me_open (by decide) (Nat.le_of_ble_eq_true rfl) ?_
  intro p e s m args below meth c ls hC hr hlk hnm hM hl
  have hl : lv_has ls 1 [(0, .ref mo)] := hl
  have hx := hC.1
  have hb := hC.2.1
  have hw := hC.2.2.2.2.1
  obtain ⟨hq1, hq2, hq3, hq4⟩ := id hq
  refine lv_aload_n hx hb dX8_goesOn_0 rfl (lv_at hl 0 rfl) ?_
  refine fg_X8_187 hC hM mq_F rfl dX8_goesOn_1 ?_
  refine me_evi (y := nI (qFl pq)) rfl ?_
  refine lv_if_ne (tgt := 11) hx hb dX8_goesOn_4 (by decide) (fun c_1 => ?_) (fun c_1 => ?_)
  · have c_1 := (not_congr (br_eq rfl (show (0 : Int32) = nI 0 from rfl) (by omega) (by omega))).mp c_1
    exact me_vret hC hr hlk hM (mq_ps (by unfold gnP; rw [if_neg c_1])) (rfl) dX8_goesOn_11
  · have c_1 := (br_eq rfl (show (0 : Int32) = nI 0 from rfl) (by omega) (by omega)).mp c_1
    refine lv_aload_n hx hb dX8_goesOn_7 rfl (lv_at hl 0 rfl) ?_
    refine me_callVv (As := []) (rest := []) hC hl.1 hM (c_X8_next l D tb X z0 n mo F w av od sv sl nz ip ot M0 len pq  hln hln0 (qv_w hq) ) (kv_X8_193 hw rfl rfl ⟨Nat.le_of_ble_eq_true rfl, Nat.le_of_ble_eq_true rfl⟩) rfl rfl mq_F rfl (Nat.le_of_ble_eq_true rfl) dX8_goesOn_8 ⟨Nat.le_of_ble_eq_true rfl, Nat.le_of_ble_eq_true rfl⟩ (fun H locs hM => ?_)
    exact me_vret hC hr hlk hM (mq_ps (by unfold gnP; rw [if_pos c_1])) (rfl) dX8_goesOn_11
set_option maxHeartbeats 4000000 in
theorem c_X8_isKey (l : Launch) (D : va_G) (tb : Nat → ClassId) (X : State → Prop) (z0 n : Nat) (mo : Nat) (F w av od sv sl nz ip ot : Nat → Int32) (M0 : me_M) (len : Nat) (pq : QS) (i : Nat)  (hln : F 7 = nI len) (hln0 : len ≤ 700) (hq : qvP len pq) (hi : i < 12) : Met l yX8_isKey (.code yX8_isKey cX8_isKey 4 (some .boolean) :: ws_all) ({ frames := 0, cells := 0, slots := 0, locals := 0 } : Room) (me_Pc [.ref mo, .int (nI i)] D tb X z0 (mq tb mo (pqF F (pq)) w av od sv sl nz ip ot M0) n) (me_Qi D z0 (b1 (keP ip i pq)) (mq tb mo (pqF F (pq)) w av od sv sl nz ip ot M0) n) 0 0 (me_A z0) := by
  refine me_open (by decide) (Nat.le_of_ble_eq_true rfl) ?_
  intro p e s m args below meth c ls hC hr hlk hnm hM hl
  have hl : lv_has ls 4 [(0, .ref mo), (1, .int (nI i))] := hl
  have hx := hC.1
  have hb := hC.2.1
  have hw := hC.2.2.2.2.1
  obtain ⟨hq1, hq2, hq3, hq4⟩ := id hq
  refine lv_aload_n hx hb dX8_isKey_0 rfl (lv_at hl 0 rfl) ?_
  refine fg_X8_166 hC hM mq_F rfl dX8_isKey_1 ?_
  refine me_evi (y := nI (qKd pq)) rfl ?_
  refine lv_iconst (v := 1) hx hb dX8_isKey_4 (by decide) ?_
  refine lv_icmp_ne (tgt := 22) hx hb dX8_isKey_5 (by decide) (fun c_1 => ?_) (fun c_1 => ?_)
  · have c_1 := (not_congr (br_eq rfl (show (1 : Int32) = nI 1 from rfl) (by omega) (by omega))).mp c_1
    refine lv_iconst (v := 0) hx hb dX8_isKey_22 (by decide) ?_
    exact me_zret hC hr hlk hM (b1_f (fun z => c_1 z.1)) (by first | decide | simp) (rfl) (rfl) dX8_isKey_23
  · have c_1 := (br_eq rfl (show (1 : Int32) = nI 1 from rfl) (by omega) (by omega)).mp c_1
    refine lv_aload_n hx hb dX8_isKey_8 rfl (lv_at hl 0 rfl) ?_
    refine fg_X8_169 hC hM mq_F rfl dX8_isKey_9 ?_
    refine me_evi (y := nI (qTo pq)) rfl ?_
    refine lv_aload_n hx hb dX8_isKey_12 rfl (lv_at hl 0 rfl) ?_
    refine fg_X8_172 hC hM mq_F rfl dX8_isKey_13 ?_
    refine me_evi (y := nI (qFr pq)) rfl ?_
    refine lv_isub hx hb dX8_isKey_16 ?_
    refine lv_bipush (v := 8) hx hb dX8_isKey_17 (by decide) ?_
    refine lv_icmp_le (tgt := 24) hx hb dX8_isKey_19 (by decide) (fun c_2 => ?_) (fun c_2 => ?_)
    · have c_2 := (br_le (nx_sub rfl rfl (by omega)) (nx_c 8) (by omega) (by omega)).mp c_2
      refine lv_iconst (v := 0) hx hb dX8_isKey_24 (by decide) ?_
      refine lv_istore_n (lv' := [(2, .int 0), (0, .ref mo), (1, .int (nI i))]) hx hb dX8_isKey_25 rfl hl (by decide) rfl (fun ls hl => ?_)
      have lp_26 : ∀ (r : Nat) (k : Nat) (H : Heap) (locs : List Loc) (ls : Array Slot), (k + r = 8) → (∀ j, j < k → (if j < qTo pq - qFr pq then ip (qFr pq + j) else 0) = kyF (8 * i + j)) → me_at D z0 (mq tb mo (pqF F (pq)) w av od sv sl nz ip ot M0) n s H locs → lv_has ls 4 [(0, .ref mo), (1, .int (nI i)), (2, .int (nI k))] → W p l e (({ frames := 0, cells := 0, slots := 0, locals := 0 } : Room)) s m args below meth c H locs 0 0 (MQ below (me_Qi D z0 (b1 (keP ip i pq)) (mq tb mo (pqF F (pq)) w av od sv sl nz ip ot M0) n) args s 0 0 (me_A z0)) (F0 m 26 ls []) := by
        intro r
        refine Nat.strongRecOn r ?_
        intro r ih_26 k H locs ls hk hj hM hl
        refine lv_iload_n hx hb dX8_isKey_26 rfl (lv_at hl 2 rfl) ?_
        refine lv_bipush (v := 8) hx hb dX8_isKey_27 (by decide) ?_
        refine lv_icmp_ge (tgt := 84) hx hb dX8_isKey_29 (by decide) (fun c_3 => ?_) (fun c_3 => ?_)
        · have c_3 := (br_le (nx_c 8) rfl (by omega) (by omega)).mp c_3
          refine lv_iconst (v := 1) hx hb dX8_isKey_84 (by decide) ?_
          exact me_zret hC hr hlk hM (b1_t ⟨c_1, by omega, fun j z => hj j (by omega)⟩) (by first | decide | simp) (rfl) (rfl) dX8_isKey_85
        · have c_3 := (not_congr (br_le (nx_c 8) rfl (by omega) (by omega))).mp c_3
          obtain ⟨r1, rfl⟩ : ∃ r1, r = r1 + 1 := ⟨r - 1, by omega⟩
          refine lv_iload_n hx hb dX8_isKey_32 rfl (lv_at hl 2 rfl) ?_
          refine lv_aload_n hx hb dX8_isKey_33 rfl (lv_at hl 0 rfl) ?_
          refine fg_X8_169 hC hM mq_F rfl dX8_isKey_34 ?_
          refine me_evi (y := nI (qTo pq)) rfl ?_
          refine lv_aload_n hx hb dX8_isKey_37 rfl (lv_at hl 0 rfl) ?_
          refine fg_X8_172 hC hM mq_F rfl dX8_isKey_38 ?_
          refine me_evi (y := nI (qFr pq)) rfl ?_
          refine lv_isub hx hb dX8_isKey_41 ?_
          refine lv_icmp_ge (tgt := 59) hx hb dX8_isKey_42 (by decide) (fun c_4 => ?_) (fun c_4 => ?_)
          · have c_4 := (br_le (nx_sub rfl rfl (by omega)) rfl (by omega) (by omega)).mp c_4
            refine lv_iconst (v := 0) hx hb dX8_isKey_59 (by decide) ?_
            refine lv_istore_n (lv' := [(3, .int 0), (0, .ref mo), (1, .int (nI i)), (2, .int (nI k))]) hx hb dX8_isKey_60 rfl hl (by decide) rfl (fun ls hl => ?_)
            refine lv_iload_n hx hb dX8_isKey_61 rfl (lv_at hl 0 rfl) ?_
            refine lv_aload_n hx hb dX8_isKey_62 rfl (lv_at hl 1 rfl) ?_
            refine fg_X8_7 hC hM mq_F rfl dX8_isKey_63 ?_
            refine lv_bipush (v := 8) hx hb dX8_isKey_66 (by decide) ?_
            refine lv_iload_n hx hb dX8_isKey_68 rfl (lv_at hl 2 rfl) ?_
            refine lv_imul hx hb dX8_isKey_69 ?_
            refine lv_iload_n hx hb dX8_isKey_70 rfl (lv_at hl 3 rfl) ?_
            refine lv_iadd hx hb dX8_isKey_71 ?_
            refine me_iald (k := 8 * i + k) hC hM mq_ky (nx_add (nx_mul (nx_c 8) rfl) rfl) (by omega) (by decide) dX8_isKey_72 ?_
            refine lv_icmp_eq (tgt := 78) hx hb dX8_isKey_73 (by decide) (fun c_5 => ?_) (fun c_5 => ?_)
            · refine lv_iinc (v := nI (k + 1)) (lv' := [(2, .int (nI (k + 1))), (3, .int 0), (0, .ref mo), (1, .int (nI i))]) hx hb dX8_isKey_78 hl (k := 3) rfl (nx_add rfl rfl) (by decide) rfl (fun ls hl => ?_)
              refine lv_goto (tgt := 26) hx hb dX8_isKey_81 (by decide) ?_
              exact ih_26 r1 (by omega) (k + 1) _ _ _ (by omega) (fun j hj2 => by rcases Nat.lt_succ_iff_lt_or_eq.mp hj2 with z | z; exact hj j z; rw [z, if_neg (by omega)]; exact c_5) hM (lv_sub hl [2, 3, 0] rfl)
            · refine lv_iconst (v := 0) hx hb dX8_isKey_76 (by decide) ?_
              exact me_zret hC hr hlk hM (b1_f (fun z => c_5 (by have e := z.2.2 k (by omega); rw [if_neg (by omega)] at e; exact e))) (by first | decide | simp) (rfl) (rfl) dX8_isKey_77
          · have c_4 := (not_congr (br_le (nx_sub rfl rfl (by omega)) rfl (by omega) (by omega))).mp c_4
            refine lv_aload_n hx hb dX8_isKey_45 rfl (lv_at hl 0 rfl) ?_
            refine fg_X8_31 hC hM mq_F rfl dX8_isKey_46 ?_
            refine lv_aload_n hx hb dX8_isKey_49 rfl (lv_at hl 0 rfl) ?_
            refine fg_X8_172 hC hM mq_F rfl dX8_isKey_50 ?_
            refine me_evi (y := nI (qFr pq)) rfl ?_
            refine lv_iload_n hx hb dX8_isKey_53 rfl (lv_at hl 2 rfl) ?_
            refine lv_iadd hx hb dX8_isKey_54 ?_
            refine me_bald (k := qFr pq + k) hC hM mq_ip (nx_add rfl rfl) (by omega) (by first | decide | omega) dX8_isKey_55 ?_
            refine lv_goto (tgt := 60) hx hb dX8_isKey_56 (by decide) ?_
            refine lv_istore_n (lv' := [(3, .int (ip (qFr pq + k))), (0, .ref mo), (1, .int (nI i)), (2, .int (nI k))]) hx hb dX8_isKey_60 rfl hl (by decide) rfl (fun ls hl => ?_)
            refine lv_iload_n hx hb dX8_isKey_61 rfl (lv_at hl 0 rfl) ?_
            refine lv_aload_n hx hb dX8_isKey_62 rfl (lv_at hl 1 rfl) ?_
            refine fg_X8_7 hC hM mq_F rfl dX8_isKey_63 ?_
            refine lv_bipush (v := 8) hx hb dX8_isKey_66 (by decide) ?_
            refine lv_iload_n hx hb dX8_isKey_68 rfl (lv_at hl 2 rfl) ?_
            refine lv_imul hx hb dX8_isKey_69 ?_
            refine lv_iload_n hx hb dX8_isKey_70 rfl (lv_at hl 3 rfl) ?_
            refine lv_iadd hx hb dX8_isKey_71 ?_
            refine me_iald (k := 8 * i + k) hC hM mq_ky (nx_add (nx_mul (nx_c 8) rfl) rfl) (by omega) (by decide) dX8_isKey_72 ?_
            refine lv_icmp_eq (tgt := 78) hx hb dX8_isKey_73 (by decide) (fun c_6 => ?_) (fun c_6 => ?_)
            · refine lv_iinc (v := nI (k + 1)) (lv' := [(2, .int (nI (k + 1))), (3, .int (ip (qFr pq + k))), (0, .ref mo), (1, .int (nI i))]) hx hb dX8_isKey_78 hl (k := 3) rfl (nx_add rfl rfl) (by decide) rfl (fun ls hl => ?_)
              refine lv_goto (tgt := 26) hx hb dX8_isKey_81 (by decide) ?_
              exact ih_26 r1 (by omega) (k + 1) _ _ _ (by omega) (fun j hj2 => by rcases Nat.lt_succ_iff_lt_or_eq.mp hj2 with z | z; exact hj j z; rw [z, if_pos (by omega)]; exact c_6) hM (lv_sub hl [2, 3, 0] rfl)
            · refine lv_iconst (v := 0) hx hb dX8_isKey_76 (by decide) ?_
              exact me_zret hC hr hlk hM (b1_f (fun z => c_6 (by have e := z.2.2 k (by omega); rw [if_pos (by omega)] at e; exact e))) (by first | decide | simp) (rfl) (rfl) dX8_isKey_77
      exact lp_26 8 0 _ _ _ (by omega) (fun j hj => by omega) hM (lv_sub hl [1, 2, 0] rfl)
    · have c_2 := (not_congr (br_le (nx_sub rfl rfl (by omega)) (nx_c 8) (by omega) (by omega))).mp c_2
      refine lv_iconst (v := 0) hx hb dX8_isKey_22 (by decide) ?_
      exact me_zret hC hr hlk hM (b1_f (fun z => absurd z.2.1 (by omega))) (by first | decide | simp) (rfl) (rfl) dX8_isKey_23
set_option maxHeartbeats 4000000 in
theorem c_X8_here (l : Launch) (D : va_G) (tb : Nat → ClassId) (X : State → Prop) (z0 n : Nat) (mo : Nat) (F w av od sv sl nz ip ot : Nat → Int32) (M0 : me_M) (len : Nat) (pq : QS) (y9 z9 : Int32)  (hln : F 7 = nI len) (hln0 : len ≤ 700) (hq : qvP len pq) : Met l yX8_here (.code yX8_here cX8_here 3 (some .int) :: ws_all) ({ frames := 1, cells := 0, slots := 0, locals := 22 } : Room) (me_Pc [.ref mo, .int y9, .int z9] D tb X z0 (mq tb mo (pqF F (pq)) w av od sv sl nz ip ot M0) n) (me_Qi D z0 (heV y9 z9 pq) (mq tb mo (pqF F (heQ y9 z9 pq)) w av od sv sl nz ip ot M0) n) 0 0 (me_A z0) := by
  refine me_open (by decide) (Nat.le_of_ble_eq_true rfl) ?_
  intro p e s m args below meth c ls hC hr hlk hnm hM hl
  have hl : lv_has ls 3 [(0, .ref mo), (1, .int y9), (2, .int z9)] := hl
  have hx := hC.1
  have hb := hC.2.1
  have hw := hC.2.2.2.2.1
  obtain ⟨hq1, hq2, hq3, hq4⟩ := id hq
  refine lv_aload_n hx hb dX8_here_0 rfl (lv_at hl 0 rfl) ?_
  refine fg_X8_187 hC hM mq_F rfl dX8_here_1 ?_
  refine me_evi (y := nI (qFl pq)) rfl ?_
  refine lv_if_ne (tgt := 20) hx hb dX8_here_4 (by decide) (fun c_1 => ?_) (fun c_1 => ?_)
  · have c_1 := (not_congr (br_eq rfl (show (0 : Int32) = nI 0 from rfl) (by omega) (by omega))).mp c_1
    have hM := hM.eq (M2 := mq tb mo (pqF F (he1 pq)) w av od sv sl nz ip ot M0) (mq_ps (by unfold he1; rw [if_neg (fun z => c_1 z.1)]))
    obtain ⟨hz1_, hz2_, hz3_, hz4_⟩ := id (show qvP len (he1 pq) from (qv_h1 hq))
    refine lv_aload_n hx hb dX8_here_20 rfl (lv_at hl 0 rfl) ?_
    refine fg_X8_187 hC hM mq_F rfl dX8_here_21 ?_
    refine me_evi (y := nI (qFl (he1 pq))) rfl ?_
    refine lv_if_ne (tgt := 44) hx hb dX8_here_24 (by decide) (fun c_2 => ?_) (fun c_2 => ?_)
    · have c_2 := (not_congr (br_eq rfl (show (0 : Int32) = nI 0 from rfl) (by omega) (by omega))).mp c_2
      have hM := hM.eq (M2 := mq tb mo (pqF F (heQ y9 z9 pq)) w av od sv sl nz ip ot M0) (mq_ps (by unfold heQ; rw [if_neg (fun z => c_2 z.1)]))
      obtain ⟨hz1_, hz2_, hz3_, hz4_⟩ := id (show qvP len (heQ y9 z9 pq) from (qv_he hq))
      refine lv_aload_n hx hb dX8_here_44 rfl (lv_at hl 0 rfl) ?_
      refine fg_X8_187 hC hM mq_F rfl dX8_here_45 ?_
      refine me_evi (y := nI (qFl (heQ y9 z9 pq))) rfl ?_
      refine lv_if_ne (tgt := 58) hx hb dX8_here_48 (by decide) (fun c_3 => ?_) (fun c_3 => ?_)
      · have c_3 := (not_congr (br_eq rfl (show (0 : Int32) = nI 0 from rfl) (by omega) (by omega))).mp c_3
        refine lv_iload_n hx hb dX8_here_58 rfl (lv_at hl 1 rfl) ?_
        exact me_iret hC hr hlk hM (by unfold heV; rw [if_neg c_3]) (rfl) (rfl) dX8_here_59
      · have c_3 := (br_eq rfl (show (0 : Int32) = nI 0 from rfl) (by omega) (by omega)).mp c_3
        refine lv_aload_n hx hb dX8_here_51 rfl (lv_at hl 0 rfl) ?_
        refine fg_X8_184 hC hM mq_F rfl dX8_here_52 ?_
        refine me_evi (y := qVa (heQ y9 z9 pq)) rfl ?_
        refine lv_goto (tgt := 59) hx hb dX8_here_55 (by decide) ?_
        exact me_iret hC hr hlk hM (by unfold heV; rw [if_pos c_3]) (rfl) (rfl) dX8_here_59
    · have c_2 := (br_eq rfl (show (0 : Int32) = nI 0 from rfl) (by omega) (by omega)).mp c_2
      refine lv_aload_n hx hb dX8_here_27 rfl (lv_at hl 0 rfl) ?_
      refine fg_X8_184 hC hM mq_F rfl dX8_here_28 ?_
      refine me_evi (y := qVa (he1 pq)) rfl ?_
      refine lv_iload_n hx hb dX8_here_31 rfl (lv_at hl 1 rfl) ?_
      refine lv_iload_n hx hb dX8_here_32 rfl (lv_at hl 2 rfl) ?_
      refine me_callSi (As := [.int (qVa (he1 pq)), .int y9, .int z9]) (rest := []) hC hl.1 hM (c_X8_in l D tb X z0 n _ (qVa (he1 pq)) y9 z9 ) (ks_X8_67 hw rfl rfl ⟨Nat.le_of_ble_eq_true rfl, Nat.le_of_ble_eq_true rfl⟩) rfl rfl (Nat.le_of_ble_eq_true rfl) dX8_here_33 ⟨Nat.le_of_ble_eq_true rfl, Nat.le_of_ble_eq_true rfl⟩ (fun H locs hM => ?_)
      refine lv_if_ne (tgt := 44) hx hb dX8_here_36 (by decide) (fun c_4 => ?_) (fun c_4 => ?_)
      · have c_4 := b1_n0.mp c_4
        have hM := hM.eq (M2 := mq tb mo (pqF F (heQ y9 z9 pq)) w av od sv sl nz ip ot M0) (mq_ps (by unfold heQ; rw [if_neg (fun z => z.2 c_4)]))
        obtain ⟨hz1_, hz2_, hz3_, hz4_⟩ := id (show qvP len (heQ y9 z9 pq) from (qv_he hq))
        refine lv_aload_n hx hb dX8_here_44 rfl (lv_at hl 0 rfl) ?_
        refine fg_X8_187 hC hM mq_F rfl dX8_here_45 ?_
        refine me_evi (y := nI (qFl (heQ y9 z9 pq))) rfl ?_
        refine lv_if_ne (tgt := 58) hx hb dX8_here_48 (by decide) (fun c_5 => ?_) (fun c_5 => ?_)
        · have c_5 := (not_congr (br_eq rfl (show (0 : Int32) = nI 0 from rfl) (by omega) (by omega))).mp c_5
          refine lv_iload_n hx hb dX8_here_58 rfl (lv_at hl 1 rfl) ?_
          exact me_iret hC hr hlk hM (by unfold heV; rw [if_neg c_5]) (rfl) (rfl) dX8_here_59
        · have c_5 := (br_eq rfl (show (0 : Int32) = nI 0 from rfl) (by omega) (by omega)).mp c_5
          refine lv_aload_n hx hb dX8_here_51 rfl (lv_at hl 0 rfl) ?_
          refine fg_X8_184 hC hM mq_F rfl dX8_here_52 ?_
          refine me_evi (y := qVa (heQ y9 z9 pq)) rfl ?_
          refine lv_goto (tgt := 59) hx hb dX8_here_55 (by decide) ?_
          exact me_iret hC hr hlk hM (by unfold heV; rw [if_pos c_5]) (rfl) (rfl) dX8_here_59
      · have c_4 := b1_0.mp c_4
        refine lv_aload_n hx hb dX8_here_39 rfl (lv_at hl 0 rfl) ?_
        refine lv_iconst (v := 2) hx hb dX8_here_40 (by decide) ?_
        refine me_stk (st2 := [.int (nI 2), .ref mo]) (by rw [(nx_c 2)]) ?_
        refine me_callVv (As := [.int (nI 2)]) (rest := []) hC hl.1 hM (c_X8_errs l D tb X z0 n mo F w av od sv sl nz ip ot M0 len (he1 pq) 2 hln hln0 (qv_h1 hq) (by omega)) (kv_X8_196 hw rfl rfl ⟨Nat.le_of_ble_eq_true rfl, Nat.le_of_ble_eq_true rfl⟩) rfl rfl mq_F rfl (Nat.le_of_ble_eq_true rfl) dX8_here_41 ⟨Nat.le_of_ble_eq_true rfl, Nat.le_of_ble_eq_true rfl⟩ (fun H locs hM => ?_)
        obtain ⟨hz1_, hz2_, hz3_, hz4_⟩ := id (show qvP len (erP 2 (he1 pq)) from (qv_er (qv_h1 hq) (by omega)))
        have hM := hM.eq (M2 := mq tb mo (pqF F (heQ y9 z9 pq)) w av od sv sl nz ip ot M0) (mq_ps (by unfold heQ; rw [if_pos ⟨c_2, c_4⟩]))
        obtain ⟨hz1_, hz2_, hz3_, hz4_⟩ := id (show qvP len (heQ y9 z9 pq) from (qv_he hq))
        refine lv_aload_n hx hb dX8_here_44 rfl (lv_at hl 0 rfl) ?_
        refine fg_X8_187 hC hM mq_F rfl dX8_here_45 ?_
        refine me_evi (y := nI (qFl (heQ y9 z9 pq))) rfl ?_
        refine lv_if_ne (tgt := 58) hx hb dX8_here_48 (by decide) (fun c_6 => ?_) (fun c_6 => ?_)
        · have c_6 := (not_congr (br_eq rfl (show (0 : Int32) = nI 0 from rfl) (by omega) (by omega))).mp c_6
          refine lv_iload_n hx hb dX8_here_58 rfl (lv_at hl 1 rfl) ?_
          exact me_iret hC hr hlk hM (by unfold heV; rw [if_neg c_6]) (rfl) (rfl) dX8_here_59
        · have c_6 := (br_eq rfl (show (0 : Int32) = nI 0 from rfl) (by omega) (by omega)).mp c_6
          refine lv_aload_n hx hb dX8_here_51 rfl (lv_at hl 0 rfl) ?_
          refine fg_X8_184 hC hM mq_F rfl dX8_here_52 ?_
          refine me_evi (y := qVa (heQ y9 z9 pq)) rfl ?_
          refine lv_goto (tgt := 59) hx hb dX8_here_55 (by decide) ?_
          exact me_iret hC hr hlk hM (by unfold heV; rw [if_pos c_6]) (rfl) (rfl) dX8_here_59
  · have c_1 := (br_eq rfl (show (0 : Int32) = nI 0 from rfl) (by omega) (by omega)).mp c_1
    refine lv_aload_n hx hb dX8_here_7 rfl (lv_at hl 0 rfl) ?_
    refine fg_X8_166 hC hM mq_F rfl dX8_here_8 ?_
    refine me_evi (y := nI (qKd pq)) rfl ?_
    refine lv_iconst (v := 2) hx hb dX8_here_11 (by decide) ?_
    refine lv_icmp_eq (tgt := 20) hx hb dX8_here_12 (by decide) (fun c_7 => ?_) (fun c_7 => ?_)
    · have c_7 := (br_eq rfl (nx_c 2) (by omega) (by omega)).mp c_7
      have hM := hM.eq (M2 := mq tb mo (pqF F (he1 pq)) w av od sv sl nz ip ot M0) (mq_ps (by unfold he1; rw [if_neg (fun z => z.2 c_7)]))
      obtain ⟨hz1_, hz2_, hz3_, hz4_⟩ := id (show qvP len (he1 pq) from (qv_h1 hq))
      refine lv_aload_n hx hb dX8_here_20 rfl (lv_at hl 0 rfl) ?_
      refine fg_X8_187 hC hM mq_F rfl dX8_here_21 ?_
      refine me_evi (y := nI (qFl (he1 pq))) rfl ?_
      refine lv_if_ne (tgt := 44) hx hb dX8_here_24 (by decide) (fun c_8 => ?_) (fun c_8 => ?_)
      · have c_8 := (not_congr (br_eq rfl (show (0 : Int32) = nI 0 from rfl) (by omega) (by omega))).mp c_8
        have hM := hM.eq (M2 := mq tb mo (pqF F (heQ y9 z9 pq)) w av od sv sl nz ip ot M0) (mq_ps (by unfold heQ; rw [if_neg (fun z => c_8 z.1)]))
        obtain ⟨hz1_, hz2_, hz3_, hz4_⟩ := id (show qvP len (heQ y9 z9 pq) from (qv_he hq))
        refine lv_aload_n hx hb dX8_here_44 rfl (lv_at hl 0 rfl) ?_
        refine fg_X8_187 hC hM mq_F rfl dX8_here_45 ?_
        refine me_evi (y := nI (qFl (heQ y9 z9 pq))) rfl ?_
        refine lv_if_ne (tgt := 58) hx hb dX8_here_48 (by decide) (fun c_9 => ?_) (fun c_9 => ?_)
        · have c_9 := (not_congr (br_eq rfl (show (0 : Int32) = nI 0 from rfl) (by omega) (by omega))).mp c_9
          refine lv_iload_n hx hb dX8_here_58 rfl (lv_at hl 1 rfl) ?_
          exact me_iret hC hr hlk hM (by unfold heV; rw [if_neg c_9]) (rfl) (rfl) dX8_here_59
        · have c_9 := (br_eq rfl (show (0 : Int32) = nI 0 from rfl) (by omega) (by omega)).mp c_9
          refine lv_aload_n hx hb dX8_here_51 rfl (lv_at hl 0 rfl) ?_
          refine fg_X8_184 hC hM mq_F rfl dX8_here_52 ?_
          refine me_evi (y := qVa (heQ y9 z9 pq)) rfl ?_
          refine lv_goto (tgt := 59) hx hb dX8_here_55 (by decide) ?_
          exact me_iret hC hr hlk hM (by unfold heV; rw [if_pos c_9]) (rfl) (rfl) dX8_here_59
      · have c_8 := (br_eq rfl (show (0 : Int32) = nI 0 from rfl) (by omega) (by omega)).mp c_8
        refine lv_aload_n hx hb dX8_here_27 rfl (lv_at hl 0 rfl) ?_
        refine fg_X8_184 hC hM mq_F rfl dX8_here_28 ?_
        refine me_evi (y := qVa (he1 pq)) rfl ?_
        refine lv_iload_n hx hb dX8_here_31 rfl (lv_at hl 1 rfl) ?_
        refine lv_iload_n hx hb dX8_here_32 rfl (lv_at hl 2 rfl) ?_
        refine me_callSi (As := [.int (qVa (he1 pq)), .int y9, .int z9]) (rest := []) hC hl.1 hM (c_X8_in l D tb X z0 n _ (qVa (he1 pq)) y9 z9 ) (ks_X8_67 hw rfl rfl ⟨Nat.le_of_ble_eq_true rfl, Nat.le_of_ble_eq_true rfl⟩) rfl rfl (Nat.le_of_ble_eq_true rfl) dX8_here_33 ⟨Nat.le_of_ble_eq_true rfl, Nat.le_of_ble_eq_true rfl⟩ (fun H locs hM => ?_)
        refine lv_if_ne (tgt := 44) hx hb dX8_here_36 (by decide) (fun c_10 => ?_) (fun c_10 => ?_)
        · have c_10 := b1_n0.mp c_10
          have hM := hM.eq (M2 := mq tb mo (pqF F (heQ y9 z9 pq)) w av od sv sl nz ip ot M0) (mq_ps (by unfold heQ; rw [if_neg (fun z => z.2 c_10)]))
          obtain ⟨hz1_, hz2_, hz3_, hz4_⟩ := id (show qvP len (heQ y9 z9 pq) from (qv_he hq))
          refine lv_aload_n hx hb dX8_here_44 rfl (lv_at hl 0 rfl) ?_
          refine fg_X8_187 hC hM mq_F rfl dX8_here_45 ?_
          refine me_evi (y := nI (qFl (heQ y9 z9 pq))) rfl ?_
          refine lv_if_ne (tgt := 58) hx hb dX8_here_48 (by decide) (fun c_11 => ?_) (fun c_11 => ?_)
          · have c_11 := (not_congr (br_eq rfl (show (0 : Int32) = nI 0 from rfl) (by omega) (by omega))).mp c_11
            refine lv_iload_n hx hb dX8_here_58 rfl (lv_at hl 1 rfl) ?_
            exact me_iret hC hr hlk hM (by unfold heV; rw [if_neg c_11]) (rfl) (rfl) dX8_here_59
          · have c_11 := (br_eq rfl (show (0 : Int32) = nI 0 from rfl) (by omega) (by omega)).mp c_11
            refine lv_aload_n hx hb dX8_here_51 rfl (lv_at hl 0 rfl) ?_
            refine fg_X8_184 hC hM mq_F rfl dX8_here_52 ?_
            refine me_evi (y := qVa (heQ y9 z9 pq)) rfl ?_
            refine lv_goto (tgt := 59) hx hb dX8_here_55 (by decide) ?_
            exact me_iret hC hr hlk hM (by unfold heV; rw [if_pos c_11]) (rfl) (rfl) dX8_here_59
        · have c_10 := b1_0.mp c_10
          refine lv_aload_n hx hb dX8_here_39 rfl (lv_at hl 0 rfl) ?_
          refine lv_iconst (v := 2) hx hb dX8_here_40 (by decide) ?_
          refine me_stk (st2 := [.int (nI 2), .ref mo]) (by rw [(nx_c 2)]) ?_
          refine me_callVv (As := [.int (nI 2)]) (rest := []) hC hl.1 hM (c_X8_errs l D tb X z0 n mo F w av od sv sl nz ip ot M0 len (he1 pq) 2 hln hln0 (qv_h1 hq) (by omega)) (kv_X8_196 hw rfl rfl ⟨Nat.le_of_ble_eq_true rfl, Nat.le_of_ble_eq_true rfl⟩) rfl rfl mq_F rfl (Nat.le_of_ble_eq_true rfl) dX8_here_41 ⟨Nat.le_of_ble_eq_true rfl, Nat.le_of_ble_eq_true rfl⟩ (fun H locs hM => ?_)
          obtain ⟨hz1_, hz2_, hz3_, hz4_⟩ := id (show qvP len (erP 2 (he1 pq)) from (qv_er (qv_h1 hq) (by omega)))
          have hM := hM.eq (M2 := mq tb mo (pqF F (heQ y9 z9 pq)) w av od sv sl nz ip ot M0) (mq_ps (by unfold heQ; rw [if_pos ⟨c_8, c_10⟩]))
          obtain ⟨hz1_, hz2_, hz3_, hz4_⟩ := id (show qvP len (heQ y9 z9 pq) from (qv_he hq))
          refine lv_aload_n hx hb dX8_here_44 rfl (lv_at hl 0 rfl) ?_
          refine fg_X8_187 hC hM mq_F rfl dX8_here_45 ?_
          refine me_evi (y := nI (qFl (heQ y9 z9 pq))) rfl ?_
          refine lv_if_ne (tgt := 58) hx hb dX8_here_48 (by decide) (fun c_12 => ?_) (fun c_12 => ?_)
          · have c_12 := (not_congr (br_eq rfl (show (0 : Int32) = nI 0 from rfl) (by omega) (by omega))).mp c_12
            refine lv_iload_n hx hb dX8_here_58 rfl (lv_at hl 1 rfl) ?_
            exact me_iret hC hr hlk hM (by unfold heV; rw [if_neg c_12]) (rfl) (rfl) dX8_here_59
          · have c_12 := (br_eq rfl (show (0 : Int32) = nI 0 from rfl) (by omega) (by omega)).mp c_12
            refine lv_aload_n hx hb dX8_here_51 rfl (lv_at hl 0 rfl) ?_
            refine fg_X8_184 hC hM mq_F rfl dX8_here_52 ?_
            refine me_evi (y := qVa (heQ y9 z9 pq)) rfl ?_
            refine lv_goto (tgt := 59) hx hb dX8_here_55 (by decide) ?_
            exact me_iret hC hr hlk hM (by unfold heV; rw [if_pos c_12]) (rfl) (rfl) dX8_here_59
    · have c_7 := (not_congr (br_eq rfl (nx_c 2) (by omega) (by omega))).mp c_7
      refine lv_aload_n hx hb dX8_here_15 rfl (lv_at hl 0 rfl) ?_
      refine lv_iconst (v := 1) hx hb dX8_here_16 (by decide) ?_
      refine me_stk (st2 := [.int (nI 1), .ref mo]) (by rw [(show (1 : Int32) = nI 1 from rfl)]) ?_
      refine me_callVv (As := [.int (nI 1)]) (rest := []) hC hl.1 hM (c_X8_errs l D tb X z0 n mo F w av od sv sl nz ip ot M0 len pq 1 hln hln0 hq (by omega)) (kv_X8_196 hw rfl rfl ⟨Nat.le_of_ble_eq_true rfl, Nat.le_of_ble_eq_true rfl⟩) rfl rfl mq_F rfl (Nat.le_of_ble_eq_true rfl) dX8_here_17 ⟨Nat.le_of_ble_eq_true rfl, Nat.le_of_ble_eq_true rfl⟩ (fun H locs hM => ?_)
      obtain ⟨hz1_, hz2_, hz3_, hz4_⟩ := id (show qvP len (erP 1 pq) from (qv_er hq (by omega)))
      have hM := hM.eq (M2 := mq tb mo (pqF F (he1 pq)) w av od sv sl nz ip ot M0) (mq_ps (by unfold he1; rw [if_pos ⟨c_1, c_7⟩]))
      obtain ⟨hz1_, hz2_, hz3_, hz4_⟩ := id (show qvP len (he1 pq) from (qv_h1 hq))
      refine lv_aload_n hx hb dX8_here_20 rfl (lv_at hl 0 rfl) ?_
      refine fg_X8_187 hC hM mq_F rfl dX8_here_21 ?_
      refine me_evi (y := nI (qFl (he1 pq))) rfl ?_
      refine lv_if_ne (tgt := 44) hx hb dX8_here_24 (by decide) (fun c_13 => ?_) (fun c_13 => ?_)
      · have c_13 := (not_congr (br_eq rfl (show (0 : Int32) = nI 0 from rfl) (by omega) (by omega))).mp c_13
        have hM := hM.eq (M2 := mq tb mo (pqF F (heQ y9 z9 pq)) w av od sv sl nz ip ot M0) (mq_ps (by unfold heQ; rw [if_neg (fun z => c_13 z.1)]))
        obtain ⟨hz1_, hz2_, hz3_, hz4_⟩ := id (show qvP len (heQ y9 z9 pq) from (qv_he hq))
        refine lv_aload_n hx hb dX8_here_44 rfl (lv_at hl 0 rfl) ?_
        refine fg_X8_187 hC hM mq_F rfl dX8_here_45 ?_
        refine me_evi (y := nI (qFl (heQ y9 z9 pq))) rfl ?_
        refine lv_if_ne (tgt := 58) hx hb dX8_here_48 (by decide) (fun c_14 => ?_) (fun c_14 => ?_)
        · have c_14 := (not_congr (br_eq rfl (show (0 : Int32) = nI 0 from rfl) (by omega) (by omega))).mp c_14
          refine lv_iload_n hx hb dX8_here_58 rfl (lv_at hl 1 rfl) ?_
          exact me_iret hC hr hlk hM (by unfold heV; rw [if_neg c_14]) (rfl) (rfl) dX8_here_59
        · have c_14 := (br_eq rfl (show (0 : Int32) = nI 0 from rfl) (by omega) (by omega)).mp c_14
          refine lv_aload_n hx hb dX8_here_51 rfl (lv_at hl 0 rfl) ?_
          refine fg_X8_184 hC hM mq_F rfl dX8_here_52 ?_
          refine me_evi (y := qVa (heQ y9 z9 pq)) rfl ?_
          refine lv_goto (tgt := 59) hx hb dX8_here_55 (by decide) ?_
          exact me_iret hC hr hlk hM (by unfold heV; rw [if_pos c_14]) (rfl) (rfl) dX8_here_59
      · have c_13 := (br_eq rfl (show (0 : Int32) = nI 0 from rfl) (by omega) (by omega)).mp c_13
        refine lv_aload_n hx hb dX8_here_27 rfl (lv_at hl 0 rfl) ?_
        refine fg_X8_184 hC hM mq_F rfl dX8_here_28 ?_
        refine me_evi (y := qVa (he1 pq)) rfl ?_
        refine lv_iload_n hx hb dX8_here_31 rfl (lv_at hl 1 rfl) ?_
        refine lv_iload_n hx hb dX8_here_32 rfl (lv_at hl 2 rfl) ?_
        refine me_callSi (As := [.int (qVa (he1 pq)), .int y9, .int z9]) (rest := []) hC hl.1 hM (c_X8_in l D tb X z0 n _ (qVa (he1 pq)) y9 z9 ) (ks_X8_67 hw rfl rfl ⟨Nat.le_of_ble_eq_true rfl, Nat.le_of_ble_eq_true rfl⟩) rfl rfl (Nat.le_of_ble_eq_true rfl) dX8_here_33 ⟨Nat.le_of_ble_eq_true rfl, Nat.le_of_ble_eq_true rfl⟩ (fun H locs hM => ?_)
        refine lv_if_ne (tgt := 44) hx hb dX8_here_36 (by decide) (fun c_15 => ?_) (fun c_15 => ?_)
        · have c_15 := b1_n0.mp c_15
          have hM := hM.eq (M2 := mq tb mo (pqF F (heQ y9 z9 pq)) w av od sv sl nz ip ot M0) (mq_ps (by unfold heQ; rw [if_neg (fun z => z.2 c_15)]))
          obtain ⟨hz1_, hz2_, hz3_, hz4_⟩ := id (show qvP len (heQ y9 z9 pq) from (qv_he hq))
          refine lv_aload_n hx hb dX8_here_44 rfl (lv_at hl 0 rfl) ?_
          refine fg_X8_187 hC hM mq_F rfl dX8_here_45 ?_
          refine me_evi (y := nI (qFl (heQ y9 z9 pq))) rfl ?_
          refine lv_if_ne (tgt := 58) hx hb dX8_here_48 (by decide) (fun c_16 => ?_) (fun c_16 => ?_)
          · have c_16 := (not_congr (br_eq rfl (show (0 : Int32) = nI 0 from rfl) (by omega) (by omega))).mp c_16
            refine lv_iload_n hx hb dX8_here_58 rfl (lv_at hl 1 rfl) ?_
            exact me_iret hC hr hlk hM (by unfold heV; rw [if_neg c_16]) (rfl) (rfl) dX8_here_59
          · have c_16 := (br_eq rfl (show (0 : Int32) = nI 0 from rfl) (by omega) (by omega)).mp c_16
            refine lv_aload_n hx hb dX8_here_51 rfl (lv_at hl 0 rfl) ?_
            refine fg_X8_184 hC hM mq_F rfl dX8_here_52 ?_
            refine me_evi (y := qVa (heQ y9 z9 pq)) rfl ?_
            refine lv_goto (tgt := 59) hx hb dX8_here_55 (by decide) ?_
            exact me_iret hC hr hlk hM (by unfold heV; rw [if_pos c_16]) (rfl) (rfl) dX8_here_59
        · have c_15 := b1_0.mp c_15
          refine lv_aload_n hx hb dX8_here_39 rfl (lv_at hl 0 rfl) ?_
          refine lv_iconst (v := 2) hx hb dX8_here_40 (by decide) ?_
          refine me_stk (st2 := [.int (nI 2), .ref mo]) (by rw [(nx_c 2)]) ?_
          refine me_callVv (As := [.int (nI 2)]) (rest := []) hC hl.1 hM (c_X8_errs l D tb X z0 n mo F w av od sv sl nz ip ot M0 len (he1 pq) 2 hln hln0 (qv_h1 hq) (by omega)) (kv_X8_196 hw rfl rfl ⟨Nat.le_of_ble_eq_true rfl, Nat.le_of_ble_eq_true rfl⟩) rfl rfl mq_F rfl (Nat.le_of_ble_eq_true rfl) dX8_here_41 ⟨Nat.le_of_ble_eq_true rfl, Nat.le_of_ble_eq_true rfl⟩ (fun H locs hM => ?_)
          obtain ⟨hz1_, hz2_, hz3_, hz4_⟩ := id (show qvP len (erP 2 (he1 pq)) from (qv_er (qv_h1 hq) (by omega)))
          have hM := hM.eq (M2 := mq tb mo (pqF F (heQ y9 z9 pq)) w av od sv sl nz ip ot M0) (mq_ps (by unfold heQ; rw [if_pos ⟨c_13, c_15⟩]))
          obtain ⟨hz1_, hz2_, hz3_, hz4_⟩ := id (show qvP len (heQ y9 z9 pq) from (qv_he hq))
          refine lv_aload_n hx hb dX8_here_44 rfl (lv_at hl 0 rfl) ?_
          refine fg_X8_187 hC hM mq_F rfl dX8_here_45 ?_
          refine me_evi (y := nI (qFl (heQ y9 z9 pq))) rfl ?_
          refine lv_if_ne (tgt := 58) hx hb dX8_here_48 (by decide) (fun c_17 => ?_) (fun c_17 => ?_)
          · have c_17 := (not_congr (br_eq rfl (show (0 : Int32) = nI 0 from rfl) (by omega) (by omega))).mp c_17
            refine lv_iload_n hx hb dX8_here_58 rfl (lv_at hl 1 rfl) ?_
            exact me_iret hC hr hlk hM (by unfold heV; rw [if_neg c_17]) (rfl) (rfl) dX8_here_59
          · have c_17 := (br_eq rfl (show (0 : Int32) = nI 0 from rfl) (by omega) (by omega)).mp c_17
            refine lv_aload_n hx hb dX8_here_51 rfl (lv_at hl 0 rfl) ?_
            refine fg_X8_184 hC hM mq_F rfl dX8_here_52 ?_
            refine me_evi (y := qVa (heQ y9 z9 pq)) rfl ?_
            refine lv_goto (tgt := 59) hx hb dX8_here_55 (by decide) ?_
            exact me_iret hC hr hlk hM (by unfold heV; rw [if_pos c_17]) (rfl) (rfl) dX8_here_59
set_option maxHeartbeats 4000000 in
theorem c_X8_takesNumber (l : Launch) (D : va_G) (tb : Nat → ClassId) (X : State → Prop) (z0 n : Nat) (mo : Nat) (F w av od sv sl nz ip ot : Nat → Int32) (M0 : me_M) (len : Nat) (pq : QS) (y9 z9 : Int32)  (hln : F 7 = nI len) (hln0 : len ≤ 700) (hq : qvP len pq) : Met l yX8_takesNumber (.code yX8_takesNumber cX8_takesNumber 4 (some .int) :: ws_all) ({ frames := 3, cells := 0, slots := 0, locals := 62 } : Room) (me_Pc [.ref mo, .int y9, .int z9] D tb X z0 (mq tb mo (pqF F (pq)) w av od sv sl nz ip ot M0) n) (me_Qi D z0 (heV y9 z9 pq) (mq tb mo (pqF F (tnQ ip len y9 z9 pq)) w av od sv sl nz ip ot M0) n) 0 0 (me_A z0) := by
  refine me_open (by decide) (Nat.le_of_ble_eq_true rfl) ?_
  intro p e s m args below meth c ls hC hr hlk hnm hM hl
  have hl : lv_has ls 4 [(0, .ref mo), (1, .int y9), (2, .int z9)] := hl
  have hx := hC.1
  have hb := hC.2.1
  have hw := hC.2.2.2.2.1
  obtain ⟨hq1, hq2, hq3, hq4⟩ := id hq
  refine lv_aload_n hx hb dX8_takesNumber_0 rfl (lv_at hl 0 rfl) ?_
  refine lv_iload_n hx hb dX8_takesNumber_1 rfl (lv_at hl 1 rfl) ?_
  refine lv_iload_n hx hb dX8_takesNumber_2 rfl (lv_at hl 2 rfl) ?_
  refine me_callVi (As := [.int y9, .int z9]) (rest := []) hC hl.1 hM (c_X8_here l D tb X z0 n mo F w av od sv sl nz ip ot M0 len pq y9 z9 hln hln0 hq ) (kv_X8_199 hw rfl rfl ⟨Nat.le_of_ble_eq_true rfl, Nat.le_of_ble_eq_true rfl⟩) rfl rfl mq_F rfl (Nat.le_of_ble_eq_true rfl) dX8_takesNumber_3 ⟨Nat.le_of_ble_eq_true rfl, Nat.le_of_ble_eq_true rfl⟩ (fun H locs hM => ?_)
  obtain ⟨hz1_, hz2_, hz3_, hz4_⟩ := id (show qvP len (heQ y9 z9 pq) from (qv_he hq))
  refine lv_istore_n (lv' := [(3, .int (heV y9 z9 pq)), (0, .ref mo), (1, .int y9), (2, .int z9)]) hx hb dX8_takesNumber_6 rfl hl (by decide) rfl (fun ls hl => ?_)
  refine lv_aload_n hx hb dX8_takesNumber_7 rfl (lv_at hl 1 rfl) ?_
  refine me_callVv (As := []) (rest := []) hC hl.1 hM (c_X8_goesOn l D tb X z0 n mo F w av od sv sl nz ip ot M0 len (heQ y9 z9 pq)  hln hln0 (qv_he hq) ) (kv_X8_202 hw rfl rfl ⟨Nat.le_of_ble_eq_true rfl, Nat.le_of_ble_eq_true rfl⟩) rfl rfl mq_F rfl (Nat.le_of_ble_eq_true rfl) dX8_takesNumber_8 ⟨Nat.le_of_ble_eq_true rfl, Nat.le_of_ble_eq_true rfl⟩ (fun H locs hM => ?_)
  obtain ⟨hz1_, hz2_, hz3_, hz4_⟩ := id (show qvP len (gnP ip len (heQ y9 z9 pq)) from (qv_gn (qv_he hq)))
  refine lv_iload_n hx hb dX8_takesNumber_11 rfl (lv_at hl 0 rfl) ?_
  exact me_iret hC hr hlk hM (rfl) (rfl) (rfl) dX8_takesNumber_12
set_option maxHeartbeats 4000000 in
theorem c_X8_spellsHere (l : Launch) (D : va_G) (tb : Nat → ClassId) (X : State → Prop) (z0 n : Nat) (mo : Nat) (F w av od sv sl nz ip ot : Nat → Int32) (M0 : me_M) (len : Nat) (pq : QS)  (hln : F 7 = nI len) (hln0 : len ≤ 700) (hq : qvP len pq) : Met l yX8_spellsHere (.code yX8_spellsHere cX8_spellsHere 2 none :: ws_all) ({ frames := 1, cells := 0, slots := 0, locals := 21 } : Room) (me_Pc [.ref mo] D tb X z0 (mq tb mo (pqF F (pq)) w av od sv sl nz ip ot M0) n) (me_Qv D z0 (mq tb mo (pqF F (sp1 pq)) w av od sv (slN ip sl (sp1 pq)) nz ip ot M0) n) 0 0 (me_A z0) := by
  refine me_open (by decide) (Nat.le_of_ble_eq_true rfl) ?_
  intro p e s m args below meth c ls hC hr hlk hnm hM hl
  have hl : lv_has ls 2 [(0, .ref mo)] := hl
  have hx := hC.1
  have hb := hC.2.1
  have hw := hC.2.2.2.2.1
  obtain ⟨hq1, hq2, hq3, hq4⟩ := id hq
  refine lv_aload_n hx hb dX8_spellsHere_0 rfl (lv_at hl 0 rfl) ?_
  refine fg_X8_187 hC hM mq_F rfl dX8_spellsHere_1 ?_
  refine me_evi (y := nI (qFl pq)) rfl ?_
  refine lv_if_ne (tgt := 34) hx hb dX8_spellsHere_4 (by decide) (fun c_1 => ?_) (fun c_1 => ?_)
  · have c_1 := (not_congr (br_eq rfl (show (0 : Int32) = nI 0 from rfl) (by omega) (by omega))).mp c_1
    have hM := hM.eq (M2 := mq tb mo (pqF F (sp1 pq)) w av od sv sl nz ip ot M0) (mq_ps (by unfold sp1; rw [if_neg (fun z => c_1 z.1)]))
    obtain ⟨hz1_, hz2_, hz3_, hz4_⟩ := id (show qvP len (sp1 pq) from (qv_s1 hq))
    have hqs := qv_s1 hq
    obtain ⟨hs1, hs2, hs3, hs4⟩ := id hqs
    refine lv_iconst (v := 0) hx hb dX8_spellsHere_34 (by decide) ?_
    refine lv_istore_n (lv' := [(1, .int 0), (0, .ref mo)]) hx hb dX8_spellsHere_35 rfl hl (by decide) rfl (fun ls hl => ?_)
    have lp_36 : ∀ (r : Nat) (k : Nat) (H : Heap) (locs : List Loc) (ls : Array Slot), (k + r = 6) → (k = 0 ∨ qFl (sp1 pq) = 0) → me_at D z0 (mq tb mo (pqF F (sp1 pq)) w av od sv (cq sl (slF ip (sp1 pq)) 0 k) nz ip ot M0) n s H locs → lv_has ls 2 [(0, .ref mo), (1, .int (nI k))] → W p l e (({ frames := 1, cells := 0, slots := 0, locals := 21 } : Room)) s m args below meth c H locs 0 0 (MQ below (me_Qv D z0 (mq tb mo (pqF F (sp1 pq)) w av od sv (slN ip sl (sp1 pq)) nz ip ot M0) n) args s 0 0 (me_A z0)) (F0 m 36 ls []) := by
      intro r
      refine Nat.strongRecOn r ?_
      intro r ih_36 k H locs ls hk hk9 hM hl
      refine lv_iload_n hx hb dX8_spellsHere_36 rfl (lv_at hl 1 rfl) ?_
      refine lv_bipush (v := 6) hx hb dX8_spellsHere_37 (by decide) ?_
      refine lv_icmp_ge (tgt := 89) hx hb dX8_spellsHere_39 (by decide) (fun c_2 => ?_) (fun c_2 => ?_)
      · have c_2 := (br_le (nx_c 6) rfl (by omega) (by omega)).mp c_2
        exact me_vret hC hr hlk hM (by unfold slN; rw [if_pos (hk9.resolve_left (by omega)), show k = 6 by omega]) (rfl) dX8_spellsHere_89
      · have c_2 := (not_congr (br_le (nx_c 6) rfl (by omega) (by omega))).mp c_2
        obtain ⟨r1, rfl⟩ : ∃ r1, r = r1 + 1 := ⟨r - 1, by omega⟩
        refine lv_aload_n hx hb dX8_spellsHere_42 rfl (lv_at hl 0 rfl) ?_
        refine fg_X8_187 hC hM mq_F rfl dX8_spellsHere_43 ?_
        refine me_evi (y := nI (qFl (sp1 pq))) rfl ?_
        refine lv_if_ne (tgt := 89) hx hb dX8_spellsHere_46 (by decide) (fun c_3 => ?_) (fun c_3 => ?_)
        · have c_3 := (not_congr (br_eq rfl (show (0 : Int32) = nI 0 from rfl) (by omega) (by omega))).mp c_3
          exact me_vret hC hr hlk hM (by unfold slN; rw [if_neg c_3, show k = 0 from hk9.resolve_right c_3, cq_0]) (rfl) dX8_spellsHere_89
        · have c_3 := (br_eq rfl (show (0 : Int32) = nI 0 from rfl) (by omega) (by omega)).mp c_3
          refine lv_aload_n hx hb dX8_spellsHere_49 rfl (lv_at hl 0 rfl) ?_
          refine fg_X8_25 hC hM mq_F rfl dX8_spellsHere_50 ?_
          refine lv_iload_n hx hb dX8_spellsHere_53 rfl (lv_at hl 1 rfl) ?_
          refine lv_iload_n hx hb dX8_spellsHere_54 rfl (lv_at hl 1 rfl) ?_
          refine lv_aload_n hx hb dX8_spellsHere_55 rfl (lv_at hl 0 rfl) ?_
          refine fg_X8_169 hC hM mq_F rfl dX8_spellsHere_56 ?_
          refine me_evi (y := nI (qTo (sp1 pq))) rfl ?_
          refine lv_aload_n hx hb dX8_spellsHere_59 rfl (lv_at hl 0 rfl) ?_
          refine fg_X8_172 hC hM mq_F rfl dX8_spellsHere_60 ?_
          refine me_evi (y := nI (qFr (sp1 pq))) rfl ?_
          refine lv_isub hx hb dX8_spellsHere_63 ?_
          refine lv_icmp_ge (tgt := 81) hx hb dX8_spellsHere_64 (by decide) (fun c_4 => ?_) (fun c_4 => ?_)
          · have c_4 := (br_le (nx_sub rfl rfl (by omega)) rfl (by omega) (by omega)).mp c_4
            refine lv_iconst (v := 0) hx hb dX8_spellsHere_81 (by decide) ?_
            refine me_iast (k := k) (M2 := mq tb mo (pqF F (sp1 pq)) w av od sv (upd (cq sl (slF ip (sp1 pq)) 0 k) (k) 0) nz ip ot M0) hC hM mq_sl rfl (by omega) (by decide) mq_w_sl dX8_spellsHere_82 (fun H locs hM => ?_)
            refine lv_iinc (v := nI (k + 1)) (lv' := [(1, .int (nI (k + 1))), (0, .ref mo)]) hx hb dX8_spellsHere_83 hl (k := 1) rfl (nx_add rfl rfl) (by decide) rfl (fun ls hl => ?_)
            refine lv_goto (tgt := 36) hx hb dX8_spellsHere_86 (by decide) ?_
            exact ih_36 r1 (by omega) (k + 1) _ _ _ (by omega) (Or.inr c_3) (hM.eq (by rw [← cq_s0]; unfold slF; rw [if_neg (by omega)])) (lv_sub hl [1, 0] rfl)
          · have c_4 := (not_congr (br_le (nx_sub rfl rfl (by omega)) rfl (by omega) (by omega))).mp c_4
            refine lv_aload_n hx hb dX8_spellsHere_67 rfl (lv_at hl 0 rfl) ?_
            refine fg_X8_31 hC hM mq_F rfl dX8_spellsHere_68 ?_
            refine lv_aload_n hx hb dX8_spellsHere_71 rfl (lv_at hl 0 rfl) ?_
            refine fg_X8_172 hC hM mq_F rfl dX8_spellsHere_72 ?_
            refine me_evi (y := nI (qFr (sp1 pq))) rfl ?_
            refine lv_iload_n hx hb dX8_spellsHere_75 rfl (lv_at hl 1 rfl) ?_
            refine lv_iadd hx hb dX8_spellsHere_76 ?_
            refine me_bald (k := qFr (sp1 pq) + k) hC hM mq_ip (nx_add rfl rfl) (by omega) (by first | decide | omega) dX8_spellsHere_77 ?_
            refine lv_goto (tgt := 82) hx hb dX8_spellsHere_78 (by decide) ?_
            refine me_iast (k := k) (M2 := mq tb mo (pqF F (sp1 pq)) w av od sv (upd (cq sl (slF ip (sp1 pq)) 0 k) (k) (ip (qFr (sp1 pq) + k))) nz ip ot M0) hC hM mq_sl rfl (by omega) (by decide) mq_w_sl dX8_spellsHere_82 (fun H locs hM => ?_)
            refine lv_iinc (v := nI (k + 1)) (lv' := [(1, .int (nI (k + 1))), (0, .ref mo)]) hx hb dX8_spellsHere_83 hl (k := 1) rfl (nx_add rfl rfl) (by decide) rfl (fun ls hl => ?_)
            refine lv_goto (tgt := 36) hx hb dX8_spellsHere_86 (by decide) ?_
            exact ih_36 r1 (by omega) (k + 1) _ _ _ (by omega) (Or.inr c_3) (hM.eq (by rw [← cq_s0]; unfold slF; rw [if_pos (by omega)])) (lv_sub hl [1, 0] rfl)
    exact lp_36 6 0 _ _ _ (by omega) (Or.inl rfl) (hM.eq (by rw [cq_0])) (lv_sub hl [1, 0] rfl)
  · have c_1 := (br_eq rfl (show (0 : Int32) = nI 0 from rfl) (by omega) (by omega)).mp c_1
    refine lv_aload_n hx hb dX8_spellsHere_7 rfl (lv_at hl 0 rfl) ?_
    refine fg_X8_166 hC hM mq_F rfl dX8_spellsHere_8 ?_
    refine me_evi (y := nI (qKd pq)) rfl ?_
    refine lv_iconst (v := 1) hx hb dX8_spellsHere_11 (by decide) ?_
    refine lv_icmp_ne (tgt := 29) hx hb dX8_spellsHere_12 (by decide) (fun c_5 => ?_) (fun c_5 => ?_)
    · have c_5 := (not_congr (br_eq rfl (show (1 : Int32) = nI 1 from rfl) (by omega) (by omega))).mp c_5
      refine lv_aload_n hx hb dX8_spellsHere_29 rfl (lv_at hl 0 rfl) ?_
      refine lv_iconst (v := 1) hx hb dX8_spellsHere_30 (by decide) ?_
      refine me_stk (st2 := [.int (nI 1), .ref mo]) (by rw [(show (1 : Int32) = nI 1 from rfl)]) ?_
      refine me_callVv (As := [.int (nI 1)]) (rest := []) hC hl.1 hM (c_X8_errs l D tb X z0 n mo F w av od sv sl nz ip ot M0 len pq 1 hln hln0 hq (by omega)) (kv_X8_196 hw rfl rfl ⟨Nat.le_of_ble_eq_true rfl, Nat.le_of_ble_eq_true rfl⟩) rfl rfl mq_F rfl (Nat.le_of_ble_eq_true rfl) dX8_spellsHere_31 ⟨Nat.le_of_ble_eq_true rfl, Nat.le_of_ble_eq_true rfl⟩ (fun H locs hM => ?_)
      have hM := hM.eq (M2 := mq tb mo (pqF F (sp1 pq)) w av od sv sl nz ip ot M0) (mq_ps (by unfold sp1; rw [if_pos ⟨c_1, Or.inl c_5⟩]))
      obtain ⟨hz1_, hz2_, hz3_, hz4_⟩ := id (show qvP len (sp1 pq) from (qv_s1 hq))
      have hqs := qv_s1 hq
      obtain ⟨hs1, hs2, hs3, hs4⟩ := id hqs
      refine lv_iconst (v := 0) hx hb dX8_spellsHere_34 (by decide) ?_
      refine lv_istore_n (lv' := [(1, .int 0), (0, .ref mo)]) hx hb dX8_spellsHere_35 rfl hl (by decide) rfl (fun ls hl => ?_)
      have lp_36 : ∀ (r : Nat) (k : Nat) (H : Heap) (locs : List Loc) (ls : Array Slot), (k + r = 6) → (k = 0 ∨ qFl (sp1 pq) = 0) → me_at D z0 (mq tb mo (pqF F (sp1 pq)) w av od sv (cq sl (slF ip (sp1 pq)) 0 k) nz ip ot M0) n s H locs → lv_has ls 2 [(0, .ref mo), (1, .int (nI k))] → W p l e (({ frames := 1, cells := 0, slots := 0, locals := 21 } : Room)) s m args below meth c H locs 0 0 (MQ below (me_Qv D z0 (mq tb mo (pqF F (sp1 pq)) w av od sv (slN ip sl (sp1 pq)) nz ip ot M0) n) args s 0 0 (me_A z0)) (F0 m 36 ls []) := by
        intro r
        refine Nat.strongRecOn r ?_
        intro r ih_36 k H locs ls hk hk9 hM hl
        refine lv_iload_n hx hb dX8_spellsHere_36 rfl (lv_at hl 1 rfl) ?_
        refine lv_bipush (v := 6) hx hb dX8_spellsHere_37 (by decide) ?_
        refine lv_icmp_ge (tgt := 89) hx hb dX8_spellsHere_39 (by decide) (fun c_6 => ?_) (fun c_6 => ?_)
        · have c_6 := (br_le (nx_c 6) rfl (by omega) (by omega)).mp c_6
          exact me_vret hC hr hlk hM (by unfold slN; rw [if_pos (hk9.resolve_left (by omega)), show k = 6 by omega]) (rfl) dX8_spellsHere_89
        · have c_6 := (not_congr (br_le (nx_c 6) rfl (by omega) (by omega))).mp c_6
          obtain ⟨r1, rfl⟩ : ∃ r1, r = r1 + 1 := ⟨r - 1, by omega⟩
          refine lv_aload_n hx hb dX8_spellsHere_42 rfl (lv_at hl 0 rfl) ?_
          refine fg_X8_187 hC hM mq_F rfl dX8_spellsHere_43 ?_
          refine me_evi (y := nI (qFl (sp1 pq))) rfl ?_
          refine lv_if_ne (tgt := 89) hx hb dX8_spellsHere_46 (by decide) (fun c_7 => ?_) (fun c_7 => ?_)
          · have c_7 := (not_congr (br_eq rfl (show (0 : Int32) = nI 0 from rfl) (by omega) (by omega))).mp c_7
            exact me_vret hC hr hlk hM (by unfold slN; rw [if_neg c_7, show k = 0 from hk9.resolve_right c_7, cq_0]) (rfl) dX8_spellsHere_89
          · have c_7 := (br_eq rfl (show (0 : Int32) = nI 0 from rfl) (by omega) (by omega)).mp c_7
            refine lv_aload_n hx hb dX8_spellsHere_49 rfl (lv_at hl 0 rfl) ?_
            refine fg_X8_25 hC hM mq_F rfl dX8_spellsHere_50 ?_
            refine lv_iload_n hx hb dX8_spellsHere_53 rfl (lv_at hl 1 rfl) ?_
            refine lv_iload_n hx hb dX8_spellsHere_54 rfl (lv_at hl 1 rfl) ?_
            refine lv_aload_n hx hb dX8_spellsHere_55 rfl (lv_at hl 0 rfl) ?_
            refine fg_X8_169 hC hM mq_F rfl dX8_spellsHere_56 ?_
            refine me_evi (y := nI (qTo (sp1 pq))) rfl ?_
            refine lv_aload_n hx hb dX8_spellsHere_59 rfl (lv_at hl 0 rfl) ?_
            refine fg_X8_172 hC hM mq_F rfl dX8_spellsHere_60 ?_
            refine me_evi (y := nI (qFr (sp1 pq))) rfl ?_
            refine lv_isub hx hb dX8_spellsHere_63 ?_
            refine lv_icmp_ge (tgt := 81) hx hb dX8_spellsHere_64 (by decide) (fun c_8 => ?_) (fun c_8 => ?_)
            · have c_8 := (br_le (nx_sub rfl rfl (by omega)) rfl (by omega) (by omega)).mp c_8
              refine lv_iconst (v := 0) hx hb dX8_spellsHere_81 (by decide) ?_
              refine me_iast (k := k) (M2 := mq tb mo (pqF F (sp1 pq)) w av od sv (upd (cq sl (slF ip (sp1 pq)) 0 k) (k) 0) nz ip ot M0) hC hM mq_sl rfl (by omega) (by decide) mq_w_sl dX8_spellsHere_82 (fun H locs hM => ?_)
              refine lv_iinc (v := nI (k + 1)) (lv' := [(1, .int (nI (k + 1))), (0, .ref mo)]) hx hb dX8_spellsHere_83 hl (k := 1) rfl (nx_add rfl rfl) (by decide) rfl (fun ls hl => ?_)
              refine lv_goto (tgt := 36) hx hb dX8_spellsHere_86 (by decide) ?_
              exact ih_36 r1 (by omega) (k + 1) _ _ _ (by omega) (Or.inr c_7) (hM.eq (by rw [← cq_s0]; unfold slF; rw [if_neg (by omega)])) (lv_sub hl [1, 0] rfl)
            · have c_8 := (not_congr (br_le (nx_sub rfl rfl (by omega)) rfl (by omega) (by omega))).mp c_8
              refine lv_aload_n hx hb dX8_spellsHere_67 rfl (lv_at hl 0 rfl) ?_
              refine fg_X8_31 hC hM mq_F rfl dX8_spellsHere_68 ?_
              refine lv_aload_n hx hb dX8_spellsHere_71 rfl (lv_at hl 0 rfl) ?_
              refine fg_X8_172 hC hM mq_F rfl dX8_spellsHere_72 ?_
              refine me_evi (y := nI (qFr (sp1 pq))) rfl ?_
              refine lv_iload_n hx hb dX8_spellsHere_75 rfl (lv_at hl 1 rfl) ?_
              refine lv_iadd hx hb dX8_spellsHere_76 ?_
              refine me_bald (k := qFr (sp1 pq) + k) hC hM mq_ip (nx_add rfl rfl) (by omega) (by first | decide | omega) dX8_spellsHere_77 ?_
              refine lv_goto (tgt := 82) hx hb dX8_spellsHere_78 (by decide) ?_
              refine me_iast (k := k) (M2 := mq tb mo (pqF F (sp1 pq)) w av od sv (upd (cq sl (slF ip (sp1 pq)) 0 k) (k) (ip (qFr (sp1 pq) + k))) nz ip ot M0) hC hM mq_sl rfl (by omega) (by decide) mq_w_sl dX8_spellsHere_82 (fun H locs hM => ?_)
              refine lv_iinc (v := nI (k + 1)) (lv' := [(1, .int (nI (k + 1))), (0, .ref mo)]) hx hb dX8_spellsHere_83 hl (k := 1) rfl (nx_add rfl rfl) (by decide) rfl (fun ls hl => ?_)
              refine lv_goto (tgt := 36) hx hb dX8_spellsHere_86 (by decide) ?_
              exact ih_36 r1 (by omega) (k + 1) _ _ _ (by omega) (Or.inr c_7) (hM.eq (by rw [← cq_s0]; unfold slF; rw [if_pos (by omega)])) (lv_sub hl [1, 0] rfl)
      exact lp_36 6 0 _ _ _ (by omega) (Or.inl rfl) (hM.eq (by rw [cq_0])) (lv_sub hl [1, 0] rfl)
    · have c_5 := (br_eq rfl (show (1 : Int32) = nI 1 from rfl) (by omega) (by omega)).mp c_5
      refine lv_aload_n hx hb dX8_spellsHere_15 rfl (lv_at hl 0 rfl) ?_
      refine fg_X8_169 hC hM mq_F rfl dX8_spellsHere_16 ?_
      refine me_evi (y := nI (qTo pq)) rfl ?_
      refine lv_aload_n hx hb dX8_spellsHere_19 rfl (lv_at hl 0 rfl) ?_
      refine fg_X8_172 hC hM mq_F rfl dX8_spellsHere_20 ?_
      refine me_evi (y := nI (qFr pq)) rfl ?_
      refine lv_isub hx hb dX8_spellsHere_23 ?_
      refine lv_bipush (v := 6) hx hb dX8_spellsHere_24 (by decide) ?_
      refine lv_icmp_le (tgt := 34) hx hb dX8_spellsHere_26 (by decide) (fun c_9 => ?_) (fun c_9 => ?_)
      · have c_9 := (br_le (nx_sub rfl rfl (by omega)) (nx_c 6) (by omega) (by omega)).mp c_9
        have hM := hM.eq (M2 := mq tb mo (pqF F (sp1 pq)) w av od sv sl nz ip ot M0) (mq_ps (by unfold sp1; rw [if_neg (fun z => z.2.elim (fun z => z c_5) (fun z => absurd z (by omega)))]))
        obtain ⟨hz1_, hz2_, hz3_, hz4_⟩ := id (show qvP len (sp1 pq) from (qv_s1 hq))
        have hqs := qv_s1 hq
        obtain ⟨hs1, hs2, hs3, hs4⟩ := id hqs
        refine lv_iconst (v := 0) hx hb dX8_spellsHere_34 (by decide) ?_
        refine lv_istore_n (lv' := [(1, .int 0), (0, .ref mo)]) hx hb dX8_spellsHere_35 rfl hl (by decide) rfl (fun ls hl => ?_)
        have lp_36 : ∀ (r : Nat) (k : Nat) (H : Heap) (locs : List Loc) (ls : Array Slot), (k + r = 6) → (k = 0 ∨ qFl (sp1 pq) = 0) → me_at D z0 (mq tb mo (pqF F (sp1 pq)) w av od sv (cq sl (slF ip (sp1 pq)) 0 k) nz ip ot M0) n s H locs → lv_has ls 2 [(0, .ref mo), (1, .int (nI k))] → W p l e (({ frames := 1, cells := 0, slots := 0, locals := 21 } : Room)) s m args below meth c H locs 0 0 (MQ below (me_Qv D z0 (mq tb mo (pqF F (sp1 pq)) w av od sv (slN ip sl (sp1 pq)) nz ip ot M0) n) args s 0 0 (me_A z0)) (F0 m 36 ls []) := by
          intro r
          refine Nat.strongRecOn r ?_
          intro r ih_36 k H locs ls hk hk9 hM hl
          refine lv_iload_n hx hb dX8_spellsHere_36 rfl (lv_at hl 1 rfl) ?_
          refine lv_bipush (v := 6) hx hb dX8_spellsHere_37 (by decide) ?_
          refine lv_icmp_ge (tgt := 89) hx hb dX8_spellsHere_39 (by decide) (fun c_10 => ?_) (fun c_10 => ?_)
          · have c_10 := (br_le (nx_c 6) rfl (by omega) (by omega)).mp c_10
            exact me_vret hC hr hlk hM (by unfold slN; rw [if_pos (hk9.resolve_left (by omega)), show k = 6 by omega]) (rfl) dX8_spellsHere_89
          · have c_10 := (not_congr (br_le (nx_c 6) rfl (by omega) (by omega))).mp c_10
            obtain ⟨r1, rfl⟩ : ∃ r1, r = r1 + 1 := ⟨r - 1, by omega⟩
            refine lv_aload_n hx hb dX8_spellsHere_42 rfl (lv_at hl 0 rfl) ?_
            refine fg_X8_187 hC hM mq_F rfl dX8_spellsHere_43 ?_
            refine me_evi (y := nI (qFl (sp1 pq))) rfl ?_
            refine lv_if_ne (tgt := 89) hx hb dX8_spellsHere_46 (by decide) (fun c_11 => ?_) (fun c_11 => ?_)
            · have c_11 := (not_congr (br_eq rfl (show (0 : Int32) = nI 0 from rfl) (by omega) (by omega))).mp c_11
              exact me_vret hC hr hlk hM (by unfold slN; rw [if_neg c_11, show k = 0 from hk9.resolve_right c_11, cq_0]) (rfl) dX8_spellsHere_89
            · have c_11 := (br_eq rfl (show (0 : Int32) = nI 0 from rfl) (by omega) (by omega)).mp c_11
              refine lv_aload_n hx hb dX8_spellsHere_49 rfl (lv_at hl 0 rfl) ?_
              refine fg_X8_25 hC hM mq_F rfl dX8_spellsHere_50 ?_
              refine lv_iload_n hx hb dX8_spellsHere_53 rfl (lv_at hl 1 rfl) ?_
              refine lv_iload_n hx hb dX8_spellsHere_54 rfl (lv_at hl 1 rfl) ?_
              refine lv_aload_n hx hb dX8_spellsHere_55 rfl (lv_at hl 0 rfl) ?_
              refine fg_X8_169 hC hM mq_F rfl dX8_spellsHere_56 ?_
              refine me_evi (y := nI (qTo (sp1 pq))) rfl ?_
              refine lv_aload_n hx hb dX8_spellsHere_59 rfl (lv_at hl 0 rfl) ?_
              refine fg_X8_172 hC hM mq_F rfl dX8_spellsHere_60 ?_
              refine me_evi (y := nI (qFr (sp1 pq))) rfl ?_
              refine lv_isub hx hb dX8_spellsHere_63 ?_
              refine lv_icmp_ge (tgt := 81) hx hb dX8_spellsHere_64 (by decide) (fun c_12 => ?_) (fun c_12 => ?_)
              · have c_12 := (br_le (nx_sub rfl rfl (by omega)) rfl (by omega) (by omega)).mp c_12
                refine lv_iconst (v := 0) hx hb dX8_spellsHere_81 (by decide) ?_
                refine me_iast (k := k) (M2 := mq tb mo (pqF F (sp1 pq)) w av od sv (upd (cq sl (slF ip (sp1 pq)) 0 k) (k) 0) nz ip ot M0) hC hM mq_sl rfl (by omega) (by decide) mq_w_sl dX8_spellsHere_82 (fun H locs hM => ?_)
                refine lv_iinc (v := nI (k + 1)) (lv' := [(1, .int (nI (k + 1))), (0, .ref mo)]) hx hb dX8_spellsHere_83 hl (k := 1) rfl (nx_add rfl rfl) (by decide) rfl (fun ls hl => ?_)
                refine lv_goto (tgt := 36) hx hb dX8_spellsHere_86 (by decide) ?_
                exact ih_36 r1 (by omega) (k + 1) _ _ _ (by omega) (Or.inr c_11) (hM.eq (by rw [← cq_s0]; unfold slF; rw [if_neg (by omega)])) (lv_sub hl [1, 0] rfl)
              · have c_12 := (not_congr (br_le (nx_sub rfl rfl (by omega)) rfl (by omega) (by omega))).mp c_12
                refine lv_aload_n hx hb dX8_spellsHere_67 rfl (lv_at hl 0 rfl) ?_
                refine fg_X8_31 hC hM mq_F rfl dX8_spellsHere_68 ?_
                refine lv_aload_n hx hb dX8_spellsHere_71 rfl (lv_at hl 0 rfl) ?_
                refine fg_X8_172 hC hM mq_F rfl dX8_spellsHere_72 ?_
                refine me_evi (y := nI (qFr (sp1 pq))) rfl ?_
                refine lv_iload_n hx hb dX8_spellsHere_75 rfl (lv_at hl 1 rfl) ?_
                refine lv_iadd hx hb dX8_spellsHere_76 ?_
                refine me_bald (k := qFr (sp1 pq) + k) hC hM mq_ip (nx_add rfl rfl) (by omega) (by first | decide | omega) dX8_spellsHere_77 ?_
                refine lv_goto (tgt := 82) hx hb dX8_spellsHere_78 (by decide) ?_
                refine me_iast (k := k) (M2 := mq tb mo (pqF F (sp1 pq)) w av od sv (upd (cq sl (slF ip (sp1 pq)) 0 k) (k) (ip (qFr (sp1 pq) + k))) nz ip ot M0) hC hM mq_sl rfl (by omega) (by decide) mq_w_sl dX8_spellsHere_82 (fun H locs hM => ?_)
                refine lv_iinc (v := nI (k + 1)) (lv' := [(1, .int (nI (k + 1))), (0, .ref mo)]) hx hb dX8_spellsHere_83 hl (k := 1) rfl (nx_add rfl rfl) (by decide) rfl (fun ls hl => ?_)
                refine lv_goto (tgt := 36) hx hb dX8_spellsHere_86 (by decide) ?_
                exact ih_36 r1 (by omega) (k + 1) _ _ _ (by omega) (Or.inr c_11) (hM.eq (by rw [← cq_s0]; unfold slF; rw [if_pos (by omega)])) (lv_sub hl [1, 0] rfl)
        exact lp_36 6 0 _ _ _ (by omega) (Or.inl rfl) (hM.eq (by rw [cq_0])) (lv_sub hl [1, 0] rfl)
      · have c_9 := (not_congr (br_le (nx_sub rfl rfl (by omega)) (nx_c 6) (by omega) (by omega))).mp c_9
        refine lv_aload_n hx hb dX8_spellsHere_29 rfl (lv_at hl 0 rfl) ?_
        refine lv_iconst (v := 1) hx hb dX8_spellsHere_30 (by decide) ?_
        refine me_stk (st2 := [.int (nI 1), .ref mo]) (by rw [(show (1 : Int32) = nI 1 from rfl)]) ?_
        refine me_callVv (As := [.int (nI 1)]) (rest := []) hC hl.1 hM (c_X8_errs l D tb X z0 n mo F w av od sv sl nz ip ot M0 len pq 1 hln hln0 hq (by omega)) (kv_X8_196 hw rfl rfl ⟨Nat.le_of_ble_eq_true rfl, Nat.le_of_ble_eq_true rfl⟩) rfl rfl mq_F rfl (Nat.le_of_ble_eq_true rfl) dX8_spellsHere_31 ⟨Nat.le_of_ble_eq_true rfl, Nat.le_of_ble_eq_true rfl⟩ (fun H locs hM => ?_)
        have hM := hM.eq (M2 := mq tb mo (pqF F (sp1 pq)) w av od sv sl nz ip ot M0) (mq_ps (by unfold sp1; rw [if_pos ⟨c_1, Or.inr (by omega)⟩]))
        obtain ⟨hz1_, hz2_, hz3_, hz4_⟩ := id (show qvP len (sp1 pq) from (qv_s1 hq))
        have hqs := qv_s1 hq
        obtain ⟨hs1, hs2, hs3, hs4⟩ := id hqs
        refine lv_iconst (v := 0) hx hb dX8_spellsHere_34 (by decide) ?_
        refine lv_istore_n (lv' := [(1, .int 0), (0, .ref mo)]) hx hb dX8_spellsHere_35 rfl hl (by decide) rfl (fun ls hl => ?_)
        have lp_36 : ∀ (r : Nat) (k : Nat) (H : Heap) (locs : List Loc) (ls : Array Slot), (k + r = 6) → (k = 0 ∨ qFl (sp1 pq) = 0) → me_at D z0 (mq tb mo (pqF F (sp1 pq)) w av od sv (cq sl (slF ip (sp1 pq)) 0 k) nz ip ot M0) n s H locs → lv_has ls 2 [(0, .ref mo), (1, .int (nI k))] → W p l e (({ frames := 1, cells := 0, slots := 0, locals := 21 } : Room)) s m args below meth c H locs 0 0 (MQ below (me_Qv D z0 (mq tb mo (pqF F (sp1 pq)) w av od sv (slN ip sl (sp1 pq)) nz ip ot M0) n) args s 0 0 (me_A z0)) (F0 m 36 ls []) := by
          intro r
          refine Nat.strongRecOn r ?_
          intro r ih_36 k H locs ls hk hk9 hM hl
          refine lv_iload_n hx hb dX8_spellsHere_36 rfl (lv_at hl 1 rfl) ?_
          refine lv_bipush (v := 6) hx hb dX8_spellsHere_37 (by decide) ?_
          refine lv_icmp_ge (tgt := 89) hx hb dX8_spellsHere_39 (by decide) (fun c_13 => ?_) (fun c_13 => ?_)
          · have c_13 := (br_le (nx_c 6) rfl (by omega) (by omega)).mp c_13
            exact me_vret hC hr hlk hM (by unfold slN; rw [if_pos (hk9.resolve_left (by omega)), show k = 6 by omega]) (rfl) dX8_spellsHere_89
          · have c_13 := (not_congr (br_le (nx_c 6) rfl (by omega) (by omega))).mp c_13
            obtain ⟨r1, rfl⟩ : ∃ r1, r = r1 + 1 := ⟨r - 1, by omega⟩
            refine lv_aload_n hx hb dX8_spellsHere_42 rfl (lv_at hl 0 rfl) ?_
            refine fg_X8_187 hC hM mq_F rfl dX8_spellsHere_43 ?_
            refine me_evi (y := nI (qFl (sp1 pq))) rfl ?_
            refine lv_if_ne (tgt := 89) hx hb dX8_spellsHere_46 (by decide) (fun c_14 => ?_) (fun c_14 => ?_)
            · have c_14 := (not_congr (br_eq rfl (show (0 : Int32) = nI 0 from rfl) (by omega) (by omega))).mp c_14
              exact me_vret hC hr hlk hM (by unfold slN; rw [if_neg c_14, show k = 0 from hk9.resolve_right c_14, cq_0]) (rfl) dX8_spellsHere_89
            · have c_14 := (br_eq rfl (show (0 : Int32) = nI 0 from rfl) (by omega) (by omega)).mp c_14
              refine lv_aload_n hx hb dX8_spellsHere_49 rfl (lv_at hl 0 rfl) ?_
              refine fg_X8_25 hC hM mq_F rfl dX8_spellsHere_50 ?_
              refine lv_iload_n hx hb dX8_spellsHere_53 rfl (lv_at hl 1 rfl) ?_
              refine lv_iload_n hx hb dX8_spellsHere_54 rfl (lv_at hl 1 rfl) ?_
              refine lv_aload_n hx hb dX8_spellsHere_55 rfl (lv_at hl 0 rfl) ?_
              refine fg_X8_169 hC hM mq_F rfl dX8_spellsHere_56 ?_
              refine me_evi (y := nI (qTo (sp1 pq))) rfl ?_
              refine lv_aload_n hx hb dX8_spellsHere_59 rfl (lv_at hl 0 rfl) ?_
              refine fg_X8_172 hC hM mq_F rfl dX8_spellsHere_60 ?_
              refine me_evi (y := nI (qFr (sp1 pq))) rfl ?_
              refine lv_isub hx hb dX8_spellsHere_63 ?_
              refine lv_icmp_ge (tgt := 81) hx hb dX8_spellsHere_64 (by decide) (fun c_15 => ?_) (fun c_15 => ?_)
              · have c_15 := (br_le (nx_sub rfl rfl (by omega)) rfl (by omega) (by omega)).mp c_15
                refine lv_iconst (v := 0) hx hb dX8_spellsHere_81 (by decide) ?_
                refine me_iast (k := k) (M2 := mq tb mo (pqF F (sp1 pq)) w av od sv (upd (cq sl (slF ip (sp1 pq)) 0 k) (k) 0) nz ip ot M0) hC hM mq_sl rfl (by omega) (by decide) mq_w_sl dX8_spellsHere_82 (fun H locs hM => ?_)
                refine lv_iinc (v := nI (k + 1)) (lv' := [(1, .int (nI (k + 1))), (0, .ref mo)]) hx hb dX8_spellsHere_83 hl (k := 1) rfl (nx_add rfl rfl) (by decide) rfl (fun ls hl => ?_)
                refine lv_goto (tgt := 36) hx hb dX8_spellsHere_86 (by decide) ?_
                exact ih_36 r1 (by omega) (k + 1) _ _ _ (by omega) (Or.inr c_14) (hM.eq (by rw [← cq_s0]; unfold slF; rw [if_neg (by omega)])) (lv_sub hl [1, 0] rfl)
              · have c_15 := (not_congr (br_le (nx_sub rfl rfl (by omega)) rfl (by omega) (by omega))).mp c_15
                refine lv_aload_n hx hb dX8_spellsHere_67 rfl (lv_at hl 0 rfl) ?_
                refine fg_X8_31 hC hM mq_F rfl dX8_spellsHere_68 ?_
                refine lv_aload_n hx hb dX8_spellsHere_71 rfl (lv_at hl 0 rfl) ?_
                refine fg_X8_172 hC hM mq_F rfl dX8_spellsHere_72 ?_
                refine me_evi (y := nI (qFr (sp1 pq))) rfl ?_
                refine lv_iload_n hx hb dX8_spellsHere_75 rfl (lv_at hl 1 rfl) ?_
                refine lv_iadd hx hb dX8_spellsHere_76 ?_
                refine me_bald (k := qFr (sp1 pq) + k) hC hM mq_ip (nx_add rfl rfl) (by omega) (by first | decide | omega) dX8_spellsHere_77 ?_
                refine lv_goto (tgt := 82) hx hb dX8_spellsHere_78 (by decide) ?_
                refine me_iast (k := k) (M2 := mq tb mo (pqF F (sp1 pq)) w av od sv (upd (cq sl (slF ip (sp1 pq)) 0 k) (k) (ip (qFr (sp1 pq) + k))) nz ip ot M0) hC hM mq_sl rfl (by omega) (by decide) mq_w_sl dX8_spellsHere_82 (fun H locs hM => ?_)
                refine lv_iinc (v := nI (k + 1)) (lv' := [(1, .int (nI (k + 1))), (0, .ref mo)]) hx hb dX8_spellsHere_83 hl (k := 1) rfl (nx_add rfl rfl) (by decide) rfl (fun ls hl => ?_)
                refine lv_goto (tgt := 36) hx hb dX8_spellsHere_86 (by decide) ?_
                exact ih_36 r1 (by omega) (k + 1) _ _ _ (by omega) (Or.inr c_14) (hM.eq (by rw [← cq_s0]; unfold slF; rw [if_pos (by omega)])) (lv_sub hl [1, 0] rfl)
        exact lp_36 6 0 _ _ _ (by omega) (Or.inl rfl) (hM.eq (by rw [cq_0])) (lv_sub hl [1, 0] rfl)
set_option maxHeartbeats 4000000 in
theorem c_X8_takesStreet (l : Launch) (D : va_G) (tb : Nat → ClassId) (X : State → Prop) (z0 n : Nat) (mo : Nat) (F w av od sv sl nz ip ot : Nat → Int32) (M0 : me_M) (len : Nat) (pq : QS) (S : Nat)  (hln : F 7 = nI len) (hln0 : len ≤ 700) (hq : qvP len pq) (hS : w 3 = nI S) (hS0 : S ≤ 8) : Met l yX8_takesStreet (.code yX8_takesStreet cX8_takesStreet 2 (some .int) :: ws_all) ({ frames := 3, cells := 0, slots := 0, locals := 62 } : Room) (me_Pc [.ref mo] D tb X z0 (mq tb mo (pqF F (pq)) w av od sv sl nz ip ot M0) n) (me_Qi D z0 (tsR ip len w sl S pq) (mq tb mo (pqF F (tsQ ip len w sl S pq)) w av od sv (slN ip sl (sp1 pq)) nz ip ot M0) n) 0 0 (me_A z0) := by
  refine me_open (by decide) (Nat.le_of_ble_eq_true rfl) ?_
  intro p e s m args below meth c ls hC hr hlk hnm hM hl
  have hl : lv_has ls 2 [(0, .ref mo)] := hl
  have hx := hC.1
  have hb := hC.2.1
  have hw := hC.2.2.2.2.1
  obtain ⟨hq1, hq2, hq3, hq4⟩ := id hq
  refine lv_aload_n hx hb dX8_takesStreet_0 rfl (lv_at hl 0 rfl) ?_
  refine me_callVv (As := []) (rest := []) hC hl.1 hM (c_X8_spellsHere l D tb X z0 n mo F w av od sv sl nz ip ot M0 len pq  hln hln0 hq ) (kv_X8_205 hw rfl rfl ⟨Nat.le_of_ble_eq_true rfl, Nat.le_of_ble_eq_true rfl⟩) rfl rfl mq_F rfl (Nat.le_of_ble_eq_true rfl) dX8_takesStreet_1 ⟨Nat.le_of_ble_eq_true rfl, Nat.le_of_ble_eq_true rfl⟩ (fun H locs hM => ?_)
  obtain ⟨hz1_, hz2_, hz3_, hz4_⟩ := id (show qvP len (sp1 pq) from (qv_s1 hq))
  refine lv_aload_n hx hb dX8_takesStreet_4 rfl (lv_at hl 0 rfl) ?_
  refine fg_X8_187 hC hM mq_F rfl dX8_takesStreet_5 ?_
  refine me_evi (y := nI (qFl (sp1 pq))) rfl ?_
  refine lv_if_ne (tgt := 18) hx hb dX8_takesStreet_8 (by decide) (fun c_1 => ?_) (fun c_1 => ?_)
  · have c_1 := (not_congr (br_eq rfl (show (0 : Int32) = nI 0 from rfl) (by omega) (by omega))).mp c_1
    refine lv_iconst (v := 0) hx hb dX8_takesStreet_18 (by decide) ?_
    refine me_evi (y := tsV w (slN ip sl (sp1 pq)) S (sp1 pq)) (by unfold tsV; rw [if_neg c_1]) ?_
    refine lv_istore_n (lv' := [(1, .int (tsV w (slN ip sl (sp1 pq)) S (sp1 pq))), (0, .ref mo)]) hx hb dX8_takesStreet_19 rfl hl (by decide) rfl (fun ls hl => ?_)
    refine lv_aload_n hx hb dX8_takesStreet_20 rfl (lv_at hl 1 rfl) ?_
    refine fg_X8_187 hC hM mq_F rfl dX8_takesStreet_21 ?_
    refine me_evi (y := nI (qFl (sp1 pq))) rfl ?_
    refine lv_if_ne (tgt := 37) hx hb dX8_takesStreet_24 (by decide) (fun c_2 => ?_) (fun c_2 => ?_)
    · have c_2 := (not_congr (br_eq rfl (show (0 : Int32) = nI 0 from rfl) (by omega) (by omega))).mp c_2
      have hM := hM.eq (M2 := mq tb mo (pqF F (tk2 (tsV w (slN ip sl (sp1 pq)) S (sp1 pq)) (sp1 pq))) w av od sv (slN ip sl (sp1 pq)) nz ip ot M0) (mq_ps (by unfold tk2; rw [if_neg (fun z => c_2 z.1)]))
      obtain ⟨hz1_, hz2_, hz3_, hz4_⟩ := id (show qvP len (tk2 (tsV w (slN ip sl (sp1 pq)) S (sp1 pq)) (sp1 pq)) from (qv_t2 (qv_s1 hq)))
      refine lv_aload_n hx hb dX8_takesStreet_37 rfl (lv_at hl 1 rfl) ?_
      refine me_callVv (As := []) (rest := []) hC hl.1 hM (c_X8_goesOn l D tb X z0 n mo F w av od sv (slN ip sl (sp1 pq)) nz ip ot M0 len (tk2 (tsV w (slN ip sl (sp1 pq)) S (sp1 pq)) (sp1 pq))  hln hln0 (qv_t2 (qv_s1 hq)) ) (kv_X8_202 hw rfl rfl ⟨Nat.le_of_ble_eq_true rfl, Nat.le_of_ble_eq_true rfl⟩) rfl rfl mq_F rfl (Nat.le_of_ble_eq_true rfl) dX8_takesStreet_38 ⟨Nat.le_of_ble_eq_true rfl, Nat.le_of_ble_eq_true rfl⟩ (fun H locs hM => ?_)
      obtain ⟨hz1_, hz2_, hz3_, hz4_⟩ := id (show qvP len (gnP ip len (tk2 (tsV w (slN ip sl (sp1 pq)) S (sp1 pq)) (sp1 pq))) from (qv_gn (qv_t2 (qv_s1 hq))))
      refine lv_aload_n hx hb dX8_takesStreet_41 rfl (lv_at hl 1 rfl) ?_
      refine fg_X8_187 hC hM mq_F rfl dX8_takesStreet_42 ?_
      refine me_evi (y := nI (qFl (gnP ip len (tk2 (tsV w (slN ip sl (sp1 pq)) S (sp1 pq)) (sp1 pq))))) rfl ?_
      refine lv_if_ne (tgt := 52) hx hb dX8_takesStreet_45 (by decide) (fun c_3 => ?_) (fun c_3 => ?_)
      · have c_3 := (not_congr (br_eq rfl (show (0 : Int32) = nI 0 from rfl) (by omega) (by omega))).mp c_3
        refine lv_iconst (v := 0) hx hb dX8_takesStreet_52 (by decide) ?_
        exact me_iret hC hr hlk hM (by unfold tsR tsQ; rw [if_neg c_3]) (rfl) (rfl) dX8_takesStreet_53
      · have c_3 := (br_eq rfl (show (0 : Int32) = nI 0 from rfl) (by omega) (by omega)).mp c_3
        refine lv_iload_n hx hb dX8_takesStreet_48 rfl (lv_at hl 0 rfl) ?_
        refine lv_goto (tgt := 53) hx hb dX8_takesStreet_49 (by decide) ?_
        exact me_iret hC hr hlk hM (by unfold tsR tsQ; rw [if_pos c_3]) (rfl) (rfl) dX8_takesStreet_53
    · have c_2 := (br_eq rfl (show (0 : Int32) = nI 0 from rfl) (by omega) (by omega)).mp c_2
      refine lv_iload_n hx hb dX8_takesStreet_27 rfl (lv_at hl 0 rfl) ?_
      refine lv_iconst (v := (-1)) hx hb dX8_takesStreet_28 (by decide) ?_
      refine lv_icmp_ne (tgt := 37) hx hb dX8_takesStreet_29 (by decide) (fun c_4 => ?_) (fun c_4 => ?_)
      · have hM := hM.eq (M2 := mq tb mo (pqF F (tk2 (tsV w (slN ip sl (sp1 pq)) S (sp1 pq)) (sp1 pq))) w av od sv (slN ip sl (sp1 pq)) nz ip ot M0) (mq_ps (by unfold tk2; rw [if_neg (fun z => c_4 z.2)]))
        obtain ⟨hz1_, hz2_, hz3_, hz4_⟩ := id (show qvP len (tk2 (tsV w (slN ip sl (sp1 pq)) S (sp1 pq)) (sp1 pq)) from (qv_t2 (qv_s1 hq)))
        refine lv_aload_n hx hb dX8_takesStreet_37 rfl (lv_at hl 1 rfl) ?_
        refine me_callVv (As := []) (rest := []) hC hl.1 hM (c_X8_goesOn l D tb X z0 n mo F w av od sv (slN ip sl (sp1 pq)) nz ip ot M0 len (tk2 (tsV w (slN ip sl (sp1 pq)) S (sp1 pq)) (sp1 pq))  hln hln0 (qv_t2 (qv_s1 hq)) ) (kv_X8_202 hw rfl rfl ⟨Nat.le_of_ble_eq_true rfl, Nat.le_of_ble_eq_true rfl⟩) rfl rfl mq_F rfl (Nat.le_of_ble_eq_true rfl) dX8_takesStreet_38 ⟨Nat.le_of_ble_eq_true rfl, Nat.le_of_ble_eq_true rfl⟩ (fun H locs hM => ?_)
        obtain ⟨hz1_, hz2_, hz3_, hz4_⟩ := id (show qvP len (gnP ip len (tk2 (tsV w (slN ip sl (sp1 pq)) S (sp1 pq)) (sp1 pq))) from (qv_gn (qv_t2 (qv_s1 hq))))
        refine lv_aload_n hx hb dX8_takesStreet_41 rfl (lv_at hl 1 rfl) ?_
        refine fg_X8_187 hC hM mq_F rfl dX8_takesStreet_42 ?_
        refine me_evi (y := nI (qFl (gnP ip len (tk2 (tsV w (slN ip sl (sp1 pq)) S (sp1 pq)) (sp1 pq))))) rfl ?_
        refine lv_if_ne (tgt := 52) hx hb dX8_takesStreet_45 (by decide) (fun c_5 => ?_) (fun c_5 => ?_)
        · have c_5 := (not_congr (br_eq rfl (show (0 : Int32) = nI 0 from rfl) (by omega) (by omega))).mp c_5
          refine lv_iconst (v := 0) hx hb dX8_takesStreet_52 (by decide) ?_
          exact me_iret hC hr hlk hM (by unfold tsR tsQ; rw [if_neg c_5]) (rfl) (rfl) dX8_takesStreet_53
        · have c_5 := (br_eq rfl (show (0 : Int32) = nI 0 from rfl) (by omega) (by omega)).mp c_5
          refine lv_iload_n hx hb dX8_takesStreet_48 rfl (lv_at hl 0 rfl) ?_
          refine lv_goto (tgt := 53) hx hb dX8_takesStreet_49 (by decide) ?_
          exact me_iret hC hr hlk hM (by unfold tsR tsQ; rw [if_pos c_5]) (rfl) (rfl) dX8_takesStreet_53
      · refine lv_aload_n hx hb dX8_takesStreet_32 rfl (lv_at hl 1 rfl) ?_
        refine lv_iconst (v := 3) hx hb dX8_takesStreet_33 (by decide) ?_
        refine me_stk (st2 := [.int (nI 3), .ref mo]) (by rw [(nx_c 3)]) ?_
        refine me_callVv (As := [.int (nI 3)]) (rest := []) hC hl.1 hM (c_X8_errs l D tb X z0 n mo F w av od sv (slN ip sl (sp1 pq)) nz ip ot M0 len (sp1 pq) 3 hln hln0 (qv_s1 hq) (by omega)) (kv_X8_196 hw rfl rfl ⟨Nat.le_of_ble_eq_true rfl, Nat.le_of_ble_eq_true rfl⟩) rfl rfl mq_F rfl (Nat.le_of_ble_eq_true rfl) dX8_takesStreet_34 ⟨Nat.le_of_ble_eq_true rfl, Nat.le_of_ble_eq_true rfl⟩ (fun H locs hM => ?_)
        have hM := hM.eq (M2 := mq tb mo (pqF F (tk2 (tsV w (slN ip sl (sp1 pq)) S (sp1 pq)) (sp1 pq))) w av od sv (slN ip sl (sp1 pq)) nz ip ot M0) (mq_ps (by unfold tk2; rw [if_pos ⟨c_2, c_4⟩]))
        obtain ⟨hz1_, hz2_, hz3_, hz4_⟩ := id (show qvP len (tk2 (tsV w (slN ip sl (sp1 pq)) S (sp1 pq)) (sp1 pq)) from (qv_t2 (qv_s1 hq)))
        refine lv_aload_n hx hb dX8_takesStreet_37 rfl (lv_at hl 1 rfl) ?_
        refine me_callVv (As := []) (rest := []) hC hl.1 hM (c_X8_goesOn l D tb X z0 n mo F w av od sv (slN ip sl (sp1 pq)) nz ip ot M0 len (tk2 (tsV w (slN ip sl (sp1 pq)) S (sp1 pq)) (sp1 pq))  hln hln0 (qv_t2 (qv_s1 hq)) ) (kv_X8_202 hw rfl rfl ⟨Nat.le_of_ble_eq_true rfl, Nat.le_of_ble_eq_true rfl⟩) rfl rfl mq_F rfl (Nat.le_of_ble_eq_true rfl) dX8_takesStreet_38 ⟨Nat.le_of_ble_eq_true rfl, Nat.le_of_ble_eq_true rfl⟩ (fun H locs hM => ?_)
        obtain ⟨hz1_, hz2_, hz3_, hz4_⟩ := id (show qvP len (gnP ip len (tk2 (tsV w (slN ip sl (sp1 pq)) S (sp1 pq)) (sp1 pq))) from (qv_gn (qv_t2 (qv_s1 hq))))
        refine lv_aload_n hx hb dX8_takesStreet_41 rfl (lv_at hl 1 rfl) ?_
        refine fg_X8_187 hC hM mq_F rfl dX8_takesStreet_42 ?_
        refine me_evi (y := nI (qFl (gnP ip len (tk2 (tsV w (slN ip sl (sp1 pq)) S (sp1 pq)) (sp1 pq))))) rfl ?_
        refine lv_if_ne (tgt := 52) hx hb dX8_takesStreet_45 (by decide) (fun c_6 => ?_) (fun c_6 => ?_)
        · have c_6 := (not_congr (br_eq rfl (show (0 : Int32) = nI 0 from rfl) (by omega) (by omega))).mp c_6
          refine lv_iconst (v := 0) hx hb dX8_takesStreet_52 (by decide) ?_
          exact me_iret hC hr hlk hM (by unfold tsR tsQ; rw [if_neg c_6]) (rfl) (rfl) dX8_takesStreet_53
        · have c_6 := (br_eq rfl (show (0 : Int32) = nI 0 from rfl) (by omega) (by omega)).mp c_6
          refine lv_iload_n hx hb dX8_takesStreet_48 rfl (lv_at hl 0 rfl) ?_
          refine lv_goto (tgt := 53) hx hb dX8_takesStreet_49 (by decide) ?_
          exact me_iret hC hr hlk hM (by unfold tsR tsQ; rw [if_pos c_6]) (rfl) (rfl) dX8_takesStreet_53
  · have c_1 := (br_eq rfl (show (0 : Int32) = nI 0 from rfl) (by omega) (by omega)).mp c_1
    refine lv_aload_n hx hb dX8_takesStreet_11 rfl (lv_at hl 0 rfl) ?_
    refine me_callVi (As := []) (rest := []) hC hl.1 hM (c_X8_streetSpelled l D tb X z0 n mo (pqF F (sp1 pq)) w av od sv (slN ip sl (sp1 pq)) nz ip ot M0 S hS hS0) (kv_X8_208 hw rfl rfl ⟨Nat.le_of_ble_eq_true rfl, Nat.le_of_ble_eq_true rfl⟩) rfl rfl mq_F rfl (Nat.le_of_ble_eq_true rfl) dX8_takesStreet_12 ⟨Nat.le_of_ble_eq_true rfl, Nat.le_of_ble_eq_true rfl⟩ (fun H locs hM => ?_)
    refine lv_goto (tgt := 19) hx hb dX8_takesStreet_15 (by decide) ?_
    refine me_evi (y := tsV w (slN ip sl (sp1 pq)) S (sp1 pq)) (by unfold tsV; rw [if_pos c_1]) ?_
    refine lv_istore_n (lv' := [(1, .int (tsV w (slN ip sl (sp1 pq)) S (sp1 pq))), (0, .ref mo)]) hx hb dX8_takesStreet_19 rfl hl (by decide) rfl (fun ls hl => ?_)
    refine lv_aload_n hx hb dX8_takesStreet_20 rfl (lv_at hl 1 rfl) ?_
    refine fg_X8_187 hC hM mq_F rfl dX8_takesStreet_21 ?_
    refine me_evi (y := nI (qFl (sp1 pq))) rfl ?_
    refine lv_if_ne (tgt := 37) hx hb dX8_takesStreet_24 (by decide) (fun c_7 => ?_) (fun c_7 => ?_)
    · have c_7 := (not_congr (br_eq rfl (show (0 : Int32) = nI 0 from rfl) (by omega) (by omega))).mp c_7
      have hM := hM.eq (M2 := mq tb mo (pqF F (tk2 (tsV w (slN ip sl (sp1 pq)) S (sp1 pq)) (sp1 pq))) w av od sv (slN ip sl (sp1 pq)) nz ip ot M0) (mq_ps (by unfold tk2; rw [if_neg (fun z => c_7 z.1)]))
      obtain ⟨hz1_, hz2_, hz3_, hz4_⟩ := id (show qvP len (tk2 (tsV w (slN ip sl (sp1 pq)) S (sp1 pq)) (sp1 pq)) from (qv_t2 (qv_s1 hq)))
      refine lv_aload_n hx hb dX8_takesStreet_37 rfl (lv_at hl 1 rfl) ?_
      refine me_callVv (As := []) (rest := []) hC hl.1 hM (c_X8_goesOn l D tb X z0 n mo F w av od sv (slN ip sl (sp1 pq)) nz ip ot M0 len (tk2 (tsV w (slN ip sl (sp1 pq)) S (sp1 pq)) (sp1 pq))  hln hln0 (qv_t2 (qv_s1 hq)) ) (kv_X8_202 hw rfl rfl ⟨Nat.le_of_ble_eq_true rfl, Nat.le_of_ble_eq_true rfl⟩) rfl rfl mq_F rfl (Nat.le_of_ble_eq_true rfl) dX8_takesStreet_38 ⟨Nat.le_of_ble_eq_true rfl, Nat.le_of_ble_eq_true rfl⟩ (fun H locs hM => ?_)
      obtain ⟨hz1_, hz2_, hz3_, hz4_⟩ := id (show qvP len (gnP ip len (tk2 (tsV w (slN ip sl (sp1 pq)) S (sp1 pq)) (sp1 pq))) from (qv_gn (qv_t2 (qv_s1 hq))))
      refine lv_aload_n hx hb dX8_takesStreet_41 rfl (lv_at hl 1 rfl) ?_
      refine fg_X8_187 hC hM mq_F rfl dX8_takesStreet_42 ?_
      refine me_evi (y := nI (qFl (gnP ip len (tk2 (tsV w (slN ip sl (sp1 pq)) S (sp1 pq)) (sp1 pq))))) rfl ?_
      refine lv_if_ne (tgt := 52) hx hb dX8_takesStreet_45 (by decide) (fun c_8 => ?_) (fun c_8 => ?_)
      · have c_8 := (not_congr (br_eq rfl (show (0 : Int32) = nI 0 from rfl) (by omega) (by omega))).mp c_8
        refine lv_iconst (v := 0) hx hb dX8_takesStreet_52 (by decide) ?_
        exact me_iret hC hr hlk hM (by unfold tsR tsQ; rw [if_neg c_8]) (rfl) (rfl) dX8_takesStreet_53
      · have c_8 := (br_eq rfl (show (0 : Int32) = nI 0 from rfl) (by omega) (by omega)).mp c_8
        refine lv_iload_n hx hb dX8_takesStreet_48 rfl (lv_at hl 0 rfl) ?_
        refine lv_goto (tgt := 53) hx hb dX8_takesStreet_49 (by decide) ?_
        exact me_iret hC hr hlk hM (by unfold tsR tsQ; rw [if_pos c_8]) (rfl) (rfl) dX8_takesStreet_53
    · have c_7 := (br_eq rfl (show (0 : Int32) = nI 0 from rfl) (by omega) (by omega)).mp c_7
      refine lv_iload_n hx hb dX8_takesStreet_27 rfl (lv_at hl 0 rfl) ?_
      refine lv_iconst (v := (-1)) hx hb dX8_takesStreet_28 (by decide) ?_
      refine lv_icmp_ne (tgt := 37) hx hb dX8_takesStreet_29 (by decide) (fun c_9 => ?_) (fun c_9 => ?_)
      · have hM := hM.eq (M2 := mq tb mo (pqF F (tk2 (tsV w (slN ip sl (sp1 pq)) S (sp1 pq)) (sp1 pq))) w av od sv (slN ip sl (sp1 pq)) nz ip ot M0) (mq_ps (by unfold tk2; rw [if_neg (fun z => c_9 z.2)]))
        obtain ⟨hz1_, hz2_, hz3_, hz4_⟩ := id (show qvP len (tk2 (tsV w (slN ip sl (sp1 pq)) S (sp1 pq)) (sp1 pq)) from (qv_t2 (qv_s1 hq)))
        refine lv_aload_n hx hb dX8_takesStreet_37 rfl (lv_at hl 1 rfl) ?_
        refine me_callVv (As := []) (rest := []) hC hl.1 hM (c_X8_goesOn l D tb X z0 n mo F w av od sv (slN ip sl (sp1 pq)) nz ip ot M0 len (tk2 (tsV w (slN ip sl (sp1 pq)) S (sp1 pq)) (sp1 pq))  hln hln0 (qv_t2 (qv_s1 hq)) ) (kv_X8_202 hw rfl rfl ⟨Nat.le_of_ble_eq_true rfl, Nat.le_of_ble_eq_true rfl⟩) rfl rfl mq_F rfl (Nat.le_of_ble_eq_true rfl) dX8_takesStreet_38 ⟨Nat.le_of_ble_eq_true rfl, Nat.le_of_ble_eq_true rfl⟩ (fun H locs hM => ?_)
        obtain ⟨hz1_, hz2_, hz3_, hz4_⟩ := id (show qvP len (gnP ip len (tk2 (tsV w (slN ip sl (sp1 pq)) S (sp1 pq)) (sp1 pq))) from (qv_gn (qv_t2 (qv_s1 hq))))
        refine lv_aload_n hx hb dX8_takesStreet_41 rfl (lv_at hl 1 rfl) ?_
        refine fg_X8_187 hC hM mq_F rfl dX8_takesStreet_42 ?_
        refine me_evi (y := nI (qFl (gnP ip len (tk2 (tsV w (slN ip sl (sp1 pq)) S (sp1 pq)) (sp1 pq))))) rfl ?_
        refine lv_if_ne (tgt := 52) hx hb dX8_takesStreet_45 (by decide) (fun c_10 => ?_) (fun c_10 => ?_)
        · have c_10 := (not_congr (br_eq rfl (show (0 : Int32) = nI 0 from rfl) (by omega) (by omega))).mp c_10
          refine lv_iconst (v := 0) hx hb dX8_takesStreet_52 (by decide) ?_
          exact me_iret hC hr hlk hM (by unfold tsR tsQ; rw [if_neg c_10]) (rfl) (rfl) dX8_takesStreet_53
        · have c_10 := (br_eq rfl (show (0 : Int32) = nI 0 from rfl) (by omega) (by omega)).mp c_10
          refine lv_iload_n hx hb dX8_takesStreet_48 rfl (lv_at hl 0 rfl) ?_
          refine lv_goto (tgt := 53) hx hb dX8_takesStreet_49 (by decide) ?_
          exact me_iret hC hr hlk hM (by unfold tsR tsQ; rw [if_pos c_10]) (rfl) (rfl) dX8_takesStreet_53
      · refine lv_aload_n hx hb dX8_takesStreet_32 rfl (lv_at hl 1 rfl) ?_
        refine lv_iconst (v := 3) hx hb dX8_takesStreet_33 (by decide) ?_
        refine me_stk (st2 := [.int (nI 3), .ref mo]) (by rw [(nx_c 3)]) ?_
        refine me_callVv (As := [.int (nI 3)]) (rest := []) hC hl.1 hM (c_X8_errs l D tb X z0 n mo F w av od sv (slN ip sl (sp1 pq)) nz ip ot M0 len (sp1 pq) 3 hln hln0 (qv_s1 hq) (by omega)) (kv_X8_196 hw rfl rfl ⟨Nat.le_of_ble_eq_true rfl, Nat.le_of_ble_eq_true rfl⟩) rfl rfl mq_F rfl (Nat.le_of_ble_eq_true rfl) dX8_takesStreet_34 ⟨Nat.le_of_ble_eq_true rfl, Nat.le_of_ble_eq_true rfl⟩ (fun H locs hM => ?_)
        have hM := hM.eq (M2 := mq tb mo (pqF F (tk2 (tsV w (slN ip sl (sp1 pq)) S (sp1 pq)) (sp1 pq))) w av od sv (slN ip sl (sp1 pq)) nz ip ot M0) (mq_ps (by unfold tk2; rw [if_pos ⟨c_7, c_9⟩]))
        obtain ⟨hz1_, hz2_, hz3_, hz4_⟩ := id (show qvP len (tk2 (tsV w (slN ip sl (sp1 pq)) S (sp1 pq)) (sp1 pq)) from (qv_t2 (qv_s1 hq)))
        refine lv_aload_n hx hb dX8_takesStreet_37 rfl (lv_at hl 1 rfl) ?_
        refine me_callVv (As := []) (rest := []) hC hl.1 hM (c_X8_goesOn l D tb X z0 n mo F w av od sv (slN ip sl (sp1 pq)) nz ip ot M0 len (tk2 (tsV w (slN ip sl (sp1 pq)) S (sp1 pq)) (sp1 pq))  hln hln0 (qv_t2 (qv_s1 hq)) ) (kv_X8_202 hw rfl rfl ⟨Nat.le_of_ble_eq_true rfl, Nat.le_of_ble_eq_true rfl⟩) rfl rfl mq_F rfl (Nat.le_of_ble_eq_true rfl) dX8_takesStreet_38 ⟨Nat.le_of_ble_eq_true rfl, Nat.le_of_ble_eq_true rfl⟩ (fun H locs hM => ?_)
        obtain ⟨hz1_, hz2_, hz3_, hz4_⟩ := id (show qvP len (gnP ip len (tk2 (tsV w (slN ip sl (sp1 pq)) S (sp1 pq)) (sp1 pq))) from (qv_gn (qv_t2 (qv_s1 hq))))
        refine lv_aload_n hx hb dX8_takesStreet_41 rfl (lv_at hl 1 rfl) ?_
        refine fg_X8_187 hC hM mq_F rfl dX8_takesStreet_42 ?_
        refine me_evi (y := nI (qFl (gnP ip len (tk2 (tsV w (slN ip sl (sp1 pq)) S (sp1 pq)) (sp1 pq))))) rfl ?_
        refine lv_if_ne (tgt := 52) hx hb dX8_takesStreet_45 (by decide) (fun c_11 => ?_) (fun c_11 => ?_)
        · have c_11 := (not_congr (br_eq rfl (show (0 : Int32) = nI 0 from rfl) (by omega) (by omega))).mp c_11
          refine lv_iconst (v := 0) hx hb dX8_takesStreet_52 (by decide) ?_
          exact me_iret hC hr hlk hM (by unfold tsR tsQ; rw [if_neg c_11]) (rfl) (rfl) dX8_takesStreet_53
        · have c_11 := (br_eq rfl (show (0 : Int32) = nI 0 from rfl) (by omega) (by omega)).mp c_11
          refine lv_iload_n hx hb dX8_takesStreet_48 rfl (lv_at hl 0 rfl) ?_
          refine lv_goto (tgt := 53) hx hb dX8_takesStreet_49 (by decide) ?_
          exact me_iret hC hr hlk hM (by unfold tsR tsQ; rw [if_pos c_11]) (rfl) (rfl) dX8_takesStreet_53
set_option maxHeartbeats 4000000 in
theorem c_X8_takesBorrower (l : Launch) (D : va_G) (tb : Nat → ClassId) (X : State → Prop) (z0 n : Nat) (mo : Nat) (F w av od sv sl nz ip ot : Nat → Int32) (M0 : me_M) (len : Nat) (pq : QS) (B : Nat)  (hln : F 7 = nI len) (hln0 : len ≤ 700) (hq : qvP len pq) (hB : w 4 = nI B) (hB0 : B ≤ 12) : Met l yX8_takesBorrower (.code yX8_takesBorrower cX8_takesBorrower 2 (some .int) :: ws_all) ({ frames := 3, cells := 0, slots := 0, locals := 62 } : Room) (me_Pc [.ref mo] D tb X z0 (mq tb mo (pqF F (pq)) w av od sv sl nz ip ot M0) n) (me_Qi D z0 (tbR ip len w sl B pq) (mq tb mo (pqF F (tbQ ip len w sl B pq)) w av od sv (slN ip sl (sp1 pq)) nz ip ot M0) n) 0 0 (me_A z0) := by
  refine me_open (by decide) (Nat.le_of_ble_eq_true rfl) ?_
  intro p e s m args below meth c ls hC hr hlk hnm hM hl
  have hl : lv_has ls 2 [(0, .ref mo)] := hl
  have hx := hC.1
  have hb := hC.2.1
  have hw := hC.2.2.2.2.1
  obtain ⟨hq1, hq2, hq3, hq4⟩ := id hq
  refine lv_aload_n hx hb dX8_takesBorrower_0 rfl (lv_at hl 0 rfl) ?_
  refine me_callVv (As := []) (rest := []) hC hl.1 hM (c_X8_spellsHere l D tb X z0 n mo F w av od sv sl nz ip ot M0 len pq  hln hln0 hq ) (kv_X8_205 hw rfl rfl ⟨Nat.le_of_ble_eq_true rfl, Nat.le_of_ble_eq_true rfl⟩) rfl rfl mq_F rfl (Nat.le_of_ble_eq_true rfl) dX8_takesBorrower_1 ⟨Nat.le_of_ble_eq_true rfl, Nat.le_of_ble_eq_true rfl⟩ (fun H locs hM => ?_)
  obtain ⟨hz1_, hz2_, hz3_, hz4_⟩ := id (show qvP len (sp1 pq) from (qv_s1 hq))
  refine lv_aload_n hx hb dX8_takesBorrower_4 rfl (lv_at hl 0 rfl) ?_
  refine fg_X8_187 hC hM mq_F rfl dX8_takesBorrower_5 ?_
  refine me_evi (y := nI (qFl (sp1 pq))) rfl ?_
  refine lv_if_ne (tgt := 18) hx hb dX8_takesBorrower_8 (by decide) (fun c_1 => ?_) (fun c_1 => ?_)
  · have c_1 := (not_congr (br_eq rfl (show (0 : Int32) = nI 0 from rfl) (by omega) (by omega))).mp c_1
    refine lv_iconst (v := 0) hx hb dX8_takesBorrower_18 (by decide) ?_
    refine me_evi (y := tbV w (slN ip sl (sp1 pq)) B (sp1 pq)) (by unfold tbV; rw [if_neg c_1]) ?_
    refine lv_istore_n (lv' := [(1, .int (tbV w (slN ip sl (sp1 pq)) B (sp1 pq))), (0, .ref mo)]) hx hb dX8_takesBorrower_19 rfl hl (by decide) rfl (fun ls hl => ?_)
    refine lv_aload_n hx hb dX8_takesBorrower_20 rfl (lv_at hl 1 rfl) ?_
    refine fg_X8_187 hC hM mq_F rfl dX8_takesBorrower_21 ?_
    refine me_evi (y := nI (qFl (sp1 pq))) rfl ?_
    refine lv_if_ne (tgt := 37) hx hb dX8_takesBorrower_24 (by decide) (fun c_2 => ?_) (fun c_2 => ?_)
    · have c_2 := (not_congr (br_eq rfl (show (0 : Int32) = nI 0 from rfl) (by omega) (by omega))).mp c_2
      have hM := hM.eq (M2 := mq tb mo (pqF F (tk2 (tbV w (slN ip sl (sp1 pq)) B (sp1 pq)) (sp1 pq))) w av od sv (slN ip sl (sp1 pq)) nz ip ot M0) (mq_ps (by unfold tk2; rw [if_neg (fun z => c_2 z.1)]))
      obtain ⟨hz1_, hz2_, hz3_, hz4_⟩ := id (show qvP len (tk2 (tbV w (slN ip sl (sp1 pq)) B (sp1 pq)) (sp1 pq)) from (qv_t2 (qv_s1 hq)))
      refine lv_aload_n hx hb dX8_takesBorrower_37 rfl (lv_at hl 1 rfl) ?_
      refine me_callVv (As := []) (rest := []) hC hl.1 hM (c_X8_goesOn l D tb X z0 n mo F w av od sv (slN ip sl (sp1 pq)) nz ip ot M0 len (tk2 (tbV w (slN ip sl (sp1 pq)) B (sp1 pq)) (sp1 pq))  hln hln0 (qv_t2 (qv_s1 hq)) ) (kv_X8_202 hw rfl rfl ⟨Nat.le_of_ble_eq_true rfl, Nat.le_of_ble_eq_true rfl⟩) rfl rfl mq_F rfl (Nat.le_of_ble_eq_true rfl) dX8_takesBorrower_38 ⟨Nat.le_of_ble_eq_true rfl, Nat.le_of_ble_eq_true rfl⟩ (fun H locs hM => ?_)
      obtain ⟨hz1_, hz2_, hz3_, hz4_⟩ := id (show qvP len (gnP ip len (tk2 (tbV w (slN ip sl (sp1 pq)) B (sp1 pq)) (sp1 pq))) from (qv_gn (qv_t2 (qv_s1 hq))))
      refine lv_aload_n hx hb dX8_takesBorrower_41 rfl (lv_at hl 1 rfl) ?_
      refine fg_X8_187 hC hM mq_F rfl dX8_takesBorrower_42 ?_
      refine me_evi (y := nI (qFl (gnP ip len (tk2 (tbV w (slN ip sl (sp1 pq)) B (sp1 pq)) (sp1 pq))))) rfl ?_
      refine lv_if_ne (tgt := 52) hx hb dX8_takesBorrower_45 (by decide) (fun c_3 => ?_) (fun c_3 => ?_)
      · have c_3 := (not_congr (br_eq rfl (show (0 : Int32) = nI 0 from rfl) (by omega) (by omega))).mp c_3
        refine lv_iconst (v := 0) hx hb dX8_takesBorrower_52 (by decide) ?_
        exact me_iret hC hr hlk hM (by unfold tbR tbQ; rw [if_neg c_3]) (rfl) (rfl) dX8_takesBorrower_53
      · have c_3 := (br_eq rfl (show (0 : Int32) = nI 0 from rfl) (by omega) (by omega)).mp c_3
        refine lv_iload_n hx hb dX8_takesBorrower_48 rfl (lv_at hl 0 rfl) ?_
        refine lv_goto (tgt := 53) hx hb dX8_takesBorrower_49 (by decide) ?_
        exact me_iret hC hr hlk hM (by unfold tbR tbQ; rw [if_pos c_3]) (rfl) (rfl) dX8_takesBorrower_53
    · have c_2 := (br_eq rfl (show (0 : Int32) = nI 0 from rfl) (by omega) (by omega)).mp c_2
      refine lv_iload_n hx hb dX8_takesBorrower_27 rfl (lv_at hl 0 rfl) ?_
      refine lv_iconst (v := (-1)) hx hb dX8_takesBorrower_28 (by decide) ?_
      refine lv_icmp_ne (tgt := 37) hx hb dX8_takesBorrower_29 (by decide) (fun c_4 => ?_) (fun c_4 => ?_)
      · have hM := hM.eq (M2 := mq tb mo (pqF F (tk2 (tbV w (slN ip sl (sp1 pq)) B (sp1 pq)) (sp1 pq))) w av od sv (slN ip sl (sp1 pq)) nz ip ot M0) (mq_ps (by unfold tk2; rw [if_neg (fun z => c_4 z.2)]))
        obtain ⟨hz1_, hz2_, hz3_, hz4_⟩ := id (show qvP len (tk2 (tbV w (slN ip sl (sp1 pq)) B (sp1 pq)) (sp1 pq)) from (qv_t2 (qv_s1 hq)))
        refine lv_aload_n hx hb dX8_takesBorrower_37 rfl (lv_at hl 1 rfl) ?_
        refine me_callVv (As := []) (rest := []) hC hl.1 hM (c_X8_goesOn l D tb X z0 n mo F w av od sv (slN ip sl (sp1 pq)) nz ip ot M0 len (tk2 (tbV w (slN ip sl (sp1 pq)) B (sp1 pq)) (sp1 pq))  hln hln0 (qv_t2 (qv_s1 hq)) ) (kv_X8_202 hw rfl rfl ⟨Nat.le_of_ble_eq_true rfl, Nat.le_of_ble_eq_true rfl⟩) rfl rfl mq_F rfl (Nat.le_of_ble_eq_true rfl) dX8_takesBorrower_38 ⟨Nat.le_of_ble_eq_true rfl, Nat.le_of_ble_eq_true rfl⟩ (fun H locs hM => ?_)
        obtain ⟨hz1_, hz2_, hz3_, hz4_⟩ := id (show qvP len (gnP ip len (tk2 (tbV w (slN ip sl (sp1 pq)) B (sp1 pq)) (sp1 pq))) from (qv_gn (qv_t2 (qv_s1 hq))))
        refine lv_aload_n hx hb dX8_takesBorrower_41 rfl (lv_at hl 1 rfl) ?_
        refine fg_X8_187 hC hM mq_F rfl dX8_takesBorrower_42 ?_
        refine me_evi (y := nI (qFl (gnP ip len (tk2 (tbV w (slN ip sl (sp1 pq)) B (sp1 pq)) (sp1 pq))))) rfl ?_
        refine lv_if_ne (tgt := 52) hx hb dX8_takesBorrower_45 (by decide) (fun c_5 => ?_) (fun c_5 => ?_)
        · have c_5 := (not_congr (br_eq rfl (show (0 : Int32) = nI 0 from rfl) (by omega) (by omega))).mp c_5
          refine lv_iconst (v := 0) hx hb dX8_takesBorrower_52 (by decide) ?_
          exact me_iret hC hr hlk hM (by unfold tbR tbQ; rw [if_neg c_5]) (rfl) (rfl) dX8_takesBorrower_53
        · have c_5 := (br_eq rfl (show (0 : Int32) = nI 0 from rfl) (by omega) (by omega)).mp c_5
          refine lv_iload_n hx hb dX8_takesBorrower_48 rfl (lv_at hl 0 rfl) ?_
          refine lv_goto (tgt := 53) hx hb dX8_takesBorrower_49 (by decide) ?_
          exact me_iret hC hr hlk hM (by unfold tbR tbQ; rw [if_pos c_5]) (rfl) (rfl) dX8_takesBorrower_53
      · refine lv_aload_n hx hb dX8_takesBorrower_32 rfl (lv_at hl 1 rfl) ?_
        refine lv_iconst (v := 3) hx hb dX8_takesBorrower_33 (by decide) ?_
        refine me_stk (st2 := [.int (nI 3), .ref mo]) (by rw [(nx_c 3)]) ?_
        refine me_callVv (As := [.int (nI 3)]) (rest := []) hC hl.1 hM (c_X8_errs l D tb X z0 n mo F w av od sv (slN ip sl (sp1 pq)) nz ip ot M0 len (sp1 pq) 3 hln hln0 (qv_s1 hq) (by omega)) (kv_X8_196 hw rfl rfl ⟨Nat.le_of_ble_eq_true rfl, Nat.le_of_ble_eq_true rfl⟩) rfl rfl mq_F rfl (Nat.le_of_ble_eq_true rfl) dX8_takesBorrower_34 ⟨Nat.le_of_ble_eq_true rfl, Nat.le_of_ble_eq_true rfl⟩ (fun H locs hM => ?_)
        have hM := hM.eq (M2 := mq tb mo (pqF F (tk2 (tbV w (slN ip sl (sp1 pq)) B (sp1 pq)) (sp1 pq))) w av od sv (slN ip sl (sp1 pq)) nz ip ot M0) (mq_ps (by unfold tk2; rw [if_pos ⟨c_2, c_4⟩]))
        obtain ⟨hz1_, hz2_, hz3_, hz4_⟩ := id (show qvP len (tk2 (tbV w (slN ip sl (sp1 pq)) B (sp1 pq)) (sp1 pq)) from (qv_t2 (qv_s1 hq)))
        refine lv_aload_n hx hb dX8_takesBorrower_37 rfl (lv_at hl 1 rfl) ?_
        refine me_callVv (As := []) (rest := []) hC hl.1 hM (c_X8_goesOn l D tb X z0 n mo F w av od sv (slN ip sl (sp1 pq)) nz ip ot M0 len (tk2 (tbV w (slN ip sl (sp1 pq)) B (sp1 pq)) (sp1 pq))  hln hln0 (qv_t2 (qv_s1 hq)) ) (kv_X8_202 hw rfl rfl ⟨Nat.le_of_ble_eq_true rfl, Nat.le_of_ble_eq_true rfl⟩) rfl rfl mq_F rfl (Nat.le_of_ble_eq_true rfl) dX8_takesBorrower_38 ⟨Nat.le_of_ble_eq_true rfl, Nat.le_of_ble_eq_true rfl⟩ (fun H locs hM => ?_)
        obtain ⟨hz1_, hz2_, hz3_, hz4_⟩ := id (show qvP len (gnP ip len (tk2 (tbV w (slN ip sl (sp1 pq)) B (sp1 pq)) (sp1 pq))) from (qv_gn (qv_t2 (qv_s1 hq))))
        refine lv_aload_n hx hb dX8_takesBorrower_41 rfl (lv_at hl 1 rfl) ?_
        refine fg_X8_187 hC hM mq_F rfl dX8_takesBorrower_42 ?_
        refine me_evi (y := nI (qFl (gnP ip len (tk2 (tbV w (slN ip sl (sp1 pq)) B (sp1 pq)) (sp1 pq))))) rfl ?_
        refine lv_if_ne (tgt := 52) hx hb dX8_takesBorrower_45 (by decide) (fun c_6 => ?_) (fun c_6 => ?_)
        · have c_6 := (not_congr (br_eq rfl (show (0 : Int32) = nI 0 from rfl) (by omega) (by omega))).mp c_6
          refine lv_iconst (v := 0) hx hb dX8_takesBorrower_52 (by decide) ?_
          exact me_iret hC hr hlk hM (by unfold tbR tbQ; rw [if_neg c_6]) (rfl) (rfl) dX8_takesBorrower_53
        · have c_6 := (br_eq rfl (show (0 : Int32) = nI 0 from rfl) (by omega) (by omega)).mp c_6
          refine lv_iload_n hx hb dX8_takesBorrower_48 rfl (lv_at hl 0 rfl) ?_
          refine lv_goto (tgt := 53) hx hb dX8_takesBorrower_49 (by decide) ?_
          exact me_iret hC hr hlk hM (by unfold tbR tbQ; rw [if_pos c_6]) (rfl) (rfl) dX8_takesBorrower_53
  · have c_1 := (br_eq rfl (show (0 : Int32) = nI 0 from rfl) (by omega) (by omega)).mp c_1
    refine lv_aload_n hx hb dX8_takesBorrower_11 rfl (lv_at hl 0 rfl) ?_
    refine me_callVi (As := []) (rest := []) hC hl.1 hM (c_X8_borrowerSpelled l D tb X z0 n mo (pqF F (sp1 pq)) w av od sv (slN ip sl (sp1 pq)) nz ip ot M0 B hB hB0) (kv_X8_211 hw rfl rfl ⟨Nat.le_of_ble_eq_true rfl, Nat.le_of_ble_eq_true rfl⟩) rfl rfl mq_F rfl (Nat.le_of_ble_eq_true rfl) dX8_takesBorrower_12 ⟨Nat.le_of_ble_eq_true rfl, Nat.le_of_ble_eq_true rfl⟩ (fun H locs hM => ?_)
    refine lv_goto (tgt := 19) hx hb dX8_takesBorrower_15 (by decide) ?_
    refine me_evi (y := tbV w (slN ip sl (sp1 pq)) B (sp1 pq)) (by unfold tbV; rw [if_pos c_1]) ?_
    refine lv_istore_n (lv' := [(1, .int (tbV w (slN ip sl (sp1 pq)) B (sp1 pq))), (0, .ref mo)]) hx hb dX8_takesBorrower_19 rfl hl (by decide) rfl (fun ls hl => ?_)
    refine lv_aload_n hx hb dX8_takesBorrower_20 rfl (lv_at hl 1 rfl) ?_
    refine fg_X8_187 hC hM mq_F rfl dX8_takesBorrower_21 ?_
    refine me_evi (y := nI (qFl (sp1 pq))) rfl ?_
    refine lv_if_ne (tgt := 37) hx hb dX8_takesBorrower_24 (by decide) (fun c_7 => ?_) (fun c_7 => ?_)
    · have c_7 := (not_congr (br_eq rfl (show (0 : Int32) = nI 0 from rfl) (by omega) (by omega))).mp c_7
      have hM := hM.eq (M2 := mq tb mo (pqF F (tk2 (tbV w (slN ip sl (sp1 pq)) B (sp1 pq)) (sp1 pq))) w av od sv (slN ip sl (sp1 pq)) nz ip ot M0) (mq_ps (by unfold tk2; rw [if_neg (fun z => c_7 z.1)]))
      obtain ⟨hz1_, hz2_, hz3_, hz4_⟩ := id (show qvP len (tk2 (tbV w (slN ip sl (sp1 pq)) B (sp1 pq)) (sp1 pq)) from (qv_t2 (qv_s1 hq)))
      refine lv_aload_n hx hb dX8_takesBorrower_37 rfl (lv_at hl 1 rfl) ?_
      refine me_callVv (As := []) (rest := []) hC hl.1 hM (c_X8_goesOn l D tb X z0 n mo F w av od sv (slN ip sl (sp1 pq)) nz ip ot M0 len (tk2 (tbV w (slN ip sl (sp1 pq)) B (sp1 pq)) (sp1 pq))  hln hln0 (qv_t2 (qv_s1 hq)) ) (kv_X8_202 hw rfl rfl ⟨Nat.le_of_ble_eq_true rfl, Nat.le_of_ble_eq_true rfl⟩) rfl rfl mq_F rfl (Nat.le_of_ble_eq_true rfl) dX8_takesBorrower_38 ⟨Nat.le_of_ble_eq_true rfl, Nat.le_of_ble_eq_true rfl⟩ (fun H locs hM => ?_)
      obtain ⟨hz1_, hz2_, hz3_, hz4_⟩ := id (show qvP len (gnP ip len (tk2 (tbV w (slN ip sl (sp1 pq)) B (sp1 pq)) (sp1 pq))) from (qv_gn (qv_t2 (qv_s1 hq))))
      refine lv_aload_n hx hb dX8_takesBorrower_41 rfl (lv_at hl 1 rfl) ?_
      refine fg_X8_187 hC hM mq_F rfl dX8_takesBorrower_42 ?_
      refine me_evi (y := nI (qFl (gnP ip len (tk2 (tbV w (slN ip sl (sp1 pq)) B (sp1 pq)) (sp1 pq))))) rfl ?_
      refine lv_if_ne (tgt := 52) hx hb dX8_takesBorrower_45 (by decide) (fun c_8 => ?_) (fun c_8 => ?_)
      · have c_8 := (not_congr (br_eq rfl (show (0 : Int32) = nI 0 from rfl) (by omega) (by omega))).mp c_8
        refine lv_iconst (v := 0) hx hb dX8_takesBorrower_52 (by decide) ?_
        exact me_iret hC hr hlk hM (by unfold tbR tbQ; rw [if_neg c_8]) (rfl) (rfl) dX8_takesBorrower_53
      · have c_8 := (br_eq rfl (show (0 : Int32) = nI 0 from rfl) (by omega) (by omega)).mp c_8
        refine lv_iload_n hx hb dX8_takesBorrower_48 rfl (lv_at hl 0 rfl) ?_
        refine lv_goto (tgt := 53) hx hb dX8_takesBorrower_49 (by decide) ?_
        exact me_iret hC hr hlk hM (by unfold tbR tbQ; rw [if_pos c_8]) (rfl) (rfl) dX8_takesBorrower_53
    · have c_7 := (br_eq rfl (show (0 : Int32) = nI 0 from rfl) (by omega) (by omega)).mp c_7
      refine lv_iload_n hx hb dX8_takesBorrower_27 rfl (lv_at hl 0 rfl) ?_
      refine lv_iconst (v := (-1)) hx hb dX8_takesBorrower_28 (by decide) ?_
      refine lv_icmp_ne (tgt := 37) hx hb dX8_takesBorrower_29 (by decide) (fun c_9 => ?_) (fun c_9 => ?_)
      · have hM := hM.eq (M2 := mq tb mo (pqF F (tk2 (tbV w (slN ip sl (sp1 pq)) B (sp1 pq)) (sp1 pq))) w av od sv (slN ip sl (sp1 pq)) nz ip ot M0) (mq_ps (by unfold tk2; rw [if_neg (fun z => c_9 z.2)]))
        obtain ⟨hz1_, hz2_, hz3_, hz4_⟩ := id (show qvP len (tk2 (tbV w (slN ip sl (sp1 pq)) B (sp1 pq)) (sp1 pq)) from (qv_t2 (qv_s1 hq)))
        refine lv_aload_n hx hb dX8_takesBorrower_37 rfl (lv_at hl 1 rfl) ?_
        refine me_callVv (As := []) (rest := []) hC hl.1 hM (c_X8_goesOn l D tb X z0 n mo F w av od sv (slN ip sl (sp1 pq)) nz ip ot M0 len (tk2 (tbV w (slN ip sl (sp1 pq)) B (sp1 pq)) (sp1 pq))  hln hln0 (qv_t2 (qv_s1 hq)) ) (kv_X8_202 hw rfl rfl ⟨Nat.le_of_ble_eq_true rfl, Nat.le_of_ble_eq_true rfl⟩) rfl rfl mq_F rfl (Nat.le_of_ble_eq_true rfl) dX8_takesBorrower_38 ⟨Nat.le_of_ble_eq_true rfl, Nat.le_of_ble_eq_true rfl⟩ (fun H locs hM => ?_)
        obtain ⟨hz1_, hz2_, hz3_, hz4_⟩ := id (show qvP len (gnP ip len (tk2 (tbV w (slN ip sl (sp1 pq)) B (sp1 pq)) (sp1 pq))) from (qv_gn (qv_t2 (qv_s1 hq))))
        refine lv_aload_n hx hb dX8_takesBorrower_41 rfl (lv_at hl 1 rfl) ?_
        refine fg_X8_187 hC hM mq_F rfl dX8_takesBorrower_42 ?_
        refine me_evi (y := nI (qFl (gnP ip len (tk2 (tbV w (slN ip sl (sp1 pq)) B (sp1 pq)) (sp1 pq))))) rfl ?_
        refine lv_if_ne (tgt := 52) hx hb dX8_takesBorrower_45 (by decide) (fun c_10 => ?_) (fun c_10 => ?_)
        · have c_10 := (not_congr (br_eq rfl (show (0 : Int32) = nI 0 from rfl) (by omega) (by omega))).mp c_10
          refine lv_iconst (v := 0) hx hb dX8_takesBorrower_52 (by decide) ?_
          exact me_iret hC hr hlk hM (by unfold tbR tbQ; rw [if_neg c_10]) (rfl) (rfl) dX8_takesBorrower_53
        · have c_10 := (br_eq rfl (show (0 : Int32) = nI 0 from rfl) (by omega) (by omega)).mp c_10
          refine lv_iload_n hx hb dX8_takesBorrower_48 rfl (lv_at hl 0 rfl) ?_
          refine lv_goto (tgt := 53) hx hb dX8_takesBorrower_49 (by decide) ?_
          exact me_iret hC hr hlk hM (by unfold tbR tbQ; rw [if_pos c_10]) (rfl) (rfl) dX8_takesBorrower_53
      · refine lv_aload_n hx hb dX8_takesBorrower_32 rfl (lv_at hl 1 rfl) ?_
        refine lv_iconst (v := 3) hx hb dX8_takesBorrower_33 (by decide) ?_
        refine me_stk (st2 := [.int (nI 3), .ref mo]) (by rw [(nx_c 3)]) ?_
        refine me_callVv (As := [.int (nI 3)]) (rest := []) hC hl.1 hM (c_X8_errs l D tb X z0 n mo F w av od sv (slN ip sl (sp1 pq)) nz ip ot M0 len (sp1 pq) 3 hln hln0 (qv_s1 hq) (by omega)) (kv_X8_196 hw rfl rfl ⟨Nat.le_of_ble_eq_true rfl, Nat.le_of_ble_eq_true rfl⟩) rfl rfl mq_F rfl (Nat.le_of_ble_eq_true rfl) dX8_takesBorrower_34 ⟨Nat.le_of_ble_eq_true rfl, Nat.le_of_ble_eq_true rfl⟩ (fun H locs hM => ?_)
        have hM := hM.eq (M2 := mq tb mo (pqF F (tk2 (tbV w (slN ip sl (sp1 pq)) B (sp1 pq)) (sp1 pq))) w av od sv (slN ip sl (sp1 pq)) nz ip ot M0) (mq_ps (by unfold tk2; rw [if_pos ⟨c_7, c_9⟩]))
        obtain ⟨hz1_, hz2_, hz3_, hz4_⟩ := id (show qvP len (tk2 (tbV w (slN ip sl (sp1 pq)) B (sp1 pq)) (sp1 pq)) from (qv_t2 (qv_s1 hq)))
        refine lv_aload_n hx hb dX8_takesBorrower_37 rfl (lv_at hl 1 rfl) ?_
        refine me_callVv (As := []) (rest := []) hC hl.1 hM (c_X8_goesOn l D tb X z0 n mo F w av od sv (slN ip sl (sp1 pq)) nz ip ot M0 len (tk2 (tbV w (slN ip sl (sp1 pq)) B (sp1 pq)) (sp1 pq))  hln hln0 (qv_t2 (qv_s1 hq)) ) (kv_X8_202 hw rfl rfl ⟨Nat.le_of_ble_eq_true rfl, Nat.le_of_ble_eq_true rfl⟩) rfl rfl mq_F rfl (Nat.le_of_ble_eq_true rfl) dX8_takesBorrower_38 ⟨Nat.le_of_ble_eq_true rfl, Nat.le_of_ble_eq_true rfl⟩ (fun H locs hM => ?_)
        obtain ⟨hz1_, hz2_, hz3_, hz4_⟩ := id (show qvP len (gnP ip len (tk2 (tbV w (slN ip sl (sp1 pq)) B (sp1 pq)) (sp1 pq))) from (qv_gn (qv_t2 (qv_s1 hq))))
        refine lv_aload_n hx hb dX8_takesBorrower_41 rfl (lv_at hl 1 rfl) ?_
        refine fg_X8_187 hC hM mq_F rfl dX8_takesBorrower_42 ?_
        refine me_evi (y := nI (qFl (gnP ip len (tk2 (tbV w (slN ip sl (sp1 pq)) B (sp1 pq)) (sp1 pq))))) rfl ?_
        refine lv_if_ne (tgt := 52) hx hb dX8_takesBorrower_45 (by decide) (fun c_11 => ?_) (fun c_11 => ?_)
        · have c_11 := (not_congr (br_eq rfl (show (0 : Int32) = nI 0 from rfl) (by omega) (by omega))).mp c_11
          refine lv_iconst (v := 0) hx hb dX8_takesBorrower_52 (by decide) ?_
          exact me_iret hC hr hlk hM (by unfold tbR tbQ; rw [if_neg c_11]) (rfl) (rfl) dX8_takesBorrower_53
        · have c_11 := (br_eq rfl (show (0 : Int32) = nI 0 from rfl) (by omega) (by omega)).mp c_11
          refine lv_iload_n hx hb dX8_takesBorrower_48 rfl (lv_at hl 0 rfl) ?_
          refine lv_goto (tgt := 53) hx hb dX8_takesBorrower_49 (by decide) ?_
          exact me_iret hC hr hlk hM (by unfold tbR tbQ; rw [if_pos c_11]) (rfl) (rfl) dX8_takesBorrower_53
set_option maxHeartbeats 4000000 in
theorem c_X8_takesStart (l : Launch) (D : va_G) (tb : Nat → ClassId) (X : State → Prop) (z0 n : Nat) (mo : Nat) (F w av od sv sl nz ip ot : Nat → Int32) (M0 : me_M) (len : Nat) (pq : QS)  (hln : F 7 = nI len) (hln0 : len ≤ 700) (hq : qvP len pq) : Met l yX8_takesStart (.code yX8_takesStart cX8_takesStart 1 (some .int) :: ws_all) ({ frames := 4, cells := 0, slots := 0, locals := 85 } : Room) (me_Pc [.ref mo] D tb X z0 (mq tb mo (pqF F (pq)) w av od sv sl nz ip ot M0) n) (me_Qi D z0 (heV (w 2) (w 2 + 48 - 1) pq) (mq tb mo (pqF F (tnQ ip len (w 2) (w 2 + 48 - 1) pq)) w av od sv sl nz ip ot M0) n) 0 0 (me_A z0) := by
  refine me_open (by decide) (Nat.le_of_ble_eq_true rfl) ?_
  intro p e s m args below meth c ls hC hr hlk hnm hM hl
  have hl : lv_has ls 1 [(0, .ref mo)] := hl
  have hx := hC.1
  have hb := hC.2.1
  have hw := hC.2.2.2.2.1
  obtain ⟨hq1, hq2, hq3, hq4⟩ := id hq
  refine lv_aload_n hx hb dX8_takesStart_0 rfl (lv_at hl 0 rfl) ?_
  refine lv_aload_n hx hb dX8_takesStart_1 rfl (lv_at hl 0 rfl) ?_
  refine fg_X8_13 hC hM mq_F rfl dX8_takesStart_2 ?_
  refine lv_iconst (v := 2) hx hb dX8_takesStart_5 (by decide) ?_
  refine me_iald (k := 2) hC hM mq_w (nx_c 2) (by omega) (by decide) dX8_takesStart_6 ?_
  refine lv_aload_n hx hb dX8_takesStart_7 rfl (lv_at hl 0 rfl) ?_
  refine fg_X8_13 hC hM mq_F rfl dX8_takesStart_8 ?_
  refine lv_iconst (v := 2) hx hb dX8_takesStart_11 (by decide) ?_
  refine me_iald (k := 2) hC hM mq_w (nx_c 2) (by omega) (by decide) dX8_takesStart_12 ?_
  refine lv_bipush (v := 48) hx hb dX8_takesStart_13 (by decide) ?_
  refine lv_iadd hx hb dX8_takesStart_15 ?_
  refine lv_iconst (v := 1) hx hb dX8_takesStart_16 (by decide) ?_
  refine lv_isub hx hb dX8_takesStart_17 ?_
  refine me_callVi (As := [.int (w 2), .int (((w 2) + 48) - 1)]) (rest := []) hC hl.1 hM (c_X8_takesNumber l D tb X z0 n mo F w av od sv sl nz ip ot M0 len pq (w 2) (((w 2) + 48) - 1) hln hln0 hq ) (kv_X8_214 hw rfl rfl ⟨Nat.le_of_ble_eq_true rfl, Nat.le_of_ble_eq_true rfl⟩) rfl rfl mq_F rfl (Nat.le_of_ble_eq_true rfl) dX8_takesStart_18 ⟨Nat.le_of_ble_eq_true rfl, Nat.le_of_ble_eq_true rfl⟩ (fun H locs hM => ?_)
  exact me_iret hC hr hlk hM (rfl) (rfl) (rfl) dX8_takesStart_21
set_option maxHeartbeats 4000000 in
theorem c_X8_lengthHere (l : Launch) (D : va_G) (tb : Nat → ClassId) (X : State → Prop) (z0 n : Nat) (mo : Nat) (F w av od sv sl nz ip ot : Nat → Int32) (M0 : me_M) (len : Nat) (pq : QS) (s9 x9 : Int32)  (hln : F 7 = nI len) (hln0 : len ≤ 700) (hq : qvP len pq) : Met l yX8_lengthHere (.code yX8_lengthHere cX8_lengthHere 4 (some .int) :: ws_all) ({ frames := 2, cells := 0, slots := 0, locals := 44 } : Room) (me_Pc [.ref mo, .int s9, .int x9] D tb X z0 (mq tb mo (pqF F (pq)) w av od sv sl nz ip ot M0) n) (me_Qi D z0 (heV 1 (mnF x9 (w 2 + 48 - s9)) pq) (mq tb mo (pqF F (heQ 1 (mnF x9 (w 2 + 48 - s9)) pq)) w av od sv sl nz ip ot M0) n) 0 0 (me_A z0) := by
  refine me_open (by decide) (Nat.le_of_ble_eq_true rfl) ?_
  intro p e s m args below meth c ls hC hr hlk hnm hM hl
  have hl : lv_has ls 4 [(0, .ref mo), (1, .int s9), (2, .int x9)] := hl
  have hx := hC.1
  have hb := hC.2.1
  have hw := hC.2.2.2.2.1
  obtain ⟨hq1, hq2, hq3, hq4⟩ := id hq
  refine lv_aload_n hx hb dX8_lengthHere_0 rfl (lv_at hl 0 rfl) ?_
  refine fg_X8_13 hC hM mq_F rfl dX8_lengthHere_1 ?_
  refine lv_iconst (v := 2) hx hb dX8_lengthHere_4 (by decide) ?_
  refine me_iald (k := 2) hC hM mq_w (nx_c 2) (by omega) (by decide) dX8_lengthHere_5 ?_
  refine lv_bipush (v := 48) hx hb dX8_lengthHere_6 (by decide) ?_
  refine lv_iadd hx hb dX8_lengthHere_8 ?_
  refine lv_iload_n hx hb dX8_lengthHere_9 rfl (lv_at hl 1 rfl) ?_
  refine lv_isub hx hb dX8_lengthHere_10 ?_
  refine lv_istore_n (lv' := [(3, .int (((w 2) + 48) - s9)), (0, .ref mo), (1, .int s9), (2, .int x9)]) hx hb dX8_lengthHere_11 rfl hl (by decide) rfl (fun ls hl => ?_)
  refine lv_aload_n hx hb dX8_lengthHere_12 rfl (lv_at hl 1 rfl) ?_
  refine lv_iconst (v := 1) hx hb dX8_lengthHere_13 (by decide) ?_
  refine lv_iload_n hx hb dX8_lengthHere_14 rfl (lv_at hl 0 rfl) ?_
  refine lv_iload_n hx hb dX8_lengthHere_15 rfl (lv_at hl 3 rfl) ?_
  refine lv_icmp_ge (tgt := 23) hx hb dX8_lengthHere_16 (by decide) (fun c_1 => ?_) (fun c_1 => ?_)
  · have c_1q := c_1
    have c_1 := Int32.not_lt.mpr c_1
    refine lv_iload_n hx hb dX8_lengthHere_23 rfl (lv_at hl 3 rfl) ?_
    refine me_evi (y := mnF x9 (w 2 + 48 - s9)) (by unfold mnF; rw [if_neg c_1]) ?_
    refine me_callVi (As := [.int 1, .int (mnF x9 (w 2 + 48 - s9))]) (rest := []) hC hl.1 hM (c_X8_here l D tb X z0 n mo F w av od sv sl nz ip ot M0 len pq 1 (mnF x9 (w 2 + 48 - s9)) hln hln0 hq ) (kv_X8_199 hw rfl rfl ⟨Nat.le_of_ble_eq_true rfl, Nat.le_of_ble_eq_true rfl⟩) rfl rfl mq_F rfl (Nat.le_of_ble_eq_true rfl) dX8_lengthHere_24 ⟨Nat.le_of_ble_eq_true rfl, Nat.le_of_ble_eq_true rfl⟩ (fun H locs hM => ?_)
    exact me_iret hC hr hlk hM (rfl) (rfl) (rfl) dX8_lengthHere_27
  · have c_1q := c_1
    have c_1 := Int32.not_le.mp c_1
    refine lv_iload_n hx hb dX8_lengthHere_19 rfl (lv_at hl 0 rfl) ?_
    refine lv_goto (tgt := 24) hx hb dX8_lengthHere_20 (by decide) ?_
    refine me_evi (y := mnF x9 (w 2 + 48 - s9)) (by unfold mnF; rw [if_pos c_1]) ?_
    refine me_callVi (As := [.int 1, .int (mnF x9 (w 2 + 48 - s9))]) (rest := []) hC hl.1 hM (c_X8_here l D tb X z0 n mo F w av od sv sl nz ip ot M0 len pq 1 (mnF x9 (w 2 + 48 - s9)) hln hln0 hq ) (kv_X8_199 hw rfl rfl ⟨Nat.le_of_ble_eq_true rfl, Nat.le_of_ble_eq_true rfl⟩) rfl rfl mq_F rfl (Nat.le_of_ble_eq_true rfl) dX8_lengthHere_24 ⟨Nat.le_of_ble_eq_true rfl, Nat.le_of_ble_eq_true rfl⟩ (fun H locs hM => ?_)
    exact me_iret hC hr hlk hM (rfl) (rfl) (rfl) dX8_lengthHere_27
