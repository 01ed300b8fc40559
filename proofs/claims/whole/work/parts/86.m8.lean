set_option maxHeartbeats 4000000 in
theorem c_X8_writes (l : Launch) (D : va_G) (tb : Nat → ClassId) (X : State → Prop) (z0 n : Nat) (mo : Nat) (F w av od sv sl nz ip ot : Nat → Int32) (M0 : me_M) (om : Nat) (x : Int32)  (how : F 4 = nI om) (how0 : om < 40) : Met l yX8_writes (.code yX8_writes cX8_writes 2 none :: ws_all) ({ frames := 0, cells := 0, slots := 0, locals := 0 } : Room) (me_Pc [.ref mo, .int x] D tb X z0 (mq tb mo F w av od sv sl nz ip ot M0) n) (me_Qv D z0 (mq tb mo (upd F 4 (nI (om + 1))) w av od sv sl nz ip (upd ot om (wb x)) M0) n) 0 0 (me_A z0) := by
  refine me_open (by decide) (Nat.le_of_ble_eq_true rfl) ?_
  intro p e s m args below meth c ls hC hr hlk hnm hM hl
  have hl : lv_has ls 2 [(0, .ref mo), (1, .int x)] := hl
  have hx := hC.1
  have hb := hC.2.1
  have hw := hC.2.2.2.2.1
  refine lv_aload_n hx hb dX8_writes_0 rfl (lv_at hl 0 rfl) ?_
  refine fg_X8_35 hC hM mq_F rfl dX8_writes_1 ?_
  refine lv_aload_n hx hb dX8_writes_4 rfl (lv_at hl 0 rfl) ?_
  refine fg_X8_333 hC hM mq_F rfl dX8_writes_5 ?_
  refine lv_iload_n hx hb dX8_writes_8 rfl (lv_at hl 1 rfl) ?_
  refine lv_i2b (v := x.toInt8.toInt32) hx hb dX8_writes_9 rfl ?_
  refine me_bast (k := om) (M2 := mq tb mo F w av od sv sl nz ip (upd ot om (vp_nar .byte x.toInt8.toInt32)) M0) hC hM mq_ot how (by omega) (by first | decide | omega) mq_w_ot dX8_writes_10 (fun H locs hM => ?_)
  refine lv_aload_n hx hb dX8_writes_11 rfl (lv_at hl 0 rfl) ?_
  refine lv_dup hx hb dX8_writes_12 rfl ?_
  refine fg_X8_333 hC hM mq_F rfl dX8_writes_13 ?_
  refine lv_iconst (v := 1) hx hb dX8_writes_16 (by decide) ?_
  refine lv_iadd hx hb dX8_writes_17 ?_
  refine fp_X8_333 hC hM mq_F (Nat.le_of_ble_eq_true rfl) (M2 := mq tb mo (upd F 4 ((F 4) + 1)) w av od sv sl nz ip (upd ot om (vp_nar .byte x.toInt8.toInt32)) M0) (mq_wF (i := 4) (by simp [upd])) dX8_writes_18 (fun H locs hM => ?_)
  exact me_vret hC hr hlk hM (by rw [show F 4 + 1 = nI (om + 1) from nx_add how (show (1 : Int32) = nI 1 from rfl)]) (rfl) dX8_writes_21
set_option maxHeartbeats 4000000 in
theorem c_X8_writesName (l : Launch) (D : va_G) (tb : Nat → ClassId) (X : State → Prop) (z0 n : Nat) (mo : Nat) (F w av od sv sl nz ip ot : Nat → Int32) (M0 : me_M) (om a0 : Nat)  (how : F 4 = nI om) (how0 : om + 6 ≤ 40) (ha0 : a0 + 6 ≤ 411) : Met l yX8_writesName (.code yX8_writesName cX8_writesName 3 none :: ws_all) ({ frames := 1, cells := 0, slots := 0, locals := 21 } : Room) (me_Pc [.ref mo, .int (nI a0)] D tb X z0 (mq tb mo F w av od sv sl nz ip ot M0) n) (me_Qv D z0 (mq tb mo (upd F 4 (nI (om + nlM w a0))) w av od sv sl nz ip (cq ot (nmW w a0) om (nlM w a0)) M0) n) 0 0 (me_A z0) := by
  refine me_open (by decide) (Nat.le_of_ble_eq_true rfl) ?_
  intro p e s m args below meth c ls hC hr hlk hnm hM hl
  have hl : lv_has ls 3 [(0, .ref mo), (1, .int (nI a0))] := hl
  have hx := hC.1
  have hb := hC.2.1
  have hw := hC.2.2.2.2.1
  refine lv_iconst (v := 0) hx hb dX8_writesName_0 (by decide) ?_
  refine lv_istore_n (lv' := [(2, .int 0), (0, .ref mo), (1, .int (nI a0))]) hx hb dX8_writesName_1 rfl hl (by decide) rfl (fun ls hl => ?_)
  have lp_2 : ∀ (r : Nat) (k : Nat) (H : Heap) (locs : List Loc) (ls : Array Slot), (k + r = 6) → (nlM w a0 = nlR w a0 r k) → me_at D z0 (mq tb mo (upd F 4 (nI (om + k))) w av od sv sl nz ip (cq ot (nmW w a0) om k) M0) n s H locs → lv_has ls 3 [(0, .ref mo), (1, .int (nI a0)), (2, .int (nI k))] → W p l e (({ frames := 1, cells := 0, slots := 0, locals := 21 } : Room)) s m args below meth c H locs 0 0 (MQ below (me_Qv D z0 (mq tb mo (upd F 4 (nI (om + nlM w a0))) w av od sv sl nz ip (cq ot (nmW w a0) om (nlM w a0)) M0) n) args s 0 0 (me_A z0)) (F0 m 2 ls []) := by
    intro r
    refine Nat.strongRecOn r ?_
    intro r ih_2 k H locs ls hk hq hM hl
    refine lv_iload_n hx hb dX8_writesName_2 rfl (lv_at hl 2 rfl) ?_
    refine lv_bipush (v := 6) hx hb dX8_writesName_3 (by decide) ?_
    refine lv_icmp_ge (tgt := 37) hx hb dX8_writesName_5 (by decide) (fun c_1 => ?_) (fun c_1 => ?_)
    · have c_1 := (br_le (nx_c 6) rfl (by omega) (by omega)).mp c_1
      exact me_vret hC hr hlk hM (by rw [show nlM w a0 = k from hq.trans (by rw [show r = 0 by omega]; rfl)]) (rfl) dX8_writesName_37
    · have c_1 := (not_congr (br_le (nx_c 6) rfl (by omega) (by omega))).mp c_1
      obtain ⟨r1, rfl⟩ : ∃ r1, r = r1 + 1 := ⟨r - 1, by omega⟩
      refine lv_aload_n hx hb dX8_writesName_8 rfl (lv_at hl 0 rfl) ?_
      refine fg_X8_13 hC hM mq_F rfl dX8_writesName_9 ?_
      refine lv_iload_n hx hb dX8_writesName_12 rfl (lv_at hl 1 rfl) ?_
      refine lv_iload_n hx hb dX8_writesName_13 rfl (lv_at hl 2 rfl) ?_
      refine lv_iadd hx hb dX8_writesName_14 ?_
      refine me_iald (k := a0 + k) hC hM mq_w (nx_add rfl rfl) (by omega) (by decide) dX8_writesName_15 ?_
      refine lv_if_eq (tgt := 37) hx hb dX8_writesName_16 (by decide) (fun c_2 => ?_) (fun c_2 => ?_)
      · exact me_vret hC hr hlk hM (by rw [show nlM w a0 = k from hq.trans (nlR_t c_2)]) (rfl) dX8_writesName_37
      · refine lv_aload_n hx hb dX8_writesName_19 rfl (lv_at hl 0 rfl) ?_
        refine lv_aload_n hx hb dX8_writesName_20 rfl (lv_at hl 0 rfl) ?_
        refine fg_X8_13 hC hM mq_F rfl dX8_writesName_21 ?_
        refine lv_iload_n hx hb dX8_writesName_24 rfl (lv_at hl 1 rfl) ?_
        refine lv_iload_n hx hb dX8_writesName_25 rfl (lv_at hl 2 rfl) ?_
        refine lv_iadd hx hb dX8_writesName_26 ?_
        refine me_iald (k := a0 + k) hC hM mq_w (nx_add rfl rfl) (by omega) (by decide) dX8_writesName_27 ?_
        refine me_callVv (As := [.int (w (a0 + k))]) (rest := []) hC hl.1 hM (c_X8_writes l D tb X z0 n mo (upd F 4 (nI (om + k))) w av od sv sl nz ip (cq ot (nmW w a0) om k) M0 (om + k) (w (a0 + k)) (upd_s _ _ _) (by omega)) (kv_X8_336 hw rfl rfl ⟨Nat.le_of_ble_eq_true rfl, Nat.le_of_ble_eq_true rfl⟩) rfl rfl mq_F rfl (Nat.le_of_ble_eq_true rfl) dX8_writesName_28 ⟨Nat.le_of_ble_eq_true rfl, Nat.le_of_ble_eq_true rfl⟩ (fun H locs hM => ?_)
        have hM := hM.eq (M2 := mq tb mo (upd F 4 (nI (om + k + 1))) w av od sv sl nz ip (upd (cq ot (nmW w a0) om k) (om + k) (wb (w (a0 + k)))) M0) (by rw [upd_upd])
        refine lv_iinc (v := nI (k + 1)) (lv' := [(2, .int (nI (k + 1))), (0, .ref mo), (1, .int (nI a0))]) hx hb dX8_writesName_31 hl (k := 2) rfl (nx_add rfl rfl) (by decide) rfl (fun ls hl => ?_)
        refine lv_goto (tgt := 2) hx hb dX8_writesName_34 (by decide) ?_
        exact ih_2 r1 (by omega) (k + 1) _ _ _ (by omega) (hq.trans (nlR_f c_2)) (hM.eq (by rw [← cq_s]; rfl)) (lv_sub hl [1, 2, 0] rfl)
  exact lp_2 6 0 _ _ _ (by omega) rfl (hM.eq (by rw [cq_0, Nat.add_zero, upd_id how])) (lv_sub hl [1, 2, 0] rfl)
set_option maxHeartbeats 4000000 in
theorem c_X8_writesNumber_0 (l : Launch) (D : va_G) (tb : Nat → ClassId) (X : State → Prop) (z0 n : Nat) (mo : Nat) (F w av od sv sl nz ip ot : Nat → Int32) (M0 : me_M) (om a : Nat)  (how : F 4 = nI om) (how0 : om + 11 ≤ 40) (ha9 : a < 2 ^ 31) : Met l yX8_writesNumber (.code yX8_writesNumber cX8_writesNumber 4 none :: ws_all) ({ frames := 1, cells := 0, slots := 0, locals := 21 } : Room) (me_Pc [.ref mo, .int (nI a)] D tb X z0 (mq tb mo F w av od sv sl nz ip ot M0) n) (me_Qv D z0 (mq tb mo (upd F 4 (nI (om + (dgM a)))) w av od sv sl nz ip (cq ot (dgW a) (om) (dgM a)) M0) n) 0 0 (me_A z0) := by
  refine me_open (by decide) (Nat.le_of_ble_eq_true rfl) ?_
  intro p e s m args below meth c ls hC hr hlk hnm hM hl
  have hl : lv_has ls 4 [(0, .ref mo), (1, .int (nI a))] := hl
  have hx := hC.1
  have hb := hC.2.1
  have hw := hC.2.2.2.2.1
  refine lv_iload_n hx hb dX8_writesNumber_0 rfl (lv_at hl 1 rfl) ?_
  refine lv_if_ge (tgt := 10) hx hb dX8_writesNumber_1 (by decide) (fun c_1 => ?_) (fun c_1 => ?_)
  · have c_1 := (br_le (show (0 : Int32) = nI 0 from rfl) rfl (by omega) (by omega)).mp c_1
    refine lv_iload_n hx hb dX8_writesNumber_10 rfl (lv_at hl 1 rfl) ?_
    refine me_callSi (As := [.int (nI a)]) (rest := []) hC hl.1 hM (c_X8_without l D tb X z0 n _ (nI a) ) (ks_X8_321 hw rfl rfl ⟨Nat.le_of_ble_eq_true rfl, Nat.le_of_ble_eq_true rfl⟩) rfl rfl (Nat.le_of_ble_eq_true rfl) dX8_writesNumber_11 ⟨Nat.le_of_ble_eq_true rfl, Nat.le_of_ble_eq_true rfl⟩ (fun H locs hM => ?_)
    refine me_evi (y := nI a) (if_neg (mw_pos ha9)) ?_
    refine lv_istore_n (lv' := [(2, .int (nI a)), (0, .ref mo), (1, .int (nI a))]) hx hb dX8_writesNumber_14 rfl hl (by decide) rfl (fun ls hl => ?_)
    refine lv_iconst (v := 1) hx hb dX8_writesNumber_15 (by decide) ?_
    refine me_evi (y := nI (10 ^ 0)) rfl ?_
    refine lv_istore_n (lv' := [(3, .int (nI (10 ^ 0))), (2, .int (nI a)), (0, .ref mo), (1, .int (nI a))]) hx hb dX8_writesNumber_16 rfl hl (by decide) rfl (fun ls hl => ?_)
    have lp_17 : ∀ (r : Nat) (ex : Nat) (H : Heap) (locs : List Loc) (ls : Array Slot), (ex + r = 9) → (tnR a 9 0 = tnR a r ex) → me_at D z0 (mq tb mo F w av od sv sl nz ip ot M0) n s H locs → lv_has ls 4 [(0, .ref mo), (1, .int (nI a)), (2, .int (nI a)), (3, .int (nI (10 ^ ex)))] → W p l e (({ frames := 1, cells := 0, slots := 0, locals := 21 } : Room)) s m args below meth c H locs 0 0 (MQ below (me_Qv D z0 (mq tb mo (upd F 4 (nI (om + (dgM a)))) w av od sv sl nz ip (cq ot (dgW a) (om) (dgM a)) M0) n) args s 0 0 (me_A z0)) (F0 m 17 ls []) := by
      intro r
      refine Nat.strongRecOn r ?_
      intro r ih_17 ex H locs ls he hq hM hl
      obtain ⟨hp1, hp2⟩ := p10 (show ex ≤ 9 by omega)
      have hdv := Nat.div_le_self a (10 ^ ex)
      refine lv_iload_n hx hb dX8_writesNumber_17 rfl (lv_at hl 2 rfl) ?_
      refine lv_iload_n hx hb dX8_writesNumber_18 rfl (lv_at hl 3 rfl) ?_
      refine lv_idiv hx hb dX8_writesNumber_19 (nI_n0 hp1 hp2) ?_
      refine me_evi (y := nI (a / (10 ^ ex))) (nx_div rfl rfl (by omega) hp1 hp2) ?_
      refine lv_bipush (v := 9) hx hb dX8_writesNumber_20 (by decide) ?_
      refine lv_icmp_le (tgt := 33) hx hb dX8_writesNumber_22 (by decide) (fun c_2 => ?_) (fun c_2 => ?_)
      · have c_2 := (br_le rfl (nx_c 9) (by omega) (by omega)).mp c_2
        have lp_33 : ∀ (r : Nat) (i : Nat) (H : Heap) (locs : List Loc) (ls : Array Slot), (i + r = dgM a) → me_at D z0 (mq tb mo (upd F 4 (nI (om + i))) w av od sv sl nz ip (cq ot (dgW a) (om) i) M0) n s H locs → lv_has ls 4 [(0, .ref mo), (1, .int (nI a)), (2, .int (nI a)), (3, .int (nI (unT (dgM a) i)))] → W p l e (({ frames := 1, cells := 0, slots := 0, locals := 21 } : Room)) s m args below meth c H locs 0 0 (MQ below (me_Qv D z0 (mq tb mo (upd F 4 (nI (om + (dgM a)))) w av od sv sl nz ip (cq ot (dgW a) (om) (dgM a)) M0) n) args s 0 0 (me_A z0)) (F0 m 33 ls []) := by
          intro r
          refine Nat.strongRecOn r ?_
          intro r ih_33 i H locs ls hi hM hl
          obtain ⟨hd1, hd2⟩ := dgM_b a
          have hu1 := unT_b (d := dgM a) (i := i) hd2
          have hu2 := unT_p (d := dgM a) (i := i) hd2
          have hdv := Nat.div_le_self a (unT (dgM a) i)
          refine lv_iload_n hx hb dX8_writesNumber_33 rfl (lv_at hl 3 rfl) ?_
          refine lv_if_le (tgt := 58) hx hb dX8_writesNumber_34 (by decide) (fun c_3 => ?_) (fun c_3 => ?_)
          · have c_3 := (br_le rfl (show (0 : Int32) = nI 0 from rfl) (by omega) (by omega)).mp c_3
            exact me_vret hC hr hlk hM (by rw [show i = dgM a by omega]) (rfl) dX8_writesNumber_58
          · have c_3 := (not_congr (br_le rfl (show (0 : Int32) = nI 0 from rfl) (by omega) (by omega))).mp c_3
            obtain ⟨r1, rfl⟩ : ∃ r1, r = r1 + 1 := ⟨r - 1, by omega⟩
            refine lv_aload_n hx hb dX8_writesNumber_37 rfl (lv_at hl 0 rfl) ?_
            refine lv_bipush (v := 48) hx hb dX8_writesNumber_38 (by decide) ?_
            refine lv_iload_n hx hb dX8_writesNumber_40 rfl (lv_at hl 2 rfl) ?_
            refine lv_iload_n hx hb dX8_writesNumber_41 rfl (lv_at hl 3 rfl) ?_
            refine lv_idiv hx hb dX8_writesNumber_42 (nI_n0 (hu2.mpr (by omega)) hu1) ?_
            refine me_evi (y := nI (a / (unT (dgM a) i))) (nx_div rfl rfl (by omega) (hu2.mpr (by omega)) hu1) ?_
            refine lv_bipush (v := 10) hx hb dX8_writesNumber_43 (by decide) ?_
            refine lv_irem hx hb dX8_writesNumber_45 ((by decide)) ?_
            refine me_evi (y := nI ((a / (unT (dgM a) i)) % 10)) (nx_rem 10 rfl (by omega) (by omega) (by omega)) ?_
            refine lv_iadd hx hb dX8_writesNumber_46 ?_
            refine me_evi (y := nI (48 + a / 10 ^ (dgM a - 1 - i) % 10)) (by rw [show (10 : Nat) ^ (dgM a - 1 - i) = unT (dgM a) i by unfold unT; rw [if_pos (by omega)]]; exact nx_add (nx_c 48) rfl) ?_
            refine me_callVv (As := [.int (nI (48 + a / 10 ^ (dgM a - 1 - i) % 10))]) (rest := []) hC hl.1 hM (c_X8_writes l D tb X z0 n mo (upd F 4 (nI (om + i))) w av od sv sl nz ip (cq ot (dgW a) (om) i) M0 (om + i) (nI (48 + a / 10 ^ (dgM a - 1 - i) % 10)) (upd_s _ _ _) (by omega)) (kv_X8_336 hw rfl rfl ⟨Nat.le_of_ble_eq_true rfl, Nat.le_of_ble_eq_true rfl⟩) rfl rfl mq_F rfl (Nat.le_of_ble_eq_true rfl) dX8_writesNumber_47 ⟨Nat.le_of_ble_eq_true rfl, Nat.le_of_ble_eq_true rfl⟩ (fun H locs hM => ?_)
            have hM := hM.eq (M2 := mq tb mo (upd F 4 (nI (om + i + 1))) w av od sv sl nz ip (upd (cq ot (dgW a) (om) i) (om + i) (wb (nI (48 + a / 10 ^ (dgM a - 1 - i) % 10)))) M0) (by rw [upd_upd])
            refine lv_iload_n hx hb dX8_writesNumber_50 rfl (lv_at hl 3 rfl) ?_
            refine lv_bipush (v := 10) hx hb dX8_writesNumber_51 (by decide) ?_
            refine lv_idiv hx hb dX8_writesNumber_53 ((by decide)) ?_
            refine me_evi (y := nI ((unT (dgM a) i) / 10)) (nx_div rfl (nx_c 10) (by omega) (by omega) (by omega)) ?_
            refine me_evi (y := nI (unT (dgM a) (i + 1))) (by rw [unT_s hd2 (by omega)]) ?_
            refine lv_istore_n (lv' := [(3, .int (nI (unT (dgM a) (i + 1)))), (0, .ref mo), (1, .int (nI a)), (2, .int (nI a))]) hx hb dX8_writesNumber_54 rfl hl (by decide) rfl (fun ls hl => ?_)
            refine lv_goto (tgt := 33) hx hb dX8_writesNumber_55 (by decide) ?_
            exact ih_33 r1 (by omega) (i + 1) _ _ _ (by omega) (hM.eq (by rw [← cq_s]; rfl)) (lv_sub hl [1, 2, 3, 0] rfl)
        have he9 : tnR a 9 0 = ex := by
          rcases Nat.eq_zero_or_pos r with z | z
          · rw [hq, z]; rfl
          · obtain ⟨r1, rfl⟩ : ∃ r1, r = r1 + 1 := ⟨r - 1, by omega⟩
            exact hq.trans (tnR_f (Nat.not_lt.mpr c_2))
        have hu0 : nI (10 ^ ex) = nI (unT (dgM a) 0) := by rw [unT_0 (dgM_b a).1]; show _ = nI (10 ^ (tnR a 9 0 + 1 - 1)); rw [Nat.add_sub_cancel, he9]
        rw [hu0] at hl
        exact lp_33 (dgM a) 0 _ _ _ (by omega) (hM.eq (by rw [cq_0, Nat.add_zero, upd_id how])) (lv_sub hl [0, 1, 2, 3] rfl)
      · have c_2 := (not_congr (br_le rfl (nx_c 9) (by omega) (by omega))).mp c_2
        obtain ⟨r1, rfl⟩ : ∃ r1, r = r1 + 1 := ⟨r - 1, by
          rcases Nat.eq_zero_or_pos r with z | z
          · have h9 := c_2
            rw [show ex = 9 by omega] at h9
            omega
          · omega⟩
        refine lv_iload_n hx hb dX8_writesNumber_25 rfl (lv_at hl 3 rfl) ?_
        refine lv_bipush (v := 10) hx hb dX8_writesNumber_26 (by decide) ?_
        refine lv_imul hx hb dX8_writesNumber_28 ?_
        refine me_evi (y := nI (10 ^ (ex + 1))) ((nx_mul rfl (nx_c 10)).trans (by rw [Nat.pow_succ])) ?_
        refine lv_istore_n (lv' := [(3, .int (nI (10 ^ (ex + 1)))), (0, .ref mo), (1, .int (nI a)), (2, .int (nI a))]) hx hb dX8_writesNumber_29 rfl hl (by decide) rfl (fun ls hl => ?_)
        refine lv_goto (tgt := 17) hx hb dX8_writesNumber_30 (by decide) ?_
        exact ih_17 r1 (by omega) (ex + 1) _ _ _ (by omega) (hq.trans (tnR_t (Nat.not_le.mp c_2))) hM (lv_sub hl [1, 2, 3, 0] rfl)
    exact lp_17 9 0 _ _ _ (by omega) rfl hM (lv_sub hl [2, 3, 1, 0] rfl)
  · have c_1 := (not_congr (br_le (show (0 : Int32) = nI 0 from rfl) rfl (by omega) (by omega))).mp c_1
    exact absurd (Nat.zero_le _) c_1
set_option maxHeartbeats 4000000 in
theorem c_X8_writesNumber_1 (l : Launch) (D : va_G) (tb : Nat → ClassId) (X : State → Prop) (z0 n : Nat) (mo : Nat) (F w av od sv sl nz ip ot : Nat → Int32) (M0 : me_M) (om a : Nat)  (how : F 4 = nI om) (how0 : om + 11 ≤ 40) (ha9 : a < 2 ^ 31) (hcr : 0 < a) : Met l yX8_writesNumber (.code yX8_writesNumber cX8_writesNumber 4 none :: ws_all) ({ frames := 1, cells := 0, slots := 0, locals := 21 } : Room) (me_Pc [.ref mo, .int (-nI a)] D tb X z0 (mq tb mo F w av od sv sl nz ip ot M0) n) (me_Qv D z0 (mq tb mo (upd F 4 (nI (om + 1 + (dgM a)))) w av od sv sl nz ip (cq (upd ot om (wb 45)) (dgW a) (om + 1) (dgM a)) M0) n) 0 0 (me_A z0) := by
  refine me_open (by decide) (Nat.le_of_ble_eq_true rfl) ?_
  intro p e s m args below meth c ls hC hr hlk hnm hM hl
  have hl : lv_has ls 4 [(0, .ref mo), (1, .int (-nI a))] := hl
  have hx := hC.1
  have hb := hC.2.1
  have hw := hC.2.2.2.2.1
  refine lv_iload_n hx hb dX8_writesNumber_0 rfl (lv_at hl 1 rfl) ?_
  refine lv_if_ge (tgt := 10) hx hb dX8_writesNumber_1 (by decide) (fun c_1 => ?_) (fun c_1 => ?_)
  · exact absurd (neg_lt0 hcr ha9) (Int32.not_lt.mpr c_1)
  · have c_1q := c_1
    have c_1 := Int32.not_le.mp c_1
    refine lv_aload_n hx hb dX8_writesNumber_4 rfl (lv_at hl 0 rfl) ?_
    refine lv_bipush (v := 45) hx hb dX8_writesNumber_5 (by decide) ?_
    refine me_callVv (As := [.int 45]) (rest := []) hC hl.1 hM (c_X8_writes l D tb X z0 n mo F w av od sv sl nz ip ot M0 om (45 : Int32) how (by omega)) (kv_X8_336 hw rfl rfl ⟨Nat.le_of_ble_eq_true rfl, Nat.le_of_ble_eq_true rfl⟩) rfl rfl mq_F rfl (Nat.le_of_ble_eq_true rfl) dX8_writesNumber_7 ⟨Nat.le_of_ble_eq_true rfl, Nat.le_of_ble_eq_true rfl⟩ (fun H locs hM => ?_)
    refine lv_iload_n hx hb dX8_writesNumber_10 rfl (lv_at hl 1 rfl) ?_
    refine me_callSi (As := [.int (-nI a)]) (rest := []) hC hl.1 hM (c_X8_without l D tb X z0 n _ (-nI a) ) (ks_X8_321 hw rfl rfl ⟨Nat.le_of_ble_eq_true rfl, Nat.le_of_ble_eq_true rfl⟩) rfl rfl (Nat.le_of_ble_eq_true rfl) dX8_writesNumber_11 ⟨Nat.le_of_ble_eq_true rfl, Nat.le_of_ble_eq_true rfl⟩ (fun H locs hM => ?_)
    refine me_evi (y := nI a) (mw_neg hcr ha9) ?_
    refine lv_istore_n (lv' := [(2, .int (nI a)), (0, .ref mo), (1, .int (-nI a))]) hx hb dX8_writesNumber_14 rfl hl (by decide) rfl (fun ls hl => ?_)
    refine lv_iconst (v := 1) hx hb dX8_writesNumber_15 (by decide) ?_
    refine me_evi (y := nI (10 ^ 0)) rfl ?_
    refine lv_istore_n (lv' := [(3, .int (nI (10 ^ 0))), (2, .int (nI a)), (0, .ref mo), (1, .int (-nI a))]) hx hb dX8_writesNumber_16 rfl hl (by decide) rfl (fun ls hl => ?_)
    have lp_17 : ∀ (r : Nat) (ex : Nat) (H : Heap) (locs : List Loc) (ls : Array Slot), (ex + r = 9) → (tnR a 9 0 = tnR a r ex) → me_at D z0 (mq tb mo (upd F 4 (nI (om + 1))) w av od sv sl nz ip (upd ot om (wb 45)) M0) n s H locs → lv_has ls 4 [(0, .ref mo), (1, .int (-nI a)), (2, .int (nI a)), (3, .int (nI (10 ^ ex)))] → W p l e (({ frames := 1, cells := 0, slots := 0, locals := 21 } : Room)) s m args below meth c H locs 0 0 (MQ below (me_Qv D z0 (mq tb mo (upd F 4 (nI (om + 1 + (dgM a)))) w av od sv sl nz ip (cq (upd ot om (wb 45)) (dgW a) (om + 1) (dgM a)) M0) n) args s 0 0 (me_A z0)) (F0 m 17 ls []) := by
      intro r
      refine Nat.strongRecOn r ?_
      intro r ih_17 ex H locs ls he hq hM hl
      obtain ⟨hp1, hp2⟩ := p10 (show ex ≤ 9 by omega)
      have hdv := Nat.div_le_self a (10 ^ ex)
      refine lv_iload_n hx hb dX8_writesNumber_17 rfl (lv_at hl 2 rfl) ?_
      refine lv_iload_n hx hb dX8_writesNumber_18 rfl (lv_at hl 3 rfl) ?_
      refine lv_idiv hx hb dX8_writesNumber_19 (nI_n0 hp1 hp2) ?_
      refine me_evi (y := nI (a / (10 ^ ex))) (nx_div rfl rfl (by omega) hp1 hp2) ?_
      refine lv_bipush (v := 9) hx hb dX8_writesNumber_20 (by decide) ?_
      refine lv_icmp_le (tgt := 33) hx hb dX8_writesNumber_22 (by decide) (fun c_2 => ?_) (fun c_2 => ?_)
      · have c_2 := (br_le rfl (nx_c 9) (by omega) (by omega)).mp c_2
        have lp_33 : ∀ (r : Nat) (i : Nat) (H : Heap) (locs : List Loc) (ls : Array Slot), (i + r = dgM a) → me_at D z0 (mq tb mo (upd F 4 (nI (om + 1 + i))) w av od sv sl nz ip (cq (upd ot om (wb 45)) (dgW a) (om + 1) i) M0) n s H locs → lv_has ls 4 [(0, .ref mo), (1, .int (-nI a)), (2, .int (nI a)), (3, .int (nI (unT (dgM a) i)))] → W p l e (({ frames := 1, cells := 0, slots := 0, locals := 21 } : Room)) s m args below meth c H locs 0 0 (MQ below (me_Qv D z0 (mq tb mo (upd F 4 (nI (om + 1 + (dgM a)))) w av od sv sl nz ip (cq (upd ot om (wb 45)) (dgW a) (om + 1) (dgM a)) M0) n) args s 0 0 (me_A z0)) (F0 m 33 ls []) := by
          intro r
          refine Nat.strongRecOn r ?_
          intro r ih_33 i H locs ls hi hM hl
          obtain ⟨hd1, hd2⟩ := dgM_b a
          have hu1 := unT_b (d := dgM a) (i := i) hd2
          have hu2 := unT_p (d := dgM a) (i := i) hd2
          have hdv := Nat.div_le_self a (unT (dgM a) i)
          refine lv_iload_n hx hb dX8_writesNumber_33 rfl (lv_at hl 3 rfl) ?_
          refine lv_if_le (tgt := 58) hx hb dX8_writesNumber_34 (by decide) (fun c_3 => ?_) (fun c_3 => ?_)
          · have c_3 := (br_le rfl (show (0 : Int32) = nI 0 from rfl) (by omega) (by omega)).mp c_3
            exact me_vret hC hr hlk hM (by rw [show i = dgM a by omega]) (rfl) dX8_writesNumber_58
          · have c_3 := (not_congr (br_le rfl (show (0 : Int32) = nI 0 from rfl) (by omega) (by omega))).mp c_3
            obtain ⟨r1, rfl⟩ : ∃ r1, r = r1 + 1 := ⟨r - 1, by omega⟩
            refine lv_aload_n hx hb dX8_writesNumber_37 rfl (lv_at hl 0 rfl) ?_
            refine lv_bipush (v := 48) hx hb dX8_writesNumber_38 (by decide) ?_
            refine lv_iload_n hx hb dX8_writesNumber_40 rfl (lv_at hl 2 rfl) ?_
            refine lv_iload_n hx hb dX8_writesNumber_41 rfl (lv_at hl 3 rfl) ?_
            refine lv_idiv hx hb dX8_writesNumber_42 (nI_n0 (hu2.mpr (by omega)) hu1) ?_
            refine me_evi (y := nI (a / (unT (dgM a) i))) (nx_div rfl rfl (by omega) (hu2.mpr (by omega)) hu1) ?_
            refine lv_bipush (v := 10) hx hb dX8_writesNumber_43 (by decide) ?_
            refine lv_irem hx hb dX8_writesNumber_45 ((by decide)) ?_
            refine me_evi (y := nI ((a / (unT (dgM a) i)) % 10)) (nx_rem 10 rfl (by omega) (by omega) (by omega)) ?_
            refine lv_iadd hx hb dX8_writesNumber_46 ?_
            refine me_evi (y := nI (48 + a / 10 ^ (dgM a - 1 - i) % 10)) (by rw [show (10 : Nat) ^ (dgM a - 1 - i) = unT (dgM a) i by unfold unT; rw [if_pos (by omega)]]; exact nx_add (nx_c 48) rfl) ?_
            refine me_callVv (As := [.int (nI (48 + a / 10 ^ (dgM a - 1 - i) % 10))]) (rest := []) hC hl.1 hM (c_X8_writes l D tb X z0 n mo (upd F 4 (nI (om + 1 + i))) w av od sv sl nz ip (cq (upd ot om (wb 45)) (dgW a) (om + 1) i) M0 (om + 1 + i) (nI (48 + a / 10 ^ (dgM a - 1 - i) % 10)) (upd_s _ _ _) (by omega)) (kv_X8_336 hw rfl rfl ⟨Nat.le_of_ble_eq_true rfl, Nat.le_of_ble_eq_true rfl⟩) rfl rfl mq_F rfl (Nat.le_of_ble_eq_true rfl) dX8_writesNumber_47 ⟨Nat.le_of_ble_eq_true rfl, Nat.le_of_ble_eq_true rfl⟩ (fun H locs hM => ?_)
            have hM := hM.eq (M2 := mq tb mo (upd F 4 (nI (om + 1 + i + 1))) w av od sv sl nz ip (upd (cq (upd ot om (wb 45)) (dgW a) (om + 1) i) (om + 1 + i) (wb (nI (48 + a / 10 ^ (dgM a - 1 - i) % 10)))) M0) (by rw [upd_upd])
            refine lv_iload_n hx hb dX8_writesNumber_50 rfl (lv_at hl 3 rfl) ?_
            refine lv_bipush (v := 10) hx hb dX8_writesNumber_51 (by decide) ?_
            refine lv_idiv hx hb dX8_writesNumber_53 ((by decide)) ?_
            refine me_evi (y := nI ((unT (dgM a) i) / 10)) (nx_div rfl (nx_c 10) (by omega) (by omega) (by omega)) ?_
            refine me_evi (y := nI (unT (dgM a) (i + 1))) (by rw [unT_s hd2 (by omega)]) ?_
            refine lv_istore_n (lv' := [(3, .int (nI (unT (dgM a) (i + 1)))), (0, .ref mo), (1, .int (-nI a)), (2, .int (nI a))]) hx hb dX8_writesNumber_54 rfl hl (by decide) rfl (fun ls hl => ?_)
            refine lv_goto (tgt := 33) hx hb dX8_writesNumber_55 (by decide) ?_
            exact ih_33 r1 (by omega) (i + 1) _ _ _ (by omega) (hM.eq (by rw [← cq_s]; rfl)) (lv_sub hl [1, 2, 3, 0] rfl)
        have he9 : tnR a 9 0 = ex := by
          rcases Nat.eq_zero_or_pos r with z | z
          · rw [hq, z]; rfl
          · obtain ⟨r1, rfl⟩ : ∃ r1, r = r1 + 1 := ⟨r - 1, by omega⟩
            exact hq.trans (tnR_f (Nat.not_lt.mpr c_2))
        have hu0 : nI (10 ^ ex) = nI (unT (dgM a) 0) := by rw [unT_0 (dgM_b a).1]; show _ = nI (10 ^ (tnR a 9 0 + 1 - 1)); rw [Nat.add_sub_cancel, he9]
        rw [hu0] at hl
        exact lp_33 (dgM a) 0 _ _ _ (by omega) (hM.eq (by rw [cq_0, Nat.add_zero])) (lv_sub hl [0, 1, 2, 3] rfl)
      · have c_2 := (not_congr (br_le rfl (nx_c 9) (by omega) (by omega))).mp c_2
        obtain ⟨r1, rfl⟩ : ∃ r1, r = r1 + 1 := ⟨r - 1, by
          rcases Nat.eq_zero_or_pos r with z | z
          · have h9 := c_2
            rw [show ex = 9 by omega] at h9
            omega
          · omega⟩
        refine lv_iload_n hx hb dX8_writesNumber_25 rfl (lv_at hl 3 rfl) ?_
        refine lv_bipush (v := 10) hx hb dX8_writesNumber_26 (by decide) ?_
        refine lv_imul hx hb dX8_writesNumber_28 ?_
        refine me_evi (y := nI (10 ^ (ex + 1))) ((nx_mul rfl (nx_c 10)).trans (by rw [Nat.pow_succ])) ?_
        refine lv_istore_n (lv' := [(3, .int (nI (10 ^ (ex + 1)))), (0, .ref mo), (1, .int (-nI a)), (2, .int (nI a))]) hx hb dX8_writesNumber_29 rfl hl (by decide) rfl (fun ls hl => ?_)
        refine lv_goto (tgt := 17) hx hb dX8_writesNumber_30 (by decide) ?_
        exact ih_17 r1 (by omega) (ex + 1) _ _ _ (by omega) (hq.trans (tnR_t (Nat.not_le.mp c_2))) hM (lv_sub hl [1, 2, 3, 0] rfl)
    exact lp_17 9 0 _ _ _ (by omega) rfl hM (lv_sub hl [2, 3, 1, 0] rfl)
set_option maxHeartbeats 4000000 in
theorem c_X8_writeSchedule (l : Launch) (D : va_G) (tb : Nat → ClassId) (X : State → Prop) (z0 n : Nat) (mo : Nat) (F w av od sv sl nz ip ot : Nat → Int32) (M0 : me_M) (S B L P : Nat) (T : Nat)  (hO : ok1 S B L P T w) (hT0 : T ≤ 9999) : Met l yX8_writeSchedule (.code yX8_writeSchedule cX8_writeSchedule 3 (some .int) :: ws_all) ({ frames := 4, cells := 0, slots := 0, locals := 85 } : Room) (me_Pc [.ref mo] D tb X z0 (mq tb mo F w av od sv sl nz ip ot M0) n) (me_Qi D z0 24 (mq tb mo (upd (upd F 4 24) 0 0) w av od sv sl nz ip (cq ot (shW w L T) 0 24) M0) n) 0 0 (me_A z0) := by
  refine me_open (by decide) (Nat.le_of_ble_eq_true rfl) ?_
  intro p e s m args below meth c ls hC hr hlk hnm hM hl
  have hl : lv_has ls 3 [(0, .ref mo)] := hl
  have hx := hC.1
  have hb := hC.2.1
  have hw := hC.2.2.2.2.1
  obtain ⟨hW, hZ, hT⟩ := id hO
  obtain ⟨hS, hS0, hB, hB0, hL, hL0, hP, hP0, hwb, hwl⟩ := id hW
  have hT2 : T ≤ 20000 := by omega
  refine lv_aload_n hx hb dX8_writeSchedule_0 rfl (lv_at hl 0 rfl) ?_
  refine lv_iconst (v := 0) hx hb dX8_writeSchedule_1 (by decide) ?_
  refine fp_X8_333 hC hM mq_F (Nat.le_of_ble_eq_true rfl) (M2 := mq tb mo (upd F 4 0) w av od sv sl nz ip ot M0) (mq_wF (i := 4) (by simp [upd])) dX8_writeSchedule_2 (fun H locs hM => ?_)
  refine lv_iconst (v := 0) hx hb dX8_writeSchedule_5 (by decide) ?_
  refine lv_istore_n (lv' := [(1, .int 0), (0, .ref mo)]) hx hb dX8_writeSchedule_6 rfl hl (by decide) rfl (fun ls hl => ?_)
  have lp_7 : ∀ (r : Nat) (k : Nat) (H : Heap) (locs : List Loc) (ls : Array Slot), (k + r = 24) → me_at D z0 (mq tb mo (upd F 4 (nI k)) w av od sv sl nz ip (cq ot (shW w L T) 0 k) M0) n s H locs → lv_has ls 3 [(0, .ref mo), (1, .int (nI k))] → W p l e (({ frames := 4, cells := 0, slots := 0, locals := 85 } : Room)) s m args below meth c H locs 0 0 (MQ below (me_Qi D z0 24 (mq tb mo (upd (upd F 4 24) 0 0) w av od sv sl nz ip (cq ot (shW w L T) 0 24) M0) n) args s 0 0 (me_A z0)) (F0 m 7 ls []) := by
    intro r
    refine Nat.strongRecOn r ?_
    intro r ih_7 k H locs ls hk hM hl
    refine lv_iload_n hx hb dX8_writeSchedule_7 rfl (lv_at hl 1 rfl) ?_
    refine lv_bipush (v := 24) hx hb dX8_writeSchedule_8 (by decide) ?_
    refine lv_icmp_ge (tgt := 67) hx hb dX8_writeSchedule_10 (by decide) (fun c_1 => ?_) (fun c_1 => ?_)
    · have c_1 := (br_le (nx_c 24) rfl (by omega) (by omega)).mp c_1
      have hM := hM.eq (M2 := mq tb mo (upd F 4 24) w av od sv sl nz ip (cq ot (shW w L T) 0 24) M0) (by rw [show k = 24 by omega]; rfl)
      refine lv_aload_n hx hb dX8_writeSchedule_67 rfl (lv_at hl 0 rfl) ?_
      refine lv_aload_n hx hb dX8_writeSchedule_68 rfl (lv_at hl 0 rfl) ?_
      refine fg_X8_333 hC hM mq_F rfl dX8_writeSchedule_69 ?_
      refine me_callVi (As := [.int ((upd F 4 24) 4)]) (rest := []) hC hl.1 hM (c_X8_told l D tb X z0 n mo (upd F 4 24) w av od sv sl nz ip (cq ot (shW w L T) 0 24) M0 ((upd F 4 24) 4) ) (kv_X8_271 hw rfl rfl ⟨Nat.le_of_ble_eq_true rfl, Nat.le_of_ble_eq_true rfl⟩) rfl rfl mq_F rfl (Nat.le_of_ble_eq_true rfl) dX8_writeSchedule_72 ⟨Nat.le_of_ble_eq_true rfl, Nat.le_of_ble_eq_true rfl⟩ (fun H locs hM => ?_)
      exact me_iret hC hr hlk hM (upd_s _ _ _) (rfl) (rfl) dX8_writeSchedule_75
    · have c_1 := (not_congr (br_le (nx_c 24) rfl (by omega) (by omega))).mp c_1
      obtain ⟨r1, rfl⟩ : ∃ r1, r = r1 + 1 := ⟨r - 1, by omega⟩
      refine lv_aload_n hx hb dX8_writeSchedule_13 rfl (lv_at hl 0 rfl) ?_
      refine lv_aload_n hx hb dX8_writeSchedule_14 rfl (lv_at hl 0 rfl) ?_
      refine fg_X8_13 hC hM mq_F rfl dX8_writeSchedule_15 ?_
      refine lv_iconst (v := 2) hx hb dX8_writeSchedule_18 (by decide) ?_
      refine me_iald (k := 2) hC hM mq_w (nx_c 2) (by omega) (by decide) dX8_writeSchedule_19 ?_
      refine lv_iload_n hx hb dX8_writeSchedule_20 rfl (lv_at hl 1 rfl) ?_
      refine lv_iadd hx hb dX8_writeSchedule_21 ?_
      refine me_stk (st2 := [.int (nI (T + k)), .ref mo]) (by rw [(nx_add hT rfl)]) ?_
      refine me_callVi (As := [.int (nI (T + k))]) (rest := []) hC hl.1 hM (c_X8_holderAt l D tb X z0 n mo (upd F 4 (nI k)) w av od sv sl nz ip (cq ot (shW w L T) 0 k) M0 L (T + k) hL hL0 (by omega) hZ) (kv_X8_109 hw rfl rfl ⟨Nat.le_of_ble_eq_true rfl, Nat.le_of_ble_eq_true rfl⟩) rfl rfl mq_F rfl (Nat.le_of_ble_eq_true rfl) dX8_writeSchedule_22 ⟨Nat.le_of_ble_eq_true rfl, Nat.le_of_ble_eq_true rfl⟩ (fun H locs hM => ?_)
      refine lv_istore_n (lv' := [(2, .int (hoF w L (nI (T + k)))), (0, .ref mo), (1, .int (nI k))]) hx hb dX8_writeSchedule_25 rfl hl (by decide) rfl (fun ls hl => ?_)
      refine lv_aload_n hx hb dX8_writeSchedule_26 rfl (lv_at hl 1 rfl) ?_
      refine lv_iload_n hx hb dX8_writeSchedule_27 rfl (lv_at hl 0 rfl) ?_
      refine lv_iconst (v := (-1)) hx hb dX8_writeSchedule_28 (by decide) ?_
      refine lv_icmp_ne (tgt := 37) hx hb dX8_writeSchedule_29 (by decide) (fun c_2 => ?_) (fun c_2 => ?_)
      · obtain ⟨kk, hkk0, hkk, -⟩ := hoF_le w L (nI (T + k)) (by omega) c_2
        have hct : (hoF w L (nI (T + k))).toNatClampNeg = kk := by rw [hkk]; exact nI_clamp (by omega)
        have hkl_ := hwl kk hkk0
        refine lv_aload_n hx hb dX8_writeSchedule_37 rfl (lv_at hl 1 rfl) ?_
        refine fg_X8_13 hC hM mq_F rfl dX8_writeSchedule_38 ?_
        refine lv_aload_n hx hb dX8_writeSchedule_41 rfl (lv_at hl 1 rfl) ?_
        refine fg_X8_13 hC hM mq_F rfl dX8_writeSchedule_42 ?_
        refine lv_iload_n hx hb dX8_writeSchedule_45 rfl (lv_at hl 0 rfl) ?_
        refine me_stk (st2 := [.int (nI kk), .ref (mo + 2), .ref (mo + 2), .ref mo]) (by rw [hkk]) ?_
        refine me_callSi (As := [.int (nI kk)]) (rest := [.ref (mo + 2), .ref (mo + 2), .ref mo]) hC hl.1 hM (c_X8_l l D tb X z0 n _ kk ) (ks_X8_93 hw rfl rfl ⟨Nat.le_of_ble_eq_true rfl, Nat.le_of_ble_eq_true rfl⟩) rfl rfl (Nat.le_of_ble_eq_true rfl) dX8_writeSchedule_46 ⟨Nat.le_of_ble_eq_true rfl, Nat.le_of_ble_eq_true rfl⟩ (fun H locs hM => ?_)
        refine lv_iconst (v := 0) hx hb dX8_writeSchedule_49 (by decide) ?_
        refine lv_iadd hx hb dX8_writeSchedule_50 ?_
        refine me_iald (k := 261 + 5 * kk) hC hM mq_w (nx_z rfl) (by omega) (by decide) dX8_writeSchedule_51 ?_
        refine me_stk (st2 := [.int (nI (ow w kk)), .ref (mo + 2), .ref mo]) (by rw [(hwl kk hkk0).1]) ?_
        refine me_callSi (As := [.int (nI (ow w kk))]) (rest := [.ref (mo + 2), .ref mo]) hC hl.1 hM (c_X8_b l D tb X z0 n _ (ow w kk) ) (ks_X8_78 hw rfl rfl ⟨Nat.le_of_ble_eq_true rfl, Nat.le_of_ble_eq_true rfl⟩) rfl rfl (Nat.le_of_ble_eq_true rfl) dX8_writeSchedule_52 ⟨Nat.le_of_ble_eq_true rfl, Nat.le_of_ble_eq_true rfl⟩ (fun H locs hM => ?_)
        refine lv_iconst (v := 5) hx hb dX8_writeSchedule_55 (by decide) ?_
        refine lv_iadd hx hb dX8_writeSchedule_56 ?_
        refine me_iald (k := 89 + 11 * (ow w kk) + 5) hC hM mq_w (nx_add rfl (nx_c 5)) (by omega) (by decide) dX8_writeSchedule_57 ?_
        refine me_evi (y := shV w L T k) (by unfold shV; rw [if_neg c_2, hct]) ?_
        refine me_callVv (As := [.int (shV w L T k)]) (rest := []) hC hl.1 hM (c_X8_writes l D tb X z0 n mo (upd F 4 (nI k)) w av od sv sl nz ip (cq ot (shW w L T) 0 k) M0 k (shV w L T k) (upd_s _ _ _) (by omega)) (kv_X8_336 hw rfl rfl ⟨Nat.le_of_ble_eq_true rfl, Nat.le_of_ble_eq_true rfl⟩) rfl rfl mq_F rfl (Nat.le_of_ble_eq_true rfl) dX8_writeSchedule_58 ⟨Nat.le_of_ble_eq_true rfl, Nat.le_of_ble_eq_true rfl⟩ (fun H locs hM => ?_)
        have hM := hM.eq (M2 := mq tb mo (upd F 4 (nI (k + 1))) w av od sv sl nz ip (upd (cq ot (shW w L T) 0 k) k (wb (shV w L T k))) M0) (by rw [upd_upd])
        refine lv_iinc (v := nI (k + 1)) (lv' := [(1, .int (nI (k + 1))), (2, .int (hoF w L (nI (T + k)))), (0, .ref mo)]) hx hb dX8_writeSchedule_61 hl (k := 2) rfl (nx_add rfl rfl) (by decide) rfl (fun ls hl => ?_)
        refine lv_goto (tgt := 7) hx hb dX8_writeSchedule_64 (by decide) ?_
        exact ih_7 r1 (by omega) (k + 1) _ _ _ (by omega) (hM.eq (by rw [← cq_s0])) (lv_sub hl [2, 0] rfl)
      · refine lv_bipush (v := 46) hx hb dX8_writeSchedule_32 (by decide) ?_
        refine lv_goto (tgt := 58) hx hb dX8_writeSchedule_34 (by decide) ?_
        refine me_evi (y := shV w L T k) (by unfold shV; rw [if_pos c_2]) ?_
        refine me_callVv (As := [.int (shV w L T k)]) (rest := []) hC hl.1 hM (c_X8_writes l D tb X z0 n mo (upd F 4 (nI k)) w av od sv sl nz ip (cq ot (shW w L T) 0 k) M0 k (shV w L T k) (upd_s _ _ _) (by omega)) (kv_X8_336 hw rfl rfl ⟨Nat.le_of_ble_eq_true rfl, Nat.le_of_ble_eq_true rfl⟩) rfl rfl mq_F rfl (Nat.le_of_ble_eq_true rfl) dX8_writeSchedule_58 ⟨Nat.le_of_ble_eq_true rfl, Nat.le_of_ble_eq_true rfl⟩ (fun H locs hM => ?_)
        have hM := hM.eq (M2 := mq tb mo (upd F 4 (nI (k + 1))) w av od sv sl nz ip (upd (cq ot (shW w L T) 0 k) k (wb (shV w L T k))) M0) (by rw [upd_upd])
        refine lv_iinc (v := nI (k + 1)) (lv' := [(1, .int (nI (k + 1))), (2, .int (hoF w L (nI (T + k)))), (0, .ref mo)]) hx hb dX8_writeSchedule_61 hl (k := 2) rfl (nx_add rfl rfl) (by decide) rfl (fun ls hl => ?_)
        refine lv_goto (tgt := 7) hx hb dX8_writeSchedule_64 (by decide) ?_
        exact ih_7 r1 (by omega) (k + 1) _ _ _ (by omega) (hM.eq (by rw [← cq_s0])) (lv_sub hl [2, 0] rfl)
  exact lp_7 24 0 _ _ _ (by omega) (hM.eq (by rw [cq_0]; rfl)) (lv_sub hl [1, 0] rfl)
set_option maxHeartbeats 4000000 in
theorem c_X8_writeBorrower_0 (l : Launch) (D : va_G) (tb : Nat → ClassId) (X : State → Prop) (z0 n : Nat) (mo : Nat) (F w av od sv sl nz ip ot : Nat → Int32) (M0 : me_M) (S B L P : Nat) (T : Nat) (b il cr : Nat)  (hO : ok1 S B L P T w) (hT0 : T ≤ 9999) (hb9 : b < B) (hil : w (89 + 11 * b + 1) = nI il) (hil0 : il ≤ 9) (hcr9 : w (89 + 11 * b + 2) = nI cr) (hcr8 : cr < 2 ^ 31) : Met l yX8_writeBorrower (.code yX8_writeBorrower cX8_writeBorrower 2 (some .int) :: ws_all) ({ frames := 2, cells := 0, slots := 0, locals := 44 } : Room) (me_Pc [.ref mo, .int (nI b)] D tb X z0 (mq tb mo F w av od sv sl nz ip ot M0) n) (me_Qi D z0 (nI (wrn w b + 1 + dgM il + 1 + dgM cr)) (mq tb mo (upd (upd F 4 (nI (wrn w b + 1 + dgM il + 1 + dgM cr))) 0 0) w av od sv sl nz ip (wrD ot w b il cr) M0) n) 0 0 (me_A z0) := by
  refine me_open (by decide) (Nat.le_of_ble_eq_true rfl) ?_
  intro p e s m args below meth c ls hC hr hlk hnm hM hl
  have hl : lv_has ls 2 [(0, .ref mo), (1, .int (nI b))] := hl
  have hx := hC.1
  have hb := hC.2.1
  have hw := hC.2.2.2.2.1
  obtain ⟨hW, hZ, hT⟩ := id hO
  obtain ⟨hS, hS0, hB, hB0, hL, hL0, hP, hP0, hwb, hwl⟩ := id hW
  have hT2 : T ≤ 20000 := by omega
  have hkb_ := hwb b hb9
  have hn1_ := nlM_b w (89 + 11 * b + 5)
  have hn2_ := wrn_b w b
  obtain ⟨hd1_, hd2_⟩ := dgM_b cr
  have hd3_ := dg_9 hil0
  refine lv_aload_n hx hb dX8_writeBorrower_0 rfl (lv_at hl 0 rfl) ?_
  refine lv_iload_n hx hb dX8_writeBorrower_1 rfl (lv_at hl 1 rfl) ?_
  refine me_callVi (As := [.int (nI b)]) (rest := []) hC hl.1 hM (c_X8_isBorrower l D tb X z0 n mo F w av od sv sl nz ip ot M0 (nI b) ) (kv_X8_292 hw rfl rfl ⟨Nat.le_of_ble_eq_true rfl, Nat.le_of_ble_eq_true rfl⟩) rfl rfl mq_F rfl (Nat.le_of_ble_eq_true rfl) dX8_writeBorrower_2 ⟨Nat.le_of_ble_eq_true rfl, Nat.le_of_ble_eq_true rfl⟩ (fun H locs hM => ?_)
  refine lv_if_ne (tgt := 14) hx hb dX8_writeBorrower_5 (by decide) (fun c_1 => ?_) (fun c_1 => ?_)
  · have c_1 := b1_n0.mp c_1
    refine lv_aload_n hx hb dX8_writeBorrower_14 rfl (lv_at hl 0 rfl) ?_
    refine lv_iconst (v := 0) hx hb dX8_writeBorrower_15 (by decide) ?_
    refine fp_X8_333 hC hM mq_F (Nat.le_of_ble_eq_true rfl) (M2 := mq tb mo (upd F 4 0) w av od sv sl nz ip ot M0) (mq_wF (i := 4) (by simp [upd])) dX8_writeBorrower_16 (fun H locs hM => ?_)
    have hM := hM.eq (M2 := mq tb mo (upd F 4 (nI 0)) w av od sv sl nz ip ot M0) rfl
    refine lv_aload_n hx hb dX8_writeBorrower_19 rfl (lv_at hl 0 rfl) ?_
    refine lv_iload_n hx hb dX8_writeBorrower_20 rfl (lv_at hl 1 rfl) ?_
    refine me_callSi (As := [.int (nI b)]) (rest := [.ref mo]) hC hl.1 hM (c_X8_b l D tb X z0 n _ b ) (ks_X8_78 hw rfl rfl ⟨Nat.le_of_ble_eq_true rfl, Nat.le_of_ble_eq_true rfl⟩) rfl rfl (Nat.le_of_ble_eq_true rfl) dX8_writeBorrower_21 ⟨Nat.le_of_ble_eq_true rfl, Nat.le_of_ble_eq_true rfl⟩ (fun H locs hM => ?_)
    refine lv_iconst (v := 5) hx hb dX8_writeBorrower_24 (by decide) ?_
    refine lv_iadd hx hb dX8_writeBorrower_25 ?_
    refine me_stk (st2 := [.int (nI (89 + 11 * b + 5)), .ref mo]) (by rw [(nx_add rfl (nx_c 5))]) ?_
    refine me_callVv (As := [.int (nI (89 + 11 * b + 5))]) (rest := []) hC hl.1 hM (c_X8_writesName l D tb X z0 n mo (upd F 4 (nI 0)) w av od sv sl nz ip ot M0 0 (89 + 11 * b + 5) (upd_s _ _ _) (by omega) (by omega)) (kv_X8_339 hw rfl rfl ⟨Nat.le_of_ble_eq_true rfl, Nat.le_of_ble_eq_true rfl⟩) rfl rfl mq_F rfl (Nat.le_of_ble_eq_true rfl) dX8_writeBorrower_26 ⟨Nat.le_of_ble_eq_true rfl, Nat.le_of_ble_eq_true rfl⟩ (fun H locs hM => ?_)
    have hM := hM.eq (M2 := mq tb mo (upd F 4 (nI (0 + nlM w (89 + 11 * b + 5)))) w av od sv sl nz ip (cq ot (nmW w (89 + 11 * b + 5)) 0 (nlM w (89 + 11 * b + 5))) M0) (by rw [upd_upd])
    have hM := hM.eq (M2 := mq tb mo (upd F 4 (nI (nlM w (89 + 11 * b + 5)))) w av od sv sl nz ip (cq ot (nmW w (89 + 11 * b + 5)) 0 (nlM w (89 + 11 * b + 5))) M0) (by rw [Nat.zero_add])
    refine lv_aload_n hx hb dX8_writeBorrower_29 rfl (lv_at hl 0 rfl) ?_
    refine lv_bipush (v := 64) hx hb dX8_writeBorrower_30 (by decide) ?_
    refine me_callVv (As := [.int 64]) (rest := []) hC hl.1 hM (c_X8_writes l D tb X z0 n mo (upd F 4 (nI (nlM w (89 + 11 * b + 5)))) w av od sv sl nz ip (cq ot (nmW w (89 + 11 * b + 5)) 0 (nlM w (89 + 11 * b + 5))) M0 (nlM w (89 + 11 * b + 5)) (64 : Int32) (upd_s _ _ _) (by omega)) (kv_X8_336 hw rfl rfl ⟨Nat.le_of_ble_eq_true rfl, Nat.le_of_ble_eq_true rfl⟩) rfl rfl mq_F rfl (Nat.le_of_ble_eq_true rfl) dX8_writeBorrower_32 ⟨Nat.le_of_ble_eq_true rfl, Nat.le_of_ble_eq_true rfl⟩ (fun H locs hM => ?_)
    have hM := hM.eq (M2 := mq tb mo (upd F 4 (nI (nlM w (89 + 11 * b + 5) + 1))) w av od sv sl nz ip (upd (cq ot (nmW w (89 + 11 * b + 5)) 0 (nlM w (89 + 11 * b + 5))) (nlM w (89 + 11 * b + 5)) (wb (64 : Int32))) M0) (by rw [upd_upd])
    have hM := hM.eq (M2 := mq tb mo (upd F 4 (nI (nlM w (89 + 11 * b + 5) + 1))) w av od sv sl nz ip (wrA ot w b) M0) (rfl)
    refine lv_aload_n hx hb dX8_writeBorrower_35 rfl (lv_at hl 0 rfl) ?_
    refine lv_aload_n hx hb dX8_writeBorrower_36 rfl (lv_at hl 0 rfl) ?_
    refine lv_iload_n hx hb dX8_writeBorrower_37 rfl (lv_at hl 1 rfl) ?_
    refine me_callVi (As := [.int (nI b)]) (rest := [.ref mo]) hC hl.1 hM (c_X8_homeOf l D tb X z0 n mo (upd F 4 (nI (nlM w (89 + 11 * b + 5) + 1))) w av od sv sl nz ip (wrA ot w b) M0 b (by omega)) (kv_X8_106 hw rfl rfl ⟨Nat.le_of_ble_eq_true rfl, Nat.le_of_ble_eq_true rfl⟩) rfl rfl mq_F rfl (Nat.le_of_ble_eq_true rfl) dX8_writeBorrower_38 ⟨Nat.le_of_ble_eq_true rfl, Nat.le_of_ble_eq_true rfl⟩ (fun H locs hM => ?_)
    refine me_stk (st2 := [.int (nI (hm w b)), .ref mo]) (by rw [(hwb b (by omega)).1]) ?_
    refine me_callSi (As := [.int (nI (hm w b))]) (rest := [.ref mo]) hC hl.1 hM (c_X8_s l D tb X z0 n _ (hm w b) ) (ks_X8_71 hw rfl rfl ⟨Nat.le_of_ble_eq_true rfl, Nat.le_of_ble_eq_true rfl⟩) rfl rfl (Nat.le_of_ble_eq_true rfl) dX8_writeBorrower_41 ⟨Nat.le_of_ble_eq_true rfl, Nat.le_of_ble_eq_true rfl⟩ (fun H locs hM => ?_)
    refine lv_iconst (v := 4) hx hb dX8_writeBorrower_44 (by decide) ?_
    refine lv_iadd hx hb dX8_writeBorrower_45 ?_
    refine me_stk (st2 := [.int (nI (9 + 10 * (hm w b) + 4)), .ref mo]) (by rw [(nx_add rfl (nx_c 4))]) ?_
    refine me_callVv (As := [.int (nI (9 + 10 * (hm w b) + 4))]) (rest := []) hC hl.1 hM (c_X8_writesName l D tb X z0 n mo (upd F 4 (nI (nlM w (89 + 11 * b + 5) + 1))) w av od sv sl nz ip (wrA ot w b) M0 (nlM w (89 + 11 * b + 5) + 1) (9 + 10 * (hm w b) + 4) (upd_s _ _ _) (by omega) (by omega)) (kv_X8_339 hw rfl rfl ⟨Nat.le_of_ble_eq_true rfl, Nat.le_of_ble_eq_true rfl⟩) rfl rfl mq_F rfl (Nat.le_of_ble_eq_true rfl) dX8_writeBorrower_46 ⟨Nat.le_of_ble_eq_true rfl, Nat.le_of_ble_eq_true rfl⟩ (fun H locs hM => ?_)
    have hM := hM.eq (M2 := mq tb mo (upd F 4 (nI (nlM w (89 + 11 * b + 5) + 1 + nlM w (9 + 10 * (hm w b) + 4)))) w av od sv sl nz ip (cq (wrA ot w b) (nmW w (9 + 10 * (hm w b) + 4)) (nlM w (89 + 11 * b + 5) + 1) (nlM w (9 + 10 * (hm w b) + 4))) M0) (by rw [upd_upd])
    have hM := hM.eq (M2 := mq tb mo (upd F 4 (nI (wrn w b))) w av od sv sl nz ip (cq (wrA ot w b) (nmW w (9 + 10 * hm w b + 4)) (nlM w (89 + 11 * b + 5) + 1) (nlM w (9 + 10 * hm w b + 4))) M0) (rfl)
    refine lv_aload_n hx hb dX8_writeBorrower_49 rfl (lv_at hl 0 rfl) ?_
    refine lv_bipush (v := 32) hx hb dX8_writeBorrower_50 (by decide) ?_
    refine me_callVv (As := [.int 32]) (rest := []) hC hl.1 hM (c_X8_writes l D tb X z0 n mo (upd F 4 (nI (wrn w b))) w av od sv sl nz ip (cq (wrA ot w b) (nmW w (9 + 10 * hm w b + 4)) (nlM w (89 + 11 * b + 5) + 1) (nlM w (9 + 10 * hm w b + 4))) M0 (wrn w b) (32 : Int32) (upd_s _ _ _) (by omega)) (kv_X8_336 hw rfl rfl ⟨Nat.le_of_ble_eq_true rfl, Nat.le_of_ble_eq_true rfl⟩) rfl rfl mq_F rfl (Nat.le_of_ble_eq_true rfl) dX8_writeBorrower_52 ⟨Nat.le_of_ble_eq_true rfl, Nat.le_of_ble_eq_true rfl⟩ (fun H locs hM => ?_)
    have hM := hM.eq (M2 := mq tb mo (upd F 4 (nI (wrn w b + 1))) w av od sv sl nz ip (upd (cq (wrA ot w b) (nmW w (9 + 10 * hm w b + 4)) (nlM w (89 + 11 * b + 5) + 1) (nlM w (9 + 10 * hm w b + 4))) (wrn w b) (wb (32 : Int32))) M0) (by rw [upd_upd])
    have hM := hM.eq (M2 := mq tb mo (upd F 4 (nI (wrn w b + 1))) w av od sv sl nz ip (wrB ot w b) M0) (rfl)
    refine lv_aload_n hx hb dX8_writeBorrower_55 rfl (lv_at hl 0 rfl) ?_
    refine lv_aload_n hx hb dX8_writeBorrower_56 rfl (lv_at hl 0 rfl) ?_
    refine fg_X8_13 hC hM mq_F rfl dX8_writeBorrower_57 ?_
    refine lv_iload_n hx hb dX8_writeBorrower_60 rfl (lv_at hl 1 rfl) ?_
    refine me_callSi (As := [.int (nI b)]) (rest := [.ref (mo + 2), .ref mo]) hC hl.1 hM (c_X8_b l D tb X z0 n _ b ) (ks_X8_78 hw rfl rfl ⟨Nat.le_of_ble_eq_true rfl, Nat.le_of_ble_eq_true rfl⟩) rfl rfl (Nat.le_of_ble_eq_true rfl) dX8_writeBorrower_61 ⟨Nat.le_of_ble_eq_true rfl, Nat.le_of_ble_eq_true rfl⟩ (fun H locs hM => ?_)
    refine lv_iconst (v := 1) hx hb dX8_writeBorrower_64 (by decide) ?_
    refine lv_iadd hx hb dX8_writeBorrower_65 ?_
    refine me_iald (k := 89 + 11 * b + 1) hC hM mq_w (nx_add rfl (show (1 : Int32) = nI 1 from rfl)) (by omega) (by decide) dX8_writeBorrower_66 ?_
    refine me_stk (st2 := [.int (nI il), .ref mo]) (by rw [hil]) ?_
    refine me_callVv (As := [.int (nI il)]) (rest := []) hC hl.1 hM (c_X8_writesNumber_0 l D tb X z0 n mo (upd F 4 (nI (wrn w b + 1))) w av od sv sl nz ip (wrB ot w b) M0 (wrn w b + 1) il (upd_s _ _ _) (by omega) (by omega)) (kv_X8_342 hw rfl rfl ⟨Nat.le_of_ble_eq_true rfl, Nat.le_of_ble_eq_true rfl⟩) rfl rfl mq_F rfl (Nat.le_of_ble_eq_true rfl) dX8_writeBorrower_67 ⟨Nat.le_of_ble_eq_true rfl, Nat.le_of_ble_eq_true rfl⟩ (fun H locs hM => ?_)
    have hM := hM.eq (M2 := mq tb mo (upd F 4 (nI (wrn w b + 1 + dgM il))) w av od sv sl nz ip (cq (wrB ot w b) (dgW il) (wrn w b + 1) (dgM il)) M0) (by rw [upd_upd])
    refine lv_aload_n hx hb dX8_writeBorrower_70 rfl (lv_at hl 0 rfl) ?_
    refine lv_bipush (v := 32) hx hb dX8_writeBorrower_71 (by decide) ?_
    refine me_callVv (As := [.int 32]) (rest := []) hC hl.1 hM (c_X8_writes l D tb X z0 n mo (upd F 4 (nI (wrn w b + 1 + dgM il))) w av od sv sl nz ip (cq (wrB ot w b) (dgW il) (wrn w b + 1) (dgM il)) M0 (wrn w b + 1 + dgM il) (32 : Int32) (upd_s _ _ _) (by omega)) (kv_X8_336 hw rfl rfl ⟨Nat.le_of_ble_eq_true rfl, Nat.le_of_ble_eq_true rfl⟩) rfl rfl mq_F rfl (Nat.le_of_ble_eq_true rfl) dX8_writeBorrower_73 ⟨Nat.le_of_ble_eq_true rfl, Nat.le_of_ble_eq_true rfl⟩ (fun H locs hM => ?_)
    have hM := hM.eq (M2 := mq tb mo (upd F 4 (nI (wrn w b + 1 + dgM il + 1))) w av od sv sl nz ip (upd (cq (wrB ot w b) (dgW il) (wrn w b + 1) (dgM il)) (wrn w b + 1 + dgM il) (wb (32 : Int32))) M0) (by rw [upd_upd])
    have hM := hM.eq (M2 := mq tb mo (upd F 4 (nI (wrn w b + 1 + dgM il + 1))) w av od sv sl nz ip (wrC ot w b il) M0) (rfl)
    refine lv_aload_n hx hb dX8_writeBorrower_76 rfl (lv_at hl 0 rfl) ?_
    refine lv_aload_n hx hb dX8_writeBorrower_77 rfl (lv_at hl 0 rfl) ?_
    refine fg_X8_13 hC hM mq_F rfl dX8_writeBorrower_78 ?_
    refine lv_iload_n hx hb dX8_writeBorrower_81 rfl (lv_at hl 1 rfl) ?_
    refine me_callSi (As := [.int (nI b)]) (rest := [.ref (mo + 2), .ref mo]) hC hl.1 hM (c_X8_b l D tb X z0 n _ b ) (ks_X8_78 hw rfl rfl ⟨Nat.le_of_ble_eq_true rfl, Nat.le_of_ble_eq_true rfl⟩) rfl rfl (Nat.le_of_ble_eq_true rfl) dX8_writeBorrower_82 ⟨Nat.le_of_ble_eq_true rfl, Nat.le_of_ble_eq_true rfl⟩ (fun H locs hM => ?_)
    refine lv_iconst (v := 2) hx hb dX8_writeBorrower_85 (by decide) ?_
    refine lv_iadd hx hb dX8_writeBorrower_86 ?_
    refine me_iald (k := 89 + 11 * b + 2) hC hM mq_w (nx_add rfl (nx_c 2)) (by omega) (by decide) dX8_writeBorrower_87 ?_
    refine me_stk (st2 := [.int (nI cr), .ref mo]) (by rw [hcr9]) ?_
    refine me_callVv (As := [.int (nI cr)]) (rest := []) hC hl.1 hM (c_X8_writesNumber_0 l D tb X z0 n mo (upd F 4 (nI (wrn w b + 1 + dgM il + 1))) w av od sv sl nz ip (wrC ot w b il) M0 (wrn w b + 1 + dgM il + 1) cr (upd_s _ _ _) (by omega) (by omega)) (kv_X8_342 hw rfl rfl ⟨Nat.le_of_ble_eq_true rfl, Nat.le_of_ble_eq_true rfl⟩) rfl rfl mq_F rfl (Nat.le_of_ble_eq_true rfl) dX8_writeBorrower_88 ⟨Nat.le_of_ble_eq_true rfl, Nat.le_of_ble_eq_true rfl⟩ (fun H locs hM => ?_)
    have hM := hM.eq (M2 := mq tb mo (upd F 4 (nI (wrn w b + 1 + dgM il + 1 + dgM cr))) w av od sv sl nz ip (cq (wrC ot w b il) (dgW cr) (wrn w b + 1 + dgM il + 1) (dgM cr)) M0) (by rw [upd_upd])
    refine lv_aload_n hx hb dX8_writeBorrower_91 rfl (lv_at hl 0 rfl) ?_
    refine lv_aload_n hx hb dX8_writeBorrower_92 rfl (lv_at hl 0 rfl) ?_
    refine fg_X8_333 hC hM mq_F rfl dX8_writeBorrower_93 ?_
    refine me_callVi (As := [.int ((upd F 4 (nI (wrn w b + 1 + dgM il + 1 + dgM cr))) 4)]) (rest := []) hC hl.1 hM (c_X8_told l D tb X z0 n mo (upd F 4 (nI (wrn w b + 1 + dgM il + 1 + dgM cr))) w av od sv sl nz ip (cq (wrC ot w b il) (dgW cr) (wrn w b + 1 + dgM il + 1) (dgM cr)) M0 ((upd F 4 (nI (wrn w b + 1 + dgM il + 1 + dgM cr))) 4) ) (kv_X8_271 hw rfl rfl ⟨Nat.le_of_ble_eq_true rfl, Nat.le_of_ble_eq_true rfl⟩) rfl rfl mq_F rfl (Nat.le_of_ble_eq_true rfl) dX8_writeBorrower_96 ⟨Nat.le_of_ble_eq_true rfl, Nat.le_of_ble_eq_true rfl⟩ (fun H locs hM => ?_)
    exact me_iret hC hr hlk hM (upd_s _ _ _) (rfl) (rfl) dX8_writeBorrower_99
  · have c_1 := b1_0.mp c_1
    exact absurd (in_c hB (by omega) hb9) c_1
set_option maxHeartbeats 4000000 in
theorem c_X8_writeBorrower_1 (l : Launch) (D : va_G) (tb : Nat → ClassId) (X : State → Prop) (z0 n : Nat) (mo : Nat) (F w av od sv sl nz ip ot : Nat → Int32) (M0 : me_M) (S B L P : Nat) (T : Nat) (b il cr : Nat)  (hO : ok1 S B L P T w) (hT0 : T ≤ 9999) (hb9 : b < B) (hil : w (89 + 11 * b + 1) = nI il) (hil0 : il ≤ 9) (hcr9 : w (89 + 11 * b + 2) = -nI cr) (hcr8 : cr < 2 ^ 31) (hcr : 0 < cr) : Met l yX8_writeBorrower (.code yX8_writeBorrower cX8_writeBorrower 2 (some .int) :: ws_all) ({ frames := 2, cells := 0, slots := 0, locals := 44 } : Room) (me_Pc [.ref mo, .int (nI b)] D tb X z0 (mq tb mo F w av od sv sl nz ip ot M0) n) (me_Qi D z0 (nI (wrn w b + 1 + dgM il + 1 + 1 + dgM cr)) (mq tb mo (upd (upd F 4 (nI (wrn w b + 1 + dgM il + 1 + 1 + dgM cr))) 0 0) w av od sv sl nz ip (wrE ot w b il cr) M0) n) 0 0 (me_A z0) := by
  refine me_open (by decide) (Nat.le_of_ble_eq_true rfl) ?_
  intro p e s m args below meth c ls hC hr hlk hnm hM hl
  have hl : lv_has ls 2 [(0, .ref mo), (1, .int (nI b))] := hl
  have hx := hC.1
  have hb := hC.2.1
  have hw := hC.2.2.2.2.1
  obtain ⟨hW, hZ, hT⟩ := id hO
  obtain ⟨hS, hS0, hB, hB0, hL, hL0, hP, hP0, hwb, hwl⟩ := id hW
  have hT2 : T ≤ 20000 := by omega
  have hkb_ := hwb b hb9
  have hn1_ := nlM_b w (89 + 11 * b + 5)
  have hn2_ := wrn_b w b
  obtain ⟨hd1_, hd2_⟩ := dgM_b cr
  have hd3_ := dg_9 hil0
  refine lv_aload_n hx hb dX8_writeBorrower_0 rfl (lv_at hl 0 rfl) ?_
  refine lv_iload_n hx hb dX8_writeBorrower_1 rfl (lv_at hl 1 rfl) ?_
  refine me_callVi (As := [.int (nI b)]) (rest := []) hC hl.1 hM (c_X8_isBorrower l D tb X z0 n mo F w av od sv sl nz ip ot M0 (nI b) ) (kv_X8_292 hw rfl rfl ⟨Nat.le_of_ble_eq_true rfl, Nat.le_of_ble_eq_true rfl⟩) rfl rfl mq_F rfl (Nat.le_of_ble_eq_true rfl) dX8_writeBorrower_2 ⟨Nat.le_of_ble_eq_true rfl, Nat.le_of_ble_eq_true rfl⟩ (fun H locs hM => ?_)
  refine lv_if_ne (tgt := 14) hx hb dX8_writeBorrower_5 (by decide) (fun c_1 => ?_) (fun c_1 => ?_)
  · have c_1 := b1_n0.mp c_1
    refine lv_aload_n hx hb dX8_writeBorrower_14 rfl (lv_at hl 0 rfl) ?_
    refine lv_iconst (v := 0) hx hb dX8_writeBorrower_15 (by decide) ?_
    refine fp_X8_333 hC hM mq_F (Nat.le_of_ble_eq_true rfl) (M2 := mq tb mo (upd F 4 0) w av od sv sl nz ip ot M0) (mq_wF (i := 4) (by simp [upd])) dX8_writeBorrower_16 (fun H locs hM => ?_)
    have hM := hM.eq (M2 := mq tb mo (upd F 4 (nI 0)) w av od sv sl nz ip ot M0) rfl
    refine lv_aload_n hx hb dX8_writeBorrower_19 rfl (lv_at hl 0 rfl) ?_
    refine lv_iload_n hx hb dX8_writeBorrower_20 rfl (lv_at hl 1 rfl) ?_
    refine me_callSi (As := [.int (nI b)]) (rest := [.ref mo]) hC hl.1 hM (c_X8_b l D tb X z0 n _ b ) (ks_X8_78 hw rfl rfl ⟨Nat.le_of_ble_eq_true rfl, Nat.le_of_ble_eq_true rfl⟩) rfl rfl (Nat.le_of_ble_eq_true rfl) dX8_writeBorrower_21 ⟨Nat.le_of_ble_eq_true rfl, Nat.le_of_ble_eq_true rfl⟩ (fun H locs hM => ?_)
    refine lv_iconst (v := 5) hx hb dX8_writeBorrower_24 (by decide) ?_
    refine lv_iadd hx hb dX8_writeBorrower_25 ?_
    refine me_stk (st2 := [.int (nI (89 + 11 * b + 5)), .ref mo]) (by rw [(nx_add rfl (nx_c 5))]) ?_
    refine me_callVv (As := [.int (nI (89 + 11 * b + 5))]) (rest := []) hC hl.1 hM (c_X8_writesName l D tb X z0 n mo (upd F 4 (nI 0)) w av od sv sl nz ip ot M0 0 (89 + 11 * b + 5) (upd_s _ _ _) (by omega) (by omega)) (kv_X8_339 hw rfl rfl ⟨Nat.le_of_ble_eq_true rfl, Nat.le_of_ble_eq_true rfl⟩) rfl rfl mq_F rfl (Nat.le_of_ble_eq_true rfl) dX8_writeBorrower_26 ⟨Nat.le_of_ble_eq_true rfl, Nat.le_of_ble_eq_true rfl⟩ (fun H locs hM => ?_)
    have hM := hM.eq (M2 := mq tb mo (upd F 4 (nI (0 + nlM w (89 + 11 * b + 5)))) w av od sv sl nz ip (cq ot (nmW w (89 + 11 * b + 5)) 0 (nlM w (89 + 11 * b + 5))) M0) (by rw [upd_upd])
    have hM := hM.eq (M2 := mq tb mo (upd F 4 (nI (nlM w (89 + 11 * b + 5)))) w av od sv sl nz ip (cq ot (nmW w (89 + 11 * b + 5)) 0 (nlM w (89 + 11 * b + 5))) M0) (by rw [Nat.zero_add])
    refine lv_aload_n hx hb dX8_writeBorrower_29 rfl (lv_at hl 0 rfl) ?_
    refine lv_bipush (v := 64) hx hb dX8_writeBorrower_30 (by decide) ?_
    refine me_callVv (As := [.int 64]) (rest := []) hC hl.1 hM (c_X8_writes l D tb X z0 n mo (upd F 4 (nI (nlM w (89 + 11 * b + 5)))) w av od sv sl nz ip (cq ot (nmW w (89 + 11 * b + 5)) 0 (nlM w (89 + 11 * b + 5))) M0 (nlM w (89 + 11 * b + 5)) (64 : Int32) (upd_s _ _ _) (by omega)) (kv_X8_336 hw rfl rfl ⟨Nat.le_of_ble_eq_true rfl, Nat.le_of_ble_eq_true rfl⟩) rfl rfl mq_F rfl (Nat.le_of_ble_eq_true rfl) dX8_writeBorrower_32 ⟨Nat.le_of_ble_eq_true rfl, Nat.le_of_ble_eq_true rfl⟩ (fun H locs hM => ?_)
    have hM := hM.eq (M2 := mq tb mo (upd F 4 (nI (nlM w (89 + 11 * b + 5) + 1))) w av od sv sl nz ip (upd (cq ot (nmW w (89 + 11 * b + 5)) 0 (nlM w (89 + 11 * b + 5))) (nlM w (89 + 11 * b + 5)) (wb (64 : Int32))) M0) (by rw [upd_upd])
    have hM := hM.eq (M2 := mq tb mo (upd F 4 (nI (nlM w (89 + 11 * b + 5) + 1))) w av od sv sl nz ip (wrA ot w b) M0) (rfl)
    refine lv_aload_n hx hb dX8_writeBorrower_35 rfl (lv_at hl 0 rfl) ?_
    refine lv_aload_n hx hb dX8_writeBorrower_36 rfl (lv_at hl 0 rfl) ?_
    refine lv_iload_n hx hb dX8_writeBorrower_37 rfl (lv_at hl 1 rfl) ?_
    refine me_callVi (As := [.int (nI b)]) (rest := [.ref mo]) hC hl.1 hM (c_X8_homeOf l D tb X z0 n mo (upd F 4 (nI (nlM w (89 + 11 * b + 5) + 1))) w av od sv sl nz ip (wrA ot w b) M0 b (by omega)) (kv_X8_106 hw rfl rfl ⟨Nat.le_of_ble_eq_true rfl, Nat.le_of_ble_eq_true rfl⟩) rfl rfl mq_F rfl (Nat.le_of_ble_eq_true rfl) dX8_writeBorrower_38 ⟨Nat.le_of_ble_eq_true rfl, Nat.le_of_ble_eq_true rfl⟩ (fun H locs hM => ?_)
    refine me_stk (st2 := [.int (nI (hm w b)), .ref mo]) (by rw [(hwb b (by omega)).1]) ?_
    refine me_callSi (As := [.int (nI (hm w b))]) (rest := [.ref mo]) hC hl.1 hM (c_X8_s l D tb X z0 n _ (hm w b) ) (ks_X8_71 hw rfl rfl ⟨Nat.le_of_ble_eq_true rfl, Nat.le_of_ble_eq_true rfl⟩) rfl rfl (Nat.le_of_ble_eq_true rfl) dX8_writeBorrower_41 ⟨Nat.le_of_ble_eq_true rfl, Nat.le_of_ble_eq_true rfl⟩ (fun H locs hM => ?_)
    refine lv_iconst (v := 4) hx hb dX8_writeBorrower_44 (by decide) ?_
    refine lv_iadd hx hb dX8_writeBorrower_45 ?_
    refine me_stk (st2 := [.int (nI (9 + 10 * (hm w b) + 4)), .ref mo]) (by rw [(nx_add rfl (nx_c 4))]) ?_
    refine me_callVv (As := [.int (nI (9 + 10 * (hm w b) + 4))]) (rest := []) hC hl.1 hM (c_X8_writesName l D tb X z0 n mo (upd F 4 (nI (nlM w (89 + 11 * b + 5) + 1))) w av od sv sl nz ip (wrA ot w b) M0 (nlM w (89 + 11 * b + 5) + 1) (9 + 10 * (hm w b) + 4) (upd_s _ _ _) (by omega) (by omega)) (kv_X8_339 hw rfl rfl ⟨Nat.le_of_ble_eq_true rfl, Nat.le_of_ble_eq_true rfl⟩) rfl rfl mq_F rfl (Nat.le_of_ble_eq_true rfl) dX8_writeBorrower_46 ⟨Nat.le_of_ble_eq_true rfl, Nat.le_of_ble_eq_true rfl⟩ (fun H locs hM => ?_)
    have hM := hM.eq (M2 := mq tb mo (upd F 4 (nI (nlM w (89 + 11 * b + 5) + 1 + nlM w (9 + 10 * (hm w b) + 4)))) w av od sv sl nz ip (cq (wrA ot w b) (nmW w (9 + 10 * (hm w b) + 4)) (nlM w (89 + 11 * b + 5) + 1) (nlM w (9 + 10 * (hm w b) + 4))) M0) (by rw [upd_upd])
    have hM := hM.eq (M2 := mq tb mo (upd F 4 (nI (wrn w b))) w av od sv sl nz ip (cq (wrA ot w b) (nmW w (9 + 10 * hm w b + 4)) (nlM w (89 + 11 * b + 5) + 1) (nlM w (9 + 10 * hm w b + 4))) M0) (rfl)
    refine lv_aload_n hx hb dX8_writeBorrower_49 rfl (lv_at hl 0 rfl) ?_
    refine lv_bipush (v := 32) hx hb dX8_writeBorrower_50 (by decide) ?_
    refine me_callVv (As := [.int 32]) (rest := []) hC hl.1 hM (c_X8_writes l D tb X z0 n mo (upd F 4 (nI (wrn w b))) w av od sv sl nz ip (cq (wrA ot w b) (nmW w (9 + 10 * hm w b + 4)) (nlM w (89 + 11 * b + 5) + 1) (nlM w (9 + 10 * hm w b + 4))) M0 (wrn w b) (32 : Int32) (upd_s _ _ _) (by omega)) (kv_X8_336 hw rfl rfl ⟨Nat.le_of_ble_eq_true rfl, Nat.le_of_ble_eq_true rfl⟩) rfl rfl mq_F rfl (Nat.le_of_ble_eq_true rfl) dX8_writeBorrower_52 ⟨Nat.le_of_ble_eq_true rfl, Nat.le_of_ble_eq_true rfl⟩ (fun H locs hM => ?_)
    have hM := hM.eq (M2 := mq tb mo (upd F 4 (nI (wrn w b + 1))) w av od sv sl nz ip (upd (cq (wrA ot w b) (nmW w (9 + 10 * hm w b + 4)) (nlM w (89 + 11 * b + 5) + 1) (nlM w (9 + 10 * hm w b + 4))) (wrn w b) (wb (32 : Int32))) M0) (by rw [upd_upd])
    have hM := hM.eq (M2 := mq tb mo (upd F 4 (nI (wrn w b + 1))) w av od sv sl nz ip (wrB ot w b) M0) (rfl)
    refine lv_aload_n hx hb dX8_writeBorrower_55 rfl (lv_at hl 0 rfl) ?_
    refine lv_aload_n hx hb dX8_writeBorrower_56 rfl (lv_at hl 0 rfl) ?_
    refine fg_X8_13 hC hM mq_F rfl dX8_writeBorrower_57 ?_
    refine lv_iload_n hx hb dX8_writeBorrower_60 rfl (lv_at hl 1 rfl) ?_
    refine me_callSi (As := [.int (nI b)]) (rest := [.ref (mo + 2), .ref mo]) hC hl.1 hM (c_X8_b l D tb X z0 n _ b ) (ks_X8_78 hw rfl rfl ⟨Nat.le_of_ble_eq_true rfl, Nat.le_of_ble_eq_true rfl⟩) rfl rfl (Nat.le_of_ble_eq_true rfl) dX8_writeBorrower_61 ⟨Nat.le_of_ble_eq_true rfl, Nat.le_of_ble_eq_true rfl⟩ (fun H locs hM => ?_)
    refine lv_iconst (v := 1) hx hb dX8_writeBorrower_64 (by decide) ?_
    refine lv_iadd hx hb dX8_writeBorrower_65 ?_
    refine me_iald (k := 89 + 11 * b + 1) hC hM mq_w (nx_add rfl (show (1 : Int32) = nI 1 from rfl)) (by omega) (by decide) dX8_writeBorrower_66 ?_
    refine me_stk (st2 := [.int (nI il), .ref mo]) (by rw [hil]) ?_
    refine me_callVv (As := [.int (nI il)]) (rest := []) hC hl.1 hM (c_X8_writesNumber_0 l D tb X z0 n mo (upd F 4 (nI (wrn w b + 1))) w av od sv sl nz ip (wrB ot w b) M0 (wrn w b + 1) il (upd_s _ _ _) (by omega) (by omega)) (kv_X8_342 hw rfl rfl ⟨Nat.le_of_ble_eq_true rfl, Nat.le_of_ble_eq_true rfl⟩) rfl rfl mq_F rfl (Nat.le_of_ble_eq_true rfl) dX8_writeBorrower_67 ⟨Nat.le_of_ble_eq_true rfl, Nat.le_of_ble_eq_true rfl⟩ (fun H locs hM => ?_)
    have hM := hM.eq (M2 := mq tb mo (upd F 4 (nI (wrn w b + 1 + dgM il))) w av od sv sl nz ip (cq (wrB ot w b) (dgW il) (wrn w b + 1) (dgM il)) M0) (by rw [upd_upd])
    refine lv_aload_n hx hb dX8_writeBorrower_70 rfl (lv_at hl 0 rfl) ?_
    refine lv_bipush (v := 32) hx hb dX8_writeBorrower_71 (by decide) ?_
    refine me_callVv (As := [.int 32]) (rest := []) hC hl.1 hM (c_X8_writes l D tb X z0 n mo (upd F 4 (nI (wrn w b + 1 + dgM il))) w av od sv sl nz ip (cq (wrB ot w b) (dgW il) (wrn w b + 1) (dgM il)) M0 (wrn w b + 1 + dgM il) (32 : Int32) (upd_s _ _ _) (by omega)) (kv_X8_336 hw rfl rfl ⟨Nat.le_of_ble_eq_true rfl, Nat.le_of_ble_eq_true rfl⟩) rfl rfl mq_F rfl (Nat.le_of_ble_eq_true rfl) dX8_writeBorrower_73 ⟨Nat.le_of_ble_eq_true rfl, Nat.le_of_ble_eq_true rfl⟩ (fun H locs hM => ?_)
    have hM := hM.eq (M2 := mq tb mo (upd F 4 (nI (wrn w b + 1 + dgM il + 1))) w av od sv sl nz ip (upd (cq (wrB ot w b) (dgW il) (wrn w b + 1) (dgM il)) (wrn w b + 1 + dgM il) (wb (32 : Int32))) M0) (by rw [upd_upd])
    have hM := hM.eq (M2 := mq tb mo (upd F 4 (nI (wrn w b + 1 + dgM il + 1))) w av od sv sl nz ip (wrC ot w b il) M0) (rfl)
    refine lv_aload_n hx hb dX8_writeBorrower_76 rfl (lv_at hl 0 rfl) ?_
    refine lv_aload_n hx hb dX8_writeBorrower_77 rfl (lv_at hl 0 rfl) ?_
    refine fg_X8_13 hC hM mq_F rfl dX8_writeBorrower_78 ?_
    refine lv_iload_n hx hb dX8_writeBorrower_81 rfl (lv_at hl 1 rfl) ?_
    refine me_callSi (As := [.int (nI b)]) (rest := [.ref (mo + 2), .ref mo]) hC hl.1 hM (c_X8_b l D tb X z0 n _ b ) (ks_X8_78 hw rfl rfl ⟨Nat.le_of_ble_eq_true rfl, Nat.le_of_ble_eq_true rfl⟩) rfl rfl (Nat.le_of_ble_eq_true rfl) dX8_writeBorrower_82 ⟨Nat.le_of_ble_eq_true rfl, Nat.le_of_ble_eq_true rfl⟩ (fun H locs hM => ?_)
    refine lv_iconst (v := 2) hx hb dX8_writeBorrower_85 (by decide) ?_
    refine lv_iadd hx hb dX8_writeBorrower_86 ?_
    refine me_iald (k := 89 + 11 * b + 2) hC hM mq_w (nx_add rfl (nx_c 2)) (by omega) (by decide) dX8_writeBorrower_87 ?_
    refine me_evi (y := -nI cr) hcr9 ?_
    refine me_callVv (As := [.int (-nI cr)]) (rest := []) hC hl.1 hM (c_X8_writesNumber_1 l D tb X z0 n mo (upd F 4 (nI (wrn w b + 1 + dgM il + 1))) w av od sv sl nz ip (wrC ot w b il) M0 (wrn w b + 1 + dgM il + 1) cr (upd_s _ _ _) (by omega) (by omega) hcr) (kv_X8_342 hw rfl rfl ⟨Nat.le_of_ble_eq_true rfl, Nat.le_of_ble_eq_true rfl⟩) rfl rfl mq_F rfl (Nat.le_of_ble_eq_true rfl) dX8_writeBorrower_88 ⟨Nat.le_of_ble_eq_true rfl, Nat.le_of_ble_eq_true rfl⟩ (fun H locs hM => ?_)
    have hM := hM.eq (M2 := mq tb mo (upd F 4 (nI (wrn w b + 1 + dgM il + 1 + 1 + dgM cr))) w av od sv sl nz ip (cq (upd (wrC ot w b il) (wrn w b + 1 + dgM il + 1) (wb 45)) (dgW cr) (wrn w b + 1 + dgM il + 1 + 1) (dgM cr)) M0) (by rw [upd_upd])
    refine lv_aload_n hx hb dX8_writeBorrower_91 rfl (lv_at hl 0 rfl) ?_
    refine lv_aload_n hx hb dX8_writeBorrower_92 rfl (lv_at hl 0 rfl) ?_
    refine fg_X8_333 hC hM mq_F rfl dX8_writeBorrower_93 ?_
    refine me_callVi (As := [.int ((upd F 4 (nI (wrn w b + 1 + dgM il + 1 + 1 + dgM cr))) 4)]) (rest := []) hC hl.1 hM (c_X8_told l D tb X z0 n mo (upd F 4 (nI (wrn w b + 1 + dgM il + 1 + 1 + dgM cr))) w av od sv sl nz ip (cq (upd (wrC ot w b il) (wrn w b + 1 + dgM il + 1) (wb 45)) (dgW cr) (wrn w b + 1 + dgM il + 1 + 1) (dgM cr)) M0 ((upd F 4 (nI (wrn w b + 1 + dgM il + 1 + 1 + dgM cr))) 4) ) (kv_X8_271 hw rfl rfl ⟨Nat.le_of_ble_eq_true rfl, Nat.le_of_ble_eq_true rfl⟩) rfl rfl mq_F rfl (Nat.le_of_ble_eq_true rfl) dX8_writeBorrower_96 ⟨Nat.le_of_ble_eq_true rfl, Nat.le_of_ble_eq_true rfl⟩ (fun H locs hM => ?_)
    exact me_iret hC hr hlk hM (upd_s _ _ _) (rfl) (rfl) dX8_writeBorrower_99
  · have c_1 := b1_0.mp c_1
    exact absurd (in_c hB (by omega) hb9) c_1
set_option maxHeartbeats 4000000 in
theorem c_X8_writeBorrower_x1 (l : Launch) (D : va_G) (tb : Nat → ClassId) (X : State → Prop) (z0 n : Nat) (mo : Nat) (F w av od sv sl nz ip ot : Nat → Int32) (M0 : me_M) (S B L P : Nat) (T : Nat) (x : Int32)  (hO : ok1 S B L P T w) (hT0 : T ≤ 9999) (hbad : x < 0 ∨ w 4 ≤ x) : Met l yX8_writeBorrower (.code yX8_writeBorrower cX8_writeBorrower 2 (some .int) :: ws_all) ({ frames := 2, cells := 0, slots := 0, locals := 43 } : Room) (me_Pc [.ref mo, .int x] D tb X z0 (mq tb mo F w av od sv sl nz ip ot M0) n) (me_Qi D z0 0 (mq tb mo (upd F 0 1) w av od sv sl nz ip ot M0) n) 0 0 (me_A z0) := by
  refine me_open (by decide) (Nat.le_of_ble_eq_true rfl) ?_
  intro p e s m args below meth c ls hC hr hlk hnm hM hl
  have hl : lv_has ls 2 [(0, .ref mo), (1, .int x)] := hl
  have hx := hC.1
  have hb := hC.2.1
  have hw := hC.2.2.2.2.1
  obtain ⟨hW, hZ, hT⟩ := id hO
  obtain ⟨hS, hS0, hB, hB0, hL, hL0, hP, hP0, hwb, hwl⟩ := id hW
  have hT2 : T ≤ 20000 := by omega
  refine lv_aload_n hx hb dX8_writeBorrower_0 rfl (lv_at hl 0 rfl) ?_
  refine lv_iload_n hx hb dX8_writeBorrower_1 rfl (lv_at hl 1 rfl) ?_
  refine me_callVi (As := [.int x]) (rest := []) hC hl.1 hM (c_X8_isBorrower l D tb X z0 n mo F w av od sv sl nz ip ot M0 x ) (kv_X8_292 hw rfl rfl ⟨Nat.le_of_ble_eq_true rfl, Nat.le_of_ble_eq_true rfl⟩) rfl rfl mq_F rfl (Nat.le_of_ble_eq_true rfl) dX8_writeBorrower_2 ⟨Nat.le_of_ble_eq_true rfl, Nat.le_of_ble_eq_true rfl⟩ (fun H locs hM => ?_)
  refine lv_if_ne (tgt := 14) hx hb dX8_writeBorrower_5 (by decide) (fun c_1 => ?_) (fun c_1 => ?_)
  · have c_1 := b1_n0.mp c_1
    exact absurd c_1 (in_x hB (by omega) hbad)
  · have c_1 := b1_0.mp c_1
    refine lv_aload_n hx hb dX8_writeBorrower_8 rfl (lv_at hl 0 rfl) ?_
    refine lv_iconst (v := 1) hx hb dX8_writeBorrower_9 (by decide) ?_
    refine me_callVi (As := [.int 1]) (rest := []) hC hl.1 hM (c_X8_refuse l D tb X z0 n mo F w av od sv sl nz ip ot M0 (1 : Int32) ) (kv_X8_265 hw rfl rfl ⟨Nat.le_of_ble_eq_true rfl, Nat.le_of_ble_eq_true rfl⟩) rfl rfl mq_F rfl (Nat.le_of_ble_eq_true rfl) dX8_writeBorrower_10 ⟨Nat.le_of_ble_eq_true rfl, Nat.le_of_ble_eq_true rfl⟩ (fun H locs hM => ?_)
    exact me_iret hC hr hlk hM (rfl) (rfl) (rfl) dX8_writeBorrower_13
