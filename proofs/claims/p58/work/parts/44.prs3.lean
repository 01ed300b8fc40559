set_option maxHeartbeats 4000000 in
theorem c_X3_isLetter (l : Launch) (D : va_G) (tb : Nat → ClassId) (X : State → Prop) (z0 n : Nat) (M : me_M) (b : Int32) : Met l yX3_isLetter (.code yX3_isLetter cX3_isLetter 1 (some .boolean) :: ws_all) ({ frames := 0, cells := 0, slots := 0, locals := 0 } : Room) (me_Pc [.int b] D tb X z0 (M) n) (me_Qi D z0 (b1 (ltP b)) (M) n) 0 0 (me_A z0) := by
  refine me_open (by decide) (Nat.le_of_ble_eq_true rfl) ?_
  intro p e s m args below meth c ls hC hr hlk hnm hM hl
  have hl : lv_has ls 1 [(0, .int b)] := hl
  have hx := hC.1
  have hb := hC.2.1
  have hw := hC.2.2.2.2.1
  refine lv_iload_n hx hb dX3_isLetter_0 rfl (lv_at hl 0 rfl) ?_
  refine lv_bipush (v := 97) hx hb dX3_isLetter_1 (by decide) ?_
  refine lv_icmp_lt (tgt := 16) hx hb dX3_isLetter_3 (by decide) (fun c_1 => ?_) (fun c_1 => ?_)
  · have c_1q := Int32.not_le.mpr c_1
    refine lv_iconst (v := 0) hx hb dX3_isLetter_16 (by decide) ?_
    exact me_zret hC hr hlk hM (b1_f (fun z => z.1 c_1)) (by first | decide | simp) (rfl) (rfl) dX3_isLetter_17
  · have c_1q := Int32.not_lt.mp c_1
    refine lv_iload_n hx hb dX3_isLetter_6 rfl (lv_at hl 0 rfl) ?_
    refine lv_bipush (v := 122) hx hb dX3_isLetter_7 (by decide) ?_
    refine lv_icmp_gt (tgt := 16) hx hb dX3_isLetter_9 (by decide) (fun c_2 => ?_) (fun c_2 => ?_)
    · have c_2q := Int32.not_le.mpr c_2
      refine lv_iconst (v := 0) hx hb dX3_isLetter_16 (by decide) ?_
      exact me_zret hC hr hlk hM (b1_f (fun z => z.2 c_2)) (by first | decide | simp) (rfl) (rfl) dX3_isLetter_17
    · have c_2q := Int32.not_lt.mp c_2
      refine lv_iconst (v := 1) hx hb dX3_isLetter_12 (by decide) ?_
      refine lv_goto (tgt := 17) hx hb dX3_isLetter_13 (by decide) ?_
      exact me_zret hC hr hlk hM (b1_t ⟨c_1, c_2⟩) (by first | decide | simp) (rfl) (rfl) dX3_isLetter_17
set_option maxHeartbeats 4000000 in
theorem c_X3_isDigit (l : Launch) (D : va_G) (tb : Nat → ClassId) (X : State → Prop) (z0 n : Nat) (M : me_M) (b : Int32) : Met l yX3_isDigit (.code yX3_isDigit cX3_isDigit 1 (some .boolean) :: ws_all) ({ frames := 0, cells := 0, slots := 0, locals := 0 } : Room) (me_Pc [.int b] D tb X z0 (M) n) (me_Qi D z0 (b1 (dgP b)) (M) n) 0 0 (me_A z0) := by
  refine me_open (by decide) (Nat.le_of_ble_eq_true rfl) ?_
  intro p e s m args below meth c ls hC hr hlk hnm hM hl
  have hl : lv_has ls 1 [(0, .int b)] := hl
  have hx := hC.1
  have hb := hC.2.1
  have hw := hC.2.2.2.2.1
  refine lv_iload_n hx hb dX3_isDigit_0 rfl (lv_at hl 0 rfl) ?_
  refine lv_bipush (v := 48) hx hb dX3_isDigit_1 (by decide) ?_
  refine lv_icmp_lt (tgt := 16) hx hb dX3_isDigit_3 (by decide) (fun c_1 => ?_) (fun c_1 => ?_)
  · have c_1q := Int32.not_le.mpr c_1
    refine lv_iconst (v := 0) hx hb dX3_isDigit_16 (by decide) ?_
    exact me_zret hC hr hlk hM (b1_f (fun z => z.1 c_1)) (by first | decide | simp) (rfl) (rfl) dX3_isDigit_17
  · have c_1q := Int32.not_lt.mp c_1
    refine lv_iload_n hx hb dX3_isDigit_6 rfl (lv_at hl 0 rfl) ?_
    refine lv_bipush (v := 57) hx hb dX3_isDigit_7 (by decide) ?_
    refine lv_icmp_gt (tgt := 16) hx hb dX3_isDigit_9 (by decide) (fun c_2 => ?_) (fun c_2 => ?_)
    · have c_2q := Int32.not_le.mpr c_2
      refine lv_iconst (v := 0) hx hb dX3_isDigit_16 (by decide) ?_
      exact me_zret hC hr hlk hM (b1_f (fun z => z.2 c_2)) (by first | decide | simp) (rfl) (rfl) dX3_isDigit_17
    · have c_2q := Int32.not_lt.mp c_2
      refine lv_iconst (v := 1) hx hb dX3_isDigit_12 (by decide) ?_
      refine lv_goto (tgt := 17) hx hb dX3_isDigit_13 (by decide) ?_
      exact me_zret hC hr hlk hM (b1_t ⟨c_1, c_2⟩) (by first | decide | simp) (rfl) (rfl) dX3_isDigit_17
set_option maxHeartbeats 4000000 in
theorem c_X7_nameWith (l : Launch) (D : va_G) (tb : Nat → ClassId) (X : State → Prop) (z0 n : Nat) (M : me_M) (v b : Int32) : Met l yX7_nameWith (.code yX7_nameWith cX7_nameWith 2 (some .int) :: ws_all) ({ frames := 0, cells := 0, slots := 0, locals := 0 } : Room) (me_Pc [.int v, .int b] D tb X z0 (M) n) (me_Qi D z0 (nwF v b) (M) n) 0 0 (me_A z0) := by
  refine me_open (by decide) (Nat.le_of_ble_eq_true rfl) ?_
  intro p e s m args below meth c ls hC hr hlk hnm hM hl
  have hl : lv_has ls 2 [(0, .int v), (1, .int b)] := hl
  have hx := hC.1
  have hb := hC.2.1
  have hw := hC.2.2.2.2.1
  refine lv_iload_n hx hb dX7_nameWith_0 rfl (lv_at hl 0 rfl) ?_
  refine lv_iconst (v := 5) hx hb dX7_nameWith_1 (by decide) ?_
  refine lv_ishl hx hb dX7_nameWith_2 ?_
  refine lv_iload_n hx hb dX7_nameWith_3 rfl (lv_at hl 1 rfl) ?_
  refine lv_bipush (v := 97) hx hb dX7_nameWith_4 (by decide) ?_
  refine lv_isub hx hb dX7_nameWith_6 ?_
  refine lv_iconst (v := 1) hx hb dX7_nameWith_7 (by decide) ?_
  refine lv_iadd hx hb dX7_nameWith_8 ?_
  refine lv_ior hx hb dX7_nameWith_9 ?_
  exact me_iret hC hr hlk hM (by first | rfl | simp []) (rfl) (rfl) dX7_nameWith_10
set_option maxHeartbeats 4000000 in
theorem c_X3_fail (l : Launch) (D : va_G) (tb : Nat → ClassId) (X : State → Prop) (z0 n : Nat) (kK kV : Nat → Nat) (a po ta NN len : Nat) (g t : Nat → Int32) (M9 : me_M) (ps : PS) (kd : Nat)  (hE : psE tb a po ta NN len t M9) (hp : pvP len ps) : Met l yX3_fail (.code yX3_fail cX3_fail 2 none :: ws_all) ({ frames := 0, cells := 0, slots := 0, locals := 0 } : Room) (me_Pc [.ref po, .int (nI kd)] D tb X z0 (sp tb a g (me_up M9 po (.inr (3, ps_fs ta len a ps)))) n) (me_Qv D z0 (psM tb a po ta len M9 g (flP kd ps)) n) 0 0 (me_A z0) := by
  refine me_open (by decide) (Nat.le_of_ble_eq_true rfl) ?_
  intro p e s m args below meth c ls hC hr hlk hnm hM hl
  have hl : lv_has ls 2 [(0, .ref po), (1, .int (nI kd))] := hl
  have hx := hC.1
  have hb := hC.2.1
  have hw := hC.2.2.2.2.1
  obtain ⟨e1, e2, e3, e4, e5, e6⟩ := id hE
  obtain ⟨p1, p2, p3, p4⟩ := id hp
  refine lv_aload_n hx hb dX3_fail_0 rfl (lv_at hl 0 rfl) ?_
  refine fg_X3_21 hC hM ((sp_out (by omega)).trans (me_up_s _ _ _)) rfl dX3_fail_1 ?_
  refine lv_if_ne (tgt := 20) hx hb dX3_fail_4 (by decide) (fun c_1 => ?_) (fun c_1 => ?_)
  · have c_1 := (not_congr (br_eq rfl (show (0 : Int32) = nI 0 from rfl) (by omega) (by omega))).mp c_1
    exact me_vret hC hr hlk hM (ps_eq (q := ps) (if_neg c_1).symm) (rfl) dX3_fail_20
  · have c_1 := (br_eq rfl (show (0 : Int32) = nI 0 from rfl) (by omega) (by omega)).mp c_1
    refine lv_aload_n hx hb dX3_fail_7 rfl (lv_at hl 0 rfl) ?_
    refine lv_iload_n hx hb dX3_fail_8 rfl (lv_at hl 1 rfl) ?_
    refine fp_X3_21 hC hM ((sp_out (by omega)).trans (me_up_s _ _ _)) (Nat.le_of_ble_eq_true rfl) (M2 := sp tb a g (me_up M9 po (.inr (3, [.ref ta, .int (nI len), .ref a, .int (nI (pAt ps)), .int (nI (pTk ps)), .int (nI (pTs ps)), .int (nI kd), .int (pEo ps)])))) (sp_upo (by omega)) dX3_fail_9 (fun H locs hM => ?_)
    refine lv_aload_n hx hb dX3_fail_12 rfl (lv_at hl 0 rfl) ?_
    refine lv_aload_n hx hb dX3_fail_13 rfl (lv_at hl 0 rfl) ?_
    refine fg_X3_18 hC hM ((sp_out (by omega)).trans (me_up_s _ _ _)) rfl dX3_fail_14 ?_
    refine fp_X3_24 hC hM ((sp_out (by omega)).trans (me_up_s _ _ _)) (Nat.le_of_ble_eq_true rfl) (M2 := sp tb a g (me_up M9 po (.inr (3, [.ref ta, .int (nI len), .ref a, .int (nI (pAt ps)), .int (nI (pTk ps)), .int (nI (pTs ps)), .int (nI kd), .int (nI (pTs ps))])))) (sp_upo (by omega)) dX3_fail_17 (fun H locs hM => ?_)
    exact me_vret hC hr hlk hM (ps_eq (q := (pAt ps, pTk ps, pTs ps, kd, nI (pTs ps))) (if_pos c_1).symm) (rfl) dX3_fail_20
set_option maxHeartbeats 4000000 in
theorem c_X3_next (l : Launch) (D : va_G) (tb : Nat → ClassId) (X : State → Prop) (z0 n : Nat) (kK kV : Nat → Nat) (a po ta NN len : Nat) (g t : Nat → Int32) (M9 : me_M) (ps : PS)  (hE : psE tb a po ta NN len t M9) (hp : pvP len ps) : Met l yX3_next (.code yX3_next cX3_next 5 none :: ws_all) ({ frames := 1, cells := 0, slots := 0, locals := 20 } : Room) (me_Pc [.ref po] D tb X z0 (sp tb a g (me_up M9 po (.inr (3, ps_fs ta len a ps)))) n) (me_Qv D z0 (psM tb a po ta len M9 g (nxP t len ps)) n) 0 0 (me_A z0) := by
  refine me_open (by decide) (Nat.le_of_ble_eq_true rfl) ?_
  intro p e s m args below meth c ls hC hr hlk hnm hM hl
  have hl : lv_has ls 5 [(0, .ref po)] := hl
  have hx := hC.1
  have hb := hC.2.1
  have hw := hC.2.2.2.2.1
  obtain ⟨e1, e2, e3, e4, e5, e6⟩ := id hE
  obtain ⟨p1, p2, p3, p4⟩ := id hp
  refine lv_aload_n hx hb dX3_next_0 rfl (lv_at hl 0 rfl) ?_
  refine fg_X3_21 hC hM ((sp_out (by omega)).trans (me_up_s _ _ _)) rfl dX3_next_1 ?_
  refine lv_if_eq (tgt := 8) hx hb dX3_next_4 (by decide) (fun c_1 => ?_) (fun c_1 => ?_)
  · have c_1 := (br_eq rfl (show (0 : Int32) = nI 0 from rfl) (by omega) (by omega)).mp c_1
    have h0 := c_1
    refine lv_aload_n hx hb dX3_next_8 rfl (lv_at hl 0 rfl) ?_
    refine fg_X3_15 hC hM ((sp_out (by omega)).trans (me_up_s _ _ _)) rfl dX3_next_9 ?_
    refine lv_iconst (v := 1) hx hb dX3_next_12 (by decide) ?_
    refine lv_icmp_eq (tgt := 24) hx hb dX3_next_13 (by decide) (fun c_2 => ?_) (fun c_2 => ?_)
    · have c_2 := (br_eq rfl (show (1 : Int32) = nI 1 from rfl) (by omega) (by omega)).mp c_2
      refine lv_iconst (v := 1) hx hb dX3_next_24 (by decide) ?_
      refine lv_goto (tgt := 29) hx hb dX3_next_25 (by decide) ?_
      refine me_evi (y := b1 (pTk ps = 1 ∨ pTk ps = 2)) (b1_t (Or.inl c_2)) ?_
      refine lv_istore_n (lv' := [(1, .int (b1 (pTk ps = 1 ∨ pTk ps = 2))), (0, .ref po)]) hx hb dX3_next_29 rfl hl (by decide) rfl (fun ls hl => ?_)
      refine lv_aload_n hx hb dX3_next_30 rfl (lv_at hl 1 rfl) ?_
      refine fg_X3_9 hC hM ((sp_out (by omega)).trans (me_up_s _ _ _)) rfl dX3_next_31 ?_
      refine lv_istore_n (lv' := [(2, .int (nI (pAt ps))), (1, .int (b1 (pTk ps = 1 ∨ pTk ps = 2))), (0, .ref po)]) hx hb dX3_next_34 rfl hl (by decide) rfl (fun ls hl => ?_)
      have lp_35 : ∀ (r : Nat) (k : Nat) (H : Heap) (locs : List Loc) (ls : Array Slot), (k + r = len) → (pAt ps ≤ k) → (sk0 t len ps = skP t r k) → me_at D z0 (sp tb a g (me_up M9 po (.inr (3, [.ref ta, .int (nI len), .ref a, .int (nI k), .int (nI (pTk ps)), .int (nI (pTs ps)), .int (nI (pEk ps)), .int (pEo ps)])))) n s H locs → lv_has ls 5 [(0, .ref po), (1, .int (b1 (pTk ps = 1 ∨ pTk ps = 2))), (2, .int (nI (pAt ps)))] → W p l e (({ frames := 1, cells := 0, slots := 0, locals := 20 } : Room)) s m args below meth c H locs 0 0 (MQ below (me_Qv D z0 (psM tb a po ta len M9 g (nxP t len ps)) n) args s 0 0 (me_A z0)) (F0 m 35 ls []) := by
        intro r
        refine Nat.strongRecOn r ?_
        intro r ih_35 k H locs ls hk hk0 hq hM hl
        refine lv_aload_n hx hb dX3_next_35 rfl (lv_at hl 0 rfl) ?_
        refine fg_X3_9 hC hM ((sp_out (by omega)).trans (me_up_s _ _ _)) rfl dX3_next_36 ?_
        refine lv_aload_n hx hb dX3_next_39 rfl (lv_at hl 0 rfl) ?_
        refine fg_X3_31 hC hM ((sp_out (by omega)).trans (me_up_s _ _ _)) rfl dX3_next_40 ?_
        refine lv_icmp_ge (tgt := 87) hx hb dX3_next_43 (by decide) (fun c_3 => ?_) (fun c_3 => ?_)
        · have c_3 := (br_le rfl rfl (by omega) (by omega)).mp c_3
          have hs : sk0 t len ps = k := by rw [hq, show r = 0 by omega]; rfl
          refine lv_aload_n hx hb dX3_next_87 rfl (lv_at hl 0 rfl) ?_
          refine lv_aload_n hx hb dX3_next_88 rfl (lv_at hl 0 rfl) ?_
          refine fg_X3_9 hC hM ((sp_out (by omega)).trans (me_up_s _ _ _)) rfl dX3_next_89 ?_
          refine fp_X3_18 hC hM ((sp_out (by omega)).trans (me_up_s _ _ _)) (Nat.le_of_ble_eq_true rfl) (M2 := sp tb a g (me_up M9 po (.inr (3, [.ref ta, .int (nI len), .ref a, .int (nI k), .int (nI (pTk ps)), .int (nI k), .int (nI (pEk ps)), .int (pEo ps)])))) (sp_upo (by omega)) dX3_next_92 (fun H locs hM => ?_)
          refine lv_aload_n hx hb dX3_next_95 rfl (lv_at hl 0 rfl) ?_
          refine fg_X3_9 hC hM ((sp_out (by omega)).trans (me_up_s _ _ _)) rfl dX3_next_96 ?_
          refine lv_aload_n hx hb dX3_next_99 rfl (lv_at hl 0 rfl) ?_
          refine fg_X3_31 hC hM ((sp_out (by omega)).trans (me_up_s _ _ _)) rfl dX3_next_100 ?_
          refine lv_icmp_lt (tgt := 112) hx hb dX3_next_103 (by decide) (fun c_4 => ?_) (fun c_4 => ?_)
          · have c_4 := (br_lt rfl rfl (by omega) (by omega)).mp c_4
            exfalso; omega
          · have c_4 := (not_congr (br_lt rfl rfl (by omega) (by omega))).mp c_4
            refine lv_aload_n hx hb dX3_next_106 rfl (lv_at hl 0 rfl) ?_
            refine lv_iconst (v := 4) hx hb dX3_next_107 (by decide) ?_
            refine fp_X3_15 hC hM ((sp_out (by omega)).trans (me_up_s _ _ _)) (Nat.le_of_ble_eq_true rfl) (M2 := sp tb a g (me_up M9 po (.inr (3, [.ref ta, .int (nI len), .ref a, .int (nI k), .int 4, .int (nI k), .int (nI (pEk ps)), .int (pEo ps)])))) (sp_upo (by omega)) dX3_next_108 (fun H locs hM => ?_)
            exact me_vret hC hr hlk hM (ps_eq (q := (k, 4, k, pEk ps, pEo ps)) (nx_end h0 hs (by omega))) (rfl) dX3_next_111
        · have c_3 := (not_congr (br_le rfl rfl (by omega) (by omega))).mp c_3
          obtain ⟨r1, rfl⟩ : ∃ r1, r = r1 + 1 := ⟨r - 1, by omega⟩
          refine lv_aload_n hx hb dX3_next_46 rfl (lv_at hl 0 rfl) ?_
          refine fg_X3_27 hC hM ((sp_out (by omega)).trans (me_up_s _ _ _)) rfl dX3_next_47 ?_
          refine lv_aload_n hx hb dX3_next_50 rfl (lv_at hl 0 rfl) ?_
          refine fg_X3_9 hC hM ((sp_out (by omega)).trans (me_up_s _ _ _)) rfl dX3_next_51 ?_
          refine me_bald (k := k) hC hM ((sp_out (by omega)).trans ((me_up_n (by omega)).trans e6)) rfl (by omega) (by first | decide | omega) dX3_next_54 ?_
          refine lv_bipush (v := 32) hx hb dX3_next_55 (by decide) ?_
          refine lv_icmp_eq (tgt := 74) hx hb dX3_next_57 (by decide) (fun c_5 => ?_) (fun c_5 => ?_)
          · refine lv_aload_n hx hb dX3_next_74 rfl (lv_at hl 0 rfl) ?_
            refine lv_dup hx hb dX3_next_75 rfl ?_
            refine fg_X3_9 hC hM ((sp_out (by omega)).trans (me_up_s _ _ _)) rfl dX3_next_76 ?_
            refine lv_iconst (v := 1) hx hb dX3_next_79 (by decide) ?_
            refine lv_iadd hx hb dX3_next_80 ?_
            refine me_evi (y := nI (k + 1)) (nx_add rfl (show (1 : Int32) = nI 1 from rfl)) ?_
            refine fp_X3_9 hC hM ((sp_out (by omega)).trans (me_up_s _ _ _)) (Nat.le_of_ble_eq_true rfl) (M2 := sp tb a g (me_up M9 po (.inr (3, [.ref ta, .int (nI len), .ref a, .int (nI (k + 1)), .int (nI (pTk ps)), .int (nI (pTs ps)), .int (nI (pEk ps)), .int (pEo ps)])))) (sp_upo (by omega)) dX3_next_81 (fun H locs hM => ?_)
            refine lv_goto (tgt := 35) hx hb dX3_next_84 (by decide) ?_
            exact ih_35 r1 (by omega) (k + 1) _ _ _ (by omega) (by omega) (hq.trans (skP_t (Or.inl c_5))) hM (lv_sub hl [0, 1, 2] rfl)
          · refine lv_aload_n hx hb dX3_next_60 rfl (lv_at hl 0 rfl) ?_
            refine fg_X3_27 hC hM ((sp_out (by omega)).trans (me_up_s _ _ _)) rfl dX3_next_61 ?_
            refine lv_aload_n hx hb dX3_next_64 rfl (lv_at hl 0 rfl) ?_
            refine fg_X3_9 hC hM ((sp_out (by omega)).trans (me_up_s _ _ _)) rfl dX3_next_65 ?_
            refine me_bald (k := k) hC hM ((sp_out (by omega)).trans ((me_up_n (by omega)).trans e6)) rfl (by omega) (by first | decide | omega) dX3_next_68 ?_
            refine lv_bipush (v := 10) hx hb dX3_next_69 (by decide) ?_
            refine lv_icmp_ne (tgt := 87) hx hb dX3_next_71 (by decide) (fun c_6 => ?_) (fun c_6 => ?_)
            · have hs : sk0 t len ps = k := hq.trans (skP_f (fun z => z.elim c_5 c_6))
              refine lv_aload_n hx hb dX3_next_87 rfl (lv_at hl 0 rfl) ?_
              refine lv_aload_n hx hb dX3_next_88 rfl (lv_at hl 0 rfl) ?_
              refine fg_X3_9 hC hM ((sp_out (by omega)).trans (me_up_s _ _ _)) rfl dX3_next_89 ?_
              refine fp_X3_18 hC hM ((sp_out (by omega)).trans (me_up_s _ _ _)) (Nat.le_of_ble_eq_true rfl) (M2 := sp tb a g (me_up M9 po (.inr (3, [.ref ta, .int (nI len), .ref a, .int (nI k), .int (nI (pTk ps)), .int (nI k), .int (nI (pEk ps)), .int (pEo ps)])))) (sp_upo (by omega)) dX3_next_92 (fun H locs hM => ?_)
              refine lv_aload_n hx hb dX3_next_95 rfl (lv_at hl 0 rfl) ?_
              refine fg_X3_9 hC hM ((sp_out (by omega)).trans (me_up_s _ _ _)) rfl dX3_next_96 ?_
              refine lv_aload_n hx hb dX3_next_99 rfl (lv_at hl 0 rfl) ?_
              refine fg_X3_31 hC hM ((sp_out (by omega)).trans (me_up_s _ _ _)) rfl dX3_next_100 ?_
              refine lv_icmp_lt (tgt := 112) hx hb dX3_next_103 (by decide) (fun c_7 => ?_) (fun c_7 => ?_)
              · have c_7 := (br_lt rfl rfl (by omega) (by omega)).mp c_7
                have h1 := c_7
                refine lv_aload_n hx hb dX3_next_112 rfl (lv_at hl 0 rfl) ?_
                refine fg_X3_27 hC hM ((sp_out (by omega)).trans (me_up_s _ _ _)) rfl dX3_next_113 ?_
                refine lv_aload_n hx hb dX3_next_116 rfl (lv_at hl 0 rfl) ?_
                refine fg_X3_9 hC hM ((sp_out (by omega)).trans (me_up_s _ _ _)) rfl dX3_next_117 ?_
                refine me_bald (k := k) hC hM ((sp_out (by omega)).trans ((me_up_n (by omega)).trans e6)) rfl (by omega) (by first | decide | omega) dX3_next_120 ?_
                refine lv_bipush (v := 59) hx hb dX3_next_121 (by decide) ?_
                refine lv_icmp_ne (tgt := 142) hx hb dX3_next_123 (by decide) (fun c_8 => ?_) (fun c_8 => ?_)
                · have h59 := c_8
                  refine lv_aload_n hx hb dX3_next_142 rfl (lv_at hl 0 rfl) ?_
                  refine fg_X3_27 hC hM ((sp_out (by omega)).trans (me_up_s _ _ _)) rfl dX3_next_143 ?_
                  refine lv_aload_n hx hb dX3_next_146 rfl (lv_at hl 0 rfl) ?_
                  refine fg_X3_9 hC hM ((sp_out (by omega)).trans (me_up_s _ _ _)) rfl dX3_next_147 ?_
                  refine me_bald (k := k) hC hM ((sp_out (by omega)).trans ((me_up_n (by omega)).trans e6)) rfl (by omega) (by first | decide | omega) dX3_next_150 ?_
                  refine me_callSi (As := [.int (t k)]) (rest := []) hC hl.1 hM (c_X3_isLetter l D tb X z0 n _ (t k)) (ks_X3_176 hw rfl rfl ⟨Nat.le_of_ble_eq_true rfl, Nat.le_of_ble_eq_true rfl⟩) rfl rfl (Nat.le_of_ble_eq_true rfl) dX3_next_151 ⟨Nat.le_of_ble_eq_true rfl, Nat.le_of_ble_eq_true rfl⟩ (fun H locs hM => ?_)
                  refine lv_istore_n (lv' := [(3, .int (b1 (ltP (t k)))), (0, .ref po), (1, .int (b1 (pTk ps = 1 ∨ pTk ps = 2))), (2, .int (nI (pAt ps)))]) hx hb dX3_next_154 rfl hl (by decide) rfl (fun ls hl => ?_)
                  have lp_155 : ∀ (r2 : Nat) (j : Nat) (H : Heap) (locs : List Loc) (ls : Array Slot), (j + r2 = len) → (k ≤ j) → (ru0 t len k = ruP t (ltP (t k)) r2 j) → me_at D z0 (sp tb a g (me_up M9 po (.inr (3, [.ref ta, .int (nI len), .ref a, .int (nI j), .int (nI (pTk ps)), .int (nI k), .int (nI (pEk ps)), .int (pEo ps)])))) n s H locs → lv_has ls 5 [(0, .ref po), (1, .int (b1 (pTk ps = 1 ∨ pTk ps = 2))), (2, .int (nI (pAt ps))), (3, .int (b1 (ltP (t k))))] → W p l e (({ frames := 1, cells := 0, slots := 0, locals := 20 } : Room)) s m args below meth c H locs 0 0 (MQ below (me_Qv D z0 (psM tb a po ta len M9 g (nxP t len ps)) n) args s 0 0 (me_A z0)) (F0 m 155 ls []) := by
                    intro r2
                    refine Nat.strongRecOn r2 ?_
                    intro r2 ih_155 j H locs ls hj2 hj0 hr2 hM hl
                    refine lv_aload_n hx hb dX3_next_155 rfl (lv_at hl 0 rfl) ?_
                    refine fg_X3_9 hC hM ((sp_out (by omega)).trans (me_up_s _ _ _)) rfl dX3_next_156 ?_
                    refine lv_aload_n hx hb dX3_next_159 rfl (lv_at hl 0 rfl) ?_
                    refine fg_X3_31 hC hM ((sp_out (by omega)).trans (me_up_s _ _ _)) rfl dX3_next_160 ?_
                    refine lv_icmp_ge (tgt := 216) hx hb dX3_next_163 (by decide) (fun c_9 => ?_) (fun c_9 => ?_)
                    · have c_9 := (br_le rfl rfl (by omega) (by omega)).mp c_9
                      have hj : ru0 t len k = j := by rw [hr2, show r2 = 0 by omega]; rfl
                      refine lv_iload_n hx hb dX3_next_216 rfl (lv_at hl 1 rfl) ?_
                      refine lv_if_eq (tgt := 232) hx hb dX3_next_217 (by decide) (fun c_10 => ?_) (fun c_10 => ?_)
                      · have c_10 := b1_0.mp c_10
                        refine lv_iconst (v := 0) hx hb dX3_next_232 (by decide) ?_
                        refine lv_istore (lv' := [(4, .int 0), (0, .ref po), (1, .int (b1 (pTk ps = 1 ∨ pTk ps = 2))), (2, .int (nI (pAt ps))), (3, .int (b1 (ltP (t k))))]) hx hb dX3_next_233 hl (by decide) rfl (fun ls hl => ?_)
                        refine lv_aload_n hx hb dX3_next_235 rfl (lv_at hl 1 rfl) ?_
                        refine lv_aload_n hx hb dX3_next_236 rfl (lv_at hl 1 rfl) ?_
                        refine fg_X3_9 hC hM ((sp_out (by omega)).trans (me_up_s _ _ _)) rfl dX3_next_237 ?_
                        refine lv_aload_n hx hb dX3_next_240 rfl (lv_at hl 1 rfl) ?_
                        refine fg_X3_18 hC hM ((sp_out (by omega)).trans (me_up_s _ _ _)) rfl dX3_next_241 ?_
                        refine lv_icmp_eq (tgt := 252) hx hb dX3_next_244 (by decide) (fun c_11 => ?_) (fun c_11 => ?_)
                        · have c_11 := (br_eq rfl rfl (by omega) (by omega)).mp c_11
                          refine lv_iconst (v := 0) hx hb dX3_next_252 (by decide) ?_
                          refine lv_goto (tgt := 265) hx hb dX3_next_253 (by decide) ?_
                          refine fp_X3_15 hC hM ((sp_out (by omega)).trans (me_up_s _ _ _)) (Nat.le_of_ble_eq_true rfl) (M2 := sp tb a g (me_up M9 po (.inr (3, [.ref ta, .int (nI len), .ref a, .int (nI j), .int 0, .int (nI k), .int (nI (pEk ps)), .int (pEo ps)])))) (sp_upo (by omega)) dX3_next_265 (fun H locs hM => ?_)
                          exact me_vret hC hr hlk hM (ps_eq (q := (j, 0, k, pEk ps, pEo ps)) (nx_run h0 hs h1 h59 hj (if_pos (Or.inl c_11)))) (rfl) dX3_next_268
                        · have c_11 := (not_congr (br_eq rfl rfl (by omega) (by omega))).mp c_11
                          refine lv_iload hx hb dX3_next_247 (lv_at hl 0 rfl) ?_
                          refine lv_if_eq (tgt := 256) hx hb dX3_next_249 (by decide) (fun c_12 => ?_) (fun c_12 => ?_)
                          · refine lv_iload_n hx hb dX3_next_256 rfl (lv_at hl 4 rfl) ?_
                            refine lv_if_eq (tgt := 264) hx hb dX3_next_257 (by decide) (fun c_13 => ?_) (fun c_13 => ?_)
                            · have c_13 := b1_0.mp c_13
                              refine lv_iconst (v := 2) hx hb dX3_next_264 (by decide) ?_
                              refine fp_X3_15 hC hM ((sp_out (by omega)).trans (me_up_s _ _ _)) (Nat.le_of_ble_eq_true rfl) (M2 := sp tb a g (me_up M9 po (.inr (3, [.ref ta, .int (nI len), .ref a, .int (nI j), .int 2, .int (nI k), .int (nI (pEk ps)), .int (pEo ps)])))) (sp_upo (by omega)) dX3_next_265 (fun H locs hM => ?_)
                              exact me_vret hC hr hlk hM (ps_eq (q := (j, 2, k, pEk ps, pEo ps)) (nx_run h0 hs h1 h59 hj ((if_neg (fun z => z.elim c_11 (fun w => c_10 w.1))).trans (if_neg c_13)))) (rfl) dX3_next_268
                            · have c_13 := b1_n0.mp c_13
                              refine lv_iconst (v := 1) hx hb dX3_next_260 (by decide) ?_
                              refine lv_goto (tgt := 265) hx hb dX3_next_261 (by decide) ?_
                              refine fp_X3_15 hC hM ((sp_out (by omega)).trans (me_up_s _ _ _)) (Nat.le_of_ble_eq_true rfl) (M2 := sp tb a g (me_up M9 po (.inr (3, [.ref ta, .int (nI len), .ref a, .int (nI j), .int 1, .int (nI k), .int (nI (pEk ps)), .int (pEo ps)])))) (sp_upo (by omega)) dX3_next_265 (fun H locs hM => ?_)
                              exact me_vret hC hr hlk hM (ps_eq (q := (j, 1, k, pEk ps, pEo ps)) (nx_run h0 hs h1 h59 hj ((if_neg (fun z => z.elim c_11 (fun w => c_10 w.1))).trans (if_pos c_13)))) (rfl) dX3_next_268
                          · exact absurd c_12 (by decide)
                      · have c_10 := b1_n0.mp c_10
                        refine lv_aload_n hx hb dX3_next_220 rfl (lv_at hl 0 rfl) ?_
                        refine fg_X3_18 hC hM ((sp_out (by omega)).trans (me_up_s _ _ _)) rfl dX3_next_221 ?_
                        refine lv_iload_n hx hb dX3_next_224 rfl (lv_at hl 2 rfl) ?_
                        refine lv_icmp_ne (tgt := 232) hx hb dX3_next_225 (by decide) (fun c_14 => ?_) (fun c_14 => ?_)
                        · have c_14 := (not_congr (br_eq rfl rfl (by omega) (by omega))).mp c_14
                          refine lv_iconst (v := 0) hx hb dX3_next_232 (by decide) ?_
                          refine lv_istore (lv' := [(4, .int 0), (0, .ref po), (1, .int (b1 (pTk ps = 1 ∨ pTk ps = 2))), (2, .int (nI (pAt ps))), (3, .int (b1 (ltP (t k))))]) hx hb dX3_next_233 hl (by decide) rfl (fun ls hl => ?_)
                          refine lv_aload_n hx hb dX3_next_235 rfl (lv_at hl 1 rfl) ?_
                          refine lv_aload_n hx hb dX3_next_236 rfl (lv_at hl 1 rfl) ?_
                          refine fg_X3_9 hC hM ((sp_out (by omega)).trans (me_up_s _ _ _)) rfl dX3_next_237 ?_
                          refine lv_aload_n hx hb dX3_next_240 rfl (lv_at hl 1 rfl) ?_
                          refine fg_X3_18 hC hM ((sp_out (by omega)).trans (me_up_s _ _ _)) rfl dX3_next_241 ?_
                          refine lv_icmp_eq (tgt := 252) hx hb dX3_next_244 (by decide) (fun c_15 => ?_) (fun c_15 => ?_)
                          · have c_15 := (br_eq rfl rfl (by omega) (by omega)).mp c_15
                            refine lv_iconst (v := 0) hx hb dX3_next_252 (by decide) ?_
                            refine lv_goto (tgt := 265) hx hb dX3_next_253 (by decide) ?_
                            refine fp_X3_15 hC hM ((sp_out (by omega)).trans (me_up_s _ _ _)) (Nat.le_of_ble_eq_true rfl) (M2 := sp tb a g (me_up M9 po (.inr (3, [.ref ta, .int (nI len), .ref a, .int (nI j), .int 0, .int (nI k), .int (nI (pEk ps)), .int (pEo ps)])))) (sp_upo (by omega)) dX3_next_265 (fun H locs hM => ?_)
                            exact me_vret hC hr hlk hM (ps_eq (q := (j, 0, k, pEk ps, pEo ps)) (nx_run h0 hs h1 h59 hj (if_pos (Or.inl c_15)))) (rfl) dX3_next_268
                          · have c_15 := (not_congr (br_eq rfl rfl (by omega) (by omega))).mp c_15
                            refine lv_iload hx hb dX3_next_247 (lv_at hl 0 rfl) ?_
                            refine lv_if_eq (tgt := 256) hx hb dX3_next_249 (by decide) (fun c_16 => ?_) (fun c_16 => ?_)
                            · refine lv_iload_n hx hb dX3_next_256 rfl (lv_at hl 4 rfl) ?_
                              refine lv_if_eq (tgt := 264) hx hb dX3_next_257 (by decide) (fun c_17 => ?_) (fun c_17 => ?_)
                              · have c_17 := b1_0.mp c_17
                                refine lv_iconst (v := 2) hx hb dX3_next_264 (by decide) ?_
                                refine fp_X3_15 hC hM ((sp_out (by omega)).trans (me_up_s _ _ _)) (Nat.le_of_ble_eq_true rfl) (M2 := sp tb a g (me_up M9 po (.inr (3, [.ref ta, .int (nI len), .ref a, .int (nI j), .int 2, .int (nI k), .int (nI (pEk ps)), .int (pEo ps)])))) (sp_upo (by omega)) dX3_next_265 (fun H locs hM => ?_)
                                exact me_vret hC hr hlk hM (ps_eq (q := (j, 2, k, pEk ps, pEo ps)) (nx_run h0 hs h1 h59 hj ((if_neg (fun z => z.elim c_15 (fun w => c_14 w.2))).trans (if_neg c_17)))) (rfl) dX3_next_268
                              · have c_17 := b1_n0.mp c_17
                                refine lv_iconst (v := 1) hx hb dX3_next_260 (by decide) ?_
                                refine lv_goto (tgt := 265) hx hb dX3_next_261 (by decide) ?_
                                refine fp_X3_15 hC hM ((sp_out (by omega)).trans (me_up_s _ _ _)) (Nat.le_of_ble_eq_true rfl) (M2 := sp tb a g (me_up M9 po (.inr (3, [.ref ta, .int (nI len), .ref a, .int (nI j), .int 1, .int (nI k), .int (nI (pEk ps)), .int (pEo ps)])))) (sp_upo (by omega)) dX3_next_265 (fun H locs hM => ?_)
                                exact me_vret hC hr hlk hM (ps_eq (q := (j, 1, k, pEk ps, pEo ps)) (nx_run h0 hs h1 h59 hj ((if_neg (fun z => z.elim c_15 (fun w => c_14 w.2))).trans (if_pos c_17)))) (rfl) dX3_next_268
                            · exact absurd c_16 (by decide)
                        · have c_14 := (br_eq rfl rfl (by omega) (by omega)).mp c_14
                          refine lv_iconst (v := 1) hx hb dX3_next_228 (by decide) ?_
                          refine lv_goto (tgt := 233) hx hb dX3_next_229 (by decide) ?_
                          refine lv_istore (lv' := [(4, .int 1), (0, .ref po), (1, .int (b1 (pTk ps = 1 ∨ pTk ps = 2))), (2, .int (nI (pAt ps))), (3, .int (b1 (ltP (t k))))]) hx hb dX3_next_233 hl (by decide) rfl (fun ls hl => ?_)
                          refine lv_aload_n hx hb dX3_next_235 rfl (lv_at hl 1 rfl) ?_
                          refine lv_aload_n hx hb dX3_next_236 rfl (lv_at hl 1 rfl) ?_
                          refine fg_X3_9 hC hM ((sp_out (by omega)).trans (me_up_s _ _ _)) rfl dX3_next_237 ?_
                          refine lv_aload_n hx hb dX3_next_240 rfl (lv_at hl 1 rfl) ?_
                          refine fg_X3_18 hC hM ((sp_out (by omega)).trans (me_up_s _ _ _)) rfl dX3_next_241 ?_
                          refine lv_icmp_eq (tgt := 252) hx hb dX3_next_244 (by decide) (fun c_18 => ?_) (fun c_18 => ?_)
                          · have c_18 := (br_eq rfl rfl (by omega) (by omega)).mp c_18
                            refine lv_iconst (v := 0) hx hb dX3_next_252 (by decide) ?_
                            refine lv_goto (tgt := 265) hx hb dX3_next_253 (by decide) ?_
                            refine fp_X3_15 hC hM ((sp_out (by omega)).trans (me_up_s _ _ _)) (Nat.le_of_ble_eq_true rfl) (M2 := sp tb a g (me_up M9 po (.inr (3, [.ref ta, .int (nI len), .ref a, .int (nI j), .int 0, .int (nI k), .int (nI (pEk ps)), .int (pEo ps)])))) (sp_upo (by omega)) dX3_next_265 (fun H locs hM => ?_)
                            exact me_vret hC hr hlk hM (ps_eq (q := (j, 0, k, pEk ps, pEo ps)) (nx_run h0 hs h1 h59 hj (if_pos (Or.inl c_18)))) (rfl) dX3_next_268
                          · have c_18 := (not_congr (br_eq rfl rfl (by omega) (by omega))).mp c_18
                            refine lv_iload hx hb dX3_next_247 (lv_at hl 0 rfl) ?_
                            refine lv_if_eq (tgt := 256) hx hb dX3_next_249 (by decide) (fun c_19 => ?_) (fun c_19 => ?_)
                            · exact absurd c_19 (by decide)
                            · refine lv_iconst (v := 0) hx hb dX3_next_252 (by decide) ?_
                              refine lv_goto (tgt := 265) hx hb dX3_next_253 (by decide) ?_
                              refine fp_X3_15 hC hM ((sp_out (by omega)).trans (me_up_s _ _ _)) (Nat.le_of_ble_eq_true rfl) (M2 := sp tb a g (me_up M9 po (.inr (3, [.ref ta, .int (nI len), .ref a, .int (nI j), .int 0, .int (nI k), .int (nI (pEk ps)), .int (pEo ps)])))) (sp_upo (by omega)) dX3_next_265 (fun H locs hM => ?_)
                              exact me_vret hC hr hlk hM (ps_eq (q := (j, 0, k, pEk ps, pEo ps)) (nx_run h0 hs h1 h59 hj (if_pos (Or.inr ⟨c_10, c_14⟩)))) (rfl) dX3_next_268
                    · have c_9 := (not_congr (br_le rfl rfl (by omega) (by omega))).mp c_9
                      obtain ⟨r3, rfl⟩ : ∃ r3, r2 = r3 + 1 := ⟨r2 - 1, by omega⟩
                      refine lv_iload_n hx hb dX3_next_166 rfl (lv_at hl 3 rfl) ?_
                      refine lv_if_eq (tgt := 188) hx hb dX3_next_167 (by decide) (fun c_20 => ?_) (fun c_20 => ?_)
                      · have c_20 := b1_0.mp c_20
                        refine lv_aload_n hx hb dX3_next_188 rfl (lv_at hl 0 rfl) ?_
                        refine fg_X3_27 hC hM ((sp_out (by omega)).trans (me_up_s _ _ _)) rfl dX3_next_189 ?_
                        refine lv_aload_n hx hb dX3_next_192 rfl (lv_at hl 0 rfl) ?_
                        refine fg_X3_9 hC hM ((sp_out (by omega)).trans (me_up_s _ _ _)) rfl dX3_next_193 ?_
                        refine me_bald (k := j) hC hM ((sp_out (by omega)).trans ((me_up_n (by omega)).trans e6)) rfl (by omega) (by first | decide | omega) dX3_next_196 ?_
                        refine me_callSi (As := [.int (t j)]) (rest := []) hC hl.1 hM (c_X3_isDigit l D tb X z0 n _ (t j)) (ks_X3_180 hw rfl rfl ⟨Nat.le_of_ble_eq_true rfl, Nat.le_of_ble_eq_true rfl⟩) rfl rfl (Nat.le_of_ble_eq_true rfl) dX3_next_197 ⟨Nat.le_of_ble_eq_true rfl, Nat.le_of_ble_eq_true rfl⟩ (fun H locs hM => ?_)
                        refine lv_if_eq (tgt := 216) hx hb dX3_next_200 (by decide) (fun c_21 => ?_) (fun c_21 => ?_)
                        · have c_21 := b1_0.mp c_21
                          have hj : ru0 t len k = j := hr2.trans (ruP_f (fun z => c_21 (z.2 c_20)))
                          refine lv_iload_n hx hb dX3_next_216 rfl (lv_at hl 1 rfl) ?_
                          refine lv_if_eq (tgt := 232) hx hb dX3_next_217 (by decide) (fun c_22 => ?_) (fun c_22 => ?_)
                          · have c_22 := b1_0.mp c_22
                            refine lv_iconst (v := 0) hx hb dX3_next_232 (by decide) ?_
                            refine lv_istore (lv' := [(4, .int 0), (0, .ref po), (1, .int (b1 (pTk ps = 1 ∨ pTk ps = 2))), (2, .int (nI (pAt ps))), (3, .int (b1 (ltP (t k))))]) hx hb dX3_next_233 hl (by decide) rfl (fun ls hl => ?_)
                            refine lv_aload_n hx hb dX3_next_235 rfl (lv_at hl 1 rfl) ?_
                            refine lv_aload_n hx hb dX3_next_236 rfl (lv_at hl 1 rfl) ?_
                            refine fg_X3_9 hC hM ((sp_out (by omega)).trans (me_up_s _ _ _)) rfl dX3_next_237 ?_
                            refine lv_aload_n hx hb dX3_next_240 rfl (lv_at hl 1 rfl) ?_
                            refine fg_X3_18 hC hM ((sp_out (by omega)).trans (me_up_s _ _ _)) rfl dX3_next_241 ?_
                            refine lv_icmp_eq (tgt := 252) hx hb dX3_next_244 (by decide) (fun c_23 => ?_) (fun c_23 => ?_)
                            · have c_23 := (br_eq rfl rfl (by omega) (by omega)).mp c_23
                              refine lv_iconst (v := 0) hx hb dX3_next_252 (by decide) ?_
                              refine lv_goto (tgt := 265) hx hb dX3_next_253 (by decide) ?_
                              refine fp_X3_15 hC hM ((sp_out (by omega)).trans (me_up_s _ _ _)) (Nat.le_of_ble_eq_true rfl) (M2 := sp tb a g (me_up M9 po (.inr (3, [.ref ta, .int (nI len), .ref a, .int (nI j), .int 0, .int (nI k), .int (nI (pEk ps)), .int (pEo ps)])))) (sp_upo (by omega)) dX3_next_265 (fun H locs hM => ?_)
                              exact me_vret hC hr hlk hM (ps_eq (q := (j, 0, k, pEk ps, pEo ps)) (nx_run h0 hs h1 h59 hj (if_pos (Or.inl c_23)))) (rfl) dX3_next_268
                            · have c_23 := (not_congr (br_eq rfl rfl (by omega) (by omega))).mp c_23
                              refine lv_iload hx hb dX3_next_247 (lv_at hl 0 rfl) ?_
                              refine lv_if_eq (tgt := 256) hx hb dX3_next_249 (by decide) (fun c_24 => ?_) (fun c_24 => ?_)
                              · refine lv_iload_n hx hb dX3_next_256 rfl (lv_at hl 4 rfl) ?_
                                refine lv_if_eq (tgt := 264) hx hb dX3_next_257 (by decide) (fun c_25 => ?_) (fun c_25 => ?_)
                                · have c_25 := b1_0.mp c_25
                                  refine lv_iconst (v := 2) hx hb dX3_next_264 (by decide) ?_
                                  refine fp_X3_15 hC hM ((sp_out (by omega)).trans (me_up_s _ _ _)) (Nat.le_of_ble_eq_true rfl) (M2 := sp tb a g (me_up M9 po (.inr (3, [.ref ta, .int (nI len), .ref a, .int (nI j), .int 2, .int (nI k), .int (nI (pEk ps)), .int (pEo ps)])))) (sp_upo (by omega)) dX3_next_265 (fun H locs hM => ?_)
                                  exact me_vret hC hr hlk hM (ps_eq (q := (j, 2, k, pEk ps, pEo ps)) (nx_run h0 hs h1 h59 hj ((if_neg (fun z => z.elim c_23 (fun w => c_22 w.1))).trans (if_neg c_25)))) (rfl) dX3_next_268
                                · have c_25 := b1_n0.mp c_25
                                  refine lv_iconst (v := 1) hx hb dX3_next_260 (by decide) ?_
                                  refine lv_goto (tgt := 265) hx hb dX3_next_261 (by decide) ?_
                                  refine fp_X3_15 hC hM ((sp_out (by omega)).trans (me_up_s _ _ _)) (Nat.le_of_ble_eq_true rfl) (M2 := sp tb a g (me_up M9 po (.inr (3, [.ref ta, .int (nI len), .ref a, .int (nI j), .int 1, .int (nI k), .int (nI (pEk ps)), .int (pEo ps)])))) (sp_upo (by omega)) dX3_next_265 (fun H locs hM => ?_)
                                  exact me_vret hC hr hlk hM (ps_eq (q := (j, 1, k, pEk ps, pEo ps)) (nx_run h0 hs h1 h59 hj ((if_neg (fun z => z.elim c_23 (fun w => c_22 w.1))).trans (if_pos c_25)))) (rfl) dX3_next_268
                              · exact absurd c_24 (by decide)
                          · have c_22 := b1_n0.mp c_22
                            refine lv_aload_n hx hb dX3_next_220 rfl (lv_at hl 0 rfl) ?_
                            refine fg_X3_18 hC hM ((sp_out (by omega)).trans (me_up_s _ _ _)) rfl dX3_next_221 ?_
                            refine lv_iload_n hx hb dX3_next_224 rfl (lv_at hl 2 rfl) ?_
                            refine lv_icmp_ne (tgt := 232) hx hb dX3_next_225 (by decide) (fun c_26 => ?_) (fun c_26 => ?_)
                            · have c_26 := (not_congr (br_eq rfl rfl (by omega) (by omega))).mp c_26
                              refine lv_iconst (v := 0) hx hb dX3_next_232 (by decide) ?_
                              refine lv_istore (lv' := [(4, .int 0), (0, .ref po), (1, .int (b1 (pTk ps = 1 ∨ pTk ps = 2))), (2, .int (nI (pAt ps))), (3, .int (b1 (ltP (t k))))]) hx hb dX3_next_233 hl (by decide) rfl (fun ls hl => ?_)
                              refine lv_aload_n hx hb dX3_next_235 rfl (lv_at hl 1 rfl) ?_
                              refine lv_aload_n hx hb dX3_next_236 rfl (lv_at hl 1 rfl) ?_
                              refine fg_X3_9 hC hM ((sp_out (by omega)).trans (me_up_s _ _ _)) rfl dX3_next_237 ?_
                              refine lv_aload_n hx hb dX3_next_240 rfl (lv_at hl 1 rfl) ?_
                              refine fg_X3_18 hC hM ((sp_out (by omega)).trans (me_up_s _ _ _)) rfl dX3_next_241 ?_
                              refine lv_icmp_eq (tgt := 252) hx hb dX3_next_244 (by decide) (fun c_27 => ?_) (fun c_27 => ?_)
                              · have c_27 := (br_eq rfl rfl (by omega) (by omega)).mp c_27
                                refine lv_iconst (v := 0) hx hb dX3_next_252 (by decide) ?_
                                refine lv_goto (tgt := 265) hx hb dX3_next_253 (by decide) ?_
                                refine fp_X3_15 hC hM ((sp_out (by omega)).trans (me_up_s _ _ _)) (Nat.le_of_ble_eq_true rfl) (M2 := sp tb a g (me_up M9 po (.inr (3, [.ref ta, .int (nI len), .ref a, .int (nI j), .int 0, .int (nI k), .int (nI (pEk ps)), .int (pEo ps)])))) (sp_upo (by omega)) dX3_next_265 (fun H locs hM => ?_)
                                exact me_vret hC hr hlk hM (ps_eq (q := (j, 0, k, pEk ps, pEo ps)) (nx_run h0 hs h1 h59 hj (if_pos (Or.inl c_27)))) (rfl) dX3_next_268
                              · have c_27 := (not_congr (br_eq rfl rfl (by omega) (by omega))).mp c_27
                                refine lv_iload hx hb dX3_next_247 (lv_at hl 0 rfl) ?_
                                refine lv_if_eq (tgt := 256) hx hb dX3_next_249 (by decide) (fun c_28 => ?_) (fun c_28 => ?_)
                                · refine lv_iload_n hx hb dX3_next_256 rfl (lv_at hl 4 rfl) ?_
                                  refine lv_if_eq (tgt := 264) hx hb dX3_next_257 (by decide) (fun c_29 => ?_) (fun c_29 => ?_)
                                  · have c_29 := b1_0.mp c_29
                                    refine lv_iconst (v := 2) hx hb dX3_next_264 (by decide) ?_
                                    refine fp_X3_15 hC hM ((sp_out (by omega)).trans (me_up_s _ _ _)) (Nat.le_of_ble_eq_true rfl) (M2 := sp tb a g (me_up M9 po (.inr (3, [.ref ta, .int (nI len), .ref a, .int (nI j), .int 2, .int (nI k), .int (nI (pEk ps)), .int (pEo ps)])))) (sp_upo (by omega)) dX3_next_265 (fun H locs hM => ?_)
                                    exact me_vret hC hr hlk hM (ps_eq (q := (j, 2, k, pEk ps, pEo ps)) (nx_run h0 hs h1 h59 hj ((if_neg (fun z => z.elim c_27 (fun w => c_26 w.2))).trans (if_neg c_29)))) (rfl) dX3_next_268
                                  · have c_29 := b1_n0.mp c_29
                                    refine lv_iconst (v := 1) hx hb dX3_next_260 (by decide) ?_
                                    refine lv_goto (tgt := 265) hx hb dX3_next_261 (by decide) ?_
                                    refine fp_X3_15 hC hM ((sp_out (by omega)).trans (me_up_s _ _ _)) (Nat.le_of_ble_eq_true rfl) (M2 := sp tb a g (me_up M9 po (.inr (3, [.ref ta, .int (nI len), .ref a, .int (nI j), .int 1, .int (nI k), .int (nI (pEk ps)), .int (pEo ps)])))) (sp_upo (by omega)) dX3_next_265 (fun H locs hM => ?_)
                                    exact me_vret hC hr hlk hM (ps_eq (q := (j, 1, k, pEk ps, pEo ps)) (nx_run h0 hs h1 h59 hj ((if_neg (fun z => z.elim c_27 (fun w => c_26 w.2))).trans (if_pos c_29)))) (rfl) dX3_next_268
                                · exact absurd c_28 (by decide)
                            · have c_26 := (br_eq rfl rfl (by omega) (by omega)).mp c_26
                              refine lv_iconst (v := 1) hx hb dX3_next_228 (by decide) ?_
                              refine lv_goto (tgt := 233) hx hb dX3_next_229 (by decide) ?_
                              refine lv_istore (lv' := [(4, .int 1), (0, .ref po), (1, .int (b1 (pTk ps = 1 ∨ pTk ps = 2))), (2, .int (nI (pAt ps))), (3, .int (b1 (ltP (t k))))]) hx hb dX3_next_233 hl (by decide) rfl (fun ls hl => ?_)
                              refine lv_aload_n hx hb dX3_next_235 rfl (lv_at hl 1 rfl) ?_
                              refine lv_aload_n hx hb dX3_next_236 rfl (lv_at hl 1 rfl) ?_
                              refine fg_X3_9 hC hM ((sp_out (by omega)).trans (me_up_s _ _ _)) rfl dX3_next_237 ?_
                              refine lv_aload_n hx hb dX3_next_240 rfl (lv_at hl 1 rfl) ?_
                              refine fg_X3_18 hC hM ((sp_out (by omega)).trans (me_up_s _ _ _)) rfl dX3_next_241 ?_
                              refine lv_icmp_eq (tgt := 252) hx hb dX3_next_244 (by decide) (fun c_30 => ?_) (fun c_30 => ?_)
                              · have c_30 := (br_eq rfl rfl (by omega) (by omega)).mp c_30
                                refine lv_iconst (v := 0) hx hb dX3_next_252 (by decide) ?_
                                refine lv_goto (tgt := 265) hx hb dX3_next_253 (by decide) ?_
                                refine fp_X3_15 hC hM ((sp_out (by omega)).trans (me_up_s _ _ _)) (Nat.le_of_ble_eq_true rfl) (M2 := sp tb a g (me_up M9 po (.inr (3, [.ref ta, .int (nI len), .ref a, .int (nI j), .int 0, .int (nI k), .int (nI (pEk ps)), .int (pEo ps)])))) (sp_upo (by omega)) dX3_next_265 (fun H locs hM => ?_)
                                exact me_vret hC hr hlk hM (ps_eq (q := (j, 0, k, pEk ps, pEo ps)) (nx_run h0 hs h1 h59 hj (if_pos (Or.inl c_30)))) (rfl) dX3_next_268
                              · have c_30 := (not_congr (br_eq rfl rfl (by omega) (by omega))).mp c_30
                                refine lv_iload hx hb dX3_next_247 (lv_at hl 0 rfl) ?_
                                refine lv_if_eq (tgt := 256) hx hb dX3_next_249 (by decide) (fun c_31 => ?_) (fun c_31 => ?_)
                                · exact absurd c_31 (by decide)
                                · refine lv_iconst (v := 0) hx hb dX3_next_252 (by decide) ?_
                                  refine lv_goto (tgt := 265) hx hb dX3_next_253 (by decide) ?_
                                  refine fp_X3_15 hC hM ((sp_out (by omega)).trans (me_up_s _ _ _)) (Nat.le_of_ble_eq_true rfl) (M2 := sp tb a g (me_up M9 po (.inr (3, [.ref ta, .int (nI len), .ref a, .int (nI j), .int 0, .int (nI k), .int (nI (pEk ps)), .int (pEo ps)])))) (sp_upo (by omega)) dX3_next_265 (fun H locs hM => ?_)
                                  exact me_vret hC hr hlk hM (ps_eq (q := (j, 0, k, pEk ps, pEo ps)) (nx_run h0 hs h1 h59 hj (if_pos (Or.inr ⟨c_22, c_26⟩)))) (rfl) dX3_next_268
                        · have c_21 := b1_n0.mp c_21
                          refine lv_aload_n hx hb dX3_next_203 rfl (lv_at hl 0 rfl) ?_
                          refine lv_dup hx hb dX3_next_204 rfl ?_
                          refine fg_X3_9 hC hM ((sp_out (by omega)).trans (me_up_s _ _ _)) rfl dX3_next_205 ?_
                          refine lv_iconst (v := 1) hx hb dX3_next_208 (by decide) ?_
                          refine lv_iadd hx hb dX3_next_209 ?_
                          refine me_evi (y := nI (j + 1)) (nx_add rfl (show (1 : Int32) = nI 1 from rfl)) ?_
                          refine fp_X3_9 hC hM ((sp_out (by omega)).trans (me_up_s _ _ _)) (Nat.le_of_ble_eq_true rfl) (M2 := sp tb a g (me_up M9 po (.inr (3, [.ref ta, .int (nI len), .ref a, .int (nI (j + 1)), .int (nI (pTk ps)), .int (nI k), .int (nI (pEk ps)), .int (pEo ps)])))) (sp_upo (by omega)) dX3_next_210 (fun H locs hM => ?_)
                          refine lv_goto (tgt := 155) hx hb dX3_next_213 (by decide) ?_
                          exact ih_155 r3 (by omega) (j + 1) _ _ _ (by omega) (by omega) (hr2.trans (ruP_t ⟨fun z => absurd z c_20, fun _ => c_21⟩)) hM (lv_sub hl [0, 1, 2, 3] rfl)
                      · have c_20 := b1_n0.mp c_20
                        refine lv_aload_n hx hb dX3_next_170 rfl (lv_at hl 0 rfl) ?_
                        refine fg_X3_27 hC hM ((sp_out (by omega)).trans (me_up_s _ _ _)) rfl dX3_next_171 ?_
                        refine lv_aload_n hx hb dX3_next_174 rfl (lv_at hl 0 rfl) ?_
                        refine fg_X3_9 hC hM ((sp_out (by omega)).trans (me_up_s _ _ _)) rfl dX3_next_175 ?_
                        refine me_bald (k := j) hC hM ((sp_out (by omega)).trans ((me_up_n (by omega)).trans e6)) rfl (by omega) (by first | decide | omega) dX3_next_178 ?_
                        refine me_callSi (As := [.int (t j)]) (rest := []) hC hl.1 hM (c_X3_isLetter l D tb X z0 n _ (t j)) (ks_X3_176 hw rfl rfl ⟨Nat.le_of_ble_eq_true rfl, Nat.le_of_ble_eq_true rfl⟩) rfl rfl (Nat.le_of_ble_eq_true rfl) dX3_next_179 ⟨Nat.le_of_ble_eq_true rfl, Nat.le_of_ble_eq_true rfl⟩ (fun H locs hM => ?_)
                        refine lv_if_eq (tgt := 216) hx hb dX3_next_182 (by decide) (fun c_32 => ?_) (fun c_32 => ?_)
                        · have c_32 := b1_0.mp c_32
                          have hj : ru0 t len k = j := hr2.trans (ruP_f (fun z => c_32 (z.1 c_20)))
                          refine lv_iload_n hx hb dX3_next_216 rfl (lv_at hl 1 rfl) ?_
                          refine lv_if_eq (tgt := 232) hx hb dX3_next_217 (by decide) (fun c_33 => ?_) (fun c_33 => ?_)
                          · have c_33 := b1_0.mp c_33
                            refine lv_iconst (v := 0) hx hb dX3_next_232 (by decide) ?_
                            refine lv_istore (lv' := [(4, .int 0), (0, .ref po), (1, .int (b1 (pTk ps = 1 ∨ pTk ps = 2))), (2, .int (nI (pAt ps))), (3, .int (b1 (ltP (t k))))]) hx hb dX3_next_233 hl (by decide) rfl (fun ls hl => ?_)
                            refine lv_aload_n hx hb dX3_next_235 rfl (lv_at hl 1 rfl) ?_
                            refine lv_aload_n hx hb dX3_next_236 rfl (lv_at hl 1 rfl) ?_
                            refine fg_X3_9 hC hM ((sp_out (by omega)).trans (me_up_s _ _ _)) rfl dX3_next_237 ?_
                            refine lv_aload_n hx hb dX3_next_240 rfl (lv_at hl 1 rfl) ?_
                            refine fg_X3_18 hC hM ((sp_out (by omega)).trans (me_up_s _ _ _)) rfl dX3_next_241 ?_
                            refine lv_icmp_eq (tgt := 252) hx hb dX3_next_244 (by decide) (fun c_34 => ?_) (fun c_34 => ?_)
                            · have c_34 := (br_eq rfl rfl (by omega) (by omega)).mp c_34
                              refine lv_iconst (v := 0) hx hb dX3_next_252 (by decide) ?_
                              refine lv_goto (tgt := 265) hx hb dX3_next_253 (by decide) ?_
                              refine fp_X3_15 hC hM ((sp_out (by omega)).trans (me_up_s _ _ _)) (Nat.le_of_ble_eq_true rfl) (M2 := sp tb a g (me_up M9 po (.inr (3, [.ref ta, .int (nI len), .ref a, .int (nI j), .int 0, .int (nI k), .int (nI (pEk ps)), .int (pEo ps)])))) (sp_upo (by omega)) dX3_next_265 (fun H locs hM => ?_)
                              exact me_vret hC hr hlk hM (ps_eq (q := (j, 0, k, pEk ps, pEo ps)) (nx_run h0 hs h1 h59 hj (if_pos (Or.inl c_34)))) (rfl) dX3_next_268
                            · have c_34 := (not_congr (br_eq rfl rfl (by omega) (by omega))).mp c_34
                              refine lv_iload hx hb dX3_next_247 (lv_at hl 0 rfl) ?_
                              refine lv_if_eq (tgt := 256) hx hb dX3_next_249 (by decide) (fun c_35 => ?_) (fun c_35 => ?_)
                              · refine lv_iload_n hx hb dX3_next_256 rfl (lv_at hl 4 rfl) ?_
                                refine lv_if_eq (tgt := 264) hx hb dX3_next_257 (by decide) (fun c_36 => ?_) (fun c_36 => ?_)
                                · have c_36 := b1_0.mp c_36
                                  refine lv_iconst (v := 2) hx hb dX3_next_264 (by decide) ?_
                                  refine fp_X3_15 hC hM ((sp_out (by omega)).trans (me_up_s _ _ _)) (Nat.le_of_ble_eq_true rfl) (M2 := sp tb a g (me_up M9 po (.inr (3, [.ref ta, .int (nI len), .ref a, .int (nI j), .int 2, .int (nI k), .int (nI (pEk ps)), .int (pEo ps)])))) (sp_upo (by omega)) dX3_next_265 (fun H locs hM => ?_)
                                  exact me_vret hC hr hlk hM (ps_eq (q := (j, 2, k, pEk ps, pEo ps)) (nx_run h0 hs h1 h59 hj ((if_neg (fun z => z.elim c_34 (fun w => c_33 w.1))).trans (if_neg c_36)))) (rfl) dX3_next_268
                                · have c_36 := b1_n0.mp c_36
                                  refine lv_iconst (v := 1) hx hb dX3_next_260 (by decide) ?_
                                  refine lv_goto (tgt := 265) hx hb dX3_next_261 (by decide) ?_
                                  refine fp_X3_15 hC hM ((sp_out (by omega)).trans (me_up_s _ _ _)) (Nat.le_of_ble_eq_true rfl) (M2 := sp tb a g (me_up M9 po (.inr (3, [.ref ta, .int (nI len), .ref a, .int (nI j), .int 1, .int (nI k), .int (nI (pEk ps)), .int (pEo ps)])))) (sp_upo (by omega)) dX3_next_265 (fun H locs hM => ?_)
                                  exact me_vret hC hr hlk hM (ps_eq (q := (j, 1, k, pEk ps, pEo ps)) (nx_run h0 hs h1 h59 hj ((if_neg (fun z => z.elim c_34 (fun w => c_33 w.1))).trans (if_pos c_36)))) (rfl) dX3_next_268
                              · exact absurd c_35 (by decide)
                          · have c_33 := b1_n0.mp c_33
                            refine lv_aload_n hx hb dX3_next_220 rfl (lv_at hl 0 rfl) ?_
                            refine fg_X3_18 hC hM ((sp_out (by omega)).trans (me_up_s _ _ _)) rfl dX3_next_221 ?_
                            refine lv_iload_n hx hb dX3_next_224 rfl (lv_at hl 2 rfl) ?_
                            refine lv_icmp_ne (tgt := 232) hx hb dX3_next_225 (by decide) (fun c_37 => ?_) (fun c_37 => ?_)
                            · have c_37 := (not_congr (br_eq rfl rfl (by omega) (by omega))).mp c_37
                              refine lv_iconst (v := 0) hx hb dX3_next_232 (by decide) ?_
                              refine lv_istore (lv' := [(4, .int 0), (0, .ref po), (1, .int (b1 (pTk ps = 1 ∨ pTk ps = 2))), (2, .int (nI (pAt ps))), (3, .int (b1 (ltP (t k))))]) hx hb dX3_next_233 hl (by decide) rfl (fun ls hl => ?_)
                              refine lv_aload_n hx hb dX3_next_235 rfl (lv_at hl 1 rfl) ?_
                              refine lv_aload_n hx hb dX3_next_236 rfl (lv_at hl 1 rfl) ?_
                              refine fg_X3_9 hC hM ((sp_out (by omega)).trans (me_up_s _ _ _)) rfl dX3_next_237 ?_
                              refine lv_aload_n hx hb dX3_next_240 rfl (lv_at hl 1 rfl) ?_
                              refine fg_X3_18 hC hM ((sp_out (by omega)).trans (me_up_s _ _ _)) rfl dX3_next_241 ?_
                              refine lv_icmp_eq (tgt := 252) hx hb dX3_next_244 (by decide) (fun c_38 => ?_) (fun c_38 => ?_)
                              · have c_38 := (br_eq rfl rfl (by omega) (by omega)).mp c_38
                                refine lv_iconst (v := 0) hx hb dX3_next_252 (by decide) ?_
                                refine lv_goto (tgt := 265) hx hb dX3_next_253 (by decide) ?_
                                refine fp_X3_15 hC hM ((sp_out (by omega)).trans (me_up_s _ _ _)) (Nat.le_of_ble_eq_true rfl) (M2 := sp tb a g (me_up M9 po (.inr (3, [.ref ta, .int (nI len), .ref a, .int (nI j), .int 0, .int (nI k), .int (nI (pEk ps)), .int (pEo ps)])))) (sp_upo (by omega)) dX3_next_265 (fun H locs hM => ?_)
                                exact me_vret hC hr hlk hM (ps_eq (q := (j, 0, k, pEk ps, pEo ps)) (nx_run h0 hs h1 h59 hj (if_pos (Or.inl c_38)))) (rfl) dX3_next_268
                              · have c_38 := (not_congr (br_eq rfl rfl (by omega) (by omega))).mp c_38
                                refine lv_iload hx hb dX3_next_247 (lv_at hl 0 rfl) ?_
                                refine lv_if_eq (tgt := 256) hx hb dX3_next_249 (by decide) (fun c_39 => ?_) (fun c_39 => ?_)
                                · refine lv_iload_n hx hb dX3_next_256 rfl (lv_at hl 4 rfl) ?_
                                  refine lv_if_eq (tgt := 264) hx hb dX3_next_257 (by decide) (fun c_40 => ?_) (fun c_40 => ?_)
                                  · have c_40 := b1_0.mp c_40
                                    refine lv_iconst (v := 2) hx hb dX3_next_264 (by decide) ?_
                                    refine fp_X3_15 hC hM ((sp_out (by omega)).trans (me_up_s _ _ _)) (Nat.le_of_ble_eq_true rfl) (M2 := sp tb a g (me_up M9 po (.inr (3, [.ref ta, .int (nI len), .ref a, .int (nI j), .int 2, .int (nI k), .int (nI (pEk ps)), .int (pEo ps)])))) (sp_upo (by omega)) dX3_next_265 (fun H locs hM => ?_)
                                    exact me_vret hC hr hlk hM (ps_eq (q := (j, 2, k, pEk ps, pEo ps)) (nx_run h0 hs h1 h59 hj ((if_neg (fun z => z.elim c_38 (fun w => c_37 w.2))).trans (if_neg c_40)))) (rfl) dX3_next_268
                                  · have c_40 := b1_n0.mp c_40
                                    refine lv_iconst (v := 1) hx hb dX3_next_260 (by decide) ?_
                                    refine lv_goto (tgt := 265) hx hb dX3_next_261 (by decide) ?_
                                    refine fp_X3_15 hC hM ((sp_out (by omega)).trans (me_up_s _ _ _)) (Nat.le_of_ble_eq_true rfl) (M2 := sp tb a g (me_up M9 po (.inr (3, [.ref ta, .int (nI len), .ref a, .int (nI j), .int 1, .int (nI k), .int (nI (pEk ps)), .int (pEo ps)])))) (sp_upo (by omega)) dX3_next_265 (fun H locs hM => ?_)
                                    exact me_vret hC hr hlk hM (ps_eq (q := (j, 1, k, pEk ps, pEo ps)) (nx_run h0 hs h1 h59 hj ((if_neg (fun z => z.elim c_38 (fun w => c_37 w.2))).trans (if_pos c_40)))) (rfl) dX3_next_268
                                · exact absurd c_39 (by decide)
                            · have c_37 := (br_eq rfl rfl (by omega) (by omega)).mp c_37
                              refine lv_iconst (v := 1) hx hb dX3_next_228 (by decide) ?_
                              refine lv_goto (tgt := 233) hx hb dX3_next_229 (by decide) ?_
                              refine lv_istore (lv' := [(4, .int 1), (0, .ref po), (1, .int (b1 (pTk ps = 1 ∨ pTk ps = 2))), (2, .int (nI (pAt ps))), (3, .int (b1 (ltP (t k))))]) hx hb dX3_next_233 hl (by decide) rfl (fun ls hl => ?_)
                              refine lv_aload_n hx hb dX3_next_235 rfl (lv_at hl 1 rfl) ?_
                              refine lv_aload_n hx hb dX3_next_236 rfl (lv_at hl 1 rfl) ?_
                              refine fg_X3_9 hC hM ((sp_out (by omega)).trans (me_up_s _ _ _)) rfl dX3_next_237 ?_
                              refine lv_aload_n hx hb dX3_next_240 rfl (lv_at hl 1 rfl) ?_
                              refine fg_X3_18 hC hM ((sp_out (by omega)).trans (me_up_s _ _ _)) rfl dX3_next_241 ?_
                              refine lv_icmp_eq (tgt := 252) hx hb dX3_next_244 (by decide) (fun c_41 => ?_) (fun c_41 => ?_)
                              · have c_41 := (br_eq rfl rfl (by omega) (by omega)).mp c_41
                                refine lv_iconst (v := 0) hx hb dX3_next_252 (by decide) ?_
                                refine lv_goto (tgt := 265) hx hb dX3_next_253 (by decide) ?_
                                refine fp_X3_15 hC hM ((sp_out (by omega)).trans (me_up_s _ _ _)) (Nat.le_of_ble_eq_true rfl) (M2 := sp tb a g (me_up M9 po (.inr (3, [.ref ta, .int (nI len), .ref a, .int (nI j), .int 0, .int (nI k), .int (nI (pEk ps)), .int (pEo ps)])))) (sp_upo (by omega)) dX3_next_265 (fun H locs hM => ?_)
                                exact me_vret hC hr hlk hM (ps_eq (q := (j, 0, k, pEk ps, pEo ps)) (nx_run h0 hs h1 h59 hj (if_pos (Or.inl c_41)))) (rfl) dX3_next_268
                              · have c_41 := (not_congr (br_eq rfl rfl (by omega) (by omega))).mp c_41
                                refine lv_iload hx hb dX3_next_247 (lv_at hl 0 rfl) ?_
                                refine lv_if_eq (tgt := 256) hx hb dX3_next_249 (by decide) (fun c_42 => ?_) (fun c_42 => ?_)
                                · exact absurd c_42 (by decide)
                                · refine lv_iconst (v := 0) hx hb dX3_next_252 (by decide) ?_
                                  refine lv_goto (tgt := 265) hx hb dX3_next_253 (by decide) ?_
                                  refine fp_X3_15 hC hM ((sp_out (by omega)).trans (me_up_s _ _ _)) (Nat.le_of_ble_eq_true rfl) (M2 := sp tb a g (me_up M9 po (.inr (3, [.ref ta, .int (nI len), .ref a, .int (nI j), .int 0, .int (nI k), .int (nI (pEk ps)), .int (pEo ps)])))) (sp_upo (by omega)) dX3_next_265 (fun H locs hM => ?_)
                                  exact me_vret hC hr hlk hM (ps_eq (q := (j, 0, k, pEk ps, pEo ps)) (nx_run h0 hs h1 h59 hj (if_pos (Or.inr ⟨c_33, c_37⟩)))) (rfl) dX3_next_268
                        · have c_32 := b1_n0.mp c_32
                          refine lv_goto (tgt := 203) hx hb dX3_next_185 (by decide) ?_
                          refine lv_aload_n hx hb dX3_next_203 rfl (lv_at hl 0 rfl) ?_
                          refine lv_dup hx hb dX3_next_204 rfl ?_
                          refine fg_X3_9 hC hM ((sp_out (by omega)).trans (me_up_s _ _ _)) rfl dX3_next_205 ?_
                          refine lv_iconst (v := 1) hx hb dX3_next_208 (by decide) ?_
                          refine lv_iadd hx hb dX3_next_209 ?_
                          refine me_evi (y := nI (j + 1)) (nx_add rfl (show (1 : Int32) = nI 1 from rfl)) ?_
                          refine fp_X3_9 hC hM ((sp_out (by omega)).trans (me_up_s _ _ _)) (Nat.le_of_ble_eq_true rfl) (M2 := sp tb a g (me_up M9 po (.inr (3, [.ref ta, .int (nI len), .ref a, .int (nI (j + 1)), .int (nI (pTk ps)), .int (nI k), .int (nI (pEk ps)), .int (pEo ps)])))) (sp_upo (by omega)) dX3_next_210 (fun H locs hM => ?_)
                          refine lv_goto (tgt := 155) hx hb dX3_next_213 (by decide) ?_
                          exact ih_155 r3 (by omega) (j + 1) _ _ _ (by omega) (by omega) (hr2.trans (ruP_t ⟨fun _ => c_32, fun z => absurd c_20 z⟩)) hM (lv_sub hl [0, 1, 2, 3] rfl)
                  exact lp_155 (len - k) k _ _ _ (by omega) (Nat.le_refl _) rfl hM (lv_sub hl [1, 2, 3, 0] rfl)
                · refine lv_aload_n hx hb dX3_next_126 rfl (lv_at hl 0 rfl) ?_
                  refine lv_dup hx hb dX3_next_127 rfl ?_
                  refine fg_X3_9 hC hM ((sp_out (by omega)).trans (me_up_s _ _ _)) rfl dX3_next_128 ?_
                  refine lv_iconst (v := 1) hx hb dX3_next_131 (by decide) ?_
                  refine lv_iadd hx hb dX3_next_132 ?_
                  refine me_evi (y := nI (k + 1)) (nx_add rfl (show (1 : Int32) = nI 1 from rfl)) ?_
                  refine fp_X3_9 hC hM ((sp_out (by omega)).trans (me_up_s _ _ _)) (Nat.le_of_ble_eq_true rfl) (M2 := sp tb a g (me_up M9 po (.inr (3, [.ref ta, .int (nI len), .ref a, .int (nI (k + 1)), .int (nI (pTk ps)), .int (nI k), .int (nI (pEk ps)), .int (pEo ps)])))) (sp_upo (by omega)) dX3_next_133 (fun H locs hM => ?_)
                  refine lv_aload_n hx hb dX3_next_136 rfl (lv_at hl 0 rfl) ?_
                  refine lv_iconst (v := 3) hx hb dX3_next_137 (by decide) ?_
                  refine fp_X3_15 hC hM ((sp_out (by omega)).trans (me_up_s _ _ _)) (Nat.le_of_ble_eq_true rfl) (M2 := sp tb a g (me_up M9 po (.inr (3, [.ref ta, .int (nI len), .ref a, .int (nI (k + 1)), .int 3, .int (nI k), .int (nI (pEk ps)), .int (pEo ps)])))) (sp_upo (by omega)) dX3_next_138 (fun H locs hM => ?_)
                  exact me_vret hC hr hlk hM (ps_eq (q := (k + 1, 3, k, pEk ps, pEo ps)) (nx_semi h0 hs (by omega) c_8)) (rfl) dX3_next_141
              · have c_7 := (not_congr (br_lt rfl rfl (by omega) (by omega))).mp c_7
                refine lv_aload_n hx hb dX3_next_106 rfl (lv_at hl 0 rfl) ?_
                refine lv_iconst (v := 4) hx hb dX3_next_107 (by decide) ?_
                refine fp_X3_15 hC hM ((sp_out (by omega)).trans (me_up_s _ _ _)) (Nat.le_of_ble_eq_true rfl) (M2 := sp tb a g (me_up M9 po (.inr (3, [.ref ta, .int (nI len), .ref a, .int (nI k), .int 4, .int (nI k), .int (nI (pEk ps)), .int (pEo ps)])))) (sp_upo (by omega)) dX3_next_108 (fun H locs hM => ?_)
                exact me_vret hC hr hlk hM (ps_eq (q := (k, 4, k, pEk ps, pEo ps)) (nx_end h0 hs (by omega))) (rfl) dX3_next_111
            · refine lv_aload_n hx hb dX3_next_74 rfl (lv_at hl 0 rfl) ?_
              refine lv_dup hx hb dX3_next_75 rfl ?_
              refine fg_X3_9 hC hM ((sp_out (by omega)).trans (me_up_s _ _ _)) rfl dX3_next_76 ?_
              refine lv_iconst (v := 1) hx hb dX3_next_79 (by decide) ?_
              refine lv_iadd hx hb dX3_next_80 ?_
              refine me_evi (y := nI (k + 1)) (nx_add rfl (show (1 : Int32) = nI 1 from rfl)) ?_
              refine fp_X3_9 hC hM ((sp_out (by omega)).trans (me_up_s _ _ _)) (Nat.le_of_ble_eq_true rfl) (M2 := sp tb a g (me_up M9 po (.inr (3, [.ref ta, .int (nI len), .ref a, .int (nI (k + 1)), .int (nI (pTk ps)), .int (nI (pTs ps)), .int (nI (pEk ps)), .int (pEo ps)])))) (sp_upo (by omega)) dX3_next_81 (fun H locs hM => ?_)
              refine lv_goto (tgt := 35) hx hb dX3_next_84 (by decide) ?_
              exact ih_35 r1 (by omega) (k + 1) _ _ _ (by omega) (by omega) (hq.trans (skP_t (Or.inr c_6))) hM (lv_sub hl [0, 1, 2] rfl)
      exact lp_35 (len - pAt ps) (pAt ps) _ _ _ (by omega) (Nat.le_refl _) rfl hM (lv_sub hl [2, 1, 0] rfl)
    · have c_2 := (not_congr (br_eq rfl (show (1 : Int32) = nI 1 from rfl) (by omega) (by omega))).mp c_2
      refine lv_aload_n hx hb dX3_next_16 rfl (lv_at hl 0 rfl) ?_
      refine fg_X3_15 hC hM ((sp_out (by omega)).trans (me_up_s _ _ _)) rfl dX3_next_17 ?_
      refine lv_iconst (v := 2) hx hb dX3_next_20 (by decide) ?_
      refine lv_icmp_ne (tgt := 28) hx hb dX3_next_21 (by decide) (fun c_43 => ?_) (fun c_43 => ?_)
      · have c_43 := (not_congr (br_eq rfl (nx_c 2) (by omega) (by omega))).mp c_43
        refine lv_iconst (v := 0) hx hb dX3_next_28 (by decide) ?_
        refine me_evi (y := b1 (pTk ps = 1 ∨ pTk ps = 2)) (b1_f (fun z => z.elim c_2 c_43)) ?_
        refine lv_istore_n (lv' := [(1, .int (b1 (pTk ps = 1 ∨ pTk ps = 2))), (0, .ref po)]) hx hb dX3_next_29 rfl hl (by decide) rfl (fun ls hl => ?_)
        refine lv_aload_n hx hb dX3_next_30 rfl (lv_at hl 1 rfl) ?_
        refine fg_X3_9 hC hM ((sp_out (by omega)).trans (me_up_s _ _ _)) rfl dX3_next_31 ?_
        refine lv_istore_n (lv' := [(2, .int (nI (pAt ps))), (1, .int (b1 (pTk ps = 1 ∨ pTk ps = 2))), (0, .ref po)]) hx hb dX3_next_34 rfl hl (by decide) rfl (fun ls hl => ?_)
        have lp_35 : ∀ (r : Nat) (k : Nat) (H : Heap) (locs : List Loc) (ls : Array Slot), (k + r = len) → (pAt ps ≤ k) → (sk0 t len ps = skP t r k) → me_at D z0 (sp tb a g (me_up M9 po (.inr (3, [.ref ta, .int (nI len), .ref a, .int (nI k), .int (nI (pTk ps)), .int (nI (pTs ps)), .int (nI (pEk ps)), .int (pEo ps)])))) n s H locs → lv_has ls 5 [(0, .ref po), (1, .int (b1 (pTk ps = 1 ∨ pTk ps = 2))), (2, .int (nI (pAt ps)))] → W p l e (({ frames := 1, cells := 0, slots := 0, locals := 20 } : Room)) s m args below meth c H locs 0 0 (MQ below (me_Qv D z0 (psM tb a po ta len M9 g (nxP t len ps)) n) args s 0 0 (me_A z0)) (F0 m 35 ls []) := by
          intro r
          refine Nat.strongRecOn r ?_
          intro r ih_35 k H locs ls hk hk0 hq hM hl
          refine lv_aload_n hx hb dX3_next_35 rfl (lv_at hl 0 rfl) ?_
          refine fg_X3_9 hC hM ((sp_out (by omega)).trans (me_up_s _ _ _)) rfl dX3_next_36 ?_
          refine lv_aload_n hx hb dX3_next_39 rfl (lv_at hl 0 rfl) ?_
          refine fg_X3_31 hC hM ((sp_out (by omega)).trans (me_up_s _ _ _)) rfl dX3_next_40 ?_
          refine lv_icmp_ge (tgt := 87) hx hb dX3_next_43 (by decide) (fun c_44 => ?_) (fun c_44 => ?_)
          · have c_44 := (br_le rfl rfl (by omega) (by omega)).mp c_44
            have hs : sk0 t len ps = k := by rw [hq, show r = 0 by omega]; rfl
            refine lv_aload_n hx hb dX3_next_87 rfl (lv_at hl 0 rfl) ?_
            refine lv_aload_n hx hb dX3_next_88 rfl (lv_at hl 0 rfl) ?_
            refine fg_X3_9 hC hM ((sp_out (by omega)).trans (me_up_s _ _ _)) rfl dX3_next_89 ?_
            refine fp_X3_18 hC hM ((sp_out (by omega)).trans (me_up_s _ _ _)) (Nat.le_of_ble_eq_true rfl) (M2 := sp tb a g (me_up M9 po (.inr (3, [.ref ta, .int (nI len), .ref a, .int (nI k), .int (nI (pTk ps)), .int (nI k), .int (nI (pEk ps)), .int (pEo ps)])))) (sp_upo (by omega)) dX3_next_92 (fun H locs hM => ?_)
            refine lv_aload_n hx hb dX3_next_95 rfl (lv_at hl 0 rfl) ?_
            refine fg_X3_9 hC hM ((sp_out (by omega)).trans (me_up_s _ _ _)) rfl dX3_next_96 ?_
            refine lv_aload_n hx hb dX3_next_99 rfl (lv_at hl 0 rfl) ?_
            refine fg_X3_31 hC hM ((sp_out (by omega)).trans (me_up_s _ _ _)) rfl dX3_next_100 ?_
            refine lv_icmp_lt (tgt := 112) hx hb dX3_next_103 (by decide) (fun c_45 => ?_) (fun c_45 => ?_)
            · have c_45 := (br_lt rfl rfl (by omega) (by omega)).mp c_45
              exfalso; omega
            · have c_45 := (not_congr (br_lt rfl rfl (by omega) (by omega))).mp c_45
              refine lv_aload_n hx hb dX3_next_106 rfl (lv_at hl 0 rfl) ?_
              refine lv_iconst (v := 4) hx hb dX3_next_107 (by decide) ?_
              refine fp_X3_15 hC hM ((sp_out (by omega)).trans (me_up_s _ _ _)) (Nat.le_of_ble_eq_true rfl) (M2 := sp tb a g (me_up M9 po (.inr (3, [.ref ta, .int (nI len), .ref a, .int (nI k), .int 4, .int (nI k), .int (nI (pEk ps)), .int (pEo ps)])))) (sp_upo (by omega)) dX3_next_108 (fun H locs hM => ?_)
              exact me_vret hC hr hlk hM (ps_eq (q := (k, 4, k, pEk ps, pEo ps)) (nx_end h0 hs (by omega))) (rfl) dX3_next_111
          · have c_44 := (not_congr (br_le rfl rfl (by omega) (by omega))).mp c_44
            obtain ⟨r1, rfl⟩ : ∃ r1, r = r1 + 1 := ⟨r - 1, by omega⟩
            refine lv_aload_n hx hb dX3_next_46 rfl (lv_at hl 0 rfl) ?_
            refine fg_X3_27 hC hM ((sp_out (by omega)).trans (me_up_s _ _ _)) rfl dX3_next_47 ?_
            refine lv_aload_n hx hb dX3_next_50 rfl (lv_at hl 0 rfl) ?_
            refine fg_X3_9 hC hM ((sp_out (by omega)).trans (me_up_s _ _ _)) rfl dX3_next_51 ?_
            refine me_bald (k := k) hC hM ((sp_out (by omega)).trans ((me_up_n (by omega)).trans e6)) rfl (by omega) (by first | decide | omega) dX3_next_54 ?_
            refine lv_bipush (v := 32) hx hb dX3_next_55 (by decide) ?_
            refine lv_icmp_eq (tgt := 74) hx hb dX3_next_57 (by decide) (fun c_46 => ?_) (fun c_46 => ?_)
            · refine lv_aload_n hx hb dX3_next_74 rfl (lv_at hl 0 rfl) ?_
              refine lv_dup hx hb dX3_next_75 rfl ?_
              refine fg_X3_9 hC hM ((sp_out (by omega)).trans (me_up_s _ _ _)) rfl dX3_next_76 ?_
              refine lv_iconst (v := 1) hx hb dX3_next_79 (by decide) ?_
              refine lv_iadd hx hb dX3_next_80 ?_
              refine me_evi (y := nI (k + 1)) (nx_add rfl (show (1 : Int32) = nI 1 from rfl)) ?_
              refine fp_X3_9 hC hM ((sp_out (by omega)).trans (me_up_s _ _ _)) (Nat.le_of_ble_eq_true rfl) (M2 := sp tb a g (me_up M9 po (.inr (3, [.ref ta, .int (nI len), .ref a, .int (nI (k + 1)), .int (nI (pTk ps)), .int (nI (pTs ps)), .int (nI (pEk ps)), .int (pEo ps)])))) (sp_upo (by omega)) dX3_next_81 (fun H locs hM => ?_)
              refine lv_goto (tgt := 35) hx hb dX3_next_84 (by decide) ?_
              exact ih_35 r1 (by omega) (k + 1) _ _ _ (by omega) (by omega) (hq.trans (skP_t (Or.inl c_46))) hM (lv_sub hl [0, 1, 2] rfl)
            · refine lv_aload_n hx hb dX3_next_60 rfl (lv_at hl 0 rfl) ?_
              refine fg_X3_27 hC hM ((sp_out (by omega)).trans (me_up_s _ _ _)) rfl dX3_next_61 ?_
              refine lv_aload_n hx hb dX3_next_64 rfl (lv_at hl 0 rfl) ?_
              refine fg_X3_9 hC hM ((sp_out (by omega)).trans (me_up_s _ _ _)) rfl dX3_next_65 ?_
              refine me_bald (k := k) hC hM ((sp_out (by omega)).trans ((me_up_n (by omega)).trans e6)) rfl (by omega) (by first | decide | omega) dX3_next_68 ?_
              refine lv_bipush (v := 10) hx hb dX3_next_69 (by decide) ?_
              refine lv_icmp_ne (tgt := 87) hx hb dX3_next_71 (by decide) (fun c_47 => ?_) (fun c_47 => ?_)
              · have hs : sk0 t len ps = k := hq.trans (skP_f (fun z => z.elim c_46 c_47))
                refine lv_aload_n hx hb dX3_next_87 rfl (lv_at hl 0 rfl) ?_
                refine lv_aload_n hx hb dX3_next_88 rfl (lv_at hl 0 rfl) ?_
                refine fg_X3_9 hC hM ((sp_out (by omega)).trans (me_up_s _ _ _)) rfl dX3_next_89 ?_
                refine fp_X3_18 hC hM ((sp_out (by omega)).trans (me_up_s _ _ _)) (Nat.le_of_ble_eq_true rfl) (M2 := sp tb a g (me_up M9 po (.inr (3, [.ref ta, .int (nI len), .ref a, .int (nI k), .int (nI (pTk ps)), .int (nI k), .int (nI (pEk ps)), .int (pEo ps)])))) (sp_upo (by omega)) dX3_next_92 (fun H locs hM => ?_)
                refine lv_aload_n hx hb dX3_next_95 rfl (lv_at hl 0 rfl) ?_
                refine fg_X3_9 hC hM ((sp_out (by omega)).trans (me_up_s _ _ _)) rfl dX3_next_96 ?_
                refine lv_aload_n hx hb dX3_next_99 rfl (lv_at hl 0 rfl) ?_
                refine fg_X3_31 hC hM ((sp_out (by omega)).trans (me_up_s _ _ _)) rfl dX3_next_100 ?_
                refine lv_icmp_lt (tgt := 112) hx hb dX3_next_103 (by decide) (fun c_48 => ?_) (fun c_48 => ?_)
                · have c_48 := (br_lt rfl rfl (by omega) (by omega)).mp c_48
                  have h1 := c_48
                  refine lv_aload_n hx hb dX3_next_112 rfl (lv_at hl 0 rfl) ?_
                  refine fg_X3_27 hC hM ((sp_out (by omega)).trans (me_up_s _ _ _)) rfl dX3_next_113 ?_
                  refine lv_aload_n hx hb dX3_next_116 rfl (lv_at hl 0 rfl) ?_
                  refine fg_X3_9 hC hM ((sp_out (by omega)).trans (me_up_s _ _ _)) rfl dX3_next_117 ?_
                  refine me_bald (k := k) hC hM ((sp_out (by omega)).trans ((me_up_n (by omega)).trans e6)) rfl (by omega) (by first | decide | omega) dX3_next_120 ?_
                  refine lv_bipush (v := 59) hx hb dX3_next_121 (by decide) ?_
                  refine lv_icmp_ne (tgt := 142) hx hb dX3_next_123 (by decide) (fun c_49 => ?_) (fun c_49 => ?_)
                  · have h59 := c_49
                    refine lv_aload_n hx hb dX3_next_142 rfl (lv_at hl 0 rfl) ?_
                    refine fg_X3_27 hC hM ((sp_out (by omega)).trans (me_up_s _ _ _)) rfl dX3_next_143 ?_
                    refine lv_aload_n hx hb dX3_next_146 rfl (lv_at hl 0 rfl) ?_
                    refine fg_X3_9 hC hM ((sp_out (by omega)).trans (me_up_s _ _ _)) rfl dX3_next_147 ?_
                    refine me_bald (k := k) hC hM ((sp_out (by omega)).trans ((me_up_n (by omega)).trans e6)) rfl (by omega) (by first | decide | omega) dX3_next_150 ?_
                    refine me_callSi (As := [.int (t k)]) (rest := []) hC hl.1 hM (c_X3_isLetter l D tb X z0 n _ (t k)) (ks_X3_176 hw rfl rfl ⟨Nat.le_of_ble_eq_true rfl, Nat.le_of_ble_eq_true rfl⟩) rfl rfl (Nat.le_of_ble_eq_true rfl) dX3_next_151 ⟨Nat.le_of_ble_eq_true rfl, Nat.le_of_ble_eq_true rfl⟩ (fun H locs hM => ?_)
                    refine lv_istore_n (lv' := [(3, .int (b1 (ltP (t k)))), (0, .ref po), (1, .int (b1 (pTk ps = 1 ∨ pTk ps = 2))), (2, .int (nI (pAt ps)))]) hx hb dX3_next_154 rfl hl (by decide) rfl (fun ls hl => ?_)
                    have lp_155 : ∀ (r2 : Nat) (j : Nat) (H : Heap) (locs : List Loc) (ls : Array Slot), (j + r2 = len) → (k ≤ j) → (ru0 t len k = ruP t (ltP (t k)) r2 j) → me_at D z0 (sp tb a g (me_up M9 po (.inr (3, [.ref ta, .int (nI len), .ref a, .int (nI j), .int (nI (pTk ps)), .int (nI k), .int (nI (pEk ps)), .int (pEo ps)])))) n s H locs → lv_has ls 5 [(0, .ref po), (1, .int (b1 (pTk ps = 1 ∨ pTk ps = 2))), (2, .int (nI (pAt ps))), (3, .int (b1 (ltP (t k))))] → W p l e (({ frames := 1, cells := 0, slots := 0, locals := 20 } : Room)) s m args below meth c H locs 0 0 (MQ below (me_Qv D z0 (psM tb a po ta len M9 g (nxP t len ps)) n) args s 0 0 (me_A z0)) (F0 m 155 ls []) := by
                      intro r2
                      refine Nat.strongRecOn r2 ?_
                      intro r2 ih_155 j H locs ls hj2 hj0 hr2 hM hl
                      refine lv_aload_n hx hb dX3_next_155 rfl (lv_at hl 0 rfl) ?_
                      refine fg_X3_9 hC hM ((sp_out (by omega)).trans (me_up_s _ _ _)) rfl dX3_next_156 ?_
                      refine lv_aload_n hx hb dX3_next_159 rfl (lv_at hl 0 rfl) ?_
                      refine fg_X3_31 hC hM ((sp_out (by omega)).trans (me_up_s _ _ _)) rfl dX3_next_160 ?_
                      refine lv_icmp_ge (tgt := 216) hx hb dX3_next_163 (by decide) (fun c_50 => ?_) (fun c_50 => ?_)
                      · have c_50 := (br_le rfl rfl (by omega) (by omega)).mp c_50
                        have hj : ru0 t len k = j := by rw [hr2, show r2 = 0 by omega]; rfl
                        refine lv_iload_n hx hb dX3_next_216 rfl (lv_at hl 1 rfl) ?_
                        refine lv_if_eq (tgt := 232) hx hb dX3_next_217 (by decide) (fun c_51 => ?_) (fun c_51 => ?_)
                        · have c_51 := b1_0.mp c_51
                          refine lv_iconst (v := 0) hx hb dX3_next_232 (by decide) ?_
                          refine lv_istore (lv' := [(4, .int 0), (0, .ref po), (1, .int (b1 (pTk ps = 1 ∨ pTk ps = 2))), (2, .int (nI (pAt ps))), (3, .int (b1 (ltP (t k))))]) hx hb dX3_next_233 hl (by decide) rfl (fun ls hl => ?_)
                          refine lv_aload_n hx hb dX3_next_235 rfl (lv_at hl 1 rfl) ?_
                          refine lv_aload_n hx hb dX3_next_236 rfl (lv_at hl 1 rfl) ?_
                          refine fg_X3_9 hC hM ((sp_out (by omega)).trans (me_up_s _ _ _)) rfl dX3_next_237 ?_
                          refine lv_aload_n hx hb dX3_next_240 rfl (lv_at hl 1 rfl) ?_
                          refine fg_X3_18 hC hM ((sp_out (by omega)).trans (me_up_s _ _ _)) rfl dX3_next_241 ?_
                          refine lv_icmp_eq (tgt := 252) hx hb dX3_next_244 (by decide) (fun c_52 => ?_) (fun c_52 => ?_)
                          · have c_52 := (br_eq rfl rfl (by omega) (by omega)).mp c_52
                            refine lv_iconst (v := 0) hx hb dX3_next_252 (by decide) ?_
                            refine lv_goto (tgt := 265) hx hb dX3_next_253 (by decide) ?_
                            refine fp_X3_15 hC hM ((sp_out (by omega)).trans (me_up_s _ _ _)) (Nat.le_of_ble_eq_true rfl) (M2 := sp tb a g (me_up M9 po (.inr (3, [.ref ta, .int (nI len), .ref a, .int (nI j), .int 0, .int (nI k), .int (nI (pEk ps)), .int (pEo ps)])))) (sp_upo (by omega)) dX3_next_265 (fun H locs hM => ?_)
                            exact me_vret hC hr hlk hM (ps_eq (q := (j, 0, k, pEk ps, pEo ps)) (nx_run h0 hs h1 h59 hj (if_pos (Or.inl c_52)))) (rfl) dX3_next_268
                          · have c_52 := (not_congr (br_eq rfl rfl (by omega) (by omega))).mp c_52
                            refine lv_iload hx hb dX3_next_247 (lv_at hl 0 rfl) ?_
                            refine lv_if_eq (tgt := 256) hx hb dX3_next_249 (by decide) (fun c_53 => ?_) (fun c_53 => ?_)
                            · refine lv_iload_n hx hb dX3_next_256 rfl (lv_at hl 4 rfl) ?_
                              refine lv_if_eq (tgt := 264) hx hb dX3_next_257 (by decide) (fun c_54 => ?_) (fun c_54 => ?_)
                              · have c_54 := b1_0.mp c_54
                                refine lv_iconst (v := 2) hx hb dX3_next_264 (by decide) ?_
                                refine fp_X3_15 hC hM ((sp_out (by omega)).trans (me_up_s _ _ _)) (Nat.le_of_ble_eq_true rfl) (M2 := sp tb a g (me_up M9 po (.inr (3, [.ref ta, .int (nI len), .ref a, .int (nI j), .int 2, .int (nI k), .int (nI (pEk ps)), .int (pEo ps)])))) (sp_upo (by omega)) dX3_next_265 (fun H locs hM => ?_)
                                exact me_vret hC hr hlk hM (ps_eq (q := (j, 2, k, pEk ps, pEo ps)) (nx_run h0 hs h1 h59 hj ((if_neg (fun z => z.elim c_52 (fun w => c_51 w.1))).trans (if_neg c_54)))) (rfl) dX3_next_268
                              · have c_54 := b1_n0.mp c_54
                                refine lv_iconst (v := 1) hx hb dX3_next_260 (by decide) ?_
                                refine lv_goto (tgt := 265) hx hb dX3_next_261 (by decide) ?_
                                refine fp_X3_15 hC hM ((sp_out (by omega)).trans (me_up_s _ _ _)) (Nat.le_of_ble_eq_true rfl) (M2 := sp tb a g (me_up M9 po (.inr (3, [.ref ta, .int (nI len), .ref a, .int (nI j), .int 1, .int (nI k), .int (nI (pEk ps)), .int (pEo ps)])))) (sp_upo (by omega)) dX3_next_265 (fun H locs hM => ?_)
                                exact me_vret hC hr hlk hM (ps_eq (q := (j, 1, k, pEk ps, pEo ps)) (nx_run h0 hs h1 h59 hj ((if_neg (fun z => z.elim c_52 (fun w => c_51 w.1))).trans (if_pos c_54)))) (rfl) dX3_next_268
                            · exact absurd c_53 (by decide)
                        · have c_51 := b1_n0.mp c_51
                          refine lv_aload_n hx hb dX3_next_220 rfl (lv_at hl 0 rfl) ?_
                          refine fg_X3_18 hC hM ((sp_out (by omega)).trans (me_up_s _ _ _)) rfl dX3_next_221 ?_
                          refine lv_iload_n hx hb dX3_next_224 rfl (lv_at hl 2 rfl) ?_
                          refine lv_icmp_ne (tgt := 232) hx hb dX3_next_225 (by decide) (fun c_55 => ?_) (fun c_55 => ?_)
                          · have c_55 := (not_congr (br_eq rfl rfl (by omega) (by omega))).mp c_55
                            refine lv_iconst (v := 0) hx hb dX3_next_232 (by decide) ?_
                            refine lv_istore (lv' := [(4, .int 0), (0, .ref po), (1, .int (b1 (pTk ps = 1 ∨ pTk ps = 2))), (2, .int (nI (pAt ps))), (3, .int (b1 (ltP (t k))))]) hx hb dX3_next_233 hl (by decide) rfl (fun ls hl => ?_)
                            refine lv_aload_n hx hb dX3_next_235 rfl (lv_at hl 1 rfl) ?_
                            refine lv_aload_n hx hb dX3_next_236 rfl (lv_at hl 1 rfl) ?_
                            refine fg_X3_9 hC hM ((sp_out (by omega)).trans (me_up_s _ _ _)) rfl dX3_next_237 ?_
                            refine lv_aload_n hx hb dX3_next_240 rfl (lv_at hl 1 rfl) ?_
                            refine fg_X3_18 hC hM ((sp_out (by omega)).trans (me_up_s _ _ _)) rfl dX3_next_241 ?_
                            refine lv_icmp_eq (tgt := 252) hx hb dX3_next_244 (by decide) (fun c_56 => ?_) (fun c_56 => ?_)
                            · have c_56 := (br_eq rfl rfl (by omega) (by omega)).mp c_56
                              refine lv_iconst (v := 0) hx hb dX3_next_252 (by decide) ?_
                              refine lv_goto (tgt := 265) hx hb dX3_next_253 (by decide) ?_
                              refine fp_X3_15 hC hM ((sp_out (by omega)).trans (me_up_s _ _ _)) (Nat.le_of_ble_eq_true rfl) (M2 := sp tb a g (me_up M9 po (.inr (3, [.ref ta, .int (nI len), .ref a, .int (nI j), .int 0, .int (nI k), .int (nI (pEk ps)), .int (pEo ps)])))) (sp_upo (by omega)) dX3_next_265 (fun H locs hM => ?_)
                              exact me_vret hC hr hlk hM (ps_eq (q := (j, 0, k, pEk ps, pEo ps)) (nx_run h0 hs h1 h59 hj (if_pos (Or.inl c_56)))) (rfl) dX3_next_268
                            · have c_56 := (not_congr (br_eq rfl rfl (by omega) (by omega))).mp c_56
                              refine lv_iload hx hb dX3_next_247 (lv_at hl 0 rfl) ?_
                              refine lv_if_eq (tgt := 256) hx hb dX3_next_249 (by decide) (fun c_57 => ?_) (fun c_57 => ?_)
                              · refine lv_iload_n hx hb dX3_next_256 rfl (lv_at hl 4 rfl) ?_
                                refine lv_if_eq (tgt := 264) hx hb dX3_next_257 (by decide) (fun c_58 => ?_) (fun c_58 => ?_)
                                · have c_58 := b1_0.mp c_58
                                  refine lv_iconst (v := 2) hx hb dX3_next_264 (by decide) ?_
                                  refine fp_X3_15 hC hM ((sp_out (by omega)).trans (me_up_s _ _ _)) (Nat.le_of_ble_eq_true rfl) (M2 := sp tb a g (me_up M9 po (.inr (3, [.ref ta, .int (nI len), .ref a, .int (nI j), .int 2, .int (nI k), .int (nI (pEk ps)), .int (pEo ps)])))) (sp_upo (by omega)) dX3_next_265 (fun H locs hM => ?_)
                                  exact me_vret hC hr hlk hM (ps_eq (q := (j, 2, k, pEk ps, pEo ps)) (nx_run h0 hs h1 h59 hj ((if_neg (fun z => z.elim c_56 (fun w => c_55 w.2))).trans (if_neg c_58)))) (rfl) dX3_next_268
                                · have c_58 := b1_n0.mp c_58
                                  refine lv_iconst (v := 1) hx hb dX3_next_260 (by decide) ?_
                                  refine lv_goto (tgt := 265) hx hb dX3_next_261 (by decide) ?_
                                  refine fp_X3_15 hC hM ((sp_out (by omega)).trans (me_up_s _ _ _)) (Nat.le_of_ble_eq_true rfl) (M2 := sp tb a g (me_up M9 po (.inr (3, [.ref ta, .int (nI len), .ref a, .int (nI j), .int 1, .int (nI k), .int (nI (pEk ps)), .int (pEo ps)])))) (sp_upo (by omega)) dX3_next_265 (fun H locs hM => ?_)
                                  exact me_vret hC hr hlk hM (ps_eq (q := (j, 1, k, pEk ps, pEo ps)) (nx_run h0 hs h1 h59 hj ((if_neg (fun z => z.elim c_56 (fun w => c_55 w.2))).trans (if_pos c_58)))) (rfl) dX3_next_268
                              · exact absurd c_57 (by decide)
                          · have c_55 := (br_eq rfl rfl (by omega) (by omega)).mp c_55
                            refine lv_iconst (v := 1) hx hb dX3_next_228 (by decide) ?_
                            refine lv_goto (tgt := 233) hx hb dX3_next_229 (by decide) ?_
                            refine lv_istore (lv' := [(4, .int 1), (0, .ref po), (1, .int (b1 (pTk ps = 1 ∨ pTk ps = 2))), (2, .int (nI (pAt ps))), (3, .int (b1 (ltP (t k))))]) hx hb dX3_next_233 hl (by decide) rfl (fun ls hl => ?_)
                            refine lv_aload_n hx hb dX3_next_235 rfl (lv_at hl 1 rfl) ?_
                            refine lv_aload_n hx hb dX3_next_236 rfl (lv_at hl 1 rfl) ?_
                            refine fg_X3_9 hC hM ((sp_out (by omega)).trans (me_up_s _ _ _)) rfl dX3_next_237 ?_
                            refine lv_aload_n hx hb dX3_next_240 rfl (lv_at hl 1 rfl) ?_
                            refine fg_X3_18 hC hM ((sp_out (by omega)).trans (me_up_s _ _ _)) rfl dX3_next_241 ?_
                            refine lv_icmp_eq (tgt := 252) hx hb dX3_next_244 (by decide) (fun c_59 => ?_) (fun c_59 => ?_)
                            · have c_59 := (br_eq rfl rfl (by omega) (by omega)).mp c_59
                              refine lv_iconst (v := 0) hx hb dX3_next_252 (by decide) ?_
                              refine lv_goto (tgt := 265) hx hb dX3_next_253 (by decide) ?_
                              refine fp_X3_15 hC hM ((sp_out (by omega)).trans (me_up_s _ _ _)) (Nat.le_of_ble_eq_true rfl) (M2 := sp tb a g (me_up M9 po (.inr (3, [.ref ta, .int (nI len), .ref a, .int (nI j), .int 0, .int (nI k), .int (nI (pEk ps)), .int (pEo ps)])))) (sp_upo (by omega)) dX3_next_265 (fun H locs hM => ?_)
                              exact me_vret hC hr hlk hM (ps_eq (q := (j, 0, k, pEk ps, pEo ps)) (nx_run h0 hs h1 h59 hj (if_pos (Or.inl c_59)))) (rfl) dX3_next_268
                            · have c_59 := (not_congr (br_eq rfl rfl (by omega) (by omega))).mp c_59
                              refine lv_iload hx hb dX3_next_247 (lv_at hl 0 rfl) ?_
                              refine lv_if_eq (tgt := 256) hx hb dX3_next_249 (by decide) (fun c_60 => ?_) (fun c_60 => ?_)
                              · exact absurd c_60 (by decide)
                              · refine lv_iconst (v := 0) hx hb dX3_next_252 (by decide) ?_
                                refine lv_goto (tgt := 265) hx hb dX3_next_253 (by decide) ?_
                                refine fp_X3_15 hC hM ((sp_out (by omega)).trans (me_up_s _ _ _)) (Nat.le_of_ble_eq_true rfl) (M2 := sp tb a g (me_up M9 po (.inr (3, [.ref ta, .int (nI len), .ref a, .int (nI j), .int 0, .int (nI k), .int (nI (pEk ps)), .int (pEo ps)])))) (sp_upo (by omega)) dX3_next_265 (fun H locs hM => ?_)
                                exact me_vret hC hr hlk hM (ps_eq (q := (j, 0, k, pEk ps, pEo ps)) (nx_run h0 hs h1 h59 hj (if_pos (Or.inr ⟨c_51, c_55⟩)))) (rfl) dX3_next_268
                      · have c_50 := (not_congr (br_le rfl rfl (by omega) (by omega))).mp c_50
                        obtain ⟨r3, rfl⟩ : ∃ r3, r2 = r3 + 1 := ⟨r2 - 1, by omega⟩
                        refine lv_iload_n hx hb dX3_next_166 rfl (lv_at hl 3 rfl) ?_
                        refine lv_if_eq (tgt := 188) hx hb dX3_next_167 (by decide) (fun c_61 => ?_) (fun c_61 => ?_)
                        · have c_61 := b1_0.mp c_61
                          refine lv_aload_n hx hb dX3_next_188 rfl (lv_at hl 0 rfl) ?_
                          refine fg_X3_27 hC hM ((sp_out (by omega)).trans (me_up_s _ _ _)) rfl dX3_next_189 ?_
                          refine lv_aload_n hx hb dX3_next_192 rfl (lv_at hl 0 rfl) ?_
                          refine fg_X3_9 hC hM ((sp_out (by omega)).trans (me_up_s _ _ _)) rfl dX3_next_193 ?_
                          refine me_bald (k := j) hC hM ((sp_out (by omega)).trans ((me_up_n (by omega)).trans e6)) rfl (by omega) (by first | decide | omega) dX3_next_196 ?_
                          refine me_callSi (As := [.int (t j)]) (rest := []) hC hl.1 hM (c_X3_isDigit l D tb X z0 n _ (t j)) (ks_X3_180 hw rfl rfl ⟨Nat.le_of_ble_eq_true rfl, Nat.le_of_ble_eq_true rfl⟩) rfl rfl (Nat.le_of_ble_eq_true rfl) dX3_next_197 ⟨Nat.le_of_ble_eq_true rfl, Nat.le_of_ble_eq_true rfl⟩ (fun H locs hM => ?_)
                          refine lv_if_eq (tgt := 216) hx hb dX3_next_200 (by decide) (fun c_62 => ?_) (fun c_62 => ?_)
                          · have c_62 := b1_0.mp c_62
                            have hj : ru0 t len k = j := hr2.trans (ruP_f (fun z => c_62 (z.2 c_61)))
                            refine lv_iload_n hx hb dX3_next_216 rfl (lv_at hl 1 rfl) ?_
                            refine lv_if_eq (tgt := 232) hx hb dX3_next_217 (by decide) (fun c_63 => ?_) (fun c_63 => ?_)
                            · have c_63 := b1_0.mp c_63
                              refine lv_iconst (v := 0) hx hb dX3_next_232 (by decide) ?_
                              refine lv_istore (lv' := [(4, .int 0), (0, .ref po), (1, .int (b1 (pTk ps = 1 ∨ pTk ps = 2))), (2, .int (nI (pAt ps))), (3, .int (b1 (ltP (t k))))]) hx hb dX3_next_233 hl (by decide) rfl (fun ls hl => ?_)
                              refine lv_aload_n hx hb dX3_next_235 rfl (lv_at hl 1 rfl) ?_
                              refine lv_aload_n hx hb dX3_next_236 rfl (lv_at hl 1 rfl) ?_
                              refine fg_X3_9 hC hM ((sp_out (by omega)).trans (me_up_s _ _ _)) rfl dX3_next_237 ?_
                              refine lv_aload_n hx hb dX3_next_240 rfl (lv_at hl 1 rfl) ?_
                              refine fg_X3_18 hC hM ((sp_out (by omega)).trans (me_up_s _ _ _)) rfl dX3_next_241 ?_
                              refine lv_icmp_eq (tgt := 252) hx hb dX3_next_244 (by decide) (fun c_64 => ?_) (fun c_64 => ?_)
                              · have c_64 := (br_eq rfl rfl (by omega) (by omega)).mp c_64
                                refine lv_iconst (v := 0) hx hb dX3_next_252 (by decide) ?_
                                refine lv_goto (tgt := 265) hx hb dX3_next_253 (by decide) ?_
                                refine fp_X3_15 hC hM ((sp_out (by omega)).trans (me_up_s _ _ _)) (Nat.le_of_ble_eq_true rfl) (M2 := sp tb a g (me_up M9 po (.inr (3, [.ref ta, .int (nI len), .ref a, .int (nI j), .int 0, .int (nI k), .int (nI (pEk ps)), .int (pEo ps)])))) (sp_upo (by omega)) dX3_next_265 (fun H locs hM => ?_)
                                exact me_vret hC hr hlk hM (ps_eq (q := (j, 0, k, pEk ps, pEo ps)) (nx_run h0 hs h1 h59 hj (if_pos (Or.inl c_64)))) (rfl) dX3_next_268
                              · have c_64 := (not_congr (br_eq rfl rfl (by omega) (by omega))).mp c_64
                                refine lv_iload hx hb dX3_next_247 (lv_at hl 0 rfl) ?_
                                refine lv_if_eq (tgt := 256) hx hb dX3_next_249 (by decide) (fun c_65 => ?_) (fun c_65 => ?_)
                                · refine lv_iload_n hx hb dX3_next_256 rfl (lv_at hl 4 rfl) ?_
                                  refine lv_if_eq (tgt := 264) hx hb dX3_next_257 (by decide) (fun c_66 => ?_) (fun c_66 => ?_)
                                  · have c_66 := b1_0.mp c_66
                                    refine lv_iconst (v := 2) hx hb dX3_next_264 (by decide) ?_
                                    refine fp_X3_15 hC hM ((sp_out (by omega)).trans (me_up_s _ _ _)) (Nat.le_of_ble_eq_true rfl) (M2 := sp tb a g (me_up M9 po (.inr (3, [.ref ta, .int (nI len), .ref a, .int (nI j), .int 2, .int (nI k), .int (nI (pEk ps)), .int (pEo ps)])))) (sp_upo (by omega)) dX3_next_265 (fun H locs hM => ?_)
                                    exact me_vret hC hr hlk hM (ps_eq (q := (j, 2, k, pEk ps, pEo ps)) (nx_run h0 hs h1 h59 hj ((if_neg (fun z => z.elim c_64 (fun w => c_63 w.1))).trans (if_neg c_66)))) (rfl) dX3_next_268
                                  · have c_66 := b1_n0.mp c_66
                                    refine lv_iconst (v := 1) hx hb dX3_next_260 (by decide) ?_
                                    refine lv_goto (tgt := 265) hx hb dX3_next_261 (by decide) ?_
                                    refine fp_X3_15 hC hM ((sp_out (by omega)).trans (me_up_s _ _ _)) (Nat.le_of_ble_eq_true rfl) (M2 := sp tb a g (me_up M9 po (.inr (3, [.ref ta, .int (nI len), .ref a, .int (nI j), .int 1, .int (nI k), .int (nI (pEk ps)), .int (pEo ps)])))) (sp_upo (by omega)) dX3_next_265 (fun H locs hM => ?_)
                                    exact me_vret hC hr hlk hM (ps_eq (q := (j, 1, k, pEk ps, pEo ps)) (nx_run h0 hs h1 h59 hj ((if_neg (fun z => z.elim c_64 (fun w => c_63 w.1))).trans (if_pos c_66)))) (rfl) dX3_next_268
                                · exact absurd c_65 (by decide)
                            · have c_63 := b1_n0.mp c_63
                              refine lv_aload_n hx hb dX3_next_220 rfl (lv_at hl 0 rfl) ?_
                              refine fg_X3_18 hC hM ((sp_out (by omega)).trans (me_up_s _ _ _)) rfl dX3_next_221 ?_
                              refine lv_iload_n hx hb dX3_next_224 rfl (lv_at hl 2 rfl) ?_
                              refine lv_icmp_ne (tgt := 232) hx hb dX3_next_225 (by decide) (fun c_67 => ?_) (fun c_67 => ?_)
                              · have c_67 := (not_congr (br_eq rfl rfl (by omega) (by omega))).mp c_67
                                refine lv_iconst (v := 0) hx hb dX3_next_232 (by decide) ?_
                                refine lv_istore (lv' := [(4, .int 0), (0, .ref po), (1, .int (b1 (pTk ps = 1 ∨ pTk ps = 2))), (2, .int (nI (pAt ps))), (3, .int (b1 (ltP (t k))))]) hx hb dX3_next_233 hl (by decide) rfl (fun ls hl => ?_)
                                refine lv_aload_n hx hb dX3_next_235 rfl (lv_at hl 1 rfl) ?_
                                refine lv_aload_n hx hb dX3_next_236 rfl (lv_at hl 1 rfl) ?_
                                refine fg_X3_9 hC hM ((sp_out (by omega)).trans (me_up_s _ _ _)) rfl dX3_next_237 ?_
                                refine lv_aload_n hx hb dX3_next_240 rfl (lv_at hl 1 rfl) ?_
                                refine fg_X3_18 hC hM ((sp_out (by omega)).trans (me_up_s _ _ _)) rfl dX3_next_241 ?_
                                refine lv_icmp_eq (tgt := 252) hx hb dX3_next_244 (by decide) (fun c_68 => ?_) (fun c_68 => ?_)
                                · have c_68 := (br_eq rfl rfl (by omega) (by omega)).mp c_68
                                  refine lv_iconst (v := 0) hx hb dX3_next_252 (by decide) ?_
                                  refine lv_goto (tgt := 265) hx hb dX3_next_253 (by decide) ?_
                                  refine fp_X3_15 hC hM ((sp_out (by omega)).trans (me_up_s _ _ _)) (Nat.le_of_ble_eq_true rfl) (M2 := sp tb a g (me_up M9 po (.inr (3, [.ref ta, .int (nI len), .ref a, .int (nI j), .int 0, .int (nI k), .int (nI (pEk ps)), .int (pEo ps)])))) (sp_upo (by omega)) dX3_next_265 (fun H locs hM => ?_)
                                  exact me_vret hC hr hlk hM (ps_eq (q := (j, 0, k, pEk ps, pEo ps)) (nx_run h0 hs h1 h59 hj (if_pos (Or.inl c_68)))) (rfl) dX3_next_268
                                · have c_68 := (not_congr (br_eq rfl rfl (by omega) (by omega))).mp c_68
                                  refine lv_iload hx hb dX3_next_247 (lv_at hl 0 rfl) ?_
                                  refine lv_if_eq (tgt := 256) hx hb dX3_next_249 (by decide) (fun c_69 => ?_) (fun c_69 => ?_)
                                  · refine lv_iload_n hx hb dX3_next_256 rfl (lv_at hl 4 rfl) ?_
                                    refine lv_if_eq (tgt := 264) hx hb dX3_next_257 (by decide) (fun c_70 => ?_) (fun c_70 => ?_)
                                    · have c_70 := b1_0.mp c_70
                                      refine lv_iconst (v := 2) hx hb dX3_next_264 (by decide) ?_
                                      refine fp_X3_15 hC hM ((sp_out (by omega)).trans (me_up_s _ _ _)) (Nat.le_of_ble_eq_true rfl) (M2 := sp tb a g (me_up M9 po (.inr (3, [.ref ta, .int (nI len), .ref a, .int (nI j), .int 2, .int (nI k), .int (nI (pEk ps)), .int (pEo ps)])))) (sp_upo (by omega)) dX3_next_265 (fun H locs hM => ?_)
                                      exact me_vret hC hr hlk hM (ps_eq (q := (j, 2, k, pEk ps, pEo ps)) (nx_run h0 hs h1 h59 hj ((if_neg (fun z => z.elim c_68 (fun w => c_67 w.2))).trans (if_neg c_70)))) (rfl) dX3_next_268
                                    · have c_70 := b1_n0.mp c_70
                                      refine lv_iconst (v := 1) hx hb dX3_next_260 (by decide) ?_
                                      refine lv_goto (tgt := 265) hx hb dX3_next_261 (by decide) ?_
                                      refine fp_X3_15 hC hM ((sp_out (by omega)).trans (me_up_s _ _ _)) (Nat.le_of_ble_eq_true rfl) (M2 := sp tb a g (me_up M9 po (.inr (3, [.ref ta, .int (nI len), .ref a, .int (nI j), .int 1, .int (nI k), .int (nI (pEk ps)), .int (pEo ps)])))) (sp_upo (by omega)) dX3_next_265 (fun H locs hM => ?_)
                                      exact me_vret hC hr hlk hM (ps_eq (q := (j, 1, k, pEk ps, pEo ps)) (nx_run h0 hs h1 h59 hj ((if_neg (fun z => z.elim c_68 (fun w => c_67 w.2))).trans (if_pos c_70)))) (rfl) dX3_next_268
                                  · exact absurd c_69 (by decide)
                              · have c_67 := (br_eq rfl rfl (by omega) (by omega)).mp c_67
                                refine lv_iconst (v := 1) hx hb dX3_next_228 (by decide) ?_
                                refine lv_goto (tgt := 233) hx hb dX3_next_229 (by decide) ?_
                                refine lv_istore (lv' := [(4, .int 1), (0, .ref po), (1, .int (b1 (pTk ps = 1 ∨ pTk ps = 2))), (2, .int (nI (pAt ps))), (3, .int (b1 (ltP (t k))))]) hx hb dX3_next_233 hl (by decide) rfl (fun ls hl => ?_)
                                refine lv_aload_n hx hb dX3_next_235 rfl (lv_at hl 1 rfl) ?_
                                refine lv_aload_n hx hb dX3_next_236 rfl (lv_at hl 1 rfl) ?_
                                refine fg_X3_9 hC hM ((sp_out (by omega)).trans (me_up_s _ _ _)) rfl dX3_next_237 ?_
                                refine lv_aload_n hx hb dX3_next_240 rfl (lv_at hl 1 rfl) ?_
                                refine fg_X3_18 hC hM ((sp_out (by omega)).trans (me_up_s _ _ _)) rfl dX3_next_241 ?_
                                refine lv_icmp_eq (tgt := 252) hx hb dX3_next_244 (by decide) (fun c_71 => ?_) (fun c_71 => ?_)
                                · have c_71 := (br_eq rfl rfl (by omega) (by omega)).mp c_71
                                  refine lv_iconst (v := 0) hx hb dX3_next_252 (by decide) ?_
                                  refine lv_goto (tgt := 265) hx hb dX3_next_253 (by decide) ?_
                                  refine fp_X3_15 hC hM ((sp_out (by omega)).trans (me_up_s _ _ _)) (Nat.le_of_ble_eq_true rfl) (M2 := sp tb a g (me_up M9 po (.inr (3, [.ref ta, .int (nI len), .ref a, .int (nI j), .int 0, .int (nI k), .int (nI (pEk ps)), .int (pEo ps)])))) (sp_upo (by omega)) dX3_next_265 (fun H locs hM => ?_)
                                  exact me_vret hC hr hlk hM (ps_eq (q := (j, 0, k, pEk ps, pEo ps)) (nx_run h0 hs h1 h59 hj (if_pos (Or.inl c_71)))) (rfl) dX3_next_268
                                · have c_71 := (not_congr (br_eq rfl rfl (by omega) (by omega))).mp c_71
                                  refine lv_iload hx hb dX3_next_247 (lv_at hl 0 rfl) ?_
                                  refine lv_if_eq (tgt := 256) hx hb dX3_next_249 (by decide) (fun c_72 => ?_) (fun c_72 => ?_)
                                  · exact absurd c_72 (by decide)
                                  · refine lv_iconst (v := 0) hx hb dX3_next_252 (by decide) ?_
                                    refine lv_goto (tgt := 265) hx hb dX3_next_253 (by decide) ?_
                                    refine fp_X3_15 hC hM ((sp_out (by omega)).trans (me_up_s _ _ _)) (Nat.le_of_ble_eq_true rfl) (M2 := sp tb a g (me_up M9 po (.inr (3, [.ref ta, .int (nI len), .ref a, .int (nI j), .int 0, .int (nI k), .int (nI (pEk ps)), .int (pEo ps)])))) (sp_upo (by omega)) dX3_next_265 (fun H locs hM => ?_)
                                    exact me_vret hC hr hlk hM (ps_eq (q := (j, 0, k, pEk ps, pEo ps)) (nx_run h0 hs h1 h59 hj (if_pos (Or.inr ⟨c_63, c_67⟩)))) (rfl) dX3_next_268
                          · have c_62 := b1_n0.mp c_62
                            refine lv_aload_n hx hb dX3_next_203 rfl (lv_at hl 0 rfl) ?_
                            refine lv_dup hx hb dX3_next_204 rfl ?_
                            refine fg_X3_9 hC hM ((sp_out (by omega)).trans (me_up_s _ _ _)) rfl dX3_next_205 ?_
                            refine lv_iconst (v := 1) hx hb dX3_next_208 (by decide) ?_
                            refine lv_iadd hx hb dX3_next_209 ?_
                            refine me_evi (y := nI (j + 1)) (nx_add rfl (show (1 : Int32) = nI 1 from rfl)) ?_
                            refine fp_X3_9 hC hM ((sp_out (by omega)).trans (me_up_s _ _ _)) (Nat.le_of_ble_eq_true rfl) (M2 := sp tb a g (me_up M9 po (.inr (3, [.ref ta, .int (nI len), .ref a, .int (nI (j + 1)), .int (nI (pTk ps)), .int (nI k), .int (nI (pEk ps)), .int (pEo ps)])))) (sp_upo (by omega)) dX3_next_210 (fun H locs hM => ?_)
                            refine lv_goto (tgt := 155) hx hb dX3_next_213 (by decide) ?_
                            exact ih_155 r3 (by omega) (j + 1) _ _ _ (by omega) (by omega) (hr2.trans (ruP_t ⟨fun z => absurd z c_61, fun _ => c_62⟩)) hM (lv_sub hl [0, 1, 2, 3] rfl)
                        · have c_61 := b1_n0.mp c_61
                          refine lv_aload_n hx hb dX3_next_170 rfl (lv_at hl 0 rfl) ?_
                          refine fg_X3_27 hC hM ((sp_out (by omega)).trans (me_up_s _ _ _)) rfl dX3_next_171 ?_
                          refine lv_aload_n hx hb dX3_next_174 rfl (lv_at hl 0 rfl) ?_
                          refine fg_X3_9 hC hM ((sp_out (by omega)).trans (me_up_s _ _ _)) rfl dX3_next_175 ?_
                          refine me_bald (k := j) hC hM ((sp_out (by omega)).trans ((me_up_n (by omega)).trans e6)) rfl (by omega) (by first | decide | omega) dX3_next_178 ?_
                          refine me_callSi (As := [.int (t j)]) (rest := []) hC hl.1 hM (c_X3_isLetter l D tb X z0 n _ (t j)) (ks_X3_176 hw rfl rfl ⟨Nat.le_of_ble_eq_true rfl, Nat.le_of_ble_eq_true rfl⟩) rfl rfl (Nat.le_of_ble_eq_true rfl) dX3_next_179 ⟨Nat.le_of_ble_eq_true rfl, Nat.le_of_ble_eq_true rfl⟩ (fun H locs hM => ?_)
                          refine lv_if_eq (tgt := 216) hx hb dX3_next_182 (by decide) (fun c_73 => ?_) (fun c_73 => ?_)
                          · have c_73 := b1_0.mp c_73
                            have hj : ru0 t len k = j := hr2.trans (ruP_f (fun z => c_73 (z.1 c_61)))
                            refine lv_iload_n hx hb dX3_next_216 rfl (lv_at hl 1 rfl) ?_
                            refine lv_if_eq (tgt := 232) hx hb dX3_next_217 (by decide) (fun c_74 => ?_) (fun c_74 => ?_)
                            · have c_74 := b1_0.mp c_74
                              refine lv_iconst (v := 0) hx hb dX3_next_232 (by decide) ?_
                              refine lv_istore (lv' := [(4, .int 0), (0, .ref po), (1, .int (b1 (pTk ps = 1 ∨ pTk ps = 2))), (2, .int (nI (pAt ps))), (3, .int (b1 (ltP (t k))))]) hx hb dX3_next_233 hl (by decide) rfl (fun ls hl => ?_)
                              refine lv_aload_n hx hb dX3_next_235 rfl (lv_at hl 1 rfl) ?_
                              refine lv_aload_n hx hb dX3_next_236 rfl (lv_at hl 1 rfl) ?_
                              refine fg_X3_9 hC hM ((sp_out (by omega)).trans (me_up_s _ _ _)) rfl dX3_next_237 ?_
                              refine lv_aload_n hx hb dX3_next_240 rfl (lv_at hl 1 rfl) ?_
                              refine fg_X3_18 hC hM ((sp_out (by omega)).trans (me_up_s _ _ _)) rfl dX3_next_241 ?_
                              refine lv_icmp_eq (tgt := 252) hx hb dX3_next_244 (by decide) (fun c_75 => ?_) (fun c_75 => ?_)
                              · have c_75 := (br_eq rfl rfl (by omega) (by omega)).mp c_75
                                refine lv_iconst (v := 0) hx hb dX3_next_252 (by decide) ?_
                                refine lv_goto (tgt := 265) hx hb dX3_next_253 (by decide) ?_
                                refine fp_X3_15 hC hM ((sp_out (by omega)).trans (me_up_s _ _ _)) (Nat.le_of_ble_eq_true rfl) (M2 := sp tb a g (me_up M9 po (.inr (3, [.ref ta, .int (nI len), .ref a, .int (nI j), .int 0, .int (nI k), .int (nI (pEk ps)), .int (pEo ps)])))) (sp_upo (by omega)) dX3_next_265 (fun H locs hM => ?_)
                                exact me_vret hC hr hlk hM (ps_eq (q := (j, 0, k, pEk ps, pEo ps)) (nx_run h0 hs h1 h59 hj (if_pos (Or.inl c_75)))) (rfl) dX3_next_268
                              · have c_75 := (not_congr (br_eq rfl rfl (by omega) (by omega))).mp c_75
                                refine lv_iload hx hb dX3_next_247 (lv_at hl 0 rfl) ?_
                                refine lv_if_eq (tgt := 256) hx hb dX3_next_249 (by decide) (fun c_76 => ?_) (fun c_76 => ?_)
                                · refine lv_iload_n hx hb dX3_next_256 rfl (lv_at hl 4 rfl) ?_
                                  refine lv_if_eq (tgt := 264) hx hb dX3_next_257 (by decide) (fun c_77 => ?_) (fun c_77 => ?_)
                                  · have c_77 := b1_0.mp c_77
                                    refine lv_iconst (v := 2) hx hb dX3_next_264 (by decide) ?_
                                    refine fp_X3_15 hC hM ((sp_out (by omega)).trans (me_up_s _ _ _)) (Nat.le_of_ble_eq_true rfl) (M2 := sp tb a g (me_up M9 po (.inr (3, [.ref ta, .int (nI len), .ref a, .int (nI j), .int 2, .int (nI k), .int (nI (pEk ps)), .int (pEo ps)])))) (sp_upo (by omega)) dX3_next_265 (fun H locs hM => ?_)
                                    exact me_vret hC hr hlk hM (ps_eq (q := (j, 2, k, pEk ps, pEo ps)) (nx_run h0 hs h1 h59 hj ((if_neg (fun z => z.elim c_75 (fun w => c_74 w.1))).trans (if_neg c_77)))) (rfl) dX3_next_268
                                  · have c_77 := b1_n0.mp c_77
                                    refine lv_iconst (v := 1) hx hb dX3_next_260 (by decide) ?_
                                    refine lv_goto (tgt := 265) hx hb dX3_next_261 (by decide) ?_
                                    refine fp_X3_15 hC hM ((sp_out (by omega)).trans (me_up_s _ _ _)) (Nat.le_of_ble_eq_true rfl) (M2 := sp tb a g (me_up M9 po (.inr (3, [.ref ta, .int (nI len), .ref a, .int (nI j), .int 1, .int (nI k), .int (nI (pEk ps)), .int (pEo ps)])))) (sp_upo (by omega)) dX3_next_265 (fun H locs hM => ?_)
                                    exact me_vret hC hr hlk hM (ps_eq (q := (j, 1, k, pEk ps, pEo ps)) (nx_run h0 hs h1 h59 hj ((if_neg (fun z => z.elim c_75 (fun w => c_74 w.1))).trans (if_pos c_77)))) (rfl) dX3_next_268
                                · exact absurd c_76 (by decide)
                            · have c_74 := b1_n0.mp c_74
                              refine lv_aload_n hx hb dX3_next_220 rfl (lv_at hl 0 rfl) ?_
                              refine fg_X3_18 hC hM ((sp_out (by omega)).trans (me_up_s _ _ _)) rfl dX3_next_221 ?_
                              refine lv_iload_n hx hb dX3_next_224 rfl (lv_at hl 2 rfl) ?_
                              refine lv_icmp_ne (tgt := 232) hx hb dX3_next_225 (by decide) (fun c_78 => ?_) (fun c_78 => ?_)
                              · have c_78 := (not_congr (br_eq rfl rfl (by omega) (by omega))).mp c_78
                                refine lv_iconst (v := 0) hx hb dX3_next_232 (by decide) ?_
                                refine lv_istore (lv' := [(4, .int 0), (0, .ref po), (1, .int (b1 (pTk ps = 1 ∨ pTk ps = 2))), (2, .int (nI (pAt ps))), (3, .int (b1 (ltP (t k))))]) hx hb dX3_next_233 hl (by decide) rfl (fun ls hl => ?_)
                                refine lv_aload_n hx hb dX3_next_235 rfl (lv_at hl 1 rfl) ?_
                                refine lv_aload_n hx hb dX3_next_236 rfl (lv_at hl 1 rfl) ?_
                                refine fg_X3_9 hC hM ((sp_out (by omega)).trans (me_up_s _ _ _)) rfl dX3_next_237 ?_
                                refine lv_aload_n hx hb dX3_next_240 rfl (lv_at hl 1 rfl) ?_
                                refine fg_X3_18 hC hM ((sp_out (by omega)).trans (me_up_s _ _ _)) rfl dX3_next_241 ?_
                                refine lv_icmp_eq (tgt := 252) hx hb dX3_next_244 (by decide) (fun c_79 => ?_) (fun c_79 => ?_)
                                · have c_79 := (br_eq rfl rfl (by omega) (by omega)).mp c_79
                                  refine lv_iconst (v := 0) hx hb dX3_next_252 (by decide) ?_
                                  refine lv_goto (tgt := 265) hx hb dX3_next_253 (by decide) ?_
                                  refine fp_X3_15 hC hM ((sp_out (by omega)).trans (me_up_s _ _ _)) (Nat.le_of_ble_eq_true rfl) (M2 := sp tb a g (me_up M9 po (.inr (3, [.ref ta, .int (nI len), .ref a, .int (nI j), .int 0, .int (nI k), .int (nI (pEk ps)), .int (pEo ps)])))) (sp_upo (by omega)) dX3_next_265 (fun H locs hM => ?_)
                                  exact me_vret hC hr hlk hM (ps_eq (q := (j, 0, k, pEk ps, pEo ps)) (nx_run h0 hs h1 h59 hj (if_pos (Or.inl c_79)))) (rfl) dX3_next_268
                                · have c_79 := (not_congr (br_eq rfl rfl (by omega) (by omega))).mp c_79
                                  refine lv_iload hx hb dX3_next_247 (lv_at hl 0 rfl) ?_
                                  refine lv_if_eq (tgt := 256) hx hb dX3_next_249 (by decide) (fun c_80 => ?_) (fun c_80 => ?_)
                                  · refine lv_iload_n hx hb dX3_next_256 rfl (lv_at hl 4 rfl) ?_
                                    refine lv_if_eq (tgt := 264) hx hb dX3_next_257 (by decide) (fun c_81 => ?_) (fun c_81 => ?_)
                                    · have c_81 := b1_0.mp c_81
                                      refine lv_iconst (v := 2) hx hb dX3_next_264 (by decide) ?_
                                      refine fp_X3_15 hC hM ((sp_out (by omega)).trans (me_up_s _ _ _)) (Nat.le_of_ble_eq_true rfl) (M2 := sp tb a g (me_up M9 po (.inr (3, [.ref ta, .int (nI len), .ref a, .int (nI j), .int 2, .int (nI k), .int (nI (pEk ps)), .int (pEo ps)])))) (sp_upo (by omega)) dX3_next_265 (fun H locs hM => ?_)
                                      exact me_vret hC hr hlk hM (ps_eq (q := (j, 2, k, pEk ps, pEo ps)) (nx_run h0 hs h1 h59 hj ((if_neg (fun z => z.elim c_79 (fun w => c_78 w.2))).trans (if_neg c_81)))) (rfl) dX3_next_268
                                    · have c_81 := b1_n0.mp c_81
                                      refine lv_iconst (v := 1) hx hb dX3_next_260 (by decide) ?_
                                      refine lv_goto (tgt := 265) hx hb dX3_next_261 (by decide) ?_
                                      refine fp_X3_15 hC hM ((sp_out (by omega)).trans (me_up_s _ _ _)) (Nat.le_of_ble_eq_true rfl) (M2 := sp tb a g (me_up M9 po (.inr (3, [.ref ta, .int (nI len), .ref a, .int (nI j), .int 1, .int (nI k), .int (nI (pEk ps)), .int (pEo ps)])))) (sp_upo (by omega)) dX3_next_265 (fun H locs hM => ?_)
                                      exact me_vret hC hr hlk hM (ps_eq (q := (j, 1, k, pEk ps, pEo ps)) (nx_run h0 hs h1 h59 hj ((if_neg (fun z => z.elim c_79 (fun w => c_78 w.2))).trans (if_pos c_81)))) (rfl) dX3_next_268
                                  · exact absurd c_80 (by decide)
                              · have c_78 := (br_eq rfl rfl (by omega) (by omega)).mp c_78
                                refine lv_iconst (v := 1) hx hb dX3_next_228 (by decide) ?_
                                refine lv_goto (tgt := 233) hx hb dX3_next_229 (by decide) ?_
                                refine lv_istore (lv' := [(4, .int 1), (0, .ref po), (1, .int (b1 (pTk ps = 1 ∨ pTk ps = 2))), (2, .int (nI (pAt ps))), (3, .int (b1 (ltP (t k))))]) hx hb dX3_next_233 hl (by decide) rfl (fun ls hl => ?_)
                                refine lv_aload_n hx hb dX3_next_235 rfl (lv_at hl 1 rfl) ?_
                                refine lv_aload_n hx hb dX3_next_236 rfl (lv_at hl 1 rfl) ?_
                                refine fg_X3_9 hC hM ((sp_out (by omega)).trans (me_up_s _ _ _)) rfl dX3_next_237 ?_
                                refine lv_aload_n hx hb dX3_next_240 rfl (lv_at hl 1 rfl) ?_
                                refine fg_X3_18 hC hM ((sp_out (by omega)).trans (me_up_s _ _ _)) rfl dX3_next_241 ?_
                                refine lv_icmp_eq (tgt := 252) hx hb dX3_next_244 (by decide) (fun c_82 => ?_) (fun c_82 => ?_)
                                · have c_82 := (br_eq rfl rfl (by omega) (by omega)).mp c_82
                                  refine lv_iconst (v := 0) hx hb dX3_next_252 (by decide) ?_
                                  refine lv_goto (tgt := 265) hx hb dX3_next_253 (by decide) ?_
                                  refine fp_X3_15 hC hM ((sp_out (by omega)).trans (me_up_s _ _ _)) (Nat.le_of_ble_eq_true rfl) (M2 := sp tb a g (me_up M9 po (.inr (3, [.ref ta, .int (nI len), .ref a, .int (nI j), .int 0, .int (nI k), .int (nI (pEk ps)), .int (pEo ps)])))) (sp_upo (by omega)) dX3_next_265 (fun H locs hM => ?_)
                                  exact me_vret hC hr hlk hM (ps_eq (q := (j, 0, k, pEk ps, pEo ps)) (nx_run h0 hs h1 h59 hj (if_pos (Or.inl c_82)))) (rfl) dX3_next_268
                                · have c_82 := (not_congr (br_eq rfl rfl (by omega) (by omega))).mp c_82
                                  refine lv_iload hx hb dX3_next_247 (lv_at hl 0 rfl) ?_
                                  refine lv_if_eq (tgt := 256) hx hb dX3_next_249 (by decide) (fun c_83 => ?_) (fun c_83 => ?_)
                                  · exact absurd c_83 (by decide)
                                  · refine lv_iconst (v := 0) hx hb dX3_next_252 (by decide) ?_
                                    refine lv_goto (tgt := 265) hx hb dX3_next_253 (by decide) ?_
                                    refine fp_X3_15 hC hM ((sp_out (by omega)).trans (me_up_s _ _ _)) (Nat.le_of_ble_eq_true rfl) (M2 := sp tb a g (me_up M9 po (.inr (3, [.ref ta, .int (nI len), .ref a, .int (nI j), .int 0, .int (nI k), .int (nI (pEk ps)), .int (pEo ps)])))) (sp_upo (by omega)) dX3_next_265 (fun H locs hM => ?_)
                                    exact me_vret hC hr hlk hM (ps_eq (q := (j, 0, k, pEk ps, pEo ps)) (nx_run h0 hs h1 h59 hj (if_pos (Or.inr ⟨c_74, c_78⟩)))) (rfl) dX3_next_268
                          · have c_73 := b1_n0.mp c_73
                            refine lv_goto (tgt := 203) hx hb dX3_next_185 (by decide) ?_
                            refine lv_aload_n hx hb dX3_next_203 rfl (lv_at hl 0 rfl) ?_
                            refine lv_dup hx hb dX3_next_204 rfl ?_
                            refine fg_X3_9 hC hM ((sp_out (by omega)).trans (me_up_s _ _ _)) rfl dX3_next_205 ?_
                            refine lv_iconst (v := 1) hx hb dX3_next_208 (by decide) ?_
                            refine lv_iadd hx hb dX3_next_209 ?_
                            refine me_evi (y := nI (j + 1)) (nx_add rfl (show (1 : Int32) = nI 1 from rfl)) ?_
                            refine fp_X3_9 hC hM ((sp_out (by omega)).trans (me_up_s _ _ _)) (Nat.le_of_ble_eq_true rfl) (M2 := sp tb a g (me_up M9 po (.inr (3, [.ref ta, .int (nI len), .ref a, .int (nI (j + 1)), .int (nI (pTk ps)), .int (nI k), .int (nI (pEk ps)), .int (pEo ps)])))) (sp_upo (by omega)) dX3_next_210 (fun H locs hM => ?_)
                            refine lv_goto (tgt := 155) hx hb dX3_next_213 (by decide) ?_
                            exact ih_155 r3 (by omega) (j + 1) _ _ _ (by omega) (by omega) (hr2.trans (ruP_t ⟨fun _ => c_73, fun z => absurd c_61 z⟩)) hM (lv_sub hl [0, 1, 2, 3] rfl)
                    exact lp_155 (len - k) k _ _ _ (by omega) (Nat.le_refl _) rfl hM (lv_sub hl [1, 2, 3, 0] rfl)
                  · refine lv_aload_n hx hb dX3_next_126 rfl (lv_at hl 0 rfl) ?_
                    refine lv_dup hx hb dX3_next_127 rfl ?_
                    refine fg_X3_9 hC hM ((sp_out (by omega)).trans (me_up_s _ _ _)) rfl dX3_next_128 ?_
                    refine lv_iconst (v := 1) hx hb dX3_next_131 (by decide) ?_
                    refine lv_iadd hx hb dX3_next_132 ?_
                    refine me_evi (y := nI (k + 1)) (nx_add rfl (show (1 : Int32) = nI 1 from rfl)) ?_
                    refine fp_X3_9 hC hM ((sp_out (by omega)).trans (me_up_s _ _ _)) (Nat.le_of_ble_eq_true rfl) (M2 := sp tb a g (me_up M9 po (.inr (3, [.ref ta, .int (nI len), .ref a, .int (nI (k + 1)), .int (nI (pTk ps)), .int (nI k), .int (nI (pEk ps)), .int (pEo ps)])))) (sp_upo (by omega)) dX3_next_133 (fun H locs hM => ?_)
                    refine lv_aload_n hx hb dX3_next_136 rfl (lv_at hl 0 rfl) ?_
                    refine lv_iconst (v := 3) hx hb dX3_next_137 (by decide) ?_
                    refine fp_X3_15 hC hM ((sp_out (by omega)).trans (me_up_s _ _ _)) (Nat.le_of_ble_eq_true rfl) (M2 := sp tb a g (me_up M9 po (.inr (3, [.ref ta, .int (nI len), .ref a, .int (nI (k + 1)), .int 3, .int (nI k), .int (nI (pEk ps)), .int (pEo ps)])))) (sp_upo (by omega)) dX3_next_138 (fun H locs hM => ?_)
                    exact me_vret hC hr hlk hM (ps_eq (q := (k + 1, 3, k, pEk ps, pEo ps)) (nx_semi h0 hs (by omega) c_49)) (rfl) dX3_next_141
                · have c_48 := (not_congr (br_lt rfl rfl (by omega) (by omega))).mp c_48
                  refine lv_aload_n hx hb dX3_next_106 rfl (lv_at hl 0 rfl) ?_
                  refine lv_iconst (v := 4) hx hb dX3_next_107 (by decide) ?_
                  refine fp_X3_15 hC hM ((sp_out (by omega)).trans (me_up_s _ _ _)) (Nat.le_of_ble_eq_true rfl) (M2 := sp tb a g (me_up M9 po (.inr (3, [.ref ta, .int (nI len), .ref a, .int (nI k), .int 4, .int (nI k), .int (nI (pEk ps)), .int (pEo ps)])))) (sp_upo (by omega)) dX3_next_108 (fun H locs hM => ?_)
                  exact me_vret hC hr hlk hM (ps_eq (q := (k, 4, k, pEk ps, pEo ps)) (nx_end h0 hs (by omega))) (rfl) dX3_next_111
              · refine lv_aload_n hx hb dX3_next_74 rfl (lv_at hl 0 rfl) ?_
                refine lv_dup hx hb dX3_next_75 rfl ?_
                refine fg_X3_9 hC hM ((sp_out (by omega)).trans (me_up_s _ _ _)) rfl dX3_next_76 ?_
                refine lv_iconst (v := 1) hx hb dX3_next_79 (by decide) ?_
                refine lv_iadd hx hb dX3_next_80 ?_
                refine me_evi (y := nI (k + 1)) (nx_add rfl (show (1 : Int32) = nI 1 from rfl)) ?_
                refine fp_X3_9 hC hM ((sp_out (by omega)).trans (me_up_s _ _ _)) (Nat.le_of_ble_eq_true rfl) (M2 := sp tb a g (me_up M9 po (.inr (3, [.ref ta, .int (nI len), .ref a, .int (nI (k + 1)), .int (nI (pTk ps)), .int (nI (pTs ps)), .int (nI (pEk ps)), .int (pEo ps)])))) (sp_upo (by omega)) dX3_next_81 (fun H locs hM => ?_)
                refine lv_goto (tgt := 35) hx hb dX3_next_84 (by decide) ?_
                exact ih_35 r1 (by omega) (k + 1) _ _ _ (by omega) (by omega) (hq.trans (skP_t (Or.inr c_47))) hM (lv_sub hl [0, 1, 2] rfl)
        exact lp_35 (len - pAt ps) (pAt ps) _ _ _ (by omega) (Nat.le_refl _) rfl hM (lv_sub hl [2, 1, 0] rfl)
      · have c_43 := (br_eq rfl (nx_c 2) (by omega) (by omega)).mp c_43
        refine lv_iconst (v := 1) hx hb dX3_next_24 (by decide) ?_
        refine lv_goto (tgt := 29) hx hb dX3_next_25 (by decide) ?_
        refine me_evi (y := b1 (pTk ps = 1 ∨ pTk ps = 2)) (b1_t (Or.inr c_43)) ?_
        refine lv_istore_n (lv' := [(1, .int (b1 (pTk ps = 1 ∨ pTk ps = 2))), (0, .ref po)]) hx hb dX3_next_29 rfl hl (by decide) rfl (fun ls hl => ?_)
        refine lv_aload_n hx hb dX3_next_30 rfl (lv_at hl 1 rfl) ?_
        refine fg_X3_9 hC hM ((sp_out (by omega)).trans (me_up_s _ _ _)) rfl dX3_next_31 ?_
        refine lv_istore_n (lv' := [(2, .int (nI (pAt ps))), (1, .int (b1 (pTk ps = 1 ∨ pTk ps = 2))), (0, .ref po)]) hx hb dX3_next_34 rfl hl (by decide) rfl (fun ls hl => ?_)
        have lp_35 : ∀ (r : Nat) (k : Nat) (H : Heap) (locs : List Loc) (ls : Array Slot), (k + r = len) → (pAt ps ≤ k) → (sk0 t len ps = skP t r k) → me_at D z0 (sp tb a g (me_up M9 po (.inr (3, [.ref ta, .int (nI len), .ref a, .int (nI k), .int (nI (pTk ps)), .int (nI (pTs ps)), .int (nI (pEk ps)), .int (pEo ps)])))) n s H locs → lv_has ls 5 [(0, .ref po), (1, .int (b1 (pTk ps = 1 ∨ pTk ps = 2))), (2, .int (nI (pAt ps)))] → W p l e (({ frames := 1, cells := 0, slots := 0, locals := 20 } : Room)) s m args below meth c H locs 0 0 (MQ below (me_Qv D z0 (psM tb a po ta len M9 g (nxP t len ps)) n) args s 0 0 (me_A z0)) (F0 m 35 ls []) := by
          intro r
          refine Nat.strongRecOn r ?_
          intro r ih_35 k H locs ls hk hk0 hq hM hl
          refine lv_aload_n hx hb dX3_next_35 rfl (lv_at hl 0 rfl) ?_
          refine fg_X3_9 hC hM ((sp_out (by omega)).trans (me_up_s _ _ _)) rfl dX3_next_36 ?_
          refine lv_aload_n hx hb dX3_next_39 rfl (lv_at hl 0 rfl) ?_
          refine fg_X3_31 hC hM ((sp_out (by omega)).trans (me_up_s _ _ _)) rfl dX3_next_40 ?_
          refine lv_icmp_ge (tgt := 87) hx hb dX3_next_43 (by decide) (fun c_84 => ?_) (fun c_84 => ?_)
          · have c_84 := (br_le rfl rfl (by omega) (by omega)).mp c_84
            have hs : sk0 t len ps = k := by rw [hq, show r = 0 by omega]; rfl
            refine lv_aload_n hx hb dX3_next_87 rfl (lv_at hl 0 rfl) ?_
            refine lv_aload_n hx hb dX3_next_88 rfl (lv_at hl 0 rfl) ?_
            refine fg_X3_9 hC hM ((sp_out (by omega)).trans (me_up_s _ _ _)) rfl dX3_next_89 ?_
            refine fp_X3_18 hC hM ((sp_out (by omega)).trans (me_up_s _ _ _)) (Nat.le_of_ble_eq_true rfl) (M2 := sp tb a g (me_up M9 po (.inr (3, [.ref ta, .int (nI len), .ref a, .int (nI k), .int (nI (pTk ps)), .int (nI k), .int (nI (pEk ps)), .int (pEo ps)])))) (sp_upo (by omega)) dX3_next_92 (fun H locs hM => ?_)
            refine lv_aload_n hx hb dX3_next_95 rfl (lv_at hl 0 rfl) ?_
            refine fg_X3_9 hC hM ((sp_out (by omega)).trans (me_up_s _ _ _)) rfl dX3_next_96 ?_
            refine lv_aload_n hx hb dX3_next_99 rfl (lv_at hl 0 rfl) ?_
            refine fg_X3_31 hC hM ((sp_out (by omega)).trans (me_up_s _ _ _)) rfl dX3_next_100 ?_
            refine lv_icmp_lt (tgt := 112) hx hb dX3_next_103 (by decide) (fun c_85 => ?_) (fun c_85 => ?_)
            · have c_85 := (br_lt rfl rfl (by omega) (by omega)).mp c_85
              exfalso; omega
            · have c_85 := (not_congr (br_lt rfl rfl (by omega) (by omega))).mp c_85
              refine lv_aload_n hx hb dX3_next_106 rfl (lv_at hl 0 rfl) ?_
              refine lv_iconst (v := 4) hx hb dX3_next_107 (by decide) ?_
              refine fp_X3_15 hC hM ((sp_out (by omega)).trans (me_up_s _ _ _)) (Nat.le_of_ble_eq_true rfl) (M2 := sp tb a g (me_up M9 po (.inr (3, [.ref ta, .int (nI len), .ref a, .int (nI k), .int 4, .int (nI k), .int (nI (pEk ps)), .int (pEo ps)])))) (sp_upo (by omega)) dX3_next_108 (fun H locs hM => ?_)
              exact me_vret hC hr hlk hM (ps_eq (q := (k, 4, k, pEk ps, pEo ps)) (nx_end h0 hs (by omega))) (rfl) dX3_next_111
          · have c_84 := (not_congr (br_le rfl rfl (by omega) (by omega))).mp c_84
            obtain ⟨r1, rfl⟩ : ∃ r1, r = r1 + 1 := ⟨r - 1, by omega⟩
            refine lv_aload_n hx hb dX3_next_46 rfl (lv_at hl 0 rfl) ?_
            refine fg_X3_27 hC hM ((sp_out (by omega)).trans (me_up_s _ _ _)) rfl dX3_next_47 ?_
            refine lv_aload_n hx hb dX3_next_50 rfl (lv_at hl 0 rfl) ?_
            refine fg_X3_9 hC hM ((sp_out (by omega)).trans (me_up_s _ _ _)) rfl dX3_next_51 ?_
            refine me_bald (k := k) hC hM ((sp_out (by omega)).trans ((me_up_n (by omega)).trans e6)) rfl (by omega) (by first | decide | omega) dX3_next_54 ?_
            refine lv_bipush (v := 32) hx hb dX3_next_55 (by decide) ?_
            refine lv_icmp_eq (tgt := 74) hx hb dX3_next_57 (by decide) (fun c_86 => ?_) (fun c_86 => ?_)
            · refine lv_aload_n hx hb dX3_next_74 rfl (lv_at hl 0 rfl) ?_
              refine lv_dup hx hb dX3_next_75 rfl ?_
              refine fg_X3_9 hC hM ((sp_out (by omega)).trans (me_up_s _ _ _)) rfl dX3_next_76 ?_
              refine lv_iconst (v := 1) hx hb dX3_next_79 (by decide) ?_
              refine lv_iadd hx hb dX3_next_80 ?_
              refine me_evi (y := nI (k + 1)) (nx_add rfl (show (1 : Int32) = nI 1 from rfl)) ?_
              refine fp_X3_9 hC hM ((sp_out (by omega)).trans (me_up_s _ _ _)) (Nat.le_of_ble_eq_true rfl) (M2 := sp tb a g (me_up M9 po (.inr (3, [.ref ta, .int (nI len), .ref a, .int (nI (k + 1)), .int (nI (pTk ps)), .int (nI (pTs ps)), .int (nI (pEk ps)), .int (pEo ps)])))) (sp_upo (by omega)) dX3_next_81 (fun H locs hM => ?_)
              refine lv_goto (tgt := 35) hx hb dX3_next_84 (by decide) ?_
              exact ih_35 r1 (by omega) (k + 1) _ _ _ (by omega) (by omega) (hq.trans (skP_t (Or.inl c_86))) hM (lv_sub hl [0, 1, 2] rfl)
            · refine lv_aload_n hx hb dX3_next_60 rfl (lv_at hl 0 rfl) ?_
              refine fg_X3_27 hC hM ((sp_out (by omega)).trans (me_up_s _ _ _)) rfl dX3_next_61 ?_
              refine lv_aload_n hx hb dX3_next_64 rfl (lv_at hl 0 rfl) ?_
              refine fg_X3_9 hC hM ((sp_out (by omega)).trans (me_up_s _ _ _)) rfl dX3_next_65 ?_
              refine me_bald (k := k) hC hM ((sp_out (by omega)).trans ((me_up_n (by omega)).trans e6)) rfl (by omega) (by first | decide | omega) dX3_next_68 ?_
              refine lv_bipush (v := 10) hx hb dX3_next_69 (by decide) ?_
              refine lv_icmp_ne (tgt := 87) hx hb dX3_next_71 (by decide) (fun c_87 => ?_) (fun c_87 => ?_)
              · have hs : sk0 t len ps = k := hq.trans (skP_f (fun z => z.elim c_86 c_87))
                refine lv_aload_n hx hb dX3_next_87 rfl (lv_at hl 0 rfl) ?_
                refine lv_aload_n hx hb dX3_next_88 rfl (lv_at hl 0 rfl) ?_
                refine fg_X3_9 hC hM ((sp_out (by omega)).trans (me_up_s _ _ _)) rfl dX3_next_89 ?_
                refine fp_X3_18 hC hM ((sp_out (by omega)).trans (me_up_s _ _ _)) (Nat.le_of_ble_eq_true rfl) (M2 := sp tb a g (me_up M9 po (.inr (3, [.ref ta, .int (nI len), .ref a, .int (nI k), .int (nI (pTk ps)), .int (nI k), .int (nI (pEk ps)), .int (pEo ps)])))) (sp_upo (by omega)) dX3_next_92 (fun H locs hM => ?_)
                refine lv_aload_n hx hb dX3_next_95 rfl (lv_at hl 0 rfl) ?_
                refine fg_X3_9 hC hM ((sp_out (by omega)).trans (me_up_s _ _ _)) rfl dX3_next_96 ?_
                refine lv_aload_n hx hb dX3_next_99 rfl (lv_at hl 0 rfl) ?_
                refine fg_X3_31 hC hM ((sp_out (by omega)).trans (me_up_s _ _ _)) rfl dX3_next_100 ?_
                refine lv_icmp_lt (tgt := 112) hx hb dX3_next_103 (by decide) (fun c_88 => ?_) (fun c_88 => ?_)
                · have c_88 := (br_lt rfl rfl (by omega) (by omega)).mp c_88
                  have h1 := c_88
                  refine lv_aload_n hx hb dX3_next_112 rfl (lv_at hl 0 rfl) ?_
                  refine fg_X3_27 hC hM ((sp_out (by omega)).trans (me_up_s _ _ _)) rfl dX3_next_113 ?_
                  refine lv_aload_n hx hb dX3_next_116 rfl (lv_at hl 0 rfl) ?_
                  refine fg_X3_9 hC hM ((sp_out (by omega)).trans (me_up_s _ _ _)) rfl dX3_next_117 ?_
                  refine me_bald (k := k) hC hM ((sp_out (by omega)).trans ((me_up_n (by omega)).trans e6)) rfl (by omega) (by first | decide | omega) dX3_next_120 ?_
                  refine lv_bipush (v := 59) hx hb dX3_next_121 (by decide) ?_
                  refine lv_icmp_ne (tgt := 142) hx hb dX3_next_123 (by decide) (fun c_89 => ?_) (fun c_89 => ?_)
                  · have h59 := c_89
                    refine lv_aload_n hx hb dX3_next_142 rfl (lv_at hl 0 rfl) ?_
                    refine fg_X3_27 hC hM ((sp_out (by omega)).trans (me_up_s _ _ _)) rfl dX3_next_143 ?_
                    refine lv_aload_n hx hb dX3_next_146 rfl (lv_at hl 0 rfl) ?_
                    refine fg_X3_9 hC hM ((sp_out (by omega)).trans (me_up_s _ _ _)) rfl dX3_next_147 ?_
                    refine me_bald (k := k) hC hM ((sp_out (by omega)).trans ((me_up_n (by omega)).trans e6)) rfl (by omega) (by first | decide | omega) dX3_next_150 ?_
                    refine me_callSi (As := [.int (t k)]) (rest := []) hC hl.1 hM (c_X3_isLetter l D tb X z0 n _ (t k)) (ks_X3_176 hw rfl rfl ⟨Nat.le_of_ble_eq_true rfl, Nat.le_of_ble_eq_true rfl⟩) rfl rfl (Nat.le_of_ble_eq_true rfl) dX3_next_151 ⟨Nat.le_of_ble_eq_true rfl, Nat.le_of_ble_eq_true rfl⟩ (fun H locs hM => ?_)
                    refine lv_istore_n (lv' := [(3, .int (b1 (ltP (t k)))), (0, .ref po), (1, .int (b1 (pTk ps = 1 ∨ pTk ps = 2))), (2, .int (nI (pAt ps)))]) hx hb dX3_next_154 rfl hl (by decide) rfl (fun ls hl => ?_)
                    have lp_155 : ∀ (r2 : Nat) (j : Nat) (H : Heap) (locs : List Loc) (ls : Array Slot), (j + r2 = len) → (k ≤ j) → (ru0 t len k = ruP t (ltP (t k)) r2 j) → me_at D z0 (sp tb a g (me_up M9 po (.inr (3, [.ref ta, .int (nI len), .ref a, .int (nI j), .int (nI (pTk ps)), .int (nI k), .int (nI (pEk ps)), .int (pEo ps)])))) n s H locs → lv_has ls 5 [(0, .ref po), (1, .int (b1 (pTk ps = 1 ∨ pTk ps = 2))), (2, .int (nI (pAt ps))), (3, .int (b1 (ltP (t k))))] → W p l e (({ frames := 1, cells := 0, slots := 0, locals := 20 } : Room)) s m args below meth c H locs 0 0 (MQ below (me_Qv D z0 (psM tb a po ta len M9 g (nxP t len ps)) n) args s 0 0 (me_A z0)) (F0 m 155 ls []) := by
                      intro r2
                      refine Nat.strongRecOn r2 ?_
                      intro r2 ih_155 j H locs ls hj2 hj0 hr2 hM hl
                      refine lv_aload_n hx hb dX3_next_155 rfl (lv_at hl 0 rfl) ?_
                      refine fg_X3_9 hC hM ((sp_out (by omega)).trans (me_up_s _ _ _)) rfl dX3_next_156 ?_
                      refine lv_aload_n hx hb dX3_next_159 rfl (lv_at hl 0 rfl) ?_
                      refine fg_X3_31 hC hM ((sp_out (by omega)).trans (me_up_s _ _ _)) rfl dX3_next_160 ?_
                      refine lv_icmp_ge (tgt := 216) hx hb dX3_next_163 (by decide) (fun c_90 => ?_) (fun c_90 => ?_)
                      · have c_90 := (br_le rfl rfl (by omega) (by omega)).mp c_90
                        have hj : ru0 t len k = j := by rw [hr2, show r2 = 0 by omega]; rfl
                        refine lv_iload_n hx hb dX3_next_216 rfl (lv_at hl 1 rfl) ?_
                        refine lv_if_eq (tgt := 232) hx hb dX3_next_217 (by decide) (fun c_91 => ?_) (fun c_91 => ?_)
                        · have c_91 := b1_0.mp c_91
                          refine lv_iconst (v := 0) hx hb dX3_next_232 (by decide) ?_
                          refine lv_istore (lv' := [(4, .int 0), (0, .ref po), (1, .int (b1 (pTk ps = 1 ∨ pTk ps = 2))), (2, .int (nI (pAt ps))), (3, .int (b1 (ltP (t k))))]) hx hb dX3_next_233 hl (by decide) rfl (fun ls hl => ?_)
                          refine lv_aload_n hx hb dX3_next_235 rfl (lv_at hl 1 rfl) ?_
                          refine lv_aload_n hx hb dX3_next_236 rfl (lv_at hl 1 rfl) ?_
                          refine fg_X3_9 hC hM ((sp_out (by omega)).trans (me_up_s _ _ _)) rfl dX3_next_237 ?_
                          refine lv_aload_n hx hb dX3_next_240 rfl (lv_at hl 1 rfl) ?_
                          refine fg_X3_18 hC hM ((sp_out (by omega)).trans (me_up_s _ _ _)) rfl dX3_next_241 ?_
                          refine lv_icmp_eq (tgt := 252) hx hb dX3_next_244 (by decide) (fun c_92 => ?_) (fun c_92 => ?_)
                          · have c_92 := (br_eq rfl rfl (by omega) (by omega)).mp c_92
                            refine lv_iconst (v := 0) hx hb dX3_next_252 (by decide) ?_
                            refine lv_goto (tgt := 265) hx hb dX3_next_253 (by decide) ?_
                            refine fp_X3_15 hC hM ((sp_out (by omega)).trans (me_up_s _ _ _)) (Nat.le_of_ble_eq_true rfl) (M2 := sp tb a g (me_up M9 po (.inr (3, [.ref ta, .int (nI len), .ref a, .int (nI j), .int 0, .int (nI k), .int (nI (pEk ps)), .int (pEo ps)])))) (sp_upo (by omega)) dX3_next_265 (fun H locs hM => ?_)
                            exact me_vret hC hr hlk hM (ps_eq (q := (j, 0, k, pEk ps, pEo ps)) (nx_run h0 hs h1 h59 hj (if_pos (Or.inl c_92)))) (rfl) dX3_next_268
                          · have c_92 := (not_congr (br_eq rfl rfl (by omega) (by omega))).mp c_92
                            refine lv_iload hx hb dX3_next_247 (lv_at hl 0 rfl) ?_
                            refine lv_if_eq (tgt := 256) hx hb dX3_next_249 (by decide) (fun c_93 => ?_) (fun c_93 => ?_)
                            · refine lv_iload_n hx hb dX3_next_256 rfl (lv_at hl 4 rfl) ?_
                              refine lv_if_eq (tgt := 264) hx hb dX3_next_257 (by decide) (fun c_94 => ?_) (fun c_94 => ?_)
                              · have c_94 := b1_0.mp c_94
                                refine lv_iconst (v := 2) hx hb dX3_next_264 (by decide) ?_
                                refine fp_X3_15 hC hM ((sp_out (by omega)).trans (me_up_s _ _ _)) (Nat.le_of_ble_eq_true rfl) (M2 := sp tb a g (me_up M9 po (.inr (3, [.ref ta, .int (nI len), .ref a, .int (nI j), .int 2, .int (nI k), .int (nI (pEk ps)), .int (pEo ps)])))) (sp_upo (by omega)) dX3_next_265 (fun H locs hM => ?_)
                                exact me_vret hC hr hlk hM (ps_eq (q := (j, 2, k, pEk ps, pEo ps)) (nx_run h0 hs h1 h59 hj ((if_neg (fun z => z.elim c_92 (fun w => c_91 w.1))).trans (if_neg c_94)))) (rfl) dX3_next_268
                              · have c_94 := b1_n0.mp c_94
                                refine lv_iconst (v := 1) hx hb dX3_next_260 (by decide) ?_
                                refine lv_goto (tgt := 265) hx hb dX3_next_261 (by decide) ?_
                                refine fp_X3_15 hC hM ((sp_out (by omega)).trans (me_up_s _ _ _)) (Nat.le_of_ble_eq_true rfl) (M2 := sp tb a g (me_up M9 po (.inr (3, [.ref ta, .int (nI len), .ref a, .int (nI j), .int 1, .int (nI k), .int (nI (pEk ps)), .int (pEo ps)])))) (sp_upo (by omega)) dX3_next_265 (fun H locs hM => ?_)
                                exact me_vret hC hr hlk hM (ps_eq (q := (j, 1, k, pEk ps, pEo ps)) (nx_run h0 hs h1 h59 hj ((if_neg (fun z => z.elim c_92 (fun w => c_91 w.1))).trans (if_pos c_94)))) (rfl) dX3_next_268
                            · exact absurd c_93 (by decide)
                        · have c_91 := b1_n0.mp c_91
                          refine lv_aload_n hx hb dX3_next_220 rfl (lv_at hl 0 rfl) ?_
                          refine fg_X3_18 hC hM ((sp_out (by omega)).trans (me_up_s _ _ _)) rfl dX3_next_221 ?_
                          refine lv_iload_n hx hb dX3_next_224 rfl (lv_at hl 2 rfl) ?_
                          refine lv_icmp_ne (tgt := 232) hx hb dX3_next_225 (by decide) (fun c_95 => ?_) (fun c_95 => ?_)
                          · have c_95 := (not_congr (br_eq rfl rfl (by omega) (by omega))).mp c_95
                            refine lv_iconst (v := 0) hx hb dX3_next_232 (by decide) ?_
                            refine lv_istore (lv' := [(4, .int 0), (0, .ref po), (1, .int (b1 (pTk ps = 1 ∨ pTk ps = 2))), (2, .int (nI (pAt ps))), (3, .int (b1 (ltP (t k))))]) hx hb dX3_next_233 hl (by decide) rfl (fun ls hl => ?_)
                            refine lv_aload_n hx hb dX3_next_235 rfl (lv_at hl 1 rfl) ?_
                            refine lv_aload_n hx hb dX3_next_236 rfl (lv_at hl 1 rfl) ?_
                            refine fg_X3_9 hC hM ((sp_out (by omega)).trans (me_up_s _ _ _)) rfl dX3_next_237 ?_
                            refine lv_aload_n hx hb dX3_next_240 rfl (lv_at hl 1 rfl) ?_
                            refine fg_X3_18 hC hM ((sp_out (by omega)).trans (me_up_s _ _ _)) rfl dX3_next_241 ?_
                            refine lv_icmp_eq (tgt := 252) hx hb dX3_next_244 (by decide) (fun c_96 => ?_) (fun c_96 => ?_)
                            · have c_96 := (br_eq rfl rfl (by omega) (by omega)).mp c_96
                              refine lv_iconst (v := 0) hx hb dX3_next_252 (by decide) ?_
                              refine lv_goto (tgt := 265) hx hb dX3_next_253 (by decide) ?_
                              refine fp_X3_15 hC hM ((sp_out (by omega)).trans (me_up_s _ _ _)) (Nat.le_of_ble_eq_true rfl) (M2 := sp tb a g (me_up M9 po (.inr (3, [.ref ta, .int (nI len), .ref a, .int (nI j), .int 0, .int (nI k), .int (nI (pEk ps)), .int (pEo ps)])))) (sp_upo (by omega)) dX3_next_265 (fun H locs hM => ?_)
                              exact me_vret hC hr hlk hM (ps_eq (q := (j, 0, k, pEk ps, pEo ps)) (nx_run h0 hs h1 h59 hj (if_pos (Or.inl c_96)))) (rfl) dX3_next_268
                            · have c_96 := (not_congr (br_eq rfl rfl (by omega) (by omega))).mp c_96
                              refine lv_iload hx hb dX3_next_247 (lv_at hl 0 rfl) ?_
                              refine lv_if_eq (tgt := 256) hx hb dX3_next_249 (by decide) (fun c_97 => ?_) (fun c_97 => ?_)
                              · refine lv_iload_n hx hb dX3_next_256 rfl (lv_at hl 4 rfl) ?_
                                refine lv_if_eq (tgt := 264) hx hb dX3_next_257 (by decide) (fun c_98 => ?_) (fun c_98 => ?_)
                                · have c_98 := b1_0.mp c_98
                                  refine lv_iconst (v := 2) hx hb dX3_next_264 (by decide) ?_
                                  refine fp_X3_15 hC hM ((sp_out (by omega)).trans (me_up_s _ _ _)) (Nat.le_of_ble_eq_true rfl) (M2 := sp tb a g (me_up M9 po (.inr (3, [.ref ta, .int (nI len), .ref a, .int (nI j), .int 2, .int (nI k), .int (nI (pEk ps)), .int (pEo ps)])))) (sp_upo (by omega)) dX3_next_265 (fun H locs hM => ?_)
                                  exact me_vret hC hr hlk hM (ps_eq (q := (j, 2, k, pEk ps, pEo ps)) (nx_run h0 hs h1 h59 hj ((if_neg (fun z => z.elim c_96 (fun w => c_95 w.2))).trans (if_neg c_98)))) (rfl) dX3_next_268
                                · have c_98 := b1_n0.mp c_98
                                  refine lv_iconst (v := 1) hx hb dX3_next_260 (by decide) ?_
                                  refine lv_goto (tgt := 265) hx hb dX3_next_261 (by decide) ?_
                                  refine fp_X3_15 hC hM ((sp_out (by omega)).trans (me_up_s _ _ _)) (Nat.le_of_ble_eq_true rfl) (M2 := sp tb a g (me_up M9 po (.inr (3, [.ref ta, .int (nI len), .ref a, .int (nI j), .int 1, .int (nI k), .int (nI (pEk ps)), .int (pEo ps)])))) (sp_upo (by omega)) dX3_next_265 (fun H locs hM => ?_)
                                  exact me_vret hC hr hlk hM (ps_eq (q := (j, 1, k, pEk ps, pEo ps)) (nx_run h0 hs h1 h59 hj ((if_neg (fun z => z.elim c_96 (fun w => c_95 w.2))).trans (if_pos c_98)))) (rfl) dX3_next_268
                              · exact absurd c_97 (by decide)
                          · have c_95 := (br_eq rfl rfl (by omega) (by omega)).mp c_95
                            refine lv_iconst (v := 1) hx hb dX3_next_228 (by decide) ?_
                            refine lv_goto (tgt := 233) hx hb dX3_next_229 (by decide) ?_
                            refine lv_istore (lv' := [(4, .int 1), (0, .ref po), (1, .int (b1 (pTk ps = 1 ∨ pTk ps = 2))), (2, .int (nI (pAt ps))), (3, .int (b1 (ltP (t k))))]) hx hb dX3_next_233 hl (by decide) rfl (fun ls hl => ?_)
                            refine lv_aload_n hx hb dX3_next_235 rfl (lv_at hl 1 rfl) ?_
                            refine lv_aload_n hx hb dX3_next_236 rfl (lv_at hl 1 rfl) ?_
                            refine fg_X3_9 hC hM ((sp_out (by omega)).trans (me_up_s _ _ _)) rfl dX3_next_237 ?_
                            refine lv_aload_n hx hb dX3_next_240 rfl (lv_at hl 1 rfl) ?_
                            refine fg_X3_18 hC hM ((sp_out (by omega)).trans (me_up_s _ _ _)) rfl dX3_next_241 ?_
                            refine lv_icmp_eq (tgt := 252) hx hb dX3_next_244 (by decide) (fun c_99 => ?_) (fun c_99 => ?_)
                            · have c_99 := (br_eq rfl rfl (by omega) (by omega)).mp c_99
                              refine lv_iconst (v := 0) hx hb dX3_next_252 (by decide) ?_
                              refine lv_goto (tgt := 265) hx hb dX3_next_253 (by decide) ?_
                              refine fp_X3_15 hC hM ((sp_out (by omega)).trans (me_up_s _ _ _)) (Nat.le_of_ble_eq_true rfl) (M2 := sp tb a g (me_up M9 po (.inr (3, [.ref ta, .int (nI len), .ref a, .int (nI j), .int 0, .int (nI k), .int (nI (pEk ps)), .int (pEo ps)])))) (sp_upo (by omega)) dX3_next_265 (fun H locs hM => ?_)
                              exact me_vret hC hr hlk hM (ps_eq (q := (j, 0, k, pEk ps, pEo ps)) (nx_run h0 hs h1 h59 hj (if_pos (Or.inl c_99)))) (rfl) dX3_next_268
                            · have c_99 := (not_congr (br_eq rfl rfl (by omega) (by omega))).mp c_99
                              refine lv_iload hx hb dX3_next_247 (lv_at hl 0 rfl) ?_
                              refine lv_if_eq (tgt := 256) hx hb dX3_next_249 (by decide) (fun c_100 => ?_) (fun c_100 => ?_)
                              · exact absurd c_100 (by decide)
                              · refine lv_iconst (v := 0) hx hb dX3_next_252 (by decide) ?_
                                refine lv_goto (tgt := 265) hx hb dX3_next_253 (by decide) ?_
                                refine fp_X3_15 hC hM ((sp_out (by omega)).trans (me_up_s _ _ _)) (Nat.le_of_ble_eq_true rfl) (M2 := sp tb a g (me_up M9 po (.inr (3, [.ref ta, .int (nI len), .ref a, .int (nI j), .int 0, .int (nI k), .int (nI (pEk ps)), .int (pEo ps)])))) (sp_upo (by omega)) dX3_next_265 (fun H locs hM => ?_)
                                exact me_vret hC hr hlk hM (ps_eq (q := (j, 0, k, pEk ps, pEo ps)) (nx_run h0 hs h1 h59 hj (if_pos (Or.inr ⟨c_91, c_95⟩)))) (rfl) dX3_next_268
                      · have c_90 := (not_congr (br_le rfl rfl (by omega) (by omega))).mp c_90
                        obtain ⟨r3, rfl⟩ : ∃ r3, r2 = r3 + 1 := ⟨r2 - 1, by omega⟩
                        refine lv_iload_n hx hb dX3_next_166 rfl (lv_at hl 3 rfl) ?_
                        refine lv_if_eq (tgt := 188) hx hb dX3_next_167 (by decide) (fun c_101 => ?_) (fun c_101 => ?_)
                        · have c_101 := b1_0.mp c_101
                          refine lv_aload_n hx hb dX3_next_188 rfl (lv_at hl 0 rfl) ?_
                          refine fg_X3_27 hC hM ((sp_out (by omega)).trans (me_up_s _ _ _)) rfl dX3_next_189 ?_
                          refine lv_aload_n hx hb dX3_next_192 rfl (lv_at hl 0 rfl) ?_
                          refine fg_X3_9 hC hM ((sp_out (by omega)).trans (me_up_s _ _ _)) rfl dX3_next_193 ?_
                          refine me_bald (k := j) hC hM ((sp_out (by omega)).trans ((me_up_n (by omega)).trans e6)) rfl (by omega) (by first | decide | omega) dX3_next_196 ?_
                          refine me_callSi (As := [.int (t j)]) (rest := []) hC hl.1 hM (c_X3_isDigit l D tb X z0 n _ (t j)) (ks_X3_180 hw rfl rfl ⟨Nat.le_of_ble_eq_true rfl, Nat.le_of_ble_eq_true rfl⟩) rfl rfl (Nat.le_of_ble_eq_true rfl) dX3_next_197 ⟨Nat.le_of_ble_eq_true rfl, Nat.le_of_ble_eq_true rfl⟩ (fun H locs hM => ?_)
                          refine lv_if_eq (tgt := 216) hx hb dX3_next_200 (by decide) (fun c_102 => ?_) (fun c_102 => ?_)
                          · have c_102 := b1_0.mp c_102
                            have hj : ru0 t len k = j := hr2.trans (ruP_f (fun z => c_102 (z.2 c_101)))
                            refine lv_iload_n hx hb dX3_next_216 rfl (lv_at hl 1 rfl) ?_
                            refine lv_if_eq (tgt := 232) hx hb dX3_next_217 (by decide) (fun c_103 => ?_) (fun c_103 => ?_)
                            · have c_103 := b1_0.mp c_103
                              refine lv_iconst (v := 0) hx hb dX3_next_232 (by decide) ?_
                              refine lv_istore (lv' := [(4, .int 0), (0, .ref po), (1, .int (b1 (pTk ps = 1 ∨ pTk ps = 2))), (2, .int (nI (pAt ps))), (3, .int (b1 (ltP (t k))))]) hx hb dX3_next_233 hl (by decide) rfl (fun ls hl => ?_)
                              refine lv_aload_n hx hb dX3_next_235 rfl (lv_at hl 1 rfl) ?_
                              refine lv_aload_n hx hb dX3_next_236 rfl (lv_at hl 1 rfl) ?_
                              refine fg_X3_9 hC hM ((sp_out (by omega)).trans (me_up_s _ _ _)) rfl dX3_next_237 ?_
                              refine lv_aload_n hx hb dX3_next_240 rfl (lv_at hl 1 rfl) ?_
                              refine fg_X3_18 hC hM ((sp_out (by omega)).trans (me_up_s _ _ _)) rfl dX3_next_241 ?_
                              refine lv_icmp_eq (tgt := 252) hx hb dX3_next_244 (by decide) (fun c_104 => ?_) (fun c_104 => ?_)
                              · have c_104 := (br_eq rfl rfl (by omega) (by omega)).mp c_104
                                refine lv_iconst (v := 0) hx hb dX3_next_252 (by decide) ?_
                                refine lv_goto (tgt := 265) hx hb dX3_next_253 (by decide) ?_
                                refine fp_X3_15 hC hM ((sp_out (by omega)).trans (me_up_s _ _ _)) (Nat.le_of_ble_eq_true rfl) (M2 := sp tb a g (me_up M9 po (.inr (3, [.ref ta, .int (nI len), .ref a, .int (nI j), .int 0, .int (nI k), .int (nI (pEk ps)), .int (pEo ps)])))) (sp_upo (by omega)) dX3_next_265 (fun H locs hM => ?_)
                                exact me_vret hC hr hlk hM (ps_eq (q := (j, 0, k, pEk ps, pEo ps)) (nx_run h0 hs h1 h59 hj (if_pos (Or.inl c_104)))) (rfl) dX3_next_268
                              · have c_104 := (not_congr (br_eq rfl rfl (by omega) (by omega))).mp c_104
                                refine lv_iload hx hb dX3_next_247 (lv_at hl 0 rfl) ?_
                                refine lv_if_eq (tgt := 256) hx hb dX3_next_249 (by decide) (fun c_105 => ?_) (fun c_105 => ?_)
                                · refine lv_iload_n hx hb dX3_next_256 rfl (lv_at hl 4 rfl) ?_
                                  refine lv_if_eq (tgt := 264) hx hb dX3_next_257 (by decide) (fun c_106 => ?_) (fun c_106 => ?_)
                                  · have c_106 := b1_0.mp c_106
                                    refine lv_iconst (v := 2) hx hb dX3_next_264 (by decide) ?_
                                    refine fp_X3_15 hC hM ((sp_out (by omega)).trans (me_up_s _ _ _)) (Nat.le_of_ble_eq_true rfl) (M2 := sp tb a g (me_up M9 po (.inr (3, [.ref ta, .int (nI len), .ref a, .int (nI j), .int 2, .int (nI k), .int (nI (pEk ps)), .int (pEo ps)])))) (sp_upo (by omega)) dX3_next_265 (fun H locs hM => ?_)
                                    exact me_vret hC hr hlk hM (ps_eq (q := (j, 2, k, pEk ps, pEo ps)) (nx_run h0 hs h1 h59 hj ((if_neg (fun z => z.elim c_104 (fun w => c_103 w.1))).trans (if_neg c_106)))) (rfl) dX3_next_268
                                  · have c_106 := b1_n0.mp c_106
                                    refine lv_iconst (v := 1) hx hb dX3_next_260 (by decide) ?_
                                    refine lv_goto (tgt := 265) hx hb dX3_next_261 (by decide) ?_
                                    refine fp_X3_15 hC hM ((sp_out (by omega)).trans (me_up_s _ _ _)) (Nat.le_of_ble_eq_true rfl) (M2 := sp tb a g (me_up M9 po (.inr (3, [.ref ta, .int (nI len), .ref a, .int (nI j), .int 1, .int (nI k), .int (nI (pEk ps)), .int (pEo ps)])))) (sp_upo (by omega)) dX3_next_265 (fun H locs hM => ?_)
                                    exact me_vret hC hr hlk hM (ps_eq (q := (j, 1, k, pEk ps, pEo ps)) (nx_run h0 hs h1 h59 hj ((if_neg (fun z => z.elim c_104 (fun w => c_103 w.1))).trans (if_pos c_106)))) (rfl) dX3_next_268
                                · exact absurd c_105 (by decide)
                            · have c_103 := b1_n0.mp c_103
                              refine lv_aload_n hx hb dX3_next_220 rfl (lv_at hl 0 rfl) ?_
                              refine fg_X3_18 hC hM ((sp_out (by omega)).trans (me_up_s _ _ _)) rfl dX3_next_221 ?_
                              refine lv_iload_n hx hb dX3_next_224 rfl (lv_at hl 2 rfl) ?_
                              refine lv_icmp_ne (tgt := 232) hx hb dX3_next_225 (by decide) (fun c_107 => ?_) (fun c_107 => ?_)
                              · have c_107 := (not_congr (br_eq rfl rfl (by omega) (by omega))).mp c_107
                                refine lv_iconst (v := 0) hx hb dX3_next_232 (by decide) ?_
                                refine lv_istore (lv' := [(4, .int 0), (0, .ref po), (1, .int (b1 (pTk ps = 1 ∨ pTk ps = 2))), (2, .int (nI (pAt ps))), (3, .int (b1 (ltP (t k))))]) hx hb dX3_next_233 hl (by decide) rfl (fun ls hl => ?_)
                                refine lv_aload_n hx hb dX3_next_235 rfl (lv_at hl 1 rfl) ?_
                                refine lv_aload_n hx hb dX3_next_236 rfl (lv_at hl 1 rfl) ?_
                                refine fg_X3_9 hC hM ((sp_out (by omega)).trans (me_up_s _ _ _)) rfl dX3_next_237 ?_
                                refine lv_aload_n hx hb dX3_next_240 rfl (lv_at hl 1 rfl) ?_
                                refine fg_X3_18 hC hM ((sp_out (by omega)).trans (me_up_s _ _ _)) rfl dX3_next_241 ?_
                                refine lv_icmp_eq (tgt := 252) hx hb dX3_next_244 (by decide) (fun c_108 => ?_) (fun c_108 => ?_)
                                · have c_108 := (br_eq rfl rfl (by omega) (by omega)).mp c_108
                                  refine lv_iconst (v := 0) hx hb dX3_next_252 (by decide) ?_
                                  refine lv_goto (tgt := 265) hx hb dX3_next_253 (by decide) ?_
                                  refine fp_X3_15 hC hM ((sp_out (by omega)).trans (me_up_s _ _ _)) (Nat.le_of_ble_eq_true rfl) (M2 := sp tb a g (me_up M9 po (.inr (3, [.ref ta, .int (nI len), .ref a, .int (nI j), .int 0, .int (nI k), .int (nI (pEk ps)), .int (pEo ps)])))) (sp_upo (by omega)) dX3_next_265 (fun H locs hM => ?_)
                                  exact me_vret hC hr hlk hM (ps_eq (q := (j, 0, k, pEk ps, pEo ps)) (nx_run h0 hs h1 h59 hj (if_pos (Or.inl c_108)))) (rfl) dX3_next_268
                                · have c_108 := (not_congr (br_eq rfl rfl (by omega) (by omega))).mp c_108
                                  refine lv_iload hx hb dX3_next_247 (lv_at hl 0 rfl) ?_
                                  refine lv_if_eq (tgt := 256) hx hb dX3_next_249 (by decide) (fun c_109 => ?_) (fun c_109 => ?_)
                                  · refine lv_iload_n hx hb dX3_next_256 rfl (lv_at hl 4 rfl) ?_
                                    refine lv_if_eq (tgt := 264) hx hb dX3_next_257 (by decide) (fun c_110 => ?_) (fun c_110 => ?_)
                                    · have c_110 := b1_0.mp c_110
                                      refine lv_iconst (v := 2) hx hb dX3_next_264 (by decide) ?_
                                      refine fp_X3_15 hC hM ((sp_out (by omega)).trans (me_up_s _ _ _)) (Nat.le_of_ble_eq_true rfl) (M2 := sp tb a g (me_up M9 po (.inr (3, [.ref ta, .int (nI len), .ref a, .int (nI j), .int 2, .int (nI k), .int (nI (pEk ps)), .int (pEo ps)])))) (sp_upo (by omega)) dX3_next_265 (fun H locs hM => ?_)
                                      exact me_vret hC hr hlk hM (ps_eq (q := (j, 2, k, pEk ps, pEo ps)) (nx_run h0 hs h1 h59 hj ((if_neg (fun z => z.elim c_108 (fun w => c_107 w.2))).trans (if_neg c_110)))) (rfl) dX3_next_268
                                    · have c_110 := b1_n0.mp c_110
                                      refine lv_iconst (v := 1) hx hb dX3_next_260 (by decide) ?_
                                      refine lv_goto (tgt := 265) hx hb dX3_next_261 (by decide) ?_
                                      refine fp_X3_15 hC hM ((sp_out (by omega)).trans (me_up_s _ _ _)) (Nat.le_of_ble_eq_true rfl) (M2 := sp tb a g (me_up M9 po (.inr (3, [.ref ta, .int (nI len), .ref a, .int (nI j), .int 1, .int (nI k), .int (nI (pEk ps)), .int (pEo ps)])))) (sp_upo (by omega)) dX3_next_265 (fun H locs hM => ?_)
                                      exact me_vret hC hr hlk hM (ps_eq (q := (j, 1, k, pEk ps, pEo ps)) (nx_run h0 hs h1 h59 hj ((if_neg (fun z => z.elim c_108 (fun w => c_107 w.2))).trans (if_pos c_110)))) (rfl) dX3_next_268
                                  · exact absurd c_109 (by decide)
                              · have c_107 := (br_eq rfl rfl (by omega) (by omega)).mp c_107
                                refine lv_iconst (v := 1) hx hb dX3_next_228 (by decide) ?_
                                refine lv_goto (tgt := 233) hx hb dX3_next_229 (by decide) ?_
                                refine lv_istore (lv' := [(4, .int 1), (0, .ref po), (1, .int (b1 (pTk ps = 1 ∨ pTk ps = 2))), (2, .int (nI (pAt ps))), (3, .int (b1 (ltP (t k))))]) hx hb dX3_next_233 hl (by decide) rfl (fun ls hl => ?_)
                                refine lv_aload_n hx hb dX3_next_235 rfl (lv_at hl 1 rfl) ?_
                                refine lv_aload_n hx hb dX3_next_236 rfl (lv_at hl 1 rfl) ?_
                                refine fg_X3_9 hC hM ((sp_out (by omega)).trans (me_up_s _ _ _)) rfl dX3_next_237 ?_
                                refine lv_aload_n hx hb dX3_next_240 rfl (lv_at hl 1 rfl) ?_
                                refine fg_X3_18 hC hM ((sp_out (by omega)).trans (me_up_s _ _ _)) rfl dX3_next_241 ?_
                                refine lv_icmp_eq (tgt := 252) hx hb dX3_next_244 (by decide) (fun c_111 => ?_) (fun c_111 => ?_)
                                · have c_111 := (br_eq rfl rfl (by omega) (by omega)).mp c_111
                                  refine lv_iconst (v := 0) hx hb dX3_next_252 (by decide) ?_
                                  refine lv_goto (tgt := 265) hx hb dX3_next_253 (by decide) ?_
                                  refine fp_X3_15 hC hM ((sp_out (by omega)).trans (me_up_s _ _ _)) (Nat.le_of_ble_eq_true rfl) (M2 := sp tb a g (me_up M9 po (.inr (3, [.ref ta, .int (nI len), .ref a, .int (nI j), .int 0, .int (nI k), .int (nI (pEk ps)), .int (pEo ps)])))) (sp_upo (by omega)) dX3_next_265 (fun H locs hM => ?_)
                                  exact me_vret hC hr hlk hM (ps_eq (q := (j, 0, k, pEk ps, pEo ps)) (nx_run h0 hs h1 h59 hj (if_pos (Or.inl c_111)))) (rfl) dX3_next_268
                                · have c_111 := (not_congr (br_eq rfl rfl (by omega) (by omega))).mp c_111
                                  refine lv_iload hx hb dX3_next_247 (lv_at hl 0 rfl) ?_
                                  refine lv_if_eq (tgt := 256) hx hb dX3_next_249 (by decide) (fun c_112 => ?_) (fun c_112 => ?_)
                                  · exact absurd c_112 (by decide)
                                  · refine lv_iconst (v := 0) hx hb dX3_next_252 (by decide) ?_
                                    refine lv_goto (tgt := 265) hx hb dX3_next_253 (by decide) ?_
                                    refine fp_X3_15 hC hM ((sp_out (by omega)).trans (me_up_s _ _ _)) (Nat.le_of_ble_eq_true rfl) (M2 := sp tb a g (me_up M9 po (.inr (3, [.ref ta, .int (nI len), .ref a, .int (nI j), .int 0, .int (nI k), .int (nI (pEk ps)), .int (pEo ps)])))) (sp_upo (by omega)) dX3_next_265 (fun H locs hM => ?_)
                                    exact me_vret hC hr hlk hM (ps_eq (q := (j, 0, k, pEk ps, pEo ps)) (nx_run h0 hs h1 h59 hj (if_pos (Or.inr ⟨c_103, c_107⟩)))) (rfl) dX3_next_268
                          · have c_102 := b1_n0.mp c_102
                            refine lv_aload_n hx hb dX3_next_203 rfl (lv_at hl 0 rfl) ?_
                            refine lv_dup hx hb dX3_next_204 rfl ?_
                            refine fg_X3_9 hC hM ((sp_out (by omega)).trans (me_up_s _ _ _)) rfl dX3_next_205 ?_
                            refine lv_iconst (v := 1) hx hb dX3_next_208 (by decide) ?_
                            refine lv_iadd hx hb dX3_next_209 ?_
                            refine me_evi (y := nI (j + 1)) (nx_add rfl (show (1 : Int32) = nI 1 from rfl)) ?_
                            refine fp_X3_9 hC hM ((sp_out (by omega)).trans (me_up_s _ _ _)) (Nat.le_of_ble_eq_true rfl) (M2 := sp tb a g (me_up M9 po (.inr (3, [.ref ta, .int (nI len), .ref a, .int (nI (j + 1)), .int (nI (pTk ps)), .int (nI k), .int (nI (pEk ps)), .int (pEo ps)])))) (sp_upo (by omega)) dX3_next_210 (fun H locs hM => ?_)
                            refine lv_goto (tgt := 155) hx hb dX3_next_213 (by decide) ?_
                            exact ih_155 r3 (by omega) (j + 1) _ _ _ (by omega) (by omega) (hr2.trans (ruP_t ⟨fun z => absurd z c_101, fun _ => c_102⟩)) hM (lv_sub hl [0, 1, 2, 3] rfl)
                        · have c_101 := b1_n0.mp c_101
                          refine lv_aload_n hx hb dX3_next_170 rfl (lv_at hl 0 rfl) ?_
                          refine fg_X3_27 hC hM ((sp_out (by omega)).trans (me_up_s _ _ _)) rfl dX3_next_171 ?_
                          refine lv_aload_n hx hb dX3_next_174 rfl (lv_at hl 0 rfl) ?_
                          refine fg_X3_9 hC hM ((sp_out (by omega)).trans (me_up_s _ _ _)) rfl dX3_next_175 ?_
                          refine me_bald (k := j) hC hM ((sp_out (by omega)).trans ((me_up_n (by omega)).trans e6)) rfl (by omega) (by first | decide | omega) dX3_next_178 ?_
                          refine me_callSi (As := [.int (t j)]) (rest := []) hC hl.1 hM (c_X3_isLetter l D tb X z0 n _ (t j)) (ks_X3_176 hw rfl rfl ⟨Nat.le_of_ble_eq_true rfl, Nat.le_of_ble_eq_true rfl⟩) rfl rfl (Nat.le_of_ble_eq_true rfl) dX3_next_179 ⟨Nat.le_of_ble_eq_true rfl, Nat.le_of_ble_eq_true rfl⟩ (fun H locs hM => ?_)
                          refine lv_if_eq (tgt := 216) hx hb dX3_next_182 (by decide) (fun c_113 => ?_) (fun c_113 => ?_)
                          · have c_113 := b1_0.mp c_113
                            have hj : ru0 t len k = j := hr2.trans (ruP_f (fun z => c_113 (z.1 c_101)))
                            refine lv_iload_n hx hb dX3_next_216 rfl (lv_at hl 1 rfl) ?_
                            refine lv_if_eq (tgt := 232) hx hb dX3_next_217 (by decide) (fun c_114 => ?_) (fun c_114 => ?_)
                            · have c_114 := b1_0.mp c_114
                              refine lv_iconst (v := 0) hx hb dX3_next_232 (by decide) ?_
                              refine lv_istore (lv' := [(4, .int 0), (0, .ref po), (1, .int (b1 (pTk ps = 1 ∨ pTk ps = 2))), (2, .int (nI (pAt ps))), (3, .int (b1 (ltP (t k))))]) hx hb dX3_next_233 hl (by decide) rfl (fun ls hl => ?_)
                              refine lv_aload_n hx hb dX3_next_235 rfl (lv_at hl 1 rfl) ?_
                              refine lv_aload_n hx hb dX3_next_236 rfl (lv_at hl 1 rfl) ?_
                              refine fg_X3_9 hC hM ((sp_out (by omega)).trans (me_up_s _ _ _)) rfl dX3_next_237 ?_
                              refine lv_aload_n hx hb dX3_next_240 rfl (lv_at hl 1 rfl) ?_
                              refine fg_X3_18 hC hM ((sp_out (by omega)).trans (me_up_s _ _ _)) rfl dX3_next_241 ?_
                              refine lv_icmp_eq (tgt := 252) hx hb dX3_next_244 (by decide) (fun c_115 => ?_) (fun c_115 => ?_)
                              · have c_115 := (br_eq rfl rfl (by omega) (by omega)).mp c_115
                                refine lv_iconst (v := 0) hx hb dX3_next_252 (by decide) ?_
                                refine lv_goto (tgt := 265) hx hb dX3_next_253 (by decide) ?_
                                refine fp_X3_15 hC hM ((sp_out (by omega)).trans (me_up_s _ _ _)) (Nat.le_of_ble_eq_true rfl) (M2 := sp tb a g (me_up M9 po (.inr (3, [.ref ta, .int (nI len), .ref a, .int (nI j), .int 0, .int (nI k), .int (nI (pEk ps)), .int (pEo ps)])))) (sp_upo (by omega)) dX3_next_265 (fun H locs hM => ?_)
                                exact me_vret hC hr hlk hM (ps_eq (q := (j, 0, k, pEk ps, pEo ps)) (nx_run h0 hs h1 h59 hj (if_pos (Or.inl c_115)))) (rfl) dX3_next_268
                              · have c_115 := (not_congr (br_eq rfl rfl (by omega) (by omega))).mp c_115
                                refine lv_iload hx hb dX3_next_247 (lv_at hl 0 rfl) ?_
                                refine lv_if_eq (tgt := 256) hx hb dX3_next_249 (by decide) (fun c_116 => ?_) (fun c_116 => ?_)
                                · refine lv_iload_n hx hb dX3_next_256 rfl (lv_at hl 4 rfl) ?_
                                  refine lv_if_eq (tgt := 264) hx hb dX3_next_257 (by decide) (fun c_117 => ?_) (fun c_117 => ?_)
                                  · have c_117 := b1_0.mp c_117
                                    refine lv_iconst (v := 2) hx hb dX3_next_264 (by decide) ?_
                                    refine fp_X3_15 hC hM ((sp_out (by omega)).trans (me_up_s _ _ _)) (Nat.le_of_ble_eq_true rfl) (M2 := sp tb a g (me_up M9 po (.inr (3, [.ref ta, .int (nI len), .ref a, .int (nI j), .int 2, .int (nI k), .int (nI (pEk ps)), .int (pEo ps)])))) (sp_upo (by omega)) dX3_next_265 (fun H locs hM => ?_)
                                    exact me_vret hC hr hlk hM (ps_eq (q := (j, 2, k, pEk ps, pEo ps)) (nx_run h0 hs h1 h59 hj ((if_neg (fun z => z.elim c_115 (fun w => c_114 w.1))).trans (if_neg c_117)))) (rfl) dX3_next_268
                                  · have c_117 := b1_n0.mp c_117
                                    refine lv_iconst (v := 1) hx hb dX3_next_260 (by decide) ?_
                                    refine lv_goto (tgt := 265) hx hb dX3_next_261 (by decide) ?_
                                    refine fp_X3_15 hC hM ((sp_out (by omega)).trans (me_up_s _ _ _)) (Nat.le_of_ble_eq_true rfl) (M2 := sp tb a g (me_up M9 po (.inr (3, [.ref ta, .int (nI len), .ref a, .int (nI j), .int 1, .int (nI k), .int (nI (pEk ps)), .int (pEo ps)])))) (sp_upo (by omega)) dX3_next_265 (fun H locs hM => ?_)
                                    exact me_vret hC hr hlk hM (ps_eq (q := (j, 1, k, pEk ps, pEo ps)) (nx_run h0 hs h1 h59 hj ((if_neg (fun z => z.elim c_115 (fun w => c_114 w.1))).trans (if_pos c_117)))) (rfl) dX3_next_268
                                · exact absurd c_116 (by decide)
                            · have c_114 := b1_n0.mp c_114
                              refine lv_aload_n hx hb dX3_next_220 rfl (lv_at hl 0 rfl) ?_
                              refine fg_X3_18 hC hM ((sp_out (by omega)).trans (me_up_s _ _ _)) rfl dX3_next_221 ?_
                              refine lv_iload_n hx hb dX3_next_224 rfl (lv_at hl 2 rfl) ?_
                              refine lv_icmp_ne (tgt := 232) hx hb dX3_next_225 (by decide) (fun c_118 => ?_) (fun c_118 => ?_)
                              · have c_118 := (not_congr (br_eq rfl rfl (by omega) (by omega))).mp c_118
                                refine lv_iconst (v := 0) hx hb dX3_next_232 (by decide) ?_
                                refine lv_istore (lv' := [(4, .int 0), (0, .ref po), (1, .int (b1 (pTk ps = 1 ∨ pTk ps = 2))), (2, .int (nI (pAt ps))), (3, .int (b1 (ltP (t k))))]) hx hb dX3_next_233 hl (by decide) rfl (fun ls hl => ?_)
                                refine lv_aload_n hx hb dX3_next_235 rfl (lv_at hl 1 rfl) ?_
                                refine lv_aload_n hx hb dX3_next_236 rfl (lv_at hl 1 rfl) ?_
                                refine fg_X3_9 hC hM ((sp_out (by omega)).trans (me_up_s _ _ _)) rfl dX3_next_237 ?_
                                refine lv_aload_n hx hb dX3_next_240 rfl (lv_at hl 1 rfl) ?_
                                refine fg_X3_18 hC hM ((sp_out (by omega)).trans (me_up_s _ _ _)) rfl dX3_next_241 ?_
                                refine lv_icmp_eq (tgt := 252) hx hb dX3_next_244 (by decide) (fun c_119 => ?_) (fun c_119 => ?_)
                                · have c_119 := (br_eq rfl rfl (by omega) (by omega)).mp c_119
                                  refine lv_iconst (v := 0) hx hb dX3_next_252 (by decide) ?_
                                  refine lv_goto (tgt := 265) hx hb dX3_next_253 (by decide) ?_
                                  refine fp_X3_15 hC hM ((sp_out (by omega)).trans (me_up_s _ _ _)) (Nat.le_of_ble_eq_true rfl) (M2 := sp tb a g (me_up M9 po (.inr (3, [.ref ta, .int (nI len), .ref a, .int (nI j), .int 0, .int (nI k), .int (nI (pEk ps)), .int (pEo ps)])))) (sp_upo (by omega)) dX3_next_265 (fun H locs hM => ?_)
                                  exact me_vret hC hr hlk hM (ps_eq (q := (j, 0, k, pEk ps, pEo ps)) (nx_run h0 hs h1 h59 hj (if_pos (Or.inl c_119)))) (rfl) dX3_next_268
                                · have c_119 := (not_congr (br_eq rfl rfl (by omega) (by omega))).mp c_119
                                  refine lv_iload hx hb dX3_next_247 (lv_at hl 0 rfl) ?_
                                  refine lv_if_eq (tgt := 256) hx hb dX3_next_249 (by decide) (fun c_120 => ?_) (fun c_120 => ?_)
                                  · refine lv_iload_n hx hb dX3_next_256 rfl (lv_at hl 4 rfl) ?_
                                    refine lv_if_eq (tgt := 264) hx hb dX3_next_257 (by decide) (fun c_121 => ?_) (fun c_121 => ?_)
                                    · have c_121 := b1_0.mp c_121
                                      refine lv_iconst (v := 2) hx hb dX3_next_264 (by decide) ?_
                                      refine fp_X3_15 hC hM ((sp_out (by omega)).trans (me_up_s _ _ _)) (Nat.le_of_ble_eq_true rfl) (M2 := sp tb a g (me_up M9 po (.inr (3, [.ref ta, .int (nI len), .ref a, .int (nI j), .int 2, .int (nI k), .int (nI (pEk ps)), .int (pEo ps)])))) (sp_upo (by omega)) dX3_next_265 (fun H locs hM => ?_)
                                      exact me_vret hC hr hlk hM (ps_eq (q := (j, 2, k, pEk ps, pEo ps)) (nx_run h0 hs h1 h59 hj ((if_neg (fun z => z.elim c_119 (fun w => c_118 w.2))).trans (if_neg c_121)))) (rfl) dX3_next_268
                                    · have c_121 := b1_n0.mp c_121
                                      refine lv_iconst (v := 1) hx hb dX3_next_260 (by decide) ?_
                                      refine lv_goto (tgt := 265) hx hb dX3_next_261 (by decide) ?_
                                      refine fp_X3_15 hC hM ((sp_out (by omega)).trans (me_up_s _ _ _)) (Nat.le_of_ble_eq_true rfl) (M2 := sp tb a g (me_up M9 po (.inr (3, [.ref ta, .int (nI len), .ref a, .int (nI j), .int 1, .int (nI k), .int (nI (pEk ps)), .int (pEo ps)])))) (sp_upo (by omega)) dX3_next_265 (fun H locs hM => ?_)
                                      exact me_vret hC hr hlk hM (ps_eq (q := (j, 1, k, pEk ps, pEo ps)) (nx_run h0 hs h1 h59 hj ((if_neg (fun z => z.elim c_119 (fun w => c_118 w.2))).trans (if_pos c_121)))) (rfl) dX3_next_268
                                  · exact absurd c_120 (by decide)
                              · have c_118 := (br_eq rfl rfl (by omega) (by omega)).mp c_118
                                refine lv_iconst (v := 1) hx hb dX3_next_228 (by decide) ?_
                                refine lv_goto (tgt := 233) hx hb dX3_next_229 (by decide) ?_
                                refine lv_istore (lv' := [(4, .int 1), (0, .ref po), (1, .int (b1 (pTk ps = 1 ∨ pTk ps = 2))), (2, .int (nI (pAt ps))), (3, .int (b1 (ltP (t k))))]) hx hb dX3_next_233 hl (by decide) rfl (fun ls hl => ?_)
                                refine lv_aload_n hx hb dX3_next_235 rfl (lv_at hl 1 rfl) ?_
                                refine lv_aload_n hx hb dX3_next_236 rfl (lv_at hl 1 rfl) ?_
                                refine fg_X3_9 hC hM ((sp_out (by omega)).trans (me_up_s _ _ _)) rfl dX3_next_237 ?_
                                refine lv_aload_n hx hb dX3_next_240 rfl (lv_at hl 1 rfl) ?_
                                refine fg_X3_18 hC hM ((sp_out (by omega)).trans (me_up_s _ _ _)) rfl dX3_next_241 ?_
                                refine lv_icmp_eq (tgt := 252) hx hb dX3_next_244 (by decide) (fun c_122 => ?_) (fun c_122 => ?_)
                                · have c_122 := (br_eq rfl rfl (by omega) (by omega)).mp c_122
                                  refine lv_iconst (v := 0) hx hb dX3_next_252 (by decide) ?_
                                  refine lv_goto (tgt := 265) hx hb dX3_next_253 (by decide) ?_
                                  refine fp_X3_15 hC hM ((sp_out (by omega)).trans (me_up_s _ _ _)) (Nat.le_of_ble_eq_true rfl) (M2 := sp tb a g (me_up M9 po (.inr (3, [.ref ta, .int (nI len), .ref a, .int (nI j), .int 0, .int (nI k), .int (nI (pEk ps)), .int (pEo ps)])))) (sp_upo (by omega)) dX3_next_265 (fun H locs hM => ?_)
                                  exact me_vret hC hr hlk hM (ps_eq (q := (j, 0, k, pEk ps, pEo ps)) (nx_run h0 hs h1 h59 hj (if_pos (Or.inl c_122)))) (rfl) dX3_next_268
                                · have c_122 := (not_congr (br_eq rfl rfl (by omega) (by omega))).mp c_122
                                  refine lv_iload hx hb dX3_next_247 (lv_at hl 0 rfl) ?_
                                  refine lv_if_eq (tgt := 256) hx hb dX3_next_249 (by decide) (fun c_123 => ?_) (fun c_123 => ?_)
                                  · exact absurd c_123 (by decide)
                                  · refine lv_iconst (v := 0) hx hb dX3_next_252 (by decide) ?_
                                    refine lv_goto (tgt := 265) hx hb dX3_next_253 (by decide) ?_
                                    refine fp_X3_15 hC hM ((sp_out (by omega)).trans (me_up_s _ _ _)) (Nat.le_of_ble_eq_true rfl) (M2 := sp tb a g (me_up M9 po (.inr (3, [.ref ta, .int (nI len), .ref a, .int (nI j), .int 0, .int (nI k), .int (nI (pEk ps)), .int (pEo ps)])))) (sp_upo (by omega)) dX3_next_265 (fun H locs hM => ?_)
                                    exact me_vret hC hr hlk hM (ps_eq (q := (j, 0, k, pEk ps, pEo ps)) (nx_run h0 hs h1 h59 hj (if_pos (Or.inr ⟨c_114, c_118⟩)))) (rfl) dX3_next_268
                          · have c_113 := b1_n0.mp c_113
                            refine lv_goto (tgt := 203) hx hb dX3_next_185 (by decide) ?_
                            refine lv_aload_n hx hb dX3_next_203 rfl (lv_at hl 0 rfl) ?_
                            refine lv_dup hx hb dX3_next_204 rfl ?_
                            refine fg_X3_9 hC hM ((sp_out (by omega)).trans (me_up_s _ _ _)) rfl dX3_next_205 ?_
                            refine lv_iconst (v := 1) hx hb dX3_next_208 (by decide) ?_
                            refine lv_iadd hx hb dX3_next_209 ?_
                            refine me_evi (y := nI (j + 1)) (nx_add rfl (show (1 : Int32) = nI 1 from rfl)) ?_
                            refine fp_X3_9 hC hM ((sp_out (by omega)).trans (me_up_s _ _ _)) (Nat.le_of_ble_eq_true rfl) (M2 := sp tb a g (me_up M9 po (.inr (3, [.ref ta, .int (nI len), .ref a, .int (nI (j + 1)), .int (nI (pTk ps)), .int (nI k), .int (nI (pEk ps)), .int (pEo ps)])))) (sp_upo (by omega)) dX3_next_210 (fun H locs hM => ?_)
                            refine lv_goto (tgt := 155) hx hb dX3_next_213 (by decide) ?_
                            exact ih_155 r3 (by omega) (j + 1) _ _ _ (by omega) (by omega) (hr2.trans (ruP_t ⟨fun _ => c_113, fun z => absurd c_101 z⟩)) hM (lv_sub hl [0, 1, 2, 3] rfl)
                    exact lp_155 (len - k) k _ _ _ (by omega) (Nat.le_refl _) rfl hM (lv_sub hl [1, 2, 3, 0] rfl)
                  · refine lv_aload_n hx hb dX3_next_126 rfl (lv_at hl 0 rfl) ?_
                    refine lv_dup hx hb dX3_next_127 rfl ?_
                    refine fg_X3_9 hC hM ((sp_out (by omega)).trans (me_up_s _ _ _)) rfl dX3_next_128 ?_
                    refine lv_iconst (v := 1) hx hb dX3_next_131 (by decide) ?_
                    refine lv_iadd hx hb dX3_next_132 ?_
                    refine me_evi (y := nI (k + 1)) (nx_add rfl (show (1 : Int32) = nI 1 from rfl)) ?_
                    refine fp_X3_9 hC hM ((sp_out (by omega)).trans (me_up_s _ _ _)) (Nat.le_of_ble_eq_true rfl) (M2 := sp tb a g (me_up M9 po (.inr (3, [.ref ta, .int (nI len), .ref a, .int (nI (k + 1)), .int (nI (pTk ps)), .int (nI k), .int (nI (pEk ps)), .int (pEo ps)])))) (sp_upo (by omega)) dX3_next_133 (fun H locs hM => ?_)
                    refine lv_aload_n hx hb dX3_next_136 rfl (lv_at hl 0 rfl) ?_
                    refine lv_iconst (v := 3) hx hb dX3_next_137 (by decide) ?_
                    refine fp_X3_15 hC hM ((sp_out (by omega)).trans (me_up_s _ _ _)) (Nat.le_of_ble_eq_true rfl) (M2 := sp tb a g (me_up M9 po (.inr (3, [.ref ta, .int (nI len), .ref a, .int (nI (k + 1)), .int 3, .int (nI k), .int (nI (pEk ps)), .int (pEo ps)])))) (sp_upo (by omega)) dX3_next_138 (fun H locs hM => ?_)
                    exact me_vret hC hr hlk hM (ps_eq (q := (k + 1, 3, k, pEk ps, pEo ps)) (nx_semi h0 hs (by omega) c_89)) (rfl) dX3_next_141
                · have c_88 := (not_congr (br_lt rfl rfl (by omega) (by omega))).mp c_88
                  refine lv_aload_n hx hb dX3_next_106 rfl (lv_at hl 0 rfl) ?_
                  refine lv_iconst (v := 4) hx hb dX3_next_107 (by decide) ?_
                  refine fp_X3_15 hC hM ((sp_out (by omega)).trans (me_up_s _ _ _)) (Nat.le_of_ble_eq_true rfl) (M2 := sp tb a g (me_up M9 po (.inr (3, [.ref ta, .int (nI len), .ref a, .int (nI k), .int 4, .int (nI k), .int (nI (pEk ps)), .int (pEo ps)])))) (sp_upo (by omega)) dX3_next_108 (fun H locs hM => ?_)
                  exact me_vret hC hr hlk hM (ps_eq (q := (k, 4, k, pEk ps, pEo ps)) (nx_end h0 hs (by omega))) (rfl) dX3_next_111
              · refine lv_aload_n hx hb dX3_next_74 rfl (lv_at hl 0 rfl) ?_
                refine lv_dup hx hb dX3_next_75 rfl ?_
                refine fg_X3_9 hC hM ((sp_out (by omega)).trans (me_up_s _ _ _)) rfl dX3_next_76 ?_
                refine lv_iconst (v := 1) hx hb dX3_next_79 (by decide) ?_
                refine lv_iadd hx hb dX3_next_80 ?_
                refine me_evi (y := nI (k + 1)) (nx_add rfl (show (1 : Int32) = nI 1 from rfl)) ?_
                refine fp_X3_9 hC hM ((sp_out (by omega)).trans (me_up_s _ _ _)) (Nat.le_of_ble_eq_true rfl) (M2 := sp tb a g (me_up M9 po (.inr (3, [.ref ta, .int (nI len), .ref a, .int (nI (k + 1)), .int (nI (pTk ps)), .int (nI (pTs ps)), .int (nI (pEk ps)), .int (pEo ps)])))) (sp_upo (by omega)) dX3_next_81 (fun H locs hM => ?_)
                refine lv_goto (tgt := 35) hx hb dX3_next_84 (by decide) ?_
                exact ih_35 r1 (by omega) (k + 1) _ _ _ (by omega) (by omega) (hq.trans (skP_t (Or.inr c_87))) hM (lv_sub hl [0, 1, 2] rfl)
        exact lp_35 (len - pAt ps) (pAt ps) _ _ _ (by omega) (Nat.le_refl _) rfl hM (lv_sub hl [2, 1, 0] rfl)
  · have c_1 := (not_congr (br_eq rfl (show (0 : Int32) = nI 0 from rfl) (by omega) (by omega))).mp c_1
    exact me_vret hC hr hlk hM (ps_eq (q := ps) (if_pos c_1).symm) (rfl) dX3_next_7
set_option maxHeartbeats 4000000 in
theorem c_X3_name (l : Launch) (D : va_G) (tb : Nat → ClassId) (X : State → Prop) (z0 n : Nat) (kK kV : Nat → Nat) (a po ta NN len : Nat) (g t : Nat → Int32) (M9 : me_M) (ps : PS)  (hN : ∀ U, X U → me_nest U) (hE : psE tb a po ta NN len t M9) (hp : pvP len ps) : Met l yX3_name (.code yX3_name cX3_name 3 (some .int) :: ws_all) ({ frames := 2, cells := 0, slots := 0, locals := 44 } : Room) (me_Pc [.ref po] D tb X z0 (sp tb a g (me_up M9 po (.inr (3, ps_fs ta len a ps)))) n) (me_Qi D z0 (nmV t len ps) (psM tb a po ta len M9 g (nm1 t len ps)) n) 0 0 (me_A z0) := by
  refine me_open (by decide) (Nat.le_of_ble_eq_true rfl) ?_
  intro p e s m args below meth c ls hC hr hlk hnm hM hl
  have hl : lv_has ls 3 [(0, .ref po)] := hl
  have hx := hC.1
  have hb := hC.2.1
  have hw := hC.2.2.2.2.1
  obtain ⟨e1, e2, e3, e4, e5, e6⟩ := id hE
  obtain ⟨p1, p2, p3, p4⟩ := id hp
  have hq9 := pv_nx (t := t) hp
  obtain ⟨q1, q2, q3, q4⟩ := id hq9
  refine lv_aload_n hx hb dX3_name_0 rfl (lv_at hl 0 rfl) ?_
  refine me_callVv (As := []) (rest := []) hC hl.1 hM (c_X3_next l D tb X z0 n kK kV a po ta NN len g t M9 ps  hE hp) (kv_X3_38 hw rfl rfl ⟨Nat.le_of_ble_eq_true rfl, Nat.le_of_ble_eq_true rfl⟩) rfl rfl ((sp_out (by omega)).trans (me_up_s _ _ _)) rfl (Nat.le_of_ble_eq_true rfl) dX3_name_1 ⟨Nat.le_of_ble_eq_true rfl, Nat.le_of_ble_eq_true rfl⟩ (fun H locs hM => ?_)
  refine lv_aload_n hx hb dX3_name_4 rfl (lv_at hl 0 rfl) ?_
  refine fg_X3_15 hC hM ((sp_out (by omega)).trans (me_up_s _ _ _)) rfl dX3_name_5 ?_
  refine lv_iconst (v := 1) hx hb dX3_name_8 (by decide) ?_
  refine lv_icmp_ne (tgt := 26) hx hb dX3_name_9 (by decide) (fun c_1 => ?_) (fun c_1 => ?_)
  · have c_1 := (not_congr (br_eq rfl (show (1 : Int32) = nI 1 from rfl) (by omega) (by omega))).mp c_1
    refine lv_aload_n hx hb dX3_name_26 rfl (lv_at hl 0 rfl) ?_
    refine lv_iconst (v := 1) hx hb dX3_name_27 (by decide) ?_
    refine me_callVv (As := [.int 1]) (rest := []) hC hl.1 hM (c_X3_fail l D tb X z0 n kK kV a po ta NN len g t M9 (nxP t len ps) 1 hE (pv_nx (t := t) hp)) (kv_X3_47 hw rfl rfl ⟨Nat.le_of_ble_eq_true rfl, Nat.le_of_ble_eq_true rfl⟩) rfl rfl ((sp_out (by omega)).trans (me_up_s _ _ _)) rfl (Nat.le_of_ble_eq_true rfl) dX3_name_28 ⟨Nat.le_of_ble_eq_true rfl, Nat.le_of_ble_eq_true rfl⟩ (fun H locs hM => ?_)
    have hM := hM.eq (ps_eq (q' := nm1 t len ps) (if_pos (Or.inl c_1)).symm)
    have hm9 := pv_nm (t := t) hp
    obtain ⟨m1, m2, m3, m4⟩ := id hm9
    refine lv_iconst (v := 0) hx hb dX3_name_31 (by decide) ?_
    refine lv_istore_n (lv' := [(1, .int 0), (0, .ref po)]) hx hb dX3_name_32 rfl hl (by decide) rfl (fun ls hl => ?_)
    refine lv_aload_n hx hb dX3_name_33 rfl (lv_at hl 1 rfl) ?_
    refine fg_X3_18 hC hM ((sp_out (by omega)).trans (me_up_s _ _ _)) rfl dX3_name_34 ?_
    refine lv_istore_n (lv' := [(2, .int (nI (pTs (nm1 t len ps)))), (1, .int 0), (0, .ref po)]) hx hb dX3_name_37 rfl hl (by decide) rfl (fun ls hl => ?_)
    have lp_38 : ∀ (r : Nat) (i : Nat) (v : Int32) (H : Heap) (locs : List Loc) (ls : Array Slot), (i + r = pAt (nm1 t len ps)) → (pTs (nm1 t len ps) ≤ i) → (nmV t len ps = if pEk (nm1 t len ps) = 0 then nvP t r i v else v) → me_at D z0 (sp tb a g (me_up M9 po (.inr (3, ps_fs ta len a (nm1 t len ps))))) n s H locs → lv_has ls 3 [(0, .ref po), (1, .int v), (2, .int (nI i))] → W p l e (({ frames := 2, cells := 0, slots := 0, locals := 44 } : Room)) s m args below meth c H locs 0 0 (MQ below (me_Qi D z0 (nmV t len ps) (psM tb a po ta len M9 g (nm1 t len ps)) n) args s 0 0 (me_A z0)) (F0 m 38 ls []) := by
      intro r
      refine Nat.strongRecOn r ?_
      intro r ih_38 i v H locs ls hi hi0 hq hM hl
      refine lv_iload_n hx hb dX3_name_38 rfl (lv_at hl 2 rfl) ?_
      refine lv_aload_n hx hb dX3_name_39 rfl (lv_at hl 0 rfl) ?_
      refine fg_X3_9 hC hM ((sp_out (by omega)).trans (me_up_s _ _ _)) rfl dX3_name_40 ?_
      refine lv_icmp_ge (tgt := 70) hx hb dX3_name_43 (by decide) (fun c_2 => ?_) (fun c_2 => ?_)
      · have c_2 := (br_le rfl rfl (by omega) (by omega)).mp c_2
        refine lv_iload_n hx hb dX3_name_70 rfl (lv_at hl 1 rfl) ?_
        exact me_iret hC hr hlk hM (by rw [hq, show r = 0 by omega]; exact (ite_self _).symm) (rfl) (rfl) dX3_name_71
      · have c_2 := (not_congr (br_le rfl rfl (by omega) (by omega))).mp c_2
        obtain ⟨r1, rfl⟩ : ∃ r1, r = r1 + 1 := ⟨r - 1, by omega⟩
        refine lv_aload_n hx hb dX3_name_46 rfl (lv_at hl 0 rfl) ?_
        refine fg_X3_21 hC hM ((sp_out (by omega)).trans (me_up_s _ _ _)) rfl dX3_name_47 ?_
        refine lv_if_ne (tgt := 70) hx hb dX3_name_50 (by decide) (fun c_3 => ?_) (fun c_3 => ?_)
        · have c_3 := (not_congr (br_eq rfl (show (0 : Int32) = nI 0 from rfl) (by omega) (by omega))).mp c_3
          refine lv_iload_n hx hb dX3_name_70 rfl (lv_at hl 1 rfl) ?_
          exact me_iret hC hr hlk hM ((hq.trans (if_neg c_3)).symm) (rfl) (rfl) dX3_name_71
        · have c_3 := (br_eq rfl (show (0 : Int32) = nI 0 from rfl) (by omega) (by omega)).mp c_3
          refine lv_iload_n hx hb dX3_name_53 rfl (lv_at hl 1 rfl) ?_
          refine lv_aload_n hx hb dX3_name_54 rfl (lv_at hl 0 rfl) ?_
          refine fg_X3_27 hC hM ((sp_out (by omega)).trans (me_up_s _ _ _)) rfl dX3_name_55 ?_
          refine lv_iload_n hx hb dX3_name_58 rfl (lv_at hl 2 rfl) ?_
          refine me_bald (k := i) hC hM ((sp_out (by omega)).trans ((me_up_n (by omega)).trans e6)) rfl (by omega) (by first | decide | omega) dX3_name_59 ?_
          refine me_callSNi (nA := 2) (As := [.int v, .int (t i)]) (rest := []) hC hl.1 hM (c_X7_nameWith l D tb X z0 n _ v (t i)) (hN s hC.2.2.2.2.2.1.2).2.2.2.2.1 w_371 w_1 w_372 rfl rfl (by decide +kernel) ⟨Nat.le_of_ble_eq_true rfl, Nat.le_of_ble_eq_true rfl⟩ rfl rfl (Nat.le_of_ble_eq_true rfl) dX3_name_60 ⟨Nat.le_of_ble_eq_true rfl, Nat.le_of_ble_eq_true rfl⟩ (fun H locs hM => ?_)
          refine lv_istore_n (lv' := [(1, .int (nwF v (t i))), (0, .ref po), (2, .int (nI i))]) hx hb dX3_name_63 rfl hl (by decide) rfl (fun ls hl => ?_)
          refine lv_iinc (v := nI (i + 1)) (lv' := [(2, .int (nI (i + 1))), (1, .int (nwF v (t i))), (0, .ref po)]) hx hb dX3_name_64 hl (k := 2) rfl (nx_add rfl rfl) (by decide) rfl (fun ls hl => ?_)
          refine lv_goto (tgt := 38) hx hb dX3_name_67 (by decide) ?_
          exact ih_38 r1 (by omega) (i + 1) (nwF v (t i)) _ _ _ (by omega) (by omega) (hq.trans ((if_pos c_3).trans (if_pos (c := pEk (nm1 t len ps) = 0) c_3).symm)) hM (lv_sub hl [2, 1, 0] rfl)
    exact lp_38 (pAt (nm1 t len ps) - pTs (nm1 t len ps)) (pTs (nm1 t len ps)) 0 _ _ _ (by omega) (Nat.le_refl _) rfl hM (lv_sub hl [2, 1, 0] rfl)
  · have c_1 := (br_eq rfl (show (1 : Int32) = nI 1 from rfl) (by omega) (by omega)).mp c_1
    refine lv_aload_n hx hb dX3_name_12 rfl (lv_at hl 0 rfl) ?_
    refine fg_X3_9 hC hM ((sp_out (by omega)).trans (me_up_s _ _ _)) rfl dX3_name_13 ?_
    refine lv_aload_n hx hb dX3_name_16 rfl (lv_at hl 0 rfl) ?_
    refine fg_X3_18 hC hM ((sp_out (by omega)).trans (me_up_s _ _ _)) rfl dX3_name_17 ?_
    refine lv_isub hx hb dX3_name_20 ?_
    refine lv_bipush (v := 6) hx hb dX3_name_21 (by decide) ?_
    refine lv_icmp_le (tgt := 31) hx hb dX3_name_23 (by decide) (fun c_4 => ?_) (fun c_4 => ?_)
    · have c_4 := (br_le (nx_sub rfl rfl (by omega)) (nx_c 6) (by omega) (by omega)).mp c_4
      have hM := hM.eq (ps_eq (q' := nm1 t len ps) (if_neg (fun z => z.elim (fun w => w c_1) (fun w => absurd w (by omega)))).symm)
      have hm9 := pv_nm (t := t) hp
      obtain ⟨m1, m2, m3, m4⟩ := id hm9
      refine lv_iconst (v := 0) hx hb dX3_name_31 (by decide) ?_
      refine lv_istore_n (lv' := [(1, .int 0), (0, .ref po)]) hx hb dX3_name_32 rfl hl (by decide) rfl (fun ls hl => ?_)
      refine lv_aload_n hx hb dX3_name_33 rfl (lv_at hl 1 rfl) ?_
      refine fg_X3_18 hC hM ((sp_out (by omega)).trans (me_up_s _ _ _)) rfl dX3_name_34 ?_
      refine lv_istore_n (lv' := [(2, .int (nI (pTs (nm1 t len ps)))), (1, .int 0), (0, .ref po)]) hx hb dX3_name_37 rfl hl (by decide) rfl (fun ls hl => ?_)
      have lp_38 : ∀ (r : Nat) (i : Nat) (v : Int32) (H : Heap) (locs : List Loc) (ls : Array Slot), (i + r = pAt (nm1 t len ps)) → (pTs (nm1 t len ps) ≤ i) → (nmV t len ps = if pEk (nm1 t len ps) = 0 then nvP t r i v else v) → me_at D z0 (sp tb a g (me_up M9 po (.inr (3, ps_fs ta len a (nm1 t len ps))))) n s H locs → lv_has ls 3 [(0, .ref po), (1, .int v), (2, .int (nI i))] → W p l e (({ frames := 2, cells := 0, slots := 0, locals := 44 } : Room)) s m args below meth c H locs 0 0 (MQ below (me_Qi D z0 (nmV t len ps) (psM tb a po ta len M9 g (nm1 t len ps)) n) args s 0 0 (me_A z0)) (F0 m 38 ls []) := by
        intro r
        refine Nat.strongRecOn r ?_
        intro r ih_38 i v H locs ls hi hi0 hq hM hl
        refine lv_iload_n hx hb dX3_name_38 rfl (lv_at hl 2 rfl) ?_
        refine lv_aload_n hx hb dX3_name_39 rfl (lv_at hl 0 rfl) ?_
        refine fg_X3_9 hC hM ((sp_out (by omega)).trans (me_up_s _ _ _)) rfl dX3_name_40 ?_
        refine lv_icmp_ge (tgt := 70) hx hb dX3_name_43 (by decide) (fun c_5 => ?_) (fun c_5 => ?_)
        · have c_5 := (br_le rfl rfl (by omega) (by omega)).mp c_5
          refine lv_iload_n hx hb dX3_name_70 rfl (lv_at hl 1 rfl) ?_
          exact me_iret hC hr hlk hM (by rw [hq, show r = 0 by omega]; exact (ite_self _).symm) (rfl) (rfl) dX3_name_71
        · have c_5 := (not_congr (br_le rfl rfl (by omega) (by omega))).mp c_5
          obtain ⟨r1, rfl⟩ : ∃ r1, r = r1 + 1 := ⟨r - 1, by omega⟩
          refine lv_aload_n hx hb dX3_name_46 rfl (lv_at hl 0 rfl) ?_
          refine fg_X3_21 hC hM ((sp_out (by omega)).trans (me_up_s _ _ _)) rfl dX3_name_47 ?_
          refine lv_if_ne (tgt := 70) hx hb dX3_name_50 (by decide) (fun c_6 => ?_) (fun c_6 => ?_)
          · have c_6 := (not_congr (br_eq rfl (show (0 : Int32) = nI 0 from rfl) (by omega) (by omega))).mp c_6
            refine lv_iload_n hx hb dX3_name_70 rfl (lv_at hl 1 rfl) ?_
            exact me_iret hC hr hlk hM ((hq.trans (if_neg c_6)).symm) (rfl) (rfl) dX3_name_71
          · have c_6 := (br_eq rfl (show (0 : Int32) = nI 0 from rfl) (by omega) (by omega)).mp c_6
            refine lv_iload_n hx hb dX3_name_53 rfl (lv_at hl 1 rfl) ?_
            refine lv_aload_n hx hb dX3_name_54 rfl (lv_at hl 0 rfl) ?_
            refine fg_X3_27 hC hM ((sp_out (by omega)).trans (me_up_s _ _ _)) rfl dX3_name_55 ?_
            refine lv_iload_n hx hb dX3_name_58 rfl (lv_at hl 2 rfl) ?_
            refine me_bald (k := i) hC hM ((sp_out (by omega)).trans ((me_up_n (by omega)).trans e6)) rfl (by omega) (by first | decide | omega) dX3_name_59 ?_
            refine me_callSNi (nA := 2) (As := [.int v, .int (t i)]) (rest := []) hC hl.1 hM (c_X7_nameWith l D tb X z0 n _ v (t i)) (hN s hC.2.2.2.2.2.1.2).2.2.2.2.1 w_371 w_1 w_372 rfl rfl (by decide +kernel) ⟨Nat.le_of_ble_eq_true rfl, Nat.le_of_ble_eq_true rfl⟩ rfl rfl (Nat.le_of_ble_eq_true rfl) dX3_name_60 ⟨Nat.le_of_ble_eq_true rfl, Nat.le_of_ble_eq_true rfl⟩ (fun H locs hM => ?_)
            refine lv_istore_n (lv' := [(1, .int (nwF v (t i))), (0, .ref po), (2, .int (nI i))]) hx hb dX3_name_63 rfl hl (by decide) rfl (fun ls hl => ?_)
            refine lv_iinc (v := nI (i + 1)) (lv' := [(2, .int (nI (i + 1))), (1, .int (nwF v (t i))), (0, .ref po)]) hx hb dX3_name_64 hl (k := 2) rfl (nx_add rfl rfl) (by decide) rfl (fun ls hl => ?_)
            refine lv_goto (tgt := 38) hx hb dX3_name_67 (by decide) ?_
            exact ih_38 r1 (by omega) (i + 1) (nwF v (t i)) _ _ _ (by omega) (by omega) (hq.trans ((if_pos c_6).trans (if_pos (c := pEk (nm1 t len ps) = 0) c_6).symm)) hM (lv_sub hl [2, 1, 0] rfl)
      exact lp_38 (pAt (nm1 t len ps) - pTs (nm1 t len ps)) (pTs (nm1 t len ps)) 0 _ _ _ (by omega) (Nat.le_refl _) rfl hM (lv_sub hl [2, 1, 0] rfl)
    · have c_4 := (not_congr (br_le (nx_sub rfl rfl (by omega)) (nx_c 6) (by omega) (by omega))).mp c_4
      refine lv_aload_n hx hb dX3_name_26 rfl (lv_at hl 0 rfl) ?_
      refine lv_iconst (v := 1) hx hb dX3_name_27 (by decide) ?_
      refine me_callVv (As := [.int 1]) (rest := []) hC hl.1 hM (c_X3_fail l D tb X z0 n kK kV a po ta NN len g t M9 (nxP t len ps) 1 hE (pv_nx (t := t) hp)) (kv_X3_47 hw rfl rfl ⟨Nat.le_of_ble_eq_true rfl, Nat.le_of_ble_eq_true rfl⟩) rfl rfl ((sp_out (by omega)).trans (me_up_s _ _ _)) rfl (Nat.le_of_ble_eq_true rfl) dX3_name_28 ⟨Nat.le_of_ble_eq_true rfl, Nat.le_of_ble_eq_true rfl⟩ (fun H locs hM => ?_)
      have hM := hM.eq (ps_eq (q' := nm1 t len ps) (if_pos (Or.inr (by omega))).symm)
      have hm9 := pv_nm (t := t) hp
      obtain ⟨m1, m2, m3, m4⟩ := id hm9
      refine lv_iconst (v := 0) hx hb dX3_name_31 (by decide) ?_
      refine lv_istore_n (lv' := [(1, .int 0), (0, .ref po)]) hx hb dX3_name_32 rfl hl (by decide) rfl (fun ls hl => ?_)
      refine lv_aload_n hx hb dX3_name_33 rfl (lv_at hl 1 rfl) ?_
      refine fg_X3_18 hC hM ((sp_out (by omega)).trans (me_up_s _ _ _)) rfl dX3_name_34 ?_
      refine lv_istore_n (lv' := [(2, .int (nI (pTs (nm1 t len ps)))), (1, .int 0), (0, .ref po)]) hx hb dX3_name_37 rfl hl (by decide) rfl (fun ls hl => ?_)
      have lp_38 : ∀ (r : Nat) (i : Nat) (v : Int32) (H : Heap) (locs : List Loc) (ls : Array Slot), (i + r = pAt (nm1 t len ps)) → (pTs (nm1 t len ps) ≤ i) → (nmV t len ps = if pEk (nm1 t len ps) = 0 then nvP t r i v else v) → me_at D z0 (sp tb a g (me_up M9 po (.inr (3, ps_fs ta len a (nm1 t len ps))))) n s H locs → lv_has ls 3 [(0, .ref po), (1, .int v), (2, .int (nI i))] → W p l e (({ frames := 2, cells := 0, slots := 0, locals := 44 } : Room)) s m args below meth c H locs 0 0 (MQ below (me_Qi D z0 (nmV t len ps) (psM tb a po ta len M9 g (nm1 t len ps)) n) args s 0 0 (me_A z0)) (F0 m 38 ls []) := by
        intro r
        refine Nat.strongRecOn r ?_
        intro r ih_38 i v H locs ls hi hi0 hq hM hl
        refine lv_iload_n hx hb dX3_name_38 rfl (lv_at hl 2 rfl) ?_
        refine lv_aload_n hx hb dX3_name_39 rfl (lv_at hl 0 rfl) ?_
        refine fg_X3_9 hC hM ((sp_out (by omega)).trans (me_up_s _ _ _)) rfl dX3_name_40 ?_
        refine lv_icmp_ge (tgt := 70) hx hb dX3_name_43 (by decide) (fun c_7 => ?_) (fun c_7 => ?_)
        · have c_7 := (br_le rfl rfl (by omega) (by omega)).mp c_7
          refine lv_iload_n hx hb dX3_name_70 rfl (lv_at hl 1 rfl) ?_
          exact me_iret hC hr hlk hM (by rw [hq, show r = 0 by omega]; exact (ite_self _).symm) (rfl) (rfl) dX3_name_71
        · have c_7 := (not_congr (br_le rfl rfl (by omega) (by omega))).mp c_7
          obtain ⟨r1, rfl⟩ : ∃ r1, r = r1 + 1 := ⟨r - 1, by omega⟩
          refine lv_aload_n hx hb dX3_name_46 rfl (lv_at hl 0 rfl) ?_
          refine fg_X3_21 hC hM ((sp_out (by omega)).trans (me_up_s _ _ _)) rfl dX3_name_47 ?_
          refine lv_if_ne (tgt := 70) hx hb dX3_name_50 (by decide) (fun c_8 => ?_) (fun c_8 => ?_)
          · have c_8 := (not_congr (br_eq rfl (show (0 : Int32) = nI 0 from rfl) (by omega) (by omega))).mp c_8
            refine lv_iload_n hx hb dX3_name_70 rfl (lv_at hl 1 rfl) ?_
            exact me_iret hC hr hlk hM ((hq.trans (if_neg c_8)).symm) (rfl) (rfl) dX3_name_71
          · have c_8 := (br_eq rfl (show (0 : Int32) = nI 0 from rfl) (by omega) (by omega)).mp c_8
            refine lv_iload_n hx hb dX3_name_53 rfl (lv_at hl 1 rfl) ?_
            refine lv_aload_n hx hb dX3_name_54 rfl (lv_at hl 0 rfl) ?_
            refine fg_X3_27 hC hM ((sp_out (by omega)).trans (me_up_s _ _ _)) rfl dX3_name_55 ?_
            refine lv_iload_n hx hb dX3_name_58 rfl (lv_at hl 2 rfl) ?_
            refine me_bald (k := i) hC hM ((sp_out (by omega)).trans ((me_up_n (by omega)).trans e6)) rfl (by omega) (by first | decide | omega) dX3_name_59 ?_
            refine me_callSNi (nA := 2) (As := [.int v, .int (t i)]) (rest := []) hC hl.1 hM (c_X7_nameWith l D tb X z0 n _ v (t i)) (hN s hC.2.2.2.2.2.1.2).2.2.2.2.1 w_371 w_1 w_372 rfl rfl (by decide +kernel) ⟨Nat.le_of_ble_eq_true rfl, Nat.le_of_ble_eq_true rfl⟩ rfl rfl (Nat.le_of_ble_eq_true rfl) dX3_name_60 ⟨Nat.le_of_ble_eq_true rfl, Nat.le_of_ble_eq_true rfl⟩ (fun H locs hM => ?_)
            refine lv_istore_n (lv' := [(1, .int (nwF v (t i))), (0, .ref po), (2, .int (nI i))]) hx hb dX3_name_63 rfl hl (by decide) rfl (fun ls hl => ?_)
            refine lv_iinc (v := nI (i + 1)) (lv' := [(2, .int (nI (i + 1))), (1, .int (nwF v (t i))), (0, .ref po)]) hx hb dX3_name_64 hl (k := 2) rfl (nx_add rfl rfl) (by decide) rfl (fun ls hl => ?_)
            refine lv_goto (tgt := 38) hx hb dX3_name_67 (by decide) ?_
            exact ih_38 r1 (by omega) (i + 1) (nwF v (t i)) _ _ _ (by omega) (by omega) (hq.trans ((if_pos c_8).trans (if_pos (c := pEk (nm1 t len ps) = 0) c_8).symm)) hM (lv_sub hl [2, 1, 0] rfl)
      exact lp_38 (pAt (nm1 t len ps) - pTs (nm1 t len ps)) (pTs (nm1 t len ps)) 0 _ _ _ (by omega) (Nat.le_refl _) rfl hM (lv_sub hl [2, 1, 0] rfl)
set_option maxHeartbeats 4000000 in
theorem c_X3_number (l : Launch) (D : va_G) (tb : Nat → ClassId) (X : State → Prop) (z0 n : Nat) (kK kV : Nat → Nat) (a po ta NN len : Nat) (g t : Nat → Int32) (M9 : me_M) (ps : PS) (A B : Int32)  (hE : psE tb a po ta NN len t M9) (hp : pvP len ps) : Met l yX3_number (.code yX3_number cX3_number 5 (some .int) :: ws_all) ({ frames := 2, cells := 0, slots := 0, locals := 44 } : Room) (me_Pc [.ref po, .int A, .int B] D tb X z0 (sp tb a g (me_up M9 po (.inr (3, ps_fs ta len a ps)))) n) (me_Qi D z0 (nuV t len A B ps) (psM tb a po ta len M9 g (nuP t len A B ps)) n) 0 0 (me_A z0) := by
  refine me_open (by decide) (Nat.le_of_ble_eq_true rfl) ?_
  intro p e s m args below meth c ls hC hr hlk hnm hM hl
  have hl : lv_has ls 5 [(0, .ref po), (1, .int A), (2, .int B)] := hl
  have hx := hC.1
  have hb := hC.2.1
  have hw := hC.2.2.2.2.1
  obtain ⟨e1, e2, e3, e4, e5, e6⟩ := id hE
  obtain ⟨p1, p2, p3, p4⟩ := id hp
  have hq9 := pv_nx (t := t) hp
  obtain ⟨q1, q2, q3, q4⟩ := id hq9
  refine lv_aload_n hx hb dX3_number_0 rfl (lv_at hl 0 rfl) ?_
  refine me_callVv (As := []) (rest := []) hC hl.1 hM (c_X3_next l D tb X z0 n kK kV a po ta NN len g t M9 ps  hE hp) (kv_X3_38 hw rfl rfl ⟨Nat.le_of_ble_eq_true rfl, Nat.le_of_ble_eq_true rfl⟩) rfl rfl ((sp_out (by omega)).trans (me_up_s _ _ _)) rfl (Nat.le_of_ble_eq_true rfl) dX3_number_1 ⟨Nat.le_of_ble_eq_true rfl, Nat.le_of_ble_eq_true rfl⟩ (fun H locs hM => ?_)
  refine lv_aload_n hx hb dX3_number_4 rfl (lv_at hl 0 rfl) ?_
  refine fg_X3_15 hC hM ((sp_out (by omega)).trans (me_up_s _ _ _)) rfl dX3_number_5 ?_
  refine lv_iconst (v := 2) hx hb dX3_number_8 (by decide) ?_
  refine lv_icmp_ne (tgt := 25) hx hb dX3_number_9 (by decide) (fun c_1 => ?_) (fun c_1 => ?_)
  · have c_1 := (not_congr (br_eq rfl (nx_c 2) (by omega) (by omega))).mp c_1
    refine lv_aload_n hx hb dX3_number_25 rfl (lv_at hl 0 rfl) ?_
    refine lv_iconst (v := 1) hx hb dX3_number_26 (by decide) ?_
    refine me_callVv (As := [.int 1]) (rest := []) hC hl.1 hM (c_X3_fail l D tb X z0 n kK kV a po ta NN len g t M9 (nxP t len ps) 1 hE (pv_nx (t := t) hp)) (kv_X3_47 hw rfl rfl ⟨Nat.le_of_ble_eq_true rfl, Nat.le_of_ble_eq_true rfl⟩) rfl rfl ((sp_out (by omega)).trans (me_up_s _ _ _)) rfl (Nat.le_of_ble_eq_true rfl) dX3_number_27 ⟨Nat.le_of_ble_eq_true rfl, Nat.le_of_ble_eq_true rfl⟩ (fun H locs hM => ?_)
    have hM := hM.eq (ps_eq (q' := nu1 t len ps) (if_pos (Or.inl c_1)).symm)
    have hm9 := pv_n1 (t := t) hp
    obtain ⟨m1, m2, m3, m4⟩ := id hm9
    refine lv_iconst (v := 0) hx hb dX3_number_30 (by decide) ?_
    refine lv_istore_n (lv' := [(3, .int 0), (0, .ref po), (1, .int A), (2, .int B)]) hx hb dX3_number_31 rfl hl (by decide) rfl (fun ls hl => ?_)
    refine lv_aload_n hx hb dX3_number_32 rfl (lv_at hl 1 rfl) ?_
    refine fg_X3_18 hC hM ((sp_out (by omega)).trans (me_up_s _ _ _)) rfl dX3_number_33 ?_
    refine lv_istore (lv' := [(4, .int (nI (pTs (nu1 t len ps)))), (3, .int 0), (0, .ref po), (1, .int A), (2, .int B)]) hx hb dX3_number_36 hl (by decide) rfl (fun ls hl => ?_)
    have lp_38 : ∀ (r : Nat) (i : Nat) (v : Int32) (H : Heap) (locs : List Loc) (ls : Array Slot), (i + r = pAt (nu1 t len ps)) → (pTs (nu1 t len ps) ≤ i) → (nu2 t len ps = if pEk (nu1 t len ps) = 0 then vaP t r i v else v) → me_at D z0 (sp tb a g (me_up M9 po (.inr (3, ps_fs ta len a (nu1 t len ps))))) n s H locs → lv_has ls 5 [(0, .ref po), (1, .int A), (2, .int B), (3, .int v), (4, .int (nI i))] → W p l e (({ frames := 2, cells := 0, slots := 0, locals := 44 } : Room)) s m args below meth c H locs 0 0 (MQ below (me_Qi D z0 (nuV t len A B ps) (psM tb a po ta len M9 g (nuP t len A B ps)) n) args s 0 0 (me_A z0)) (F0 m 38 ls []) := by
      intro r
      refine Nat.strongRecOn r ?_
      intro r ih_38 i v H locs ls hi hi0 hq hM hl
      refine lv_iload hx hb dX3_number_38 (lv_at hl 4 rfl) ?_
      refine lv_aload_n hx hb dX3_number_40 rfl (lv_at hl 0 rfl) ?_
      refine fg_X3_9 hC hM ((sp_out (by omega)).trans (me_up_s _ _ _)) rfl dX3_number_41 ?_
      refine lv_icmp_ge (tgt := 76) hx hb dX3_number_44 (by decide) (fun c_2 => ?_) (fun c_2 => ?_)
      · have c_2 := (br_le rfl rfl (by omega) (by omega)).mp c_2
        have hv2 : nu2 t len ps = v := by rw [hq, show r = 0 by omega]; exact ite_self _
        refine lv_iload_n hx hb dX3_number_76 rfl (lv_at hl 3 rfl) ?_
        refine lv_iload_n hx hb dX3_number_77 rfl (lv_at hl 1 rfl) ?_
        refine lv_icmp_lt (tgt := 86) hx hb dX3_number_78 (by decide) (fun c_3 => ?_) (fun c_3 => ?_)
        · have c_3q := Int32.not_le.mpr c_3
          refine lv_aload_n hx hb dX3_number_86 rfl (lv_at hl 0 rfl) ?_
          refine lv_iconst (v := 2) hx hb dX3_number_87 (by decide) ?_
          refine me_callVv (As := [.int 2]) (rest := []) hC hl.1 hM (c_X3_fail l D tb X z0 n kK kV a po ta NN len g t M9 (nu1 t len ps) 2 hE hm9) (kv_X3_47 hw rfl rfl ⟨Nat.le_of_ble_eq_true rfl, Nat.le_of_ble_eq_true rfl⟩) rfl rfl ((sp_out (by omega)).trans (me_up_s _ _ _)) rfl (Nat.le_of_ble_eq_true rfl) dX3_number_88 ⟨Nat.le_of_ble_eq_true rfl, Nat.le_of_ble_eq_true rfl⟩ (fun H locs hM => ?_)
          have hM := hM.eq (ps_eq (q' := nuP t len A B ps) (if_pos (Or.inl (by rw [hv2]; exact c_3))).symm)
          have hn9 := pv_nu (t := t) (a := A) (b := B) hp
          obtain ⟨n1, n2, n3, n4⟩ := id hn9
          refine lv_aload_n hx hb dX3_number_91 rfl (lv_at hl 0 rfl) ?_
          refine fg_X3_21 hC hM ((sp_out (by omega)).trans (me_up_s _ _ _)) rfl dX3_number_92 ?_
          refine lv_if_ne (tgt := 102) hx hb dX3_number_95 (by decide) (fun c_4 => ?_) (fun c_4 => ?_)
          · have c_4 := (not_congr (br_eq rfl (show (0 : Int32) = nI 0 from rfl) (by omega) (by omega))).mp c_4
            refine lv_iconst (v := 0) hx hb dX3_number_102 (by decide) ?_
            exact me_iret hC hr hlk hM ((if_neg c_4).symm) (rfl) (rfl) dX3_number_103
          · have c_4 := (br_eq rfl (show (0 : Int32) = nI 0 from rfl) (by omega) (by omega)).mp c_4
            refine lv_iload_n hx hb dX3_number_98 rfl (lv_at hl 3 rfl) ?_
            refine lv_goto (tgt := 103) hx hb dX3_number_99 (by decide) ?_
            exact me_iret hC hr hlk hM (hv2.symm.trans (if_pos c_4).symm) (rfl) (rfl) dX3_number_103
        · have c_3q := Int32.not_lt.mp c_3
          refine lv_iload_n hx hb dX3_number_81 rfl (lv_at hl 3 rfl) ?_
          refine lv_iload_n hx hb dX3_number_82 rfl (lv_at hl 2 rfl) ?_
          refine lv_icmp_le (tgt := 91) hx hb dX3_number_83 (by decide) (fun c_5 => ?_) (fun c_5 => ?_)
          · have c_5q := c_5
            have c_5 := Int32.not_lt.mpr c_5
            have hM := hM.eq (ps_eq (q' := nuP t len A B ps) (if_neg (by rw [hv2]; exact fun z => z.elim c_3 c_5)).symm)
            have hn9 := pv_nu (t := t) (a := A) (b := B) hp
            obtain ⟨n1, n2, n3, n4⟩ := id hn9
            refine lv_aload_n hx hb dX3_number_91 rfl (lv_at hl 0 rfl) ?_
            refine fg_X3_21 hC hM ((sp_out (by omega)).trans (me_up_s _ _ _)) rfl dX3_number_92 ?_
            refine lv_if_ne (tgt := 102) hx hb dX3_number_95 (by decide) (fun c_6 => ?_) (fun c_6 => ?_)
            · have c_6 := (not_congr (br_eq rfl (show (0 : Int32) = nI 0 from rfl) (by omega) (by omega))).mp c_6
              refine lv_iconst (v := 0) hx hb dX3_number_102 (by decide) ?_
              exact me_iret hC hr hlk hM ((if_neg c_6).symm) (rfl) (rfl) dX3_number_103
            · have c_6 := (br_eq rfl (show (0 : Int32) = nI 0 from rfl) (by omega) (by omega)).mp c_6
              refine lv_iload_n hx hb dX3_number_98 rfl (lv_at hl 3 rfl) ?_
              refine lv_goto (tgt := 103) hx hb dX3_number_99 (by decide) ?_
              exact me_iret hC hr hlk hM (hv2.symm.trans (if_pos c_6).symm) (rfl) (rfl) dX3_number_103
          · have c_5q := c_5
            have c_5 := Int32.not_le.mp c_5
            refine lv_aload_n hx hb dX3_number_86 rfl (lv_at hl 0 rfl) ?_
            refine lv_iconst (v := 2) hx hb dX3_number_87 (by decide) ?_
            refine me_callVv (As := [.int 2]) (rest := []) hC hl.1 hM (c_X3_fail l D tb X z0 n kK kV a po ta NN len g t M9 (nu1 t len ps) 2 hE hm9) (kv_X3_47 hw rfl rfl ⟨Nat.le_of_ble_eq_true rfl, Nat.le_of_ble_eq_true rfl⟩) rfl rfl ((sp_out (by omega)).trans (me_up_s _ _ _)) rfl (Nat.le_of_ble_eq_true rfl) dX3_number_88 ⟨Nat.le_of_ble_eq_true rfl, Nat.le_of_ble_eq_true rfl⟩ (fun H locs hM => ?_)
            have hM := hM.eq (ps_eq (q' := nuP t len A B ps) (if_pos (Or.inr (by rw [hv2]; exact c_5))).symm)
            have hn9 := pv_nu (t := t) (a := A) (b := B) hp
            obtain ⟨n1, n2, n3, n4⟩ := id hn9
            refine lv_aload_n hx hb dX3_number_91 rfl (lv_at hl 0 rfl) ?_
            refine fg_X3_21 hC hM ((sp_out (by omega)).trans (me_up_s _ _ _)) rfl dX3_number_92 ?_
            refine lv_if_ne (tgt := 102) hx hb dX3_number_95 (by decide) (fun c_7 => ?_) (fun c_7 => ?_)
            · have c_7 := (not_congr (br_eq rfl (show (0 : Int32) = nI 0 from rfl) (by omega) (by omega))).mp c_7
              refine lv_iconst (v := 0) hx hb dX3_number_102 (by decide) ?_
              exact me_iret hC hr hlk hM ((if_neg c_7).symm) (rfl) (rfl) dX3_number_103
            · have c_7 := (br_eq rfl (show (0 : Int32) = nI 0 from rfl) (by omega) (by omega)).mp c_7
              refine lv_iload_n hx hb dX3_number_98 rfl (lv_at hl 3 rfl) ?_
              refine lv_goto (tgt := 103) hx hb dX3_number_99 (by decide) ?_
              exact me_iret hC hr hlk hM (hv2.symm.trans (if_pos c_7).symm) (rfl) (rfl) dX3_number_103
      · have c_2 := (not_congr (br_le rfl rfl (by omega) (by omega))).mp c_2
        obtain ⟨r1, rfl⟩ : ∃ r1, r = r1 + 1 := ⟨r - 1, by omega⟩
        refine lv_aload_n hx hb dX3_number_47 rfl (lv_at hl 0 rfl) ?_
        refine fg_X3_21 hC hM ((sp_out (by omega)).trans (me_up_s _ _ _)) rfl dX3_number_48 ?_
        refine lv_if_ne (tgt := 76) hx hb dX3_number_51 (by decide) (fun c_8 => ?_) (fun c_8 => ?_)
        · have c_8 := (not_congr (br_eq rfl (show (0 : Int32) = nI 0 from rfl) (by omega) (by omega))).mp c_8
          have hv2 : nu2 t len ps = v := hq.trans (if_neg c_8)
          refine lv_iload_n hx hb dX3_number_76 rfl (lv_at hl 3 rfl) ?_
          refine lv_iload_n hx hb dX3_number_77 rfl (lv_at hl 1 rfl) ?_
          refine lv_icmp_lt (tgt := 86) hx hb dX3_number_78 (by decide) (fun c_9 => ?_) (fun c_9 => ?_)
          · have c_9q := Int32.not_le.mpr c_9
            refine lv_aload_n hx hb dX3_number_86 rfl (lv_at hl 0 rfl) ?_
            refine lv_iconst (v := 2) hx hb dX3_number_87 (by decide) ?_
            refine me_callVv (As := [.int 2]) (rest := []) hC hl.1 hM (c_X3_fail l D tb X z0 n kK kV a po ta NN len g t M9 (nu1 t len ps) 2 hE hm9) (kv_X3_47 hw rfl rfl ⟨Nat.le_of_ble_eq_true rfl, Nat.le_of_ble_eq_true rfl⟩) rfl rfl ((sp_out (by omega)).trans (me_up_s _ _ _)) rfl (Nat.le_of_ble_eq_true rfl) dX3_number_88 ⟨Nat.le_of_ble_eq_true rfl, Nat.le_of_ble_eq_true rfl⟩ (fun H locs hM => ?_)
            have hM := hM.eq (ps_eq (q' := nuP t len A B ps) (if_pos (Or.inl (by rw [hv2]; exact c_9))).symm)
            have hn9 := pv_nu (t := t) (a := A) (b := B) hp
            obtain ⟨n1, n2, n3, n4⟩ := id hn9
            refine lv_aload_n hx hb dX3_number_91 rfl (lv_at hl 0 rfl) ?_
            refine fg_X3_21 hC hM ((sp_out (by omega)).trans (me_up_s _ _ _)) rfl dX3_number_92 ?_
            refine lv_if_ne (tgt := 102) hx hb dX3_number_95 (by decide) (fun c_10 => ?_) (fun c_10 => ?_)
            · have c_10 := (not_congr (br_eq rfl (show (0 : Int32) = nI 0 from rfl) (by omega) (by omega))).mp c_10
              refine lv_iconst (v := 0) hx hb dX3_number_102 (by decide) ?_
              exact me_iret hC hr hlk hM ((if_neg c_10).symm) (rfl) (rfl) dX3_number_103
            · have c_10 := (br_eq rfl (show (0 : Int32) = nI 0 from rfl) (by omega) (by omega)).mp c_10
              refine lv_iload_n hx hb dX3_number_98 rfl (lv_at hl 3 rfl) ?_
              refine lv_goto (tgt := 103) hx hb dX3_number_99 (by decide) ?_
              exact me_iret hC hr hlk hM (hv2.symm.trans (if_pos c_10).symm) (rfl) (rfl) dX3_number_103
          · have c_9q := Int32.not_lt.mp c_9
            refine lv_iload_n hx hb dX3_number_81 rfl (lv_at hl 3 rfl) ?_
            refine lv_iload_n hx hb dX3_number_82 rfl (lv_at hl 2 rfl) ?_
            refine lv_icmp_le (tgt := 91) hx hb dX3_number_83 (by decide) (fun c_11 => ?_) (fun c_11 => ?_)
            · have c_11q := c_11
              have c_11 := Int32.not_lt.mpr c_11
              have hM := hM.eq (ps_eq (q' := nuP t len A B ps) (if_neg (by rw [hv2]; exact fun z => z.elim c_9 c_11)).symm)
              have hn9 := pv_nu (t := t) (a := A) (b := B) hp
              obtain ⟨n1, n2, n3, n4⟩ := id hn9
              refine lv_aload_n hx hb dX3_number_91 rfl (lv_at hl 0 rfl) ?_
              refine fg_X3_21 hC hM ((sp_out (by omega)).trans (me_up_s _ _ _)) rfl dX3_number_92 ?_
              refine lv_if_ne (tgt := 102) hx hb dX3_number_95 (by decide) (fun c_12 => ?_) (fun c_12 => ?_)
              · have c_12 := (not_congr (br_eq rfl (show (0 : Int32) = nI 0 from rfl) (by omega) (by omega))).mp c_12
                refine lv_iconst (v := 0) hx hb dX3_number_102 (by decide) ?_
                exact me_iret hC hr hlk hM ((if_neg c_12).symm) (rfl) (rfl) dX3_number_103
              · have c_12 := (br_eq rfl (show (0 : Int32) = nI 0 from rfl) (by omega) (by omega)).mp c_12
                refine lv_iload_n hx hb dX3_number_98 rfl (lv_at hl 3 rfl) ?_
                refine lv_goto (tgt := 103) hx hb dX3_number_99 (by decide) ?_
                exact me_iret hC hr hlk hM (hv2.symm.trans (if_pos c_12).symm) (rfl) (rfl) dX3_number_103
            · have c_11q := c_11
              have c_11 := Int32.not_le.mp c_11
              refine lv_aload_n hx hb dX3_number_86 rfl (lv_at hl 0 rfl) ?_
              refine lv_iconst (v := 2) hx hb dX3_number_87 (by decide) ?_
              refine me_callVv (As := [.int 2]) (rest := []) hC hl.1 hM (c_X3_fail l D tb X z0 n kK kV a po ta NN len g t M9 (nu1 t len ps) 2 hE hm9) (kv_X3_47 hw rfl rfl ⟨Nat.le_of_ble_eq_true rfl, Nat.le_of_ble_eq_true rfl⟩) rfl rfl ((sp_out (by omega)).trans (me_up_s _ _ _)) rfl (Nat.le_of_ble_eq_true rfl) dX3_number_88 ⟨Nat.le_of_ble_eq_true rfl, Nat.le_of_ble_eq_true rfl⟩ (fun H locs hM => ?_)
              have hM := hM.eq (ps_eq (q' := nuP t len A B ps) (if_pos (Or.inr (by rw [hv2]; exact c_11))).symm)
              have hn9 := pv_nu (t := t) (a := A) (b := B) hp
              obtain ⟨n1, n2, n3, n4⟩ := id hn9
              refine lv_aload_n hx hb dX3_number_91 rfl (lv_at hl 0 rfl) ?_
              refine fg_X3_21 hC hM ((sp_out (by omega)).trans (me_up_s _ _ _)) rfl dX3_number_92 ?_
              refine lv_if_ne (tgt := 102) hx hb dX3_number_95 (by decide) (fun c_13 => ?_) (fun c_13 => ?_)
              · have c_13 := (not_congr (br_eq rfl (show (0 : Int32) = nI 0 from rfl) (by omega) (by omega))).mp c_13
                refine lv_iconst (v := 0) hx hb dX3_number_102 (by decide) ?_
                exact me_iret hC hr hlk hM ((if_neg c_13).symm) (rfl) (rfl) dX3_number_103
              · have c_13 := (br_eq rfl (show (0 : Int32) = nI 0 from rfl) (by omega) (by omega)).mp c_13
                refine lv_iload_n hx hb dX3_number_98 rfl (lv_at hl 3 rfl) ?_
                refine lv_goto (tgt := 103) hx hb dX3_number_99 (by decide) ?_
                exact me_iret hC hr hlk hM (hv2.symm.trans (if_pos c_13).symm) (rfl) (rfl) dX3_number_103
        · have c_8 := (br_eq rfl (show (0 : Int32) = nI 0 from rfl) (by omega) (by omega)).mp c_8
          refine lv_bipush (v := 10) hx hb dX3_number_54 (by decide) ?_
          refine lv_iload_n hx hb dX3_number_56 rfl (lv_at hl 3 rfl) ?_
          refine lv_imul hx hb dX3_number_57 ?_
          refine lv_aload_n hx hb dX3_number_58 rfl (lv_at hl 0 rfl) ?_
          refine fg_X3_27 hC hM ((sp_out (by omega)).trans (me_up_s _ _ _)) rfl dX3_number_59 ?_
          refine lv_iload hx hb dX3_number_62 (lv_at hl 4 rfl) ?_
          refine me_bald (k := i) hC hM ((sp_out (by omega)).trans ((me_up_n (by omega)).trans e6)) rfl (by omega) (by first | decide | omega) dX3_number_64 ?_
          refine lv_iadd hx hb dX3_number_65 ?_
          refine lv_bipush (v := 48) hx hb dX3_number_66 (by decide) ?_
          refine lv_isub hx hb dX3_number_68 ?_
          refine lv_istore_n (lv' := [(3, .int (((10 * v) + (t i)) - 48)), (0, .ref po), (1, .int A), (2, .int B), (4, .int (nI i))]) hx hb dX3_number_69 rfl hl (by decide) rfl (fun ls hl => ?_)
          refine lv_iinc (v := nI (i + 1)) (lv' := [(4, .int (nI (i + 1))), (3, .int (((10 * v) + (t i)) - 48)), (0, .ref po), (1, .int A), (2, .int B)]) hx hb dX3_number_70 hl (k := 4) rfl (nx_add rfl rfl) (by decide) rfl (fun ls hl => ?_)
          refine lv_goto (tgt := 38) hx hb dX3_number_73 (by decide) ?_
          exact ih_38 r1 (by omega) (i + 1) (10 * v + t i - 48) _ _ _ (by omega) (by omega) (hq.trans ((if_pos c_8).trans (if_pos (c := pEk (nu1 t len ps) = 0) c_8).symm)) hM (lv_sub hl [2, 3, 4, 1, 0] rfl)
    exact lp_38 (pAt (nu1 t len ps) - pTs (nu1 t len ps)) (pTs (nu1 t len ps)) 0 _ _ _ (by omega) (Nat.le_refl _) rfl hM (lv_sub hl [2, 3, 4, 1, 0] rfl)
  · have c_1 := (br_eq rfl (nx_c 2) (by omega) (by omega)).mp c_1
    refine lv_aload_n hx hb dX3_number_12 rfl (lv_at hl 0 rfl) ?_
    refine fg_X3_9 hC hM ((sp_out (by omega)).trans (me_up_s _ _ _)) rfl dX3_number_13 ?_
    refine lv_aload_n hx hb dX3_number_16 rfl (lv_at hl 0 rfl) ?_
    refine fg_X3_18 hC hM ((sp_out (by omega)).trans (me_up_s _ _ _)) rfl dX3_number_17 ?_
    refine lv_isub hx hb dX3_number_20 ?_
    refine lv_iconst (v := 4) hx hb dX3_number_21 (by decide) ?_
    refine lv_icmp_le (tgt := 30) hx hb dX3_number_22 (by decide) (fun c_14 => ?_) (fun c_14 => ?_)
    · have c_14 := (br_le (nx_sub rfl rfl (by omega)) (nx_c 4) (by omega) (by omega)).mp c_14
      have hM := hM.eq (ps_eq (q' := nu1 t len ps) (if_neg (fun z => z.elim (fun w => w c_1) (fun w => absurd w (by omega)))).symm)
      have hm9 := pv_n1 (t := t) hp
      obtain ⟨m1, m2, m3, m4⟩ := id hm9
      refine lv_iconst (v := 0) hx hb dX3_number_30 (by decide) ?_
      refine lv_istore_n (lv' := [(3, .int 0), (0, .ref po), (1, .int A), (2, .int B)]) hx hb dX3_number_31 rfl hl (by decide) rfl (fun ls hl => ?_)
      refine lv_aload_n hx hb dX3_number_32 rfl (lv_at hl 1 rfl) ?_
      refine fg_X3_18 hC hM ((sp_out (by omega)).trans (me_up_s _ _ _)) rfl dX3_number_33 ?_
      refine lv_istore (lv' := [(4, .int (nI (pTs (nu1 t len ps)))), (3, .int 0), (0, .ref po), (1, .int A), (2, .int B)]) hx hb dX3_number_36 hl (by decide) rfl (fun ls hl => ?_)
      have lp_38 : ∀ (r : Nat) (i : Nat) (v : Int32) (H : Heap) (locs : List Loc) (ls : Array Slot), (i + r = pAt (nu1 t len ps)) → (pTs (nu1 t len ps) ≤ i) → (nu2 t len ps = if pEk (nu1 t len ps) = 0 then vaP t r i v else v) → me_at D z0 (sp tb a g (me_up M9 po (.inr (3, ps_fs ta len a (nu1 t len ps))))) n s H locs → lv_has ls 5 [(0, .ref po), (1, .int A), (2, .int B), (3, .int v), (4, .int (nI i))] → W p l e (({ frames := 2, cells := 0, slots := 0, locals := 44 } : Room)) s m args below meth c H locs 0 0 (MQ below (me_Qi D z0 (nuV t len A B ps) (psM tb a po ta len M9 g (nuP t len A B ps)) n) args s 0 0 (me_A z0)) (F0 m 38 ls []) := by
        intro r
        refine Nat.strongRecOn r ?_
        intro r ih_38 i v H locs ls hi hi0 hq hM hl
        refine lv_iload hx hb dX3_number_38 (lv_at hl 4 rfl) ?_
        refine lv_aload_n hx hb dX3_number_40 rfl (lv_at hl 0 rfl) ?_
        refine fg_X3_9 hC hM ((sp_out (by omega)).trans (me_up_s _ _ _)) rfl dX3_number_41 ?_
        refine lv_icmp_ge (tgt := 76) hx hb dX3_number_44 (by decide) (fun c_15 => ?_) (fun c_15 => ?_)
        · have c_15 := (br_le rfl rfl (by omega) (by omega)).mp c_15
          have hv2 : nu2 t len ps = v := by rw [hq, show r = 0 by omega]; exact ite_self _
          refine lv_iload_n hx hb dX3_number_76 rfl (lv_at hl 3 rfl) ?_
          refine lv_iload_n hx hb dX3_number_77 rfl (lv_at hl 1 rfl) ?_
          refine lv_icmp_lt (tgt := 86) hx hb dX3_number_78 (by decide) (fun c_16 => ?_) (fun c_16 => ?_)
          · have c_16q := Int32.not_le.mpr c_16
            refine lv_aload_n hx hb dX3_number_86 rfl (lv_at hl 0 rfl) ?_
            refine lv_iconst (v := 2) hx hb dX3_number_87 (by decide) ?_
            refine me_callVv (As := [.int 2]) (rest := []) hC hl.1 hM (c_X3_fail l D tb X z0 n kK kV a po ta NN len g t M9 (nu1 t len ps) 2 hE hm9) (kv_X3_47 hw rfl rfl ⟨Nat.le_of_ble_eq_true rfl, Nat.le_of_ble_eq_true rfl⟩) rfl rfl ((sp_out (by omega)).trans (me_up_s _ _ _)) rfl (Nat.le_of_ble_eq_true rfl) dX3_number_88 ⟨Nat.le_of_ble_eq_true rfl, Nat.le_of_ble_eq_true rfl⟩ (fun H locs hM => ?_)
            have hM := hM.eq (ps_eq (q' := nuP t len A B ps) (if_pos (Or.inl (by rw [hv2]; exact c_16))).symm)
            have hn9 := pv_nu (t := t) (a := A) (b := B) hp
            obtain ⟨n1, n2, n3, n4⟩ := id hn9
            refine lv_aload_n hx hb dX3_number_91 rfl (lv_at hl 0 rfl) ?_
            refine fg_X3_21 hC hM ((sp_out (by omega)).trans (me_up_s _ _ _)) rfl dX3_number_92 ?_
            refine lv_if_ne (tgt := 102) hx hb dX3_number_95 (by decide) (fun c_17 => ?_) (fun c_17 => ?_)
            · have c_17 := (not_congr (br_eq rfl (show (0 : Int32) = nI 0 from rfl) (by omega) (by omega))).mp c_17
              refine lv_iconst (v := 0) hx hb dX3_number_102 (by decide) ?_
              exact me_iret hC hr hlk hM ((if_neg c_17).symm) (rfl) (rfl) dX3_number_103
            · have c_17 := (br_eq rfl (show (0 : Int32) = nI 0 from rfl) (by omega) (by omega)).mp c_17
              refine lv_iload_n hx hb dX3_number_98 rfl (lv_at hl 3 rfl) ?_
              refine lv_goto (tgt := 103) hx hb dX3_number_99 (by decide) ?_
              exact me_iret hC hr hlk hM (hv2.symm.trans (if_pos c_17).symm) (rfl) (rfl) dX3_number_103
          · have c_16q := Int32.not_lt.mp c_16
            refine lv_iload_n hx hb dX3_number_81 rfl (lv_at hl 3 rfl) ?_
            refine lv_iload_n hx hb dX3_number_82 rfl (lv_at hl 2 rfl) ?_
            refine lv_icmp_le (tgt := 91) hx hb dX3_number_83 (by decide) (fun c_18 => ?_) (fun c_18 => ?_)
            · have c_18q := c_18
              have c_18 := Int32.not_lt.mpr c_18
              have hM := hM.eq (ps_eq (q' := nuP t len A B ps) (if_neg (by rw [hv2]; exact fun z => z.elim c_16 c_18)).symm)
              have hn9 := pv_nu (t := t) (a := A) (b := B) hp
              obtain ⟨n1, n2, n3, n4⟩ := id hn9
              refine lv_aload_n hx hb dX3_number_91 rfl (lv_at hl 0 rfl) ?_
              refine fg_X3_21 hC hM ((sp_out (by omega)).trans (me_up_s _ _ _)) rfl dX3_number_92 ?_
              refine lv_if_ne (tgt := 102) hx hb dX3_number_95 (by decide) (fun c_19 => ?_) (fun c_19 => ?_)
              · have c_19 := (not_congr (br_eq rfl (show (0 : Int32) = nI 0 from rfl) (by omega) (by omega))).mp c_19
                refine lv_iconst (v := 0) hx hb dX3_number_102 (by decide) ?_
                exact me_iret hC hr hlk hM ((if_neg c_19).symm) (rfl) (rfl) dX3_number_103
              · have c_19 := (br_eq rfl (show (0 : Int32) = nI 0 from rfl) (by omega) (by omega)).mp c_19
                refine lv_iload_n hx hb dX3_number_98 rfl (lv_at hl 3 rfl) ?_
                refine lv_goto (tgt := 103) hx hb dX3_number_99 (by decide) ?_
                exact me_iret hC hr hlk hM (hv2.symm.trans (if_pos c_19).symm) (rfl) (rfl) dX3_number_103
            · have c_18q := c_18
              have c_18 := Int32.not_le.mp c_18
              refine lv_aload_n hx hb dX3_number_86 rfl (lv_at hl 0 rfl) ?_
              refine lv_iconst (v := 2) hx hb dX3_number_87 (by decide) ?_
              refine me_callVv (As := [.int 2]) (rest := []) hC hl.1 hM (c_X3_fail l D tb X z0 n kK kV a po ta NN len g t M9 (nu1 t len ps) 2 hE hm9) (kv_X3_47 hw rfl rfl ⟨Nat.le_of_ble_eq_true rfl, Nat.le_of_ble_eq_true rfl⟩) rfl rfl ((sp_out (by omega)).trans (me_up_s _ _ _)) rfl (Nat.le_of_ble_eq_true rfl) dX3_number_88 ⟨Nat.le_of_ble_eq_true rfl, Nat.le_of_ble_eq_true rfl⟩ (fun H locs hM => ?_)
              have hM := hM.eq (ps_eq (q' := nuP t len A B ps) (if_pos (Or.inr (by rw [hv2]; exact c_18))).symm)
              have hn9 := pv_nu (t := t) (a := A) (b := B) hp
              obtain ⟨n1, n2, n3, n4⟩ := id hn9
              refine lv_aload_n hx hb dX3_number_91 rfl (lv_at hl 0 rfl) ?_
              refine fg_X3_21 hC hM ((sp_out (by omega)).trans (me_up_s _ _ _)) rfl dX3_number_92 ?_
              refine lv_if_ne (tgt := 102) hx hb dX3_number_95 (by decide) (fun c_20 => ?_) (fun c_20 => ?_)
              · have c_20 := (not_congr (br_eq rfl (show (0 : Int32) = nI 0 from rfl) (by omega) (by omega))).mp c_20
                refine lv_iconst (v := 0) hx hb dX3_number_102 (by decide) ?_
                exact me_iret hC hr hlk hM ((if_neg c_20).symm) (rfl) (rfl) dX3_number_103
              · have c_20 := (br_eq rfl (show (0 : Int32) = nI 0 from rfl) (by omega) (by omega)).mp c_20
                refine lv_iload_n hx hb dX3_number_98 rfl (lv_at hl 3 rfl) ?_
                refine lv_goto (tgt := 103) hx hb dX3_number_99 (by decide) ?_
                exact me_iret hC hr hlk hM (hv2.symm.trans (if_pos c_20).symm) (rfl) (rfl) dX3_number_103
        · have c_15 := (not_congr (br_le rfl rfl (by omega) (by omega))).mp c_15
          obtain ⟨r1, rfl⟩ : ∃ r1, r = r1 + 1 := ⟨r - 1, by omega⟩
          refine lv_aload_n hx hb dX3_number_47 rfl (lv_at hl 0 rfl) ?_
          refine fg_X3_21 hC hM ((sp_out (by omega)).trans (me_up_s _ _ _)) rfl dX3_number_48 ?_
          refine lv_if_ne (tgt := 76) hx hb dX3_number_51 (by decide) (fun c_21 => ?_) (fun c_21 => ?_)
          · have c_21 := (not_congr (br_eq rfl (show (0 : Int32) = nI 0 from rfl) (by omega) (by omega))).mp c_21
            have hv2 : nu2 t len ps = v := hq.trans (if_neg c_21)
            refine lv_iload_n hx hb dX3_number_76 rfl (lv_at hl 3 rfl) ?_
            refine lv_iload_n hx hb dX3_number_77 rfl (lv_at hl 1 rfl) ?_
            refine lv_icmp_lt (tgt := 86) hx hb dX3_number_78 (by decide) (fun c_22 => ?_) (fun c_22 => ?_)
            · have c_22q := Int32.not_le.mpr c_22
              refine lv_aload_n hx hb dX3_number_86 rfl (lv_at hl 0 rfl) ?_
              refine lv_iconst (v := 2) hx hb dX3_number_87 (by decide) ?_
              refine me_callVv (As := [.int 2]) (rest := []) hC hl.1 hM (c_X3_fail l D tb X z0 n kK kV a po ta NN len g t M9 (nu1 t len ps) 2 hE hm9) (kv_X3_47 hw rfl rfl ⟨Nat.le_of_ble_eq_true rfl, Nat.le_of_ble_eq_true rfl⟩) rfl rfl ((sp_out (by omega)).trans (me_up_s _ _ _)) rfl (Nat.le_of_ble_eq_true rfl) dX3_number_88 ⟨Nat.le_of_ble_eq_true rfl, Nat.le_of_ble_eq_true rfl⟩ (fun H locs hM => ?_)
              have hM := hM.eq (ps_eq (q' := nuP t len A B ps) (if_pos (Or.inl (by rw [hv2]; exact c_22))).symm)
              have hn9 := pv_nu (t := t) (a := A) (b := B) hp
              obtain ⟨n1, n2, n3, n4⟩ := id hn9
              refine lv_aload_n hx hb dX3_number_91 rfl (lv_at hl 0 rfl) ?_
              refine fg_X3_21 hC hM ((sp_out (by omega)).trans (me_up_s _ _ _)) rfl dX3_number_92 ?_
              refine lv_if_ne (tgt := 102) hx hb dX3_number_95 (by decide) (fun c_23 => ?_) (fun c_23 => ?_)
              · have c_23 := (not_congr (br_eq rfl (show (0 : Int32) = nI 0 from rfl) (by omega) (by omega))).mp c_23
                refine lv_iconst (v := 0) hx hb dX3_number_102 (by decide) ?_
                exact me_iret hC hr hlk hM ((if_neg c_23).symm) (rfl) (rfl) dX3_number_103
              · have c_23 := (br_eq rfl (show (0 : Int32) = nI 0 from rfl) (by omega) (by omega)).mp c_23
                refine lv_iload_n hx hb dX3_number_98 rfl (lv_at hl 3 rfl) ?_
                refine lv_goto (tgt := 103) hx hb dX3_number_99 (by decide) ?_
                exact me_iret hC hr hlk hM (hv2.symm.trans (if_pos c_23).symm) (rfl) (rfl) dX3_number_103
            · have c_22q := Int32.not_lt.mp c_22
              refine lv_iload_n hx hb dX3_number_81 rfl (lv_at hl 3 rfl) ?_
              refine lv_iload_n hx hb dX3_number_82 rfl (lv_at hl 2 rfl) ?_
              refine lv_icmp_le (tgt := 91) hx hb dX3_number_83 (by decide) (fun c_24 => ?_) (fun c_24 => ?_)
              · have c_24q := c_24
                have c_24 := Int32.not_lt.mpr c_24
                have hM := hM.eq (ps_eq (q' := nuP t len A B ps) (if_neg (by rw [hv2]; exact fun z => z.elim c_22 c_24)).symm)
                have hn9 := pv_nu (t := t) (a := A) (b := B) hp
                obtain ⟨n1, n2, n3, n4⟩ := id hn9
                refine lv_aload_n hx hb dX3_number_91 rfl (lv_at hl 0 rfl) ?_
                refine fg_X3_21 hC hM ((sp_out (by omega)).trans (me_up_s _ _ _)) rfl dX3_number_92 ?_
                refine lv_if_ne (tgt := 102) hx hb dX3_number_95 (by decide) (fun c_25 => ?_) (fun c_25 => ?_)
                · have c_25 := (not_congr (br_eq rfl (show (0 : Int32) = nI 0 from rfl) (by omega) (by omega))).mp c_25
                  refine lv_iconst (v := 0) hx hb dX3_number_102 (by decide) ?_
                  exact me_iret hC hr hlk hM ((if_neg c_25).symm) (rfl) (rfl) dX3_number_103
                · have c_25 := (br_eq rfl (show (0 : Int32) = nI 0 from rfl) (by omega) (by omega)).mp c_25
                  refine lv_iload_n hx hb dX3_number_98 rfl (lv_at hl 3 rfl) ?_
                  refine lv_goto (tgt := 103) hx hb dX3_number_99 (by decide) ?_
                  exact me_iret hC hr hlk hM (hv2.symm.trans (if_pos c_25).symm) (rfl) (rfl) dX3_number_103
              · have c_24q := c_24
                have c_24 := Int32.not_le.mp c_24
                refine lv_aload_n hx hb dX3_number_86 rfl (lv_at hl 0 rfl) ?_
                refine lv_iconst (v := 2) hx hb dX3_number_87 (by decide) ?_
                refine me_callVv (As := [.int 2]) (rest := []) hC hl.1 hM (c_X3_fail l D tb X z0 n kK kV a po ta NN len g t M9 (nu1 t len ps) 2 hE hm9) (kv_X3_47 hw rfl rfl ⟨Nat.le_of_ble_eq_true rfl, Nat.le_of_ble_eq_true rfl⟩) rfl rfl ((sp_out (by omega)).trans (me_up_s _ _ _)) rfl (Nat.le_of_ble_eq_true rfl) dX3_number_88 ⟨Nat.le_of_ble_eq_true rfl, Nat.le_of_ble_eq_true rfl⟩ (fun H locs hM => ?_)
                have hM := hM.eq (ps_eq (q' := nuP t len A B ps) (if_pos (Or.inr (by rw [hv2]; exact c_24))).symm)
                have hn9 := pv_nu (t := t) (a := A) (b := B) hp
                obtain ⟨n1, n2, n3, n4⟩ := id hn9
                refine lv_aload_n hx hb dX3_number_91 rfl (lv_at hl 0 rfl) ?_
                refine fg_X3_21 hC hM ((sp_out (by omega)).trans (me_up_s _ _ _)) rfl dX3_number_92 ?_
                refine lv_if_ne (tgt := 102) hx hb dX3_number_95 (by decide) (fun c_26 => ?_) (fun c_26 => ?_)
                · have c_26 := (not_congr (br_eq rfl (show (0 : Int32) = nI 0 from rfl) (by omega) (by omega))).mp c_26
                  refine lv_iconst (v := 0) hx hb dX3_number_102 (by decide) ?_
                  exact me_iret hC hr hlk hM ((if_neg c_26).symm) (rfl) (rfl) dX3_number_103
                · have c_26 := (br_eq rfl (show (0 : Int32) = nI 0 from rfl) (by omega) (by omega)).mp c_26
                  refine lv_iload_n hx hb dX3_number_98 rfl (lv_at hl 3 rfl) ?_
                  refine lv_goto (tgt := 103) hx hb dX3_number_99 (by decide) ?_
                  exact me_iret hC hr hlk hM (hv2.symm.trans (if_pos c_26).symm) (rfl) (rfl) dX3_number_103
          · have c_21 := (br_eq rfl (show (0 : Int32) = nI 0 from rfl) (by omega) (by omega)).mp c_21
            refine lv_bipush (v := 10) hx hb dX3_number_54 (by decide) ?_
            refine lv_iload_n hx hb dX3_number_56 rfl (lv_at hl 3 rfl) ?_
            refine lv_imul hx hb dX3_number_57 ?_
            refine lv_aload_n hx hb dX3_number_58 rfl (lv_at hl 0 rfl) ?_
            refine fg_X3_27 hC hM ((sp_out (by omega)).trans (me_up_s _ _ _)) rfl dX3_number_59 ?_
            refine lv_iload hx hb dX3_number_62 (lv_at hl 4 rfl) ?_
            refine me_bald (k := i) hC hM ((sp_out (by omega)).trans ((me_up_n (by omega)).trans e6)) rfl (by omega) (by first | decide | omega) dX3_number_64 ?_
            refine lv_iadd hx hb dX3_number_65 ?_
            refine lv_bipush (v := 48) hx hb dX3_number_66 (by decide) ?_
            refine lv_isub hx hb dX3_number_68 ?_
            refine lv_istore_n (lv' := [(3, .int (((10 * v) + (t i)) - 48)), (0, .ref po), (1, .int A), (2, .int B), (4, .int (nI i))]) hx hb dX3_number_69 rfl hl (by decide) rfl (fun ls hl => ?_)
            refine lv_iinc (v := nI (i + 1)) (lv' := [(4, .int (nI (i + 1))), (3, .int (((10 * v) + (t i)) - 48)), (0, .ref po), (1, .int A), (2, .int B)]) hx hb dX3_number_70 hl (k := 4) rfl (nx_add rfl rfl) (by decide) rfl (fun ls hl => ?_)
            refine lv_goto (tgt := 38) hx hb dX3_number_73 (by decide) ?_
            exact ih_38 r1 (by omega) (i + 1) (10 * v + t i - 48) _ _ _ (by omega) (by omega) (hq.trans ((if_pos c_21).trans (if_pos (c := pEk (nu1 t len ps) = 0) c_21).symm)) hM (lv_sub hl [2, 3, 4, 1, 0] rfl)
      exact lp_38 (pAt (nu1 t len ps) - pTs (nu1 t len ps)) (pTs (nu1 t len ps)) 0 _ _ _ (by omega) (Nat.le_refl _) rfl hM (lv_sub hl [2, 3, 4, 1, 0] rfl)
    · have c_14 := (not_congr (br_le (nx_sub rfl rfl (by omega)) (nx_c 4) (by omega) (by omega))).mp c_14
      refine lv_aload_n hx hb dX3_number_25 rfl (lv_at hl 0 rfl) ?_
      refine lv_iconst (v := 1) hx hb dX3_number_26 (by decide) ?_
      refine me_callVv (As := [.int 1]) (rest := []) hC hl.1 hM (c_X3_fail l D tb X z0 n kK kV a po ta NN len g t M9 (nxP t len ps) 1 hE (pv_nx (t := t) hp)) (kv_X3_47 hw rfl rfl ⟨Nat.le_of_ble_eq_true rfl, Nat.le_of_ble_eq_true rfl⟩) rfl rfl ((sp_out (by omega)).trans (me_up_s _ _ _)) rfl (Nat.le_of_ble_eq_true rfl) dX3_number_27 ⟨Nat.le_of_ble_eq_true rfl, Nat.le_of_ble_eq_true rfl⟩ (fun H locs hM => ?_)
      have hM := hM.eq (ps_eq (q' := nu1 t len ps) (if_pos (Or.inr (by omega))).symm)
      have hm9 := pv_n1 (t := t) hp
      obtain ⟨m1, m2, m3, m4⟩ := id hm9
      refine lv_iconst (v := 0) hx hb dX3_number_30 (by decide) ?_
      refine lv_istore_n (lv' := [(3, .int 0), (0, .ref po), (1, .int A), (2, .int B)]) hx hb dX3_number_31 rfl hl (by decide) rfl (fun ls hl => ?_)
      refine lv_aload_n hx hb dX3_number_32 rfl (lv_at hl 1 rfl) ?_
      refine fg_X3_18 hC hM ((sp_out (by omega)).trans (me_up_s _ _ _)) rfl dX3_number_33 ?_
      refine lv_istore (lv' := [(4, .int (nI (pTs (nu1 t len ps)))), (3, .int 0), (0, .ref po), (1, .int A), (2, .int B)]) hx hb dX3_number_36 hl (by decide) rfl (fun ls hl => ?_)
      have lp_38 : ∀ (r : Nat) (i : Nat) (v : Int32) (H : Heap) (locs : List Loc) (ls : Array Slot), (i + r = pAt (nu1 t len ps)) → (pTs (nu1 t len ps) ≤ i) → (nu2 t len ps = if pEk (nu1 t len ps) = 0 then vaP t r i v else v) → me_at D z0 (sp tb a g (me_up M9 po (.inr (3, ps_fs ta len a (nu1 t len ps))))) n s H locs → lv_has ls 5 [(0, .ref po), (1, .int A), (2, .int B), (3, .int v), (4, .int (nI i))] → W p l e (({ frames := 2, cells := 0, slots := 0, locals := 44 } : Room)) s m args below meth c H locs 0 0 (MQ below (me_Qi D z0 (nuV t len A B ps) (psM tb a po ta len M9 g (nuP t len A B ps)) n) args s 0 0 (me_A z0)) (F0 m 38 ls []) := by
        intro r
        refine Nat.strongRecOn r ?_
        intro r ih_38 i v H locs ls hi hi0 hq hM hl
        refine lv_iload hx hb dX3_number_38 (lv_at hl 4 rfl) ?_
        refine lv_aload_n hx hb dX3_number_40 rfl (lv_at hl 0 rfl) ?_
        refine fg_X3_9 hC hM ((sp_out (by omega)).trans (me_up_s _ _ _)) rfl dX3_number_41 ?_
        refine lv_icmp_ge (tgt := 76) hx hb dX3_number_44 (by decide) (fun c_27 => ?_) (fun c_27 => ?_)
        · have c_27 := (br_le rfl rfl (by omega) (by omega)).mp c_27
          have hv2 : nu2 t len ps = v := by rw [hq, show r = 0 by omega]; exact ite_self _
          refine lv_iload_n hx hb dX3_number_76 rfl (lv_at hl 3 rfl) ?_
          refine lv_iload_n hx hb dX3_number_77 rfl (lv_at hl 1 rfl) ?_
          refine lv_icmp_lt (tgt := 86) hx hb dX3_number_78 (by decide) (fun c_28 => ?_) (fun c_28 => ?_)
          · have c_28q := Int32.not_le.mpr c_28
            refine lv_aload_n hx hb dX3_number_86 rfl (lv_at hl 0 rfl) ?_
            refine lv_iconst (v := 2) hx hb dX3_number_87 (by decide) ?_
            refine me_callVv (As := [.int 2]) (rest := []) hC hl.1 hM (c_X3_fail l D tb X z0 n kK kV a po ta NN len g t M9 (nu1 t len ps) 2 hE hm9) (kv_X3_47 hw rfl rfl ⟨Nat.le_of_ble_eq_true rfl, Nat.le_of_ble_eq_true rfl⟩) rfl rfl ((sp_out (by omega)).trans (me_up_s _ _ _)) rfl (Nat.le_of_ble_eq_true rfl) dX3_number_88 ⟨Nat.le_of_ble_eq_true rfl, Nat.le_of_ble_eq_true rfl⟩ (fun H locs hM => ?_)
            have hM := hM.eq (ps_eq (q' := nuP t len A B ps) (if_pos (Or.inl (by rw [hv2]; exact c_28))).symm)
            have hn9 := pv_nu (t := t) (a := A) (b := B) hp
            obtain ⟨n1, n2, n3, n4⟩ := id hn9
            refine lv_aload_n hx hb dX3_number_91 rfl (lv_at hl 0 rfl) ?_
            refine fg_X3_21 hC hM ((sp_out (by omega)).trans (me_up_s _ _ _)) rfl dX3_number_92 ?_
            refine lv_if_ne (tgt := 102) hx hb dX3_number_95 (by decide) (fun c_29 => ?_) (fun c_29 => ?_)
            · have c_29 := (not_congr (br_eq rfl (show (0 : Int32) = nI 0 from rfl) (by omega) (by omega))).mp c_29
              refine lv_iconst (v := 0) hx hb dX3_number_102 (by decide) ?_
              exact me_iret hC hr hlk hM ((if_neg c_29).symm) (rfl) (rfl) dX3_number_103
            · have c_29 := (br_eq rfl (show (0 : Int32) = nI 0 from rfl) (by omega) (by omega)).mp c_29
              refine lv_iload_n hx hb dX3_number_98 rfl (lv_at hl 3 rfl) ?_
              refine lv_goto (tgt := 103) hx hb dX3_number_99 (by decide) ?_
              exact me_iret hC hr hlk hM (hv2.symm.trans (if_pos c_29).symm) (rfl) (rfl) dX3_number_103
          · have c_28q := Int32.not_lt.mp c_28
            refine lv_iload_n hx hb dX3_number_81 rfl (lv_at hl 3 rfl) ?_
            refine lv_iload_n hx hb dX3_number_82 rfl (lv_at hl 2 rfl) ?_
            refine lv_icmp_le (tgt := 91) hx hb dX3_number_83 (by decide) (fun c_30 => ?_) (fun c_30 => ?_)
            · have c_30q := c_30
              have c_30 := Int32.not_lt.mpr c_30
              have hM := hM.eq (ps_eq (q' := nuP t len A B ps) (if_neg (by rw [hv2]; exact fun z => z.elim c_28 c_30)).symm)
              have hn9 := pv_nu (t := t) (a := A) (b := B) hp
              obtain ⟨n1, n2, n3, n4⟩ := id hn9
              refine lv_aload_n hx hb dX3_number_91 rfl (lv_at hl 0 rfl) ?_
              refine fg_X3_21 hC hM ((sp_out (by omega)).trans (me_up_s _ _ _)) rfl dX3_number_92 ?_
              refine lv_if_ne (tgt := 102) hx hb dX3_number_95 (by decide) (fun c_31 => ?_) (fun c_31 => ?_)
              · have c_31 := (not_congr (br_eq rfl (show (0 : Int32) = nI 0 from rfl) (by omega) (by omega))).mp c_31
                refine lv_iconst (v := 0) hx hb dX3_number_102 (by decide) ?_
                exact me_iret hC hr hlk hM ((if_neg c_31).symm) (rfl) (rfl) dX3_number_103
              · have c_31 := (br_eq rfl (show (0 : Int32) = nI 0 from rfl) (by omega) (by omega)).mp c_31
                refine lv_iload_n hx hb dX3_number_98 rfl (lv_at hl 3 rfl) ?_
                refine lv_goto (tgt := 103) hx hb dX3_number_99 (by decide) ?_
                exact me_iret hC hr hlk hM (hv2.symm.trans (if_pos c_31).symm) (rfl) (rfl) dX3_number_103
            · have c_30q := c_30
              have c_30 := Int32.not_le.mp c_30
              refine lv_aload_n hx hb dX3_number_86 rfl (lv_at hl 0 rfl) ?_
              refine lv_iconst (v := 2) hx hb dX3_number_87 (by decide) ?_
              refine me_callVv (As := [.int 2]) (rest := []) hC hl.1 hM (c_X3_fail l D tb X z0 n kK kV a po ta NN len g t M9 (nu1 t len ps) 2 hE hm9) (kv_X3_47 hw rfl rfl ⟨Nat.le_of_ble_eq_true rfl, Nat.le_of_ble_eq_true rfl⟩) rfl rfl ((sp_out (by omega)).trans (me_up_s _ _ _)) rfl (Nat.le_of_ble_eq_true rfl) dX3_number_88 ⟨Nat.le_of_ble_eq_true rfl, Nat.le_of_ble_eq_true rfl⟩ (fun H locs hM => ?_)
              have hM := hM.eq (ps_eq (q' := nuP t len A B ps) (if_pos (Or.inr (by rw [hv2]; exact c_30))).symm)
              have hn9 := pv_nu (t := t) (a := A) (b := B) hp
              obtain ⟨n1, n2, n3, n4⟩ := id hn9
              refine lv_aload_n hx hb dX3_number_91 rfl (lv_at hl 0 rfl) ?_
              refine fg_X3_21 hC hM ((sp_out (by omega)).trans (me_up_s _ _ _)) rfl dX3_number_92 ?_
              refine lv_if_ne (tgt := 102) hx hb dX3_number_95 (by decide) (fun c_32 => ?_) (fun c_32 => ?_)
              · have c_32 := (not_congr (br_eq rfl (show (0 : Int32) = nI 0 from rfl) (by omega) (by omega))).mp c_32
                refine lv_iconst (v := 0) hx hb dX3_number_102 (by decide) ?_
                exact me_iret hC hr hlk hM ((if_neg c_32).symm) (rfl) (rfl) dX3_number_103
              · have c_32 := (br_eq rfl (show (0 : Int32) = nI 0 from rfl) (by omega) (by omega)).mp c_32
                refine lv_iload_n hx hb dX3_number_98 rfl (lv_at hl 3 rfl) ?_
                refine lv_goto (tgt := 103) hx hb dX3_number_99 (by decide) ?_
                exact me_iret hC hr hlk hM (hv2.symm.trans (if_pos c_32).symm) (rfl) (rfl) dX3_number_103
        · have c_27 := (not_congr (br_le rfl rfl (by omega) (by omega))).mp c_27
          obtain ⟨r1, rfl⟩ : ∃ r1, r = r1 + 1 := ⟨r - 1, by omega⟩
          refine lv_aload_n hx hb dX3_number_47 rfl (lv_at hl 0 rfl) ?_
          refine fg_X3_21 hC hM ((sp_out (by omega)).trans (me_up_s _ _ _)) rfl dX3_number_48 ?_
          refine lv_if_ne (tgt := 76) hx hb dX3_number_51 (by decide) (fun c_33 => ?_) (fun c_33 => ?_)
          · have c_33 := (not_congr (br_eq rfl (show (0 : Int32) = nI 0 from rfl) (by omega) (by omega))).mp c_33
            have hv2 : nu2 t len ps = v := hq.trans (if_neg c_33)
            refine lv_iload_n hx hb dX3_number_76 rfl (lv_at hl 3 rfl) ?_
            refine lv_iload_n hx hb dX3_number_77 rfl (lv_at hl 1 rfl) ?_
            refine lv_icmp_lt (tgt := 86) hx hb dX3_number_78 (by decide) (fun c_34 => ?_) (fun c_34 => ?_)
            · have c_34q := Int32.not_le.mpr c_34
              refine lv_aload_n hx hb dX3_number_86 rfl (lv_at hl 0 rfl) ?_
              refine lv_iconst (v := 2) hx hb dX3_number_87 (by decide) ?_
              refine me_callVv (As := [.int 2]) (rest := []) hC hl.1 hM (c_X3_fail l D tb X z0 n kK kV a po ta NN len g t M9 (nu1 t len ps) 2 hE hm9) (kv_X3_47 hw rfl rfl ⟨Nat.le_of_ble_eq_true rfl, Nat.le_of_ble_eq_true rfl⟩) rfl rfl ((sp_out (by omega)).trans (me_up_s _ _ _)) rfl (Nat.le_of_ble_eq_true rfl) dX3_number_88 ⟨Nat.le_of_ble_eq_true rfl, Nat.le_of_ble_eq_true rfl⟩ (fun H locs hM => ?_)
              have hM := hM.eq (ps_eq (q' := nuP t len A B ps) (if_pos (Or.inl (by rw [hv2]; exact c_34))).symm)
              have hn9 := pv_nu (t := t) (a := A) (b := B) hp
              obtain ⟨n1, n2, n3, n4⟩ := id hn9
              refine lv_aload_n hx hb dX3_number_91 rfl (lv_at hl 0 rfl) ?_
              refine fg_X3_21 hC hM ((sp_out (by omega)).trans (me_up_s _ _ _)) rfl dX3_number_92 ?_
              refine lv_if_ne (tgt := 102) hx hb dX3_number_95 (by decide) (fun c_35 => ?_) (fun c_35 => ?_)
              · have c_35 := (not_congr (br_eq rfl (show (0 : Int32) = nI 0 from rfl) (by omega) (by omega))).mp c_35
                refine lv_iconst (v := 0) hx hb dX3_number_102 (by decide) ?_
                exact me_iret hC hr hlk hM ((if_neg c_35).symm) (rfl) (rfl) dX3_number_103
              · have c_35 := (br_eq rfl (show (0 : Int32) = nI 0 from rfl) (by omega) (by omega)).mp c_35
                refine lv_iload_n hx hb dX3_number_98 rfl (lv_at hl 3 rfl) ?_
                refine lv_goto (tgt := 103) hx hb dX3_number_99 (by decide) ?_
                exact me_iret hC hr hlk hM (hv2.symm.trans (if_pos c_35).symm) (rfl) (rfl) dX3_number_103
            · have c_34q := Int32.not_lt.mp c_34
              refine lv_iload_n hx hb dX3_number_81 rfl (lv_at hl 3 rfl) ?_
              refine lv_iload_n hx hb dX3_number_82 rfl (lv_at hl 2 rfl) ?_
              refine lv_icmp_le (tgt := 91) hx hb dX3_number_83 (by decide) (fun c_36 => ?_) (fun c_36 => ?_)
              · have c_36q := c_36
                have c_36 := Int32.not_lt.mpr c_36
                have hM := hM.eq (ps_eq (q' := nuP t len A B ps) (if_neg (by rw [hv2]; exact fun z => z.elim c_34 c_36)).symm)
                have hn9 := pv_nu (t := t) (a := A) (b := B) hp
                obtain ⟨n1, n2, n3, n4⟩ := id hn9
                refine lv_aload_n hx hb dX3_number_91 rfl (lv_at hl 0 rfl) ?_
                refine fg_X3_21 hC hM ((sp_out (by omega)).trans (me_up_s _ _ _)) rfl dX3_number_92 ?_
                refine lv_if_ne (tgt := 102) hx hb dX3_number_95 (by decide) (fun c_37 => ?_) (fun c_37 => ?_)
                · have c_37 := (not_congr (br_eq rfl (show (0 : Int32) = nI 0 from rfl) (by omega) (by omega))).mp c_37
                  refine lv_iconst (v := 0) hx hb dX3_number_102 (by decide) ?_
                  exact me_iret hC hr hlk hM ((if_neg c_37).symm) (rfl) (rfl) dX3_number_103
                · have c_37 := (br_eq rfl (show (0 : Int32) = nI 0 from rfl) (by omega) (by omega)).mp c_37
                  refine lv_iload_n hx hb dX3_number_98 rfl (lv_at hl 3 rfl) ?_
                  refine lv_goto (tgt := 103) hx hb dX3_number_99 (by decide) ?_
                  exact me_iret hC hr hlk hM (hv2.symm.trans (if_pos c_37).symm) (rfl) (rfl) dX3_number_103
              · have c_36q := c_36
                have c_36 := Int32.not_le.mp c_36
                refine lv_aload_n hx hb dX3_number_86 rfl (lv_at hl 0 rfl) ?_
                refine lv_iconst (v := 2) hx hb dX3_number_87 (by decide) ?_
                refine me_callVv (As := [.int 2]) (rest := []) hC hl.1 hM (c_X3_fail l D tb X z0 n kK kV a po ta NN len g t M9 (nu1 t len ps) 2 hE hm9) (kv_X3_47 hw rfl rfl ⟨Nat.le_of_ble_eq_true rfl, Nat.le_of_ble_eq_true rfl⟩) rfl rfl ((sp_out (by omega)).trans (me_up_s _ _ _)) rfl (Nat.le_of_ble_eq_true rfl) dX3_number_88 ⟨Nat.le_of_ble_eq_true rfl, Nat.le_of_ble_eq_true rfl⟩ (fun H locs hM => ?_)
                have hM := hM.eq (ps_eq (q' := nuP t len A B ps) (if_pos (Or.inr (by rw [hv2]; exact c_36))).symm)
                have hn9 := pv_nu (t := t) (a := A) (b := B) hp
                obtain ⟨n1, n2, n3, n4⟩ := id hn9
                refine lv_aload_n hx hb dX3_number_91 rfl (lv_at hl 0 rfl) ?_
                refine fg_X3_21 hC hM ((sp_out (by omega)).trans (me_up_s _ _ _)) rfl dX3_number_92 ?_
                refine lv_if_ne (tgt := 102) hx hb dX3_number_95 (by decide) (fun c_38 => ?_) (fun c_38 => ?_)
                · have c_38 := (not_congr (br_eq rfl (show (0 : Int32) = nI 0 from rfl) (by omega) (by omega))).mp c_38
                  refine lv_iconst (v := 0) hx hb dX3_number_102 (by decide) ?_
                  exact me_iret hC hr hlk hM ((if_neg c_38).symm) (rfl) (rfl) dX3_number_103
                · have c_38 := (br_eq rfl (show (0 : Int32) = nI 0 from rfl) (by omega) (by omega)).mp c_38
                  refine lv_iload_n hx hb dX3_number_98 rfl (lv_at hl 3 rfl) ?_
                  refine lv_goto (tgt := 103) hx hb dX3_number_99 (by decide) ?_
                  exact me_iret hC hr hlk hM (hv2.symm.trans (if_pos c_38).symm) (rfl) (rfl) dX3_number_103
          · have c_33 := (br_eq rfl (show (0 : Int32) = nI 0 from rfl) (by omega) (by omega)).mp c_33
            refine lv_bipush (v := 10) hx hb dX3_number_54 (by decide) ?_
            refine lv_iload_n hx hb dX3_number_56 rfl (lv_at hl 3 rfl) ?_
            refine lv_imul hx hb dX3_number_57 ?_
            refine lv_aload_n hx hb dX3_number_58 rfl (lv_at hl 0 rfl) ?_
            refine fg_X3_27 hC hM ((sp_out (by omega)).trans (me_up_s _ _ _)) rfl dX3_number_59 ?_
            refine lv_iload hx hb dX3_number_62 (lv_at hl 4 rfl) ?_
            refine me_bald (k := i) hC hM ((sp_out (by omega)).trans ((me_up_n (by omega)).trans e6)) rfl (by omega) (by first | decide | omega) dX3_number_64 ?_
            refine lv_iadd hx hb dX3_number_65 ?_
            refine lv_bipush (v := 48) hx hb dX3_number_66 (by decide) ?_
            refine lv_isub hx hb dX3_number_68 ?_
            refine lv_istore_n (lv' := [(3, .int (((10 * v) + (t i)) - 48)), (0, .ref po), (1, .int A), (2, .int B), (4, .int (nI i))]) hx hb dX3_number_69 rfl hl (by decide) rfl (fun ls hl => ?_)
            refine lv_iinc (v := nI (i + 1)) (lv' := [(4, .int (nI (i + 1))), (3, .int (((10 * v) + (t i)) - 48)), (0, .ref po), (1, .int A), (2, .int B)]) hx hb dX3_number_70 hl (k := 4) rfl (nx_add rfl rfl) (by decide) rfl (fun ls hl => ?_)
            refine lv_goto (tgt := 38) hx hb dX3_number_73 (by decide) ?_
            exact ih_38 r1 (by omega) (i + 1) (10 * v + t i - 48) _ _ _ (by omega) (by omega) (hq.trans ((if_pos c_33).trans (if_pos (c := pEk (nu1 t len ps) = 0) c_33).symm)) hM (lv_sub hl [2, 3, 4, 1, 0] rfl)
      exact lp_38 (pAt (nu1 t len ps) - pTs (nu1 t len ps)) (pTs (nu1 t len ps)) 0 _ _ _ (by omega) (Nat.le_refl _) rfl hM (lv_sub hl [2, 3, 4, 1, 0] rfl)
set_option maxHeartbeats 4000000 in
theorem c_X3_isWord (l : Launch) (D : va_G) (tb : Nat → ClassId) (X : State → Prop) (z0 n : Nat) (kK kV : Nat → Nat) (a po ta NN len : Nat) (g t : Nat → Int32) (M9 : me_M) (ps : PS) (i : Nat)  (hKS : ∀ U, X U → me_ks kK kV z0 U) (hE : psE tb a po ta NN len t M9) (hp : pvP len ps) (hi : i < 12) : Met l yX3_isWord (.code yX3_isWord cX3_isWord 3 (some .boolean) :: ws_all) ({ frames := 4, cells := 0, slots := 0, locals := 85 } : Room) (me_Pc [.ref po, .ref (kK i)] D tb X z0 (sp tb a g (me_up M9 po (.inr (3, ps_fs ta len a ps)))) n) (me_Qi D z0 (b1 (wdB t i ps)) (sp tb a g (me_up M9 po (.inr (3, ps_fs ta len a ps)))) n) 0 0 (me_A z0) := by
  refine me_open (by decide) (Nat.le_of_ble_eq_true rfl) ?_
  intro p e s m args below meth c ls hC hr hlk hnm hM hl
  have hl : lv_has ls 3 [(0, .ref po), (1, .ref (kK i))] := hl
  have hx := hC.1
  have hb := hC.2.1
  have hw := hC.2.2.2.2.1
  obtain ⟨e1, e2, e3, e4, e5, e6⟩ := id hE
  obtain ⟨p1, p2, p3, p4⟩ := id hp
  have hsm := ks_small i hi
  refine lv_aload_n hx hb dX3_isWord_0 rfl (lv_at hl 0 rfl) ?_
  refine fg_X3_15 hC hM ((sp_out (by omega)).trans (me_up_s _ _ _)) rfl dX3_isWord_1 ?_
  refine lv_iconst (v := 1) hx hb dX3_isWord_4 (by decide) ?_
  refine lv_icmp_ne (tgt := 24) hx hb dX3_isWord_5 (by decide) (fun c_1 => ?_) (fun c_1 => ?_)
  · have c_1 := (not_congr (br_eq rfl (show (1 : Int32) = nI 1 from rfl) (by omega) (by omega))).mp c_1
    refine lv_iconst (v := 0) hx hb dX3_isWord_24 (by decide) ?_
    exact me_zret hC hr hlk hM (b1_f (fun z => c_1 z.1)) (by first | decide | simp) (rfl) (rfl) dX3_isWord_25
  · have c_1 := (br_eq rfl (show (1 : Int32) = nI 1 from rfl) (by omega) (by omega)).mp c_1
    refine lv_aload_n hx hb dX3_isWord_8 rfl (lv_at hl 0 rfl) ?_
    refine fg_X3_9 hC hM ((sp_out (by omega)).trans (me_up_s _ _ _)) rfl dX3_isWord_9 ?_
    refine lv_aload_n hx hb dX3_isWord_12 rfl (lv_at hl 0 rfl) ?_
    refine fg_X3_18 hC hM ((sp_out (by omega)).trans (me_up_s _ _ _)) rfl dX3_isWord_13 ?_
    refine lv_isub hx hb dX3_isWord_16 ?_
    refine lv_aload_n hx hb dX3_isWord_17 rfl (lv_at hl 1 rfl) ?_
    refine me_callVri (As := []) (rest := [.int ((nI (pAt ps)) - (nI (pTs ps)))]) hC hl.1 hM (c_J0_length_8abf5 l D tb X z0 n kK kV (sp tb a g (me_up M9 po (.inr (3, ps_fs ta len a ps)))) i hKS hi) (kv_X3_168 hw rfl rfl ⟨Nat.le_of_ble_eq_true rfl, Nat.le_of_ble_eq_true rfl⟩) rfl (vk_recv (hKS s hC.2.2.2.2.2.1.2).1 hi hM.2.2.2.2) rfl (Nat.le_of_ble_eq_true rfl) dX3_isWord_18 ⟨Nat.le_of_ble_eq_true rfl, Nat.le_of_ble_eq_true rfl⟩ (fun H locs hM => ?_)
    refine lv_icmp_eq (tgt := 26) hx hb dX3_isWord_21 (by decide) (fun c_2 => ?_) (fun c_2 => ?_)
    · have c_2 := (br_eq (nx_sub rfl rfl (by omega)) rfl (by omega) (by omega)).mp c_2
      have hw1 := c_1
      have hw2 := c_2
      refine lv_iconst (v := 0) hx hb dX3_isWord_26 (by decide) ?_
      refine lv_istore_n (lv' := [(2, .int 0), (0, .ref po), (1, .ref (kK i))]) hx hb dX3_isWord_27 rfl hl (by decide) rfl (fun ls hl => ?_)
      have lp_28 : ∀ (r : Nat) (j : Nat) (H : Heap) (locs : List Loc) (ls : Array Slot), (j + r = ks_len.getD i 0) → ((eqB t (pTs ps) i (ks_len.getD i 0) 0 = true) = (eqB t (pTs ps) i r j = true)) → me_at D z0 (sp tb a g (me_up M9 po (.inr (3, ps_fs ta len a ps)))) n s H locs → lv_has ls 3 [(0, .ref po), (1, .ref (kK i)), (2, .int (nI j))] → W p l e (({ frames := 4, cells := 0, slots := 0, locals := 85 } : Room)) s m args below meth c H locs 0 0 (MQ below (me_Qi D z0 (b1 (wdB t i ps)) (sp tb a g (me_up M9 po (.inr (3, ps_fs ta len a ps)))) n) args s 0 0 (me_A z0)) (F0 m 28 ls []) := by
        intro r
        refine Nat.strongRecOn r ?_
        intro r ih_28 j H locs ls hj hq hM hl
        refine lv_iload_n hx hb dX3_isWord_28 rfl (lv_at hl 2 rfl) ?_
        refine lv_aload_n hx hb dX3_isWord_29 rfl (lv_at hl 1 rfl) ?_
        refine me_callVri (As := []) (rest := [.int (nI j)]) hC hl.1 hM (c_J0_length_8abf5 l D tb X z0 n kK kV (sp tb a g (me_up M9 po (.inr (3, ps_fs ta len a ps)))) i hKS hi) (kv_X3_168 hw rfl rfl ⟨Nat.le_of_ble_eq_true rfl, Nat.le_of_ble_eq_true rfl⟩) rfl (vk_recv (hKS s hC.2.2.2.2.2.1.2).1 hi hM.2.2.2.2) rfl (Nat.le_of_ble_eq_true rfl) dX3_isWord_30 ⟨Nat.le_of_ble_eq_true rfl, Nat.le_of_ble_eq_true rfl⟩ (fun H locs hM => ?_)
        refine lv_icmp_ge (tgt := 63) hx hb dX3_isWord_33 (by decide) (fun c_3 => ?_) (fun c_3 => ?_)
        · have c_3 := (br_le rfl rfl (by omega) (by omega)).mp c_3
          refine lv_iconst (v := 1) hx hb dX3_isWord_63 (by decide) ?_
          exact me_zret hC hr hlk hM (b1_t ⟨hw1, hw2, hq.mpr (by rw [show r = 0 by omega]; rfl)⟩) (by first | decide | simp) (rfl) (rfl) dX3_isWord_64
        · have c_3 := (not_congr (br_le rfl rfl (by omega) (by omega))).mp c_3
          obtain ⟨r1, rfl⟩ : ∃ r1, r = r1 + 1 := ⟨r - 1, by omega⟩
          refine lv_aload_n hx hb dX3_isWord_36 rfl (lv_at hl 0 rfl) ?_
          refine fg_X3_27 hC hM ((sp_out (by omega)).trans (me_up_s _ _ _)) rfl dX3_isWord_37 ?_
          refine lv_aload_n hx hb dX3_isWord_40 rfl (lv_at hl 0 rfl) ?_
          refine fg_X3_18 hC hM ((sp_out (by omega)).trans (me_up_s _ _ _)) rfl dX3_isWord_41 ?_
          refine lv_iload_n hx hb dX3_isWord_44 rfl (lv_at hl 2 rfl) ?_
          refine lv_iadd hx hb dX3_isWord_45 ?_
          refine me_bald (k := (pTs ps) + j) hC hM ((sp_out (by omega)).trans ((me_up_n (by omega)).trans e6)) (nx_add rfl rfl) (by omega) (by first | decide | omega) dX3_isWord_46 ?_
          refine lv_aload_n hx hb dX3_isWord_47 rfl (lv_at hl 1 rfl) ?_
          refine lv_iload_n hx hb dX3_isWord_48 rfl (lv_at hl 2 rfl) ?_
          refine me_callVri (As := [.int (nI j)]) (rest := [.int (t ((pTs ps) + j))]) hC hl.1 hM (c_J0_charAt_5068e l D tb X z0 n kK kV (sp tb a g (me_up M9 po (.inr (3, ps_fs ta len a ps)))) i j hKS hi (by omega)) (kv_X3_172 hw rfl rfl ⟨Nat.le_of_ble_eq_true rfl, Nat.le_of_ble_eq_true rfl⟩) rfl (vk_recv (hKS s hC.2.2.2.2.2.1.2).1 hi hM.2.2.2.2) rfl (Nat.le_of_ble_eq_true rfl) dX3_isWord_49 ⟨Nat.le_of_ble_eq_true rfl, Nat.le_of_ble_eq_true rfl⟩ (fun H locs hM => ?_)
          refine lv_icmp_eq (tgt := 57) hx hb dX3_isWord_52 (by decide) (fun c_4 => ?_) (fun c_4 => ?_)
          · refine lv_iinc (v := nI (j + 1)) (lv' := [(2, .int (nI (j + 1))), (0, .ref po), (1, .ref (kK i))]) hx hb dX3_isWord_57 hl (k := 2) rfl (nx_add rfl rfl) (by decide) rfl (fun ls hl => ?_)
            refine lv_goto (tgt := 28) hx hb dX3_isWord_60 (by decide) ?_
            exact ih_28 r1 (by omega) (j + 1) _ _ _ (by omega) (by rw [hq, eqB_t c_4]) hM (lv_sub hl [1, 2, 0] rfl)
          · refine lv_iconst (v := 0) hx hb dX3_isWord_55 (by decide) ?_
            exact me_zret hC hr hlk hM (b1_f (fun z => eqB_f c_4 (hq.mp z.2.2))) (by first | decide | simp) (rfl) (rfl) dX3_isWord_56
      exact lp_28 (ks_len.getD i 0) 0 _ _ _ (by omega) rfl hM (lv_sub hl [1, 2, 0] rfl)
    · have c_2 := (not_congr (br_eq (nx_sub rfl rfl (by omega)) rfl (by omega) (by omega))).mp c_2
      refine lv_iconst (v := 0) hx hb dX3_isWord_24 (by decide) ?_
      exact me_zret hC hr hlk hM (b1_f (fun z => c_2 z.2.1)) (by first | decide | simp) (rfl) (rfl) dX3_isWord_25
